theorem dX9_writeMoment_135 : decode cX9_writeMoment 135 = .ok (.bipush 58, 2) := by decide +kernel
theorem dX9_writeMoment_137 : decode cX9_writeMoment 137 = .ok (.invokevirtual 82, 3) := by decide +kernel
theorem dX9_writeMoment_140 : decode cX9_writeMoment 140 = .ok (.aload_n 0, 1) := by decide +kernel
theorem dX9_writeMoment_141 : decode cX9_writeMoment 141 = .ok (.getfield 37, 3) := by decide +kernel
theorem dX9_writeMoment_144 : decode cX9_writeMoment 144 = .ok (.iload_n 2, 1) := by decide +kernel
theorem dX9_writeMoment_145 : decode cX9_writeMoment 145 = .ok (.bipush 60, 2) := by decide +kernel
theorem dX9_writeMoment_147 : decode cX9_writeMoment 147 = .ok (.irem, 1) := by decide +kernel
theorem dX9_writeMoment_148 : decode cX9_writeMoment 148 = .ok (.invokevirtual 389, 3) := by decide +kernel
theorem dX9_writeMoment_151 : decode cX9_writeMoment 151 = .ok (.return_, 1) := by decide +kernel
theorem dX9_phrase_0 : decode cX9_phrase 0 = .ok (.iload_n 1, 1) := by decide +kernel
theorem dX9_phrase_1 : decode cX9_phrase 1 = .ok (.invokestatic 93, 3) := by decide +kernel
theorem dX9_phrase_4 : decode cX9_phrase 4 = .ok (.ifCond .eq 8, 3) := by decide +kernel
theorem dX9_phrase_7 : decode cX9_phrase 7 = .ok (.iload_n 2, 1) := by decide +kernel
theorem dX9_phrase_8 : decode cX9_phrase 8 = .ok (.iconst (-1), 1) := by decide +kernel
theorem dX9_phrase_9 : decode cX9_phrase 9 = .ok (.if_icmp .ge 5, 3) := by decide +kernel
theorem dX9_phrase_12 : decode cX9_phrase 12 = .ok (.iconst (-1), 1) := by decide +kernel
theorem dX9_phrase_13 : decode cX9_phrase 13 = .ok (.ireturn, 1) := by decide +kernel
theorem dX9_phrase_14 : decode cX9_phrase 14 = .ok (.aload_n 0, 1) := by decide +kernel
theorem dX9_phrase_15 : decode cX9_phrase 15 = .ok (.getfield 10, 3) := by decide +kernel
theorem dX9_phrase_18 : decode cX9_phrase 18 = .ok (.iload_n 1, 1) := by decide +kernel
theorem dX9_phrase_19 : decode cX9_phrase 19 = .ok (.invokevirtual 161, 3) := by decide +kernel
theorem dX9_phrase_22 : decode cX9_phrase 22 = .ok (.istore_n 3, 1) := by decide +kernel
theorem dX9_phrase_23 : decode cX9_phrase 23 = .ok (.aload_n 0, 1) := by decide +kernel
theorem dX9_phrase_24 : decode cX9_phrase 24 = .ok (.getfield 10, 3) := by decide +kernel
theorem dX9_phrase_27 : decode cX9_phrase 27 = .ok (.iload_n 1, 1) := by decide +kernel
theorem dX9_phrase_28 : decode cX9_phrase 28 = .ok (.invokevirtual 164, 3) := by decide +kernel
theorem dX9_phrase_31 : decode cX9_phrase 31 = .ok (.istore 4, 2) := by decide +kernel
theorem dX9_phrase_33 : decode cX9_phrase 33 = .ok (.aload_n 0, 1) := by decide +kernel
theorem dX9_phrase_34 : decode cX9_phrase 34 = .ok (.getfield 10, 3) := by decide +kernel
theorem dX9_phrase_37 : decode cX9_phrase 37 = .ok (.iload_n 1, 1) := by decide +kernel
theorem dX9_phrase_38 : decode cX9_phrase 38 = .ok (.invokevirtual 167, 3) := by decide +kernel
theorem dX9_phrase_41 : decode cX9_phrase 41 = .ok (.istore 5, 2) := by decide +kernel
theorem dX9_phrase_43 : decode cX9_phrase 43 = .ok (.iload_n 3, 1) := by decide +kernel
theorem dX9_phrase_44 : decode cX9_phrase 44 = .ok (.bipush 12, 2) := by decide +kernel
theorem dX9_phrase_46 : decode cX9_phrase 46 = .ok (.idiv, 1) := by decide +kernel
theorem dX9_phrase_47 : decode cX9_phrase 47 = .ok (.invokestatic 392, 3) := by decide +kernel
theorem dX9_phrase_50 : decode cX9_phrase 50 = .ok (.ifCond .eq 26, 3) := by decide +kernel
theorem dX9_phrase_53 : decode cX9_phrase 53 = .ok (.iload 4, 2) := by decide +kernel
theorem dX9_phrase_55 : decode cX9_phrase 55 = .ok (.bipush 7, 2) := by decide +kernel
theorem dX9_phrase_57 : decode cX9_phrase 57 = .ok (.idiv, 1) := by decide +kernel
theorem dX9_phrase_58 : decode cX9_phrase 58 = .ok (.invokestatic 392, 3) := by decide +kernel
theorem dX9_phrase_61 : decode cX9_phrase 61 = .ok (.ifCond .eq 15, 3) := by decide +kernel
theorem dX9_phrase_64 : decode cX9_phrase 64 = .ok (.iload 5, 2) := by decide +kernel
theorem dX9_phrase_66 : decode cX9_phrase 66 = .ok (.sipush 3600, 3) := by decide +kernel
theorem dX9_phrase_69 : decode cX9_phrase 69 = .ok (.idiv, 1) := by decide +kernel
theorem dX9_phrase_70 : decode cX9_phrase 70 = .ok (.invokestatic 392, 3) := by decide +kernel
theorem dX9_phrase_73 : decode cX9_phrase 73 = .ok (.ifCond .ne 6, 3) := by decide +kernel
theorem dX9_phrase_76 : decode cX9_phrase 76 = .ok (.bipush (-2), 2) := by decide +kernel
theorem dX9_phrase_78 : decode cX9_phrase 78 = .ok (.ireturn, 1) := by decide +kernel
theorem dX9_phrase_79 : decode cX9_phrase 79 = .ok (.aload_n 0, 1) := by decide +kernel
theorem dX9_phrase_80 : decode cX9_phrase 80 = .ok (.getfield 37, 3) := by decide +kernel
theorem dX9_phrase_83 : decode cX9_phrase 83 = .ok (.iconst 0, 1) := by decide +kernel
theorem dX9_phrase_84 : decode cX9_phrase 84 = .ok (.invokevirtual 86, 3) := by decide +kernel
theorem dX9_phrase_87 : decode cX9_phrase 87 = .ok (.aload_n 0, 1) := by decide +kernel
theorem dX9_phrase_88 : decode cX9_phrase 88 = .ok (.getfield 37, 3) := by decide +kernel
theorem dX9_phrase_91 : decode cX9_phrase 91 = .ok (.iload_n 3, 1) := by decide +kernel
theorem dX9_phrase_92 : decode cX9_phrase 92 = .ok (.bipush 12, 2) := by decide +kernel
theorem dX9_phrase_94 : decode cX9_phrase 94 = .ok (.idiv, 1) := by decide +kernel
theorem dX9_phrase_95 : decode cX9_phrase 95 = .ok (.bipush 121, 2) := by decide +kernel
theorem dX9_phrase_97 : decode cX9_phrase 97 = .ok (.invokevirtual 395, 3) := by decide +kernel
theorem dX9_phrase_100 : decode cX9_phrase 100 = .ok (.aload_n 0, 1) := by decide +kernel
theorem dX9_phrase_101 : decode cX9_phrase 101 = .ok (.getfield 37, 3) := by decide +kernel
theorem dX9_phrase_104 : decode cX9_phrase 104 = .ok (.iload_n 3, 1) := by decide +kernel
theorem dX9_phrase_105 : decode cX9_phrase 105 = .ok (.bipush 12, 2) := by decide +kernel
theorem dX9_phrase_107 : decode cX9_phrase 107 = .ok (.irem, 1) := by decide +kernel
theorem dX9_phrase_108 : decode cX9_phrase 108 = .ok (.bipush 109, 2) := by decide +kernel
theorem dX9_phrase_110 : decode cX9_phrase 110 = .ok (.invokevirtual 395, 3) := by decide +kernel
theorem dX9_phrase_113 : decode cX9_phrase 113 = .ok (.aload_n 0, 1) := by decide +kernel
theorem dX9_phrase_114 : decode cX9_phrase 114 = .ok (.getfield 37, 3) := by decide +kernel
theorem dX9_phrase_117 : decode cX9_phrase 117 = .ok (.iload 4, 2) := by decide +kernel
theorem dX9_phrase_119 : decode cX9_phrase 119 = .ok (.bipush 7, 2) := by decide +kernel
theorem dX9_phrase_121 : decode cX9_phrase 121 = .ok (.idiv, 1) := by decide +kernel
theorem dX9_phrase_122 : decode cX9_phrase 122 = .ok (.bipush 119, 2) := by decide +kernel
theorem dX9_phrase_124 : decode cX9_phrase 124 = .ok (.invokevirtual 395, 3) := by decide +kernel
theorem dX9_phrase_127 : decode cX9_phrase 127 = .ok (.aload_n 0, 1) := by decide +kernel
theorem dX9_phrase_128 : decode cX9_phrase 128 = .ok (.getfield 37, 3) := by decide +kernel
theorem dX9_phrase_131 : decode cX9_phrase 131 = .ok (.iload 4, 2) := by decide +kernel
theorem dX9_phrase_133 : decode cX9_phrase 133 = .ok (.bipush 7, 2) := by decide +kernel
theorem dX9_phrase_135 : decode cX9_phrase 135 = .ok (.irem, 1) := by decide +kernel
theorem dX9_phrase_136 : decode cX9_phrase 136 = .ok (.bipush 100, 2) := by decide +kernel
theorem dX9_phrase_138 : decode cX9_phrase 138 = .ok (.invokevirtual 395, 3) := by decide +kernel
theorem dX9_phrase_141 : decode cX9_phrase 141 = .ok (.aload_n 0, 1) := by decide +kernel
theorem dX9_phrase_142 : decode cX9_phrase 142 = .ok (.getfield 37, 3) := by decide +kernel
theorem dX9_phrase_145 : decode cX9_phrase 145 = .ok (.iload 5, 2) := by decide +kernel
theorem dX9_phrase_147 : decode cX9_phrase 147 = .ok (.sipush 3600, 3) := by decide +kernel
theorem dX9_phrase_150 : decode cX9_phrase 150 = .ok (.idiv, 1) := by decide +kernel
theorem dX9_phrase_151 : decode cX9_phrase 151 = .ok (.bipush 104, 2) := by decide +kernel
theorem dX9_phrase_153 : decode cX9_phrase 153 = .ok (.invokevirtual 395, 3) := by decide +kernel
theorem dX9_phrase_156 : decode cX9_phrase 156 = .ok (.aload_n 0, 1) := by decide +kernel
theorem dX9_phrase_157 : decode cX9_phrase 157 = .ok (.getfield 37, 3) := by decide +kernel
theorem dX9_phrase_160 : decode cX9_phrase 160 = .ok (.iload 5, 2) := by decide +kernel
theorem dX9_phrase_162 : decode cX9_phrase 162 = .ok (.bipush 60, 2) := by decide +kernel
theorem dX9_phrase_164 : decode cX9_phrase 164 = .ok (.idiv, 1) := by decide +kernel
theorem dX9_phrase_165 : decode cX9_phrase 165 = .ok (.bipush 60, 2) := by decide +kernel
theorem dX9_phrase_167 : decode cX9_phrase 167 = .ok (.irem, 1) := by decide +kernel
theorem dX9_phrase_168 : decode cX9_phrase 168 = .ok (.bipush 105, 2) := by decide +kernel
theorem dX9_phrase_170 : decode cX9_phrase 170 = .ok (.invokevirtual 395, 3) := by decide +kernel
theorem dX9_phrase_173 : decode cX9_phrase 173 = .ok (.aload_n 0, 1) := by decide +kernel
theorem dX9_phrase_174 : decode cX9_phrase 174 = .ok (.getfield 37, 3) := by decide +kernel
theorem dX9_phrase_177 : decode cX9_phrase 177 = .ok (.iload 5, 2) := by decide +kernel
theorem dX9_phrase_179 : decode cX9_phrase 179 = .ok (.bipush 60, 2) := by decide +kernel
theorem dX9_phrase_181 : decode cX9_phrase 181 = .ok (.irem, 1) := by decide +kernel
theorem dX9_phrase_182 : decode cX9_phrase 182 = .ok (.bipush 115, 2) := by decide +kernel
theorem dX9_phrase_184 : decode cX9_phrase 184 = .ok (.invokevirtual 395, 3) := by decide +kernel
theorem dX9_phrase_187 : decode cX9_phrase 187 = .ok (.aload_n 0, 1) := by decide +kernel
theorem dX9_phrase_188 : decode cX9_phrase 188 = .ok (.getfield 37, 3) := by decide +kernel
theorem dX9_phrase_191 : decode cX9_phrase 191 = .ok (.invokevirtual 78, 3) := by decide +kernel
theorem dX9_phrase_194 : decode cX9_phrase 194 = .ok (.ifCond .ne 21, 3) := by decide +kernel
theorem dX9_phrase_197 : decode cX9_phrase 197 = .ok (.aload_n 0, 1) := by decide +kernel
theorem dX9_phrase_198 : decode cX9_phrase 198 = .ok (.getfield 37, 3) := by decide +kernel
theorem dX9_phrase_201 : decode cX9_phrase 201 = .ok (.bipush 48, 2) := by decide +kernel
theorem dX9_phrase_203 : decode cX9_phrase 203 = .ok (.invokevirtual 82, 3) := by decide +kernel
theorem dX9_phrase_206 : decode cX9_phrase 206 = .ok (.aload_n 0, 1) := by decide +kernel
theorem dX9_phrase_207 : decode cX9_phrase 207 = .ok (.getfield 37, 3) := by decide +kernel
theorem dX9_phrase_210 : decode cX9_phrase 210 = .ok (.bipush 115, 2) := by decide +kernel
theorem dX9_phrase_212 : decode cX9_phrase 212 = .ok (.invokevirtual 82, 3) := by decide +kernel
theorem dX9_phrase_215 : decode cX9_phrase 215 = .ok (.iload_n 2, 1) := by decide +kernel
theorem dX9_phrase_216 : decode cX9_phrase 216 = .ok (.iconst (-1), 1) := by decide +kernel
theorem dX9_phrase_217 : decode cX9_phrase 217 = .ok (.if_icmp .ne 13, 3) := by decide +kernel
theorem dX9_phrase_220 : decode cX9_phrase 220 = .ok (.aload_n 0, 1) := by decide +kernel
theorem dX9_phrase_221 : decode cX9_phrase 221 = .ok (.getfield 37, 3) := by decide +kernel
theorem dX9_phrase_224 : decode cX9_phrase 224 = .ok (.invokevirtual 78, 3) := by decide +kernel
theorem dX9_phrase_227 : decode cX9_phrase 227 = .ok (.goto 11, 3) := by decide +kernel
theorem dX9_phrase_230 : decode cX9_phrase 230 = .ok (.aload_n 0, 1) := by decide +kernel
theorem dX9_phrase_231 : decode cX9_phrase 231 = .ok (.getfield 37, 3) := by decide +kernel
theorem dX9_phrase_234 : decode cX9_phrase 234 = .ok (.iload_n 2, 1) := by decide +kernel
theorem dX9_phrase_235 : decode cX9_phrase 235 = .ok (.invokevirtual 386, 3) := by decide +kernel
theorem dX9_phrase_238 : decode cX9_phrase 238 = .ok (.ireturn, 1) := by decide +kernel
theorem dX9_isShort_0 : decode cX9_isShort 0 = .ok (.iload_n 0, 1) := by decide +kernel
theorem dX9_isShort_1 : decode cX9_isShort 1 = .ok (.ldc_w 398, 3) := by decide +kernel
theorem dX9_isShort_4 : decode cX9_isShort 4 = .ok (.if_icmp .lt 14, 3) := by decide +kernel
theorem dX9_isShort_7 : decode cX9_isShort 7 = .ok (.iload_n 0, 1) := by decide +kernel
theorem dX9_isShort_8 : decode cX9_isShort 8 = .ok (.ldc_w 399, 3) := by decide +kernel
theorem dX9_isShort_11 : decode cX9_isShort 11 = .ok (.if_icmp .gt 7, 3) := by decide +kernel
theorem dX9_isShort_14 : decode cX9_isShort 14 = .ok (.iconst 1, 1) := by decide +kernel
theorem dX9_isShort_15 : decode cX9_isShort 15 = .ok (.goto 4, 3) := by decide +kernel
theorem dX9_isShort_18 : decode cX9_isShort 18 = .ok (.iconst 0, 1) := by decide +kernel
theorem dX9_isShort_19 : decode cX9_isShort 19 = .ok (.ireturn, 1) := by decide +kernel
theorem dX9_keeps_0 : decode cX9_keeps 0 = .ok (.aload_n 0, 1) := by decide +kernel
theorem dX9_keeps_1 : decode cX9_keeps 1 = .ok (.getfield 16, 3) := by decide +kernel
theorem dX9_keeps_4 : decode cX9_keeps 4 = .ok (.aload_n 0, 1) := by decide +kernel
theorem dX9_keeps_5 : decode cX9_keeps 5 = .ok (.getfield 10, 3) := by decide +kernel
theorem dX9_keeps_8 : decode cX9_keeps 8 = .ok (.invokevirtual 400, 3) := by decide +kernel
theorem dX9_keeps_11 : decode cX9_keeps 11 = .ok (.aload_n 0, 1) := by decide +kernel
theorem dX9_keeps_12 : decode cX9_keeps 12 = .ok (.iconst 1, 1) := by decide +kernel
theorem dX9_keeps_13 : decode cX9_keeps 13 = .ok (.putfield 19, 3) := by decide +kernel
theorem dX9_keeps_16 : decode cX9_keeps 16 = .ok (.iconst 1, 1) := by decide +kernel
theorem dX9_keeps_17 : decode cX9_keeps 17 = .ok (.ireturn, 1) := by decide +kernel
theorem dX9_back_0 : decode cX9_back 0 = .ok (.aload_n 0, 1) := by decide +kernel
theorem dX9_back_1 : decode cX9_back 1 = .ok (.getfield 19, 3) := by decide +kernel
theorem dX9_back_4 : decode cX9_back 4 = .ok (.ifCond .ne 5, 3) := by decide +kernel
theorem dX9_back_7 : decode cX9_back 7 = .ok (.iconst 0, 1) := by decide +kernel
theorem dX9_back_8 : decode cX9_back 8 = .ok (.ireturn, 1) := by decide +kernel
theorem dX9_back_9 : decode cX9_back 9 = .ok (.aload_n 0, 1) := by decide +kernel
theorem dX9_back_10 : decode cX9_back 10 = .ok (.getfield 10, 3) := by decide +kernel
theorem dX9_back_13 : decode cX9_back 13 = .ok (.aload_n 0, 1) := by decide +kernel
theorem dX9_back_14 : decode cX9_back 14 = .ok (.getfield 16, 3) := by decide +kernel
theorem dX9_back_17 : decode cX9_back 17 = .ok (.invokevirtual 400, 3) := by decide +kernel
theorem dX9_back_20 : decode cX9_back 20 = .ok (.iconst 1, 1) := by decide +kernel
theorem dX9_back_21 : decode cX9_back 21 = .ok (.ireturn, 1) := by decide +kernel
theorem dX9_row_0 : decode cX9_row 0 = .ok (.iload_n 1, 1) := by decide +kernel
theorem dX9_row_1 : decode cX9_row 1 = .ok (.ifCond .lt 14, 3) := by decide +kernel
theorem dX9_row_4 : decode cX9_row 4 = .ok (.iload_n 1, 1) := by decide +kernel
theorem dX9_row_5 : decode cX9_row 5 = .ok (.aload_n 0, 1) := by decide +kernel
theorem dX9_row_6 : decode cX9_row 6 = .ok (.getfield 26, 3) := by decide +kernel
theorem dX9_row_9 : decode cX9_row 9 = .ok (.invokevirtual 407, 3) := by decide +kernel
theorem dX9_row_12 : decode cX9_row 12 = .ok (.if_icmp .lt 14, 3) := by decide +kernel
theorem dX9_row_15 : decode cX9_row 15 = .ok (.new 408, 3) := by decide +kernel
theorem dX9_row_18 : decode cX9_row 18 = .ok (.dup, 1) := by decide +kernel
theorem dX9_row_19 : decode cX9_row 19 = .ok (.ldc_w 410, 3) := by decide +kernel
theorem dX9_row_22 : decode cX9_row 22 = .ok (.invokespecial 412, 3) := by decide +kernel
theorem dX9_row_25 : decode cX9_row 25 = .ok (.athrow, 1) := by decide +kernel
theorem dX9_row_26 : decode cX9_row 26 = .ok (.aload_n 0, 1) := by decide +kernel
theorem dX9_row_27 : decode cX9_row 27 = .ok (.getfield 26, 3) := by decide +kernel
theorem dX9_row_30 : decode cX9_row 30 = .ok (.iload_n 1, 1) := by decide +kernel
theorem dX9_row_31 : decode cX9_row 31 = .ok (.invokevirtual 263, 3) := by decide +kernel
theorem dX9_row_34 : decode cX9_row 34 = .ok (.lreturn, 1) := by decide +kernel
theorem dX9_isSlot_0 : decode cX9_isSlot 0 = .ok (.iload_n 0, 1) := by decide +kernel
theorem dX9_isSlot_1 : decode cX9_isSlot 1 = .ok (.ifCond .lt 13, 3) := by decide +kernel
theorem dX9_isSlot_4 : decode cX9_isSlot 4 = .ok (.iload_n 0, 1) := by decide +kernel
theorem dX9_isSlot_5 : decode cX9_isSlot 5 = .ok (.bipush 8, 2) := by decide +kernel
theorem dX9_isSlot_7 : decode cX9_isSlot 7 = .ok (.if_icmp .ge 7, 3) := by decide +kernel
theorem dX9_isSlot_10 : decode cX9_isSlot 10 = .ok (.iconst 1, 1) := by decide +kernel
theorem dX9_isSlot_11 : decode cX9_isSlot 11 = .ok (.goto 4, 3) := by decide +kernel
theorem dX9_isSlot_14 : decode cX9_isSlot 14 = .ok (.iconst 0, 1) := by decide +kernel
theorem dX9_isSlot_15 : decode cX9_isSlot 15 = .ok (.ireturn, 1) := by decide +kernel
theorem dX9_isDay_0 : decode cX9_isDay 0 = .ok (.iload_n 0, 1) := by decide +kernel
theorem dX9_isDay_1 : decode cX9_isDay 1 = .ok (.ifCond .lt 14, 3) := by decide +kernel
theorem dX9_isDay_4 : decode cX9_isDay 4 = .ok (.iload_n 0, 1) := by decide +kernel
theorem dX9_isDay_5 : decode cX9_isDay 5 = .ok (.ldc_w 298, 3) := by decide +kernel
theorem dX9_isDay_8 : decode cX9_isDay 8 = .ok (.if_icmp .gt 7, 3) := by decide +kernel
theorem dX9_isDay_11 : decode cX9_isDay 11 = .ok (.iconst 1, 1) := by decide +kernel
theorem dX9_isDay_12 : decode cX9_isDay 12 = .ok (.goto 4, 3) := by decide +kernel
theorem dX9_isDay_15 : decode cX9_isDay 15 = .ok (.iconst 0, 1) := by decide +kernel
theorem dX9_isDay_16 : decode cX9_isDay 16 = .ok (.ireturn, 1) := by decide +kernel
theorem dX9_isLaw_0 : decode cX9_isLaw 0 = .ok (.iload_n 0, 1) := by decide +kernel
theorem dX9_isLaw_1 : decode cX9_isLaw 1 = .ok (.ifCond .lt 12, 3) := by decide +kernel
theorem dX9_isLaw_4 : decode cX9_isLaw 4 = .ok (.iload_n 0, 1) := by decide +kernel
theorem dX9_isLaw_5 : decode cX9_isLaw 5 = .ok (.iconst 3, 1) := by decide +kernel
theorem dX9_isLaw_6 : decode cX9_isLaw 6 = .ok (.if_icmp .gt 7, 3) := by decide +kernel
theorem dX9_isLaw_9 : decode cX9_isLaw 9 = .ok (.iconst 1, 1) := by decide +kernel
theorem dX9_isLaw_10 : decode cX9_isLaw 10 = .ok (.goto 4, 3) := by decide +kernel
theorem dX9_isLaw_13 : decode cX9_isLaw 13 = .ok (.iconst 0, 1) := by decide +kernel
theorem dX9_isLaw_14 : decode cX9_isLaw 14 = .ok (.ireturn, 1) := by decide +kernel
theorem dX9_isOrder_0 : decode cX9_isOrder 0 = .ok (.iload_n 0, 1) := by decide +kernel
theorem dX9_isOrder_1 : decode cX9_isOrder 1 = .ok (.ifCond .eq 8, 3) := by decide +kernel
theorem dX9_isOrder_4 : decode cX9_isOrder 4 = .ok (.iload_n 0, 1) := by decide +kernel
theorem dX9_isOrder_5 : decode cX9_isOrder 5 = .ok (.iconst 1, 1) := by decide +kernel
theorem dX9_isOrder_6 : decode cX9_isOrder 6 = .ok (.if_icmp .ne 7, 3) := by decide +kernel
theorem dX9_isOrder_9 : decode cX9_isOrder 9 = .ok (.iconst 1, 1) := by decide +kernel
theorem dX9_isOrder_10 : decode cX9_isOrder 10 = .ok (.goto 4, 3) := by decide +kernel
theorem dX9_isOrder_13 : decode cX9_isOrder 13 = .ok (.iconst 0, 1) := by decide +kernel
theorem dX9_isOrder_14 : decode cX9_isOrder 14 = .ok (.ireturn, 1) := by decide +kernel
theorem dX9_isWeekday_0 : decode cX9_isWeekday 0 = .ok (.iload_n 0, 1) := by decide +kernel
theorem dX9_isWeekday_1 : decode cX9_isWeekday 1 = .ok (.ifCond .lt 13, 3) := by decide +kernel
theorem dX9_isWeekday_4 : decode cX9_isWeekday 4 = .ok (.iload_n 0, 1) := by decide +kernel
theorem dX9_isWeekday_5 : decode cX9_isWeekday 5 = .ok (.bipush 6, 2) := by decide +kernel
theorem dX9_isWeekday_7 : decode cX9_isWeekday 7 = .ok (.if_icmp .gt 7, 3) := by decide +kernel
theorem dX9_isWeekday_10 : decode cX9_isWeekday 10 = .ok (.iconst 1, 1) := by decide +kernel
theorem dX9_isWeekday_11 : decode cX9_isWeekday 11 = .ok (.goto 4, 3) := by decide +kernel
theorem dX9_isWeekday_14 : decode cX9_isWeekday 14 = .ok (.iconst 0, 1) := by decide +kernel
theorem dX9_isWeekday_15 : decode cX9_isWeekday 15 = .ok (.ireturn, 1) := by decide +kernel
theorem dX9_areBounded_0 : decode cX9_areBounded 0 = .ok (.lload_n 0, 1) := by decide +kernel
theorem dX9_areBounded_1 : decode cX9_areBounded 1 = .ok (.invokestatic 415, 3) := by decide +kernel
theorem dX9_areBounded_4 : decode cX9_areBounded 4 = .ok (.ifCond .eq 22, 3) := by decide +kernel
theorem dX9_areBounded_7 : decode cX9_areBounded 7 = .ok (.lload_n 2, 1) := by decide +kernel
theorem dX9_areBounded_8 : decode cX9_areBounded 8 = .ok (.invokestatic 415, 3) := by decide +kernel
theorem dX9_areBounded_11 : decode cX9_areBounded 11 = .ok (.ifCond .eq 15, 3) := by decide +kernel
theorem dX9_areBounded_14 : decode cX9_areBounded 14 = .ok (.lload 4, 2) := by decide +kernel
theorem dX9_areBounded_16 : decode cX9_areBounded 16 = .ok (.invokestatic 415, 3) := by decide +kernel
theorem dX9_areBounded_19 : decode cX9_areBounded 19 = .ok (.ifCond .eq 7, 3) := by decide +kernel
theorem dX9_areBounded_22 : decode cX9_areBounded 22 = .ok (.iconst 1, 1) := by decide +kernel
theorem dX9_areBounded_23 : decode cX9_areBounded 23 = .ok (.goto 4, 3) := by decide +kernel
theorem dX9_areBounded_26 : decode cX9_areBounded 26 = .ok (.iconst 0, 1) := by decide +kernel
theorem dX9_areBounded_27 : decode cX9_areBounded 27 = .ok (.ireturn, 1) := by decide +kernel
theorem dX9_isBounded_0 : decode cX9_isBounded 0 = .ok (.lload_n 0, 1) := by decide +kernel
theorem dX9_isBounded_1 : decode cX9_isBounded 1 = .ok (.ldc2_w 419, 3) := by decide +kernel
theorem dX9_isBounded_4 : decode cX9_isBounded 4 = .ok (.lcmp, 1) := by decide +kernel
theorem dX9_isBounded_5 : decode cX9_isBounded 5 = .ok (.ifCond .lt 15, 3) := by decide +kernel
theorem dX9_isBounded_8 : decode cX9_isBounded 8 = .ok (.lload_n 0, 1) := by decide +kernel
theorem dX9_isBounded_9 : decode cX9_isBounded 9 = .ok (.ldc2_w 421, 3) := by decide +kernel
theorem dX9_isBounded_12 : decode cX9_isBounded 12 = .ok (.lcmp, 1) := by decide +kernel
theorem dX9_isBounded_13 : decode cX9_isBounded 13 = .ok (.ifCond .gt 7, 3) := by decide +kernel
theorem dX9_isBounded_16 : decode cX9_isBounded 16 = .ok (.iconst 1, 1) := by decide +kernel
theorem dX9_isBounded_17 : decode cX9_isBounded 17 = .ok (.goto 4, 3) := by decide +kernel
theorem dX9_isBounded_20 : decode cX9_isBounded 20 = .ok (.iconst 0, 1) := by decide +kernel
theorem dX9_isBounded_21 : decode cX9_isBounded 21 = .ok (.ireturn, 1) := by decide +kernel
theorem dX9_instantOf_0 : decode cX9_instantOf 0 = .ok (.iload_n 0, 1) := by decide +kernel
theorem dX9_instantOf_1 : decode cX9_instantOf 1 = .ok (.i2l, 1) := by decide +kernel
theorem dX9_instantOf_2 : decode cX9_instantOf 2 = .ok (.ldc2_w 227, 3) := by decide +kernel
theorem dX9_instantOf_5 : decode cX9_instantOf 5 = .ok (.lmul, 1) := by decide +kernel
theorem dX9_instantOf_6 : decode cX9_instantOf 6 = .ok (.iload_n 1, 1) := by decide +kernel
theorem dX9_instantOf_7 : decode cX9_instantOf 7 = .ok (.i2l, 1) := by decide +kernel
theorem dX9_instantOf_8 : decode cX9_instantOf 8 = .ok (.ladd, 1) := by decide +kernel
theorem dX9_instantOf_9 : decode cX9_instantOf 9 = .ok (.lreturn, 1) := by decide +kernel
theorem dJ9_abs_0f7a4_0 : decode cJ9_abs_0f7a4 0 = .ok (.iload_n 0, 1) := by decide +kernel
theorem dJ9_abs_0f7a4_1 : decode cJ9_abs_0f7a4 1 = .ok (.ifCond .ge 8, 3) := by decide +kernel
theorem dJ9_abs_0f7a4_4 : decode cJ9_abs_0f7a4 4 = .ok (.iload_n 0, 1) := by decide +kernel
theorem dJ9_abs_0f7a4_5 : decode cJ9_abs_0f7a4 5 = .ok (.ineg, 1) := by decide +kernel
theorem dJ9_abs_0f7a4_6 : decode cJ9_abs_0f7a4 6 = .ok (.goto 4, 3) := by decide +kernel
theorem dJ9_abs_0f7a4_9 : decode cJ9_abs_0f7a4 9 = .ok (.iload_n 0, 1) := by decide +kernel
theorem dJ9_abs_0f7a4_10 : decode cJ9_abs_0f7a4 10 = .ok (.ireturn, 1) := by decide +kernel
theorem dJ9_abs_067f4_0 : decode cJ9_abs_067f4 0 = .ok (.lload_n 0, 1) := by decide +kernel
theorem dJ9_abs_067f4_1 : decode cJ9_abs_067f4 1 = .ok (.lconst 0, 1) := by decide +kernel
theorem dJ9_abs_067f4_2 : decode cJ9_abs_067f4 2 = .ok (.lcmp, 1) := by decide +kernel
theorem dJ9_abs_067f4_3 : decode cJ9_abs_067f4 3 = .ok (.ifCond .ge 8, 3) := by decide +kernel
theorem dJ9_abs_067f4_6 : decode cJ9_abs_067f4 6 = .ok (.lload_n 0, 1) := by decide +kernel
theorem dJ9_abs_067f4_7 : decode cJ9_abs_067f4 7 = .ok (.lneg, 1) := by decide +kernel
theorem dJ9_abs_067f4_8 : decode cJ9_abs_067f4 8 = .ok (.goto 4, 3) := by decide +kernel
theorem dJ9_abs_067f4_11 : decode cJ9_abs_067f4 11 = .ok (.lload_n 0, 1) := by decide +kernel
theorem dJ9_abs_067f4_12 : decode cJ9_abs_067f4 12 = .ok (.lreturn, 1) := by decide +kernel
theorem dJ9_max_7cf53_0 : decode cJ9_max_7cf53 0 = .ok (.iload_n 0, 1) := by decide +kernel
theorem dJ9_max_7cf53_1 : decode cJ9_max_7cf53 1 = .ok (.iload_n 1, 1) := by decide +kernel
theorem dJ9_max_7cf53_2 : decode cJ9_max_7cf53 2 = .ok (.if_icmp .lt 7, 3) := by decide +kernel
theorem dJ9_max_7cf53_5 : decode cJ9_max_7cf53 5 = .ok (.iload_n 0, 1) := by decide +kernel
theorem dJ9_max_7cf53_6 : decode cJ9_max_7cf53 6 = .ok (.goto 4, 3) := by decide +kernel
theorem dJ9_max_7cf53_9 : decode cJ9_max_7cf53 9 = .ok (.iload_n 1, 1) := by decide +kernel
theorem dJ9_max_7cf53_10 : decode cJ9_max_7cf53 10 = .ok (.ireturn, 1) := by decide +kernel
theorem dJ9_max_f86c9_0 : decode cJ9_max_f86c9 0 = .ok (.lload_n 0, 1) := by decide +kernel
theorem dJ9_max_f86c9_1 : decode cJ9_max_f86c9 1 = .ok (.lload_n 2, 1) := by decide +kernel
theorem dJ9_max_f86c9_2 : decode cJ9_max_f86c9 2 = .ok (.lcmp, 1) := by decide +kernel
theorem dJ9_max_f86c9_3 : decode cJ9_max_f86c9 3 = .ok (.ifCond .lt 7, 3) := by decide +kernel
theorem dJ9_max_f86c9_6 : decode cJ9_max_f86c9 6 = .ok (.lload_n 0, 1) := by decide +kernel
theorem dJ9_max_f86c9_7 : decode cJ9_max_f86c9 7 = .ok (.goto 4, 3) := by decide +kernel
theorem dJ9_max_f86c9_10 : decode cJ9_max_f86c9 10 = .ok (.lload_n 2, 1) := by decide +kernel
theorem dJ9_max_f86c9_11 : decode cJ9_max_f86c9 11 = .ok (.lreturn, 1) := by decide +kernel
theorem dJ9_min_7cf53_0 : decode cJ9_min_7cf53 0 = .ok (.iload_n 0, 1) := by decide +kernel
theorem dJ9_min_7cf53_1 : decode cJ9_min_7cf53 1 = .ok (.iload_n 1, 1) := by decide +kernel
theorem dJ9_min_7cf53_2 : decode cJ9_min_7cf53 2 = .ok (.if_icmp .gt 7, 3) := by decide +kernel
theorem dJ9_min_7cf53_5 : decode cJ9_min_7cf53 5 = .ok (.iload_n 0, 1) := by decide +kernel
theorem dJ9_min_7cf53_6 : decode cJ9_min_7cf53 6 = .ok (.goto 4, 3) := by decide +kernel
theorem dJ9_min_7cf53_9 : decode cJ9_min_7cf53 9 = .ok (.iload_n 1, 1) := by decide +kernel
theorem dJ9_min_7cf53_10 : decode cJ9_min_7cf53 10 = .ok (.ireturn, 1) := by decide +kernel
theorem dJ9_min_f86c9_0 : decode cJ9_min_f86c9 0 = .ok (.lload_n 0, 1) := by decide +kernel
theorem dJ9_min_f86c9_1 : decode cJ9_min_f86c9 1 = .ok (.lload_n 2, 1) := by decide +kernel
theorem dJ9_min_f86c9_2 : decode cJ9_min_f86c9 2 = .ok (.lcmp, 1) := by decide +kernel
theorem dJ9_min_f86c9_3 : decode cJ9_min_f86c9 3 = .ok (.ifCond .gt 7, 3) := by decide +kernel
theorem dJ9_min_f86c9_6 : decode cJ9_min_f86c9 6 = .ok (.lload_n 0, 1) := by decide +kernel
theorem dJ9_min_f86c9_7 : decode cJ9_min_f86c9 7 = .ok (.goto 4, 3) := by decide +kernel
theorem dJ9_min_f86c9_10 : decode cJ9_min_f86c9 10 = .ok (.lload_n 2, 1) := by decide +kernel
theorem dJ9_min_f86c9_11 : decode cJ9_min_f86c9 11 = .ok (.lreturn, 1) := by decide +kernel
theorem dL_cell_0 : decode cL_cell 0 = .ok (.iload_n 1, 1) := by decide +kernel
theorem dL_cell_1 : decode cL_cell 1 = .ok (.aload_n 0, 1) := by decide +kernel
theorem dL_cell_2 : decode cL_cell 2 = .ok (.arraylength, 1) := by decide +kernel
theorem dL_cell_3 : decode cL_cell 3 = .ok (.if_icmp .ge 9, 3) := by decide +kernel
theorem dL_cell_6 : decode cL_cell 6 = .ok (.aload_n 0, 1) := by decide +kernel
theorem dL_cell_7 : decode cL_cell 7 = .ok (.iload_n 1, 1) := by decide +kernel
theorem dL_cell_8 : decode cL_cell 8 = .ok (.iaload, 1) := by decide +kernel
theorem dL_cell_9 : decode cL_cell 9 = .ok (.goto 4, 3) := by decide +kernel
theorem dL_cell_12 : decode cL_cell 12 = .ok (.iconst 0, 1) := by decide +kernel
theorem dL_cell_13 : decode cL_cell 13 = .ok (.ireturn, 1) := by decide +kernel
theorem dL_say_0 : decode cL_say 0 = .ok (.iconst 0, 1) := by decide +kernel
theorem dL_say_1 : decode cL_say 1 = .ok (.istore_n 3, 1) := by decide +kernel
theorem dL_say_2 : decode cL_say 2 = .ok (.iload_n 3, 1) := by decide +kernel
theorem dL_say_3 : decode cL_say 3 = .ok (.iload_n 2, 1) := by decide +kernel
theorem dL_say_4 : decode cL_say 4 = .ok (.if_icmp .ge 60, 3) := by decide +kernel
theorem dL_say_7 : decode cL_say 7 = .ok (.iconst 0, 1) := by decide +kernel
theorem dL_say_8 : decode cL_say 8 = .ok (.istore 4, 2) := by decide +kernel
theorem dL_say_10 : decode cL_say 10 = .ok (.iconst 0, 1) := by decide +kernel
theorem dL_say_11 : decode cL_say 11 = .ok (.istore 5, 2) := by decide +kernel
theorem dL_say_13 : decode cL_say 13 = .ok (.iload 5, 2) := by decide +kernel
theorem dL_say_15 : decode cL_say 15 = .ok (.iconst 4, 1) := by decide +kernel
theorem dL_say_16 : decode cL_say 16 = .ok (.if_icmp .ge 35, 3) := by decide +kernel
theorem dL_say_19 : decode cL_say 19 = .ok (.iload 4, 2) := by decide +kernel
theorem dL_say_21 : decode cL_say 21 = .ok (.bipush 8, 2) := by decide +kernel
theorem dL_say_23 : decode cL_say 23 = .ok (.ishl, 1) := by decide +kernel
theorem dL_say_24 : decode cL_say 24 = .ok (.iload_n 3, 1) := by decide +kernel
theorem dL_say_25 : decode cL_say 25 = .ok (.iload 5, 2) := by decide +kernel
theorem dL_say_27 : decode cL_say 27 = .ok (.iadd, 1) := by decide +kernel
theorem dL_say_28 : decode cL_say 28 = .ok (.iload_n 2, 1) := by decide +kernel
theorem dL_say_29 : decode cL_say 29 = .ok (.if_icmp .ge 12, 3) := by decide +kernel
theorem dL_say_32 : decode cL_say 32 = .ok (.aload_n 1, 1) := by decide +kernel
theorem dL_say_33 : decode cL_say 33 = .ok (.iload_n 3, 1) := by decide +kernel
theorem dL_say_34 : decode cL_say 34 = .ok (.iload 5, 2) := by decide +kernel
theorem dL_say_36 : decode cL_say 36 = .ok (.iadd, 1) := by decide +kernel
theorem dL_say_37 : decode cL_say 37 = .ok (.baload, 1) := by decide +kernel
theorem dL_say_38 : decode cL_say 38 = .ok (.goto 4, 3) := by decide +kernel
theorem dL_say_41 : decode cL_say 41 = .ok (.iconst 0, 1) := by decide +kernel
theorem dL_say_42 : decode cL_say 42 = .ok (.ior, 1) := by decide +kernel
theorem dL_say_43 : decode cL_say 43 = .ok (.istore 4, 2) := by decide +kernel
theorem dL_say_45 : decode cL_say 45 = .ok (.iinc 5 1, 3) := by decide +kernel
theorem dL_say_48 : decode cL_say 48 = .ok (.goto (-35), 3) := by decide +kernel
theorem dL_say_51 : decode cL_say 51 = .ok (.aload_n 0, 1) := by decide +kernel
theorem dL_say_52 : decode cL_say 52 = .ok (.iload 4, 2) := by decide +kernel
theorem dL_say_54 : decode cL_say 54 = .ok (.invokevirtual 7, 3) := by decide +kernel
theorem dL_say_57 : decode cL_say 57 = .ok (.pop, 1) := by decide +kernel
theorem dL_say_58 : decode cL_say 58 = .ok (.iinc 3 4, 3) := by decide +kernel
theorem dL_say_61 : decode cL_say 61 = .ok (.goto (-59), 3) := by decide +kernel
theorem dL_say_64 : decode cL_say 64 = .ok (.aload_n 0, 1) := by decide +kernel
theorem dL_say_65 : decode cL_say 65 = .ok (.iload_n 2, 1) := by decide +kernel
theorem dL_say_66 : decode cL_say 66 = .ok (.invokevirtual 13, 3) := by decide +kernel
theorem dL_say_69 : decode cL_say 69 = .ok (.pop, 1) := by decide +kernel
theorem dL_say_70 : decode cL_say 70 = .ok (.return_, 1) := by decide +kernel
theorem dL_instant_0 : decode cL_instant 0 = .ok (.ldc2_w 17, 3) := by decide +kernel
theorem dL_instant_3 : decode cL_instant 3 = .ok (.aload_n 0, 1) := by decide +kernel
theorem dL_instant_4 : decode cL_instant 4 = .ok (.iload_n 1, 1) := by decide +kernel
theorem dL_instant_5 : decode cL_instant 5 = .ok (.iconst 0, 1) := by decide +kernel
theorem dL_instant_6 : decode cL_instant 6 = .ok (.invokevirtual 19, 3) := by decide +kernel
theorem dL_instant_9 : decode cL_instant 9 = .ok (.i2l, 1) := by decide +kernel
theorem dL_instant_10 : decode cL_instant 10 = .ok (.lmul, 1) := by decide +kernel
theorem dL_instant_11 : decode cL_instant 11 = .ok (.aload_n 0, 1) := by decide +kernel
theorem dL_instant_12 : decode cL_instant 12 = .ok (.iload_n 1, 1) := by decide +kernel
theorem dL_instant_13 : decode cL_instant 13 = .ok (.iconst 1, 1) := by decide +kernel
theorem dL_instant_14 : decode cL_instant 14 = .ok (.invokevirtual 19, 3) := by decide +kernel
theorem dL_instant_17 : decode cL_instant 17 = .ok (.i2l, 1) := by decide +kernel
theorem dL_instant_18 : decode cL_instant 18 = .ok (.ladd, 1) := by decide +kernel
theorem dL_instant_19 : decode cL_instant 19 = .ok (.lreturn, 1) := by decide +kernel
theorem dL_isWritten_0 : decode cL_isWritten 0 = .ok (.aload_n 0, 1) := by decide +kernel
theorem dL_isWritten_1 : decode cL_isWritten 1 = .ok (.iload_n 1, 1) := by decide +kernel
theorem dL_isWritten_2 : decode cL_isWritten 2 = .ok (.iconst (-1), 1) := by decide +kernel
theorem dL_isWritten_3 : decode cL_isWritten 3 = .ok (.invokevirtual 23, 3) := by decide +kernel
theorem dL_isWritten_6 : decode cL_isWritten 6 = .ok (.istore_n 2, 1) := by decide +kernel
theorem dL_isWritten_7 : decode cL_isWritten 7 = .ok (.aload_n 0, 1) := by decide +kernel
theorem dL_isWritten_8 : decode cL_isWritten 8 = .ok (.iload_n 1, 1) := by decide +kernel
theorem dL_isWritten_9 : decode cL_isWritten 9 = .ok (.iconst 0, 1) := by decide +kernel
theorem dL_isWritten_10 : decode cL_isWritten 10 = .ok (.invokevirtual 19, 3) := by decide +kernel
theorem dL_isWritten_13 : decode cL_isWritten 13 = .ok (.istore_n 3, 1) := by decide +kernel
theorem dL_isWritten_14 : decode cL_isWritten 14 = .ok (.aload_n 0, 1) := by decide +kernel
theorem dL_isWritten_15 : decode cL_isWritten 15 = .ok (.iload_n 1, 1) := by decide +kernel
theorem dL_isWritten_16 : decode cL_isWritten 16 = .ok (.iconst 1, 1) := by decide +kernel
theorem dL_isWritten_17 : decode cL_isWritten 17 = .ok (.invokevirtual 19, 3) := by decide +kernel
theorem dL_isWritten_20 : decode cL_isWritten 20 = .ok (.istore 4, 2) := by decide +kernel
theorem dL_isWritten_22 : decode cL_isWritten 22 = .ok (.iload_n 2, 1) := by decide +kernel
theorem dL_isWritten_23 : decode cL_isWritten 23 = .ok (.newarray .byte, 2) := by decide +kernel
theorem dL_isWritten_25 : decode cL_isWritten 25 = .ok (.astore 5, 2) := by decide +kernel
theorem dL_isWritten_27 : decode cL_isWritten 27 = .ok (.iconst 0, 1) := by decide +kernel
theorem dL_isWritten_28 : decode cL_isWritten 28 = .ok (.istore 6, 2) := by decide +kernel
theorem dL_isWritten_30 : decode cL_isWritten 30 = .ok (.iload 6, 2) := by decide +kernel
theorem dL_isWritten_32 : decode cL_isWritten 32 = .ok (.iload_n 2, 1) := by decide +kernel
theorem dL_isWritten_33 : decode cL_isWritten 33 = .ok (.if_icmp .ge 22, 3) := by decide +kernel
theorem dL_isWritten_36 : decode cL_isWritten 36 = .ok (.aload 5, 2) := by decide +kernel
theorem dL_isWritten_38 : decode cL_isWritten 38 = .ok (.iload 6, 2) := by decide +kernel
theorem dL_isWritten_40 : decode cL_isWritten 40 = .ok (.aload_n 0, 1) := by decide +kernel
theorem dL_isWritten_41 : decode cL_isWritten 41 = .ok (.iload_n 1, 1) := by decide +kernel
theorem dL_isWritten_42 : decode cL_isWritten 42 = .ok (.iload 6, 2) := by decide +kernel
theorem dL_isWritten_44 : decode cL_isWritten 44 = .ok (.invokevirtual 23, 3) := by decide +kernel
theorem dL_isWritten_47 : decode cL_isWritten 47 = .ok (.i2b, 1) := by decide +kernel
theorem dL_isWritten_48 : decode cL_isWritten 48 = .ok (.bastore, 1) := by decide +kernel
theorem dL_isWritten_49 : decode cL_isWritten 49 = .ok (.iinc 6 1, 3) := by decide +kernel
theorem dL_isWritten_52 : decode cL_isWritten 52 = .ok (.goto (-22), 3) := by decide +kernel
theorem dL_isWritten_55 : decode cL_isWritten 55 = .ok (.aload_n 0, 1) := by decide +kernel
theorem dL_isWritten_56 : decode cL_isWritten 56 = .ok (.aload 5, 2) := by decide +kernel
theorem dL_isWritten_58 : decode cL_isWritten 58 = .ok (.iload_n 2, 1) := by decide +kernel
theorem dL_isWritten_59 : decode cL_isWritten 59 = .ok (.invokestatic 26, 3) := by decide +kernel
theorem dL_isWritten_62 : decode cL_isWritten 62 = .ok (.aload_n 0, 1) := by decide +kernel
theorem dL_isWritten_63 : decode cL_isWritten 63 = .ok (.bipush 7, 2) := by decide +kernel
theorem dL_isWritten_65 : decode cL_isWritten 65 = .ok (.invokevirtual 32, 3) := by decide +kernel
theorem dL_isWritten_68 : decode cL_isWritten 68 = .ok (.iload_n 3, 1) := by decide +kernel
theorem dL_isWritten_69 : decode cL_isWritten 69 = .ok (.if_icmp .ne 43, 3) := by decide +kernel
theorem dL_isWritten_72 : decode cL_isWritten 72 = .ok (.aload_n 0, 1) := by decide +kernel
theorem dL_isWritten_73 : decode cL_isWritten 73 = .ok (.bipush 7, 2) := by decide +kernel
theorem dL_isWritten_75 : decode cL_isWritten 75 = .ok (.iconst 1, 1) := by decide +kernel
theorem dL_isWritten_76 : decode cL_isWritten 76 = .ok (.invokevirtual 19, 3) := by decide +kernel
theorem dL_isWritten_79 : decode cL_isWritten 79 = .ok (.iload 4, 2) := by decide +kernel
theorem dL_isWritten_81 : decode cL_isWritten 81 = .ok (.if_icmp .ne 31, 3) := by decide +kernel
theorem dL_isWritten_84 : decode cL_isWritten 84 = .ok (.aload_n 0, 1) := by decide +kernel
theorem dL_isWritten_85 : decode cL_isWritten 85 = .ok (.bipush 7, 2) := by decide +kernel
theorem dL_isWritten_87 : decode cL_isWritten 87 = .ok (.iconst 2, 1) := by decide +kernel
theorem dL_isWritten_88 : decode cL_isWritten 88 = .ok (.invokevirtual 19, 3) := by decide +kernel
theorem dL_isWritten_91 : decode cL_isWritten 91 = .ok (.aload_n 0, 1) := by decide +kernel
theorem dL_isWritten_92 : decode cL_isWritten 92 = .ok (.iload_n 3, 1) := by decide +kernel
theorem dL_isWritten_93 : decode cL_isWritten 93 = .ok (.invokevirtual 35, 3) := by decide +kernel
theorem dL_isWritten_96 : decode cL_isWritten 96 = .ok (.if_icmp .ne 16, 3) := by decide +kernel
theorem dL_isWritten_99 : decode cL_isWritten 99 = .ok (.aload_n 0, 1) := by decide +kernel
theorem dL_isWritten_100 : decode cL_isWritten 100 = .ok (.aload_n 0, 1) := by decide +kernel
theorem dL_isWritten_101 : decode cL_isWritten 101 = .ok (.iload_n 3, 1) := by decide +kernel
theorem dL_isWritten_102 : decode cL_isWritten 102 = .ok (.invokevirtual 35, 3) := by decide +kernel
theorem dL_isWritten_105 : decode cL_isWritten 105 = .ok (.invokevirtual 38, 3) := by decide +kernel
theorem dL_isWritten_108 : decode cL_isWritten 108 = .ok (.iload_n 3, 1) := by decide +kernel
theorem dL_isWritten_109 : decode cL_isWritten 109 = .ok (.if_icmp .eq 5, 3) := by decide +kernel
theorem dL_isWritten_112 : decode cL_isWritten 112 = .ok (.iconst 0, 1) := by decide +kernel
theorem dL_isWritten_113 : decode cL_isWritten 113 = .ok (.ireturn, 1) := by decide +kernel
theorem dL_isWritten_114 : decode cL_isWritten 114 = .ok (.aload_n 0, 1) := by decide +kernel
theorem dL_isWritten_115 : decode cL_isWritten 115 = .ok (.iload_n 3, 1) := by decide +kernel
theorem dL_isWritten_116 : decode cL_isWritten 116 = .ok (.invokevirtual 41, 3) := by decide +kernel
theorem dL_isWritten_119 : decode cL_isWritten 119 = .ok (.istore 6, 2) := by decide +kernel
theorem dL_isWritten_121 : decode cL_isWritten 121 = .ok (.aload_n 0, 1) := by decide +kernel
theorem dL_isWritten_122 : decode cL_isWritten 122 = .ok (.iconst 0, 1) := by decide +kernel
theorem dL_isWritten_123 : decode cL_isWritten 123 = .ok (.invokevirtual 44, 3) := by decide +kernel
theorem dL_isWritten_126 : decode cL_isWritten 126 = .ok (.lstore 7, 2) := by decide +kernel
theorem dL_isWritten_128 : decode cL_isWritten 128 = .ok (.iload 6, 2) := by decide +kernel
theorem dL_isWritten_130 : decode cL_isWritten 130 = .ok (.iconst 1, 1) := by decide +kernel
theorem dL_isWritten_131 : decode cL_isWritten 131 = .ok (.if_icmp .lt 16, 3) := by decide +kernel
theorem dL_isWritten_134 : decode cL_isWritten 134 = .ok (.iload 6, 2) := by decide +kernel
theorem dL_isWritten_136 : decode cL_isWritten 136 = .ok (.bipush 53, 2) := by decide +kernel
theorem dL_isWritten_138 : decode cL_isWritten 138 = .ok (.if_icmp .gt 9, 3) := by decide +kernel
theorem dL_isWritten_141 : decode cL_isWritten 141 = .ok (.iload_n 3, 1) := by decide +kernel
theorem dL_isWritten_142 : decode cL_isWritten 142 = .ok (.bipush 7, 2) := by decide +kernel
theorem dL_isWritten_144 : decode cL_isWritten 144 = .ok (.if_icmp .ge 15, 3) := by decide +kernel
theorem dL_isWritten_147 : decode cL_isWritten 147 = .ok (.iload_n 3, 1) := by decide +kernel
theorem dL_isWritten_148 : decode cL_isWritten 148 = .ok (.bipush 7, 2) := by decide +kernel
theorem dL_isWritten_150 : decode cL_isWritten 150 = .ok (.if_icmp .ge 7, 3) := by decide +kernel
theorem dL_isWritten_153 : decode cL_isWritten 153 = .ok (.iconst 1, 1) := by decide +kernel
theorem dL_isWritten_154 : decode cL_isWritten 154 = .ok (.goto 4, 3) := by decide +kernel
theorem dL_isWritten_157 : decode cL_isWritten 157 = .ok (.iconst 0, 1) := by decide +kernel
theorem dL_isWritten_158 : decode cL_isWritten 158 = .ok (.ireturn, 1) := by decide +kernel
theorem dL_isWritten_159 : decode cL_isWritten 159 = .ok (.aload_n 0, 1) := by decide +kernel
theorem dL_isWritten_160 : decode cL_isWritten 160 = .ok (.iload_n 3, 1) := by decide +kernel
theorem dL_isWritten_161 : decode cL_isWritten 161 = .ok (.bipush 7, 2) := by decide +kernel
theorem dL_isWritten_163 : decode cL_isWritten 163 = .ok (.isub, 1) := by decide +kernel
theorem dL_isWritten_164 : decode cL_isWritten 164 = .ok (.invokevirtual 41, 3) := by decide +kernel
theorem dL_isWritten_167 : decode cL_isWritten 167 = .ok (.istore 9, 2) := by decide +kernel
theorem dL_isWritten_169 : decode cL_isWritten 169 = .ok (.iload 9, 2) := by decide +kernel
theorem dL_isWritten_171 : decode cL_isWritten 171 = .ok (.iload 6, 2) := by decide +kernel
theorem dL_isWritten_173 : decode cL_isWritten 173 = .ok (.iconst 1, 1) := by decide +kernel
theorem dL_isWritten_174 : decode cL_isWritten 174 = .ok (.isub, 1) := by decide +kernel
theorem dL_isWritten_175 : decode cL_isWritten 175 = .ok (.if_icmp .ne 22, 3) := by decide +kernel
theorem dL_isWritten_178 : decode cL_isWritten 178 = .ok (.aload_n 0, 1) := by decide +kernel
theorem dL_isWritten_179 : decode cL_isWritten 179 = .ok (.iconst 0, 1) := by decide +kernel
theorem dL_isWritten_180 : decode cL_isWritten 180 = .ok (.invokevirtual 44, 3) := by decide +kernel
theorem dL_isWritten_183 : decode cL_isWritten 183 = .ok (.lload 7, 2) := by decide +kernel
theorem dL_isWritten_185 : decode cL_isWritten 185 = .ok (.lcmp, 1) := by decide +kernel
theorem dL_isWritten_186 : decode cL_isWritten 186 = .ok (.ifCond .ne 7, 3) := by decide +kernel
theorem dL_isWritten_189 : decode cL_isWritten 189 = .ok (.iconst 1, 1) := by decide +kernel
theorem dL_isWritten_190 : decode cL_isWritten 190 = .ok (.goto 38, 3) := by decide +kernel
theorem dL_isWritten_193 : decode cL_isWritten 193 = .ok (.iconst 0, 1) := by decide +kernel
theorem dL_isWritten_194 : decode cL_isWritten 194 = .ok (.goto 34, 3) := by decide +kernel
theorem dL_isWritten_197 : decode cL_isWritten 197 = .ok (.iload 6, 2) := by decide +kernel
theorem dL_isWritten_199 : decode cL_isWritten 199 = .ok (.iconst 1, 1) := by decide +kernel
theorem dL_isWritten_200 : decode cL_isWritten 200 = .ok (.if_icmp .ne 27, 3) := by decide +kernel
theorem dL_isWritten_203 : decode cL_isWritten 203 = .ok (.iload 9, 2) := by decide +kernel
theorem dL_isWritten_205 : decode cL_isWritten 205 = .ok (.bipush 51, 2) := by decide +kernel
theorem dL_isWritten_207 : decode cL_isWritten 207 = .ok (.if_icmp .le 20, 3) := by decide +kernel
theorem dL_isWritten_210 : decode cL_isWritten 210 = .ok (.aload_n 0, 1) := by decide +kernel
theorem dL_isWritten_211 : decode cL_isWritten 211 = .ok (.iconst 0, 1) := by decide +kernel
theorem dL_isWritten_212 : decode cL_isWritten 212 = .ok (.invokevirtual 44, 3) := by decide +kernel
theorem dL_isWritten_215 : decode cL_isWritten 215 = .ok (.lload 7, 2) := by decide +kernel
theorem dL_isWritten_217 : decode cL_isWritten 217 = .ok (.lconst 1, 1) := by decide +kernel
theorem dL_isWritten_218 : decode cL_isWritten 218 = .ok (.lsub, 1) := by decide +kernel
theorem dL_isWritten_219 : decode cL_isWritten 219 = .ok (.lcmp, 1) := by decide +kernel
theorem dL_isWritten_220 : decode cL_isWritten 220 = .ok (.ifCond .ne 7, 3) := by decide +kernel
theorem dL_isWritten_223 : decode cL_isWritten 223 = .ok (.iconst 1, 1) := by decide +kernel
theorem dL_isWritten_224 : decode cL_isWritten 224 = .ok (.goto 4, 3) := by decide +kernel
theorem dL_isWritten_227 : decode cL_isWritten 227 = .ok (.iconst 0, 1) := by decide +kernel
theorem dL_isWritten_228 : decode cL_isWritten 228 = .ok (.ireturn, 1) := by decide +kernel
theorem dL_isSpoken_0 : decode cL_isSpoken 0 = .ok (.aload_n 0, 1) := by decide +kernel
theorem dL_isSpoken_1 : decode cL_isSpoken 1 = .ok (.iload_n 1, 1) := by decide +kernel
theorem dL_isSpoken_2 : decode cL_isSpoken 2 = .ok (.iconst (-1), 1) := by decide +kernel
theorem dL_isSpoken_3 : decode cL_isSpoken 3 = .ok (.invokevirtual 48, 3) := by decide +kernel
theorem dL_isSpoken_6 : decode cL_isSpoken 6 = .ok (.istore_n 2, 1) := by decide +kernel
theorem dL_isSpoken_7 : decode cL_isSpoken 7 = .ok (.iload_n 2, 1) := by decide +kernel
theorem dL_isSpoken_8 : decode cL_isSpoken 8 = .ok (.bipush (-2), 2) := by decide +kernel
theorem dL_isSpoken_10 : decode cL_isSpoken 10 = .ok (.if_icmp .ne 5, 3) := by decide +kernel
theorem dL_isSpoken_13 : decode cL_isSpoken 13 = .ok (.iconst 1, 1) := by decide +kernel
theorem dL_isSpoken_14 : decode cL_isSpoken 14 = .ok (.ireturn, 1) := by decide +kernel
theorem dL_isSpoken_15 : decode cL_isSpoken 15 = .ok (.iload_n 2, 1) := by decide +kernel
theorem dL_isSpoken_16 : decode cL_isSpoken 16 = .ok (.newarray .byte, 2) := by decide +kernel
theorem dL_isSpoken_18 : decode cL_isSpoken 18 = .ok (.astore_n 3, 1) := by decide +kernel
theorem dL_isSpoken_19 : decode cL_isSpoken 19 = .ok (.iconst 0, 1) := by decide +kernel
theorem dL_isSpoken_20 : decode cL_isSpoken 20 = .ok (.istore 4, 2) := by decide +kernel
theorem dL_isSpoken_22 : decode cL_isSpoken 22 = .ok (.iload 4, 2) := by decide +kernel
theorem dL_isSpoken_24 : decode cL_isSpoken 24 = .ok (.iload_n 2, 1) := by decide +kernel
theorem dL_isSpoken_25 : decode cL_isSpoken 25 = .ok (.if_icmp .ge 21, 3) := by decide +kernel
theorem dL_isSpoken_28 : decode cL_isSpoken 28 = .ok (.aload_n 3, 1) := by decide +kernel
theorem dL_isSpoken_29 : decode cL_isSpoken 29 = .ok (.iload 4, 2) := by decide +kernel
theorem dL_isSpoken_31 : decode cL_isSpoken 31 = .ok (.aload_n 0, 1) := by decide +kernel
theorem dL_isSpoken_32 : decode cL_isSpoken 32 = .ok (.iload_n 1, 1) := by decide +kernel
theorem dL_isSpoken_33 : decode cL_isSpoken 33 = .ok (.iload 4, 2) := by decide +kernel
theorem dL_isSpoken_35 : decode cL_isSpoken 35 = .ok (.invokevirtual 48, 3) := by decide +kernel
theorem dL_isSpoken_38 : decode cL_isSpoken 38 = .ok (.i2b, 1) := by decide +kernel
theorem dL_isSpoken_39 : decode cL_isSpoken 39 = .ok (.bastore, 1) := by decide +kernel
theorem dL_isSpoken_40 : decode cL_isSpoken 40 = .ok (.iinc 4 1, 3) := by decide +kernel
theorem dL_isSpoken_43 : decode cL_isSpoken 43 = .ok (.goto (-21), 3) := by decide +kernel
theorem dL_isSpoken_46 : decode cL_isSpoken 46 = .ok (.aload_n 0, 1) := by decide +kernel
theorem dL_isSpoken_47 : decode cL_isSpoken 47 = .ok (.aload_n 3, 1) := by decide +kernel
theorem dL_isSpoken_48 : decode cL_isSpoken 48 = .ok (.iload_n 2, 1) := by decide +kernel
theorem dL_isSpoken_49 : decode cL_isSpoken 49 = .ok (.invokestatic 26, 3) := by decide +kernel
theorem dL_isSpoken_52 : decode cL_isSpoken 52 = .ok (.aload_n 0, 1) := by decide +kernel
theorem dL_isSpoken_53 : decode cL_isSpoken 53 = .ok (.bipush 7, 2) := by decide +kernel
theorem dL_isSpoken_55 : decode cL_isSpoken 55 = .ok (.invokevirtual 51, 3) := by decide +kernel
theorem dL_isSpoken_58 : decode cL_isSpoken 58 = .ok (.aload_n 0, 1) := by decide +kernel
theorem dL_isSpoken_59 : decode cL_isSpoken 59 = .ok (.iload_n 1, 1) := by decide +kernel
theorem dL_isSpoken_60 : decode cL_isSpoken 60 = .ok (.iconst 0, 1) := by decide +kernel
theorem dL_isSpoken_61 : decode cL_isSpoken 61 = .ok (.invokevirtual 54, 3) := by decide +kernel
theorem dL_isSpoken_64 : decode cL_isSpoken 64 = .ok (.if_icmp .ne 35, 3) := by decide +kernel
theorem dL_isSpoken_67 : decode cL_isSpoken 67 = .ok (.aload_n 0, 1) := by decide +kernel
theorem dL_isSpoken_68 : decode cL_isSpoken 68 = .ok (.iconst 1, 1) := by decide +kernel
theorem dL_isSpoken_69 : decode cL_isSpoken 69 = .ok (.invokevirtual 44, 3) := by decide +kernel
theorem dL_isSpoken_72 : decode cL_isSpoken 72 = .ok (.aload_n 0, 1) := by decide +kernel
theorem dL_isSpoken_73 : decode cL_isSpoken 73 = .ok (.iload_n 1, 1) := by decide +kernel
theorem dL_isSpoken_74 : decode cL_isSpoken 74 = .ok (.iconst 1, 1) := by decide +kernel
theorem dL_isSpoken_75 : decode cL_isSpoken 75 = .ok (.invokevirtual 54, 3) := by decide +kernel
theorem dL_isSpoken_78 : decode cL_isSpoken 78 = .ok (.i2l, 1) := by decide +kernel
theorem dL_isSpoken_79 : decode cL_isSpoken 79 = .ok (.lcmp, 1) := by decide +kernel
theorem dL_isSpoken_80 : decode cL_isSpoken 80 = .ok (.ifCond .ne 19, 3) := by decide +kernel
theorem dL_isSpoken_83 : decode cL_isSpoken 83 = .ok (.aload_n 0, 1) := by decide +kernel
theorem dL_isSpoken_84 : decode cL_isSpoken 84 = .ok (.iconst 2, 1) := by decide +kernel
theorem dL_isSpoken_85 : decode cL_isSpoken 85 = .ok (.invokevirtual 44, 3) := by decide +kernel
theorem dL_isSpoken_88 : decode cL_isSpoken 88 = .ok (.aload_n 0, 1) := by decide +kernel
theorem dL_isSpoken_89 : decode cL_isSpoken 89 = .ok (.iload_n 1, 1) := by decide +kernel
theorem dL_isSpoken_90 : decode cL_isSpoken 90 = .ok (.iconst 2, 1) := by decide +kernel
theorem dL_isSpoken_91 : decode cL_isSpoken 91 = .ok (.invokevirtual 54, 3) := by decide +kernel
theorem dL_isSpoken_94 : decode cL_isSpoken 94 = .ok (.i2l, 1) := by decide +kernel
theorem dL_isSpoken_95 : decode cL_isSpoken 95 = .ok (.lcmp, 1) := by decide +kernel
theorem dL_isSpoken_96 : decode cL_isSpoken 96 = .ok (.ifCond .eq 5, 3) := by decide +kernel
theorem dL_isSpoken_99 : decode cL_isSpoken 99 = .ok (.iconst 0, 1) := by decide +kernel
theorem dL_isSpoken_100 : decode cL_isSpoken 100 = .ok (.ireturn, 1) := by decide +kernel
theorem dL_isSpoken_101 : decode cL_isSpoken 101 = .ok (.aload_n 0, 1) := by decide +kernel
theorem dL_isSpoken_102 : decode cL_isSpoken 102 = .ok (.bipush 7, 2) := by decide +kernel
theorem dL_isSpoken_104 : decode cL_isSpoken 104 = .ok (.bipush 6, 2) := by decide +kernel
theorem dL_isSpoken_106 : decode cL_isSpoken 106 = .ok (.invokevirtual 57, 3) := by decide +kernel
theorem dL_isSpoken_109 : decode cL_isSpoken 109 = .ok (.aload_n 0, 1) := by decide +kernel
theorem dL_isSpoken_110 : decode cL_isSpoken 110 = .ok (.iload_n 1, 1) := by decide +kernel
theorem dL_isSpoken_111 : decode cL_isSpoken 111 = .ok (.iconst 0, 1) := by decide +kernel
theorem dL_isSpoken_112 : decode cL_isSpoken 112 = .ok (.invokevirtual 54, 3) := by decide +kernel
theorem dL_isSpoken_115 : decode cL_isSpoken 115 = .ok (.ineg, 1) := by decide +kernel
theorem dL_isSpoken_116 : decode cL_isSpoken 116 = .ok (.if_icmp .ne 57, 3) := by decide +kernel
theorem dL_isSpoken_119 : decode cL_isSpoken 119 = .ok (.aload_n 0, 1) := by decide +kernel
theorem dL_isSpoken_120 : decode cL_isSpoken 120 = .ok (.bipush 6, 2) := by decide +kernel
theorem dL_isSpoken_122 : decode cL_isSpoken 122 = .ok (.bipush 7, 2) := by decide +kernel
theorem dL_isSpoken_124 : decode cL_isSpoken 124 = .ok (.bipush 6, 2) := by decide +kernel
theorem dL_isSpoken_126 : decode cL_isSpoken 126 = .ok (.invokevirtual 60, 3) := by decide +kernel
theorem dL_isSpoken_129 : decode cL_isSpoken 129 = .ok (.ifCond .ne 44, 3) := by decide +kernel
theorem dL_isSpoken_132 : decode cL_isSpoken 132 = .ok (.aload_n 0, 1) := by decide +kernel
theorem dL_isSpoken_133 : decode cL_isSpoken 133 = .ok (.bipush 6, 2) := by decide +kernel
theorem dL_isSpoken_135 : decode cL_isSpoken 135 = .ok (.iconst 1, 1) := by decide +kernel
theorem dL_isSpoken_136 : decode cL_isSpoken 136 = .ok (.invokevirtual 54, 3) := by decide +kernel
theorem dL_isSpoken_139 : decode cL_isSpoken 139 = .ok (.ifCond .ne 34, 3) := by decide +kernel
theorem dL_isSpoken_142 : decode cL_isSpoken 142 = .ok (.aload_n 0, 1) := by decide +kernel
theorem dL_isSpoken_143 : decode cL_isSpoken 143 = .ok (.bipush 6, 2) := by decide +kernel
theorem dL_isSpoken_145 : decode cL_isSpoken 145 = .ok (.iconst 2, 1) := by decide +kernel
theorem dL_isSpoken_146 : decode cL_isSpoken 146 = .ok (.invokevirtual 54, 3) := by decide +kernel
theorem dL_isSpoken_149 : decode cL_isSpoken 149 = .ok (.ifCond .ne 24, 3) := by decide +kernel
theorem dL_isSpoken_152 : decode cL_isSpoken 152 = .ok (.aload_n 0, 1) := by decide +kernel
theorem dL_isSpoken_153 : decode cL_isSpoken 153 = .ok (.bipush 7, 2) := by decide +kernel
theorem dL_isSpoken_155 : decode cL_isSpoken 155 = .ok (.bipush 6, 2) := by decide +kernel
theorem dL_isSpoken_157 : decode cL_isSpoken 157 = .ok (.invokevirtual 64, 3) := by decide +kernel
theorem dL_isSpoken_160 : decode cL_isSpoken 160 = .ok (.aload_n 0, 1) := by decide +kernel
theorem dL_isSpoken_161 : decode cL_isSpoken 161 = .ok (.iload_n 1, 1) := by decide +kernel
theorem dL_isSpoken_162 : decode cL_isSpoken 162 = .ok (.iconst 0, 1) := by decide +kernel
theorem dL_isSpoken_163 : decode cL_isSpoken 163 = .ok (.invokevirtual 54, 3) := by decide +kernel
theorem dL_isSpoken_166 : decode cL_isSpoken 166 = .ok (.if_icmp .ne 7, 3) := by decide +kernel
theorem dL_isSpoken_169 : decode cL_isSpoken 169 = .ok (.iconst 1, 1) := by decide +kernel
theorem dL_isSpoken_170 : decode cL_isSpoken 170 = .ok (.goto 4, 3) := by decide +kernel
theorem dL_isSpoken_173 : decode cL_isSpoken 173 = .ok (.iconst 0, 1) := by decide +kernel
theorem dL_isSpoken_174 : decode cL_isSpoken 174 = .ok (.ireturn, 1) := by decide +kernel
