theorem dX9_between_125 : decode cX9_between 125 = .ok (.aload_n 0, 1) := by decide +kernel
theorem dX9_between_126 : decode cX9_between 126 = .ok (.getfield 10, 3) := by decide +kernel
theorem dX9_between_129 : decode cX9_between 129 = .ok (.iload_n 1, 1) := by decide +kernel
theorem dX9_between_130 : decode cX9_between 130 = .ok (.invokevirtual 143, 3) := by decide +kernel
theorem dX9_between_133 : decode cX9_between 133 = .ok (.iconst 0, 1) := by decide +kernel
theorem dX9_between_134 : decode cX9_between 134 = .ok (.invokevirtual 190, 3) := by decide +kernel
theorem dX9_between_137 : decode cX9_between 137 = .ok (.pop, 1) := by decide +kernel
theorem dX9_between_138 : decode cX9_between 138 = .ok (.aload_n 0, 1) := by decide +kernel
theorem dX9_between_139 : decode cX9_between 139 = .ok (.getfield 10, 3) := by decide +kernel
theorem dX9_between_142 : decode cX9_between 142 = .ok (.iload_n 2, 1) := by decide +kernel
theorem dX9_between_143 : decode cX9_between 143 = .ok (.invokevirtual 212, 3) := by decide +kernel
theorem dX9_between_146 : decode cX9_between 146 = .ok (.aload_n 0, 1) := by decide +kernel
theorem dX9_between_147 : decode cX9_between 147 = .ok (.getfield 57, 3) := by decide +kernel
theorem dX9_between_150 : decode cX9_between 150 = .ok (.invokevirtual 223, 3) := by decide +kernel
theorem dX9_between_153 : decode cX9_between 153 = .ok (.lsub, 1) := by decide +kernel
theorem dX9_between_154 : decode cX9_between 154 = .ok (.lstore 7, 2) := by decide +kernel
theorem dX9_between_156 : decode cX9_between 156 = .ok (.iload 4, 2) := by decide +kernel
theorem dX9_between_158 : decode cX9_between 158 = .ok (.iconst 4, 1) := by decide +kernel
theorem dX9_between_159 : decode cX9_between 159 = .ok (.iand, 1) := by decide +kernel
theorem dX9_between_160 : decode cX9_between 160 = .ok (.ifCond .eq 12, 3) := by decide +kernel
theorem dX9_between_163 : decode cX9_between 163 = .ok (.lload 7, 2) := by decide +kernel
theorem dX9_between_165 : decode cX9_between 165 = .ok (.ldc2_w 227, 3) := by decide +kernel
theorem dX9_between_168 : decode cX9_between 168 = .ok (.ldiv, 1) := by decide +kernel
theorem dX9_between_169 : decode cX9_between 169 = .ok (.goto 4, 3) := by decide +kernel
theorem dX9_between_172 : decode cX9_between 172 = .ok (.lconst 0, 1) := by decide +kernel
theorem dX9_between_173 : decode cX9_between 173 = .ok (.lstore 9, 2) := by decide +kernel
theorem dX9_between_175 : decode cX9_between 175 = .ok (.lload 7, 2) := by decide +kernel
theorem dX9_between_177 : decode cX9_between 177 = .ok (.lload 9, 2) := by decide +kernel
theorem dX9_between_179 : decode cX9_between 179 = .ok (.ldc2_w 227, 3) := by decide +kernel
theorem dX9_between_182 : decode cX9_between 182 = .ok (.lmul, 1) := by decide +kernel
theorem dX9_between_183 : decode cX9_between 183 = .ok (.lsub, 1) := by decide +kernel
theorem dX9_between_184 : decode cX9_between 184 = .ok (.lstore 11, 2) := by decide +kernel
theorem dX9_between_186 : decode cX9_between 186 = .ok (.aload_n 0, 1) := by decide +kernel
theorem dX9_between_187 : decode cX9_between 187 = .ok (.iload 5, 2) := by decide +kernel
theorem dX9_between_189 : decode cX9_between 189 = .ok (.iload 6, 2) := by decide +kernel
theorem dX9_between_191 : decode cX9_between 191 = .ok (.i2l, 1) := by decide +kernel
theorem dX9_between_192 : decode cX9_between 192 = .ok (.lload 9, 2) := by decide +kernel
theorem dX9_between_194 : decode cX9_between 194 = .ok (.lload 11, 2) := by decide +kernel
theorem dX9_between_196 : decode cX9_between 196 = .ok (.invokevirtual 126, 3) := by decide +kernel
theorem dX9_between_199 : decode cX9_between 199 = .ok (.istore 13, 2) := by decide +kernel
theorem dX9_between_201 : decode cX9_between 201 = .ok (.iload 6, 2) := by decide +kernel
theorem dX9_between_203 : decode cX9_between 203 = .ok (.i2l, 1) := by decide +kernel
theorem dX9_between_204 : decode cX9_between 204 = .ok (.lload 9, 2) := by decide +kernel
theorem dX9_between_206 : decode cX9_between 206 = .ok (.lload 11, 2) := by decide +kernel
theorem dX9_between_208 : decode cX9_between 208 = .ok (.invokestatic 130, 3) := by decide +kernel
theorem dX9_between_211 : decode cX9_between 211 = .ok (.ifCond .eq 27, 3) := by decide +kernel
theorem dX9_between_214 : decode cX9_between 214 = .ok (.aload_n 0, 1) := by decide +kernel
theorem dX9_between_215 : decode cX9_between 215 = .ok (.getfield 26, 3) := by decide +kernel
theorem dX9_between_218 : decode cX9_between 218 = .ok (.aload_n 0, 1) := by decide +kernel
theorem dX9_between_219 : decode cX9_between 219 = .ok (.iload_n 1, 1) := by decide +kernel
theorem dX9_between_220 : decode cX9_between 220 = .ok (.iload_n 2, 1) := by decide +kernel
theorem dX9_between_221 : decode cX9_between 221 = .ok (.iload 5, 2) := by decide +kernel
theorem dX9_between_223 : decode cX9_between 223 = .ok (.iload_n 3, 1) := by decide +kernel
theorem dX9_between_224 : decode cX9_between 224 = .ok (.invokevirtual 229, 3) := by decide +kernel
theorem dX9_between_227 : decode cX9_between 227 = .ok (.ifCond .eq 7, 3) := by decide +kernel
theorem dX9_between_230 : decode cX9_between 230 = .ok (.lconst 1, 1) := by decide +kernel
theorem dX9_between_231 : decode cX9_between 231 = .ok (.goto 4, 3) := by decide +kernel
theorem dX9_between_234 : decode cX9_between 234 = .ok (.lconst 0, 1) := by decide +kernel
theorem dX9_between_235 : decode cX9_between 235 = .ok (.invokevirtual 233, 3) := by decide +kernel
theorem dX9_between_238 : decode cX9_between 238 = .ok (.iload 13, 2) := by decide +kernel
theorem dX9_between_240 : decode cX9_between 240 = .ok (.ireturn, 1) := by decide +kernel
theorem dX9_returns_0 : decode cX9_returns 0 = .ok (.aload_n 0, 1) := by decide +kernel
theorem dX9_returns_1 : decode cX9_returns 1 = .ok (.getfield 57, 3) := by decide +kernel
theorem dX9_returns_4 : decode cX9_returns 4 = .ok (.aload_n 0, 1) := by decide +kernel
theorem dX9_returns_5 : decode cX9_returns 5 = .ok (.getfield 10, 3) := by decide +kernel
theorem dX9_returns_8 : decode cX9_returns 8 = .ok (.iload_n 3, 1) := by decide +kernel
theorem dX9_returns_9 : decode cX9_returns 9 = .ok (.iconst (-1), 1) := by decide +kernel
theorem dX9_returns_10 : decode cX9_returns 10 = .ok (.iload 4, 2) := by decide +kernel
theorem dX9_returns_12 : decode cX9_returns 12 = .ok (.invokevirtual 186, 3) := by decide +kernel
theorem dX9_returns_15 : decode cX9_returns 15 = .ok (.pop, 1) := by decide +kernel
theorem dX9_returns_16 : decode cX9_returns 16 = .ok (.aload_n 0, 1) := by decide +kernel
theorem dX9_returns_17 : decode cX9_returns 17 = .ok (.getfield 57, 3) := by decide +kernel
theorem dX9_returns_20 : decode cX9_returns 20 = .ok (.aload_n 0, 1) := by decide +kernel
theorem dX9_returns_21 : decode cX9_returns 21 = .ok (.getfield 10, 3) := by decide +kernel
theorem dX9_returns_24 : decode cX9_returns 24 = .ok (.iload_n 2, 1) := by decide +kernel
theorem dX9_returns_25 : decode cX9_returns 25 = .ok (.invokevirtual 112, 3) := by decide +kernel
theorem dX9_returns_28 : decode cX9_returns 28 = .ok (.aload_n 0, 1) := by decide +kernel
theorem dX9_returns_29 : decode cX9_returns 29 = .ok (.getfield 10, 3) := by decide +kernel
theorem dX9_returns_32 : decode cX9_returns 32 = .ok (.iload_n 2, 1) := by decide +kernel
theorem dX9_returns_33 : decode cX9_returns 33 = .ok (.invokevirtual 143, 3) := by decide +kernel
theorem dX9_returns_36 : decode cX9_returns 36 = .ok (.iconst 0, 1) := by decide +kernel
theorem dX9_returns_37 : decode cX9_returns 37 = .ok (.invokevirtual 190, 3) := by decide +kernel
theorem dX9_returns_40 : decode cX9_returns 40 = .ok (.ifCond .eq 26, 3) := by decide +kernel
theorem dX9_returns_43 : decode cX9_returns 43 = .ok (.aload_n 0, 1) := by decide +kernel
theorem dX9_returns_44 : decode cX9_returns 44 = .ok (.getfield 57, 3) := by decide +kernel
theorem dX9_returns_47 : decode cX9_returns 47 = .ok (.invokevirtual 223, 3) := by decide +kernel
theorem dX9_returns_50 : decode cX9_returns 50 = .ok (.aload_n 0, 1) := by decide +kernel
theorem dX9_returns_51 : decode cX9_returns 51 = .ok (.getfield 10, 3) := by decide +kernel
theorem dX9_returns_54 : decode cX9_returns 54 = .ok (.iload_n 1, 1) := by decide +kernel
theorem dX9_returns_55 : decode cX9_returns 55 = .ok (.invokevirtual 212, 3) := by decide +kernel
theorem dX9_returns_58 : decode cX9_returns 58 = .ok (.lcmp, 1) := by decide +kernel
theorem dX9_returns_59 : decode cX9_returns 59 = .ok (.ifCond .ne 7, 3) := by decide +kernel
theorem dX9_returns_62 : decode cX9_returns 62 = .ok (.iconst 1, 1) := by decide +kernel
theorem dX9_returns_63 : decode cX9_returns 63 = .ok (.goto 4, 3) := by decide +kernel
theorem dX9_returns_66 : decode cX9_returns 66 = .ok (.iconst 0, 1) := by decide +kernel
theorem dX9_returns_67 : decode cX9_returns 67 = .ok (.ireturn, 1) := by decide +kernel
theorem dX9_mostMonths_0 : decode cX9_mostMonths 0 = .ok (.lload_n 3, 1) := by decide +kernel
theorem dX9_mostMonths_1 : decode cX9_mostMonths 1 = .ok (.iload_n 1, 1) := by decide +kernel
theorem dX9_mostMonths_2 : decode cX9_mostMonths 2 = .ok (.iload_n 2, 1) := by decide +kernel
theorem dX9_mostMonths_3 : decode cX9_mostMonths 3 = .ok (.invokestatic 236, 3) := by decide +kernel
theorem dX9_mostMonths_6 : decode cX9_mostMonths 6 = .ok (.lcmp, 1) := by decide +kernel
theorem dX9_mostMonths_7 : decode cX9_mostMonths 7 = .ok (.ifCond .ge 7, 3) := by decide +kernel
theorem dX9_mostMonths_10 : decode cX9_mostMonths 10 = .ok (.iconst (-1), 1) := by decide +kernel
theorem dX9_mostMonths_11 : decode cX9_mostMonths 11 = .ok (.goto 4, 3) := by decide +kernel
theorem dX9_mostMonths_14 : decode cX9_mostMonths 14 = .ok (.iconst 1, 1) := by decide +kernel
theorem dX9_mostMonths_15 : decode cX9_mostMonths 15 = .ok (.istore 7, 2) := by decide +kernel
theorem dX9_mostMonths_17 : decode cX9_mostMonths 17 = .ok (.lload_n 3, 1) := by decide +kernel
theorem dX9_mostMonths_18 : decode cX9_mostMonths 18 = .ok (.ldc2_w 227, 3) := by decide +kernel
theorem dX9_mostMonths_21 : decode cX9_mostMonths 21 = .ok (.ldiv, 1) := by decide +kernel
theorem dX9_mostMonths_22 : decode cX9_mostMonths 22 = .ok (.l2i, 1) := by decide +kernel
theorem dX9_mostMonths_23 : decode cX9_mostMonths 23 = .ok (.invokestatic 240, 3) := by decide +kernel
theorem dX9_mostMonths_26 : decode cX9_mostMonths 26 = .ok (.istore 8, 2) := by decide +kernel
theorem dX9_mostMonths_28 : decode cX9_mostMonths 28 = .ok (.iload 8, 2) := by decide +kernel
theorem dX9_mostMonths_30 : decode cX9_mostMonths 30 = .ok (.iload_n 1, 1) := by decide +kernel
theorem dX9_mostMonths_31 : decode cX9_mostMonths 31 = .ok (.invokestatic 240, 3) := by decide +kernel
theorem dX9_mostMonths_34 : decode cX9_mostMonths 34 = .ok (.isub, 1) := by decide +kernel
theorem dX9_mostMonths_35 : decode cX9_mostMonths 35 = .ok (.invokestatic 243, 3) := by decide +kernel
theorem dX9_mostMonths_38 : decode cX9_mostMonths 38 = .ok (.istore 9, 2) := by decide +kernel
theorem dX9_mostMonths_40 : decode cX9_mostMonths 40 = .ok (.iload 9, 2) := by decide +kernel
theorem dX9_mostMonths_42 : decode cX9_mostMonths 42 = .ok (.iconst 1, 1) := by decide +kernel
theorem dX9_mostMonths_43 : decode cX9_mostMonths 43 = .ok (.iadd, 1) := by decide +kernel
theorem dX9_mostMonths_44 : decode cX9_mostMonths 44 = .ok (.istore 10, 2) := by decide +kernel
theorem dX9_mostMonths_46 : decode cX9_mostMonths 46 = .ok (.iload 10, 2) := by decide +kernel
theorem dX9_mostMonths_48 : decode cX9_mostMonths 48 = .ok (.ifCond .le 78, 3) := by decide +kernel
theorem dX9_mostMonths_51 : decode cX9_mostMonths 51 = .ok (.iload 6, 2) := by decide +kernel
theorem dX9_mostMonths_53 : decode cX9_mostMonths 53 = .ok (.ifCond .eq 14, 3) := by decide +kernel
theorem dX9_mostMonths_56 : decode cX9_mostMonths 56 = .ok (.iload 10, 2) := by decide +kernel
theorem dX9_mostMonths_58 : decode cX9_mostMonths 58 = .ok (.bipush 12, 2) := by decide +kernel
theorem dX9_mostMonths_60 : decode cX9_mostMonths 60 = .ok (.irem, 1) := by decide +kernel
theorem dX9_mostMonths_61 : decode cX9_mostMonths 61 = .ok (.ifCond .eq 6, 3) := by decide +kernel
theorem dX9_mostMonths_64 : decode cX9_mostMonths 64 = .ok (.goto 56, 3) := by decide +kernel
theorem dX9_mostMonths_67 : decode cX9_mostMonths 67 = .ok (.aload_n 0, 1) := by decide +kernel
theorem dX9_mostMonths_68 : decode cX9_mostMonths 68 = .ok (.getfield 57, 3) := by decide +kernel
theorem dX9_mostMonths_71 : decode cX9_mostMonths 71 = .ok (.iload 7, 2) := by decide +kernel
theorem dX9_mostMonths_73 : decode cX9_mostMonths 73 = .ok (.iload 10, 2) := by decide +kernel
theorem dX9_mostMonths_75 : decode cX9_mostMonths 75 = .ok (.imul, 1) := by decide +kernel
theorem dX9_mostMonths_76 : decode cX9_mostMonths 76 = .ok (.iconst 0, 1) := by decide +kernel
theorem dX9_mostMonths_77 : decode cX9_mostMonths 77 = .ok (.iconst 0, 1) := by decide +kernel
theorem dX9_mostMonths_78 : decode cX9_mostMonths 78 = .ok (.iload 5, 2) := by decide +kernel
theorem dX9_mostMonths_80 : decode cX9_mostMonths 80 = .ok (.invokevirtual 220, 3) := by decide +kernel
theorem dX9_mostMonths_83 : decode cX9_mostMonths 83 = .ok (.aload_n 0, 1) := by decide +kernel
theorem dX9_mostMonths_84 : decode cX9_mostMonths 84 = .ok (.getfield 57, 3) := by decide +kernel
theorem dX9_mostMonths_87 : decode cX9_mostMonths 87 = .ok (.iload_n 1, 1) := by decide +kernel
theorem dX9_mostMonths_88 : decode cX9_mostMonths 88 = .ok (.iload_n 2, 1) := by decide +kernel
theorem dX9_mostMonths_89 : decode cX9_mostMonths 89 = .ok (.iconst 0, 1) := by decide +kernel
theorem dX9_mostMonths_90 : decode cX9_mostMonths 90 = .ok (.invokevirtual 190, 3) := by decide +kernel
theorem dX9_mostMonths_93 : decode cX9_mostMonths 93 = .ok (.ifCond .eq 27, 3) := by decide +kernel
theorem dX9_mostMonths_96 : decode cX9_mostMonths 96 = .ok (.iload 7, 2) := by decide +kernel
theorem dX9_mostMonths_98 : decode cX9_mostMonths 98 = .ok (.i2l, 1) := by decide +kernel
theorem dX9_mostMonths_99 : decode cX9_mostMonths 99 = .ok (.lload_n 3, 1) := by decide +kernel
theorem dX9_mostMonths_100 : decode cX9_mostMonths 100 = .ok (.aload_n 0, 1) := by decide +kernel
theorem dX9_mostMonths_101 : decode cX9_mostMonths 101 = .ok (.getfield 57, 3) := by decide +kernel
theorem dX9_mostMonths_104 : decode cX9_mostMonths 104 = .ok (.invokevirtual 223, 3) := by decide +kernel
theorem dX9_mostMonths_107 : decode cX9_mostMonths 107 = .ok (.lsub, 1) := by decide +kernel
theorem dX9_mostMonths_108 : decode cX9_mostMonths 108 = .ok (.lmul, 1) := by decide +kernel
theorem dX9_mostMonths_109 : decode cX9_mostMonths 109 = .ok (.lconst 0, 1) := by decide +kernel
theorem dX9_mostMonths_110 : decode cX9_mostMonths 110 = .ok (.lcmp, 1) := by decide +kernel
theorem dX9_mostMonths_111 : decode cX9_mostMonths 111 = .ok (.ifCond .lt 9, 3) := by decide +kernel
theorem dX9_mostMonths_114 : decode cX9_mostMonths 114 = .ok (.iload 7, 2) := by decide +kernel
theorem dX9_mostMonths_116 : decode cX9_mostMonths 116 = .ok (.iload 10, 2) := by decide +kernel
theorem dX9_mostMonths_118 : decode cX9_mostMonths 118 = .ok (.imul, 1) := by decide +kernel
theorem dX9_mostMonths_119 : decode cX9_mostMonths 119 = .ok (.ireturn, 1) := by decide +kernel
theorem dX9_mostMonths_120 : decode cX9_mostMonths 120 = .ok (.iinc 10 (-1), 3) := by decide +kernel
theorem dX9_mostMonths_123 : decode cX9_mostMonths 123 = .ok (.goto (-77), 3) := by decide +kernel
theorem dX9_mostMonths_126 : decode cX9_mostMonths 126 = .ok (.iconst 0, 1) := by decide +kernel
theorem dX9_mostMonths_127 : decode cX9_mostMonths 127 = .ok (.ireturn, 1) := by decide +kernel
theorem dX9_least_0 : decode cX9_least 0 = .ok (.iload_n 1, 1) := by decide +kernel
theorem dX9_least_1 : decode cX9_least 1 = .ok (.invokestatic 93, 3) := by decide +kernel
theorem dX9_least_4 : decode cX9_least 4 = .ok (.ifCond .eq 17, 3) := by decide +kernel
theorem dX9_least_7 : decode cX9_least 7 = .ok (.iload_n 2, 1) := by decide +kernel
theorem dX9_least_8 : decode cX9_least 8 = .ok (.invokestatic 93, 3) := by decide +kernel
theorem dX9_least_11 : decode cX9_least 11 = .ok (.ifCond .eq 10, 3) := by decide +kernel
theorem dX9_least_14 : decode cX9_least 14 = .ok (.iload_n 3, 1) := by decide +kernel
theorem dX9_least_15 : decode cX9_least 15 = .ok (.invokestatic 180, 3) := by decide +kernel
theorem dX9_least_18 : decode cX9_least 18 = .ok (.ifCond .ne 5, 3) := by decide +kernel
theorem dX9_least_21 : decode cX9_least 21 = .ok (.iconst (-1), 1) := by decide +kernel
theorem dX9_least_22 : decode cX9_least 22 = .ok (.ireturn, 1) := by decide +kernel
theorem dX9_least_23 : decode cX9_least 23 = .ok (.aload_n 0, 1) := by decide +kernel
theorem dX9_least_24 : decode cX9_least 24 = .ok (.getfield 10, 3) := by decide +kernel
theorem dX9_least_27 : decode cX9_least 27 = .ok (.iload_n 1, 1) := by decide +kernel
theorem dX9_least_28 : decode cX9_least 28 = .ok (.invokevirtual 112, 3) := by decide +kernel
theorem dX9_least_31 : decode cX9_least 31 = .ok (.istore 4, 2) := by decide +kernel
theorem dX9_least_33 : decode cX9_least 33 = .ok (.aload_n 0, 1) := by decide +kernel
theorem dX9_least_34 : decode cX9_least 34 = .ok (.getfield 10, 3) := by decide +kernel
theorem dX9_least_37 : decode cX9_least 37 = .ok (.iload_n 2, 1) := by decide +kernel
theorem dX9_least_38 : decode cX9_least 38 = .ok (.invokevirtual 112, 3) := by decide +kernel
theorem dX9_least_41 : decode cX9_least 41 = .ok (.istore 5, 2) := by decide +kernel
theorem dX9_least_43 : decode cX9_least 43 = .ok (.iload 5, 2) := by decide +kernel
theorem dX9_least_45 : decode cX9_least 45 = .ok (.iload 4, 2) := by decide +kernel
theorem dX9_least_47 : decode cX9_least 47 = .ok (.if_icmp .ge 7, 3) := by decide +kernel
theorem dX9_least_50 : decode cX9_least 50 = .ok (.iconst (-1), 1) := by decide +kernel
theorem dX9_least_51 : decode cX9_least 51 = .ok (.goto 4, 3) := by decide +kernel
theorem dX9_least_54 : decode cX9_least 54 = .ok (.iconst 1, 1) := by decide +kernel
theorem dX9_least_55 : decode cX9_least 55 = .ok (.istore 6, 2) := by decide +kernel
theorem dX9_least_57 : decode cX9_least 57 = .ok (.aload_n 0, 1) := by decide +kernel
theorem dX9_least_58 : decode cX9_least 58 = .ok (.iload 4, 2) := by decide +kernel
theorem dX9_least_60 : decode cX9_least 60 = .ok (.iconst 0, 1) := by decide +kernel
theorem dX9_least_61 : decode cX9_least 61 = .ok (.iload 5, 2) := by decide +kernel
theorem dX9_least_63 : decode cX9_least 63 = .ok (.iconst 0, 1) := by decide +kernel
theorem dX9_least_64 : decode cX9_least 64 = .ok (.invokestatic 236, 3) := by decide +kernel
theorem dX9_least_67 : decode cX9_least 67 = .ok (.iload_n 3, 1) := by decide +kernel
theorem dX9_least_68 : decode cX9_least 68 = .ok (.iconst 0, 1) := by decide +kernel
theorem dX9_least_69 : decode cX9_least 69 = .ok (.invokevirtual 216, 3) := by decide +kernel
theorem dX9_least_72 : decode cX9_least 72 = .ok (.invokestatic 243, 3) := by decide +kernel
theorem dX9_least_75 : decode cX9_least 75 = .ok (.bipush 12, 2) := by decide +kernel
theorem dX9_least_77 : decode cX9_least 77 = .ok (.iadd, 1) := by decide +kernel
theorem dX9_least_78 : decode cX9_least 78 = .ok (.istore 7, 2) := by decide +kernel
theorem dX9_least_80 : decode cX9_least 80 = .ok (.iconst 0, 1) := by decide +kernel
theorem dX9_least_81 : decode cX9_least 81 = .ok (.iload 5, 2) := by decide +kernel
theorem dX9_least_83 : decode cX9_least 83 = .ok (.iload 4, 2) := by decide +kernel
theorem dX9_least_85 : decode cX9_least 85 = .ok (.isub, 1) := by decide +kernel
theorem dX9_least_86 : decode cX9_least 86 = .ok (.invokestatic 248, 3) := by decide +kernel
theorem dX9_least_89 : decode cX9_least 89 = .ok (.istore 8, 2) := by decide +kernel
theorem dX9_least_91 : decode cX9_least 91 = .ok (.iconst 0, 1) := by decide +kernel
theorem dX9_least_92 : decode cX9_least 92 = .ok (.istore 9, 2) := by decide +kernel
theorem dX9_least_94 : decode cX9_least 94 = .ok (.iload 5, 2) := by decide +kernel
theorem dX9_least_96 : decode cX9_least 96 = .ok (.iload 4, 2) := by decide +kernel
theorem dX9_least_98 : decode cX9_least 98 = .ok (.isub, 1) := by decide +kernel
theorem dX9_least_99 : decode cX9_least 99 = .ok (.istore 10, 2) := by decide +kernel
theorem dX9_least_101 : decode cX9_least 101 = .ok (.iconst 1, 1) := by decide +kernel
theorem dX9_least_102 : decode cX9_least 102 = .ok (.istore 11, 2) := by decide +kernel
theorem dX9_least_104 : decode cX9_least 104 = .ok (.iload 11, 2) := by decide +kernel
theorem dX9_least_106 : decode cX9_least 106 = .ok (.iload 7, 2) := by decide +kernel
theorem dX9_least_108 : decode cX9_least 108 = .ok (.if_icmp .gt 94, 3) := by decide +kernel
theorem dX9_least_111 : decode cX9_least 111 = .ok (.aload_n 0, 1) := by decide +kernel
theorem dX9_least_112 : decode cX9_least 112 = .ok (.getfield 57, 3) := by decide +kernel
theorem dX9_least_115 : decode cX9_least 115 = .ok (.iload 6, 2) := by decide +kernel
theorem dX9_least_117 : decode cX9_least 117 = .ok (.iload 11, 2) := by decide +kernel
theorem dX9_least_119 : decode cX9_least 119 = .ok (.imul, 1) := by decide +kernel
theorem dX9_least_120 : decode cX9_least 120 = .ok (.iconst 0, 1) := by decide +kernel
theorem dX9_least_121 : decode cX9_least 121 = .ok (.iconst 0, 1) := by decide +kernel
theorem dX9_least_122 : decode cX9_least 122 = .ok (.iload_n 3, 1) := by decide +kernel
theorem dX9_least_123 : decode cX9_least 123 = .ok (.invokevirtual 220, 3) := by decide +kernel
theorem dX9_least_126 : decode cX9_least 126 = .ok (.aload_n 0, 1) := by decide +kernel
theorem dX9_least_127 : decode cX9_least 127 = .ok (.getfield 57, 3) := by decide +kernel
theorem dX9_least_130 : decode cX9_least 130 = .ok (.iload 4, 2) := by decide +kernel
theorem dX9_least_132 : decode cX9_least 132 = .ok (.iconst 0, 1) := by decide +kernel
theorem dX9_least_133 : decode cX9_least 133 = .ok (.iconst 0, 1) := by decide +kernel
theorem dX9_least_134 : decode cX9_least 134 = .ok (.invokevirtual 190, 3) := by decide +kernel
theorem dX9_least_137 : decode cX9_least 137 = .ok (.ifCond .eq 59, 3) := by decide +kernel
theorem dX9_least_140 : decode cX9_least 140 = .ok (.iload 11, 2) := by decide +kernel
theorem dX9_least_142 : decode cX9_least 142 = .ok (.iload 5, 2) := by decide +kernel
theorem dX9_least_144 : decode cX9_least 144 = .ok (.aload_n 0, 1) := by decide +kernel
theorem dX9_least_145 : decode cX9_least 145 = .ok (.getfield 57, 3) := by decide +kernel
theorem dX9_least_148 : decode cX9_least 148 = .ok (.getfield 194, 3) := by decide +kernel
theorem dX9_least_151 : decode cX9_least 151 = .ok (.isub, 1) := by decide +kernel
theorem dX9_least_152 : decode cX9_least 152 = .ok (.invokestatic 248, 3) := by decide +kernel
theorem dX9_least_155 : decode cX9_least 155 = .ok (.iload 8, 2) := by decide +kernel
theorem dX9_least_157 : decode cX9_least 157 = .ok (.if_icmp .ge 39, 3) := by decide +kernel
theorem dX9_least_160 : decode cX9_least 160 = .ok (.iload 11, 2) := by decide +kernel
theorem dX9_least_162 : decode cX9_least 162 = .ok (.iload 5, 2) := by decide +kernel
theorem dX9_least_164 : decode cX9_least 164 = .ok (.aload_n 0, 1) := by decide +kernel
theorem dX9_least_165 : decode cX9_least 165 = .ok (.getfield 57, 3) := by decide +kernel
theorem dX9_least_168 : decode cX9_least 168 = .ok (.getfield 194, 3) := by decide +kernel
theorem dX9_least_171 : decode cX9_least 171 = .ok (.isub, 1) := by decide +kernel
theorem dX9_least_172 : decode cX9_least 172 = .ok (.invokestatic 248, 3) := by decide +kernel
theorem dX9_least_175 : decode cX9_least 175 = .ok (.istore 8, 2) := by decide +kernel
theorem dX9_least_177 : decode cX9_least 177 = .ok (.iload 6, 2) := by decide +kernel
theorem dX9_least_179 : decode cX9_least 179 = .ok (.iload 11, 2) := by decide +kernel
theorem dX9_least_181 : decode cX9_least 181 = .ok (.imul, 1) := by decide +kernel
theorem dX9_least_182 : decode cX9_least 182 = .ok (.istore 9, 2) := by decide +kernel
theorem dX9_least_184 : decode cX9_least 184 = .ok (.iload 5, 2) := by decide +kernel
theorem dX9_least_186 : decode cX9_least 186 = .ok (.aload_n 0, 1) := by decide +kernel
theorem dX9_least_187 : decode cX9_least 187 = .ok (.getfield 57, 3) := by decide +kernel
theorem dX9_least_190 : decode cX9_least 190 = .ok (.getfield 194, 3) := by decide +kernel
theorem dX9_least_193 : decode cX9_least 193 = .ok (.isub, 1) := by decide +kernel
theorem dX9_least_194 : decode cX9_least 194 = .ok (.istore 10, 2) := by decide +kernel
theorem dX9_least_196 : decode cX9_least 196 = .ok (.iinc 11 1, 3) := by decide +kernel
theorem dX9_least_199 : decode cX9_least 199 = .ok (.goto (-95), 3) := by decide +kernel
theorem dX9_least_202 : decode cX9_least 202 = .ok (.aload_n 0, 1) := by decide +kernel
theorem dX9_least_203 : decode cX9_least 203 = .ok (.getfield 26, 3) := by decide +kernel
theorem dX9_least_206 : decode cX9_least 206 = .ok (.iload 9, 2) := by decide +kernel
theorem dX9_least_208 : decode cX9_least 208 = .ok (.i2l, 1) := by decide +kernel
theorem dX9_least_209 : decode cX9_least 209 = .ok (.iload 10, 2) := by decide +kernel
theorem dX9_least_211 : decode cX9_least 211 = .ok (.i2l, 1) := by decide +kernel
theorem dX9_least_212 : decode cX9_least 212 = .ok (.invokevirtual 199, 3) := by decide +kernel
theorem dX9_least_215 : decode cX9_least 215 = .ok (.iload 8, 2) := by decide +kernel
theorem dX9_least_217 : decode cX9_least 217 = .ok (.ireturn, 1) := by decide +kernel
theorem dX9_phraseSize_0 : decode cX9_phraseSize 0 = .ok (.iload_n 0, 1) := by decide +kernel
theorem dX9_phraseSize_1 : decode cX9_phraseSize 1 = .ok (.invokestatic 243, 3) := by decide +kernel
theorem dX9_phraseSize_4 : decode cX9_phraseSize 4 = .ok (.istore_n 2, 1) := by decide +kernel
theorem dX9_phraseSize_5 : decode cX9_phraseSize 5 = .ok (.iload_n 1, 1) := by decide +kernel
theorem dX9_phraseSize_6 : decode cX9_phraseSize 6 = .ok (.invokestatic 243, 3) := by decide +kernel
theorem dX9_phraseSize_9 : decode cX9_phraseSize 9 = .ok (.istore_n 3, 1) := by decide +kernel
theorem dX9_phraseSize_10 : decode cX9_phraseSize 10 = .ok (.iload_n 2, 1) := by decide +kernel
theorem dX9_phraseSize_11 : decode cX9_phraseSize 11 = .ok (.bipush 12, 2) := by decide +kernel
theorem dX9_phraseSize_13 : decode cX9_phraseSize 13 = .ok (.idiv, 1) := by decide +kernel
theorem dX9_phraseSize_14 : decode cX9_phraseSize 14 = .ok (.iload_n 2, 1) := by decide +kernel
theorem dX9_phraseSize_15 : decode cX9_phraseSize 15 = .ok (.bipush 12, 2) := by decide +kernel
theorem dX9_phraseSize_17 : decode cX9_phraseSize 17 = .ok (.irem, 1) := by decide +kernel
theorem dX9_phraseSize_18 : decode cX9_phraseSize 18 = .ok (.iadd, 1) := by decide +kernel
theorem dX9_phraseSize_19 : decode cX9_phraseSize 19 = .ok (.iload_n 3, 1) := by decide +kernel
theorem dX9_phraseSize_20 : decode cX9_phraseSize 20 = .ok (.bipush 7, 2) := by decide +kernel
theorem dX9_phraseSize_22 : decode cX9_phraseSize 22 = .ok (.idiv, 1) := by decide +kernel
theorem dX9_phraseSize_23 : decode cX9_phraseSize 23 = .ok (.iadd, 1) := by decide +kernel
theorem dX9_phraseSize_24 : decode cX9_phraseSize 24 = .ok (.iload_n 3, 1) := by decide +kernel
theorem dX9_phraseSize_25 : decode cX9_phraseSize 25 = .ok (.bipush 7, 2) := by decide +kernel
theorem dX9_phraseSize_27 : decode cX9_phraseSize 27 = .ok (.irem, 1) := by decide +kernel
theorem dX9_phraseSize_28 : decode cX9_phraseSize 28 = .ok (.iadd, 1) := by decide +kernel
theorem dX9_phraseSize_29 : decode cX9_phraseSize 29 = .ok (.ireturn, 1) := by decide +kernel
theorem dX9_age_0 : decode cX9_age 0 = .ok (.iload_n 1, 1) := by decide +kernel
theorem dX9_age_1 : decode cX9_age 1 = .ok (.invokestatic 93, 3) := by decide +kernel
theorem dX9_age_4 : decode cX9_age 4 = .ok (.ifCond .eq 10, 3) := by decide +kernel
theorem dX9_age_7 : decode cX9_age 7 = .ok (.iload_n 2, 1) := by decide +kernel
theorem dX9_age_8 : decode cX9_age 8 = .ok (.invokestatic 93, 3) := by decide +kernel
theorem dX9_age_11 : decode cX9_age 11 = .ok (.ifCond .ne 5, 3) := by decide +kernel
theorem dX9_age_14 : decode cX9_age 14 = .ok (.iconst (-1), 1) := by decide +kernel
theorem dX9_age_15 : decode cX9_age 15 = .ok (.ireturn, 1) := by decide +kernel
theorem dX9_age_16 : decode cX9_age 16 = .ok (.aload_n 0, 1) := by decide +kernel
theorem dX9_age_17 : decode cX9_age 17 = .ok (.getfield 10, 3) := by decide +kernel
theorem dX9_age_20 : decode cX9_age 20 = .ok (.iload_n 1, 1) := by decide +kernel
theorem dX9_age_21 : decode cX9_age 21 = .ok (.invokevirtual 112, 3) := by decide +kernel
theorem dX9_age_24 : decode cX9_age 24 = .ok (.istore_n 3, 1) := by decide +kernel
theorem dX9_age_25 : decode cX9_age 25 = .ok (.aload_n 0, 1) := by decide +kernel
theorem dX9_age_26 : decode cX9_age 26 = .ok (.getfield 10, 3) := by decide +kernel
theorem dX9_age_29 : decode cX9_age 29 = .ok (.iload_n 2, 1) := by decide +kernel
theorem dX9_age_30 : decode cX9_age 30 = .ok (.invokevirtual 112, 3) := by decide +kernel
theorem dX9_age_33 : decode cX9_age 33 = .ok (.istore 4, 2) := by decide +kernel
theorem dX9_age_35 : decode cX9_age 35 = .ok (.iload 4, 2) := by decide +kernel
theorem dX9_age_37 : decode cX9_age 37 = .ok (.iload_n 3, 1) := by decide +kernel
theorem dX9_age_38 : decode cX9_age 38 = .ok (.if_icmp .ge 7, 3) := by decide +kernel
theorem dX9_age_41 : decode cX9_age 41 = .ok (.iconst 0, 1) := by decide +kernel
theorem dX9_age_42 : decode cX9_age 42 = .ok (.goto 20, 3) := by decide +kernel
theorem dX9_age_45 : decode cX9_age 45 = .ok (.aload_n 0, 1) := by decide +kernel
theorem dX9_age_46 : decode cX9_age 46 = .ok (.iload_n 3, 1) := by decide +kernel
theorem dX9_age_47 : decode cX9_age 47 = .ok (.iconst 0, 1) := by decide +kernel
theorem dX9_age_48 : decode cX9_age 48 = .ok (.iload 4, 2) := by decide +kernel
theorem dX9_age_50 : decode cX9_age 50 = .ok (.iconst 0, 1) := by decide +kernel
theorem dX9_age_51 : decode cX9_age 51 = .ok (.invokestatic 236, 3) := by decide +kernel
theorem dX9_age_54 : decode cX9_age 54 = .ok (.iconst 0, 1) := by decide +kernel
theorem dX9_age_55 : decode cX9_age 55 = .ok (.iconst 1, 1) := by decide +kernel
theorem dX9_age_56 : decode cX9_age 56 = .ok (.invokevirtual 216, 3) := by decide +kernel
theorem dX9_age_59 : decode cX9_age 59 = .ok (.bipush 12, 2) := by decide +kernel
theorem dX9_age_61 : decode cX9_age 61 = .ok (.idiv, 1) := by decide +kernel
theorem dX9_age_62 : decode cX9_age 62 = .ok (.istore 5, 2) := by decide +kernel
theorem dX9_age_64 : decode cX9_age 64 = .ok (.aload_n 0, 1) := by decide +kernel
theorem dX9_age_65 : decode cX9_age 65 = .ok (.getfield 57, 3) := by decide +kernel
theorem dX9_age_68 : decode cX9_age 68 = .ok (.bipush 12, 2) := by decide +kernel
theorem dX9_age_70 : decode cX9_age 70 = .ok (.iload 5, 2) := by decide +kernel
theorem dX9_age_72 : decode cX9_age 72 = .ok (.imul, 1) := by decide +kernel
theorem dX9_age_73 : decode cX9_age 73 = .ok (.iconst 0, 1) := by decide +kernel
theorem dX9_age_74 : decode cX9_age 74 = .ok (.iconst 0, 1) := by decide +kernel
theorem dX9_age_75 : decode cX9_age 75 = .ok (.iconst 0, 1) := by decide +kernel
theorem dX9_age_76 : decode cX9_age 76 = .ok (.invokevirtual 220, 3) := by decide +kernel
theorem dX9_age_79 : decode cX9_age 79 = .ok (.aload_n 0, 1) := by decide +kernel
theorem dX9_age_80 : decode cX9_age 80 = .ok (.getfield 57, 3) := by decide +kernel
theorem dX9_age_83 : decode cX9_age 83 = .ok (.iload_n 3, 1) := by decide +kernel
theorem dX9_age_84 : decode cX9_age 84 = .ok (.iconst 0, 1) := by decide +kernel
theorem dX9_age_85 : decode cX9_age 85 = .ok (.iconst 0, 1) := by decide +kernel
theorem dX9_age_86 : decode cX9_age 86 = .ok (.invokevirtual 190, 3) := by decide +kernel
theorem dX9_age_89 : decode cX9_age 89 = .ok (.pop, 1) := by decide +kernel
theorem dX9_age_90 : decode cX9_age 90 = .ok (.aload_n 0, 1) := by decide +kernel
theorem dX9_age_91 : decode cX9_age 91 = .ok (.getfield 57, 3) := by decide +kernel
theorem dX9_age_94 : decode cX9_age 94 = .ok (.getfield 194, 3) := by decide +kernel
theorem dX9_age_97 : decode cX9_age 97 = .ok (.istore 6, 2) := by decide +kernel
theorem dX9_age_99 : decode cX9_age 99 = .ok (.aload_n 0, 1) := by decide +kernel
theorem dX9_age_100 : decode cX9_age 100 = .ok (.getfield 57, 3) := by decide +kernel
theorem dX9_age_103 : decode cX9_age 103 = .ok (.bipush 12, 2) := by decide +kernel
theorem dX9_age_105 : decode cX9_age 105 = .ok (.iload 5, 2) := by decide +kernel
theorem dX9_age_107 : decode cX9_age 107 = .ok (.imul, 1) := by decide +kernel
theorem dX9_age_108 : decode cX9_age 108 = .ok (.bipush 12, 2) := by decide +kernel
theorem dX9_age_110 : decode cX9_age 110 = .ok (.iadd, 1) := by decide +kernel
theorem dX9_age_111 : decode cX9_age 111 = .ok (.iconst 0, 1) := by decide +kernel
theorem dX9_age_112 : decode cX9_age 112 = .ok (.iconst 0, 1) := by decide +kernel
theorem dX9_age_113 : decode cX9_age 113 = .ok (.iconst 0, 1) := by decide +kernel
theorem dX9_age_114 : decode cX9_age 114 = .ok (.invokevirtual 220, 3) := by decide +kernel
theorem dX9_age_117 : decode cX9_age 117 = .ok (.aload_n 0, 1) := by decide +kernel
theorem dX9_age_118 : decode cX9_age 118 = .ok (.getfield 57, 3) := by decide +kernel
theorem dX9_age_121 : decode cX9_age 121 = .ok (.iload_n 3, 1) := by decide +kernel
theorem dX9_age_122 : decode cX9_age 122 = .ok (.iconst 0, 1) := by decide +kernel
theorem dX9_age_123 : decode cX9_age 123 = .ok (.iconst 0, 1) := by decide +kernel
theorem dX9_age_124 : decode cX9_age 124 = .ok (.invokevirtual 190, 3) := by decide +kernel
theorem dX9_age_127 : decode cX9_age 127 = .ok (.istore 7, 2) := by decide +kernel
theorem dX9_age_129 : decode cX9_age 129 = .ok (.aload_n 0, 1) := by decide +kernel
theorem dX9_age_130 : decode cX9_age 130 = .ok (.getfield 26, 3) := by decide +kernel
theorem dX9_age_133 : decode cX9_age 133 = .ok (.iload 4, 2) := by decide +kernel
theorem dX9_age_135 : decode cX9_age 135 = .ok (.iload 6, 2) := by decide +kernel
theorem dX9_age_137 : decode cX9_age 137 = .ok (.isub, 1) := by decide +kernel
theorem dX9_age_138 : decode cX9_age 138 = .ok (.i2l, 1) := by decide +kernel
theorem dX9_age_139 : decode cX9_age 139 = .ok (.iload 7, 2) := by decide +kernel
theorem dX9_age_141 : decode cX9_age 141 = .ok (.ifCond .eq 17, 3) := by decide +kernel
theorem dX9_age_144 : decode cX9_age 144 = .ok (.aload_n 0, 1) := by decide +kernel
theorem dX9_age_145 : decode cX9_age 145 = .ok (.getfield 57, 3) := by decide +kernel
theorem dX9_age_148 : decode cX9_age 148 = .ok (.getfield 194, 3) := by decide +kernel
theorem dX9_age_151 : decode cX9_age 151 = .ok (.iload 4, 2) := by decide +kernel
theorem dX9_age_153 : decode cX9_age 153 = .ok (.isub, 1) := by decide +kernel
theorem dX9_age_154 : decode cX9_age 154 = .ok (.i2l, 1) := by decide +kernel
theorem dX9_age_155 : decode cX9_age 155 = .ok (.goto 6, 3) := by decide +kernel
theorem dX9_age_158 : decode cX9_age 158 = .ok (.ldc2_w 251, 3) := by decide +kernel
theorem dX9_age_161 : decode cX9_age 161 = .ok (.invokevirtual 199, 3) := by decide +kernel
theorem dX9_age_164 : decode cX9_age 164 = .ok (.iload 5, 2) := by decide +kernel
theorem dX9_age_166 : decode cX9_age 166 = .ok (.ireturn, 1) := by decide +kernel
theorem dX9_compare_0 : decode cX9_compare 0 = .ok (.iload_n 1, 1) := by decide +kernel
theorem dX9_compare_1 : decode cX9_compare 1 = .ok (.invokestatic 93, 3) := by decide +kernel
theorem dX9_compare_4 : decode cX9_compare 4 = .ok (.ifCond .eq 17, 3) := by decide +kernel
theorem dX9_compare_7 : decode cX9_compare 7 = .ok (.iload_n 2, 1) := by decide +kernel
theorem dX9_compare_8 : decode cX9_compare 8 = .ok (.invokestatic 93, 3) := by decide +kernel
theorem dX9_compare_11 : decode cX9_compare 11 = .ok (.ifCond .eq 10, 3) := by decide +kernel
theorem dX9_compare_14 : decode cX9_compare 14 = .ok (.iload_n 3, 1) := by decide +kernel
theorem dX9_compare_15 : decode cX9_compare 15 = .ok (.invokestatic 180, 3) := by decide +kernel
theorem dX9_compare_18 : decode cX9_compare 18 = .ok (.ifCond .ne 5, 3) := by decide +kernel
theorem dX9_compare_21 : decode cX9_compare 21 = .ok (.iconst (-1), 1) := by decide +kernel
theorem dX9_compare_22 : decode cX9_compare 22 = .ok (.ireturn, 1) := by decide +kernel
theorem dX9_compare_23 : decode cX9_compare 23 = .ok (.aload_n 0, 1) := by decide +kernel
theorem dX9_compare_24 : decode cX9_compare 24 = .ok (.getfield 57, 3) := by decide +kernel
theorem dX9_compare_27 : decode cX9_compare 27 = .ok (.aload_n 0, 1) := by decide +kernel
theorem dX9_compare_28 : decode cX9_compare 28 = .ok (.getfield 10, 3) := by decide +kernel
theorem dX9_compare_31 : decode cX9_compare 31 = .ok (.iload_n 1, 1) := by decide +kernel
theorem dX9_compare_32 : decode cX9_compare 32 = .ok (.iconst 1, 1) := by decide +kernel
theorem dX9_compare_33 : decode cX9_compare 33 = .ok (.iload_n 3, 1) := by decide +kernel
theorem dX9_compare_34 : decode cX9_compare 34 = .ok (.invokevirtual 186, 3) := by decide +kernel
theorem dX9_compare_37 : decode cX9_compare 37 = .ok (.pop, 1) := by decide +kernel
theorem dX9_compare_38 : decode cX9_compare 38 = .ok (.aload_n 0, 1) := by decide +kernel
theorem dX9_compare_39 : decode cX9_compare 39 = .ok (.getfield 61, 3) := by decide +kernel
theorem dX9_compare_42 : decode cX9_compare 42 = .ok (.aload_n 0, 1) := by decide +kernel
theorem dX9_compare_43 : decode cX9_compare 43 = .ok (.getfield 10, 3) := by decide +kernel
theorem dX9_compare_46 : decode cX9_compare 46 = .ok (.iload_n 2, 1) := by decide +kernel
theorem dX9_compare_47 : decode cX9_compare 47 = .ok (.iconst 1, 1) := by decide +kernel
theorem dX9_compare_48 : decode cX9_compare 48 = .ok (.iload_n 3, 1) := by decide +kernel
theorem dX9_compare_49 : decode cX9_compare 49 = .ok (.invokevirtual 186, 3) := by decide +kernel
theorem dX9_compare_52 : decode cX9_compare 52 = .ok (.pop, 1) := by decide +kernel
theorem dX9_compare_53 : decode cX9_compare 53 = .ok (.aload_n 0, 1) := by decide +kernel
theorem dX9_compare_54 : decode cX9_compare 54 = .ok (.getfield 26, 3) := by decide +kernel
theorem dX9_compare_57 : decode cX9_compare 57 = .ok (.lconst 0, 1) := by decide +kernel
theorem dX9_compare_58 : decode cX9_compare 58 = .ok (.lconst 0, 1) := by decide +kernel
theorem dX9_compare_59 : decode cX9_compare 59 = .ok (.lconst 0, 1) := by decide +kernel
theorem dX9_compare_60 : decode cX9_compare 60 = .ok (.invokevirtual 209, 3) := by decide +kernel
theorem dX9_compare_63 : decode cX9_compare 63 = .ok (.aload_n 0, 1) := by decide +kernel
theorem dX9_compare_64 : decode cX9_compare 64 = .ok (.getfield 26, 3) := by decide +kernel
theorem dX9_compare_67 : decode cX9_compare 67 = .ok (.ldc2_w 253, 3) := by decide +kernel
theorem dX9_compare_70 : decode cX9_compare 70 = .ok (.invokevirtual 233, 3) := by decide +kernel
theorem dX9_compare_73 : decode cX9_compare 73 = .ok (.aload_n 0, 1) := by decide +kernel
theorem dX9_compare_74 : decode cX9_compare 74 = .ok (.getfield 26, 3) := by decide +kernel
theorem dX9_compare_77 : decode cX9_compare 77 = .ok (.ldc2_w 253, 3) := by decide +kernel
theorem dX9_compare_80 : decode cX9_compare 80 = .ok (.invokevirtual 233, 3) := by decide +kernel
theorem dX9_compare_83 : decode cX9_compare 83 = .ok (.aload_n 0, 1) := by decide +kernel
theorem dX9_compare_84 : decode cX9_compare 84 = .ok (.getfield 26, 3) := by decide +kernel
theorem dX9_compare_87 : decode cX9_compare 87 = .ok (.ldc2_w 253, 3) := by decide +kernel
theorem dX9_compare_90 : decode cX9_compare 90 = .ok (.invokevirtual 233, 3) := by decide +kernel
theorem dX9_compare_93 : decode cX9_compare 93 = .ok (.iconst 0, 1) := by decide +kernel
theorem dX9_compare_94 : decode cX9_compare 94 = .ok (.istore 4, 2) := by decide +kernel
theorem dX9_compare_96 : decode cX9_compare 96 = .ok (.ldc 255, 2) := by decide +kernel
theorem dX9_compare_98 : decode cX9_compare 98 = .ok (.istore 5, 2) := by decide +kernel
theorem dX9_compare_100 : decode cX9_compare 100 = .ok (.iload 5, 2) := by decide +kernel
theorem dX9_compare_102 : decode cX9_compare 102 = .ok (.ldc_w 256, 3) := by decide +kernel
theorem dX9_compare_105 : decode cX9_compare 105 = .ok (.if_icmp .gt 115, 3) := by decide +kernel
theorem dX9_compare_108 : decode cX9_compare 108 = .ok (.aload_n 0, 1) := by decide +kernel
theorem dX9_compare_109 : decode cX9_compare 109 = .ok (.getfield 57, 3) := by decide +kernel
theorem dX9_compare_112 : decode cX9_compare 112 = .ok (.iload 5, 2) := by decide +kernel
theorem dX9_compare_114 : decode cX9_compare 114 = .ok (.iconst 0, 1) := by decide +kernel
theorem dX9_compare_115 : decode cX9_compare 115 = .ok (.iconst 0, 1) := by decide +kernel
theorem dX9_compare_116 : decode cX9_compare 116 = .ok (.invokevirtual 190, 3) := by decide +kernel
theorem dX9_compare_119 : decode cX9_compare 119 = .ok (.ifCond .eq 95, 3) := by decide +kernel
theorem dX9_compare_122 : decode cX9_compare 122 = .ok (.aload_n 0, 1) := by decide +kernel
theorem dX9_compare_123 : decode cX9_compare 123 = .ok (.getfield 61, 3) := by decide +kernel
theorem dX9_compare_126 : decode cX9_compare 126 = .ok (.iload 5, 2) := by decide +kernel
theorem dX9_compare_128 : decode cX9_compare 128 = .ok (.iconst 0, 1) := by decide +kernel
theorem dX9_compare_129 : decode cX9_compare 129 = .ok (.iconst 0, 1) := by decide +kernel
theorem dX9_compare_130 : decode cX9_compare 130 = .ok (.invokevirtual 190, 3) := by decide +kernel
theorem dX9_compare_133 : decode cX9_compare 133 = .ok (.ifCond .eq 81, 3) := by decide +kernel
theorem dX9_compare_136 : decode cX9_compare 136 = .ok (.iconst 1, 1) := by decide +kernel
theorem dX9_compare_137 : decode cX9_compare 137 = .ok (.aload_n 0, 1) := by decide +kernel
theorem dX9_compare_138 : decode cX9_compare 138 = .ok (.getfield 57, 3) := by decide +kernel
theorem dX9_compare_141 : decode cX9_compare 141 = .ok (.invokevirtual 223, 3) := by decide +kernel
theorem dX9_compare_144 : decode cX9_compare 144 = .ok (.aload_n 0, 1) := by decide +kernel
theorem dX9_compare_145 : decode cX9_compare 145 = .ok (.getfield 61, 3) := by decide +kernel
theorem dX9_compare_148 : decode cX9_compare 148 = .ok (.invokevirtual 223, 3) := by decide +kernel
theorem dX9_compare_151 : decode cX9_compare 151 = .ok (.invokestatic 257, 3) := by decide +kernel
theorem dX9_compare_154 : decode cX9_compare 154 = .ok (.iadd, 1) := by decide +kernel
theorem dX9_compare_155 : decode cX9_compare 155 = .ok (.istore 6, 2) := by decide +kernel
theorem dX9_compare_157 : decode cX9_compare 157 = .ok (.aload_n 0, 1) := by decide +kernel
theorem dX9_compare_158 : decode cX9_compare 158 = .ok (.getfield 26, 3) := by decide +kernel
theorem dX9_compare_161 : decode cX9_compare 161 = .ok (.iload 6, 2) := by decide +kernel
theorem dX9_compare_163 : decode cX9_compare 163 = .ok (.invokevirtual 263, 3) := by decide +kernel
theorem dX9_compare_166 : decode cX9_compare 166 = .ok (.lconst 0, 1) := by decide +kernel
theorem dX9_compare_167 : decode cX9_compare 167 = .ok (.lcmp, 1) := by decide +kernel
theorem dX9_compare_168 : decode cX9_compare 168 = .ok (.ifCond .ne 26, 3) := by decide +kernel
theorem dX9_compare_171 : decode cX9_compare 171 = .ok (.aload_n 0, 1) := by decide +kernel
theorem dX9_compare_172 : decode cX9_compare 172 = .ok (.getfield 26, 3) := by decide +kernel
theorem dX9_compare_175 : decode cX9_compare 175 = .ok (.iload 6, 2) := by decide +kernel
theorem dX9_compare_177 : decode cX9_compare 177 = .ok (.iconst 3, 1) := by decide +kernel
theorem dX9_compare_178 : decode cX9_compare 178 = .ok (.iadd, 1) := by decide +kernel
theorem dX9_compare_179 : decode cX9_compare 179 = .ok (.iload 5, 2) := by decide +kernel
theorem dX9_compare_181 : decode cX9_compare 181 = .ok (.i2l, 1) := by decide +kernel
theorem dX9_compare_182 : decode cX9_compare 182 = .ok (.invokevirtual 266, 3) := by decide +kernel
theorem dX9_compare_185 : decode cX9_compare 185 = .ok (.iload 4, 2) := by decide +kernel
theorem dX9_compare_187 : decode cX9_compare 187 = .ok (.iconst 1, 1) := by decide +kernel
theorem dX9_compare_188 : decode cX9_compare 188 = .ok (.iload 6, 2) := by decide +kernel
theorem dX9_compare_190 : decode cX9_compare 190 = .ok (.ishl, 1) := by decide +kernel
theorem dX9_compare_191 : decode cX9_compare 191 = .ok (.ior, 1) := by decide +kernel
theorem dX9_compare_192 : decode cX9_compare 192 = .ok (.istore 4, 2) := by decide +kernel
theorem dX9_compare_194 : decode cX9_compare 194 = .ok (.aload_n 0, 1) := by decide +kernel
theorem dX9_compare_195 : decode cX9_compare 195 = .ok (.getfield 26, 3) := by decide +kernel
theorem dX9_compare_198 : decode cX9_compare 198 = .ok (.iload 6, 2) := by decide +kernel
theorem dX9_compare_200 : decode cX9_compare 200 = .ok (.aload_n 0, 1) := by decide +kernel
theorem dX9_compare_201 : decode cX9_compare 201 = .ok (.getfield 26, 3) := by decide +kernel
theorem dX9_compare_204 : decode cX9_compare 204 = .ok (.iload 6, 2) := by decide +kernel
theorem dX9_compare_206 : decode cX9_compare 206 = .ok (.invokevirtual 263, 3) := by decide +kernel
theorem dX9_compare_209 : decode cX9_compare 209 = .ok (.lconst 1, 1) := by decide +kernel
theorem dX9_compare_210 : decode cX9_compare 210 = .ok (.ladd, 1) := by decide +kernel
theorem dX9_compare_211 : decode cX9_compare 211 = .ok (.invokevirtual 266, 3) := by decide +kernel
theorem dX9_compare_214 : decode cX9_compare 214 = .ok (.iinc 5 1, 3) := by decide +kernel
theorem dX9_compare_217 : decode cX9_compare 217 = .ok (.goto (-117), 3) := by decide +kernel
theorem dX9_compare_220 : decode cX9_compare 220 = .ok (.iload 4, 2) := by decide +kernel
theorem dX9_compare_222 : decode cX9_compare 222 = .ok (.ireturn, 1) := by decide +kernel
theorem dX9_lasts_0 : decode cX9_lasts 0 = .ok (.iload_n 1, 1) := by decide +kernel
theorem dX9_lasts_1 : decode cX9_lasts 1 = .ok (.invokestatic 93, 3) := by decide +kernel
theorem dX9_lasts_4 : decode cX9_lasts 4 = .ok (.ifCond .eq 10, 3) := by decide +kernel
theorem dX9_lasts_7 : decode cX9_lasts 7 = .ok (.iload_n 2, 1) := by decide +kernel
theorem dX9_lasts_8 : decode cX9_lasts 8 = .ok (.invokestatic 180, 3) := by decide +kernel
theorem dX9_lasts_11 : decode cX9_lasts 11 = .ok (.ifCond .ne 7, 3) := by decide +kernel
theorem dX9_lasts_14 : decode cX9_lasts 14 = .ok (.ldc2_w 253, 3) := by decide +kernel
theorem dX9_lasts_17 : decode cX9_lasts 17 = .ok (.lreturn, 1) := by decide +kernel
theorem dX9_lasts_18 : decode cX9_lasts 18 = .ok (.aload_n 0, 1) := by decide +kernel
theorem dX9_lasts_19 : decode cX9_lasts 19 = .ok (.getfield 57, 3) := by decide +kernel
theorem dX9_lasts_22 : decode cX9_lasts 22 = .ok (.aload_n 0, 1) := by decide +kernel
theorem dX9_lasts_23 : decode cX9_lasts 23 = .ok (.getfield 10, 3) := by decide +kernel
theorem dX9_lasts_26 : decode cX9_lasts 26 = .ok (.iload_n 1, 1) := by decide +kernel
theorem dX9_lasts_27 : decode cX9_lasts 27 = .ok (.iconst 1, 1) := by decide +kernel
theorem dX9_lasts_28 : decode cX9_lasts 28 = .ok (.iload_n 2, 1) := by decide +kernel
theorem dX9_lasts_29 : decode cX9_lasts 29 = .ok (.invokevirtual 186, 3) := by decide +kernel
theorem dX9_lasts_32 : decode cX9_lasts 32 = .ok (.pop, 1) := by decide +kernel
theorem dX9_lasts_33 : decode cX9_lasts 33 = .ok (.aload_n 0, 1) := by decide +kernel
theorem dX9_lasts_34 : decode cX9_lasts 34 = .ok (.getfield 74, 3) := by decide +kernel
theorem dX9_lasts_37 : decode cX9_lasts 37 = .ok (.invokevirtual 269, 3) := by decide +kernel
theorem dX9_lasts_40 : decode cX9_lasts 40 = .ok (.ldc 255, 2) := by decide +kernel
theorem dX9_lasts_42 : decode cX9_lasts 42 = .ok (.istore_n 3, 1) := by decide +kernel
theorem dX9_lasts_43 : decode cX9_lasts 43 = .ok (.iload_n 3, 1) := by decide +kernel
theorem dX9_lasts_44 : decode cX9_lasts 44 = .ok (.ldc_w 256, 3) := by decide +kernel
theorem dX9_lasts_47 : decode cX9_lasts 47 = .ok (.if_icmp .gt 43, 3) := by decide +kernel
theorem dX9_lasts_50 : decode cX9_lasts 50 = .ok (.aload_n 0, 1) := by decide +kernel
theorem dX9_lasts_51 : decode cX9_lasts 51 = .ok (.getfield 57, 3) := by decide +kernel
theorem dX9_lasts_54 : decode cX9_lasts 54 = .ok (.iload_n 3, 1) := by decide +kernel
theorem dX9_lasts_55 : decode cX9_lasts 55 = .ok (.iconst 0, 1) := by decide +kernel
theorem dX9_lasts_56 : decode cX9_lasts 56 = .ok (.iconst 0, 1) := by decide +kernel
theorem dX9_lasts_57 : decode cX9_lasts 57 = .ok (.invokevirtual 190, 3) := by decide +kernel
theorem dX9_lasts_60 : decode cX9_lasts 60 = .ok (.ifCond .eq 24, 3) := by decide +kernel
theorem dX9_lasts_63 : decode cX9_lasts 63 = .ok (.aload_n 0, 1) := by decide +kernel
theorem dX9_lasts_64 : decode cX9_lasts 64 = .ok (.getfield 74, 3) := by decide +kernel
theorem dX9_lasts_67 : decode cX9_lasts 67 = .ok (.iload_n 3, 1) := by decide +kernel
theorem dX9_lasts_68 : decode cX9_lasts 68 = .ok (.aload_n 0, 1) := by decide +kernel
theorem dX9_lasts_69 : decode cX9_lasts 69 = .ok (.getfield 57, 3) := by decide +kernel
theorem dX9_lasts_72 : decode cX9_lasts 72 = .ok (.invokevirtual 223, 3) := by decide +kernel
theorem dX9_lasts_75 : decode cX9_lasts 75 = .ok (.iload_n 3, 1) := by decide +kernel
theorem dX9_lasts_76 : decode cX9_lasts 76 = .ok (.iconst 0, 1) := by decide +kernel
theorem dX9_lasts_77 : decode cX9_lasts 77 = .ok (.invokestatic 236, 3) := by decide +kernel
theorem dX9_lasts_80 : decode cX9_lasts 80 = .ok (.lsub, 1) := by decide +kernel
theorem dX9_lasts_81 : decode cX9_lasts 81 = .ok (.invokevirtual 272, 3) := by decide +kernel
theorem dX9_lasts_84 : decode cX9_lasts 84 = .ok (.iinc 3 1, 3) := by decide +kernel
theorem dX9_lasts_87 : decode cX9_lasts 87 = .ok (.goto (-44), 3) := by decide +kernel
theorem dX9_lasts_90 : decode cX9_lasts 90 = .ok (.aload_n 0, 1) := by decide +kernel
theorem dX9_lasts_91 : decode cX9_lasts 91 = .ok (.getfield 74, 3) := by decide +kernel
theorem dX9_lasts_94 : decode cX9_lasts 94 = .ok (.getfield 275, 3) := by decide +kernel
theorem dX9_lasts_97 : decode cX9_lasts 97 = .ok (.ifCond .ne 7, 3) := by decide +kernel
theorem dX9_lasts_100 : decode cX9_lasts 100 = .ok (.ldc2_w 251, 3) := by decide +kernel
theorem dX9_lasts_103 : decode cX9_lasts 103 = .ok (.lreturn, 1) := by decide +kernel
theorem dX9_lasts_104 : decode cX9_lasts 104 = .ok (.aload_n 0, 1) := by decide +kernel
theorem dX9_lasts_105 : decode cX9_lasts 105 = .ok (.getfield 26, 3) := by decide +kernel
theorem dX9_lasts_108 : decode cX9_lasts 108 = .ok (.aload_n 0, 1) := by decide +kernel
theorem dX9_lasts_109 : decode cX9_lasts 109 = .ok (.getfield 74, 3) := by decide +kernel
theorem dX9_lasts_112 : decode cX9_lasts 112 = .ok (.getfield 278, 3) := by decide +kernel
theorem dX9_lasts_115 : decode cX9_lasts 115 = .ok (.aload_n 0, 1) := by decide +kernel
theorem dX9_lasts_116 : decode cX9_lasts 116 = .ok (.getfield 74, 3) := by decide +kernel
theorem dX9_lasts_119 : decode cX9_lasts 119 = .ok (.getfield 282, 3) := by decide +kernel
theorem dX9_lasts_122 : decode cX9_lasts 122 = .ok (.aload_n 0, 1) := by decide +kernel
theorem dX9_lasts_123 : decode cX9_lasts 123 = .ok (.getfield 74, 3) := by decide +kernel
theorem dX9_lasts_126 : decode cX9_lasts 126 = .ok (.getfield 285, 3) := by decide +kernel
theorem dX9_lasts_129 : decode cX9_lasts 129 = .ok (.i2l, 1) := by decide +kernel
theorem dX9_lasts_130 : decode cX9_lasts 130 = .ok (.invokevirtual 209, 3) := by decide +kernel
theorem dX9_lasts_133 : decode cX9_lasts 133 = .ok (.aload_n 0, 1) := by decide +kernel
theorem dX9_lasts_134 : decode cX9_lasts 134 = .ok (.getfield 26, 3) := by decide +kernel
theorem dX9_lasts_137 : decode cX9_lasts 137 = .ok (.aload_n 0, 1) := by decide +kernel
theorem dX9_lasts_138 : decode cX9_lasts 138 = .ok (.getfield 74, 3) := by decide +kernel
theorem dX9_lasts_141 : decode cX9_lasts 141 = .ok (.getfield 288, 3) := by decide +kernel
theorem dX9_lasts_144 : decode cX9_lasts 144 = .ok (.i2l, 1) := by decide +kernel
theorem dX9_lasts_145 : decode cX9_lasts 145 = .ok (.invokevirtual 233, 3) := by decide +kernel
theorem dX9_lasts_148 : decode cX9_lasts 148 = .ok (.aload_n 0, 1) := by decide +kernel
theorem dX9_lasts_149 : decode cX9_lasts 149 = .ok (.getfield 26, 3) := by decide +kernel
theorem dX9_lasts_152 : decode cX9_lasts 152 = .ok (.aload_n 0, 1) := by decide +kernel
theorem dX9_lasts_153 : decode cX9_lasts 153 = .ok (.getfield 74, 3) := by decide +kernel
theorem dX9_lasts_156 : decode cX9_lasts 156 = .ok (.getfield 275, 3) := by decide +kernel
theorem dX9_lasts_159 : decode cX9_lasts 159 = .ok (.i2l, 1) := by decide +kernel
theorem dX9_lasts_160 : decode cX9_lasts 160 = .ok (.invokevirtual 233, 3) := by decide +kernel
theorem dX9_lasts_163 : decode cX9_lasts 163 = .ok (.aload_n 0, 1) := by decide +kernel
theorem dX9_lasts_164 : decode cX9_lasts 164 = .ok (.getfield 74, 3) := by decide +kernel
theorem dX9_lasts_167 : decode cX9_lasts 167 = .ok (.getfield 278, 3) := by decide +kernel
theorem dX9_lasts_170 : decode cX9_lasts 170 = .ok (.lreturn, 1) := by decide +kernel
theorem dX9_fails_0 : decode cX9_fails 0 = .ok (.iload_n 1, 1) := by decide +kernel
theorem dX9_fails_1 : decode cX9_fails 1 = .ok (.iload_n 2, 1) := by decide +kernel
theorem dX9_fails_2 : decode cX9_fails 2 = .ok (.iload_n 3, 1) := by decide +kernel
theorem dX9_fails_3 : decode cX9_fails 3 = .ok (.iload 4, 2) := by decide +kernel
theorem dX9_fails_5 : decode cX9_fails 5 = .ok (.invokestatic 291, 3) := by decide +kernel
theorem dX9_fails_8 : decode cX9_fails 8 = .ok (.ifCond .eq 11, 3) := by decide +kernel
theorem dX9_fails_11 : decode cX9_fails 11 = .ok (.iload 5, 2) := by decide +kernel
theorem dX9_fails_13 : decode cX9_fails 13 = .ok (.invokestatic 108, 3) := by decide +kernel
theorem dX9_fails_16 : decode cX9_fails 16 = .ok (.ifCond .ne 5, 3) := by decide +kernel
theorem dX9_fails_19 : decode cX9_fails 19 = .ok (.iconst (-1), 1) := by decide +kernel
theorem dX9_fails_20 : decode cX9_fails 20 = .ok (.ireturn, 1) := by decide +kernel
theorem dX9_fails_21 : decode cX9_fails 21 = .ok (.aload_n 0, 1) := by decide +kernel
theorem dX9_fails_22 : decode cX9_fails 22 = .ok (.getfield 67, 3) := by decide +kernel
theorem dX9_fails_25 : decode cX9_fails 25 = .ok (.aload_n 0, 1) := by decide +kernel
theorem dX9_fails_26 : decode cX9_fails 26 = .ok (.getfield 10, 3) := by decide +kernel
theorem dX9_fails_29 : decode cX9_fails 29 = .ok (.iload_n 1, 1) := by decide +kernel
theorem dX9_fails_30 : decode cX9_fails 30 = .ok (.iload_n 2, 1) := by decide +kernel
theorem dX9_fails_31 : decode cX9_fails 31 = .ok (.iload_n 3, 1) := by decide +kernel
theorem dX9_fails_32 : decode cX9_fails 32 = .ok (.iload 4, 2) := by decide +kernel
theorem dX9_fails_34 : decode cX9_fails 34 = .ok (.invokevirtual 294, 3) := by decide +kernel
theorem dX9_fails_37 : decode cX9_fails 37 = .ok (.ifCond .ne 6, 3) := by decide +kernel
theorem dX9_fails_40 : decode cX9_fails 40 = .ok (.bipush (-9), 2) := by decide +kernel
theorem dX9_fails_42 : decode cX9_fails 42 = .ok (.ireturn, 1) := by decide +kernel
theorem dX9_fails_43 : decode cX9_fails 43 = .ok (.iload 5, 2) := by decide +kernel
theorem dX9_fails_45 : decode cX9_fails 45 = .ok (.ldc_w 297, 3) := by decide +kernel
theorem dX9_fails_48 : decode cX9_fails 48 = .ok (.iadd, 1) := by decide +kernel
theorem dX9_fails_49 : decode cX9_fails 49 = .ok (.iconst 1, 1) := by decide +kernel
theorem dX9_fails_50 : decode cX9_fails 50 = .ok (.isub, 1) := by decide +kernel
theorem dX9_fails_51 : decode cX9_fails 51 = .ok (.ldc_w 298, 3) := by decide +kernel
theorem dX9_fails_54 : decode cX9_fails 54 = .ok (.invokestatic 299, 3) := by decide +kernel
theorem dX9_fails_57 : decode cX9_fails 57 = .ok (.istore 6, 2) := by decide +kernel
theorem dX9_fails_59 : decode cX9_fails 59 = .ok (.iload 5, 2) := by decide +kernel
theorem dX9_fails_61 : decode cX9_fails 61 = .ok (.istore 7, 2) := by decide +kernel
theorem dX9_fails_63 : decode cX9_fails 63 = .ok (.iload 7, 2) := by decide +kernel
theorem dX9_fails_65 : decode cX9_fails 65 = .ok (.iload 6, 2) := by decide +kernel
theorem dX9_fails_67 : decode cX9_fails 67 = .ok (.if_icmp .gt 63, 3) := by decide +kernel
theorem dX9_fails_70 : decode cX9_fails 70 = .ok (.aload_n 0, 1) := by decide +kernel
theorem dX9_fails_71 : decode cX9_fails 71 = .ok (.getfield 67, 3) := by decide +kernel
theorem dX9_fails_74 : decode cX9_fails 74 = .ok (.iload 7, 2) := by decide +kernel
theorem dX9_fails_76 : decode cX9_fails 76 = .ok (.invokevirtual 302, 3) := by decide +kernel
theorem dX9_fails_79 : decode cX9_fails 79 = .ok (.ifCond .eq 45, 3) := by decide +kernel
theorem dX9_fails_82 : decode cX9_fails 82 = .ok (.aload_n 0, 1) := by decide +kernel
theorem dX9_fails_83 : decode cX9_fails 83 = .ok (.getfield 67, 3) := by decide +kernel
theorem dX9_fails_86 : decode cX9_fails 86 = .ok (.getfield 305, 3) := by decide +kernel
theorem dX9_fails_89 : decode cX9_fails 89 = .ok (.aload_n 0, 1) := by decide +kernel
theorem dX9_fails_90 : decode cX9_fails 90 = .ok (.getfield 67, 3) := by decide +kernel
theorem dX9_fails_93 : decode cX9_fails 93 = .ok (.getfield 308, 3) := by decide +kernel
theorem dX9_fails_96 : decode cX9_fails 96 = .ok (.lcmp, 1) := by decide +kernel
theorem dX9_fails_97 : decode cX9_fails 97 = .ok (.ifCond .eq 27, 3) := by decide +kernel
theorem dX9_fails_100 : decode cX9_fails 100 = .ok (.aload_n 0, 1) := by decide +kernel
theorem dX9_fails_101 : decode cX9_fails 101 = .ok (.getfield 26, 3) := by decide +kernel
theorem dX9_fails_104 : decode cX9_fails 104 = .ok (.aload_n 0, 1) := by decide +kernel
theorem dX9_fails_105 : decode cX9_fails 105 = .ok (.getfield 67, 3) := by decide +kernel
theorem dX9_fails_108 : decode cX9_fails 108 = .ok (.getfield 305, 3) := by decide +kernel
theorem dX9_fails_111 : decode cX9_fails 111 = .ok (.aload_n 0, 1) := by decide +kernel
theorem dX9_fails_112 : decode cX9_fails 112 = .ok (.getfield 67, 3) := by decide +kernel
theorem dX9_fails_115 : decode cX9_fails 115 = .ok (.getfield 308, 3) := by decide +kernel
theorem dX9_fails_118 : decode cX9_fails 118 = .ok (.invokevirtual 199, 3) := by decide +kernel
theorem dX9_fails_121 : decode cX9_fails 121 = .ok (.iload 7, 2) := by decide +kernel
theorem dX9_fails_123 : decode cX9_fails 123 = .ok (.ireturn, 1) := by decide +kernel
theorem dX9_fails_124 : decode cX9_fails 124 = .ok (.iinc 7 1, 3) := by decide +kernel
theorem dX9_fails_127 : decode cX9_fails 127 = .ok (.goto (-64), 3) := by decide +kernel
theorem dX9_fails_130 : decode cX9_fails 130 = .ok (.bipush (-2), 2) := by decide +kernel
theorem dX9_fails_132 : decode cX9_fails 132 = .ok (.ireturn, 1) := by decide +kernel
theorem dX9_often_0 : decode cX9_often 0 = .ok (.iload_n 1, 1) := by decide +kernel
theorem dX9_often_1 : decode cX9_often 1 = .ok (.iload_n 2, 1) := by decide +kernel
theorem dX9_often_2 : decode cX9_often 2 = .ok (.iload_n 3, 1) := by decide +kernel
theorem dX9_often_3 : decode cX9_often 3 = .ok (.iload 4, 2) := by decide +kernel
theorem dX9_often_5 : decode cX9_often 5 = .ok (.invokestatic 291, 3) := by decide +kernel
theorem dX9_often_8 : decode cX9_often 8 = .ok (.ifCond .ne 5, 3) := by decide +kernel
theorem dX9_often_11 : decode cX9_often 11 = .ok (.iconst (-1), 1) := by decide +kernel
theorem dX9_often_12 : decode cX9_often 12 = .ok (.ireturn, 1) := by decide +kernel
theorem dX9_often_13 : decode cX9_often 13 = .ok (.aload_n 0, 1) := by decide +kernel
theorem dX9_often_14 : decode cX9_often 14 = .ok (.getfield 67, 3) := by decide +kernel
theorem dX9_often_17 : decode cX9_often 17 = .ok (.aload_n 0, 1) := by decide +kernel
theorem dX9_often_18 : decode cX9_often 18 = .ok (.getfield 10, 3) := by decide +kernel
theorem dX9_often_21 : decode cX9_often 21 = .ok (.iload_n 1, 1) := by decide +kernel
theorem dX9_often_22 : decode cX9_often 22 = .ok (.iload_n 2, 1) := by decide +kernel
theorem dX9_often_23 : decode cX9_often 23 = .ok (.iload_n 3, 1) := by decide +kernel
theorem dX9_often_24 : decode cX9_often 24 = .ok (.iload 4, 2) := by decide +kernel
theorem dX9_often_26 : decode cX9_often 26 = .ok (.invokevirtual 294, 3) := by decide +kernel
theorem dX9_often_29 : decode cX9_often 29 = .ok (.ifCond .ne 6, 3) := by decide +kernel
theorem dX9_often_32 : decode cX9_often 32 = .ok (.bipush (-9), 2) := by decide +kernel
theorem dX9_often_34 : decode cX9_often 34 = .ok (.ireturn, 1) := by decide +kernel
theorem dX9_often_35 : decode cX9_often 35 = .ok (.iconst 0, 1) := by decide +kernel
theorem dX9_often_36 : decode cX9_often 36 = .ok (.istore 5, 2) := by decide +kernel
theorem dX9_often_38 : decode cX9_often 38 = .ok (.lconst 0, 1) := by decide +kernel
theorem dX9_often_39 : decode cX9_often 39 = .ok (.lstore 6, 2) := by decide +kernel
theorem dX9_often_41 : decode cX9_often 41 = .ok (.iconst (-1), 1) := by decide +kernel
theorem dX9_often_42 : decode cX9_often 42 = .ok (.istore 8, 2) := by decide +kernel
theorem dX9_often_44 : decode cX9_often 44 = .ok (.ldc 255, 2) := by decide +kernel
theorem dX9_often_46 : decode cX9_often 46 = .ok (.istore 9, 2) := by decide +kernel
theorem dX9_often_48 : decode cX9_often 48 = .ok (.iload 9, 2) := by decide +kernel
theorem dX9_often_50 : decode cX9_often 50 = .ok (.ldc_w 256, 3) := by decide +kernel
theorem dX9_often_53 : decode cX9_often 53 = .ok (.if_icmp .gt 78, 3) := by decide +kernel
theorem dX9_often_56 : decode cX9_often 56 = .ok (.aload_n 0, 1) := by decide +kernel
theorem dX9_often_57 : decode cX9_often 57 = .ok (.getfield 67, 3) := by decide +kernel
theorem dX9_often_60 : decode cX9_often 60 = .ok (.iload 9, 2) := by decide +kernel
theorem dX9_often_62 : decode cX9_often 62 = .ok (.invokevirtual 302, 3) := by decide +kernel
theorem dX9_often_65 : decode cX9_often 65 = .ok (.ifCond .eq 60, 3) := by decide +kernel
theorem dX9_often_68 : decode cX9_often 68 = .ok (.aload_n 0, 1) := by decide +kernel
theorem dX9_often_69 : decode cX9_often 69 = .ok (.getfield 67, 3) := by decide +kernel
theorem dX9_often_72 : decode cX9_often 72 = .ok (.getfield 305, 3) := by decide +kernel
theorem dX9_often_75 : decode cX9_often 75 = .ok (.aload_n 0, 1) := by decide +kernel
theorem dX9_often_76 : decode cX9_often 76 = .ok (.getfield 67, 3) := by decide +kernel
theorem dX9_often_79 : decode cX9_often 79 = .ok (.getfield 308, 3) := by decide +kernel
theorem dX9_often_82 : decode cX9_often 82 = .ok (.lcmp, 1) := by decide +kernel
theorem dX9_often_83 : decode cX9_often 83 = .ok (.ifCond .eq 42, 3) := by decide +kernel
theorem dX9_often_86 : decode cX9_often 86 = .ok (.iinc 5 1, 3) := by decide +kernel
theorem dX9_often_89 : decode cX9_often 89 = .ok (.aload_n 0, 1) := by decide +kernel
theorem dX9_often_90 : decode cX9_often 90 = .ok (.getfield 67, 3) := by decide +kernel
theorem dX9_often_93 : decode cX9_often 93 = .ok (.getfield 305, 3) := by decide +kernel
theorem dX9_often_96 : decode cX9_often 96 = .ok (.aload_n 0, 1) := by decide +kernel
theorem dX9_often_97 : decode cX9_often 97 = .ok (.getfield 67, 3) := by decide +kernel
theorem dX9_often_100 : decode cX9_often 100 = .ok (.getfield 308, 3) := by decide +kernel
theorem dX9_often_103 : decode cX9_often 103 = .ok (.lsub, 1) := by decide +kernel
theorem dX9_often_104 : decode cX9_often 104 = .ok (.invokestatic 311, 3) := by decide +kernel
theorem dX9_often_107 : decode cX9_often 107 = .ok (.lstore 10, 2) := by decide +kernel
theorem dX9_often_109 : decode cX9_often 109 = .ok (.lload 10, 2) := by decide +kernel
theorem dX9_often_111 : decode cX9_often 111 = .ok (.lload 6, 2) := by decide +kernel
theorem dX9_often_113 : decode cX9_often 113 = .ok (.lcmp, 1) := by decide +kernel
theorem dX9_often_114 : decode cX9_often 114 = .ok (.ifCond .le 11, 3) := by decide +kernel
theorem dX9_often_117 : decode cX9_often 117 = .ok (.lload 10, 2) := by decide +kernel
theorem dX9_often_119 : decode cX9_often 119 = .ok (.lstore 6, 2) := by decide +kernel
theorem dX9_often_121 : decode cX9_often 121 = .ok (.iload 9, 2) := by decide +kernel
theorem dX9_often_123 : decode cX9_often 123 = .ok (.istore 8, 2) := by decide +kernel
theorem dX9_often_125 : decode cX9_often 125 = .ok (.iinc 9 1, 3) := by decide +kernel
theorem dX9_often_128 : decode cX9_often 128 = .ok (.goto (-80), 3) := by decide +kernel
theorem dX9_often_131 : decode cX9_often 131 = .ok (.aload_n 0, 1) := by decide +kernel
theorem dX9_often_132 : decode cX9_often 132 = .ok (.getfield 26, 3) := by decide +kernel
theorem dX9_often_135 : decode cX9_often 135 = .ok (.lload 6, 2) := by decide +kernel
theorem dX9_often_137 : decode cX9_often 137 = .ok (.iload 8, 2) := by decide +kernel
theorem dX9_often_139 : decode cX9_often 139 = .ok (.i2l, 1) := by decide +kernel
theorem dX9_often_140 : decode cX9_often 140 = .ok (.invokevirtual 199, 3) := by decide +kernel
theorem dX9_often_143 : decode cX9_often 143 = .ok (.iload 5, 2) := by decide +kernel
theorem dX9_often_145 : decode cX9_often 145 = .ok (.ireturn, 1) := by decide +kernel
theorem dX9_isTrial_0 : decode cX9_isTrial 0 = .ok (.iload_n 0, 1) := by decide +kernel
theorem dX9_isTrial_1 : decode cX9_isTrial 1 = .ok (.ifCond .lt 33, 3) := by decide +kernel
theorem dX9_isTrial_4 : decode cX9_isTrial 4 = .ok (.iload_n 0, 1) := by decide +kernel
theorem dX9_isTrial_5 : decode cX9_isTrial 5 = .ok (.iconst 3, 1) := by decide +kernel
theorem dX9_isTrial_6 : decode cX9_isTrial 6 = .ok (.if_icmp .gt 28, 3) := by decide +kernel
theorem dX9_isTrial_9 : decode cX9_isTrial 9 = .ok (.iload_n 1, 1) := by decide +kernel
theorem dX9_isTrial_10 : decode cX9_isTrial 10 = .ok (.invokestatic 93, 3) := by decide +kernel
theorem dX9_isTrial_13 : decode cX9_isTrial 13 = .ok (.ifCond .eq 21, 3) := by decide +kernel
theorem dX9_isTrial_16 : decode cX9_isTrial 16 = .ok (.iload_n 2, 1) := by decide +kernel
theorem dX9_isTrial_17 : decode cX9_isTrial 17 = .ok (.invokestatic 93, 3) := by decide +kernel
theorem dX9_isTrial_20 : decode cX9_isTrial 20 = .ok (.ifCond .eq 14, 3) := by decide +kernel
theorem dX9_isTrial_23 : decode cX9_isTrial 23 = .ok (.iload_n 3, 1) := by decide +kernel
theorem dX9_isTrial_24 : decode cX9_isTrial 24 = .ok (.invokestatic 180, 3) := by decide +kernel
theorem dX9_isTrial_27 : decode cX9_isTrial 27 = .ok (.ifCond .eq 7, 3) := by decide +kernel
theorem dX9_isTrial_30 : decode cX9_isTrial 30 = .ok (.iconst 1, 1) := by decide +kernel
theorem dX9_isTrial_31 : decode cX9_isTrial 31 = .ok (.goto 4, 3) := by decide +kernel
theorem dX9_isTrial_34 : decode cX9_isTrial 34 = .ok (.iconst 0, 1) := by decide +kernel
theorem dX9_isTrial_35 : decode cX9_isTrial 35 = .ok (.ireturn, 1) := by decide +kernel
theorem dX9_drift_0 : decode cX9_drift 0 = .ok (.iload_n 1, 1) := by decide +kernel
theorem dX9_drift_1 : decode cX9_drift 1 = .ok (.invokestatic 93, 3) := by decide +kernel
theorem dX9_drift_4 : decode cX9_drift 4 = .ok (.ifCond .eq 30, 3) := by decide +kernel
theorem dX9_drift_7 : decode cX9_drift 7 = .ok (.iload_n 2, 1) := by decide +kernel
theorem dX9_drift_8 : decode cX9_drift 8 = .ok (.invokestatic 93, 3) := by decide +kernel
theorem dX9_drift_11 : decode cX9_drift 11 = .ok (.ifCond .eq 23, 3) := by decide +kernel
theorem dX9_drift_14 : decode cX9_drift 14 = .ok (.iload_n 3, 1) := by decide +kernel
theorem dX9_drift_15 : decode cX9_drift 15 = .ok (.invokestatic 180, 3) := by decide +kernel
theorem dX9_drift_18 : decode cX9_drift 18 = .ok (.ifCond .eq 16, 3) := by decide +kernel
theorem dX9_drift_21 : decode cX9_drift 21 = .ok (.iload 4, 2) := by decide +kernel
theorem dX9_drift_23 : decode cX9_drift 23 = .ok (.ifCond .lt 11, 3) := by decide +kernel
theorem dX9_drift_26 : decode cX9_drift 26 = .ok (.iload 4, 2) := by decide +kernel
theorem dX9_drift_28 : decode cX9_drift 28 = .ok (.sipush 1000, 3) := by decide +kernel
theorem dX9_drift_31 : decode cX9_drift 31 = .ok (.if_icmp .le 7, 3) := by decide +kernel
theorem dX9_drift_34 : decode cX9_drift 34 = .ok (.ldc2_w 253, 3) := by decide +kernel
theorem dX9_drift_37 : decode cX9_drift 37 = .ok (.lreturn, 1) := by decide +kernel
theorem dX9_drift_38 : decode cX9_drift 38 = .ok (.aload_n 0, 1) := by decide +kernel
theorem dX9_drift_39 : decode cX9_drift 39 = .ok (.getfield 61, 3) := by decide +kernel
theorem dX9_drift_42 : decode cX9_drift 42 = .ok (.aload_n 0, 1) := by decide +kernel
theorem dX9_drift_43 : decode cX9_drift 43 = .ok (.getfield 10, 3) := by decide +kernel
theorem dX9_drift_46 : decode cX9_drift 46 = .ok (.iload_n 2, 1) := by decide +kernel
theorem dX9_drift_47 : decode cX9_drift 47 = .ok (.iload 4, 2) := by decide +kernel
theorem dX9_drift_49 : decode cX9_drift 49 = .ok (.iload_n 3, 1) := by decide +kernel
theorem dX9_drift_50 : decode cX9_drift 50 = .ok (.invokevirtual 186, 3) := by decide +kernel
theorem dX9_drift_53 : decode cX9_drift 53 = .ok (.ifCond .ne 7, 3) := by decide +kernel
theorem dX9_drift_56 : decode cX9_drift 56 = .ok (.ldc2_w 314, 3) := by decide +kernel
theorem dX9_drift_59 : decode cX9_drift 59 = .ok (.lreturn, 1) := by decide +kernel
theorem dX9_drift_60 : decode cX9_drift 60 = .ok (.aload_n 0, 1) := by decide +kernel
theorem dX9_drift_61 : decode cX9_drift 61 = .ok (.getfield 61, 3) := by decide +kernel
theorem dX9_drift_64 : decode cX9_drift 64 = .ok (.aload_n 0, 1) := by decide +kernel
theorem dX9_drift_65 : decode cX9_drift 65 = .ok (.getfield 10, 3) := by decide +kernel
theorem dX9_drift_68 : decode cX9_drift 68 = .ok (.iload_n 1, 1) := by decide +kernel
theorem dX9_drift_69 : decode cX9_drift 69 = .ok (.invokevirtual 112, 3) := by decide +kernel
theorem dX9_drift_72 : decode cX9_drift 72 = .ok (.aload_n 0, 1) := by decide +kernel
theorem dX9_drift_73 : decode cX9_drift 73 = .ok (.getfield 10, 3) := by decide +kernel
theorem dX9_drift_76 : decode cX9_drift 76 = .ok (.iload_n 1, 1) := by decide +kernel
theorem dX9_drift_77 : decode cX9_drift 77 = .ok (.invokevirtual 143, 3) := by decide +kernel
theorem dX9_drift_80 : decode cX9_drift 80 = .ok (.iconst 0, 1) := by decide +kernel
theorem dX9_drift_81 : decode cX9_drift 81 = .ok (.invokevirtual 190, 3) := by decide +kernel
theorem dX9_drift_84 : decode cX9_drift 84 = .ok (.ifCond .ne 7, 3) := by decide +kernel
theorem dX9_drift_87 : decode cX9_drift 87 = .ok (.ldc2_w 316, 3) := by decide +kernel
theorem dX9_drift_90 : decode cX9_drift 90 = .ok (.lreturn, 1) := by decide +kernel
theorem dX9_drift_91 : decode cX9_drift 91 = .ok (.aload_n 0, 1) := by decide +kernel
theorem dX9_drift_92 : decode cX9_drift 92 = .ok (.getfield 57, 3) := by decide +kernel
theorem dX9_drift_95 : decode cX9_drift 95 = .ok (.aload_n 0, 1) := by decide +kernel
theorem dX9_drift_96 : decode cX9_drift 96 = .ok (.getfield 10, 3) := by decide +kernel
theorem dX9_drift_99 : decode cX9_drift 99 = .ok (.iload_n 2, 1) := by decide +kernel
theorem dX9_drift_100 : decode cX9_drift 100 = .ok (.iconst 1, 1) := by decide +kernel
theorem dX9_drift_101 : decode cX9_drift 101 = .ok (.iload_n 3, 1) := by decide +kernel
theorem dX9_drift_102 : decode cX9_drift 102 = .ok (.invokevirtual 186, 3) := by decide +kernel
theorem dX9_drift_105 : decode cX9_drift 105 = .ok (.pop, 1) := by decide +kernel
theorem dX9_drift_106 : decode cX9_drift 106 = .ok (.aload_n 0, 1) := by decide +kernel
theorem dX9_drift_107 : decode cX9_drift 107 = .ok (.getfield 57, 3) := by decide +kernel
theorem dX9_drift_110 : decode cX9_drift 110 = .ok (.aload_n 0, 1) := by decide +kernel
theorem dX9_drift_111 : decode cX9_drift 111 = .ok (.getfield 10, 3) := by decide +kernel
theorem dX9_drift_114 : decode cX9_drift 114 = .ok (.iload_n 1, 1) := by decide +kernel
theorem dX9_drift_115 : decode cX9_drift 115 = .ok (.invokevirtual 112, 3) := by decide +kernel
theorem dX9_drift_118 : decode cX9_drift 118 = .ok (.aload_n 0, 1) := by decide +kernel
theorem dX9_drift_119 : decode cX9_drift 119 = .ok (.getfield 10, 3) := by decide +kernel
theorem dX9_drift_122 : decode cX9_drift 122 = .ok (.iload_n 1, 1) := by decide +kernel
theorem dX9_drift_123 : decode cX9_drift 123 = .ok (.invokevirtual 143, 3) := by decide +kernel
theorem dX9_drift_126 : decode cX9_drift 126 = .ok (.invokevirtual 202, 3) := by decide +kernel
theorem dX9_drift_129 : decode cX9_drift 129 = .ok (.iconst 0, 1) := by decide +kernel
theorem dX9_drift_130 : decode cX9_drift 130 = .ok (.istore 5, 2) := by decide +kernel
theorem dX9_drift_132 : decode cX9_drift 132 = .ok (.iload 5, 2) := by decide +kernel
theorem dX9_drift_134 : decode cX9_drift 134 = .ok (.iload 4, 2) := by decide +kernel
theorem dX9_drift_136 : decode cX9_drift 136 = .ok (.if_icmp .ge 38, 3) := by decide +kernel
theorem dX9_drift_139 : decode cX9_drift 139 = .ok (.aload_n 0, 1) := by decide +kernel
theorem dX9_drift_140 : decode cX9_drift 140 = .ok (.getfield 57, 3) := by decide +kernel
theorem dX9_drift_143 : decode cX9_drift 143 = .ok (.aload_n 0, 1) := by decide +kernel
theorem dX9_drift_144 : decode cX9_drift 144 = .ok (.getfield 57, 3) := by decide +kernel
theorem dX9_drift_147 : decode cX9_drift 147 = .ok (.getfield 194, 3) := by decide +kernel
theorem dX9_drift_150 : decode cX9_drift 150 = .ok (.aload_n 0, 1) := by decide +kernel
theorem dX9_drift_151 : decode cX9_drift 151 = .ok (.getfield 57, 3) := by decide +kernel
theorem dX9_drift_154 : decode cX9_drift 154 = .ok (.getfield 195, 3) := by decide +kernel
theorem dX9_drift_157 : decode cX9_drift 157 = .ok (.iconst 0, 1) := by decide +kernel
theorem dX9_drift_158 : decode cX9_drift 158 = .ok (.invokevirtual 190, 3) := by decide +kernel
theorem dX9_drift_161 : decode cX9_drift 161 = .ok (.ifCond .ne 7, 3) := by decide +kernel
theorem dX9_drift_164 : decode cX9_drift 164 = .ok (.ldc2_w 316, 3) := by decide +kernel
theorem dX9_drift_167 : decode cX9_drift 167 = .ok (.lreturn, 1) := by decide +kernel
theorem dX9_drift_168 : decode cX9_drift 168 = .ok (.iinc 5 1, 3) := by decide +kernel
theorem dX9_drift_171 : decode cX9_drift 171 = .ok (.goto (-39), 3) := by decide +kernel
theorem dX9_drift_174 : decode cX9_drift 174 = .ok (.aload_n 0, 1) := by decide +kernel
theorem dX9_drift_175 : decode cX9_drift 175 = .ok (.getfield 26, 3) := by decide +kernel
theorem dX9_drift_178 : decode cX9_drift 178 = .ok (.aload_n 0, 1) := by decide +kernel
theorem dX9_drift_179 : decode cX9_drift 179 = .ok (.getfield 57, 3) := by decide +kernel
theorem dX9_drift_182 : decode cX9_drift 182 = .ok (.invokevirtual 223, 3) := by decide +kernel
theorem dX9_drift_185 : decode cX9_drift 185 = .ok (.aload_n 0, 1) := by decide +kernel
theorem dX9_drift_186 : decode cX9_drift 186 = .ok (.getfield 61, 3) := by decide +kernel
theorem dX9_drift_189 : decode cX9_drift 189 = .ok (.invokevirtual 223, 3) := by decide +kernel
theorem dX9_drift_192 : decode cX9_drift 192 = .ok (.invokevirtual 199, 3) := by decide +kernel
theorem dX9_drift_195 : decode cX9_drift 195 = .ok (.aload_n 0, 1) := by decide +kernel
theorem dX9_drift_196 : decode cX9_drift 196 = .ok (.getfield 57, 3) := by decide +kernel
theorem dX9_drift_199 : decode cX9_drift 199 = .ok (.invokevirtual 223, 3) := by decide +kernel
theorem dX9_drift_202 : decode cX9_drift 202 = .ok (.aload_n 0, 1) := by decide +kernel
theorem dX9_drift_203 : decode cX9_drift 203 = .ok (.getfield 61, 3) := by decide +kernel
theorem dX9_drift_206 : decode cX9_drift 206 = .ok (.invokevirtual 223, 3) := by decide +kernel
theorem dX9_drift_209 : decode cX9_drift 209 = .ok (.lsub, 1) := by decide +kernel
theorem dX9_drift_210 : decode cX9_drift 210 = .ok (.lreturn, 1) := by decide +kernel
theorem dX9_runs_0 : decode cX9_runs 0 = .ok (.iload_n 1, 1) := by decide +kernel
theorem dX9_runs_1 : decode cX9_runs 1 = .ok (.invokestatic 93, 3) := by decide +kernel
theorem dX9_runs_4 : decode cX9_runs 4 = .ok (.ifCond .eq 31, 3) := by decide +kernel
theorem dX9_runs_7 : decode cX9_runs 7 = .ok (.iload_n 2, 1) := by decide +kernel
theorem dX9_runs_8 : decode cX9_runs 8 = .ok (.invokestatic 93, 3) := by decide +kernel
theorem dX9_runs_11 : decode cX9_runs 11 = .ok (.ifCond .eq 24, 3) := by decide +kernel
theorem dX9_runs_14 : decode cX9_runs 14 = .ok (.iload_n 3, 1) := by decide +kernel
theorem dX9_runs_15 : decode cX9_runs 15 = .ok (.invokestatic 180, 3) := by decide +kernel
theorem dX9_runs_18 : decode cX9_runs 18 = .ok (.ifCond .eq 17, 3) := by decide +kernel
theorem dX9_runs_21 : decode cX9_runs 21 = .ok (.iload 4, 2) := by decide +kernel
theorem dX9_runs_23 : decode cX9_runs 23 = .ok (.iconst 1, 1) := by decide +kernel
theorem dX9_runs_24 : decode cX9_runs 24 = .ok (.if_icmp .lt 11, 3) := by decide +kernel
theorem dX9_runs_27 : decode cX9_runs 27 = .ok (.iload 4, 2) := by decide +kernel
theorem dX9_runs_29 : decode cX9_runs 29 = .ok (.sipush 1000, 3) := by decide +kernel
theorem dX9_runs_32 : decode cX9_runs 32 = .ok (.if_icmp .le 7, 3) := by decide +kernel
theorem dX9_runs_35 : decode cX9_runs 35 = .ok (.ldc2_w 253, 3) := by decide +kernel
theorem dX9_runs_38 : decode cX9_runs 38 = .ok (.lreturn, 1) := by decide +kernel
theorem dX9_runs_39 : decode cX9_runs 39 = .ok (.aload_n 0, 1) := by decide +kernel
theorem dX9_runs_40 : decode cX9_runs 40 = .ok (.getfield 57, 3) := by decide +kernel
theorem dX9_runs_43 : decode cX9_runs 43 = .ok (.aload_n 0, 1) := by decide +kernel
theorem dX9_runs_44 : decode cX9_runs 44 = .ok (.getfield 10, 3) := by decide +kernel
theorem dX9_runs_47 : decode cX9_runs 47 = .ok (.iload_n 2, 1) := by decide +kernel
theorem dX9_runs_48 : decode cX9_runs 48 = .ok (.iload 4, 2) := by decide +kernel
theorem dX9_runs_50 : decode cX9_runs 50 = .ok (.iload_n 3, 1) := by decide +kernel
theorem dX9_runs_51 : decode cX9_runs 51 = .ok (.invokevirtual 186, 3) := by decide +kernel
theorem dX9_runs_54 : decode cX9_runs 54 = .ok (.ifCond .ne 7, 3) := by decide +kernel
theorem dX9_runs_57 : decode cX9_runs 57 = .ok (.ldc2_w 314, 3) := by decide +kernel
theorem dX9_runs_60 : decode cX9_runs 60 = .ok (.lreturn, 1) := by decide +kernel
theorem dX9_runs_61 : decode cX9_runs 61 = .ok (.aload_n 0, 1) := by decide +kernel
theorem dX9_runs_62 : decode cX9_runs 62 = .ok (.getfield 10, 3) := by decide +kernel
theorem dX9_runs_65 : decode cX9_runs 65 = .ok (.iload_n 1, 1) := by decide +kernel
theorem dX9_runs_66 : decode cX9_runs 66 = .ok (.invokevirtual 212, 3) := by decide +kernel
theorem dX9_runs_69 : decode cX9_runs 69 = .ok (.lstore 5, 2) := by decide +kernel
theorem dX9_runs_71 : decode cX9_runs 71 = .ok (.aload_n 0, 1) := by decide +kernel
theorem dX9_runs_72 : decode cX9_runs 72 = .ok (.getfield 74, 3) := by decide +kernel
theorem dX9_runs_75 : decode cX9_runs 75 = .ok (.invokevirtual 269, 3) := by decide +kernel
theorem dX9_runs_78 : decode cX9_runs 78 = .ok (.iconst 1, 1) := by decide +kernel
theorem dX9_runs_79 : decode cX9_runs 79 = .ok (.istore 7, 2) := by decide +kernel
theorem dX9_runs_81 : decode cX9_runs 81 = .ok (.iload 7, 2) := by decide +kernel
theorem dX9_runs_83 : decode cX9_runs 83 = .ok (.iload 4, 2) := by decide +kernel
theorem dX9_runs_85 : decode cX9_runs 85 = .ok (.if_icmp .gt 55, 3) := by decide +kernel
theorem dX9_runs_88 : decode cX9_runs 88 = .ok (.aload_n 0, 1) := by decide +kernel
theorem dX9_runs_89 : decode cX9_runs 89 = .ok (.iload_n 1, 1) := by decide +kernel
theorem dX9_runs_90 : decode cX9_runs 90 = .ok (.iload_n 2, 1) := by decide +kernel
theorem dX9_runs_91 : decode cX9_runs 91 = .ok (.iload_n 3, 1) := by decide +kernel
theorem dX9_runs_92 : decode cX9_runs 92 = .ok (.iload 7, 2) := by decide +kernel
theorem dX9_runs_94 : decode cX9_runs 94 = .ok (.invokevirtual 318, 3) := by decide +kernel
theorem dX9_runs_97 : decode cX9_runs 97 = .ok (.ifCond .ne 7, 3) := by decide +kernel
theorem dX9_runs_100 : decode cX9_runs 100 = .ok (.ldc2_w 316, 3) := by decide +kernel
theorem dX9_runs_103 : decode cX9_runs 103 = .ok (.lreturn, 1) := by decide +kernel
theorem dX9_runs_104 : decode cX9_runs 104 = .ok (.aload_n 0, 1) := by decide +kernel
theorem dX9_runs_105 : decode cX9_runs 105 = .ok (.getfield 74, 3) := by decide +kernel
theorem dX9_runs_108 : decode cX9_runs 108 = .ok (.iload 7, 2) := by decide +kernel
theorem dX9_runs_110 : decode cX9_runs 110 = .ok (.iconst 1, 1) := by decide +kernel
theorem dX9_runs_111 : decode cX9_runs 111 = .ok (.isub, 1) := by decide +kernel
theorem dX9_runs_112 : decode cX9_runs 112 = .ok (.aload_n 0, 1) := by decide +kernel
theorem dX9_runs_113 : decode cX9_runs 113 = .ok (.getfield 57, 3) := by decide +kernel
theorem dX9_runs_116 : decode cX9_runs 116 = .ok (.invokevirtual 223, 3) := by decide +kernel
theorem dX9_runs_119 : decode cX9_runs 119 = .ok (.lload 5, 2) := by decide +kernel
theorem dX9_runs_121 : decode cX9_runs 121 = .ok (.lsub, 1) := by decide +kernel
theorem dX9_runs_122 : decode cX9_runs 122 = .ok (.invokevirtual 321, 3) := by decide +kernel
theorem dX9_runs_125 : decode cX9_runs 125 = .ok (.aload_n 0, 1) := by decide +kernel
theorem dX9_runs_126 : decode cX9_runs 126 = .ok (.getfield 57, 3) := by decide +kernel
theorem dX9_runs_129 : decode cX9_runs 129 = .ok (.invokevirtual 223, 3) := by decide +kernel
theorem dX9_runs_132 : decode cX9_runs 132 = .ok (.lstore 5, 2) := by decide +kernel
theorem dX9_runs_134 : decode cX9_runs 134 = .ok (.iinc 7 1, 3) := by decide +kernel
theorem dX9_runs_137 : decode cX9_runs 137 = .ok (.goto (-56), 3) := by decide +kernel
theorem dX9_runs_140 : decode cX9_runs 140 = .ok (.aload_n 0, 1) := by decide +kernel
theorem dX9_runs_141 : decode cX9_runs 141 = .ok (.getfield 26, 3) := by decide +kernel
theorem dX9_runs_144 : decode cX9_runs 144 = .ok (.aload_n 0, 1) := by decide +kernel
theorem dX9_runs_145 : decode cX9_runs 145 = .ok (.getfield 74, 3) := by decide +kernel
theorem dX9_runs_148 : decode cX9_runs 148 = .ok (.getfield 282, 3) := by decide +kernel
theorem dX9_runs_151 : decode cX9_runs 151 = .ok (.aload_n 0, 1) := by decide +kernel
theorem dX9_runs_152 : decode cX9_runs 152 = .ok (.getfield 74, 3) := by decide +kernel
theorem dX9_runs_155 : decode cX9_runs 155 = .ok (.getfield 285, 3) := by decide +kernel
theorem dX9_runs_158 : decode cX9_runs 158 = .ok (.i2l, 1) := by decide +kernel
theorem dX9_runs_159 : decode cX9_runs 159 = .ok (.aload_n 0, 1) := by decide +kernel
theorem dX9_runs_160 : decode cX9_runs 160 = .ok (.getfield 74, 3) := by decide +kernel
theorem dX9_runs_163 : decode cX9_runs 163 = .ok (.getfield 288, 3) := by decide +kernel
theorem dX9_runs_166 : decode cX9_runs 166 = .ok (.i2l, 1) := by decide +kernel
theorem dX9_runs_167 : decode cX9_runs 167 = .ok (.invokevirtual 209, 3) := by decide +kernel
theorem dX9_runs_170 : decode cX9_runs 170 = .ok (.aload_n 0, 1) := by decide +kernel
theorem dX9_runs_171 : decode cX9_runs 171 = .ok (.getfield 74, 3) := by decide +kernel
theorem dX9_runs_174 : decode cX9_runs 174 = .ok (.getfield 278, 3) := by decide +kernel
theorem dX9_runs_177 : decode cX9_runs 177 = .ok (.lreturn, 1) := by decide +kernel
theorem dX9_next_0 : decode cX9_next 0 = .ok (.iload_n 1, 1) := by decide +kernel
theorem dX9_next_1 : decode cX9_next 1 = .ok (.invokestatic 93, 3) := by decide +kernel
theorem dX9_next_4 : decode cX9_next 4 = .ok (.ifCond .eq 25, 3) := by decide +kernel
theorem dX9_next_7 : decode cX9_next 7 = .ok (.iload_n 2, 1) := by decide +kernel
theorem dX9_next_8 : decode cX9_next 8 = .ok (.invokestatic 93, 3) := by decide +kernel
theorem dX9_next_11 : decode cX9_next 11 = .ok (.ifCond .eq 18, 3) := by decide +kernel
theorem dX9_next_14 : decode cX9_next 14 = .ok (.iload_n 3, 1) := by decide +kernel
theorem dX9_next_15 : decode cX9_next 15 = .ok (.invokestatic 180, 3) := by decide +kernel
theorem dX9_next_18 : decode cX9_next 18 = .ok (.ifCond .eq 11, 3) := by decide +kernel
theorem dX9_next_21 : decode cX9_next 21 = .ok (.iload 4, 2) := by decide +kernel
theorem dX9_next_23 : decode cX9_next 23 = .ok (.invokestatic 93, 3) := by decide +kernel
theorem dX9_next_26 : decode cX9_next 26 = .ok (.ifCond .ne 5, 3) := by decide +kernel
theorem dX9_next_29 : decode cX9_next 29 = .ok (.iconst (-1), 1) := by decide +kernel
theorem dX9_next_30 : decode cX9_next 30 = .ok (.ireturn, 1) := by decide +kernel
theorem dX9_next_31 : decode cX9_next 31 = .ok (.aload_n 0, 1) := by decide +kernel
theorem dX9_next_32 : decode cX9_next 32 = .ok (.getfield 10, 3) := by decide +kernel
theorem dX9_next_35 : decode cX9_next 35 = .ok (.iload 4, 2) := by decide +kernel
theorem dX9_next_37 : decode cX9_next 37 = .ok (.invokevirtual 212, 3) := by decide +kernel
theorem dX9_next_40 : decode cX9_next 40 = .ok (.lstore 5, 2) := by decide +kernel
theorem dX9_next_42 : decode cX9_next 42 = .ok (.iconst 0, 1) := by decide +kernel
theorem dX9_next_43 : decode cX9_next 43 = .ok (.istore 7, 2) := by decide +kernel
theorem dX9_next_45 : decode cX9_next 45 = .ok (.iload 7, 2) := by decide +kernel
theorem dX9_next_47 : decode cX9_next 47 = .ok (.sipush 10000, 3) := by decide +kernel
theorem dX9_next_50 : decode cX9_next 50 = .ok (.if_icmp .gt 60, 3) := by decide +kernel
theorem dX9_next_53 : decode cX9_next 53 = .ok (.aload_n 0, 1) := by decide +kernel
theorem dX9_next_54 : decode cX9_next 54 = .ok (.iload_n 1, 1) := by decide +kernel
theorem dX9_next_55 : decode cX9_next 55 = .ok (.iload_n 2, 1) := by decide +kernel
theorem dX9_next_56 : decode cX9_next 56 = .ok (.iload_n 3, 1) := by decide +kernel
theorem dX9_next_57 : decode cX9_next 57 = .ok (.iload 7, 2) := by decide +kernel
theorem dX9_next_59 : decode cX9_next 59 = .ok (.invokevirtual 318, 3) := by decide +kernel
theorem dX9_next_62 : decode cX9_next 62 = .ok (.ifCond .eq 42, 3) := by decide +kernel
theorem dX9_next_65 : decode cX9_next 65 = .ok (.aload_n 0, 1) := by decide +kernel
theorem dX9_next_66 : decode cX9_next 66 = .ok (.getfield 57, 3) := by decide +kernel
theorem dX9_next_69 : decode cX9_next 69 = .ok (.invokevirtual 223, 3) := by decide +kernel
theorem dX9_next_72 : decode cX9_next 72 = .ok (.lload 5, 2) := by decide +kernel
theorem dX9_next_74 : decode cX9_next 74 = .ok (.lcmp, 1) := by decide +kernel
theorem dX9_next_75 : decode cX9_next 75 = .ok (.ifCond .lt 29, 3) := by decide +kernel
theorem dX9_next_78 : decode cX9_next 78 = .ok (.aload_n 0, 1) := by decide +kernel
theorem dX9_next_79 : decode cX9_next 79 = .ok (.getfield 26, 3) := by decide +kernel
theorem dX9_next_82 : decode cX9_next 82 = .ok (.aload_n 0, 1) := by decide +kernel
theorem dX9_next_83 : decode cX9_next 83 = .ok (.getfield 57, 3) := by decide +kernel
theorem dX9_next_86 : decode cX9_next 86 = .ok (.getfield 194, 3) := by decide +kernel
theorem dX9_next_89 : decode cX9_next 89 = .ok (.i2l, 1) := by decide +kernel
theorem dX9_next_90 : decode cX9_next 90 = .ok (.aload_n 0, 1) := by decide +kernel
theorem dX9_next_91 : decode cX9_next 91 = .ok (.getfield 57, 3) := by decide +kernel
theorem dX9_next_94 : decode cX9_next 94 = .ok (.getfield 195, 3) := by decide +kernel
theorem dX9_next_97 : decode cX9_next 97 = .ok (.i2l, 1) := by decide +kernel
theorem dX9_next_98 : decode cX9_next 98 = .ok (.invokevirtual 199, 3) := by decide +kernel
theorem dX9_next_101 : decode cX9_next 101 = .ok (.iload 7, 2) := by decide +kernel
theorem dX9_next_103 : decode cX9_next 103 = .ok (.ireturn, 1) := by decide +kernel
theorem dX9_next_104 : decode cX9_next 104 = .ok (.iinc 7 1, 3) := by decide +kernel
theorem dX9_next_107 : decode cX9_next 107 = .ok (.goto (-62), 3) := by decide +kernel
theorem dX9_next_110 : decode cX9_next 110 = .ok (.bipush (-2), 2) := by decide +kernel
theorem dX9_next_112 : decode cX9_next 112 = .ok (.ireturn, 1) := by decide +kernel
theorem dX9_falls_0 : decode cX9_falls 0 = .ok (.iload_n 1, 1) := by decide +kernel
theorem dX9_falls_1 : decode cX9_falls 1 = .ok (.invokestatic 93, 3) := by decide +kernel
theorem dX9_falls_4 : decode cX9_falls 4 = .ok (.ifCond .eq 38, 3) := by decide +kernel
theorem dX9_falls_7 : decode cX9_falls 7 = .ok (.iload_n 2, 1) := by decide +kernel
theorem dX9_falls_8 : decode cX9_falls 8 = .ok (.invokestatic 93, 3) := by decide +kernel
theorem dX9_falls_11 : decode cX9_falls 11 = .ok (.ifCond .eq 31, 3) := by decide +kernel
theorem dX9_falls_14 : decode cX9_falls 14 = .ok (.iload_n 3, 1) := by decide +kernel
theorem dX9_falls_15 : decode cX9_falls 15 = .ok (.invokestatic 180, 3) := by decide +kernel
theorem dX9_falls_18 : decode cX9_falls 18 = .ok (.ifCond .eq 24, 3) := by decide +kernel
theorem dX9_falls_21 : decode cX9_falls 21 = .ok (.iload 4, 2) := by decide +kernel
theorem dX9_falls_23 : decode cX9_falls 23 = .ok (.ifCond .lt 19, 3) := by decide +kernel
theorem dX9_falls_26 : decode cX9_falls 26 = .ok (.iload 4, 2) := by decide +kernel
theorem dX9_falls_28 : decode cX9_falls 28 = .ok (.sipush 1000, 3) := by decide +kernel
theorem dX9_falls_31 : decode cX9_falls 31 = .ok (.if_icmp .gt 11, 3) := by decide +kernel
theorem dX9_falls_34 : decode cX9_falls 34 = .ok (.iload 5, 2) := by decide +kernel
theorem dX9_falls_36 : decode cX9_falls 36 = .ok (.invokestatic 324, 3) := by decide +kernel
theorem dX9_falls_39 : decode cX9_falls 39 = .ok (.ifCond .ne 5, 3) := by decide +kernel
theorem dX9_falls_42 : decode cX9_falls 42 = .ok (.iconst (-1), 1) := by decide +kernel
theorem dX9_falls_43 : decode cX9_falls 43 = .ok (.ireturn, 1) := by decide +kernel
theorem dX9_falls_44 : decode cX9_falls 44 = .ok (.iconst 0, 1) := by decide +kernel
theorem dX9_falls_45 : decode cX9_falls 45 = .ok (.istore 6, 2) := by decide +kernel
theorem dX9_falls_47 : decode cX9_falls 47 = .ok (.iconst (-1), 1) := by decide +kernel
theorem dX9_falls_48 : decode cX9_falls 48 = .ok (.istore 7, 2) := by decide +kernel
theorem dX9_falls_50 : decode cX9_falls 50 = .ok (.iconst 0, 1) := by decide +kernel
theorem dX9_falls_51 : decode cX9_falls 51 = .ok (.istore 8, 2) := by decide +kernel
theorem dX9_falls_53 : decode cX9_falls 53 = .ok (.iload 8, 2) := by decide +kernel
theorem dX9_falls_55 : decode cX9_falls 55 = .ok (.iload 4, 2) := by decide +kernel
theorem dX9_falls_57 : decode cX9_falls 57 = .ok (.if_icmp .gt 48, 3) := by decide +kernel
theorem dX9_falls_60 : decode cX9_falls 60 = .ok (.aload_n 0, 1) := by decide +kernel
theorem dX9_falls_61 : decode cX9_falls 61 = .ok (.iload_n 1, 1) := by decide +kernel
theorem dX9_falls_62 : decode cX9_falls 62 = .ok (.iload_n 2, 1) := by decide +kernel
theorem dX9_falls_63 : decode cX9_falls 63 = .ok (.iload_n 3, 1) := by decide +kernel
theorem dX9_falls_64 : decode cX9_falls 64 = .ok (.iload 8, 2) := by decide +kernel
theorem dX9_falls_66 : decode cX9_falls 66 = .ok (.invokevirtual 318, 3) := by decide +kernel
theorem dX9_falls_69 : decode cX9_falls 69 = .ok (.ifCond .eq 30, 3) := by decide +kernel
theorem dX9_falls_72 : decode cX9_falls 72 = .ok (.aload_n 0, 1) := by decide +kernel
theorem dX9_falls_73 : decode cX9_falls 73 = .ok (.getfield 57, 3) := by decide +kernel
theorem dX9_falls_76 : decode cX9_falls 76 = .ok (.getfield 194, 3) := by decide +kernel
theorem dX9_falls_79 : decode cX9_falls 79 = .ok (.invokestatic 146, 3) := by decide +kernel
theorem dX9_falls_82 : decode cX9_falls 82 = .ok (.iload 5, 2) := by decide +kernel
theorem dX9_falls_84 : decode cX9_falls 84 = .ok (.if_icmp .ne 15, 3) := by decide +kernel
theorem dX9_falls_87 : decode cX9_falls 87 = .ok (.iload 6, 2) := by decide +kernel
theorem dX9_falls_89 : decode cX9_falls 89 = .ok (.ifCond .ne 7, 3) := by decide +kernel
theorem dX9_falls_92 : decode cX9_falls 92 = .ok (.iload 8, 2) := by decide +kernel
theorem dX9_falls_94 : decode cX9_falls 94 = .ok (.istore 7, 2) := by decide +kernel
theorem dX9_falls_96 : decode cX9_falls 96 = .ok (.iinc 6 1, 3) := by decide +kernel
theorem dX9_falls_99 : decode cX9_falls 99 = .ok (.iinc 8 1, 3) := by decide +kernel
theorem dX9_falls_102 : decode cX9_falls 102 = .ok (.goto (-49), 3) := by decide +kernel
theorem dX9_falls_105 : decode cX9_falls 105 = .ok (.aload_n 0, 1) := by decide +kernel
theorem dX9_falls_106 : decode cX9_falls 106 = .ok (.getfield 26, 3) := by decide +kernel
theorem dX9_falls_109 : decode cX9_falls 109 = .ok (.iload 7, 2) := by decide +kernel
theorem dX9_falls_111 : decode cX9_falls 111 = .ok (.i2l, 1) := by decide +kernel
theorem dX9_falls_112 : decode cX9_falls 112 = .ok (.invokevirtual 176, 3) := by decide +kernel
theorem dX9_falls_115 : decode cX9_falls 115 = .ok (.iload 6, 2) := by decide +kernel
theorem dX9_falls_117 : decode cX9_falls 117 = .ok (.ireturn, 1) := by decide +kernel
theorem dX9_leadsAtOnce_0 : decode cX9_leadsAtOnce 0 = .ok (.aload_n 0, 1) := by decide +kernel
theorem dX9_leadsAtOnce_1 : decode cX9_leadsAtOnce 1 = .ok (.getfield 57, 3) := by decide +kernel
theorem dX9_leadsAtOnce_4 : decode cX9_leadsAtOnce 4 = .ok (.aload_n 0, 1) := by decide +kernel
theorem dX9_leadsAtOnce_5 : decode cX9_leadsAtOnce 5 = .ok (.getfield 10, 3) := by decide +kernel
theorem dX9_leadsAtOnce_8 : decode cX9_leadsAtOnce 8 = .ok (.iload_n 2, 1) := by decide +kernel
theorem dX9_leadsAtOnce_9 : decode cX9_leadsAtOnce 9 = .ok (.iload 4, 2) := by decide +kernel
theorem dX9_leadsAtOnce_11 : decode cX9_leadsAtOnce 11 = .ok (.iload_n 3, 1) := by decide +kernel
theorem dX9_leadsAtOnce_12 : decode cX9_leadsAtOnce 12 = .ok (.invokevirtual 186, 3) := by decide +kernel
theorem dX9_leadsAtOnce_15 : decode cX9_leadsAtOnce 15 = .ok (.ifCond .eq 34, 3) := by decide +kernel
theorem dX9_leadsAtOnce_18 : decode cX9_leadsAtOnce 18 = .ok (.aload_n 0, 1) := by decide +kernel
theorem dX9_leadsAtOnce_19 : decode cX9_leadsAtOnce 19 = .ok (.getfield 57, 3) := by decide +kernel
theorem dX9_leadsAtOnce_22 : decode cX9_leadsAtOnce 22 = .ok (.aload_n 0, 1) := by decide +kernel
theorem dX9_leadsAtOnce_23 : decode cX9_leadsAtOnce 23 = .ok (.getfield 10, 3) := by decide +kernel
theorem dX9_leadsAtOnce_26 : decode cX9_leadsAtOnce 26 = .ok (.iload_n 1, 1) := by decide +kernel
theorem dX9_leadsAtOnce_27 : decode cX9_leadsAtOnce 27 = .ok (.invokevirtual 112, 3) := by decide +kernel
theorem dX9_leadsAtOnce_30 : decode cX9_leadsAtOnce 30 = .ok (.aload_n 0, 1) := by decide +kernel
theorem dX9_leadsAtOnce_31 : decode cX9_leadsAtOnce 31 = .ok (.getfield 10, 3) := by decide +kernel
theorem dX9_leadsAtOnce_34 : decode cX9_leadsAtOnce 34 = .ok (.iload_n 1, 1) := by decide +kernel
theorem dX9_leadsAtOnce_35 : decode cX9_leadsAtOnce 35 = .ok (.invokevirtual 143, 3) := by decide +kernel
theorem dX9_leadsAtOnce_38 : decode cX9_leadsAtOnce 38 = .ok (.iconst 0, 1) := by decide +kernel
theorem dX9_leadsAtOnce_39 : decode cX9_leadsAtOnce 39 = .ok (.invokevirtual 190, 3) := by decide +kernel
theorem dX9_leadsAtOnce_42 : decode cX9_leadsAtOnce 42 = .ok (.ifCond .eq 7, 3) := by decide +kernel
theorem dX9_leadsAtOnce_45 : decode cX9_leadsAtOnce 45 = .ok (.iconst 1, 1) := by decide +kernel
theorem dX9_leadsAtOnce_46 : decode cX9_leadsAtOnce 46 = .ok (.goto 4, 3) := by decide +kernel
theorem dX9_leadsAtOnce_49 : decode cX9_leadsAtOnce 49 = .ok (.iconst 0, 1) := by decide +kernel
theorem dX9_leadsAtOnce_50 : decode cX9_leadsAtOnce 50 = .ok (.ireturn, 1) := by decide +kernel
theorem dX9_nth_0 : decode cX9_nth 0 = .ok (.iload_n 1, 1) := by decide +kernel
theorem dX9_nth_1 : decode cX9_nth 1 = .ok (.invokestatic 170, 3) := by decide +kernel
theorem dX9_nth_4 : decode cX9_nth 4 = .ok (.ifCond .eq 35, 3) := by decide +kernel
theorem dX9_nth_7 : decode cX9_nth 7 = .ok (.iload_n 2, 1) := by decide +kernel
theorem dX9_nth_8 : decode cX9_nth 8 = .ok (.invokestatic 173, 3) := by decide +kernel
theorem dX9_nth_11 : decode cX9_nth 11 = .ok (.ifCond .eq 28, 3) := by decide +kernel
theorem dX9_nth_14 : decode cX9_nth 14 = .ok (.iload_n 3, 1) := by decide +kernel
theorem dX9_nth_15 : decode cX9_nth 15 = .ok (.invokestatic 324, 3) := by decide +kernel
theorem dX9_nth_18 : decode cX9_nth 18 = .ok (.ifCond .eq 21, 3) := by decide +kernel
theorem dX9_nth_21 : decode cX9_nth 21 = .ok (.iload 4, 2) := by decide +kernel
theorem dX9_nth_23 : decode cX9_nth 23 = .ok (.ifCond .eq 16, 3) := by decide +kernel
theorem dX9_nth_26 : decode cX9_nth 26 = .ok (.iload 4, 2) := by decide +kernel
theorem dX9_nth_28 : decode cX9_nth 28 = .ok (.bipush (-5), 2) := by decide +kernel
theorem dX9_nth_30 : decode cX9_nth 30 = .ok (.if_icmp .lt 9, 3) := by decide +kernel
theorem dX9_nth_33 : decode cX9_nth 33 = .ok (.iload 4, 2) := by decide +kernel
theorem dX9_nth_35 : decode cX9_nth 35 = .ok (.iconst 5, 1) := by decide +kernel
theorem dX9_nth_36 : decode cX9_nth 36 = .ok (.if_icmp .le 5, 3) := by decide +kernel
theorem dX9_nth_39 : decode cX9_nth 39 = .ok (.iconst (-1), 1) := by decide +kernel
theorem dX9_nth_40 : decode cX9_nth 40 = .ok (.ireturn, 1) := by decide +kernel
theorem dX9_nth_41 : decode cX9_nth 41 = .ok (.iload_n 1, 1) := by decide +kernel
theorem dX9_nth_42 : decode cX9_nth 42 = .ok (.iload_n 2, 1) := by decide +kernel
theorem dX9_nth_43 : decode cX9_nth 43 = .ok (.iconst 1, 1) := by decide +kernel
theorem dX9_nth_44 : decode cX9_nth 44 = .ok (.invokestatic 149, 3) := by decide +kernel
theorem dX9_nth_47 : decode cX9_nth 47 = .ok (.istore 5, 2) := by decide +kernel
theorem dX9_nth_49 : decode cX9_nth 49 = .ok (.iload 5, 2) := by decide +kernel
theorem dX9_nth_51 : decode cX9_nth 51 = .ok (.iload_n 1, 1) := by decide +kernel
theorem dX9_nth_52 : decode cX9_nth 52 = .ok (.iload_n 2, 1) := by decide +kernel
theorem dX9_nth_53 : decode cX9_nth 53 = .ok (.invokestatic 153, 3) := by decide +kernel
theorem dX9_nth_56 : decode cX9_nth 56 = .ok (.iadd, 1) := by decide +kernel
theorem dX9_nth_57 : decode cX9_nth 57 = .ok (.iconst 1, 1) := by decide +kernel
theorem dX9_nth_58 : decode cX9_nth 58 = .ok (.isub, 1) := by decide +kernel
theorem dX9_nth_59 : decode cX9_nth 59 = .ok (.istore 6, 2) := by decide +kernel
theorem dX9_nth_61 : decode cX9_nth 61 = .ok (.iload 4, 2) := by decide +kernel
theorem dX9_nth_63 : decode cX9_nth 63 = .ok (.ifCond .le 30, 3) := by decide +kernel
theorem dX9_nth_66 : decode cX9_nth 66 = .ok (.iload 5, 2) := by decide +kernel
theorem dX9_nth_68 : decode cX9_nth 68 = .ok (.iload_n 3, 1) := by decide +kernel
theorem dX9_nth_69 : decode cX9_nth 69 = .ok (.iload 5, 2) := by decide +kernel
theorem dX9_nth_71 : decode cX9_nth 71 = .ok (.invokestatic 146, 3) := by decide +kernel
theorem dX9_nth_74 : decode cX9_nth 74 = .ok (.isub, 1) := by decide +kernel
theorem dX9_nth_75 : decode cX9_nth 75 = .ok (.bipush 7, 2) := by decide +kernel
theorem dX9_nth_77 : decode cX9_nth 77 = .ok (.iadd, 1) := by decide +kernel
theorem dX9_nth_78 : decode cX9_nth 78 = .ok (.bipush 7, 2) := by decide +kernel
theorem dX9_nth_80 : decode cX9_nth 80 = .ok (.irem, 1) := by decide +kernel
theorem dX9_nth_81 : decode cX9_nth 81 = .ok (.iadd, 1) := by decide +kernel
theorem dX9_nth_82 : decode cX9_nth 82 = .ok (.bipush 7, 2) := by decide +kernel
theorem dX9_nth_84 : decode cX9_nth 84 = .ok (.iload 4, 2) := by decide +kernel
theorem dX9_nth_86 : decode cX9_nth 86 = .ok (.iconst 1, 1) := by decide +kernel
theorem dX9_nth_87 : decode cX9_nth 87 = .ok (.isub, 1) := by decide +kernel
theorem dX9_nth_88 : decode cX9_nth 88 = .ok (.imul, 1) := by decide +kernel
theorem dX9_nth_89 : decode cX9_nth 89 = .ok (.iadd, 1) := by decide +kernel
theorem dX9_nth_90 : decode cX9_nth 90 = .ok (.goto 27, 3) := by decide +kernel
theorem dX9_nth_93 : decode cX9_nth 93 = .ok (.iload 6, 2) := by decide +kernel
theorem dX9_nth_95 : decode cX9_nth 95 = .ok (.iload 6, 2) := by decide +kernel
theorem dX9_nth_97 : decode cX9_nth 97 = .ok (.invokestatic 146, 3) := by decide +kernel
theorem dX9_nth_100 : decode cX9_nth 100 = .ok (.iload_n 3, 1) := by decide +kernel
theorem dX9_nth_101 : decode cX9_nth 101 = .ok (.isub, 1) := by decide +kernel
theorem dX9_nth_102 : decode cX9_nth 102 = .ok (.bipush 7, 2) := by decide +kernel
theorem dX9_nth_104 : decode cX9_nth 104 = .ok (.iadd, 1) := by decide +kernel
theorem dX9_nth_105 : decode cX9_nth 105 = .ok (.bipush 7, 2) := by decide +kernel
theorem dX9_nth_107 : decode cX9_nth 107 = .ok (.irem, 1) := by decide +kernel
theorem dX9_nth_108 : decode cX9_nth 108 = .ok (.isub, 1) := by decide +kernel
theorem dX9_nth_109 : decode cX9_nth 109 = .ok (.bipush 7, 2) := by decide +kernel
theorem dX9_nth_111 : decode cX9_nth 111 = .ok (.iload 4, 2) := by decide +kernel
theorem dX9_nth_113 : decode cX9_nth 113 = .ok (.iconst 1, 1) := by decide +kernel
theorem dX9_nth_114 : decode cX9_nth 114 = .ok (.iadd, 1) := by decide +kernel
theorem dX9_nth_115 : decode cX9_nth 115 = .ok (.imul, 1) := by decide +kernel
theorem dX9_nth_116 : decode cX9_nth 116 = .ok (.iadd, 1) := by decide +kernel
theorem dX9_nth_117 : decode cX9_nth 117 = .ok (.istore 7, 2) := by decide +kernel
theorem dX9_nth_119 : decode cX9_nth 119 = .ok (.iload 7, 2) := by decide +kernel
theorem dX9_nth_121 : decode cX9_nth 121 = .ok (.iload 5, 2) := by decide +kernel
theorem dX9_nth_123 : decode cX9_nth 123 = .ok (.if_icmp .lt 10, 3) := by decide +kernel
theorem dX9_nth_126 : decode cX9_nth 126 = .ok (.iload 7, 2) := by decide +kernel
theorem dX9_nth_128 : decode cX9_nth 128 = .ok (.iload 6, 2) := by decide +kernel
theorem dX9_nth_130 : decode cX9_nth 130 = .ok (.if_icmp .le 8, 3) := by decide +kernel
theorem dX9_nth_133 : decode cX9_nth 133 = .ok (.bipush (-2), 2) := by decide +kernel
theorem dX9_nth_135 : decode cX9_nth 135 = .ok (.goto 5, 3) := by decide +kernel
theorem dX9_nth_138 : decode cX9_nth 138 = .ok (.iload 7, 2) := by decide +kernel
theorem dX9_nth_140 : decode cX9_nth 140 = .ok (.ireturn, 1) := by decide +kernel
theorem dX9_workdays_0 : decode cX9_workdays 0 = .ok (.iload_n 1, 1) := by decide +kernel
theorem dX9_workdays_1 : decode cX9_workdays 1 = .ok (.invokestatic 93, 3) := by decide +kernel
theorem dX9_workdays_4 : decode cX9_workdays 4 = .ok (.ifCond .eq 10, 3) := by decide +kernel
theorem dX9_workdays_7 : decode cX9_workdays 7 = .ok (.iload_n 2, 1) := by decide +kernel
theorem dX9_workdays_8 : decode cX9_workdays 8 = .ok (.invokestatic 93, 3) := by decide +kernel
theorem dX9_workdays_11 : decode cX9_workdays 11 = .ok (.ifCond .ne 5, 3) := by decide +kernel
theorem dX9_workdays_14 : decode cX9_workdays 14 = .ok (.iconst (-1), 1) := by decide +kernel
theorem dX9_workdays_15 : decode cX9_workdays 15 = .ok (.ireturn, 1) := by decide +kernel
theorem dX9_workdays_16 : decode cX9_workdays 16 = .ok (.aload_n 0, 1) := by decide +kernel
theorem dX9_workdays_17 : decode cX9_workdays 17 = .ok (.getfield 10, 3) := by decide +kernel
theorem dX9_workdays_20 : decode cX9_workdays 20 = .ok (.iload_n 1, 1) := by decide +kernel
theorem dX9_workdays_21 : decode cX9_workdays 21 = .ok (.invokevirtual 112, 3) := by decide +kernel
theorem dX9_workdays_24 : decode cX9_workdays 24 = .ok (.aload_n 0, 1) := by decide +kernel
theorem dX9_workdays_25 : decode cX9_workdays 25 = .ok (.getfield 10, 3) := by decide +kernel
theorem dX9_workdays_28 : decode cX9_workdays 28 = .ok (.iload_n 2, 1) := by decide +kernel
theorem dX9_workdays_29 : decode cX9_workdays 29 = .ok (.invokevirtual 112, 3) := by decide +kernel
theorem dX9_workdays_32 : decode cX9_workdays 32 = .ok (.invokestatic 299, 3) := by decide +kernel
theorem dX9_workdays_35 : decode cX9_workdays 35 = .ok (.istore_n 3, 1) := by decide +kernel
theorem dX9_workdays_36 : decode cX9_workdays 36 = .ok (.aload_n 0, 1) := by decide +kernel
theorem dX9_workdays_37 : decode cX9_workdays 37 = .ok (.getfield 10, 3) := by decide +kernel
theorem dX9_workdays_40 : decode cX9_workdays 40 = .ok (.iload_n 1, 1) := by decide +kernel
theorem dX9_workdays_41 : decode cX9_workdays 41 = .ok (.invokevirtual 112, 3) := by decide +kernel
theorem dX9_workdays_44 : decode cX9_workdays 44 = .ok (.aload_n 0, 1) := by decide +kernel
theorem dX9_workdays_45 : decode cX9_workdays 45 = .ok (.getfield 10, 3) := by decide +kernel
theorem dX9_workdays_48 : decode cX9_workdays 48 = .ok (.iload_n 2, 1) := by decide +kernel
theorem dX9_workdays_49 : decode cX9_workdays 49 = .ok (.invokevirtual 112, 3) := by decide +kernel
theorem dX9_workdays_52 : decode cX9_workdays 52 = .ok (.invokestatic 327, 3) := by decide +kernel
theorem dX9_workdays_55 : decode cX9_workdays 55 = .ok (.istore 4, 2) := by decide +kernel
theorem dX9_workdays_57 : decode cX9_workdays 57 = .ok (.iload 4, 2) := by decide +kernel
theorem dX9_workdays_59 : decode cX9_workdays 59 = .ok (.iload_n 3, 1) := by decide +kernel
theorem dX9_workdays_60 : decode cX9_workdays 60 = .ok (.isub, 1) := by decide +kernel
theorem dX9_workdays_61 : decode cX9_workdays 61 = .ok (.bipush 7, 2) := by decide +kernel
theorem dX9_workdays_63 : decode cX9_workdays 63 = .ok (.idiv, 1) := by decide +kernel
theorem dX9_workdays_64 : decode cX9_workdays 64 = .ok (.istore 5, 2) := by decide +kernel
theorem dX9_workdays_66 : decode cX9_workdays 66 = .ok (.iload 4, 2) := by decide +kernel
theorem dX9_workdays_68 : decode cX9_workdays 68 = .ok (.iload_n 3, 1) := by decide +kernel
theorem dX9_workdays_69 : decode cX9_workdays 69 = .ok (.isub, 1) := by decide +kernel
theorem dX9_workdays_70 : decode cX9_workdays 70 = .ok (.bipush 7, 2) := by decide +kernel
theorem dX9_workdays_72 : decode cX9_workdays 72 = .ok (.irem, 1) := by decide +kernel
theorem dX9_workdays_73 : decode cX9_workdays 73 = .ok (.istore 6, 2) := by decide +kernel
theorem dX9_workdays_75 : decode cX9_workdays 75 = .ok (.iconst 0, 1) := by decide +kernel
theorem dX9_workdays_76 : decode cX9_workdays 76 = .ok (.istore 7, 2) := by decide +kernel
theorem dX9_workdays_78 : decode cX9_workdays 78 = .ok (.aload_n 0, 1) := by decide +kernel
theorem dX9_workdays_79 : decode cX9_workdays 79 = .ok (.getfield 26, 3) := by decide +kernel
theorem dX9_workdays_82 : decode cX9_workdays 82 = .ok (.invokevirtual 330, 3) := by decide +kernel
theorem dX9_workdays_85 : decode cX9_workdays 85 = .ok (.iconst 0, 1) := by decide +kernel
theorem dX9_workdays_86 : decode cX9_workdays 86 = .ok (.istore 8, 2) := by decide +kernel
theorem dX9_workdays_88 : decode cX9_workdays 88 = .ok (.iload 8, 2) := by decide +kernel
theorem dX9_workdays_90 : decode cX9_workdays 90 = .ok (.bipush 7, 2) := by decide +kernel
theorem dX9_workdays_92 : decode cX9_workdays 92 = .ok (.if_icmp .ge 65, 3) := by decide +kernel
theorem dX9_workdays_95 : decode cX9_workdays 95 = .ok (.iload 8, 2) := by decide +kernel
theorem dX9_workdays_97 : decode cX9_workdays 97 = .ok (.iload_n 3, 1) := by decide +kernel
theorem dX9_workdays_98 : decode cX9_workdays 98 = .ok (.invokestatic 146, 3) := by decide +kernel
theorem dX9_workdays_101 : decode cX9_workdays 101 = .ok (.isub, 1) := by decide +kernel
theorem dX9_workdays_102 : decode cX9_workdays 102 = .ok (.bipush 7, 2) := by decide +kernel
theorem dX9_workdays_104 : decode cX9_workdays 104 = .ok (.iadd, 1) := by decide +kernel
theorem dX9_workdays_105 : decode cX9_workdays 105 = .ok (.bipush 7, 2) := by decide +kernel
theorem dX9_workdays_107 : decode cX9_workdays 107 = .ok (.irem, 1) := by decide +kernel
theorem dX9_workdays_108 : decode cX9_workdays 108 = .ok (.istore 9, 2) := by decide +kernel
theorem dX9_workdays_110 : decode cX9_workdays 110 = .ok (.iload 9, 2) := by decide +kernel
theorem dX9_workdays_112 : decode cX9_workdays 112 = .ok (.iload 6, 2) := by decide +kernel
theorem dX9_workdays_114 : decode cX9_workdays 114 = .ok (.if_icmp .ge 10, 3) := by decide +kernel
