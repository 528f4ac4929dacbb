theorem dX10_least_179 : decode cX10_least 179 = .ok (.ldc2_w 281, 3) := by decide +kernel
theorem dX10_least_182 : decode cX10_least 182 = .ok (.lcmp, 1) := by decide +kernel
theorem dX10_least_183 : decode cX10_least 183 = .ok (.ifCond .eq 14, 3) := by decide +kernel
theorem dX10_least_186 : decode cX10_least 186 = .ok (.lload 14, 2) := by decide +kernel
theorem dX10_least_188 : decode cX10_least 188 = .ok (.lload 8, 2) := by decide +kernel
theorem dX10_least_190 : decode cX10_least 190 = .ok (.lcmp, 1) := by decide +kernel
theorem dX10_least_191 : decode cX10_least 191 = .ok (.ifCond .lt 6, 3) := by decide +kernel
theorem dX10_least_194 : decode cX10_least 194 = .ok (.goto 18, 3) := by decide +kernel
theorem dX10_least_197 : decode cX10_least 197 = .ok (.lload 14, 2) := by decide +kernel
theorem dX10_least_199 : decode cX10_least 199 = .ok (.lstore 8, 2) := by decide +kernel
theorem dX10_least_201 : decode cX10_least 201 = .ok (.iload 6, 2) := by decide +kernel
theorem dX10_least_203 : decode cX10_least 203 = .ok (.iload 12, 2) := by decide +kernel
theorem dX10_least_205 : decode cX10_least 205 = .ok (.imul, 1) := by decide +kernel
theorem dX10_least_206 : decode cX10_least 206 = .ok (.istore 10, 2) := by decide +kernel
theorem dX10_least_208 : decode cX10_least 208 = .ok (.iload 13, 2) := by decide +kernel
theorem dX10_least_210 : decode cX10_least 210 = .ok (.istore 11, 2) := by decide +kernel
theorem dX10_least_212 : decode cX10_least 212 = .ok (.iinc 12 1, 3) := by decide +kernel
theorem dX10_least_215 : decode cX10_least 215 = .ok (.goto (-113), 3) := by decide +kernel
theorem dX10_least_218 : decode cX10_least 218 = .ok (.aload_n 0, 1) := by decide +kernel
theorem dX10_least_219 : decode cX10_least 219 = .ok (.iconst 0, 1) := by decide +kernel
theorem dX10_least_220 : decode cX10_least 220 = .ok (.putfield 49, 3) := by decide +kernel
theorem dX10_least_223 : decode cX10_least 223 = .ok (.aload_n 0, 1) := by decide +kernel
theorem dX10_least_224 : decode cX10_least 224 = .ok (.iload 10, 2) := by decide +kernel
theorem dX10_least_226 : decode cX10_least 226 = .ok (.i2l, 1) := by decide +kernel
theorem dX10_least_227 : decode cX10_least 227 = .ok (.invokevirtual 208, 3) := by decide +kernel
theorem dX10_least_230 : decode cX10_least 230 = .ok (.aload_n 0, 1) := by decide +kernel
theorem dX10_least_231 : decode cX10_least 231 = .ok (.iload 11, 2) := by decide +kernel
theorem dX10_least_233 : decode cX10_least 233 = .ok (.i2l, 1) := by decide +kernel
theorem dX10_least_234 : decode cX10_least 234 = .ok (.invokevirtual 208, 3) := by decide +kernel
theorem dX10_least_237 : decode cX10_least 237 = .ok (.lload 8, 2) := by decide +kernel
theorem dX10_least_239 : decode cX10_least 239 = .ok (.l2i, 1) := by decide +kernel
theorem dX10_least_240 : decode cX10_least 240 = .ok (.ireturn, 1) := by decide +kernel
theorem dX10_age_0 : decode cX10_age 0 = .ok (.aload_n 0, 1) := by decide +kernel
theorem dX10_age_1 : decode cX10_age 1 = .ok (.iconst 0, 1) := by decide +kernel
theorem dX10_age_2 : decode cX10_age 2 = .ok (.putfield 45, 3) := by decide +kernel
theorem dX10_age_5 : decode cX10_age 5 = .ok (.iload_n 1, 1) := by decide +kernel
theorem dX10_age_6 : decode cX10_age 6 = .ok (.invokestatic 179, 3) := by decide +kernel
theorem dX10_age_9 : decode cX10_age 9 = .ok (.ifCond .eq 10, 3) := by decide +kernel
theorem dX10_age_12 : decode cX10_age 12 = .ok (.iload_n 2, 1) := by decide +kernel
theorem dX10_age_13 : decode cX10_age 13 = .ok (.invokestatic 179, 3) := by decide +kernel
theorem dX10_age_16 : decode cX10_age 16 = .ok (.ifCond .ne 5, 3) := by decide +kernel
theorem dX10_age_19 : decode cX10_age 19 = .ok (.iconst (-1), 1) := by decide +kernel
theorem dX10_age_20 : decode cX10_age 20 = .ok (.ireturn, 1) := by decide +kernel
theorem dX10_age_21 : decode cX10_age 21 = .ok (.aload_n 0, 1) := by decide +kernel
theorem dX10_age_22 : decode cX10_age 22 = .ok (.getfield 9, 3) := by decide +kernel
theorem dX10_age_25 : decode cX10_age 25 = .ok (.iload_n 1, 1) := by decide +kernel
theorem dX10_age_26 : decode cX10_age 26 = .ok (.iaload, 1) := by decide +kernel
theorem dX10_age_27 : decode cX10_age 27 = .ok (.istore_n 3, 1) := by decide +kernel
theorem dX10_age_28 : decode cX10_age 28 = .ok (.aload_n 0, 1) := by decide +kernel
theorem dX10_age_29 : decode cX10_age 29 = .ok (.getfield 9, 3) := by decide +kernel
theorem dX10_age_32 : decode cX10_age 32 = .ok (.iload_n 2, 1) := by decide +kernel
theorem dX10_age_33 : decode cX10_age 33 = .ok (.iaload, 1) := by decide +kernel
theorem dX10_age_34 : decode cX10_age 34 = .ok (.istore 4, 2) := by decide +kernel
theorem dX10_age_36 : decode cX10_age 36 = .ok (.aload_n 0, 1) := by decide +kernel
theorem dX10_age_37 : decode cX10_age 37 = .ok (.iload_n 3, 1) := by decide +kernel
theorem dX10_age_38 : decode cX10_age 38 = .ok (.invokevirtual 97, 3) := by decide +kernel
theorem dX10_age_41 : decode cX10_age 41 = .ok (.aload_n 0, 1) := by decide +kernel
theorem dX10_age_42 : decode cX10_age 42 = .ok (.getfield 84, 3) := by decide +kernel
theorem dX10_age_45 : decode cX10_age 45 = .ok (.istore 5, 2) := by decide +kernel
theorem dX10_age_47 : decode cX10_age 47 = .ok (.aload_n 0, 1) := by decide +kernel
theorem dX10_age_48 : decode cX10_age 48 = .ok (.iload 4, 2) := by decide +kernel
theorem dX10_age_50 : decode cX10_age 50 = .ok (.invokevirtual 97, 3) := by decide +kernel
theorem dX10_age_53 : decode cX10_age 53 = .ok (.iconst 0, 1) := by decide +kernel
theorem dX10_age_54 : decode cX10_age 54 = .ok (.aload_n 0, 1) := by decide +kernel
theorem dX10_age_55 : decode cX10_age 55 = .ok (.getfield 84, 3) := by decide +kernel
theorem dX10_age_58 : decode cX10_age 58 = .ok (.iload 5, 2) := by decide +kernel
theorem dX10_age_60 : decode cX10_age 60 = .ok (.isub, 1) := by decide +kernel
theorem dX10_age_61 : decode cX10_age 61 = .ok (.iconst 1, 1) := by decide +kernel
theorem dX10_age_62 : decode cX10_age 62 = .ok (.iadd, 1) := by decide +kernel
theorem dX10_age_63 : decode cX10_age 63 = .ok (.invokestatic 115, 3) := by decide +kernel
theorem dX10_age_66 : decode cX10_age 66 = .ok (.istore 6, 2) := by decide +kernel
theorem dX10_age_68 : decode cX10_age 68 = .ok (.iconst 0, 1) := by decide +kernel
theorem dX10_age_69 : decode cX10_age 69 = .ok (.istore 7, 2) := by decide +kernel
theorem dX10_age_71 : decode cX10_age 71 = .ok (.iload 7, 2) := by decide +kernel
theorem dX10_age_73 : decode cX10_age 73 = .ok (.ifCond .ne 56, 3) := by decide +kernel
theorem dX10_age_76 : decode cX10_age 76 = .ok (.aload_n 0, 1) := by decide +kernel
theorem dX10_age_77 : decode cX10_age 77 = .ok (.iload_n 3, 1) := by decide +kernel
theorem dX10_age_78 : decode cX10_age 78 = .ok (.iconst 0, 1) := by decide +kernel
theorem dX10_age_79 : decode cX10_age 79 = .ok (.invokevirtual 146, 3) := by decide +kernel
theorem dX10_age_82 : decode cX10_age 82 = .ok (.aload_n 0, 1) := by decide +kernel
theorem dX10_age_83 : decode cX10_age 83 = .ok (.ldc2_w 107, 3) := by decide +kernel
theorem dX10_age_86 : decode cX10_age 86 = .ok (.iload 6, 2) := by decide +kernel
theorem dX10_age_88 : decode cX10_age 88 = .ok (.i2l, 1) := by decide +kernel
theorem dX10_age_89 : decode cX10_age 89 = .ok (.lmul, 1) := by decide +kernel
theorem dX10_age_90 : decode cX10_age 90 = .ok (.iconst 0, 1) := by decide +kernel
theorem dX10_age_91 : decode cX10_age 91 = .ok (.invokevirtual 132, 3) := by decide +kernel
theorem dX10_age_94 : decode cX10_age 94 = .ok (.ifCond .eq 12, 3) := by decide +kernel
theorem dX10_age_97 : decode cX10_age 97 = .ok (.aload_n 0, 1) := by decide +kernel
theorem dX10_age_98 : decode cX10_age 98 = .ok (.getfield 104, 3) := by decide +kernel
theorem dX10_age_101 : decode cX10_age 101 = .ok (.iload 4, 2) := by decide +kernel
theorem dX10_age_103 : decode cX10_age 103 = .ok (.if_icmp .le 8, 3) := by decide +kernel
theorem dX10_age_106 : decode cX10_age 106 = .ok (.iload 6, 2) := by decide +kernel
theorem dX10_age_108 : decode cX10_age 108 = .ok (.ifCond .ne 7, 3) := by decide +kernel
theorem dX10_age_111 : decode cX10_age 111 = .ok (.iconst 1, 1) := by decide +kernel
theorem dX10_age_112 : decode cX10_age 112 = .ok (.goto 4, 3) := by decide +kernel
theorem dX10_age_115 : decode cX10_age 115 = .ok (.iconst 0, 1) := by decide +kernel
theorem dX10_age_116 : decode cX10_age 116 = .ok (.istore 7, 2) := by decide +kernel
theorem dX10_age_118 : decode cX10_age 118 = .ok (.iload 7, 2) := by decide +kernel
theorem dX10_age_120 : decode cX10_age 120 = .ok (.ifCond .ne (-49), 3) := by decide +kernel
theorem dX10_age_123 : decode cX10_age 123 = .ok (.iinc 6 (-1), 3) := by decide +kernel
theorem dX10_age_126 : decode cX10_age 126 = .ok (.goto (-55), 3) := by decide +kernel
theorem dX10_age_129 : decode cX10_age 129 = .ok (.aload_n 0, 1) := by decide +kernel
theorem dX10_age_130 : decode cX10_age 130 = .ok (.getfield 104, 3) := by decide +kernel
theorem dX10_age_133 : decode cX10_age 133 = .ok (.istore 8, 2) := by decide +kernel
theorem dX10_age_135 : decode cX10_age 135 = .ok (.aload_n 0, 1) := by decide +kernel
theorem dX10_age_136 : decode cX10_age 136 = .ok (.iload_n 3, 1) := by decide +kernel
theorem dX10_age_137 : decode cX10_age 137 = .ok (.iconst 0, 1) := by decide +kernel
theorem dX10_age_138 : decode cX10_age 138 = .ok (.invokevirtual 146, 3) := by decide +kernel
theorem dX10_age_141 : decode cX10_age 141 = .ok (.aload_n 0, 1) := by decide +kernel
theorem dX10_age_142 : decode cX10_age 142 = .ok (.ldc2_w 107, 3) := by decide +kernel
theorem dX10_age_145 : decode cX10_age 145 = .ok (.iload 6, 2) := by decide +kernel
theorem dX10_age_147 : decode cX10_age 147 = .ok (.iconst 1, 1) := by decide +kernel
theorem dX10_age_148 : decode cX10_age 148 = .ok (.iadd, 1) := by decide +kernel
theorem dX10_age_149 : decode cX10_age 149 = .ok (.i2l, 1) := by decide +kernel
theorem dX10_age_150 : decode cX10_age 150 = .ok (.lmul, 1) := by decide +kernel
theorem dX10_age_151 : decode cX10_age 151 = .ok (.iconst 0, 1) := by decide +kernel
theorem dX10_age_152 : decode cX10_age 152 = .ok (.invokevirtual 132, 3) := by decide +kernel
theorem dX10_age_155 : decode cX10_age 155 = .ok (.istore 9, 2) := by decide +kernel
theorem dX10_age_157 : decode cX10_age 157 = .ok (.aload_n 0, 1) := by decide +kernel
theorem dX10_age_158 : decode cX10_age 158 = .ok (.iconst 0, 1) := by decide +kernel
theorem dX10_age_159 : decode cX10_age 159 = .ok (.putfield 49, 3) := by decide +kernel
theorem dX10_age_162 : decode cX10_age 162 = .ok (.aload_n 0, 1) := by decide +kernel
theorem dX10_age_163 : decode cX10_age 163 = .ok (.iload 4, 2) := by decide +kernel
theorem dX10_age_165 : decode cX10_age 165 = .ok (.iload 8, 2) := by decide +kernel
theorem dX10_age_167 : decode cX10_age 167 = .ok (.isub, 1) := by decide +kernel
theorem dX10_age_168 : decode cX10_age 168 = .ok (.i2l, 1) := by decide +kernel
theorem dX10_age_169 : decode cX10_age 169 = .ok (.invokevirtual 208, 3) := by decide +kernel
theorem dX10_age_172 : decode cX10_age 172 = .ok (.aload_n 0, 1) := by decide +kernel
theorem dX10_age_173 : decode cX10_age 173 = .ok (.iload 9, 2) := by decide +kernel
theorem dX10_age_175 : decode cX10_age 175 = .ok (.ifCond .eq 14, 3) := by decide +kernel
theorem dX10_age_178 : decode cX10_age 178 = .ok (.aload_n 0, 1) := by decide +kernel
theorem dX10_age_179 : decode cX10_age 179 = .ok (.getfield 104, 3) := by decide +kernel
theorem dX10_age_182 : decode cX10_age 182 = .ok (.iload 4, 2) := by decide +kernel
theorem dX10_age_184 : decode cX10_age 184 = .ok (.isub, 1) := by decide +kernel
theorem dX10_age_185 : decode cX10_age 185 = .ok (.i2l, 1) := by decide +kernel
theorem dX10_age_186 : decode cX10_age 186 = .ok (.goto 6, 3) := by decide +kernel
theorem dX10_age_189 : decode cX10_age 189 = .ok (.ldc2_w 283, 3) := by decide +kernel
theorem dX10_age_192 : decode cX10_age 192 = .ok (.invokevirtual 208, 3) := by decide +kernel
theorem dX10_age_195 : decode cX10_age 195 = .ok (.iload 6, 2) := by decide +kernel
theorem dX10_age_197 : decode cX10_age 197 = .ok (.ireturn, 1) := by decide +kernel
theorem dX10_compare_0 : decode cX10_compare 0 = .ok (.aload_n 0, 1) := by decide +kernel
theorem dX10_compare_1 : decode cX10_compare 1 = .ok (.iconst 0, 1) := by decide +kernel
theorem dX10_compare_2 : decode cX10_compare 2 = .ok (.putfield 45, 3) := by decide +kernel
theorem dX10_compare_5 : decode cX10_compare 5 = .ok (.iload_n 1, 1) := by decide +kernel
theorem dX10_compare_6 : decode cX10_compare 6 = .ok (.invokestatic 179, 3) := by decide +kernel
theorem dX10_compare_9 : decode cX10_compare 9 = .ok (.ifCond .eq 17, 3) := by decide +kernel
theorem dX10_compare_12 : decode cX10_compare 12 = .ok (.iload_n 2, 1) := by decide +kernel
theorem dX10_compare_13 : decode cX10_compare 13 = .ok (.invokestatic 179, 3) := by decide +kernel
theorem dX10_compare_16 : decode cX10_compare 16 = .ok (.ifCond .eq 10, 3) := by decide +kernel
theorem dX10_compare_19 : decode cX10_compare 19 = .ok (.iload_n 3, 1) := by decide +kernel
theorem dX10_compare_20 : decode cX10_compare 20 = .ok (.invokestatic 236, 3) := by decide +kernel
theorem dX10_compare_23 : decode cX10_compare 23 = .ok (.ifCond .ne 5, 3) := by decide +kernel
theorem dX10_compare_26 : decode cX10_compare 26 = .ok (.iconst (-1), 1) := by decide +kernel
theorem dX10_compare_27 : decode cX10_compare 27 = .ok (.ireturn, 1) := by decide +kernel
theorem dX10_compare_28 : decode cX10_compare 28 = .ok (.iconst 0, 1) := by decide +kernel
theorem dX10_compare_29 : decode cX10_compare 29 = .ok (.istore 4, 2) := by decide +kernel
theorem dX10_compare_31 : decode cX10_compare 31 = .ok (.iload 4, 2) := by decide +kernel
theorem dX10_compare_33 : decode cX10_compare 33 = .ok (.iconst 3, 1) := by decide +kernel
theorem dX10_compare_34 : decode cX10_compare 34 = .ok (.if_icmp .ge 25, 3) := by decide +kernel
theorem dX10_compare_37 : decode cX10_compare 37 = .ok (.aload_n 0, 1) := by decide +kernel
theorem dX10_compare_38 : decode cX10_compare 38 = .ok (.getfield 33, 3) := by decide +kernel
theorem dX10_compare_41 : decode cX10_compare 41 = .ok (.iload 4, 2) := by decide +kernel
theorem dX10_compare_43 : decode cX10_compare 43 = .ok (.iconst 0, 1) := by decide +kernel
theorem dX10_compare_44 : decode cX10_compare 44 = .ok (.iastore, 1) := by decide +kernel
theorem dX10_compare_45 : decode cX10_compare 45 = .ok (.aload_n 0, 1) := by decide +kernel
theorem dX10_compare_46 : decode cX10_compare 46 = .ok (.getfield 36, 3) := by decide +kernel
theorem dX10_compare_49 : decode cX10_compare 49 = .ok (.iload 4, 2) := by decide +kernel
theorem dX10_compare_51 : decode cX10_compare 51 = .ok (.iconst (-1), 1) := by decide +kernel
theorem dX10_compare_52 : decode cX10_compare 52 = .ok (.iastore, 1) := by decide +kernel
theorem dX10_compare_53 : decode cX10_compare 53 = .ok (.iinc 4 1, 3) := by decide +kernel
theorem dX10_compare_56 : decode cX10_compare 56 = .ok (.goto (-25), 3) := by decide +kernel
theorem dX10_compare_59 : decode cX10_compare 59 = .ok (.ldc_w 285, 3) := by decide +kernel
theorem dX10_compare_62 : decode cX10_compare 62 = .ok (.istore 4, 2) := by decide +kernel
theorem dX10_compare_64 : decode cX10_compare 64 = .ok (.iload 4, 2) := by decide +kernel
theorem dX10_compare_66 : decode cX10_compare 66 = .ok (.ldc_w 286, 3) := by decide +kernel
theorem dX10_compare_69 : decode cX10_compare 69 = .ok (.if_icmp .ge 118, 3) := by decide +kernel
theorem dX10_compare_72 : decode cX10_compare 72 = .ok (.aload_n 0, 1) := by decide +kernel
theorem dX10_compare_73 : decode cX10_compare 73 = .ok (.iload 4, 2) := by decide +kernel
theorem dX10_compare_75 : decode cX10_compare 75 = .ok (.iconst 0, 1) := by decide +kernel
theorem dX10_compare_76 : decode cX10_compare 76 = .ok (.invokevirtual 146, 3) := by decide +kernel
theorem dX10_compare_79 : decode cX10_compare 79 = .ok (.aload_n 0, 1) := by decide +kernel
theorem dX10_compare_80 : decode cX10_compare 80 = .ok (.iload_n 1, 1) := by decide +kernel
theorem dX10_compare_81 : decode cX10_compare 81 = .ok (.lconst 1, 1) := by decide +kernel
theorem dX10_compare_82 : decode cX10_compare 82 = .ok (.iload_n 3, 1) := by decide +kernel
theorem dX10_compare_83 : decode cX10_compare 83 = .ok (.iconst 0, 1) := by decide +kernel
theorem dX10_compare_84 : decode cX10_compare 84 = .ok (.invokevirtual 245, 3) := by decide +kernel
theorem dX10_compare_87 : decode cX10_compare 87 = .ok (.ifCond .ne 6, 3) := by decide +kernel
theorem dX10_compare_90 : decode cX10_compare 90 = .ok (.goto 91, 3) := by decide +kernel
theorem dX10_compare_93 : decode cX10_compare 93 = .ok (.aload_n 0, 1) := by decide +kernel
theorem dX10_compare_94 : decode cX10_compare 94 = .ok (.invokevirtual 258, 3) := by decide +kernel
theorem dX10_compare_97 : decode cX10_compare 97 = .ok (.lstore 5, 2) := by decide +kernel
theorem dX10_compare_99 : decode cX10_compare 99 = .ok (.aload_n 0, 1) := by decide +kernel
theorem dX10_compare_100 : decode cX10_compare 100 = .ok (.iload 4, 2) := by decide +kernel
theorem dX10_compare_102 : decode cX10_compare 102 = .ok (.iconst 0, 1) := by decide +kernel
theorem dX10_compare_103 : decode cX10_compare 103 = .ok (.invokevirtual 146, 3) := by decide +kernel
theorem dX10_compare_106 : decode cX10_compare 106 = .ok (.aload_n 0, 1) := by decide +kernel
theorem dX10_compare_107 : decode cX10_compare 107 = .ok (.iload_n 2, 1) := by decide +kernel
theorem dX10_compare_108 : decode cX10_compare 108 = .ok (.lconst 1, 1) := by decide +kernel
theorem dX10_compare_109 : decode cX10_compare 109 = .ok (.iload_n 3, 1) := by decide +kernel
theorem dX10_compare_110 : decode cX10_compare 110 = .ok (.iconst 0, 1) := by decide +kernel
theorem dX10_compare_111 : decode cX10_compare 111 = .ok (.invokevirtual 245, 3) := by decide +kernel
theorem dX10_compare_114 : decode cX10_compare 114 = .ok (.ifCond .ne 6, 3) := by decide +kernel
theorem dX10_compare_117 : decode cX10_compare 117 = .ok (.goto 64, 3) := by decide +kernel
theorem dX10_compare_120 : decode cX10_compare 120 = .ok (.lload 5, 2) := by decide +kernel
theorem dX10_compare_122 : decode cX10_compare 122 = .ok (.aload_n 0, 1) := by decide +kernel
theorem dX10_compare_123 : decode cX10_compare 123 = .ok (.invokevirtual 258, 3) := by decide +kernel
theorem dX10_compare_126 : decode cX10_compare 126 = .ok (.lcmp, 1) := by decide +kernel
theorem dX10_compare_127 : decode cX10_compare 127 = .ok (.ifCond .ge 7, 3) := by decide +kernel
theorem dX10_compare_130 : decode cX10_compare 130 = .ok (.iconst 0, 1) := by decide +kernel
theorem dX10_compare_131 : decode cX10_compare 131 = .ok (.goto 18, 3) := by decide +kernel
theorem dX10_compare_134 : decode cX10_compare 134 = .ok (.lload 5, 2) := by decide +kernel
theorem dX10_compare_136 : decode cX10_compare 136 = .ok (.aload_n 0, 1) := by decide +kernel
theorem dX10_compare_137 : decode cX10_compare 137 = .ok (.invokevirtual 258, 3) := by decide +kernel
theorem dX10_compare_140 : decode cX10_compare 140 = .ok (.lcmp, 1) := by decide +kernel
theorem dX10_compare_141 : decode cX10_compare 141 = .ok (.ifCond .ne 7, 3) := by decide +kernel
theorem dX10_compare_144 : decode cX10_compare 144 = .ok (.iconst 1, 1) := by decide +kernel
theorem dX10_compare_145 : decode cX10_compare 145 = .ok (.goto 4, 3) := by decide +kernel
theorem dX10_compare_148 : decode cX10_compare 148 = .ok (.iconst 2, 1) := by decide +kernel
theorem dX10_compare_149 : decode cX10_compare 149 = .ok (.istore 7, 2) := by decide +kernel
theorem dX10_compare_151 : decode cX10_compare 151 = .ok (.aload_n 0, 1) := by decide +kernel
theorem dX10_compare_152 : decode cX10_compare 152 = .ok (.getfield 33, 3) := by decide +kernel
theorem dX10_compare_155 : decode cX10_compare 155 = .ok (.iload 7, 2) := by decide +kernel
theorem dX10_compare_157 : decode cX10_compare 157 = .ok (.iaload, 1) := by decide +kernel
theorem dX10_compare_158 : decode cX10_compare 158 = .ok (.ifCond .ne 12, 3) := by decide +kernel
theorem dX10_compare_161 : decode cX10_compare 161 = .ok (.aload_n 0, 1) := by decide +kernel
theorem dX10_compare_162 : decode cX10_compare 162 = .ok (.getfield 36, 3) := by decide +kernel
theorem dX10_compare_165 : decode cX10_compare 165 = .ok (.iload 7, 2) := by decide +kernel
theorem dX10_compare_167 : decode cX10_compare 167 = .ok (.iload 4, 2) := by decide +kernel
theorem dX10_compare_169 : decode cX10_compare 169 = .ok (.iastore, 1) := by decide +kernel
theorem dX10_compare_170 : decode cX10_compare 170 = .ok (.aload_n 0, 1) := by decide +kernel
theorem dX10_compare_171 : decode cX10_compare 171 = .ok (.getfield 33, 3) := by decide +kernel
theorem dX10_compare_174 : decode cX10_compare 174 = .ok (.iload 7, 2) := by decide +kernel
theorem dX10_compare_176 : decode cX10_compare 176 = .ok (.dup2, 1) := by decide +kernel
theorem dX10_compare_177 : decode cX10_compare 177 = .ok (.iaload, 1) := by decide +kernel
theorem dX10_compare_178 : decode cX10_compare 178 = .ok (.iconst 1, 1) := by decide +kernel
theorem dX10_compare_179 : decode cX10_compare 179 = .ok (.iadd, 1) := by decide +kernel
theorem dX10_compare_180 : decode cX10_compare 180 = .ok (.iastore, 1) := by decide +kernel
theorem dX10_compare_181 : decode cX10_compare 181 = .ok (.iinc 4 1, 3) := by decide +kernel
theorem dX10_compare_184 : decode cX10_compare 184 = .ok (.goto (-120), 3) := by decide +kernel
theorem dX10_compare_187 : decode cX10_compare 187 = .ok (.aload_n 0, 1) := by decide +kernel
theorem dX10_compare_188 : decode cX10_compare 188 = .ok (.iconst 0, 1) := by decide +kernel
theorem dX10_compare_189 : decode cX10_compare 189 = .ok (.putfield 49, 3) := by decide +kernel
theorem dX10_compare_192 : decode cX10_compare 192 = .ok (.iconst 0, 1) := by decide +kernel
theorem dX10_compare_193 : decode cX10_compare 193 = .ok (.istore 4, 2) := by decide +kernel
theorem dX10_compare_195 : decode cX10_compare 195 = .ok (.iload 4, 2) := by decide +kernel
theorem dX10_compare_197 : decode cX10_compare 197 = .ok (.iconst 3, 1) := by decide +kernel
theorem dX10_compare_198 : decode cX10_compare 198 = .ok (.if_icmp .ge 21, 3) := by decide +kernel
theorem dX10_compare_201 : decode cX10_compare 201 = .ok (.aload_n 0, 1) := by decide +kernel
theorem dX10_compare_202 : decode cX10_compare 202 = .ok (.aload_n 0, 1) := by decide +kernel
theorem dX10_compare_203 : decode cX10_compare 203 = .ok (.getfield 33, 3) := by decide +kernel
theorem dX10_compare_206 : decode cX10_compare 206 = .ok (.iload 4, 2) := by decide +kernel
theorem dX10_compare_208 : decode cX10_compare 208 = .ok (.iaload, 1) := by decide +kernel
theorem dX10_compare_209 : decode cX10_compare 209 = .ok (.i2l, 1) := by decide +kernel
theorem dX10_compare_210 : decode cX10_compare 210 = .ok (.invokevirtual 208, 3) := by decide +kernel
theorem dX10_compare_213 : decode cX10_compare 213 = .ok (.iinc 4 1, 3) := by decide +kernel
theorem dX10_compare_216 : decode cX10_compare 216 = .ok (.goto (-21), 3) := by decide +kernel
theorem dX10_compare_219 : decode cX10_compare 219 = .ok (.iconst 0, 1) := by decide +kernel
theorem dX10_compare_220 : decode cX10_compare 220 = .ok (.istore 4, 2) := by decide +kernel
theorem dX10_compare_222 : decode cX10_compare 222 = .ok (.iload 4, 2) := by decide +kernel
theorem dX10_compare_224 : decode cX10_compare 224 = .ok (.iconst 3, 1) := by decide +kernel
theorem dX10_compare_225 : decode cX10_compare 225 = .ok (.if_icmp .ge 21, 3) := by decide +kernel
theorem dX10_compare_228 : decode cX10_compare 228 = .ok (.aload_n 0, 1) := by decide +kernel
theorem dX10_compare_229 : decode cX10_compare 229 = .ok (.aload_n 0, 1) := by decide +kernel
theorem dX10_compare_230 : decode cX10_compare 230 = .ok (.getfield 36, 3) := by decide +kernel
theorem dX10_compare_233 : decode cX10_compare 233 = .ok (.iload 4, 2) := by decide +kernel
theorem dX10_compare_235 : decode cX10_compare 235 = .ok (.iaload, 1) := by decide +kernel
theorem dX10_compare_236 : decode cX10_compare 236 = .ok (.i2l, 1) := by decide +kernel
theorem dX10_compare_237 : decode cX10_compare 237 = .ok (.invokevirtual 208, 3) := by decide +kernel
theorem dX10_compare_240 : decode cX10_compare 240 = .ok (.iinc 4 1, 3) := by decide +kernel
theorem dX10_compare_243 : decode cX10_compare 243 = .ok (.goto (-21), 3) := by decide +kernel
theorem dX10_compare_246 : decode cX10_compare 246 = .ok (.aload_n 0, 1) := by decide +kernel
theorem dX10_compare_247 : decode cX10_compare 247 = .ok (.getfield 33, 3) := by decide +kernel
theorem dX10_compare_250 : decode cX10_compare 250 = .ok (.iconst 0, 1) := by decide +kernel
theorem dX10_compare_251 : decode cX10_compare 251 = .ok (.iaload, 1) := by decide +kernel
theorem dX10_compare_252 : decode cX10_compare 252 = .ok (.ifCond .le 7, 3) := by decide +kernel
theorem dX10_compare_255 : decode cX10_compare 255 = .ok (.iconst 1, 1) := by decide +kernel
theorem dX10_compare_256 : decode cX10_compare 256 = .ok (.goto 4, 3) := by decide +kernel
theorem dX10_compare_259 : decode cX10_compare 259 = .ok (.iconst 0, 1) := by decide +kernel
theorem dX10_compare_260 : decode cX10_compare 260 = .ok (.aload_n 0, 1) := by decide +kernel
theorem dX10_compare_261 : decode cX10_compare 261 = .ok (.getfield 33, 3) := by decide +kernel
theorem dX10_compare_264 : decode cX10_compare 264 = .ok (.iconst 1, 1) := by decide +kernel
theorem dX10_compare_265 : decode cX10_compare 265 = .ok (.iaload, 1) := by decide +kernel
theorem dX10_compare_266 : decode cX10_compare 266 = .ok (.ifCond .le 7, 3) := by decide +kernel
theorem dX10_compare_269 : decode cX10_compare 269 = .ok (.iconst 2, 1) := by decide +kernel
theorem dX10_compare_270 : decode cX10_compare 270 = .ok (.goto 4, 3) := by decide +kernel
theorem dX10_compare_273 : decode cX10_compare 273 = .ok (.iconst 0, 1) := by decide +kernel
theorem dX10_compare_274 : decode cX10_compare 274 = .ok (.ior, 1) := by decide +kernel
theorem dX10_compare_275 : decode cX10_compare 275 = .ok (.aload_n 0, 1) := by decide +kernel
theorem dX10_compare_276 : decode cX10_compare 276 = .ok (.getfield 33, 3) := by decide +kernel
theorem dX10_compare_279 : decode cX10_compare 279 = .ok (.iconst 2, 1) := by decide +kernel
theorem dX10_compare_280 : decode cX10_compare 280 = .ok (.iaload, 1) := by decide +kernel
theorem dX10_compare_281 : decode cX10_compare 281 = .ok (.ifCond .le 7, 3) := by decide +kernel
theorem dX10_compare_284 : decode cX10_compare 284 = .ok (.iconst 4, 1) := by decide +kernel
theorem dX10_compare_285 : decode cX10_compare 285 = .ok (.goto 4, 3) := by decide +kernel
theorem dX10_compare_288 : decode cX10_compare 288 = .ok (.iconst 0, 1) := by decide +kernel
theorem dX10_compare_289 : decode cX10_compare 289 = .ok (.ior, 1) := by decide +kernel
theorem dX10_compare_290 : decode cX10_compare 290 = .ok (.ireturn, 1) := by decide +kernel
theorem dX10_seesLength_0 : decode cX10_seesLength 0 = .ok (.iconst 0, 1) := by decide +kernel
theorem dX10_seesLength_1 : decode cX10_seesLength 1 = .ok (.istore_n 3, 1) := by decide +kernel
theorem dX10_seesLength_2 : decode cX10_seesLength 2 = .ok (.iload_n 3, 1) := by decide +kernel
theorem dX10_seesLength_3 : decode cX10_seesLength 3 = .ok (.aload_n 0, 1) := by decide +kernel
theorem dX10_seesLength_4 : decode cX10_seesLength 4 = .ok (.getfield 287, 3) := by decide +kernel
theorem dX10_seesLength_7 : decode cX10_seesLength 7 = .ok (.if_icmp .ge 21, 3) := by decide +kernel
theorem dX10_seesLength_10 : decode cX10_seesLength 10 = .ok (.aload_n 0, 1) := by decide +kernel
theorem dX10_seesLength_11 : decode cX10_seesLength 11 = .ok (.getfield 39, 3) := by decide +kernel
theorem dX10_seesLength_14 : decode cX10_seesLength 14 = .ok (.iload_n 3, 1) := by decide +kernel
theorem dX10_seesLength_15 : decode cX10_seesLength 15 = .ok (.laload, 1) := by decide +kernel
theorem dX10_seesLength_16 : decode cX10_seesLength 16 = .ok (.lload_n 1, 1) := by decide +kernel
theorem dX10_seesLength_17 : decode cX10_seesLength 17 = .ok (.lcmp, 1) := by decide +kernel
theorem dX10_seesLength_18 : decode cX10_seesLength 18 = .ok (.ifCond .ne 4, 3) := by decide +kernel
theorem dX10_seesLength_21 : decode cX10_seesLength 21 = .ok (.return_, 1) := by decide +kernel
theorem dX10_seesLength_22 : decode cX10_seesLength 22 = .ok (.iinc 3 1, 3) := by decide +kernel
theorem dX10_seesLength_25 : decode cX10_seesLength 25 = .ok (.goto (-23), 3) := by decide +kernel
theorem dX10_seesLength_28 : decode cX10_seesLength 28 = .ok (.aload_n 0, 1) := by decide +kernel
theorem dX10_seesLength_29 : decode cX10_seesLength 29 = .ok (.getfield 39, 3) := by decide +kernel
theorem dX10_seesLength_32 : decode cX10_seesLength 32 = .ok (.aload_n 0, 1) := by decide +kernel
theorem dX10_seesLength_33 : decode cX10_seesLength 33 = .ok (.getfield 287, 3) := by decide +kernel
theorem dX10_seesLength_36 : decode cX10_seesLength 36 = .ok (.lload_n 1, 1) := by decide +kernel
theorem dX10_seesLength_37 : decode cX10_seesLength 37 = .ok (.lastore, 1) := by decide +kernel
theorem dX10_seesLength_38 : decode cX10_seesLength 38 = .ok (.aload_n 0, 1) := by decide +kernel
theorem dX10_seesLength_39 : decode cX10_seesLength 39 = .ok (.dup, 1) := by decide +kernel
theorem dX10_seesLength_40 : decode cX10_seesLength 40 = .ok (.getfield 287, 3) := by decide +kernel
theorem dX10_seesLength_43 : decode cX10_seesLength 43 = .ok (.iconst 1, 1) := by decide +kernel
theorem dX10_seesLength_44 : decode cX10_seesLength 44 = .ok (.iadd, 1) := by decide +kernel
theorem dX10_seesLength_45 : decode cX10_seesLength 45 = .ok (.putfield 287, 3) := by decide +kernel
theorem dX10_seesLength_48 : decode cX10_seesLength 48 = .ok (.return_, 1) := by decide +kernel
theorem dX10_lasts_0 : decode cX10_lasts 0 = .ok (.aload_n 0, 1) := by decide +kernel
theorem dX10_lasts_1 : decode cX10_lasts 1 = .ok (.iconst 0, 1) := by decide +kernel
theorem dX10_lasts_2 : decode cX10_lasts 2 = .ok (.putfield 45, 3) := by decide +kernel
theorem dX10_lasts_5 : decode cX10_lasts 5 = .ok (.iload_n 1, 1) := by decide +kernel
theorem dX10_lasts_6 : decode cX10_lasts 6 = .ok (.invokestatic 179, 3) := by decide +kernel
theorem dX10_lasts_9 : decode cX10_lasts 9 = .ok (.ifCond .eq 10, 3) := by decide +kernel
theorem dX10_lasts_12 : decode cX10_lasts 12 = .ok (.iload_n 2, 1) := by decide +kernel
theorem dX10_lasts_13 : decode cX10_lasts 13 = .ok (.invokestatic 236, 3) := by decide +kernel
theorem dX10_lasts_16 : decode cX10_lasts 16 = .ok (.ifCond .ne 7, 3) := by decide +kernel
theorem dX10_lasts_19 : decode cX10_lasts 19 = .ok (.ldc2_w 281, 3) := by decide +kernel
theorem dX10_lasts_22 : decode cX10_lasts 22 = .ok (.lreturn, 1) := by decide +kernel
theorem dX10_lasts_23 : decode cX10_lasts 23 = .ok (.aload_n 0, 1) := by decide +kernel
theorem dX10_lasts_24 : decode cX10_lasts 24 = .ok (.iconst 0, 1) := by decide +kernel
theorem dX10_lasts_25 : decode cX10_lasts 25 = .ok (.putfield 287, 3) := by decide +kernel
theorem dX10_lasts_28 : decode cX10_lasts 28 = .ok (.lconst 0, 1) := by decide +kernel
theorem dX10_lasts_29 : decode cX10_lasts 29 = .ok (.lstore_n 3, 1) := by decide +kernel
theorem dX10_lasts_30 : decode cX10_lasts 30 = .ok (.lconst 0, 1) := by decide +kernel
theorem dX10_lasts_31 : decode cX10_lasts 31 = .ok (.lstore 5, 2) := by decide +kernel
theorem dX10_lasts_33 : decode cX10_lasts 33 = .ok (.iconst (-1), 1) := by decide +kernel
theorem dX10_lasts_34 : decode cX10_lasts 34 = .ok (.istore 7, 2) := by decide +kernel
theorem dX10_lasts_36 : decode cX10_lasts 36 = .ok (.iconst (-1), 1) := by decide +kernel
theorem dX10_lasts_37 : decode cX10_lasts 37 = .ok (.istore 8, 2) := by decide +kernel
theorem dX10_lasts_39 : decode cX10_lasts 39 = .ok (.ldc_w 285, 3) := by decide +kernel
theorem dX10_lasts_42 : decode cX10_lasts 42 = .ok (.istore 9, 2) := by decide +kernel
theorem dX10_lasts_44 : decode cX10_lasts 44 = .ok (.iload 9, 2) := by decide +kernel
theorem dX10_lasts_46 : decode cX10_lasts 46 = .ok (.ldc_w 286, 3) := by decide +kernel
theorem dX10_lasts_49 : decode cX10_lasts 49 = .ok (.if_icmp .ge 92, 3) := by decide +kernel
theorem dX10_lasts_52 : decode cX10_lasts 52 = .ok (.aload_n 0, 1) := by decide +kernel
theorem dX10_lasts_53 : decode cX10_lasts 53 = .ok (.iload 9, 2) := by decide +kernel
theorem dX10_lasts_55 : decode cX10_lasts 55 = .ok (.iconst 0, 1) := by decide +kernel
theorem dX10_lasts_56 : decode cX10_lasts 56 = .ok (.invokevirtual 146, 3) := by decide +kernel
theorem dX10_lasts_59 : decode cX10_lasts 59 = .ok (.aload_n 0, 1) := by decide +kernel
theorem dX10_lasts_60 : decode cX10_lasts 60 = .ok (.iload_n 1, 1) := by decide +kernel
theorem dX10_lasts_61 : decode cX10_lasts 61 = .ok (.lconst 1, 1) := by decide +kernel
theorem dX10_lasts_62 : decode cX10_lasts 62 = .ok (.iload_n 2, 1) := by decide +kernel
theorem dX10_lasts_63 : decode cX10_lasts 63 = .ok (.iconst 0, 1) := by decide +kernel
theorem dX10_lasts_64 : decode cX10_lasts 64 = .ok (.invokevirtual 245, 3) := by decide +kernel
theorem dX10_lasts_67 : decode cX10_lasts 67 = .ok (.ifCond .ne 6, 3) := by decide +kernel
theorem dX10_lasts_70 : decode cX10_lasts 70 = .ok (.goto 65, 3) := by decide +kernel
theorem dX10_lasts_73 : decode cX10_lasts 73 = .ok (.aload_n 0, 1) := by decide +kernel
theorem dX10_lasts_74 : decode cX10_lasts 74 = .ok (.invokevirtual 258, 3) := by decide +kernel
theorem dX10_lasts_77 : decode cX10_lasts 77 = .ok (.iload 9, 2) := by decide +kernel
theorem dX10_lasts_79 : decode cX10_lasts 79 = .ok (.i2l, 1) := by decide +kernel
theorem dX10_lasts_80 : decode cX10_lasts 80 = .ok (.ldc2_w 127, 3) := by decide +kernel
theorem dX10_lasts_83 : decode cX10_lasts 83 = .ok (.lmul, 1) := by decide +kernel
theorem dX10_lasts_84 : decode cX10_lasts 84 = .ok (.lsub, 1) := by decide +kernel
theorem dX10_lasts_85 : decode cX10_lasts 85 = .ok (.lstore 10, 2) := by decide +kernel
theorem dX10_lasts_87 : decode cX10_lasts 87 = .ok (.aload_n 0, 1) := by decide +kernel
theorem dX10_lasts_88 : decode cX10_lasts 88 = .ok (.lload 10, 2) := by decide +kernel
theorem dX10_lasts_90 : decode cX10_lasts 90 = .ok (.invokevirtual 290, 3) := by decide +kernel
theorem dX10_lasts_93 : decode cX10_lasts 93 = .ok (.iload 7, 2) := by decide +kernel
theorem dX10_lasts_95 : decode cX10_lasts 95 = .ok (.iconst (-1), 1) := by decide +kernel
theorem dX10_lasts_96 : decode cX10_lasts 96 = .ok (.if_icmp .eq 10, 3) := by decide +kernel
theorem dX10_lasts_99 : decode cX10_lasts 99 = .ok (.lload 10, 2) := by decide +kernel
theorem dX10_lasts_101 : decode cX10_lasts 101 = .ok (.lload_n 3, 1) := by decide +kernel
theorem dX10_lasts_102 : decode cX10_lasts 102 = .ok (.lcmp, 1) := by decide +kernel
theorem dX10_lasts_103 : decode cX10_lasts 103 = .ok (.ifCond .ge 10, 3) := by decide +kernel
theorem dX10_lasts_106 : decode cX10_lasts 106 = .ok (.lload 10, 2) := by decide +kernel
theorem dX10_lasts_108 : decode cX10_lasts 108 = .ok (.lstore_n 3, 1) := by decide +kernel
theorem dX10_lasts_109 : decode cX10_lasts 109 = .ok (.iload 9, 2) := by decide +kernel
theorem dX10_lasts_111 : decode cX10_lasts 111 = .ok (.istore 7, 2) := by decide +kernel
theorem dX10_lasts_113 : decode cX10_lasts 113 = .ok (.iload 8, 2) := by decide +kernel
theorem dX10_lasts_115 : decode cX10_lasts 115 = .ok (.iconst (-1), 1) := by decide +kernel
theorem dX10_lasts_116 : decode cX10_lasts 116 = .ok (.if_icmp .eq 11, 3) := by decide +kernel
theorem dX10_lasts_119 : decode cX10_lasts 119 = .ok (.lload 10, 2) := by decide +kernel
theorem dX10_lasts_121 : decode cX10_lasts 121 = .ok (.lload 5, 2) := by decide +kernel
theorem dX10_lasts_123 : decode cX10_lasts 123 = .ok (.lcmp, 1) := by decide +kernel
theorem dX10_lasts_124 : decode cX10_lasts 124 = .ok (.ifCond .le 11, 3) := by decide +kernel
theorem dX10_lasts_127 : decode cX10_lasts 127 = .ok (.lload 10, 2) := by decide +kernel
theorem dX10_lasts_129 : decode cX10_lasts 129 = .ok (.lstore 5, 2) := by decide +kernel
theorem dX10_lasts_131 : decode cX10_lasts 131 = .ok (.iload 9, 2) := by decide +kernel
theorem dX10_lasts_133 : decode cX10_lasts 133 = .ok (.istore 8, 2) := by decide +kernel
theorem dX10_lasts_135 : decode cX10_lasts 135 = .ok (.iinc 9 1, 3) := by decide +kernel
theorem dX10_lasts_138 : decode cX10_lasts 138 = .ok (.goto (-94), 3) := by decide +kernel
theorem dX10_lasts_141 : decode cX10_lasts 141 = .ok (.aload_n 0, 1) := by decide +kernel
theorem dX10_lasts_142 : decode cX10_lasts 142 = .ok (.getfield 287, 3) := by decide +kernel
theorem dX10_lasts_145 : decode cX10_lasts 145 = .ok (.ifCond .ne 7, 3) := by decide +kernel
theorem dX10_lasts_148 : decode cX10_lasts 148 = .ok (.ldc2_w 283, 3) := by decide +kernel
theorem dX10_lasts_151 : decode cX10_lasts 151 = .ok (.lreturn, 1) := by decide +kernel
theorem dX10_lasts_152 : decode cX10_lasts 152 = .ok (.aload_n 0, 1) := by decide +kernel
theorem dX10_lasts_153 : decode cX10_lasts 153 = .ok (.iconst 0, 1) := by decide +kernel
theorem dX10_lasts_154 : decode cX10_lasts 154 = .ok (.putfield 49, 3) := by decide +kernel
theorem dX10_lasts_157 : decode cX10_lasts 157 = .ok (.aload_n 0, 1) := by decide +kernel
theorem dX10_lasts_158 : decode cX10_lasts 158 = .ok (.lload_n 3, 1) := by decide +kernel
theorem dX10_lasts_159 : decode cX10_lasts 159 = .ok (.invokevirtual 208, 3) := by decide +kernel
theorem dX10_lasts_162 : decode cX10_lasts 162 = .ok (.aload_n 0, 1) := by decide +kernel
theorem dX10_lasts_163 : decode cX10_lasts 163 = .ok (.lload 5, 2) := by decide +kernel
theorem dX10_lasts_165 : decode cX10_lasts 165 = .ok (.invokevirtual 208, 3) := by decide +kernel
theorem dX10_lasts_168 : decode cX10_lasts 168 = .ok (.aload_n 0, 1) := by decide +kernel
theorem dX10_lasts_169 : decode cX10_lasts 169 = .ok (.iload 7, 2) := by decide +kernel
theorem dX10_lasts_171 : decode cX10_lasts 171 = .ok (.i2l, 1) := by decide +kernel
theorem dX10_lasts_172 : decode cX10_lasts 172 = .ok (.invokevirtual 208, 3) := by decide +kernel
theorem dX10_lasts_175 : decode cX10_lasts 175 = .ok (.aload_n 0, 1) := by decide +kernel
theorem dX10_lasts_176 : decode cX10_lasts 176 = .ok (.iload 8, 2) := by decide +kernel
theorem dX10_lasts_178 : decode cX10_lasts 178 = .ok (.i2l, 1) := by decide +kernel
theorem dX10_lasts_179 : decode cX10_lasts 179 = .ok (.invokevirtual 208, 3) := by decide +kernel
theorem dX10_lasts_182 : decode cX10_lasts 182 = .ok (.aload_n 0, 1) := by decide +kernel
theorem dX10_lasts_183 : decode cX10_lasts 183 = .ok (.aload_n 0, 1) := by decide +kernel
theorem dX10_lasts_184 : decode cX10_lasts 184 = .ok (.getfield 287, 3) := by decide +kernel
theorem dX10_lasts_187 : decode cX10_lasts 187 = .ok (.i2l, 1) := by decide +kernel
theorem dX10_lasts_188 : decode cX10_lasts 188 = .ok (.invokevirtual 208, 3) := by decide +kernel
theorem dX10_lasts_191 : decode cX10_lasts 191 = .ok (.lload_n 3, 1) := by decide +kernel
theorem dX10_lasts_192 : decode cX10_lasts 192 = .ok (.lreturn, 1) := by decide +kernel
theorem dX10_goesOne_0 : decode cX10_goesOne 0 = .ok (.aload_n 0, 1) := by decide +kernel
theorem dX10_goesOne_1 : decode cX10_goesOne 1 = .ok (.iload 5, 2) := by decide +kernel
theorem dX10_goesOne_3 : decode cX10_goesOne 3 = .ok (.iconst 0, 1) := by decide +kernel
theorem dX10_goesOne_4 : decode cX10_goesOne 4 = .ok (.invokevirtual 146, 3) := by decide +kernel
theorem dX10_goesOne_7 : decode cX10_goesOne 7 = .ok (.aload_n 0, 1) := by decide +kernel
theorem dX10_goesOne_8 : decode cX10_goesOne 8 = .ok (.iload_n 2, 1) := by decide +kernel
theorem dX10_goesOne_9 : decode cX10_goesOne 9 = .ok (.lconst 1, 1) := by decide +kernel
theorem dX10_goesOne_10 : decode cX10_goesOne 10 = .ok (.iload 4, 2) := by decide +kernel
theorem dX10_goesOne_12 : decode cX10_goesOne 12 = .ok (.iconst 0, 1) := by decide +kernel
theorem dX10_goesOne_13 : decode cX10_goesOne 13 = .ok (.invokevirtual 245, 3) := by decide +kernel
theorem dX10_goesOne_16 : decode cX10_goesOne 16 = .ok (.istore 6, 2) := by decide +kernel
theorem dX10_goesOne_18 : decode cX10_goesOne 18 = .ok (.iload_n 1, 1) := by decide +kernel
theorem dX10_goesOne_19 : decode cX10_goesOne 19 = .ok (.ifCond .ne 27, 3) := by decide +kernel
theorem dX10_goesOne_22 : decode cX10_goesOne 22 = .ok (.iload 6, 2) := by decide +kernel
theorem dX10_goesOne_24 : decode cX10_goesOne 24 = .ok (.ifCond .eq 19, 3) := by decide +kernel
theorem dX10_goesOne_27 : decode cX10_goesOne 27 = .ok (.aload_n 0, 1) := by decide +kernel
theorem dX10_goesOne_28 : decode cX10_goesOne 28 = .ok (.iload_n 3, 1) := by decide +kernel
theorem dX10_goesOne_29 : decode cX10_goesOne 29 = .ok (.lconst 1, 1) := by decide +kernel
theorem dX10_goesOne_30 : decode cX10_goesOne 30 = .ok (.iload 4, 2) := by decide +kernel
theorem dX10_goesOne_32 : decode cX10_goesOne 32 = .ok (.iconst 0, 1) := by decide +kernel
theorem dX10_goesOne_33 : decode cX10_goesOne 33 = .ok (.invokevirtual 245, 3) := by decide +kernel
theorem dX10_goesOne_36 : decode cX10_goesOne 36 = .ok (.ifCond .eq 7, 3) := by decide +kernel
theorem dX10_goesOne_39 : decode cX10_goesOne 39 = .ok (.iconst 1, 1) := by decide +kernel
theorem dX10_goesOne_40 : decode cX10_goesOne 40 = .ok (.goto 4, 3) := by decide +kernel
theorem dX10_goesOne_43 : decode cX10_goesOne 43 = .ok (.iconst 0, 1) := by decide +kernel
theorem dX10_goesOne_44 : decode cX10_goesOne 44 = .ok (.istore 6, 2) := by decide +kernel
theorem dX10_goesOne_46 : decode cX10_goesOne 46 = .ok (.iload_n 1, 1) := by decide +kernel
theorem dX10_goesOne_47 : decode cX10_goesOne 47 = .ok (.iconst 1, 1) := by decide +kernel
theorem dX10_goesOne_48 : decode cX10_goesOne 48 = .ok (.if_icmp .ne 29, 3) := by decide +kernel
theorem dX10_goesOne_51 : decode cX10_goesOne 51 = .ok (.iload 6, 2) := by decide +kernel
theorem dX10_goesOne_53 : decode cX10_goesOne 53 = .ok (.ifCond .eq 21, 3) := by decide +kernel
theorem dX10_goesOne_56 : decode cX10_goesOne 56 = .ok (.aload_n 0, 1) := by decide +kernel
theorem dX10_goesOne_57 : decode cX10_goesOne 57 = .ok (.iload_n 2, 1) := by decide +kernel
theorem dX10_goesOne_58 : decode cX10_goesOne 58 = .ok (.ldc2_w 281, 3) := by decide +kernel
theorem dX10_goesOne_61 : decode cX10_goesOne 61 = .ok (.iload 4, 2) := by decide +kernel
theorem dX10_goesOne_63 : decode cX10_goesOne 63 = .ok (.iconst 0, 1) := by decide +kernel
theorem dX10_goesOne_64 : decode cX10_goesOne 64 = .ok (.invokevirtual 245, 3) := by decide +kernel
theorem dX10_goesOne_67 : decode cX10_goesOne 67 = .ok (.ifCond .eq 7, 3) := by decide +kernel
theorem dX10_goesOne_70 : decode cX10_goesOne 70 = .ok (.iconst 1, 1) := by decide +kernel
theorem dX10_goesOne_71 : decode cX10_goesOne 71 = .ok (.goto 4, 3) := by decide +kernel
theorem dX10_goesOne_74 : decode cX10_goesOne 74 = .ok (.iconst 0, 1) := by decide +kernel
theorem dX10_goesOne_75 : decode cX10_goesOne 75 = .ok (.istore 6, 2) := by decide +kernel
theorem dX10_goesOne_77 : decode cX10_goesOne 77 = .ok (.iload_n 1, 1) := by decide +kernel
theorem dX10_goesOne_78 : decode cX10_goesOne 78 = .ok (.iconst 2, 1) := by decide +kernel
theorem dX10_goesOne_79 : decode cX10_goesOne 79 = .ok (.if_icmp .ne 27, 3) := by decide +kernel
theorem dX10_goesOne_82 : decode cX10_goesOne 82 = .ok (.iload 6, 2) := by decide +kernel
theorem dX10_goesOne_84 : decode cX10_goesOne 84 = .ok (.ifCond .eq 19, 3) := by decide +kernel
theorem dX10_goesOne_87 : decode cX10_goesOne 87 = .ok (.aload_n 0, 1) := by decide +kernel
theorem dX10_goesOne_88 : decode cX10_goesOne 88 = .ok (.iload_n 2, 1) := by decide +kernel
theorem dX10_goesOne_89 : decode cX10_goesOne 89 = .ok (.lconst 1, 1) := by decide +kernel
theorem dX10_goesOne_90 : decode cX10_goesOne 90 = .ok (.iload 4, 2) := by decide +kernel
theorem dX10_goesOne_92 : decode cX10_goesOne 92 = .ok (.iconst 0, 1) := by decide +kernel
theorem dX10_goesOne_93 : decode cX10_goesOne 93 = .ok (.invokevirtual 245, 3) := by decide +kernel
theorem dX10_goesOne_96 : decode cX10_goesOne 96 = .ok (.ifCond .eq 7, 3) := by decide +kernel
theorem dX10_goesOne_99 : decode cX10_goesOne 99 = .ok (.iconst 1, 1) := by decide +kernel
theorem dX10_goesOne_100 : decode cX10_goesOne 100 = .ok (.goto 4, 3) := by decide +kernel
theorem dX10_goesOne_103 : decode cX10_goesOne 103 = .ok (.iconst 0, 1) := by decide +kernel
theorem dX10_goesOne_104 : decode cX10_goesOne 104 = .ok (.istore 6, 2) := by decide +kernel
theorem dX10_goesOne_106 : decode cX10_goesOne 106 = .ok (.aload_n 0, 1) := by decide +kernel
theorem dX10_goesOne_107 : decode cX10_goesOne 107 = .ok (.aload_n 0, 1) := by decide +kernel
theorem dX10_goesOne_108 : decode cX10_goesOne 108 = .ok (.invokevirtual 258, 3) := by decide +kernel
theorem dX10_goesOne_111 : decode cX10_goesOne 111 = .ok (.putfield 293, 3) := by decide +kernel
theorem dX10_goesOne_114 : decode cX10_goesOne 114 = .ok (.iload 6, 2) := by decide +kernel
theorem dX10_goesOne_116 : decode cX10_goesOne 116 = .ok (.ireturn, 1) := by decide +kernel
theorem dX10_goesOther_0 : decode cX10_goesOther 0 = .ok (.aload_n 0, 1) := by decide +kernel
theorem dX10_goesOther_1 : decode cX10_goesOther 1 = .ok (.iload 5, 2) := by decide +kernel
theorem dX10_goesOther_3 : decode cX10_goesOther 3 = .ok (.iconst 0, 1) := by decide +kernel
theorem dX10_goesOther_4 : decode cX10_goesOther 4 = .ok (.invokevirtual 146, 3) := by decide +kernel
theorem dX10_goesOther_7 : decode cX10_goesOther 7 = .ok (.iconst 1, 1) := by decide +kernel
theorem dX10_goesOther_8 : decode cX10_goesOther 8 = .ok (.istore 6, 2) := by decide +kernel
theorem dX10_goesOther_10 : decode cX10_goesOther 10 = .ok (.iload_n 1, 1) := by decide +kernel
theorem dX10_goesOther_11 : decode cX10_goesOther 11 = .ok (.ifCond .ne 34, 3) := by decide +kernel
theorem dX10_goesOther_14 : decode cX10_goesOther 14 = .ok (.aload_n 0, 1) := by decide +kernel
theorem dX10_goesOther_15 : decode cX10_goesOther 15 = .ok (.iload_n 3, 1) := by decide +kernel
theorem dX10_goesOther_16 : decode cX10_goesOther 16 = .ok (.lconst 1, 1) := by decide +kernel
theorem dX10_goesOther_17 : decode cX10_goesOther 17 = .ok (.iload 4, 2) := by decide +kernel
theorem dX10_goesOther_19 : decode cX10_goesOther 19 = .ok (.iconst 0, 1) := by decide +kernel
theorem dX10_goesOther_20 : decode cX10_goesOther 20 = .ok (.invokevirtual 245, 3) := by decide +kernel
theorem dX10_goesOther_23 : decode cX10_goesOther 23 = .ok (.ifCond .eq 19, 3) := by decide +kernel
theorem dX10_goesOther_26 : decode cX10_goesOther 26 = .ok (.aload_n 0, 1) := by decide +kernel
theorem dX10_goesOther_27 : decode cX10_goesOther 27 = .ok (.iload_n 2, 1) := by decide +kernel
theorem dX10_goesOther_28 : decode cX10_goesOther 28 = .ok (.lconst 1, 1) := by decide +kernel
theorem dX10_goesOther_29 : decode cX10_goesOther 29 = .ok (.iload 4, 2) := by decide +kernel
theorem dX10_goesOther_31 : decode cX10_goesOther 31 = .ok (.iconst 0, 1) := by decide +kernel
theorem dX10_goesOther_32 : decode cX10_goesOther 32 = .ok (.invokevirtual 245, 3) := by decide +kernel
theorem dX10_goesOther_35 : decode cX10_goesOther 35 = .ok (.ifCond .eq 7, 3) := by decide +kernel
theorem dX10_goesOther_38 : decode cX10_goesOther 38 = .ok (.iconst 1, 1) := by decide +kernel
theorem dX10_goesOther_39 : decode cX10_goesOther 39 = .ok (.goto 4, 3) := by decide +kernel
theorem dX10_goesOther_42 : decode cX10_goesOther 42 = .ok (.iconst 0, 1) := by decide +kernel
theorem dX10_goesOther_43 : decode cX10_goesOther 43 = .ok (.istore 6, 2) := by decide +kernel
theorem dX10_goesOther_45 : decode cX10_goesOther 45 = .ok (.iload_n 1, 1) := by decide +kernel
theorem dX10_goesOther_46 : decode cX10_goesOther 46 = .ok (.iconst 2, 1) := by decide +kernel
theorem dX10_goesOther_47 : decode cX10_goesOther 47 = .ok (.if_icmp .ne 16, 3) := by decide +kernel
theorem dX10_goesOther_50 : decode cX10_goesOther 50 = .ok (.aload_n 0, 1) := by decide +kernel
theorem dX10_goesOther_51 : decode cX10_goesOther 51 = .ok (.iload_n 2, 1) := by decide +kernel
theorem dX10_goesOther_52 : decode cX10_goesOther 52 = .ok (.ldc2_w 225, 3) := by decide +kernel
theorem dX10_goesOther_55 : decode cX10_goesOther 55 = .ok (.iload 4, 2) := by decide +kernel
theorem dX10_goesOther_57 : decode cX10_goesOther 57 = .ok (.iconst 0, 1) := by decide +kernel
theorem dX10_goesOther_58 : decode cX10_goesOther 58 = .ok (.invokevirtual 245, 3) := by decide +kernel
theorem dX10_goesOther_61 : decode cX10_goesOther 61 = .ok (.istore 6, 2) := by decide +kernel
theorem dX10_goesOther_63 : decode cX10_goesOther 63 = .ok (.iload_n 1, 1) := by decide +kernel
theorem dX10_goesOther_64 : decode cX10_goesOther 64 = .ok (.iconst 3, 1) := by decide +kernel
theorem dX10_goesOther_65 : decode cX10_goesOther 65 = .ok (.if_icmp .ne 14, 3) := by decide +kernel
theorem dX10_goesOther_68 : decode cX10_goesOther 68 = .ok (.aload_n 0, 1) := by decide +kernel
theorem dX10_goesOther_69 : decode cX10_goesOther 69 = .ok (.iload_n 2, 1) := by decide +kernel
theorem dX10_goesOther_70 : decode cX10_goesOther 70 = .ok (.lconst 1, 1) := by decide +kernel
theorem dX10_goesOther_71 : decode cX10_goesOther 71 = .ok (.iload 4, 2) := by decide +kernel
theorem dX10_goesOther_73 : decode cX10_goesOther 73 = .ok (.iconst 1, 1) := by decide +kernel
theorem dX10_goesOther_74 : decode cX10_goesOther 74 = .ok (.invokevirtual 245, 3) := by decide +kernel
theorem dX10_goesOther_77 : decode cX10_goesOther 77 = .ok (.istore 6, 2) := by decide +kernel
theorem dX10_goesOther_79 : decode cX10_goesOther 79 = .ok (.aload_n 0, 1) := by decide +kernel
theorem dX10_goesOther_80 : decode cX10_goesOther 80 = .ok (.aload_n 0, 1) := by decide +kernel
theorem dX10_goesOther_81 : decode cX10_goesOther 81 = .ok (.invokevirtual 258, 3) := by decide +kernel
theorem dX10_goesOther_84 : decode cX10_goesOther 84 = .ok (.putfield 296, 3) := by decide +kernel
theorem dX10_goesOther_87 : decode cX10_goesOther 87 = .ok (.iload 6, 2) := by decide +kernel
theorem dX10_goesOther_89 : decode cX10_goesOther 89 = .ok (.ireturn, 1) := by decide +kernel
theorem dX10_isUnlike_0 : decode cX10_isUnlike 0 = .ok (.aload_n 0, 1) := by decide +kernel
theorem dX10_isUnlike_1 : decode cX10_isUnlike 1 = .ok (.iload_n 1, 1) := by decide +kernel
theorem dX10_isUnlike_2 : decode cX10_isUnlike 2 = .ok (.iload_n 2, 1) := by decide +kernel
theorem dX10_isUnlike_3 : decode cX10_isUnlike 3 = .ok (.iload_n 3, 1) := by decide +kernel
theorem dX10_isUnlike_4 : decode cX10_isUnlike 4 = .ok (.iload 4, 2) := by decide +kernel
theorem dX10_isUnlike_6 : decode cX10_isUnlike 6 = .ok (.iload 5, 2) := by decide +kernel
theorem dX10_isUnlike_8 : decode cX10_isUnlike 8 = .ok (.invokevirtual 299, 3) := by decide +kernel
theorem dX10_isUnlike_11 : decode cX10_isUnlike 11 = .ok (.ifCond .eq 33, 3) := by decide +kernel
theorem dX10_isUnlike_14 : decode cX10_isUnlike 14 = .ok (.aload_n 0, 1) := by decide +kernel
theorem dX10_isUnlike_15 : decode cX10_isUnlike 15 = .ok (.iload_n 1, 1) := by decide +kernel
theorem dX10_isUnlike_16 : decode cX10_isUnlike 16 = .ok (.iload_n 2, 1) := by decide +kernel
theorem dX10_isUnlike_17 : decode cX10_isUnlike 17 = .ok (.iload_n 3, 1) := by decide +kernel
theorem dX10_isUnlike_18 : decode cX10_isUnlike 18 = .ok (.iload 4, 2) := by decide +kernel
theorem dX10_isUnlike_20 : decode cX10_isUnlike 20 = .ok (.iload 5, 2) := by decide +kernel
theorem dX10_isUnlike_22 : decode cX10_isUnlike 22 = .ok (.invokevirtual 303, 3) := by decide +kernel
theorem dX10_isUnlike_25 : decode cX10_isUnlike 25 = .ok (.ifCond .eq 19, 3) := by decide +kernel
theorem dX10_isUnlike_28 : decode cX10_isUnlike 28 = .ok (.aload_n 0, 1) := by decide +kernel
theorem dX10_isUnlike_29 : decode cX10_isUnlike 29 = .ok (.getfield 293, 3) := by decide +kernel
theorem dX10_isUnlike_32 : decode cX10_isUnlike 32 = .ok (.aload_n 0, 1) := by decide +kernel
theorem dX10_isUnlike_33 : decode cX10_isUnlike 33 = .ok (.getfield 296, 3) := by decide +kernel
theorem dX10_isUnlike_36 : decode cX10_isUnlike 36 = .ok (.lcmp, 1) := by decide +kernel
theorem dX10_isUnlike_37 : decode cX10_isUnlike 37 = .ok (.ifCond .eq 7, 3) := by decide +kernel
theorem dX10_isUnlike_40 : decode cX10_isUnlike 40 = .ok (.iconst 1, 1) := by decide +kernel
theorem dX10_isUnlike_41 : decode cX10_isUnlike 41 = .ok (.goto 4, 3) := by decide +kernel
theorem dX10_isUnlike_44 : decode cX10_isUnlike 44 = .ok (.iconst 0, 1) := by decide +kernel
theorem dX10_isUnlike_45 : decode cX10_isUnlike 45 = .ok (.ireturn, 1) := by decide +kernel
theorem dX10_isBeyond_0 : decode cX10_isBeyond 0 = .ok (.lload_n 2, 1) := by decide +kernel
theorem dX10_isBeyond_1 : decode cX10_isBeyond 1 = .ok (.aload_n 0, 1) := by decide +kernel
theorem dX10_isBeyond_2 : decode cX10_isBeyond 2 = .ok (.getfield 16, 3) := by decide +kernel
theorem dX10_isBeyond_5 : decode cX10_isBeyond 5 = .ok (.iconst 3, 1) := by decide +kernel
theorem dX10_isBeyond_6 : decode cX10_isBeyond 6 = .ok (.iload_n 1, 1) := by decide +kernel
theorem dX10_isBeyond_7 : decode cX10_isBeyond 7 = .ok (.imul, 1) := by decide +kernel
theorem dX10_isBeyond_8 : decode cX10_isBeyond 8 = .ok (.iaload, 1) := by decide +kernel
theorem dX10_isBeyond_9 : decode cX10_isBeyond 9 = .ok (.i2l, 1) := by decide +kernel
theorem dX10_isBeyond_10 : decode cX10_isBeyond 10 = .ok (.lmul, 1) := by decide +kernel
theorem dX10_isBeyond_11 : decode cX10_isBeyond 11 = .ok (.invokestatic 222, 3) := by decide +kernel
theorem dX10_isBeyond_14 : decode cX10_isBeyond 14 = .ok (.ifCond .eq 41, 3) := by decide +kernel
theorem dX10_isBeyond_17 : decode cX10_isBeyond 17 = .ok (.lload_n 2, 1) := by decide +kernel
theorem dX10_isBeyond_18 : decode cX10_isBeyond 18 = .ok (.aload_n 0, 1) := by decide +kernel
theorem dX10_isBeyond_19 : decode cX10_isBeyond 19 = .ok (.getfield 16, 3) := by decide +kernel
theorem dX10_isBeyond_22 : decode cX10_isBeyond 22 = .ok (.iconst 3, 1) := by decide +kernel
theorem dX10_isBeyond_23 : decode cX10_isBeyond 23 = .ok (.iload_n 1, 1) := by decide +kernel
theorem dX10_isBeyond_24 : decode cX10_isBeyond 24 = .ok (.imul, 1) := by decide +kernel
theorem dX10_isBeyond_25 : decode cX10_isBeyond 25 = .ok (.iconst 1, 1) := by decide +kernel
theorem dX10_isBeyond_26 : decode cX10_isBeyond 26 = .ok (.iadd, 1) := by decide +kernel
theorem dX10_isBeyond_27 : decode cX10_isBeyond 27 = .ok (.iaload, 1) := by decide +kernel
theorem dX10_isBeyond_28 : decode cX10_isBeyond 28 = .ok (.i2l, 1) := by decide +kernel
theorem dX10_isBeyond_29 : decode cX10_isBeyond 29 = .ok (.lmul, 1) := by decide +kernel
theorem dX10_isBeyond_30 : decode cX10_isBeyond 30 = .ok (.invokestatic 222, 3) := by decide +kernel
theorem dX10_isBeyond_33 : decode cX10_isBeyond 33 = .ok (.ifCond .eq 22, 3) := by decide +kernel
theorem dX10_isBeyond_36 : decode cX10_isBeyond 36 = .ok (.lload_n 2, 1) := by decide +kernel
theorem dX10_isBeyond_37 : decode cX10_isBeyond 37 = .ok (.aload_n 0, 1) := by decide +kernel
theorem dX10_isBeyond_38 : decode cX10_isBeyond 38 = .ok (.getfield 16, 3) := by decide +kernel
theorem dX10_isBeyond_41 : decode cX10_isBeyond 41 = .ok (.iconst 3, 1) := by decide +kernel
theorem dX10_isBeyond_42 : decode cX10_isBeyond 42 = .ok (.iload_n 1, 1) := by decide +kernel
theorem dX10_isBeyond_43 : decode cX10_isBeyond 43 = .ok (.imul, 1) := by decide +kernel
theorem dX10_isBeyond_44 : decode cX10_isBeyond 44 = .ok (.iconst 2, 1) := by decide +kernel
theorem dX10_isBeyond_45 : decode cX10_isBeyond 45 = .ok (.iadd, 1) := by decide +kernel
theorem dX10_isBeyond_46 : decode cX10_isBeyond 46 = .ok (.iaload, 1) := by decide +kernel
theorem dX10_isBeyond_47 : decode cX10_isBeyond 47 = .ok (.i2l, 1) := by decide +kernel
theorem dX10_isBeyond_48 : decode cX10_isBeyond 48 = .ok (.lmul, 1) := by decide +kernel
theorem dX10_isBeyond_49 : decode cX10_isBeyond 49 = .ok (.invokestatic 222, 3) := by decide +kernel
theorem dX10_isBeyond_52 : decode cX10_isBeyond 52 = .ok (.ifCond .ne 7, 3) := by decide +kernel
theorem dX10_isBeyond_55 : decode cX10_isBeyond 55 = .ok (.iconst 1, 1) := by decide +kernel
theorem dX10_isBeyond_56 : decode cX10_isBeyond 56 = .ok (.goto 4, 3) := by decide +kernel
theorem dX10_isBeyond_59 : decode cX10_isBeyond 59 = .ok (.iconst 0, 1) := by decide +kernel
theorem dX10_isBeyond_60 : decode cX10_isBeyond 60 = .ok (.ireturn, 1) := by decide +kernel
theorem dX10_fails_0 : decode cX10_fails 0 = .ok (.aload_n 0, 1) := by decide +kernel
theorem dX10_fails_1 : decode cX10_fails 1 = .ok (.iconst 0, 1) := by decide +kernel
theorem dX10_fails_2 : decode cX10_fails 2 = .ok (.putfield 45, 3) := by decide +kernel
theorem dX10_fails_5 : decode cX10_fails 5 = .ok (.iload_n 1, 1) := by decide +kernel
theorem dX10_fails_6 : decode cX10_fails 6 = .ok (.i2l, 1) := by decide +kernel
theorem dX10_fails_7 : decode cX10_fails 7 = .ok (.lconst 0, 1) := by decide +kernel
theorem dX10_fails_8 : decode cX10_fails 8 = .ok (.ldc2_w 60, 3) := by decide +kernel
theorem dX10_fails_11 : decode cX10_fails 11 = .ok (.invokestatic 54, 3) := by decide +kernel
theorem dX10_fails_14 : decode cX10_fails 14 = .ok (.ifCond .eq 34, 3) := by decide +kernel
theorem dX10_fails_17 : decode cX10_fails 17 = .ok (.iload_n 2, 1) := by decide +kernel
theorem dX10_fails_18 : decode cX10_fails 18 = .ok (.invokestatic 179, 3) := by decide +kernel
theorem dX10_fails_21 : decode cX10_fails 21 = .ok (.ifCond .eq 27, 3) := by decide +kernel
theorem dX10_fails_24 : decode cX10_fails 24 = .ok (.iload_n 3, 1) := by decide +kernel
theorem dX10_fails_25 : decode cX10_fails 25 = .ok (.invokestatic 179, 3) := by decide +kernel
theorem dX10_fails_28 : decode cX10_fails 28 = .ok (.ifCond .eq 20, 3) := by decide +kernel
theorem dX10_fails_31 : decode cX10_fails 31 = .ok (.iload 4, 2) := by decide +kernel
theorem dX10_fails_33 : decode cX10_fails 33 = .ok (.invokestatic 236, 3) := by decide +kernel
theorem dX10_fails_36 : decode cX10_fails 36 = .ok (.ifCond .eq 12, 3) := by decide +kernel
theorem dX10_fails_39 : decode cX10_fails 39 = .ok (.iload 5, 2) := by decide +kernel
theorem dX10_fails_41 : decode cX10_fails 41 = .ok (.i2l, 1) := by decide +kernel
theorem dX10_fails_42 : decode cX10_fails 42 = .ok (.invokestatic 123, 3) := by decide +kernel
theorem dX10_fails_45 : decode cX10_fails 45 = .ok (.ifCond .ne 5, 3) := by decide +kernel
theorem dX10_fails_48 : decode cX10_fails 48 = .ok (.iconst (-1), 1) := by decide +kernel
theorem dX10_fails_49 : decode cX10_fails 49 = .ok (.ireturn, 1) := by decide +kernel
theorem dX10_fails_50 : decode cX10_fails 50 = .ok (.iload_n 1, 1) := by decide +kernel
theorem dX10_fails_51 : decode cX10_fails 51 = .ok (.iconst 2, 1) := by decide +kernel
theorem dX10_fails_52 : decode cX10_fails 52 = .ok (.if_icmp .ne 17, 3) := by decide +kernel
theorem dX10_fails_55 : decode cX10_fails 55 = .ok (.aload_n 0, 1) := by decide +kernel
theorem dX10_fails_56 : decode cX10_fails 56 = .ok (.iload_n 2, 1) := by decide +kernel
theorem dX10_fails_57 : decode cX10_fails 57 = .ok (.ldc2_w 225, 3) := by decide +kernel
theorem dX10_fails_60 : decode cX10_fails 60 = .ok (.invokevirtual 306, 3) := by decide +kernel
theorem dX10_fails_63 : decode cX10_fails 63 = .ok (.ifCond .eq 6, 3) := by decide +kernel
theorem dX10_fails_66 : decode cX10_fails 66 = .ok (.bipush (-9), 2) := by decide +kernel
theorem dX10_fails_68 : decode cX10_fails 68 = .ok (.ireturn, 1) := by decide +kernel
theorem dX10_fails_69 : decode cX10_fails 69 = .ok (.iconst 0, 1) := by decide +kernel
theorem dX10_fails_70 : decode cX10_fails 70 = .ok (.istore 6, 2) := by decide +kernel
theorem dX10_fails_72 : decode cX10_fails 72 = .ok (.iload 6, 2) := by decide +kernel
theorem dX10_fails_74 : decode cX10_fails 74 = .ok (.ldc_w 310, 3) := by decide +kernel
theorem dX10_fails_77 : decode cX10_fails 77 = .ok (.if_icmp .ge 68, 3) := by decide +kernel
theorem dX10_fails_80 : decode cX10_fails 80 = .ok (.iload 5, 2) := by decide +kernel
theorem dX10_fails_82 : decode cX10_fails 82 = .ok (.iload 6, 2) := by decide +kernel
theorem dX10_fails_84 : decode cX10_fails 84 = .ok (.iadd, 1) := by decide +kernel
theorem dX10_fails_85 : decode cX10_fails 85 = .ok (.i2l, 1) := by decide +kernel
theorem dX10_fails_86 : decode cX10_fails 86 = .ok (.invokestatic 123, 3) := by decide +kernel
theorem dX10_fails_89 : decode cX10_fails 89 = .ok (.ifCond .eq 56, 3) := by decide +kernel
theorem dX10_fails_92 : decode cX10_fails 92 = .ok (.aload_n 0, 1) := by decide +kernel
theorem dX10_fails_93 : decode cX10_fails 93 = .ok (.iload_n 1, 1) := by decide +kernel
theorem dX10_fails_94 : decode cX10_fails 94 = .ok (.iload_n 2, 1) := by decide +kernel
theorem dX10_fails_95 : decode cX10_fails 95 = .ok (.iload_n 3, 1) := by decide +kernel
theorem dX10_fails_96 : decode cX10_fails 96 = .ok (.iload 4, 2) := by decide +kernel
theorem dX10_fails_98 : decode cX10_fails 98 = .ok (.iload 5, 2) := by decide +kernel
theorem dX10_fails_100 : decode cX10_fails 100 = .ok (.iload 6, 2) := by decide +kernel
theorem dX10_fails_102 : decode cX10_fails 102 = .ok (.iadd, 1) := by decide +kernel
theorem dX10_fails_103 : decode cX10_fails 103 = .ok (.invokevirtual 311, 3) := by decide +kernel
theorem dX10_fails_106 : decode cX10_fails 106 = .ok (.ifCond .ne 6, 3) := by decide +kernel
theorem dX10_fails_109 : decode cX10_fails 109 = .ok (.goto 30, 3) := by decide +kernel
theorem dX10_fails_112 : decode cX10_fails 112 = .ok (.aload_n 0, 1) := by decide +kernel
theorem dX10_fails_113 : decode cX10_fails 113 = .ok (.iconst 0, 1) := by decide +kernel
theorem dX10_fails_114 : decode cX10_fails 114 = .ok (.putfield 49, 3) := by decide +kernel
theorem dX10_fails_117 : decode cX10_fails 117 = .ok (.aload_n 0, 1) := by decide +kernel
theorem dX10_fails_118 : decode cX10_fails 118 = .ok (.aload_n 0, 1) := by decide +kernel
theorem dX10_fails_119 : decode cX10_fails 119 = .ok (.getfield 293, 3) := by decide +kernel
theorem dX10_fails_122 : decode cX10_fails 122 = .ok (.invokevirtual 208, 3) := by decide +kernel
theorem dX10_fails_125 : decode cX10_fails 125 = .ok (.aload_n 0, 1) := by decide +kernel
theorem dX10_fails_126 : decode cX10_fails 126 = .ok (.aload_n 0, 1) := by decide +kernel
theorem dX10_fails_127 : decode cX10_fails 127 = .ok (.getfield 296, 3) := by decide +kernel
theorem dX10_fails_130 : decode cX10_fails 130 = .ok (.invokevirtual 208, 3) := by decide +kernel
theorem dX10_fails_133 : decode cX10_fails 133 = .ok (.iload 5, 2) := by decide +kernel
theorem dX10_fails_135 : decode cX10_fails 135 = .ok (.iload 6, 2) := by decide +kernel
theorem dX10_fails_137 : decode cX10_fails 137 = .ok (.iadd, 1) := by decide +kernel
theorem dX10_fails_138 : decode cX10_fails 138 = .ok (.ireturn, 1) := by decide +kernel
theorem dX10_fails_139 : decode cX10_fails 139 = .ok (.iinc 6 1, 3) := by decide +kernel
theorem dX10_fails_142 : decode cX10_fails 142 = .ok (.goto (-70), 3) := by decide +kernel
theorem dX10_fails_145 : decode cX10_fails 145 = .ok (.bipush (-2), 2) := by decide +kernel
theorem dX10_fails_147 : decode cX10_fails 147 = .ok (.ireturn, 1) := by decide +kernel
theorem dX10_often_0 : decode cX10_often 0 = .ok (.aload_n 0, 1) := by decide +kernel
theorem dX10_often_1 : decode cX10_often 1 = .ok (.iconst 0, 1) := by decide +kernel
theorem dX10_often_2 : decode cX10_often 2 = .ok (.putfield 45, 3) := by decide +kernel
theorem dX10_often_5 : decode cX10_often 5 = .ok (.iload_n 1, 1) := by decide +kernel
theorem dX10_often_6 : decode cX10_often 6 = .ok (.i2l, 1) := by decide +kernel
theorem dX10_often_7 : decode cX10_often 7 = .ok (.lconst 0, 1) := by decide +kernel
theorem dX10_often_8 : decode cX10_often 8 = .ok (.ldc2_w 60, 3) := by decide +kernel
theorem dX10_often_11 : decode cX10_often 11 = .ok (.invokestatic 54, 3) := by decide +kernel
theorem dX10_often_14 : decode cX10_often 14 = .ok (.ifCond .eq 25, 3) := by decide +kernel
theorem dX10_often_17 : decode cX10_often 17 = .ok (.iload_n 2, 1) := by decide +kernel
theorem dX10_often_18 : decode cX10_often 18 = .ok (.invokestatic 179, 3) := by decide +kernel
theorem dX10_often_21 : decode cX10_often 21 = .ok (.ifCond .eq 18, 3) := by decide +kernel
theorem dX10_often_24 : decode cX10_often 24 = .ok (.iload_n 3, 1) := by decide +kernel
theorem dX10_often_25 : decode cX10_often 25 = .ok (.invokestatic 179, 3) := by decide +kernel
theorem dX10_often_28 : decode cX10_often 28 = .ok (.ifCond .eq 11, 3) := by decide +kernel
theorem dX10_often_31 : decode cX10_often 31 = .ok (.iload 4, 2) := by decide +kernel
theorem dX10_often_33 : decode cX10_often 33 = .ok (.invokestatic 236, 3) := by decide +kernel
theorem dX10_often_36 : decode cX10_often 36 = .ok (.ifCond .ne 5, 3) := by decide +kernel
theorem dX10_often_39 : decode cX10_often 39 = .ok (.iconst (-1), 1) := by decide +kernel
theorem dX10_often_40 : decode cX10_often 40 = .ok (.ireturn, 1) := by decide +kernel
theorem dX10_often_41 : decode cX10_often 41 = .ok (.iload_n 1, 1) := by decide +kernel
theorem dX10_often_42 : decode cX10_often 42 = .ok (.iconst 2, 1) := by decide +kernel
theorem dX10_often_43 : decode cX10_often 43 = .ok (.if_icmp .ne 17, 3) := by decide +kernel
theorem dX10_often_46 : decode cX10_often 46 = .ok (.aload_n 0, 1) := by decide +kernel
theorem dX10_often_47 : decode cX10_often 47 = .ok (.iload_n 2, 1) := by decide +kernel
theorem dX10_often_48 : decode cX10_often 48 = .ok (.ldc2_w 225, 3) := by decide +kernel
theorem dX10_often_51 : decode cX10_often 51 = .ok (.invokevirtual 306, 3) := by decide +kernel
theorem dX10_often_54 : decode cX10_often 54 = .ok (.ifCond .eq 6, 3) := by decide +kernel
theorem dX10_often_57 : decode cX10_often 57 = .ok (.bipush (-9), 2) := by decide +kernel
theorem dX10_often_59 : decode cX10_often 59 = .ok (.ireturn, 1) := by decide +kernel
theorem dX10_often_60 : decode cX10_often 60 = .ok (.iconst 0, 1) := by decide +kernel
theorem dX10_often_61 : decode cX10_often 61 = .ok (.istore 5, 2) := by decide +kernel
theorem dX10_often_63 : decode cX10_often 63 = .ok (.lconst 0, 1) := by decide +kernel
theorem dX10_often_64 : decode cX10_often 64 = .ok (.lstore 6, 2) := by decide +kernel
theorem dX10_often_66 : decode cX10_often 66 = .ok (.iconst (-1), 1) := by decide +kernel
theorem dX10_often_67 : decode cX10_often 67 = .ok (.istore 8, 2) := by decide +kernel
theorem dX10_often_69 : decode cX10_often 69 = .ok (.ldc_w 285, 3) := by decide +kernel
theorem dX10_often_72 : decode cX10_often 72 = .ok (.istore 9, 2) := by decide +kernel
theorem dX10_often_74 : decode cX10_often 74 = .ok (.iload 9, 2) := by decide +kernel
theorem dX10_often_76 : decode cX10_often 76 = .ok (.ldc_w 286, 3) := by decide +kernel
theorem dX10_often_79 : decode cX10_often 79 = .ok (.if_icmp .ge 62, 3) := by decide +kernel
theorem dX10_often_82 : decode cX10_often 82 = .ok (.aload_n 0, 1) := by decide +kernel
theorem dX10_often_83 : decode cX10_often 83 = .ok (.iload_n 1, 1) := by decide +kernel
theorem dX10_often_84 : decode cX10_often 84 = .ok (.iload_n 2, 1) := by decide +kernel
theorem dX10_often_85 : decode cX10_often 85 = .ok (.iload_n 3, 1) := by decide +kernel
theorem dX10_often_86 : decode cX10_often 86 = .ok (.iload 4, 2) := by decide +kernel
theorem dX10_often_88 : decode cX10_often 88 = .ok (.iload 9, 2) := by decide +kernel
theorem dX10_often_90 : decode cX10_often 90 = .ok (.invokevirtual 311, 3) := by decide +kernel
theorem dX10_often_93 : decode cX10_often 93 = .ok (.ifCond .ne 6, 3) := by decide +kernel
theorem dX10_often_96 : decode cX10_often 96 = .ok (.goto 39, 3) := by decide +kernel
theorem dX10_often_99 : decode cX10_often 99 = .ok (.iinc 5 1, 3) := by decide +kernel
theorem dX10_often_102 : decode cX10_often 102 = .ok (.aload_n 0, 1) := by decide +kernel
theorem dX10_often_103 : decode cX10_often 103 = .ok (.getfield 293, 3) := by decide +kernel
theorem dX10_often_106 : decode cX10_often 106 = .ok (.aload_n 0, 1) := by decide +kernel
theorem dX10_often_107 : decode cX10_often 107 = .ok (.getfield 296, 3) := by decide +kernel
theorem dX10_often_110 : decode cX10_often 110 = .ok (.lsub, 1) := by decide +kernel
theorem dX10_often_111 : decode cX10_often 111 = .ok (.invokestatic 277, 3) := by decide +kernel
theorem dX10_often_114 : decode cX10_often 114 = .ok (.lstore 10, 2) := by decide +kernel
theorem dX10_often_116 : decode cX10_often 116 = .ok (.lload 10, 2) := by decide +kernel
theorem dX10_often_118 : decode cX10_often 118 = .ok (.lload 6, 2) := by decide +kernel
theorem dX10_often_120 : decode cX10_often 120 = .ok (.lcmp, 1) := by decide +kernel
theorem dX10_often_121 : decode cX10_often 121 = .ok (.ifCond .gt 6, 3) := by decide +kernel
theorem dX10_often_124 : decode cX10_often 124 = .ok (.goto 11, 3) := by decide +kernel
theorem dX10_often_127 : decode cX10_often 127 = .ok (.lload 10, 2) := by decide +kernel
theorem dX10_often_129 : decode cX10_often 129 = .ok (.lstore 6, 2) := by decide +kernel
theorem dX10_often_131 : decode cX10_often 131 = .ok (.iload 9, 2) := by decide +kernel
theorem dX10_often_133 : decode cX10_often 133 = .ok (.istore 8, 2) := by decide +kernel
theorem dX10_often_135 : decode cX10_often 135 = .ok (.iinc 9 1, 3) := by decide +kernel
theorem dX10_often_138 : decode cX10_often 138 = .ok (.goto (-64), 3) := by decide +kernel
theorem dX10_often_141 : decode cX10_often 141 = .ok (.aload_n 0, 1) := by decide +kernel
theorem dX10_often_142 : decode cX10_often 142 = .ok (.iconst 0, 1) := by decide +kernel
theorem dX10_often_143 : decode cX10_often 143 = .ok (.putfield 49, 3) := by decide +kernel
theorem dX10_often_146 : decode cX10_often 146 = .ok (.aload_n 0, 1) := by decide +kernel
theorem dX10_often_147 : decode cX10_often 147 = .ok (.lload 6, 2) := by decide +kernel
theorem dX10_often_149 : decode cX10_often 149 = .ok (.invokevirtual 208, 3) := by decide +kernel
theorem dX10_often_152 : decode cX10_often 152 = .ok (.aload_n 0, 1) := by decide +kernel
theorem dX10_often_153 : decode cX10_often 153 = .ok (.iload 8, 2) := by decide +kernel
theorem dX10_often_155 : decode cX10_often 155 = .ok (.i2l, 1) := by decide +kernel
theorem dX10_often_156 : decode cX10_often 156 = .ok (.invokevirtual 208, 3) := by decide +kernel
theorem dX10_often_159 : decode cX10_often 159 = .ok (.iload 5, 2) := by decide +kernel
theorem dX10_often_161 : decode cX10_often 161 = .ok (.ireturn, 1) := by decide +kernel
theorem dX10_drift_0 : decode cX10_drift 0 = .ok (.aload_n 0, 1) := by decide +kernel
theorem dX10_drift_1 : decode cX10_drift 1 = .ok (.iconst 0, 1) := by decide +kernel
theorem dX10_drift_2 : decode cX10_drift 2 = .ok (.putfield 45, 3) := by decide +kernel
theorem dX10_drift_5 : decode cX10_drift 5 = .ok (.iload_n 1, 1) := by decide +kernel
theorem dX10_drift_6 : decode cX10_drift 6 = .ok (.invokestatic 179, 3) := by decide +kernel
theorem dX10_drift_9 : decode cX10_drift 9 = .ok (.ifCond .eq 30, 3) := by decide +kernel
theorem dX10_drift_12 : decode cX10_drift 12 = .ok (.iload_n 2, 1) := by decide +kernel
theorem dX10_drift_13 : decode cX10_drift 13 = .ok (.invokestatic 179, 3) := by decide +kernel
theorem dX10_drift_16 : decode cX10_drift 16 = .ok (.ifCond .eq 23, 3) := by decide +kernel
theorem dX10_drift_19 : decode cX10_drift 19 = .ok (.iload_n 3, 1) := by decide +kernel
theorem dX10_drift_20 : decode cX10_drift 20 = .ok (.invokestatic 236, 3) := by decide +kernel
theorem dX10_drift_23 : decode cX10_drift 23 = .ok (.ifCond .eq 16, 3) := by decide +kernel
theorem dX10_drift_26 : decode cX10_drift 26 = .ok (.iload 4, 2) := by decide +kernel
theorem dX10_drift_28 : decode cX10_drift 28 = .ok (.i2l, 1) := by decide +kernel
theorem dX10_drift_29 : decode cX10_drift 29 = .ok (.lconst 0, 1) := by decide +kernel
theorem dX10_drift_30 : decode cX10_drift 30 = .ok (.ldc2_w 314, 3) := by decide +kernel
theorem dX10_drift_33 : decode cX10_drift 33 = .ok (.invokestatic 54, 3) := by decide +kernel
theorem dX10_drift_36 : decode cX10_drift 36 = .ok (.ifCond .ne 7, 3) := by decide +kernel
theorem dX10_drift_39 : decode cX10_drift 39 = .ok (.ldc2_w 281, 3) := by decide +kernel
theorem dX10_drift_42 : decode cX10_drift 42 = .ok (.lreturn, 1) := by decide +kernel
theorem dX10_drift_43 : decode cX10_drift 43 = .ok (.aload_n 0, 1) := by decide +kernel
theorem dX10_drift_44 : decode cX10_drift 44 = .ok (.iload_n 2, 1) := by decide +kernel
theorem dX10_drift_45 : decode cX10_drift 45 = .ok (.iload 4, 2) := by decide +kernel
theorem dX10_drift_47 : decode cX10_drift 47 = .ok (.i2l, 1) := by decide +kernel
theorem dX10_drift_48 : decode cX10_drift 48 = .ok (.invokevirtual 306, 3) := by decide +kernel
theorem dX10_drift_51 : decode cX10_drift 51 = .ok (.ifCond .eq 7, 3) := by decide +kernel
theorem dX10_drift_54 : decode cX10_drift 54 = .ok (.ldc2_w 316, 3) := by decide +kernel
theorem dX10_drift_57 : decode cX10_drift 57 = .ok (.lreturn, 1) := by decide +kernel
theorem dX10_drift_58 : decode cX10_drift 58 = .ok (.aload_n 0, 1) := by decide +kernel
theorem dX10_drift_59 : decode cX10_drift 59 = .ok (.iload_n 1, 1) := by decide +kernel
theorem dX10_drift_60 : decode cX10_drift 60 = .ok (.invokevirtual 242, 3) := by decide +kernel
theorem dX10_drift_63 : decode cX10_drift 63 = .ok (.iconst 1, 1) := by decide +kernel
theorem dX10_drift_64 : decode cX10_drift 64 = .ok (.istore 5, 2) := by decide +kernel
theorem dX10_drift_66 : decode cX10_drift 66 = .ok (.iconst 0, 1) := by decide +kernel
theorem dX10_drift_67 : decode cX10_drift 67 = .ok (.istore 6, 2) := by decide +kernel
theorem dX10_drift_69 : decode cX10_drift 69 = .ok (.iload 6, 2) := by decide +kernel
theorem dX10_drift_71 : decode cX10_drift 71 = .ok (.iload 4, 2) := by decide +kernel
theorem dX10_drift_73 : decode cX10_drift 73 = .ok (.if_icmp .ge 24, 3) := by decide +kernel
theorem dX10_drift_76 : decode cX10_drift 76 = .ok (.iload 5, 2) := by decide +kernel
theorem dX10_drift_78 : decode cX10_drift 78 = .ok (.ifCond .eq 19, 3) := by decide +kernel
theorem dX10_drift_81 : decode cX10_drift 81 = .ok (.aload_n 0, 1) := by decide +kernel
theorem dX10_drift_82 : decode cX10_drift 82 = .ok (.iload_n 2, 1) := by decide +kernel
theorem dX10_drift_83 : decode cX10_drift 83 = .ok (.lconst 1, 1) := by decide +kernel
theorem dX10_drift_84 : decode cX10_drift 84 = .ok (.iload_n 3, 1) := by decide +kernel
theorem dX10_drift_85 : decode cX10_drift 85 = .ok (.iconst 0, 1) := by decide +kernel
theorem dX10_drift_86 : decode cX10_drift 86 = .ok (.invokevirtual 245, 3) := by decide +kernel
theorem dX10_drift_89 : decode cX10_drift 89 = .ok (.istore 5, 2) := by decide +kernel
theorem dX10_drift_91 : decode cX10_drift 91 = .ok (.iinc 6 1, 3) := by decide +kernel
theorem dX10_drift_94 : decode cX10_drift 94 = .ok (.goto (-25), 3) := by decide +kernel
theorem dX10_drift_97 : decode cX10_drift 97 = .ok (.aload_n 0, 1) := by decide +kernel
theorem dX10_drift_98 : decode cX10_drift 98 = .ok (.invokevirtual 258, 3) := by decide +kernel
theorem dX10_drift_101 : decode cX10_drift 101 = .ok (.lstore 6, 2) := by decide +kernel
theorem dX10_drift_103 : decode cX10_drift 103 = .ok (.aload_n 0, 1) := by decide +kernel
theorem dX10_drift_104 : decode cX10_drift 104 = .ok (.iload_n 1, 1) := by decide +kernel
theorem dX10_drift_105 : decode cX10_drift 105 = .ok (.invokevirtual 242, 3) := by decide +kernel
theorem dX10_drift_108 : decode cX10_drift 108 = .ok (.iload 5, 2) := by decide +kernel
theorem dX10_drift_110 : decode cX10_drift 110 = .ok (.ifCond .eq 16, 3) := by decide +kernel
theorem dX10_drift_113 : decode cX10_drift 113 = .ok (.aload_n 0, 1) := by decide +kernel
theorem dX10_drift_114 : decode cX10_drift 114 = .ok (.iload_n 2, 1) := by decide +kernel
theorem dX10_drift_115 : decode cX10_drift 115 = .ok (.iload 4, 2) := by decide +kernel
theorem dX10_drift_117 : decode cX10_drift 117 = .ok (.i2l, 1) := by decide +kernel
theorem dX10_drift_118 : decode cX10_drift 118 = .ok (.iload_n 3, 1) := by decide +kernel
theorem dX10_drift_119 : decode cX10_drift 119 = .ok (.iconst 0, 1) := by decide +kernel
theorem dX10_drift_120 : decode cX10_drift 120 = .ok (.invokevirtual 245, 3) := by decide +kernel
theorem dX10_drift_123 : decode cX10_drift 123 = .ok (.ifCond .ne 7, 3) := by decide +kernel
theorem dX10_drift_126 : decode cX10_drift 126 = .ok (.ldc2_w 318, 3) := by decide +kernel
theorem dX10_drift_129 : decode cX10_drift 129 = .ok (.lreturn, 1) := by decide +kernel
theorem dX10_drift_130 : decode cX10_drift 130 = .ok (.aload_n 0, 1) := by decide +kernel
theorem dX10_drift_131 : decode cX10_drift 131 = .ok (.iconst 0, 1) := by decide +kernel
theorem dX10_drift_132 : decode cX10_drift 132 = .ok (.putfield 49, 3) := by decide +kernel
theorem dX10_drift_135 : decode cX10_drift 135 = .ok (.aload_n 0, 1) := by decide +kernel
theorem dX10_drift_136 : decode cX10_drift 136 = .ok (.lload 6, 2) := by decide +kernel
theorem dX10_drift_138 : decode cX10_drift 138 = .ok (.invokevirtual 208, 3) := by decide +kernel
theorem dX10_drift_141 : decode cX10_drift 141 = .ok (.aload_n 0, 1) := by decide +kernel
theorem dX10_drift_142 : decode cX10_drift 142 = .ok (.aload_n 0, 1) := by decide +kernel
theorem dX10_drift_143 : decode cX10_drift 143 = .ok (.invokevirtual 258, 3) := by decide +kernel
theorem dX10_drift_146 : decode cX10_drift 146 = .ok (.invokevirtual 208, 3) := by decide +kernel
theorem dX10_drift_149 : decode cX10_drift 149 = .ok (.lload 6, 2) := by decide +kernel
theorem dX10_drift_151 : decode cX10_drift 151 = .ok (.aload_n 0, 1) := by decide +kernel
theorem dX10_drift_152 : decode cX10_drift 152 = .ok (.invokevirtual 258, 3) := by decide +kernel
theorem dX10_drift_155 : decode cX10_drift 155 = .ok (.lsub, 1) := by decide +kernel
theorem dX10_drift_156 : decode cX10_drift 156 = .ok (.lreturn, 1) := by decide +kernel
theorem dX10_leads_0 : decode cX10_leads 0 = .ok (.aload_n 0, 1) := by decide +kernel
theorem dX10_leads_1 : decode cX10_leads 1 = .ok (.iload_n 1, 1) := by decide +kernel
theorem dX10_leads_2 : decode cX10_leads 2 = .ok (.invokevirtual 242, 3) := by decide +kernel
theorem dX10_leads_5 : decode cX10_leads 5 = .ok (.aload_n 0, 1) := by decide +kernel
theorem dX10_leads_6 : decode cX10_leads 6 = .ok (.iload_n 2, 1) := by decide +kernel
theorem dX10_leads_7 : decode cX10_leads 7 = .ok (.iload 4, 2) := by decide +kernel
theorem dX10_leads_9 : decode cX10_leads 9 = .ok (.i2l, 1) := by decide +kernel
theorem dX10_leads_10 : decode cX10_leads 10 = .ok (.invokevirtual 306, 3) := by decide +kernel
theorem dX10_leads_13 : decode cX10_leads 13 = .ok (.ifCond .ne 20, 3) := by decide +kernel
theorem dX10_leads_16 : decode cX10_leads 16 = .ok (.aload_n 0, 1) := by decide +kernel
theorem dX10_leads_17 : decode cX10_leads 17 = .ok (.iload_n 2, 1) := by decide +kernel
theorem dX10_leads_18 : decode cX10_leads 18 = .ok (.iload 4, 2) := by decide +kernel
theorem dX10_leads_20 : decode cX10_leads 20 = .ok (.i2l, 1) := by decide +kernel
theorem dX10_leads_21 : decode cX10_leads 21 = .ok (.iload_n 3, 1) := by decide +kernel
theorem dX10_leads_22 : decode cX10_leads 22 = .ok (.iconst 0, 1) := by decide +kernel
theorem dX10_leads_23 : decode cX10_leads 23 = .ok (.invokevirtual 245, 3) := by decide +kernel
theorem dX10_leads_26 : decode cX10_leads 26 = .ok (.ifCond .eq 7, 3) := by decide +kernel
theorem dX10_leads_29 : decode cX10_leads 29 = .ok (.iconst 1, 1) := by decide +kernel
theorem dX10_leads_30 : decode cX10_leads 30 = .ok (.goto 4, 3) := by decide +kernel
theorem dX10_leads_33 : decode cX10_leads 33 = .ok (.iconst 0, 1) := by decide +kernel
theorem dX10_leads_34 : decode cX10_leads 34 = .ok (.ireturn, 1) := by decide +kernel
theorem dX10_next_0 : decode cX10_next 0 = .ok (.aload_n 0, 1) := by decide +kernel
theorem dX10_next_1 : decode cX10_next 1 = .ok (.iconst 0, 1) := by decide +kernel
theorem dX10_next_2 : decode cX10_next 2 = .ok (.putfield 45, 3) := by decide +kernel
theorem dX10_next_5 : decode cX10_next 5 = .ok (.iload_n 1, 1) := by decide +kernel
theorem dX10_next_6 : decode cX10_next 6 = .ok (.invokestatic 179, 3) := by decide +kernel
theorem dX10_next_9 : decode cX10_next 9 = .ok (.ifCond .eq 25, 3) := by decide +kernel
theorem dX10_next_12 : decode cX10_next 12 = .ok (.iload_n 2, 1) := by decide +kernel
theorem dX10_next_13 : decode cX10_next 13 = .ok (.invokestatic 179, 3) := by decide +kernel
theorem dX10_next_16 : decode cX10_next 16 = .ok (.ifCond .eq 18, 3) := by decide +kernel
theorem dX10_next_19 : decode cX10_next 19 = .ok (.iload_n 3, 1) := by decide +kernel
theorem dX10_next_20 : decode cX10_next 20 = .ok (.invokestatic 236, 3) := by decide +kernel
theorem dX10_next_23 : decode cX10_next 23 = .ok (.ifCond .eq 11, 3) := by decide +kernel
theorem dX10_next_26 : decode cX10_next 26 = .ok (.iload 4, 2) := by decide +kernel
theorem dX10_next_28 : decode cX10_next 28 = .ok (.invokestatic 179, 3) := by decide +kernel
theorem dX10_next_31 : decode cX10_next 31 = .ok (.ifCond .ne 5, 3) := by decide +kernel
theorem dX10_next_34 : decode cX10_next 34 = .ok (.iconst (-1), 1) := by decide +kernel
theorem dX10_next_35 : decode cX10_next 35 = .ok (.ireturn, 1) := by decide +kernel
theorem dX10_next_36 : decode cX10_next 36 = .ok (.iconst 0, 1) := by decide +kernel
theorem dX10_next_37 : decode cX10_next 37 = .ok (.istore 5, 2) := by decide +kernel
theorem dX10_next_39 : decode cX10_next 39 = .ok (.iload 5, 2) := by decide +kernel
theorem dX10_next_41 : decode cX10_next 41 = .ok (.sipush 10000, 3) := by decide +kernel
theorem dX10_next_44 : decode cX10_next 44 = .ok (.if_icmp .gt 64, 3) := by decide +kernel
theorem dX10_next_47 : decode cX10_next 47 = .ok (.aload_n 0, 1) := by decide +kernel
theorem dX10_next_48 : decode cX10_next 48 = .ok (.iload_n 1, 1) := by decide +kernel
theorem dX10_next_49 : decode cX10_next 49 = .ok (.iload_n 2, 1) := by decide +kernel
theorem dX10_next_50 : decode cX10_next 50 = .ok (.iload_n 3, 1) := by decide +kernel
theorem dX10_next_51 : decode cX10_next 51 = .ok (.iload 5, 2) := by decide +kernel
theorem dX10_next_53 : decode cX10_next 53 = .ok (.invokevirtual 320, 3) := by decide +kernel
theorem dX10_next_56 : decode cX10_next 56 = .ok (.ifCond .eq 46, 3) := by decide +kernel
theorem dX10_next_59 : decode cX10_next 59 = .ok (.aload_n 0, 1) := by decide +kernel
theorem dX10_next_60 : decode cX10_next 60 = .ok (.invokevirtual 258, 3) := by decide +kernel
theorem dX10_next_63 : decode cX10_next 63 = .ok (.aload_n 0, 1) := by decide +kernel
theorem dX10_next_64 : decode cX10_next 64 = .ok (.iload 4, 2) := by decide +kernel
theorem dX10_next_66 : decode cX10_next 66 = .ok (.invokevirtual 270, 3) := by decide +kernel
theorem dX10_next_69 : decode cX10_next 69 = .ok (.lcmp, 1) := by decide +kernel
theorem dX10_next_70 : decode cX10_next 70 = .ok (.ifCond .ge 6, 3) := by decide +kernel
theorem dX10_next_73 : decode cX10_next 73 = .ok (.goto 29, 3) := by decide +kernel
theorem dX10_next_76 : decode cX10_next 76 = .ok (.aload_n 0, 1) := by decide +kernel
theorem dX10_next_77 : decode cX10_next 77 = .ok (.iconst 0, 1) := by decide +kernel
theorem dX10_next_78 : decode cX10_next 78 = .ok (.putfield 49, 3) := by decide +kernel
theorem dX10_next_81 : decode cX10_next 81 = .ok (.aload_n 0, 1) := by decide +kernel
theorem dX10_next_82 : decode cX10_next 82 = .ok (.aload_n 0, 1) := by decide +kernel
theorem dX10_next_83 : decode cX10_next 83 = .ok (.getfield 104, 3) := by decide +kernel
theorem dX10_next_86 : decode cX10_next 86 = .ok (.i2l, 1) := by decide +kernel
theorem dX10_next_87 : decode cX10_next 87 = .ok (.invokevirtual 208, 3) := by decide +kernel
theorem dX10_next_90 : decode cX10_next 90 = .ok (.aload_n 0, 1) := by decide +kernel
theorem dX10_next_91 : decode cX10_next 91 = .ok (.aload_n 0, 1) := by decide +kernel
theorem dX10_next_92 : decode cX10_next 92 = .ok (.getfield 129, 3) := by decide +kernel
theorem dX10_next_95 : decode cX10_next 95 = .ok (.i2l, 1) := by decide +kernel
theorem dX10_next_96 : decode cX10_next 96 = .ok (.invokevirtual 208, 3) := by decide +kernel
theorem dX10_next_99 : decode cX10_next 99 = .ok (.iload 5, 2) := by decide +kernel
theorem dX10_next_101 : decode cX10_next 101 = .ok (.ireturn, 1) := by decide +kernel
theorem dX10_next_102 : decode cX10_next 102 = .ok (.iinc 5 1, 3) := by decide +kernel
theorem dX10_next_105 : decode cX10_next 105 = .ok (.goto (-66), 3) := by decide +kernel
theorem dX10_next_108 : decode cX10_next 108 = .ok (.bipush (-2), 2) := by decide +kernel
theorem dX10_next_110 : decode cX10_next 110 = .ok (.ireturn, 1) := by decide +kernel
theorem dX10_falls_0 : decode cX10_falls 0 = .ok (.aload_n 0, 1) := by decide +kernel
theorem dX10_falls_1 : decode cX10_falls 1 = .ok (.iconst 0, 1) := by decide +kernel
theorem dX10_falls_2 : decode cX10_falls 2 = .ok (.putfield 45, 3) := by decide +kernel
theorem dX10_falls_5 : decode cX10_falls 5 = .ok (.iload_n 1, 1) := by decide +kernel
theorem dX10_falls_6 : decode cX10_falls 6 = .ok (.invokestatic 179, 3) := by decide +kernel
theorem dX10_falls_9 : decode cX10_falls 9 = .ok (.ifCond .eq 43, 3) := by decide +kernel
theorem dX10_falls_12 : decode cX10_falls 12 = .ok (.iload_n 2, 1) := by decide +kernel
theorem dX10_falls_13 : decode cX10_falls 13 = .ok (.invokestatic 179, 3) := by decide +kernel
theorem dX10_falls_16 : decode cX10_falls 16 = .ok (.ifCond .eq 36, 3) := by decide +kernel
theorem dX10_falls_19 : decode cX10_falls 19 = .ok (.iload_n 3, 1) := by decide +kernel
theorem dX10_falls_20 : decode cX10_falls 20 = .ok (.invokestatic 236, 3) := by decide +kernel
theorem dX10_falls_23 : decode cX10_falls 23 = .ok (.ifCond .eq 29, 3) := by decide +kernel
theorem dX10_falls_26 : decode cX10_falls 26 = .ok (.iload 4, 2) := by decide +kernel
theorem dX10_falls_28 : decode cX10_falls 28 = .ok (.i2l, 1) := by decide +kernel
theorem dX10_falls_29 : decode cX10_falls 29 = .ok (.lconst 0, 1) := by decide +kernel
theorem dX10_falls_30 : decode cX10_falls 30 = .ok (.ldc2_w 314, 3) := by decide +kernel
theorem dX10_falls_33 : decode cX10_falls 33 = .ok (.invokestatic 54, 3) := by decide +kernel
theorem dX10_falls_36 : decode cX10_falls 36 = .ok (.ifCond .eq 16, 3) := by decide +kernel
theorem dX10_falls_39 : decode cX10_falls 39 = .ok (.iload 5, 2) := by decide +kernel
theorem dX10_falls_41 : decode cX10_falls 41 = .ok (.i2l, 1) := by decide +kernel
theorem dX10_falls_42 : decode cX10_falls 42 = .ok (.lconst 0, 1) := by decide +kernel
theorem dX10_falls_43 : decode cX10_falls 43 = .ok (.ldc2_w 324, 3) := by decide +kernel
theorem dX10_falls_46 : decode cX10_falls 46 = .ok (.invokestatic 54, 3) := by decide +kernel
theorem dX10_falls_49 : decode cX10_falls 49 = .ok (.ifCond .ne 5, 3) := by decide +kernel
theorem dX10_falls_52 : decode cX10_falls 52 = .ok (.iconst (-1), 1) := by decide +kernel
theorem dX10_falls_53 : decode cX10_falls 53 = .ok (.ireturn, 1) := by decide +kernel
theorem dX10_falls_54 : decode cX10_falls 54 = .ok (.iconst 0, 1) := by decide +kernel
theorem dX10_falls_55 : decode cX10_falls 55 = .ok (.istore 6, 2) := by decide +kernel
theorem dX10_falls_57 : decode cX10_falls 57 = .ok (.iconst (-1), 1) := by decide +kernel
theorem dX10_falls_58 : decode cX10_falls 58 = .ok (.istore 7, 2) := by decide +kernel
theorem dX10_falls_60 : decode cX10_falls 60 = .ok (.iconst 0, 1) := by decide +kernel
theorem dX10_falls_61 : decode cX10_falls 61 = .ok (.istore 8, 2) := by decide +kernel
theorem dX10_falls_63 : decode cX10_falls 63 = .ok (.iload 8, 2) := by decide +kernel
theorem dX10_falls_65 : decode cX10_falls 65 = .ok (.iload 4, 2) := by decide +kernel
theorem dX10_falls_67 : decode cX10_falls 67 = .ok (.if_icmp .gt 53, 3) := by decide +kernel
theorem dX10_falls_70 : decode cX10_falls 70 = .ok (.aload_n 0, 1) := by decide +kernel
theorem dX10_falls_71 : decode cX10_falls 71 = .ok (.iload_n 1, 1) := by decide +kernel
theorem dX10_falls_72 : decode cX10_falls 72 = .ok (.iload_n 2, 1) := by decide +kernel
theorem dX10_falls_73 : decode cX10_falls 73 = .ok (.iload_n 3, 1) := by decide +kernel
theorem dX10_falls_74 : decode cX10_falls 74 = .ok (.iload 8, 2) := by decide +kernel
theorem dX10_falls_76 : decode cX10_falls 76 = .ok (.invokevirtual 320, 3) := by decide +kernel
theorem dX10_falls_79 : decode cX10_falls 79 = .ok (.ifCond .eq 35, 3) := by decide +kernel
theorem dX10_falls_82 : decode cX10_falls 82 = .ok (.aload_n 0, 1) := by decide +kernel
theorem dX10_falls_83 : decode cX10_falls 83 = .ok (.getfield 104, 3) := by decide +kernel
theorem dX10_falls_86 : decode cX10_falls 86 = .ok (.bipush 7, 2) := by decide +kernel
theorem dX10_falls_88 : decode cX10_falls 88 = .ok (.irem, 1) := by decide +kernel
theorem dX10_falls_89 : decode cX10_falls 89 = .ok (.iload 5, 2) := by decide +kernel
theorem dX10_falls_91 : decode cX10_falls 91 = .ok (.if_icmp .eq 6, 3) := by decide +kernel
theorem dX10_falls_94 : decode cX10_falls 94 = .ok (.goto 20, 3) := by decide +kernel
theorem dX10_falls_97 : decode cX10_falls 97 = .ok (.iload 6, 2) := by decide +kernel
theorem dX10_falls_99 : decode cX10_falls 99 = .ok (.ifCond .ne 8, 3) := by decide +kernel
theorem dX10_falls_102 : decode cX10_falls 102 = .ok (.iload 8, 2) := by decide +kernel
theorem dX10_falls_104 : decode cX10_falls 104 = .ok (.goto 5, 3) := by decide +kernel
theorem dX10_falls_107 : decode cX10_falls 107 = .ok (.iload 7, 2) := by decide +kernel
theorem dX10_falls_109 : decode cX10_falls 109 = .ok (.istore 7, 2) := by decide +kernel
theorem dX10_falls_111 : decode cX10_falls 111 = .ok (.iinc 6 1, 3) := by decide +kernel
theorem dX10_falls_114 : decode cX10_falls 114 = .ok (.iinc 8 1, 3) := by decide +kernel
theorem dX10_falls_117 : decode cX10_falls 117 = .ok (.goto (-54), 3) := by decide +kernel
theorem dX10_falls_120 : decode cX10_falls 120 = .ok (.aload_n 0, 1) := by decide +kernel
theorem dX10_falls_121 : decode cX10_falls 121 = .ok (.iconst 0, 1) := by decide +kernel
theorem dX10_falls_122 : decode cX10_falls 122 = .ok (.putfield 49, 3) := by decide +kernel
theorem dX10_falls_125 : decode cX10_falls 125 = .ok (.aload_n 0, 1) := by decide +kernel
theorem dX10_falls_126 : decode cX10_falls 126 = .ok (.iload 7, 2) := by decide +kernel
theorem dX10_falls_128 : decode cX10_falls 128 = .ok (.i2l, 1) := by decide +kernel
theorem dX10_falls_129 : decode cX10_falls 129 = .ok (.invokevirtual 208, 3) := by decide +kernel
theorem dX10_falls_132 : decode cX10_falls 132 = .ok (.iload 6, 2) := by decide +kernel
theorem dX10_falls_134 : decode cX10_falls 134 = .ok (.ireturn, 1) := by decide +kernel
theorem dX10_runs_0 : decode cX10_runs 0 = .ok (.aload_n 0, 1) := by decide +kernel
theorem dX10_runs_1 : decode cX10_runs 1 = .ok (.iconst 0, 1) := by decide +kernel
theorem dX10_runs_2 : decode cX10_runs 2 = .ok (.putfield 45, 3) := by decide +kernel
theorem dX10_runs_5 : decode cX10_runs 5 = .ok (.iload_n 1, 1) := by decide +kernel
theorem dX10_runs_6 : decode cX10_runs 6 = .ok (.invokestatic 179, 3) := by decide +kernel
theorem dX10_runs_9 : decode cX10_runs 9 = .ok (.ifCond .eq 30, 3) := by decide +kernel
theorem dX10_runs_12 : decode cX10_runs 12 = .ok (.iload_n 2, 1) := by decide +kernel
theorem dX10_runs_13 : decode cX10_runs 13 = .ok (.invokestatic 179, 3) := by decide +kernel
theorem dX10_runs_16 : decode cX10_runs 16 = .ok (.ifCond .eq 23, 3) := by decide +kernel
theorem dX10_runs_19 : decode cX10_runs 19 = .ok (.iload_n 3, 1) := by decide +kernel
theorem dX10_runs_20 : decode cX10_runs 20 = .ok (.invokestatic 236, 3) := by decide +kernel
theorem dX10_runs_23 : decode cX10_runs 23 = .ok (.ifCond .eq 16, 3) := by decide +kernel
theorem dX10_runs_26 : decode cX10_runs 26 = .ok (.iload 4, 2) := by decide +kernel
theorem dX10_runs_28 : decode cX10_runs 28 = .ok (.i2l, 1) := by decide +kernel
theorem dX10_runs_29 : decode cX10_runs 29 = .ok (.lconst 1, 1) := by decide +kernel
theorem dX10_runs_30 : decode cX10_runs 30 = .ok (.ldc2_w 314, 3) := by decide +kernel
theorem dX10_runs_33 : decode cX10_runs 33 = .ok (.invokestatic 54, 3) := by decide +kernel
theorem dX10_runs_36 : decode cX10_runs 36 = .ok (.ifCond .ne 7, 3) := by decide +kernel
theorem dX10_runs_39 : decode cX10_runs 39 = .ok (.ldc2_w 281, 3) := by decide +kernel
theorem dX10_runs_42 : decode cX10_runs 42 = .ok (.lreturn, 1) := by decide +kernel
theorem dX10_runs_43 : decode cX10_runs 43 = .ok (.aload_n 0, 1) := by decide +kernel
theorem dX10_runs_44 : decode cX10_runs 44 = .ok (.iload_n 2, 1) := by decide +kernel
theorem dX10_runs_45 : decode cX10_runs 45 = .ok (.iload 4, 2) := by decide +kernel
theorem dX10_runs_47 : decode cX10_runs 47 = .ok (.i2l, 1) := by decide +kernel
theorem dX10_runs_48 : decode cX10_runs 48 = .ok (.invokevirtual 306, 3) := by decide +kernel
theorem dX10_runs_51 : decode cX10_runs 51 = .ok (.ifCond .eq 7, 3) := by decide +kernel
theorem dX10_runs_54 : decode cX10_runs 54 = .ok (.ldc2_w 316, 3) := by decide +kernel
theorem dX10_runs_57 : decode cX10_runs 57 = .ok (.lreturn, 1) := by decide +kernel
theorem dX10_runs_58 : decode cX10_runs 58 = .ok (.lconst 0, 1) := by decide +kernel
theorem dX10_runs_59 : decode cX10_runs 59 = .ok (.lstore 5, 2) := by decide +kernel
theorem dX10_runs_61 : decode cX10_runs 61 = .ok (.lconst 0, 1) := by decide +kernel
theorem dX10_runs_62 : decode cX10_runs 62 = .ok (.lstore 7, 2) := by decide +kernel
theorem dX10_runs_64 : decode cX10_runs 64 = .ok (.iconst (-1), 1) := by decide +kernel
theorem dX10_runs_65 : decode cX10_runs 65 = .ok (.istore 9, 2) := by decide +kernel
theorem dX10_runs_67 : decode cX10_runs 67 = .ok (.iconst (-1), 1) := by decide +kernel
theorem dX10_runs_68 : decode cX10_runs 68 = .ok (.istore 10, 2) := by decide +kernel
theorem dX10_runs_70 : decode cX10_runs 70 = .ok (.aload_n 0, 1) := by decide +kernel
theorem dX10_runs_71 : decode cX10_runs 71 = .ok (.iload_n 1, 1) := by decide +kernel
theorem dX10_runs_72 : decode cX10_runs 72 = .ok (.invokevirtual 270, 3) := by decide +kernel
theorem dX10_runs_75 : decode cX10_runs 75 = .ok (.lstore 11, 2) := by decide +kernel
theorem dX10_runs_77 : decode cX10_runs 77 = .ok (.iconst 0, 1) := by decide +kernel
theorem dX10_runs_78 : decode cX10_runs 78 = .ok (.istore 13, 2) := by decide +kernel
theorem dX10_runs_80 : decode cX10_runs 80 = .ok (.iload 13, 2) := by decide +kernel
theorem dX10_runs_82 : decode cX10_runs 82 = .ok (.iload 4, 2) := by decide +kernel
theorem dX10_runs_84 : decode cX10_runs 84 = .ok (.if_icmp .ge 86, 3) := by decide +kernel
theorem dX10_runs_87 : decode cX10_runs 87 = .ok (.aload_n 0, 1) := by decide +kernel
theorem dX10_runs_88 : decode cX10_runs 88 = .ok (.iload_n 1, 1) := by decide +kernel
theorem dX10_runs_89 : decode cX10_runs 89 = .ok (.iload_n 2, 1) := by decide +kernel
theorem dX10_runs_90 : decode cX10_runs 90 = .ok (.iload_n 3, 1) := by decide +kernel
theorem dX10_runs_91 : decode cX10_runs 91 = .ok (.iload 13, 2) := by decide +kernel
theorem dX10_runs_93 : decode cX10_runs 93 = .ok (.iconst 1, 1) := by decide +kernel
theorem dX10_runs_94 : decode cX10_runs 94 = .ok (.iadd, 1) := by decide +kernel
theorem dX10_runs_95 : decode cX10_runs 95 = .ok (.invokevirtual 320, 3) := by decide +kernel
theorem dX10_runs_98 : decode cX10_runs 98 = .ok (.ifCond .ne 7, 3) := by decide +kernel
theorem dX10_runs_101 : decode cX10_runs 101 = .ok (.ldc2_w 318, 3) := by decide +kernel
theorem dX10_runs_104 : decode cX10_runs 104 = .ok (.lreturn, 1) := by decide +kernel
theorem dX10_runs_105 : decode cX10_runs 105 = .ok (.aload_n 0, 1) := by decide +kernel
theorem dX10_runs_106 : decode cX10_runs 106 = .ok (.invokevirtual 258, 3) := by decide +kernel
theorem dX10_runs_109 : decode cX10_runs 109 = .ok (.lload 11, 2) := by decide +kernel
theorem dX10_runs_111 : decode cX10_runs 111 = .ok (.lsub, 1) := by decide +kernel
theorem dX10_runs_112 : decode cX10_runs 112 = .ok (.lstore 14, 2) := by decide +kernel
theorem dX10_runs_114 : decode cX10_runs 114 = .ok (.aload_n 0, 1) := by decide +kernel
theorem dX10_runs_115 : decode cX10_runs 115 = .ok (.invokevirtual 258, 3) := by decide +kernel
theorem dX10_runs_118 : decode cX10_runs 118 = .ok (.lstore 11, 2) := by decide +kernel
theorem dX10_runs_120 : decode cX10_runs 120 = .ok (.iload 9, 2) := by decide +kernel
theorem dX10_runs_122 : decode cX10_runs 122 = .ok (.iconst (-1), 1) := by decide +kernel
theorem dX10_runs_123 : decode cX10_runs 123 = .ok (.if_icmp .eq 11, 3) := by decide +kernel
theorem dX10_runs_126 : decode cX10_runs 126 = .ok (.lload 14, 2) := by decide +kernel
theorem dX10_runs_128 : decode cX10_runs 128 = .ok (.lload 5, 2) := by decide +kernel
theorem dX10_runs_130 : decode cX10_runs 130 = .ok (.lcmp, 1) := by decide +kernel
theorem dX10_runs_131 : decode cX10_runs 131 = .ok (.ifCond .ge 11, 3) := by decide +kernel
theorem dX10_runs_134 : decode cX10_runs 134 = .ok (.lload 14, 2) := by decide +kernel
theorem dX10_runs_136 : decode cX10_runs 136 = .ok (.lstore 5, 2) := by decide +kernel
theorem dX10_runs_138 : decode cX10_runs 138 = .ok (.iload 13, 2) := by decide +kernel
theorem dX10_runs_140 : decode cX10_runs 140 = .ok (.istore 9, 2) := by decide +kernel
theorem dX10_runs_142 : decode cX10_runs 142 = .ok (.iload 10, 2) := by decide +kernel
theorem dX10_runs_144 : decode cX10_runs 144 = .ok (.iconst (-1), 1) := by decide +kernel
theorem dX10_runs_145 : decode cX10_runs 145 = .ok (.if_icmp .eq 11, 3) := by decide +kernel
theorem dX10_runs_148 : decode cX10_runs 148 = .ok (.lload 14, 2) := by decide +kernel
theorem dX10_runs_150 : decode cX10_runs 150 = .ok (.lload 7, 2) := by decide +kernel
theorem dX10_runs_152 : decode cX10_runs 152 = .ok (.lcmp, 1) := by decide +kernel
theorem dX10_runs_153 : decode cX10_runs 153 = .ok (.ifCond .le 11, 3) := by decide +kernel
theorem dX10_runs_156 : decode cX10_runs 156 = .ok (.lload 14, 2) := by decide +kernel
theorem dX10_runs_158 : decode cX10_runs 158 = .ok (.lstore 7, 2) := by decide +kernel
theorem dX10_runs_160 : decode cX10_runs 160 = .ok (.iload 13, 2) := by decide +kernel
theorem dX10_runs_162 : decode cX10_runs 162 = .ok (.istore 10, 2) := by decide +kernel
theorem dX10_runs_164 : decode cX10_runs 164 = .ok (.iinc 13 1, 3) := by decide +kernel
theorem dX10_runs_167 : decode cX10_runs 167 = .ok (.goto (-87), 3) := by decide +kernel
theorem dX10_runs_170 : decode cX10_runs 170 = .ok (.aload_n 0, 1) := by decide +kernel
theorem dX10_runs_171 : decode cX10_runs 171 = .ok (.iconst 0, 1) := by decide +kernel
theorem dX10_runs_172 : decode cX10_runs 172 = .ok (.putfield 49, 3) := by decide +kernel
theorem dX10_runs_175 : decode cX10_runs 175 = .ok (.aload_n 0, 1) := by decide +kernel
theorem dX10_runs_176 : decode cX10_runs 176 = .ok (.lload 7, 2) := by decide +kernel
theorem dX10_runs_178 : decode cX10_runs 178 = .ok (.invokevirtual 208, 3) := by decide +kernel
theorem dX10_runs_181 : decode cX10_runs 181 = .ok (.aload_n 0, 1) := by decide +kernel
theorem dX10_runs_182 : decode cX10_runs 182 = .ok (.iload 9, 2) := by decide +kernel
theorem dX10_runs_184 : decode cX10_runs 184 = .ok (.i2l, 1) := by decide +kernel
theorem dX10_runs_185 : decode cX10_runs 185 = .ok (.invokevirtual 208, 3) := by decide +kernel
theorem dX10_runs_188 : decode cX10_runs 188 = .ok (.aload_n 0, 1) := by decide +kernel
theorem dX10_runs_189 : decode cX10_runs 189 = .ok (.iload 10, 2) := by decide +kernel
theorem dX10_runs_191 : decode cX10_runs 191 = .ok (.i2l, 1) := by decide +kernel
theorem dX10_runs_192 : decode cX10_runs 192 = .ok (.invokevirtual 208, 3) := by decide +kernel
theorem dX10_runs_195 : decode cX10_runs 195 = .ok (.lload 5, 2) := by decide +kernel
theorem dX10_runs_197 : decode cX10_runs 197 = .ok (.lreturn, 1) := by decide +kernel
theorem dX10_again_0 : decode cX10_again 0 = .ok (.aload_n 0, 1) := by decide +kernel
theorem dX10_again_1 : decode cX10_again 1 = .ok (.iconst 0, 1) := by decide +kernel
theorem dX10_again_2 : decode cX10_again 2 = .ok (.putfield 45, 3) := by decide +kernel
theorem dX10_again_5 : decode cX10_again 5 = .ok (.iload_n 1, 1) := by decide +kernel
theorem dX10_again_6 : decode cX10_again 6 = .ok (.invokestatic 179, 3) := by decide +kernel
theorem dX10_again_9 : decode cX10_again 9 = .ok (.ifCond .eq 15, 3) := by decide +kernel
theorem dX10_again_12 : decode cX10_again 12 = .ok (.iload_n 2, 1) := by decide +kernel
theorem dX10_again_13 : decode cX10_again 13 = .ok (.i2l, 1) := by decide +kernel
theorem dX10_again_14 : decode cX10_again 14 = .ok (.lconst 1, 1) := by decide +kernel
theorem dX10_again_15 : decode cX10_again 15 = .ok (.ldc2_w 326, 3) := by decide +kernel
theorem dX10_again_18 : decode cX10_again 18 = .ok (.invokestatic 54, 3) := by decide +kernel
theorem dX10_again_21 : decode cX10_again 21 = .ok (.ifCond .ne 5, 3) := by decide +kernel
theorem dX10_again_24 : decode cX10_again 24 = .ok (.iconst (-1), 1) := by decide +kernel
theorem dX10_again_25 : decode cX10_again 25 = .ok (.ireturn, 1) := by decide +kernel
theorem dX10_again_26 : decode cX10_again 26 = .ok (.aload_n 0, 1) := by decide +kernel
theorem dX10_again_27 : decode cX10_again 27 = .ok (.aload_n 0, 1) := by decide +kernel
theorem dX10_again_28 : decode cX10_again 28 = .ok (.getfield 9, 3) := by decide +kernel
theorem dX10_again_31 : decode cX10_again 31 = .ok (.iload_n 1, 1) := by decide +kernel
theorem dX10_again_32 : decode cX10_again 32 = .ok (.iaload, 1) := by decide +kernel
theorem dX10_again_33 : decode cX10_again 33 = .ok (.invokevirtual 97, 3) := by decide +kernel
theorem dX10_again_36 : decode cX10_again 36 = .ok (.iload_n 2, 1) := by decide +kernel
theorem dX10_again_37 : decode cX10_again 37 = .ok (.istore_n 3, 1) := by decide +kernel
theorem dX10_again_38 : decode cX10_again 38 = .ok (.aload_n 0, 1) := by decide +kernel
theorem dX10_again_39 : decode cX10_again 39 = .ok (.getfield 84, 3) := by decide +kernel
theorem dX10_again_42 : decode cX10_again 42 = .ok (.istore 4, 2) := by decide +kernel
theorem dX10_again_44 : decode cX10_again 44 = .ok (.iload_n 3, 1) := by decide +kernel
theorem dX10_again_45 : decode cX10_again 45 = .ok (.ifCond .le 41, 3) := by decide +kernel
theorem dX10_again_48 : decode cX10_again 48 = .ok (.iload 4, 2) := by decide +kernel
theorem dX10_again_50 : decode cX10_again 50 = .ok (.sipush 9999, 3) := by decide +kernel
theorem dX10_again_53 : decode cX10_again 53 = .ok (.if_icmp .ge 33, 3) := by decide +kernel
theorem dX10_again_56 : decode cX10_again 56 = .ok (.iinc 4 1, 3) := by decide +kernel
theorem dX10_again_59 : decode cX10_again 59 = .ok (.iload_n 3, 1) := by decide +kernel
theorem dX10_again_60 : decode cX10_again 60 = .ok (.aload_n 0, 1) := by decide +kernel
theorem dX10_again_61 : decode cX10_again 61 = .ok (.getfield 94, 3) := by decide +kernel
theorem dX10_again_64 : decode cX10_again 64 = .ok (.iload 4, 2) := by decide +kernel
theorem dX10_again_66 : decode cX10_again 66 = .ok (.aload_n 0, 1) := by decide +kernel
theorem dX10_again_67 : decode cX10_again 67 = .ok (.getfield 87, 3) := by decide +kernel
theorem dX10_again_70 : decode cX10_again 70 = .ok (.invokestatic 111, 3) := by decide +kernel
theorem dX10_again_73 : decode cX10_again 73 = .ok (.if_icmp .gt 7, 3) := by decide +kernel
theorem dX10_again_76 : decode cX10_again 76 = .ok (.iconst 1, 1) := by decide +kernel
theorem dX10_again_77 : decode cX10_again 77 = .ok (.goto 4, 3) := by decide +kernel
theorem dX10_again_80 : decode cX10_again 80 = .ok (.iconst 0, 1) := by decide +kernel
theorem dX10_again_81 : decode cX10_again 81 = .ok (.isub, 1) := by decide +kernel
theorem dX10_again_82 : decode cX10_again 82 = .ok (.istore_n 3, 1) := by decide +kernel
theorem dX10_again_83 : decode cX10_again 83 = .ok (.goto (-39), 3) := by decide +kernel
theorem dX10_again_86 : decode cX10_again 86 = .ok (.iload_n 3, 1) := by decide +kernel
theorem dX10_again_87 : decode cX10_again 87 = .ok (.ifCond .le 6, 3) := by decide +kernel
theorem dX10_again_90 : decode cX10_again 90 = .ok (.bipush (-2), 2) := by decide +kernel
theorem dX10_again_92 : decode cX10_again 92 = .ok (.ireturn, 1) := by decide +kernel
theorem dX10_again_93 : decode cX10_again 93 = .ok (.aload_n 0, 1) := by decide +kernel
theorem dX10_again_94 : decode cX10_again 94 = .ok (.iconst 0, 1) := by decide +kernel
theorem dX10_again_95 : decode cX10_again 95 = .ok (.putfield 49, 3) := by decide +kernel
theorem dX10_again_98 : decode cX10_again 98 = .ok (.aload_n 0, 1) := by decide +kernel
theorem dX10_again_99 : decode cX10_again 99 = .ok (.iload 4, 2) := by decide +kernel
theorem dX10_again_101 : decode cX10_again 101 = .ok (.i2l, 1) := by decide +kernel
theorem dX10_again_102 : decode cX10_again 102 = .ok (.invokevirtual 208, 3) := by decide +kernel
theorem dX10_again_105 : decode cX10_again 105 = .ok (.iload 4, 2) := by decide +kernel
theorem dX10_again_107 : decode cX10_again 107 = .ok (.aload_n 0, 1) := by decide +kernel
theorem dX10_again_108 : decode cX10_again 108 = .ok (.getfield 87, 3) := by decide +kernel
theorem dX10_again_111 : decode cX10_again 111 = .ok (.aload_n 0, 1) := by decide +kernel
theorem dX10_again_112 : decode cX10_again 112 = .ok (.getfield 94, 3) := by decide +kernel
theorem dX10_again_115 : decode cX10_again 115 = .ok (.invokestatic 90, 3) := by decide +kernel
theorem dX10_again_118 : decode cX10_again 118 = .ok (.ireturn, 1) := by decide +kernel
theorem dX10_whole_0 : decode cX10_whole 0 = .ok (.aload_n 0, 1) := by decide +kernel
theorem dX10_whole_1 : decode cX10_whole 1 = .ok (.iconst 0, 1) := by decide +kernel
theorem dX10_whole_2 : decode cX10_whole 2 = .ok (.putfield 45, 3) := by decide +kernel
theorem dX10_whole_5 : decode cX10_whole 5 = .ok (.iload_n 1, 1) := by decide +kernel
theorem dX10_whole_6 : decode cX10_whole 6 = .ok (.invokestatic 179, 3) := by decide +kernel
theorem dX10_whole_9 : decode cX10_whole 9 = .ok (.ifCond .eq 10, 3) := by decide +kernel
theorem dX10_whole_12 : decode cX10_whole 12 = .ok (.iload_n 2, 1) := by decide +kernel
theorem dX10_whole_13 : decode cX10_whole 13 = .ok (.invokestatic 179, 3) := by decide +kernel
theorem dX10_whole_16 : decode cX10_whole 16 = .ok (.ifCond .ne 5, 3) := by decide +kernel
theorem dX10_whole_19 : decode cX10_whole 19 = .ok (.iconst (-1), 1) := by decide +kernel
theorem dX10_whole_20 : decode cX10_whole 20 = .ok (.ireturn, 1) := by decide +kernel
theorem dX10_whole_21 : decode cX10_whole 21 = .ok (.aload_n 0, 1) := by decide +kernel
theorem dX10_whole_22 : decode cX10_whole 22 = .ok (.getfield 9, 3) := by decide +kernel
theorem dX10_whole_25 : decode cX10_whole 25 = .ok (.iload_n 1, 1) := by decide +kernel
theorem dX10_whole_26 : decode cX10_whole 26 = .ok (.iaload, 1) := by decide +kernel
theorem dX10_whole_27 : decode cX10_whole 27 = .ok (.aload_n 0, 1) := by decide +kernel
theorem dX10_whole_28 : decode cX10_whole 28 = .ok (.getfield 9, 3) := by decide +kernel
theorem dX10_whole_31 : decode cX10_whole 31 = .ok (.iload_n 2, 1) := by decide +kernel
theorem dX10_whole_32 : decode cX10_whole 32 = .ok (.iaload, 1) := by decide +kernel
theorem dX10_whole_33 : decode cX10_whole 33 = .ok (.invokestatic 120, 3) := by decide +kernel
theorem dX10_whole_36 : decode cX10_whole 36 = .ok (.istore_n 3, 1) := by decide +kernel
theorem dX10_whole_37 : decode cX10_whole 37 = .ok (.aload_n 0, 1) := by decide +kernel
theorem dX10_whole_38 : decode cX10_whole 38 = .ok (.getfield 9, 3) := by decide +kernel
theorem dX10_whole_41 : decode cX10_whole 41 = .ok (.iload_n 1, 1) := by decide +kernel
theorem dX10_whole_42 : decode cX10_whole 42 = .ok (.iaload, 1) := by decide +kernel
theorem dX10_whole_43 : decode cX10_whole 43 = .ok (.aload_n 0, 1) := by decide +kernel
theorem dX10_whole_44 : decode cX10_whole 44 = .ok (.getfield 9, 3) := by decide +kernel
theorem dX10_whole_47 : decode cX10_whole 47 = .ok (.iload_n 2, 1) := by decide +kernel
theorem dX10_whole_48 : decode cX10_whole 48 = .ok (.iaload, 1) := by decide +kernel
theorem dX10_whole_49 : decode cX10_whole 49 = .ok (.invokestatic 115, 3) := by decide +kernel
theorem dX10_whole_52 : decode cX10_whole 52 = .ok (.istore 4, 2) := by decide +kernel
theorem dX10_whole_54 : decode cX10_whole 54 = .ok (.aload_n 0, 1) := by decide +kernel
theorem dX10_whole_55 : decode cX10_whole 55 = .ok (.iload 4, 2) := by decide +kernel
theorem dX10_whole_57 : decode cX10_whole 57 = .ok (.invokevirtual 97, 3) := by decide +kernel
theorem dX10_whole_60 : decode cX10_whole 60 = .ok (.bipush 12, 2) := by decide +kernel
theorem dX10_whole_62 : decode cX10_whole 62 = .ok (.aload_n 0, 1) := by decide +kernel
theorem dX10_whole_63 : decode cX10_whole 63 = .ok (.getfield 84, 3) := by decide +kernel
theorem dX10_whole_66 : decode cX10_whole 66 = .ok (.imul, 1) := by decide +kernel
theorem dX10_whole_67 : decode cX10_whole 67 = .ok (.aload_n 0, 1) := by decide +kernel
