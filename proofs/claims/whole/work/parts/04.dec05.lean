theorem dX10_partOf_14 : decode cX10_partOf 14 = .ok (.iconst 1, 1) := by decide +kernel
theorem dX10_partOf_15 : decode cX10_partOf 15 = .ok (.goto 4, 3) := by decide +kernel
theorem dX10_partOf_18 : decode cX10_partOf 18 = .ok (.iconst 2, 1) := by decide +kernel
theorem dX10_partOf_19 : decode cX10_partOf 19 = .ok (.ireturn, 1) := by decide +kernel
theorem dX10_readsPart_0 : decode cX10_readsPart 0 = .ok (.aload_n 0, 1) := by decide +kernel
theorem dX10_readsPart_1 : decode cX10_readsPart 1 = .ok (.invokevirtual 159, 3) := by decide +kernel
theorem dX10_readsPart_4 : decode cX10_readsPart 4 = .ok (.bipush 45, 2) := by decide +kernel
theorem dX10_readsPart_6 : decode cX10_readsPart 6 = .ok (.if_icmp .ne 7, 3) := by decide +kernel
theorem dX10_readsPart_9 : decode cX10_readsPart 9 = .ok (.iconst 1, 1) := by decide +kernel
theorem dX10_readsPart_10 : decode cX10_readsPart 10 = .ok (.goto 4, 3) := by decide +kernel
theorem dX10_readsPart_13 : decode cX10_readsPart 13 = .ok (.iconst 0, 1) := by decide +kernel
theorem dX10_readsPart_14 : decode cX10_readsPart 14 = .ok (.istore_n 2, 1) := by decide +kernel
theorem dX10_readsPart_15 : decode cX10_readsPart 15 = .ok (.iload_n 2, 1) := by decide +kernel
theorem dX10_readsPart_16 : decode cX10_readsPart 16 = .ok (.ifCond .eq 13, 3) := by decide +kernel
theorem dX10_readsPart_19 : decode cX10_readsPart 19 = .ok (.aload_n 0, 1) := by decide +kernel
theorem dX10_readsPart_20 : decode cX10_readsPart 20 = .ok (.dup, 1) := by decide +kernel
theorem dX10_readsPart_21 : decode cX10_readsPart 21 = .ok (.getfield 153, 3) := by decide +kernel
theorem dX10_readsPart_24 : decode cX10_readsPart 24 = .ok (.iconst 1, 1) := by decide +kernel
theorem dX10_readsPart_25 : decode cX10_readsPart 25 = .ok (.iadd, 1) := by decide +kernel
theorem dX10_readsPart_26 : decode cX10_readsPart 26 = .ok (.putfield 153, 3) := by decide +kernel
theorem dX10_readsPart_29 : decode cX10_readsPart 29 = .ok (.aload_n 0, 1) := by decide +kernel
theorem dX10_readsPart_30 : decode cX10_readsPart 30 = .ok (.iconst 0, 1) := by decide +kernel
theorem dX10_readsPart_31 : decode cX10_readsPart 31 = .ok (.bipush 9, 2) := by decide +kernel
theorem dX10_readsPart_33 : decode cX10_readsPart 33 = .ok (.invokevirtual 166, 3) := by decide +kernel
theorem dX10_readsPart_36 : decode cX10_readsPart 36 = .ok (.istore_n 3, 1) := by decide +kernel
theorem dX10_readsPart_37 : decode cX10_readsPart 37 = .ok (.iconst 1, 1) := by decide +kernel
theorem dX10_readsPart_38 : decode cX10_readsPart 38 = .ok (.istore 4, 2) := by decide +kernel
theorem dX10_readsPart_40 : decode cX10_readsPart 40 = .ok (.aload_n 0, 1) := by decide +kernel
theorem dX10_readsPart_41 : decode cX10_readsPart 41 = .ok (.getfield 156, 3) := by decide +kernel
theorem dX10_readsPart_44 : decode cX10_readsPart 44 = .ok (.iconst (-1), 1) := by decide +kernel
theorem dX10_readsPart_45 : decode cX10_readsPart 45 = .ok (.if_icmp .ne 59, 3) := by decide +kernel
theorem dX10_readsPart_48 : decode cX10_readsPart 48 = .ok (.iload_n 3, 1) := by decide +kernel
theorem dX10_readsPart_49 : decode cX10_readsPart 49 = .ok (.ifCond .le 55, 3) := by decide +kernel
theorem dX10_readsPart_52 : decode cX10_readsPart 52 = .ok (.iload 4, 2) := by decide +kernel
theorem dX10_readsPart_54 : decode cX10_readsPart 54 = .ok (.iconst 5, 1) := by decide +kernel
theorem dX10_readsPart_55 : decode cX10_readsPart 55 = .ok (.if_icmp .ge 49, 3) := by decide +kernel
theorem dX10_readsPart_58 : decode cX10_readsPart 58 = .ok (.aload_n 0, 1) := by decide +kernel
theorem dX10_readsPart_59 : decode cX10_readsPart 59 = .ok (.invokevirtual 159, 3) := by decide +kernel
theorem dX10_readsPart_62 : decode cX10_readsPart 62 = .ok (.i2l, 1) := by decide +kernel
theorem dX10_readsPart_63 : decode cX10_readsPart 63 = .ok (.ldc2_w 195, 3) := by decide +kernel
theorem dX10_readsPart_66 : decode cX10_readsPart 66 = .ok (.ldc2_w 197, 3) := by decide +kernel
theorem dX10_readsPart_69 : decode cX10_readsPart 69 = .ok (.invokestatic 54, 3) := by decide +kernel
theorem dX10_readsPart_72 : decode cX10_readsPart 72 = .ok (.ifCond .eq 32, 3) := by decide +kernel
theorem dX10_readsPart_75 : decode cX10_readsPart 75 = .ok (.bipush 10, 2) := by decide +kernel
theorem dX10_readsPart_77 : decode cX10_readsPart 77 = .ok (.iload_n 3, 1) := by decide +kernel
theorem dX10_readsPart_78 : decode cX10_readsPart 78 = .ok (.imul, 1) := by decide +kernel
theorem dX10_readsPart_79 : decode cX10_readsPart 79 = .ok (.aload_n 0, 1) := by decide +kernel
theorem dX10_readsPart_80 : decode cX10_readsPart 80 = .ok (.invokevirtual 159, 3) := by decide +kernel
theorem dX10_readsPart_83 : decode cX10_readsPart 83 = .ok (.iadd, 1) := by decide +kernel
theorem dX10_readsPart_84 : decode cX10_readsPart 84 = .ok (.bipush 48, 2) := by decide +kernel
theorem dX10_readsPart_86 : decode cX10_readsPart 86 = .ok (.isub, 1) := by decide +kernel
theorem dX10_readsPart_87 : decode cX10_readsPart 87 = .ok (.istore_n 3, 1) := by decide +kernel
theorem dX10_readsPart_88 : decode cX10_readsPart 88 = .ok (.aload_n 0, 1) := by decide +kernel
theorem dX10_readsPart_89 : decode cX10_readsPart 89 = .ok (.dup, 1) := by decide +kernel
theorem dX10_readsPart_90 : decode cX10_readsPart 90 = .ok (.getfield 153, 3) := by decide +kernel
theorem dX10_readsPart_93 : decode cX10_readsPart 93 = .ok (.iconst 1, 1) := by decide +kernel
theorem dX10_readsPart_94 : decode cX10_readsPart 94 = .ok (.iadd, 1) := by decide +kernel
theorem dX10_readsPart_95 : decode cX10_readsPart 95 = .ok (.putfield 153, 3) := by decide +kernel
theorem dX10_readsPart_98 : decode cX10_readsPart 98 = .ok (.iinc 4 1, 3) := by decide +kernel
theorem dX10_readsPart_101 : decode cX10_readsPart 101 = .ok (.goto (-61), 3) := by decide +kernel
theorem dX10_readsPart_104 : decode cX10_readsPart 104 = .ok (.iload_n 1, 1) := by decide +kernel
theorem dX10_readsPart_105 : decode cX10_readsPart 105 = .ok (.istore 5, 2) := by decide +kernel
theorem dX10_readsPart_107 : decode cX10_readsPart 107 = .ok (.iload 5, 2) := by decide +kernel
theorem dX10_readsPart_109 : decode cX10_readsPart 109 = .ok (.bipush 7, 2) := by decide +kernel
theorem dX10_readsPart_111 : decode cX10_readsPart 111 = .ok (.if_icmp .ge 21, 3) := by decide +kernel
theorem dX10_readsPart_114 : decode cX10_readsPart 114 = .ok (.aload_n 0, 1) := by decide +kernel
theorem dX10_readsPart_115 : decode cX10_readsPart 115 = .ok (.invokevirtual 159, 3) := by decide +kernel
theorem dX10_readsPart_118 : decode cX10_readsPart 118 = .ok (.iload 5, 2) := by decide +kernel
theorem dX10_readsPart_120 : decode cX10_readsPart 120 = .ok (.invokestatic 199, 3) := by decide +kernel
theorem dX10_readsPart_123 : decode cX10_readsPart 123 = .ok (.if_icmp .eq 9, 3) := by decide +kernel
theorem dX10_readsPart_126 : decode cX10_readsPart 126 = .ok (.iinc 5 1, 3) := by decide +kernel
theorem dX10_readsPart_129 : decode cX10_readsPart 129 = .ok (.goto (-22), 3) := by decide +kernel
theorem dX10_readsPart_132 : decode cX10_readsPart 132 = .ok (.iload 5, 2) := by decide +kernel
theorem dX10_readsPart_134 : decode cX10_readsPart 134 = .ok (.bipush 7, 2) := by decide +kernel
theorem dX10_readsPart_136 : decode cX10_readsPart 136 = .ok (.if_icmp .ne 11, 3) := by decide +kernel
theorem dX10_readsPart_139 : decode cX10_readsPart 139 = .ok (.aload_n 0, 1) := by decide +kernel
theorem dX10_readsPart_140 : decode cX10_readsPart 140 = .ok (.aload_n 0, 1) := by decide +kernel
theorem dX10_readsPart_141 : decode cX10_readsPart 141 = .ok (.getfield 153, 3) := by decide +kernel
theorem dX10_readsPart_144 : decode cX10_readsPart 144 = .ok (.invokevirtual 163, 3) := by decide +kernel
theorem dX10_readsPart_147 : decode cX10_readsPart 147 = .ok (.aload_n 0, 1) := by decide +kernel
theorem dX10_readsPart_148 : decode cX10_readsPart 148 = .ok (.getfield 156, 3) := by decide +kernel
theorem dX10_readsPart_151 : decode cX10_readsPart 151 = .ok (.iconst (-1), 1) := by decide +kernel
theorem dX10_readsPart_152 : decode cX10_readsPart 152 = .ok (.if_icmp .eq 6, 3) := by decide +kernel
theorem dX10_readsPart_155 : decode cX10_readsPart 155 = .ok (.bipush 7, 2) := by decide +kernel
theorem dX10_readsPart_157 : decode cX10_readsPart 157 = .ok (.ireturn, 1) := by decide +kernel
theorem dX10_readsPart_158 : decode cX10_readsPart 158 = .ok (.aload_n 0, 1) := by decide +kernel
theorem dX10_readsPart_159 : decode cX10_readsPart 159 = .ok (.dup, 1) := by decide +kernel
theorem dX10_readsPart_160 : decode cX10_readsPart 160 = .ok (.getfield 153, 3) := by decide +kernel
theorem dX10_readsPart_163 : decode cX10_readsPart 163 = .ok (.iconst 1, 1) := by decide +kernel
theorem dX10_readsPart_164 : decode cX10_readsPart 164 = .ok (.iadd, 1) := by decide +kernel
theorem dX10_readsPart_165 : decode cX10_readsPart 165 = .ok (.putfield 153, 3) := by decide +kernel
theorem dX10_readsPart_168 : decode cX10_readsPart 168 = .ok (.aload_n 0, 1) := by decide +kernel
theorem dX10_readsPart_169 : decode cX10_readsPart 169 = .ok (.getfield 30, 3) := by decide +kernel
theorem dX10_readsPart_172 : decode cX10_readsPart 172 = .ok (.iload 5, 2) := by decide +kernel
theorem dX10_readsPart_174 : decode cX10_readsPart 174 = .ok (.invokestatic 202, 3) := by decide +kernel
theorem dX10_readsPart_177 : decode cX10_readsPart 177 = .ok (.dup2, 1) := by decide +kernel
theorem dX10_readsPart_178 : decode cX10_readsPart 178 = .ok (.iaload, 1) := by decide +kernel
theorem dX10_readsPart_179 : decode cX10_readsPart 179 = .ok (.iload_n 2, 1) := by decide +kernel
theorem dX10_readsPart_180 : decode cX10_readsPart 180 = .ok (.ifCond .eq 8, 3) := by decide +kernel
theorem dX10_readsPart_183 : decode cX10_readsPart 183 = .ok (.iload_n 3, 1) := by decide +kernel
theorem dX10_readsPart_184 : decode cX10_readsPart 184 = .ok (.ineg, 1) := by decide +kernel
theorem dX10_readsPart_185 : decode cX10_readsPart 185 = .ok (.goto 4, 3) := by decide +kernel
theorem dX10_readsPart_188 : decode cX10_readsPart 188 = .ok (.iload_n 3, 1) := by decide +kernel
theorem dX10_readsPart_189 : decode cX10_readsPart 189 = .ok (.iload 5, 2) := by decide +kernel
theorem dX10_readsPart_191 : decode cX10_readsPart 191 = .ok (.invokestatic 205, 3) := by decide +kernel
theorem dX10_readsPart_194 : decode cX10_readsPart 194 = .ok (.imul, 1) := by decide +kernel
theorem dX10_readsPart_195 : decode cX10_readsPart 195 = .ok (.iadd, 1) := by decide +kernel
theorem dX10_readsPart_196 : decode cX10_readsPart 196 = .ok (.iastore, 1) := by decide +kernel
theorem dX10_readsPart_197 : decode cX10_readsPart 197 = .ok (.iload 5, 2) := by decide +kernel
theorem dX10_readsPart_199 : decode cX10_readsPart 199 = .ok (.ireturn, 1) := by decide +kernel
theorem dX10_tellsSpan_0 : decode cX10_tellsSpan 0 = .ok (.aload_n 0, 1) := by decide +kernel
theorem dX10_tellsSpan_1 : decode cX10_tellsSpan 1 = .ok (.iconst 0, 1) := by decide +kernel
theorem dX10_tellsSpan_2 : decode cX10_tellsSpan 2 = .ok (.putfield 49, 3) := by decide +kernel
theorem dX10_tellsSpan_5 : decode cX10_tellsSpan 5 = .ok (.iconst 0, 1) := by decide +kernel
theorem dX10_tellsSpan_6 : decode cX10_tellsSpan 6 = .ok (.istore_n 2, 1) := by decide +kernel
theorem dX10_tellsSpan_7 : decode cX10_tellsSpan 7 = .ok (.iload_n 2, 1) := by decide +kernel
theorem dX10_tellsSpan_8 : decode cX10_tellsSpan 8 = .ok (.iconst 3, 1) := by decide +kernel
theorem dX10_tellsSpan_9 : decode cX10_tellsSpan 9 = .ok (.if_icmp .ge 24, 3) := by decide +kernel
theorem dX10_tellsSpan_12 : decode cX10_tellsSpan 12 = .ok (.aload_n 0, 1) := by decide +kernel
theorem dX10_tellsSpan_13 : decode cX10_tellsSpan 13 = .ok (.aload_n 0, 1) := by decide +kernel
theorem dX10_tellsSpan_14 : decode cX10_tellsSpan 14 = .ok (.getfield 16, 3) := by decide +kernel
theorem dX10_tellsSpan_17 : decode cX10_tellsSpan 17 = .ok (.iconst 3, 1) := by decide +kernel
theorem dX10_tellsSpan_18 : decode cX10_tellsSpan 18 = .ok (.iload_n 1, 1) := by decide +kernel
theorem dX10_tellsSpan_19 : decode cX10_tellsSpan 19 = .ok (.imul, 1) := by decide +kernel
theorem dX10_tellsSpan_20 : decode cX10_tellsSpan 20 = .ok (.iload_n 2, 1) := by decide +kernel
theorem dX10_tellsSpan_21 : decode cX10_tellsSpan 21 = .ok (.iadd, 1) := by decide +kernel
theorem dX10_tellsSpan_22 : decode cX10_tellsSpan 22 = .ok (.iaload, 1) := by decide +kernel
theorem dX10_tellsSpan_23 : decode cX10_tellsSpan 23 = .ok (.i2l, 1) := by decide +kernel
theorem dX10_tellsSpan_24 : decode cX10_tellsSpan 24 = .ok (.invokevirtual 208, 3) := by decide +kernel
theorem dX10_tellsSpan_27 : decode cX10_tellsSpan 27 = .ok (.iinc 2 1, 3) := by decide +kernel
theorem dX10_tellsSpan_30 : decode cX10_tellsSpan 30 = .ok (.goto (-23), 3) := by decide +kernel
theorem dX10_tellsSpan_33 : decode cX10_tellsSpan 33 = .ok (.return_, 1) := by decide +kernel
theorem dX10_laysSpan_0 : decode cX10_laysSpan 0 = .ok (.aload_n 0, 1) := by decide +kernel
theorem dX10_laysSpan_1 : decode cX10_laysSpan 1 = .ok (.getfield 16, 3) := by decide +kernel
theorem dX10_laysSpan_4 : decode cX10_laysSpan 4 = .ok (.iconst 3, 1) := by decide +kernel
theorem dX10_laysSpan_5 : decode cX10_laysSpan 5 = .ok (.iload_n 1, 1) := by decide +kernel
theorem dX10_laysSpan_6 : decode cX10_laysSpan 6 = .ok (.imul, 1) := by decide +kernel
theorem dX10_laysSpan_7 : decode cX10_laysSpan 7 = .ok (.lload_n 2, 1) := by decide +kernel
theorem dX10_laysSpan_8 : decode cX10_laysSpan 8 = .ok (.l2i, 1) := by decide +kernel
theorem dX10_laysSpan_9 : decode cX10_laysSpan 9 = .ok (.iastore, 1) := by decide +kernel
theorem dX10_laysSpan_10 : decode cX10_laysSpan 10 = .ok (.aload_n 0, 1) := by decide +kernel
theorem dX10_laysSpan_11 : decode cX10_laysSpan 11 = .ok (.getfield 16, 3) := by decide +kernel
theorem dX10_laysSpan_14 : decode cX10_laysSpan 14 = .ok (.iconst 3, 1) := by decide +kernel
theorem dX10_laysSpan_15 : decode cX10_laysSpan 15 = .ok (.iload_n 1, 1) := by decide +kernel
theorem dX10_laysSpan_16 : decode cX10_laysSpan 16 = .ok (.imul, 1) := by decide +kernel
theorem dX10_laysSpan_17 : decode cX10_laysSpan 17 = .ok (.iconst 1, 1) := by decide +kernel
theorem dX10_laysSpan_18 : decode cX10_laysSpan 18 = .ok (.iadd, 1) := by decide +kernel
theorem dX10_laysSpan_19 : decode cX10_laysSpan 19 = .ok (.lload 4, 2) := by decide +kernel
theorem dX10_laysSpan_21 : decode cX10_laysSpan 21 = .ok (.l2i, 1) := by decide +kernel
theorem dX10_laysSpan_22 : decode cX10_laysSpan 22 = .ok (.iastore, 1) := by decide +kernel
theorem dX10_laysSpan_23 : decode cX10_laysSpan 23 = .ok (.aload_n 0, 1) := by decide +kernel
theorem dX10_laysSpan_24 : decode cX10_laysSpan 24 = .ok (.getfield 16, 3) := by decide +kernel
theorem dX10_laysSpan_27 : decode cX10_laysSpan 27 = .ok (.iconst 3, 1) := by decide +kernel
theorem dX10_laysSpan_28 : decode cX10_laysSpan 28 = .ok (.iload_n 1, 1) := by decide +kernel
theorem dX10_laysSpan_29 : decode cX10_laysSpan 29 = .ok (.imul, 1) := by decide +kernel
theorem dX10_laysSpan_30 : decode cX10_laysSpan 30 = .ok (.iconst 2, 1) := by decide +kernel
theorem dX10_laysSpan_31 : decode cX10_laysSpan 31 = .ok (.iadd, 1) := by decide +kernel
theorem dX10_laysSpan_32 : decode cX10_laysSpan 32 = .ok (.lload 6, 2) := by decide +kernel
theorem dX10_laysSpan_34 : decode cX10_laysSpan 34 = .ok (.l2i, 1) := by decide +kernel
theorem dX10_laysSpan_35 : decode cX10_laysSpan 35 = .ok (.iastore, 1) := by decide +kernel
theorem dX10_laysSpan_36 : decode cX10_laysSpan 36 = .ok (.return_, 1) := by decide +kernel
theorem dX10_span_0 : decode cX10_span 0 = .ok (.aload_n 0, 1) := by decide +kernel
theorem dX10_span_1 : decode cX10_span 1 = .ok (.iconst 0, 1) := by decide +kernel
theorem dX10_span_2 : decode cX10_span 2 = .ok (.putfield 45, 3) := by decide +kernel
theorem dX10_span_5 : decode cX10_span 5 = .ok (.aload_n 0, 1) := by decide +kernel
theorem dX10_span_6 : decode cX10_span 6 = .ok (.invokevirtual 169, 3) := by decide +kernel
theorem dX10_span_9 : decode cX10_span 9 = .ok (.iconst 0, 1) := by decide +kernel
theorem dX10_span_10 : decode cX10_span 10 = .ok (.istore_n 2, 1) := by decide +kernel
theorem dX10_span_11 : decode cX10_span 11 = .ok (.iload_n 2, 1) := by decide +kernel
theorem dX10_span_12 : decode cX10_span 12 = .ok (.iconst 3, 1) := by decide +kernel
theorem dX10_span_13 : decode cX10_span 13 = .ok (.if_icmp .ge 16, 3) := by decide +kernel
theorem dX10_span_16 : decode cX10_span 16 = .ok (.aload_n 0, 1) := by decide +kernel
theorem dX10_span_17 : decode cX10_span 17 = .ok (.getfield 30, 3) := by decide +kernel
theorem dX10_span_20 : decode cX10_span 20 = .ok (.iload_n 2, 1) := by decide +kernel
theorem dX10_span_21 : decode cX10_span 21 = .ok (.iconst 0, 1) := by decide +kernel
theorem dX10_span_22 : decode cX10_span 22 = .ok (.iastore, 1) := by decide +kernel
theorem dX10_span_23 : decode cX10_span 23 = .ok (.iinc 2 1, 3) := by decide +kernel
theorem dX10_span_26 : decode cX10_span 26 = .ok (.goto (-15), 3) := by decide +kernel
theorem dX10_span_29 : decode cX10_span 29 = .ok (.aload_n 0, 1) := by decide +kernel
theorem dX10_span_30 : decode cX10_span 30 = .ok (.iconst 0, 1) := by decide +kernel
theorem dX10_span_31 : decode cX10_span 31 = .ok (.invokevirtual 212, 3) := by decide +kernel
theorem dX10_span_34 : decode cX10_span 34 = .ok (.istore_n 2, 1) := by decide +kernel
theorem dX10_span_35 : decode cX10_span 35 = .ok (.aload_n 0, 1) := by decide +kernel
theorem dX10_span_36 : decode cX10_span 36 = .ok (.getfield 156, 3) := by decide +kernel
theorem dX10_span_39 : decode cX10_span 39 = .ok (.iconst (-1), 1) := by decide +kernel
theorem dX10_span_40 : decode cX10_span 40 = .ok (.if_icmp .ne 31, 3) := by decide +kernel
theorem dX10_span_43 : decode cX10_span 43 = .ok (.aload_n 0, 1) := by decide +kernel
theorem dX10_span_44 : decode cX10_span 44 = .ok (.getfield 153, 3) := by decide +kernel
theorem dX10_span_47 : decode cX10_span 47 = .ok (.aload_n 0, 1) := by decide +kernel
theorem dX10_span_48 : decode cX10_span 48 = .ok (.getfield 150, 3) := by decide +kernel
theorem dX10_span_51 : decode cX10_span 51 = .ok (.if_icmp .ge 20, 3) := by decide +kernel
theorem dX10_span_54 : decode cX10_span 54 = .ok (.iload_n 2, 1) := by decide +kernel
theorem dX10_span_55 : decode cX10_span 55 = .ok (.bipush 6, 2) := by decide +kernel
theorem dX10_span_57 : decode cX10_span 57 = .ok (.if_icmp .ge 14, 3) := by decide +kernel
theorem dX10_span_60 : decode cX10_span 60 = .ok (.aload_n 0, 1) := by decide +kernel
theorem dX10_span_61 : decode cX10_span 61 = .ok (.iload_n 2, 1) := by decide +kernel
theorem dX10_span_62 : decode cX10_span 62 = .ok (.iconst 1, 1) := by decide +kernel
theorem dX10_span_63 : decode cX10_span 63 = .ok (.iadd, 1) := by decide +kernel
theorem dX10_span_64 : decode cX10_span 64 = .ok (.invokevirtual 212, 3) := by decide +kernel
theorem dX10_span_67 : decode cX10_span 67 = .ok (.istore_n 2, 1) := by decide +kernel
theorem dX10_span_68 : decode cX10_span 68 = .ok (.goto (-33), 3) := by decide +kernel
theorem dX10_span_71 : decode cX10_span 71 = .ok (.aload_n 0, 1) := by decide +kernel
theorem dX10_span_72 : decode cX10_span 72 = .ok (.getfield 156, 3) := by decide +kernel
theorem dX10_span_75 : decode cX10_span 75 = .ok (.iconst (-1), 1) := by decide +kernel
theorem dX10_span_76 : decode cX10_span 76 = .ok (.if_icmp .ne 22, 3) := by decide +kernel
theorem dX10_span_79 : decode cX10_span 79 = .ok (.aload_n 0, 1) := by decide +kernel
theorem dX10_span_80 : decode cX10_span 80 = .ok (.getfield 153, 3) := by decide +kernel
theorem dX10_span_83 : decode cX10_span 83 = .ok (.aload_n 0, 1) := by decide +kernel
theorem dX10_span_84 : decode cX10_span 84 = .ok (.getfield 150, 3) := by decide +kernel
theorem dX10_span_87 : decode cX10_span 87 = .ok (.if_icmp .ge 11, 3) := by decide +kernel
theorem dX10_span_90 : decode cX10_span 90 = .ok (.aload_n 0, 1) := by decide +kernel
theorem dX10_span_91 : decode cX10_span 91 = .ok (.aload_n 0, 1) := by decide +kernel
theorem dX10_span_92 : decode cX10_span 92 = .ok (.getfield 153, 3) := by decide +kernel
theorem dX10_span_95 : decode cX10_span 95 = .ok (.invokevirtual 163, 3) := by decide +kernel
theorem dX10_span_98 : decode cX10_span 98 = .ok (.aload_n 0, 1) := by decide +kernel
theorem dX10_span_99 : decode cX10_span 99 = .ok (.getfield 156, 3) := by decide +kernel
theorem dX10_span_102 : decode cX10_span 102 = .ok (.iconst (-1), 1) := by decide +kernel
theorem dX10_span_103 : decode cX10_span 103 = .ok (.if_icmp .eq 11, 3) := by decide +kernel
theorem dX10_span_106 : decode cX10_span 106 = .ok (.bipush (-21), 2) := by decide +kernel
theorem dX10_span_108 : decode cX10_span 108 = .ok (.aload_n 0, 1) := by decide +kernel
theorem dX10_span_109 : decode cX10_span 109 = .ok (.getfield 156, 3) := by decide +kernel
theorem dX10_span_112 : decode cX10_span 112 = .ok (.isub, 1) := by decide +kernel
theorem dX10_span_113 : decode cX10_span 113 = .ok (.ireturn, 1) := by decide +kernel
theorem dX10_span_114 : decode cX10_span 114 = .ok (.iload_n 1, 1) := by decide +kernel
theorem dX10_span_115 : decode cX10_span 115 = .ok (.invokestatic 179, 3) := by decide +kernel
theorem dX10_span_118 : decode cX10_span 118 = .ok (.ifCond .ne 5, 3) := by decide +kernel
theorem dX10_span_121 : decode cX10_span 121 = .ok (.iconst (-1), 1) := by decide +kernel
theorem dX10_span_122 : decode cX10_span 122 = .ok (.ireturn, 1) := by decide +kernel
theorem dX10_span_123 : decode cX10_span 123 = .ok (.aload_n 0, 1) := by decide +kernel
theorem dX10_span_124 : decode cX10_span 124 = .ok (.iload_n 1, 1) := by decide +kernel
theorem dX10_span_125 : decode cX10_span 125 = .ok (.aload_n 0, 1) := by decide +kernel
theorem dX10_span_126 : decode cX10_span 126 = .ok (.getfield 30, 3) := by decide +kernel
theorem dX10_span_129 : decode cX10_span 129 = .ok (.iconst 0, 1) := by decide +kernel
theorem dX10_span_130 : decode cX10_span 130 = .ok (.iaload, 1) := by decide +kernel
theorem dX10_span_131 : decode cX10_span 131 = .ok (.i2l, 1) := by decide +kernel
theorem dX10_span_132 : decode cX10_span 132 = .ok (.aload_n 0, 1) := by decide +kernel
theorem dX10_span_133 : decode cX10_span 133 = .ok (.getfield 30, 3) := by decide +kernel
theorem dX10_span_136 : decode cX10_span 136 = .ok (.iconst 1, 1) := by decide +kernel
theorem dX10_span_137 : decode cX10_span 137 = .ok (.iaload, 1) := by decide +kernel
theorem dX10_span_138 : decode cX10_span 138 = .ok (.i2l, 1) := by decide +kernel
theorem dX10_span_139 : decode cX10_span 139 = .ok (.aload_n 0, 1) := by decide +kernel
theorem dX10_span_140 : decode cX10_span 140 = .ok (.getfield 30, 3) := by decide +kernel
theorem dX10_span_143 : decode cX10_span 143 = .ok (.iconst 2, 1) := by decide +kernel
theorem dX10_span_144 : decode cX10_span 144 = .ok (.iaload, 1) := by decide +kernel
theorem dX10_span_145 : decode cX10_span 145 = .ok (.i2l, 1) := by decide +kernel
theorem dX10_span_146 : decode cX10_span 146 = .ok (.invokevirtual 215, 3) := by decide +kernel
theorem dX10_span_149 : decode cX10_span 149 = .ok (.aload_n 0, 1) := by decide +kernel
theorem dX10_span_150 : decode cX10_span 150 = .ok (.iload_n 1, 1) := by decide +kernel
theorem dX10_span_151 : decode cX10_span 151 = .ok (.invokevirtual 219, 3) := by decide +kernel
theorem dX10_span_154 : decode cX10_span 154 = .ok (.aload_n 0, 1) := by decide +kernel
theorem dX10_span_155 : decode cX10_span 155 = .ok (.getfield 30, 3) := by decide +kernel
theorem dX10_span_158 : decode cX10_span 158 = .ok (.iconst 0, 1) := by decide +kernel
theorem dX10_span_159 : decode cX10_span 159 = .ok (.iaload, 1) := by decide +kernel
theorem dX10_span_160 : decode cX10_span 160 = .ok (.ireturn, 1) := by decide +kernel
theorem dX10_parts_0 : decode cX10_parts 0 = .ok (.aload_n 0, 1) := by decide +kernel
theorem dX10_parts_1 : decode cX10_parts 1 = .ok (.iconst 0, 1) := by decide +kernel
theorem dX10_parts_2 : decode cX10_parts 2 = .ok (.putfield 45, 3) := by decide +kernel
theorem dX10_parts_5 : decode cX10_parts 5 = .ok (.iload_n 1, 1) := by decide +kernel
theorem dX10_parts_6 : decode cX10_parts 6 = .ok (.invokestatic 179, 3) := by decide +kernel
theorem dX10_parts_9 : decode cX10_parts 9 = .ok (.ifCond .eq 28, 3) := by decide +kernel
theorem dX10_parts_12 : decode cX10_parts 12 = .ok (.iload_n 2, 1) := by decide +kernel
theorem dX10_parts_13 : decode cX10_parts 13 = .ok (.i2l, 1) := by decide +kernel
theorem dX10_parts_14 : decode cX10_parts 14 = .ok (.invokestatic 222, 3) := by decide +kernel
theorem dX10_parts_17 : decode cX10_parts 17 = .ok (.ifCond .eq 20, 3) := by decide +kernel
theorem dX10_parts_20 : decode cX10_parts 20 = .ok (.iload_n 3, 1) := by decide +kernel
theorem dX10_parts_21 : decode cX10_parts 21 = .ok (.i2l, 1) := by decide +kernel
theorem dX10_parts_22 : decode cX10_parts 22 = .ok (.invokestatic 222, 3) := by decide +kernel
theorem dX10_parts_25 : decode cX10_parts 25 = .ok (.ifCond .eq 12, 3) := by decide +kernel
theorem dX10_parts_28 : decode cX10_parts 28 = .ok (.iload 4, 2) := by decide +kernel
theorem dX10_parts_30 : decode cX10_parts 30 = .ok (.i2l, 1) := by decide +kernel
theorem dX10_parts_31 : decode cX10_parts 31 = .ok (.invokestatic 222, 3) := by decide +kernel
theorem dX10_parts_34 : decode cX10_parts 34 = .ok (.ifCond .ne 5, 3) := by decide +kernel
theorem dX10_parts_37 : decode cX10_parts 37 = .ok (.iconst 0, 1) := by decide +kernel
theorem dX10_parts_38 : decode cX10_parts 38 = .ok (.ireturn, 1) := by decide +kernel
theorem dX10_parts_39 : decode cX10_parts 39 = .ok (.aload_n 0, 1) := by decide +kernel
theorem dX10_parts_40 : decode cX10_parts 40 = .ok (.iload_n 1, 1) := by decide +kernel
theorem dX10_parts_41 : decode cX10_parts 41 = .ok (.iload_n 2, 1) := by decide +kernel
theorem dX10_parts_42 : decode cX10_parts 42 = .ok (.i2l, 1) := by decide +kernel
theorem dX10_parts_43 : decode cX10_parts 43 = .ok (.iload_n 3, 1) := by decide +kernel
theorem dX10_parts_44 : decode cX10_parts 44 = .ok (.i2l, 1) := by decide +kernel
theorem dX10_parts_45 : decode cX10_parts 45 = .ok (.iload 4, 2) := by decide +kernel
theorem dX10_parts_47 : decode cX10_parts 47 = .ok (.i2l, 1) := by decide +kernel
theorem dX10_parts_48 : decode cX10_parts 48 = .ok (.invokevirtual 215, 3) := by decide +kernel
theorem dX10_parts_51 : decode cX10_parts 51 = .ok (.iconst 1, 1) := by decide +kernel
theorem dX10_parts_52 : decode cX10_parts 52 = .ok (.ireturn, 1) := by decide +kernel
theorem dX10_momentIs_0 : decode cX10_momentIs 0 = .ok (.aload_n 0, 1) := by decide +kernel
theorem dX10_momentIs_1 : decode cX10_momentIs 1 = .ok (.iconst 0, 1) := by decide +kernel
theorem dX10_momentIs_2 : decode cX10_momentIs 2 = .ok (.putfield 45, 3) := by decide +kernel
theorem dX10_momentIs_5 : decode cX10_momentIs 5 = .ok (.iload_n 1, 1) := by decide +kernel
theorem dX10_momentIs_6 : decode cX10_momentIs 6 = .ok (.invokestatic 179, 3) := by decide +kernel
theorem dX10_momentIs_9 : decode cX10_momentIs 9 = .ok (.ifCond .ne 5, 3) := by decide +kernel
theorem dX10_momentIs_12 : decode cX10_momentIs 12 = .ok (.iconst (-1), 1) := by decide +kernel
theorem dX10_momentIs_13 : decode cX10_momentIs 13 = .ok (.ireturn, 1) := by decide +kernel
theorem dX10_momentIs_14 : decode cX10_momentIs 14 = .ok (.aload_n 0, 1) := by decide +kernel
theorem dX10_momentIs_15 : decode cX10_momentIs 15 = .ok (.aload_n 0, 1) := by decide +kernel
theorem dX10_momentIs_16 : decode cX10_momentIs 16 = .ok (.getfield 9, 3) := by decide +kernel
theorem dX10_momentIs_19 : decode cX10_momentIs 19 = .ok (.iload_n 1, 1) := by decide +kernel
theorem dX10_momentIs_20 : decode cX10_momentIs 20 = .ok (.iaload, 1) := by decide +kernel
theorem dX10_momentIs_21 : decode cX10_momentIs 21 = .ok (.invokevirtual 97, 3) := by decide +kernel
theorem dX10_momentIs_24 : decode cX10_momentIs 24 = .ok (.iload_n 2, 1) := by decide +kernel
theorem dX10_momentIs_25 : decode cX10_momentIs 25 = .ok (.tableswitch 134 0 6 #[43, 50, 57, 79, 89, 106, 118], 43) := by decide +kernel
theorem dX10_momentIs_68 : decode cX10_momentIs 68 = .ok (.aload_n 0, 1) := by decide +kernel
theorem dX10_momentIs_69 : decode cX10_momentIs 69 = .ok (.getfield 9, 3) := by decide +kernel
theorem dX10_momentIs_72 : decode cX10_momentIs 72 = .ok (.iload_n 1, 1) := by decide +kernel
theorem dX10_momentIs_73 : decode cX10_momentIs 73 = .ok (.iaload, 1) := by decide +kernel
theorem dX10_momentIs_74 : decode cX10_momentIs 74 = .ok (.ireturn, 1) := by decide +kernel
theorem dX10_momentIs_75 : decode cX10_momentIs 75 = .ok (.aload_n 0, 1) := by decide +kernel
theorem dX10_momentIs_76 : decode cX10_momentIs 76 = .ok (.getfield 13, 3) := by decide +kernel
theorem dX10_momentIs_79 : decode cX10_momentIs 79 = .ok (.iload_n 1, 1) := by decide +kernel
theorem dX10_momentIs_80 : decode cX10_momentIs 80 = .ok (.iaload, 1) := by decide +kernel
theorem dX10_momentIs_81 : decode cX10_momentIs 81 = .ok (.ireturn, 1) := by decide +kernel
theorem dX10_momentIs_82 : decode cX10_momentIs 82 = .ok (.sipush 10000, 3) := by decide +kernel
theorem dX10_momentIs_85 : decode cX10_momentIs 85 = .ok (.aload_n 0, 1) := by decide +kernel
theorem dX10_momentIs_86 : decode cX10_momentIs 86 = .ok (.getfield 84, 3) := by decide +kernel
theorem dX10_momentIs_89 : decode cX10_momentIs 89 = .ok (.imul, 1) := by decide +kernel
theorem dX10_momentIs_90 : decode cX10_momentIs 90 = .ok (.bipush 100, 2) := by decide +kernel
theorem dX10_momentIs_92 : decode cX10_momentIs 92 = .ok (.aload_n 0, 1) := by decide +kernel
theorem dX10_momentIs_93 : decode cX10_momentIs 93 = .ok (.getfield 87, 3) := by decide +kernel
theorem dX10_momentIs_96 : decode cX10_momentIs 96 = .ok (.imul, 1) := by decide +kernel
theorem dX10_momentIs_97 : decode cX10_momentIs 97 = .ok (.iadd, 1) := by decide +kernel
theorem dX10_momentIs_98 : decode cX10_momentIs 98 = .ok (.aload_n 0, 1) := by decide +kernel
theorem dX10_momentIs_99 : decode cX10_momentIs 99 = .ok (.getfield 94, 3) := by decide +kernel
theorem dX10_momentIs_102 : decode cX10_momentIs 102 = .ok (.iadd, 1) := by decide +kernel
theorem dX10_momentIs_103 : decode cX10_momentIs 103 = .ok (.ireturn, 1) := by decide +kernel
theorem dX10_momentIs_104 : decode cX10_momentIs 104 = .ok (.aload_n 0, 1) := by decide +kernel
theorem dX10_momentIs_105 : decode cX10_momentIs 105 = .ok (.getfield 9, 3) := by decide +kernel
theorem dX10_momentIs_108 : decode cX10_momentIs 108 = .ok (.iload_n 1, 1) := by decide +kernel
theorem dX10_momentIs_109 : decode cX10_momentIs 109 = .ok (.iaload, 1) := by decide +kernel
theorem dX10_momentIs_110 : decode cX10_momentIs 110 = .ok (.bipush 7, 2) := by decide +kernel
theorem dX10_momentIs_112 : decode cX10_momentIs 112 = .ok (.irem, 1) := by decide +kernel
theorem dX10_momentIs_113 : decode cX10_momentIs 113 = .ok (.ireturn, 1) := by decide +kernel
theorem dX10_momentIs_114 : decode cX10_momentIs 114 = .ok (.aload_n 0, 1) := by decide +kernel
theorem dX10_momentIs_115 : decode cX10_momentIs 115 = .ok (.getfield 9, 3) := by decide +kernel
theorem dX10_momentIs_118 : decode cX10_momentIs 118 = .ok (.iload_n 1, 1) := by decide +kernel
theorem dX10_momentIs_119 : decode cX10_momentIs 119 = .ok (.iaload, 1) := by decide +kernel
theorem dX10_momentIs_120 : decode cX10_momentIs 120 = .ok (.aload_n 0, 1) := by decide +kernel
theorem dX10_momentIs_121 : decode cX10_momentIs 121 = .ok (.getfield 84, 3) := by decide +kernel
theorem dX10_momentIs_124 : decode cX10_momentIs 124 = .ok (.invokestatic 73, 3) := by decide +kernel
theorem dX10_momentIs_127 : decode cX10_momentIs 127 = .ok (.isub, 1) := by decide +kernel
theorem dX10_momentIs_128 : decode cX10_momentIs 128 = .ok (.iconst 1, 1) := by decide +kernel
theorem dX10_momentIs_129 : decode cX10_momentIs 129 = .ok (.iadd, 1) := by decide +kernel
theorem dX10_momentIs_130 : decode cX10_momentIs 130 = .ok (.ireturn, 1) := by decide +kernel
theorem dX10_momentIs_131 : decode cX10_momentIs 131 = .ok (.aload_n 0, 1) := by decide +kernel
theorem dX10_momentIs_132 : decode cX10_momentIs 132 = .ok (.getfield 84, 3) := by decide +kernel
theorem dX10_momentIs_135 : decode cX10_momentIs 135 = .ok (.aload_n 0, 1) := by decide +kernel
theorem dX10_momentIs_136 : decode cX10_momentIs 136 = .ok (.getfield 87, 3) := by decide +kernel
theorem dX10_momentIs_139 : decode cX10_momentIs 139 = .ok (.invokestatic 111, 3) := by decide +kernel
theorem dX10_momentIs_142 : decode cX10_momentIs 142 = .ok (.ireturn, 1) := by decide +kernel
theorem dX10_momentIs_143 : decode cX10_momentIs 143 = .ok (.aload_n 0, 1) := by decide +kernel
theorem dX10_momentIs_144 : decode cX10_momentIs 144 = .ok (.getfield 84, 3) := by decide +kernel
theorem dX10_momentIs_147 : decode cX10_momentIs 147 = .ok (.invokestatic 69, 3) := by decide +kernel
theorem dX10_momentIs_150 : decode cX10_momentIs 150 = .ok (.ifCond .eq 7, 3) := by decide +kernel
theorem dX10_momentIs_153 : decode cX10_momentIs 153 = .ok (.iconst 1, 1) := by decide +kernel
theorem dX10_momentIs_154 : decode cX10_momentIs 154 = .ok (.goto 4, 3) := by decide +kernel
theorem dX10_momentIs_157 : decode cX10_momentIs 157 = .ok (.iconst 0, 1) := by decide +kernel
theorem dX10_momentIs_158 : decode cX10_momentIs 158 = .ok (.ireturn, 1) := by decide +kernel
theorem dX10_momentIs_159 : decode cX10_momentIs 159 = .ok (.iconst (-1), 1) := by decide +kernel
theorem dX10_momentIs_160 : decode cX10_momentIs 160 = .ok (.ireturn, 1) := by decide +kernel
theorem dX10_spanIs_0 : decode cX10_spanIs 0 = .ok (.aload_n 0, 1) := by decide +kernel
theorem dX10_spanIs_1 : decode cX10_spanIs 1 = .ok (.iconst 0, 1) := by decide +kernel
theorem dX10_spanIs_2 : decode cX10_spanIs 2 = .ok (.putfield 45, 3) := by decide +kernel
theorem dX10_spanIs_5 : decode cX10_spanIs 5 = .ok (.iload_n 1, 1) := by decide +kernel
theorem dX10_spanIs_6 : decode cX10_spanIs 6 = .ok (.invokestatic 179, 3) := by decide +kernel
theorem dX10_spanIs_9 : decode cX10_spanIs 9 = .ok (.ifCond .eq 28, 3) := by decide +kernel
theorem dX10_spanIs_12 : decode cX10_spanIs 12 = .ok (.iload_n 2, 1) := by decide +kernel
theorem dX10_spanIs_13 : decode cX10_spanIs 13 = .ok (.i2l, 1) := by decide +kernel
theorem dX10_spanIs_14 : decode cX10_spanIs 14 = .ok (.lconst 0, 1) := by decide +kernel
theorem dX10_spanIs_15 : decode cX10_spanIs 15 = .ok (.ldc2_w 225, 3) := by decide +kernel
theorem dX10_spanIs_18 : decode cX10_spanIs 18 = .ok (.invokestatic 54, 3) := by decide +kernel
theorem dX10_spanIs_21 : decode cX10_spanIs 21 = .ok (.ifCond .eq 16, 3) := by decide +kernel
theorem dX10_spanIs_24 : decode cX10_spanIs 24 = .ok (.aload_n 0, 1) := by decide +kernel
theorem dX10_spanIs_25 : decode cX10_spanIs 25 = .ok (.getfield 16, 3) := by decide +kernel
theorem dX10_spanIs_28 : decode cX10_spanIs 28 = .ok (.iconst 3, 1) := by decide +kernel
theorem dX10_spanIs_29 : decode cX10_spanIs 29 = .ok (.iload_n 1, 1) := by decide +kernel
theorem dX10_spanIs_30 : decode cX10_spanIs 30 = .ok (.imul, 1) := by decide +kernel
theorem dX10_spanIs_31 : decode cX10_spanIs 31 = .ok (.iload_n 2, 1) := by decide +kernel
theorem dX10_spanIs_32 : decode cX10_spanIs 32 = .ok (.iadd, 1) := by decide +kernel
theorem dX10_spanIs_33 : decode cX10_spanIs 33 = .ok (.iaload, 1) := by decide +kernel
theorem dX10_spanIs_34 : decode cX10_spanIs 34 = .ok (.goto 5, 3) := by decide +kernel
theorem dX10_spanIs_37 : decode cX10_spanIs 37 = .ok (.ldc 227, 2) := by decide +kernel
theorem dX10_spanIs_39 : decode cX10_spanIs 39 = .ok (.ireturn, 1) := by decide +kernel
theorem dX10_date_0 : decode cX10_date 0 = .ok (.aload_n 0, 1) := by decide +kernel
theorem dX10_date_1 : decode cX10_date 1 = .ok (.iconst 0, 1) := by decide +kernel
theorem dX10_date_2 : decode cX10_date 2 = .ok (.putfield 45, 3) := by decide +kernel
theorem dX10_date_5 : decode cX10_date 5 = .ok (.iload_n 1, 1) := by decide +kernel
theorem dX10_date_6 : decode cX10_date 6 = .ok (.i2l, 1) := by decide +kernel
theorem dX10_date_7 : decode cX10_date 7 = .ok (.invokestatic 123, 3) := by decide +kernel
theorem dX10_date_10 : decode cX10_date 10 = .ok (.ifCond .eq 11, 3) := by decide +kernel
theorem dX10_date_13 : decode cX10_date 13 = .ok (.aload_n 0, 1) := by decide +kernel
theorem dX10_date_14 : decode cX10_date 14 = .ok (.iload_n 1, 1) := by decide +kernel
theorem dX10_date_15 : decode cX10_date 15 = .ok (.invokevirtual 228, 3) := by decide +kernel
theorem dX10_date_18 : decode cX10_date 18 = .ok (.goto 4, 3) := by decide +kernel
theorem dX10_date_21 : decode cX10_date 21 = .ok (.iconst (-1), 1) := by decide +kernel
theorem dX10_date_22 : decode cX10_date 22 = .ok (.ireturn, 1) := by decide +kernel
theorem dX10_isDate_0 : decode cX10_isDate 0 = .ok (.iload_n 0, 1) := by decide +kernel
theorem dX10_isDate_1 : decode cX10_isDate 1 = .ok (.sipush 10000, 3) := by decide +kernel
theorem dX10_isDate_4 : decode cX10_isDate 4 = .ok (.idiv, 1) := by decide +kernel
theorem dX10_isDate_5 : decode cX10_isDate 5 = .ok (.istore_n 1, 1) := by decide +kernel
theorem dX10_isDate_6 : decode cX10_isDate 6 = .ok (.iload_n 0, 1) := by decide +kernel
theorem dX10_isDate_7 : decode cX10_isDate 7 = .ok (.bipush 100, 2) := by decide +kernel
theorem dX10_isDate_9 : decode cX10_isDate 9 = .ok (.idiv, 1) := by decide +kernel
theorem dX10_isDate_10 : decode cX10_isDate 10 = .ok (.bipush 100, 2) := by decide +kernel
theorem dX10_isDate_12 : decode cX10_isDate 12 = .ok (.irem, 1) := by decide +kernel
theorem dX10_isDate_13 : decode cX10_isDate 13 = .ok (.istore_n 2, 1) := by decide +kernel
theorem dX10_isDate_14 : decode cX10_isDate 14 = .ok (.iload_n 0, 1) := by decide +kernel
theorem dX10_isDate_15 : decode cX10_isDate 15 = .ok (.ifCond .le 49, 3) := by decide +kernel
theorem dX10_isDate_18 : decode cX10_isDate 18 = .ok (.iload_n 1, 1) := by decide +kernel
theorem dX10_isDate_19 : decode cX10_isDate 19 = .ok (.i2l, 1) := by decide +kernel
theorem dX10_isDate_20 : decode cX10_isDate 20 = .ok (.lconst 1, 1) := by decide +kernel
theorem dX10_isDate_21 : decode cX10_isDate 21 = .ok (.ldc2_w 231, 3) := by decide +kernel
theorem dX10_isDate_24 : decode cX10_isDate 24 = .ok (.invokestatic 54, 3) := by decide +kernel
theorem dX10_isDate_27 : decode cX10_isDate 27 = .ok (.ifCond .eq 37, 3) := by decide +kernel
theorem dX10_isDate_30 : decode cX10_isDate 30 = .ok (.iload_n 2, 1) := by decide +kernel
theorem dX10_isDate_31 : decode cX10_isDate 31 = .ok (.i2l, 1) := by decide +kernel
theorem dX10_isDate_32 : decode cX10_isDate 32 = .ok (.lconst 1, 1) := by decide +kernel
theorem dX10_isDate_33 : decode cX10_isDate 33 = .ok (.ldc2_w 107, 3) := by decide +kernel
theorem dX10_isDate_36 : decode cX10_isDate 36 = .ok (.invokestatic 54, 3) := by decide +kernel
theorem dX10_isDate_39 : decode cX10_isDate 39 = .ok (.ifCond .eq 25, 3) := by decide +kernel
theorem dX10_isDate_42 : decode cX10_isDate 42 = .ok (.iload_n 0, 1) := by decide +kernel
theorem dX10_isDate_43 : decode cX10_isDate 43 = .ok (.bipush 100, 2) := by decide +kernel
theorem dX10_isDate_45 : decode cX10_isDate 45 = .ok (.irem, 1) := by decide +kernel
theorem dX10_isDate_46 : decode cX10_isDate 46 = .ok (.i2l, 1) := by decide +kernel
theorem dX10_isDate_47 : decode cX10_isDate 47 = .ok (.lconst 1, 1) := by decide +kernel
theorem dX10_isDate_48 : decode cX10_isDate 48 = .ok (.iload_n 1, 1) := by decide +kernel
theorem dX10_isDate_49 : decode cX10_isDate 49 = .ok (.iload_n 2, 1) := by decide +kernel
theorem dX10_isDate_50 : decode cX10_isDate 50 = .ok (.invokestatic 111, 3) := by decide +kernel
theorem dX10_isDate_53 : decode cX10_isDate 53 = .ok (.i2l, 1) := by decide +kernel
theorem dX10_isDate_54 : decode cX10_isDate 54 = .ok (.invokestatic 54, 3) := by decide +kernel
theorem dX10_isDate_57 : decode cX10_isDate 57 = .ok (.ifCond .eq 7, 3) := by decide +kernel
theorem dX10_isDate_60 : decode cX10_isDate 60 = .ok (.iconst 1, 1) := by decide +kernel
theorem dX10_isDate_61 : decode cX10_isDate 61 = .ok (.goto 4, 3) := by decide +kernel
theorem dX10_isDate_64 : decode cX10_isDate 64 = .ok (.iconst 0, 1) := by decide +kernel
theorem dX10_isDate_65 : decode cX10_isDate 65 = .ok (.ireturn, 1) := by decide +kernel
theorem dX10_day_0 : decode cX10_day 0 = .ok (.aload_n 0, 1) := by decide +kernel
theorem dX10_day_1 : decode cX10_day 1 = .ok (.iconst 0, 1) := by decide +kernel
theorem dX10_day_2 : decode cX10_day 2 = .ok (.putfield 45, 3) := by decide +kernel
theorem dX10_day_5 : decode cX10_day 5 = .ok (.iload_n 1, 1) := by decide +kernel
theorem dX10_day_6 : decode cX10_day 6 = .ok (.invokestatic 233, 3) := by decide +kernel
theorem dX10_day_9 : decode cX10_day 9 = .ok (.ifCond .eq 25, 3) := by decide +kernel
theorem dX10_day_12 : decode cX10_day 12 = .ok (.iload_n 1, 1) := by decide +kernel
theorem dX10_day_13 : decode cX10_day 13 = .ok (.sipush 10000, 3) := by decide +kernel
theorem dX10_day_16 : decode cX10_day 16 = .ok (.idiv, 1) := by decide +kernel
theorem dX10_day_17 : decode cX10_day 17 = .ok (.iload_n 1, 1) := by decide +kernel
theorem dX10_day_18 : decode cX10_day 18 = .ok (.bipush 100, 2) := by decide +kernel
theorem dX10_day_20 : decode cX10_day 20 = .ok (.idiv, 1) := by decide +kernel
theorem dX10_day_21 : decode cX10_day 21 = .ok (.bipush 100, 2) := by decide +kernel
theorem dX10_day_23 : decode cX10_day 23 = .ok (.irem, 1) := by decide +kernel
theorem dX10_day_24 : decode cX10_day 24 = .ok (.iload_n 1, 1) := by decide +kernel
theorem dX10_day_25 : decode cX10_day 25 = .ok (.bipush 100, 2) := by decide +kernel
theorem dX10_day_27 : decode cX10_day 27 = .ok (.irem, 1) := by decide +kernel
theorem dX10_day_28 : decode cX10_day 28 = .ok (.invokestatic 90, 3) := by decide +kernel
theorem dX10_day_31 : decode cX10_day 31 = .ok (.goto 5, 3) := by decide +kernel
theorem dX10_day_34 : decode cX10_day 34 = .ok (.bipush (-2), 2) := by decide +kernel
theorem dX10_day_36 : decode cX10_day 36 = .ok (.ireturn, 1) := by decide +kernel
theorem dX10_week_0 : decode cX10_week 0 = .ok (.aload_n 0, 1) := by decide +kernel
theorem dX10_week_1 : decode cX10_week 1 = .ok (.iconst 0, 1) := by decide +kernel
theorem dX10_week_2 : decode cX10_week 2 = .ok (.putfield 45, 3) := by decide +kernel
theorem dX10_week_5 : decode cX10_week 5 = .ok (.iload_n 1, 1) := by decide +kernel
theorem dX10_week_6 : decode cX10_week 6 = .ok (.i2l, 1) := by decide +kernel
theorem dX10_week_7 : decode cX10_week 7 = .ok (.invokestatic 123, 3) := by decide +kernel
theorem dX10_week_10 : decode cX10_week 10 = .ok (.ifCond .ne 5, 3) := by decide +kernel
theorem dX10_week_13 : decode cX10_week 13 = .ok (.iconst (-1), 1) := by decide +kernel
theorem dX10_week_14 : decode cX10_week 14 = .ok (.ireturn, 1) := by decide +kernel
theorem dX10_week_15 : decode cX10_week 15 = .ok (.iload_n 1, 1) := by decide +kernel
theorem dX10_week_16 : decode cX10_week 16 = .ok (.iload_n 1, 1) := by decide +kernel
theorem dX10_week_17 : decode cX10_week 17 = .ok (.bipush 7, 2) := by decide +kernel
theorem dX10_week_19 : decode cX10_week 19 = .ok (.irem, 1) := by decide +kernel
theorem dX10_week_20 : decode cX10_week 20 = .ok (.isub, 1) := by decide +kernel
theorem dX10_week_21 : decode cX10_week 21 = .ok (.iconst 3, 1) := by decide +kernel
theorem dX10_week_22 : decode cX10_week 22 = .ok (.iadd, 1) := by decide +kernel
theorem dX10_week_23 : decode cX10_week 23 = .ok (.istore_n 2, 1) := by decide +kernel
theorem dX10_week_24 : decode cX10_week 24 = .ok (.aload_n 0, 1) := by decide +kernel
theorem dX10_week_25 : decode cX10_week 25 = .ok (.iload_n 2, 1) := by decide +kernel
theorem dX10_week_26 : decode cX10_week 26 = .ok (.invokevirtual 97, 3) := by decide +kernel
theorem dX10_week_29 : decode cX10_week 29 = .ok (.aload_n 0, 1) := by decide +kernel
theorem dX10_week_30 : decode cX10_week 30 = .ok (.iconst 0, 1) := by decide +kernel
theorem dX10_week_31 : decode cX10_week 31 = .ok (.putfield 49, 3) := by decide +kernel
theorem dX10_week_34 : decode cX10_week 34 = .ok (.aload_n 0, 1) := by decide +kernel
theorem dX10_week_35 : decode cX10_week 35 = .ok (.aload_n 0, 1) := by decide +kernel
theorem dX10_week_36 : decode cX10_week 36 = .ok (.getfield 84, 3) := by decide +kernel
theorem dX10_week_39 : decode cX10_week 39 = .ok (.i2l, 1) := by decide +kernel
theorem dX10_week_40 : decode cX10_week 40 = .ok (.invokevirtual 208, 3) := by decide +kernel
theorem dX10_week_43 : decode cX10_week 43 = .ok (.iload_n 2, 1) := by decide +kernel
theorem dX10_week_44 : decode cX10_week 44 = .ok (.aload_n 0, 1) := by decide +kernel
theorem dX10_week_45 : decode cX10_week 45 = .ok (.getfield 84, 3) := by decide +kernel
theorem dX10_week_48 : decode cX10_week 48 = .ok (.invokestatic 73, 3) := by decide +kernel
theorem dX10_week_51 : decode cX10_week 51 = .ok (.isub, 1) := by decide +kernel
theorem dX10_week_52 : decode cX10_week 52 = .ok (.bipush 7, 2) := by decide +kernel
theorem dX10_week_54 : decode cX10_week 54 = .ok (.idiv, 1) := by decide +kernel
theorem dX10_week_55 : decode cX10_week 55 = .ok (.iconst 1, 1) := by decide +kernel
theorem dX10_week_56 : decode cX10_week 56 = .ok (.iadd, 1) := by decide +kernel
theorem dX10_week_57 : decode cX10_week 57 = .ok (.ireturn, 1) := by decide +kernel
theorem dX10_add_0 : decode cX10_add 0 = .ok (.aload_n 0, 1) := by decide +kernel
theorem dX10_add_1 : decode cX10_add 1 = .ok (.iconst 0, 1) := by decide +kernel
theorem dX10_add_2 : decode cX10_add 2 = .ok (.putfield 45, 3) := by decide +kernel
theorem dX10_add_5 : decode cX10_add 5 = .ok (.iload_n 1, 1) := by decide +kernel
theorem dX10_add_6 : decode cX10_add 6 = .ok (.invokestatic 179, 3) := by decide +kernel
theorem dX10_add_9 : decode cX10_add 9 = .ok (.ifCond .eq 33, 3) := by decide +kernel
theorem dX10_add_12 : decode cX10_add 12 = .ok (.iload_n 2, 1) := by decide +kernel
theorem dX10_add_13 : decode cX10_add 13 = .ok (.invokestatic 179, 3) := by decide +kernel
theorem dX10_add_16 : decode cX10_add 16 = .ok (.ifCond .eq 26, 3) := by decide +kernel
theorem dX10_add_19 : decode cX10_add 19 = .ok (.iload_n 3, 1) := by decide +kernel
theorem dX10_add_20 : decode cX10_add 20 = .ok (.invokestatic 236, 3) := by decide +kernel
theorem dX10_add_23 : decode cX10_add 23 = .ok (.ifCond .eq 19, 3) := by decide +kernel
theorem dX10_add_26 : decode cX10_add 26 = .ok (.iload 4, 2) := by decide +kernel
theorem dX10_add_28 : decode cX10_add 28 = .ok (.invokestatic 239, 3) := by decide +kernel
theorem dX10_add_31 : decode cX10_add 31 = .ok (.ifCond .eq 11, 3) := by decide +kernel
theorem dX10_add_34 : decode cX10_add 34 = .ok (.iload 5, 2) := by decide +kernel
theorem dX10_add_36 : decode cX10_add 36 = .ok (.invokestatic 179, 3) := by decide +kernel
theorem dX10_add_39 : decode cX10_add 39 = .ok (.ifCond .ne 5, 3) := by decide +kernel
theorem dX10_add_42 : decode cX10_add 42 = .ok (.iconst (-1), 1) := by decide +kernel
theorem dX10_add_43 : decode cX10_add 43 = .ok (.ireturn, 1) := by decide +kernel
theorem dX10_add_44 : decode cX10_add 44 = .ok (.aload_n 0, 1) := by decide +kernel
theorem dX10_add_45 : decode cX10_add 45 = .ok (.iload_n 1, 1) := by decide +kernel
theorem dX10_add_46 : decode cX10_add 46 = .ok (.invokevirtual 242, 3) := by decide +kernel
theorem dX10_add_49 : decode cX10_add 49 = .ok (.aload_n 0, 1) := by decide +kernel
theorem dX10_add_50 : decode cX10_add 50 = .ok (.iload_n 2, 1) := by decide +kernel
theorem dX10_add_51 : decode cX10_add 51 = .ok (.lconst 1, 1) := by decide +kernel
theorem dX10_add_52 : decode cX10_add 52 = .ok (.iload_n 3, 1) := by decide +kernel
theorem dX10_add_53 : decode cX10_add 53 = .ok (.iload 4, 2) := by decide +kernel
theorem dX10_add_55 : decode cX10_add 55 = .ok (.invokevirtual 245, 3) := by decide +kernel
theorem dX10_add_58 : decode cX10_add 58 = .ok (.ifCond .ne 6, 3) := by decide +kernel
theorem dX10_add_61 : decode cX10_add 61 = .ok (.bipush (-2), 2) := by decide +kernel
theorem dX10_add_63 : decode cX10_add 63 = .ok (.ireturn, 1) := by decide +kernel
theorem dX10_add_64 : decode cX10_add 64 = .ok (.aload_n 0, 1) := by decide +kernel
theorem dX10_add_65 : decode cX10_add 65 = .ok (.iload 5, 2) := by decide +kernel
theorem dX10_add_67 : decode cX10_add 67 = .ok (.invokevirtual 182, 3) := by decide +kernel
theorem dX10_add_70 : decode cX10_add 70 = .ok (.aload_n 0, 1) := by decide +kernel
theorem dX10_add_71 : decode cX10_add 71 = .ok (.iconst 0, 1) := by decide +kernel
theorem dX10_add_72 : decode cX10_add 72 = .ok (.putfield 49, 3) := by decide +kernel
theorem dX10_add_75 : decode cX10_add 75 = .ok (.aload_n 0, 1) := by decide +kernel
theorem dX10_add_76 : decode cX10_add 76 = .ok (.aload_n 0, 1) := by decide +kernel
theorem dX10_add_77 : decode cX10_add 77 = .ok (.getfield 129, 3) := by decide +kernel
theorem dX10_add_80 : decode cX10_add 80 = .ok (.i2l, 1) := by decide +kernel
theorem dX10_add_81 : decode cX10_add 81 = .ok (.invokevirtual 208, 3) := by decide +kernel
theorem dX10_add_84 : decode cX10_add 84 = .ok (.aload_n 0, 1) := by decide +kernel
theorem dX10_add_85 : decode cX10_add 85 = .ok (.aload_n 0, 1) := by decide +kernel
theorem dX10_add_86 : decode cX10_add 86 = .ok (.getfield 101, 3) := by decide +kernel
theorem dX10_add_89 : decode cX10_add 89 = .ok (.i2l, 1) := by decide +kernel
theorem dX10_add_90 : decode cX10_add 90 = .ok (.invokevirtual 208, 3) := by decide +kernel
theorem dX10_add_93 : decode cX10_add 93 = .ok (.aload_n 0, 1) := by decide +kernel
theorem dX10_add_94 : decode cX10_add 94 = .ok (.getfield 104, 3) := by decide +kernel
theorem dX10_add_97 : decode cX10_add 97 = .ok (.ireturn, 1) := by decide +kernel
theorem dX10_steps_0 : decode cX10_steps 0 = .ok (.aload_n 0, 1) := by decide +kernel
theorem dX10_steps_1 : decode cX10_steps 1 = .ok (.iconst 0, 1) := by decide +kernel
theorem dX10_steps_2 : decode cX10_steps 2 = .ok (.putfield 45, 3) := by decide +kernel
theorem dX10_steps_5 : decode cX10_steps 5 = .ok (.iload_n 1, 1) := by decide +kernel
theorem dX10_steps_6 : decode cX10_steps 6 = .ok (.invokestatic 179, 3) := by decide +kernel
theorem dX10_steps_9 : decode cX10_steps 9 = .ok (.ifCond .eq 46, 3) := by decide +kernel
theorem dX10_steps_12 : decode cX10_steps 12 = .ok (.iload_n 2, 1) := by decide +kernel
theorem dX10_steps_13 : decode cX10_steps 13 = .ok (.invokestatic 179, 3) := by decide +kernel
theorem dX10_steps_16 : decode cX10_steps 16 = .ok (.ifCond .eq 39, 3) := by decide +kernel
theorem dX10_steps_19 : decode cX10_steps 19 = .ok (.iload_n 3, 1) := by decide +kernel
theorem dX10_steps_20 : decode cX10_steps 20 = .ok (.invokestatic 236, 3) := by decide +kernel
theorem dX10_steps_23 : decode cX10_steps 23 = .ok (.ifCond .eq 32, 3) := by decide +kernel
theorem dX10_steps_26 : decode cX10_steps 26 = .ok (.iload 4, 2) := by decide +kernel
theorem dX10_steps_28 : decode cX10_steps 28 = .ok (.invokestatic 239, 3) := by decide +kernel
theorem dX10_steps_31 : decode cX10_steps 31 = .ok (.ifCond .eq 24, 3) := by decide +kernel
theorem dX10_steps_34 : decode cX10_steps 34 = .ok (.iload 5, 2) := by decide +kernel
theorem dX10_steps_36 : decode cX10_steps 36 = .ok (.i2l, 1) := by decide +kernel
theorem dX10_steps_37 : decode cX10_steps 37 = .ok (.lconst 0, 1) := by decide +kernel
theorem dX10_steps_38 : decode cX10_steps 38 = .ok (.ldc2_w 249, 3) := by decide +kernel
theorem dX10_steps_41 : decode cX10_steps 41 = .ok (.invokestatic 54, 3) := by decide +kernel
theorem dX10_steps_44 : decode cX10_steps 44 = .ok (.ifCond .eq 11, 3) := by decide +kernel
theorem dX10_steps_47 : decode cX10_steps 47 = .ok (.iload 6, 2) := by decide +kernel
theorem dX10_steps_49 : decode cX10_steps 49 = .ok (.invokestatic 179, 3) := by decide +kernel
theorem dX10_steps_52 : decode cX10_steps 52 = .ok (.ifCond .ne 5, 3) := by decide +kernel
theorem dX10_steps_55 : decode cX10_steps 55 = .ok (.iconst (-1), 1) := by decide +kernel
theorem dX10_steps_56 : decode cX10_steps 56 = .ok (.ireturn, 1) := by decide +kernel
theorem dX10_steps_57 : decode cX10_steps 57 = .ok (.aload_n 0, 1) := by decide +kernel
theorem dX10_steps_58 : decode cX10_steps 58 = .ok (.iload_n 1, 1) := by decide +kernel
theorem dX10_steps_59 : decode cX10_steps 59 = .ok (.invokevirtual 242, 3) := by decide +kernel
theorem dX10_steps_62 : decode cX10_steps 62 = .ok (.iconst 0, 1) := by decide +kernel
theorem dX10_steps_63 : decode cX10_steps 63 = .ok (.istore 7, 2) := by decide +kernel
theorem dX10_steps_65 : decode cX10_steps 65 = .ok (.iconst 0, 1) := by decide +kernel
theorem dX10_steps_66 : decode cX10_steps 66 = .ok (.istore 8, 2) := by decide +kernel
theorem dX10_steps_68 : decode cX10_steps 68 = .ok (.iload 8, 2) := by decide +kernel
theorem dX10_steps_70 : decode cX10_steps 70 = .ok (.iload 5, 2) := by decide +kernel
theorem dX10_steps_72 : decode cX10_steps 72 = .ok (.if_icmp .ge 41, 3) := by decide +kernel
theorem dX10_steps_75 : decode cX10_steps 75 = .ok (.aload_n 0, 1) := by decide +kernel
theorem dX10_steps_76 : decode cX10_steps 76 = .ok (.iload_n 2, 1) := by decide +kernel
theorem dX10_steps_77 : decode cX10_steps 77 = .ok (.lconst 1, 1) := by decide +kernel
theorem dX10_steps_78 : decode cX10_steps 78 = .ok (.iload_n 3, 1) := by decide +kernel
theorem dX10_steps_79 : decode cX10_steps 79 = .ok (.iload 4, 2) := by decide +kernel
theorem dX10_steps_81 : decode cX10_steps 81 = .ok (.invokevirtual 245, 3) := by decide +kernel
theorem dX10_steps_84 : decode cX10_steps 84 = .ok (.ifCond .ne 6, 3) := by decide +kernel
theorem dX10_steps_87 : decode cX10_steps 87 = .ok (.bipush (-2), 2) := by decide +kernel
theorem dX10_steps_89 : decode cX10_steps 89 = .ok (.ireturn, 1) := by decide +kernel
theorem dX10_steps_90 : decode cX10_steps 90 = .ok (.iload 7, 2) := by decide +kernel
theorem dX10_steps_92 : decode cX10_steps 92 = .ok (.aload_n 0, 1) := by decide +kernel
theorem dX10_steps_93 : decode cX10_steps 93 = .ok (.getfield 101, 3) := by decide +kernel
theorem dX10_steps_96 : decode cX10_steps 96 = .ok (.ifCond .le 7, 3) := by decide +kernel
theorem dX10_steps_99 : decode cX10_steps 99 = .ok (.iconst 1, 1) := by decide +kernel
theorem dX10_steps_100 : decode cX10_steps 100 = .ok (.goto 4, 3) := by decide +kernel
theorem dX10_steps_103 : decode cX10_steps 103 = .ok (.iconst 0, 1) := by decide +kernel
theorem dX10_steps_104 : decode cX10_steps 104 = .ok (.iadd, 1) := by decide +kernel
theorem dX10_steps_105 : decode cX10_steps 105 = .ok (.istore 7, 2) := by decide +kernel
theorem dX10_steps_107 : decode cX10_steps 107 = .ok (.iinc 8 1, 3) := by decide +kernel
theorem dX10_steps_110 : decode cX10_steps 110 = .ok (.goto (-42), 3) := by decide +kernel
theorem dX10_steps_113 : decode cX10_steps 113 = .ok (.aload_n 0, 1) := by decide +kernel
theorem dX10_steps_114 : decode cX10_steps 114 = .ok (.iload 6, 2) := by decide +kernel
theorem dX10_steps_116 : decode cX10_steps 116 = .ok (.invokevirtual 182, 3) := by decide +kernel
theorem dX10_steps_119 : decode cX10_steps 119 = .ok (.aload_n 0, 1) := by decide +kernel
theorem dX10_steps_120 : decode cX10_steps 120 = .ok (.iconst 0, 1) := by decide +kernel
theorem dX10_steps_121 : decode cX10_steps 121 = .ok (.putfield 49, 3) := by decide +kernel
theorem dX10_steps_124 : decode cX10_steps 124 = .ok (.aload_n 0, 1) := by decide +kernel
theorem dX10_steps_125 : decode cX10_steps 125 = .ok (.aload_n 0, 1) := by decide +kernel
theorem dX10_steps_126 : decode cX10_steps 126 = .ok (.getfield 129, 3) := by decide +kernel
theorem dX10_steps_129 : decode cX10_steps 129 = .ok (.i2l, 1) := by decide +kernel
theorem dX10_steps_130 : decode cX10_steps 130 = .ok (.invokevirtual 208, 3) := by decide +kernel
theorem dX10_steps_133 : decode cX10_steps 133 = .ok (.aload_n 0, 1) := by decide +kernel
theorem dX10_steps_134 : decode cX10_steps 134 = .ok (.iload 7, 2) := by decide +kernel
theorem dX10_steps_136 : decode cX10_steps 136 = .ok (.i2l, 1) := by decide +kernel
theorem dX10_steps_137 : decode cX10_steps 137 = .ok (.invokevirtual 208, 3) := by decide +kernel
theorem dX10_steps_140 : decode cX10_steps 140 = .ok (.aload_n 0, 1) := by decide +kernel
theorem dX10_steps_141 : decode cX10_steps 141 = .ok (.getfield 104, 3) := by decide +kernel
theorem dX10_steps_144 : decode cX10_steps 144 = .ok (.ireturn, 1) := by decide +kernel
theorem dX10_comesSpan_0 : decode cX10_comesSpan 0 = .ok (.lload_n 2, 1) := by decide +kernel
theorem dX10_comesSpan_1 : decode cX10_comesSpan 1 = .ok (.invokestatic 222, 3) := by decide +kernel
theorem dX10_comesSpan_4 : decode cX10_comesSpan 4 = .ok (.ifCond .eq 19, 3) := by decide +kernel
theorem dX10_comesSpan_7 : decode cX10_comesSpan 7 = .ok (.lload 4, 2) := by decide +kernel
theorem dX10_comesSpan_9 : decode cX10_comesSpan 9 = .ok (.invokestatic 222, 3) := by decide +kernel
theorem dX10_comesSpan_12 : decode cX10_comesSpan 12 = .ok (.ifCond .eq 11, 3) := by decide +kernel
theorem dX10_comesSpan_15 : decode cX10_comesSpan 15 = .ok (.lload 6, 2) := by decide +kernel
theorem dX10_comesSpan_17 : decode cX10_comesSpan 17 = .ok (.invokestatic 222, 3) := by decide +kernel
theorem dX10_comesSpan_20 : decode cX10_comesSpan 20 = .ok (.ifCond .ne 6, 3) := by decide +kernel
theorem dX10_comesSpan_23 : decode cX10_comesSpan 23 = .ok (.bipush (-9), 2) := by decide +kernel
theorem dX10_comesSpan_25 : decode cX10_comesSpan 25 = .ok (.ireturn, 1) := by decide +kernel
theorem dX10_comesSpan_26 : decode cX10_comesSpan 26 = .ok (.aload_n 0, 1) := by decide +kernel
theorem dX10_comesSpan_27 : decode cX10_comesSpan 27 = .ok (.iload_n 1, 1) := by decide +kernel
theorem dX10_comesSpan_28 : decode cX10_comesSpan 28 = .ok (.lload_n 2, 1) := by decide +kernel
theorem dX10_comesSpan_29 : decode cX10_comesSpan 29 = .ok (.lload 4, 2) := by decide +kernel
theorem dX10_comesSpan_31 : decode cX10_comesSpan 31 = .ok (.lload 6, 2) := by decide +kernel
theorem dX10_comesSpan_33 : decode cX10_comesSpan 33 = .ok (.invokevirtual 215, 3) := by decide +kernel
theorem dX10_comesSpan_36 : decode cX10_comesSpan 36 = .ok (.aload_n 0, 1) := by decide +kernel
theorem dX10_comesSpan_37 : decode cX10_comesSpan 37 = .ok (.iload_n 1, 1) := by decide +kernel
theorem dX10_comesSpan_38 : decode cX10_comesSpan 38 = .ok (.invokevirtual 219, 3) := by decide +kernel
theorem dX10_comesSpan_41 : decode cX10_comesSpan 41 = .ok (.lload_n 2, 1) := by decide +kernel
theorem dX10_comesSpan_42 : decode cX10_comesSpan 42 = .ok (.l2i, 1) := by decide +kernel
theorem dX10_comesSpan_43 : decode cX10_comesSpan 43 = .ok (.ireturn, 1) := by decide +kernel
theorem dX10_sum_0 : decode cX10_sum 0 = .ok (.aload_n 0, 1) := by decide +kernel
theorem dX10_sum_1 : decode cX10_sum 1 = .ok (.iconst 0, 1) := by decide +kernel
theorem dX10_sum_2 : decode cX10_sum 2 = .ok (.putfield 45, 3) := by decide +kernel
theorem dX10_sum_5 : decode cX10_sum 5 = .ok (.iload_n 1, 1) := by decide +kernel
theorem dX10_sum_6 : decode cX10_sum 6 = .ok (.invokestatic 179, 3) := by decide +kernel
theorem dX10_sum_9 : decode cX10_sum 9 = .ok (.ifCond .eq 17, 3) := by decide +kernel
theorem dX10_sum_12 : decode cX10_sum 12 = .ok (.iload_n 2, 1) := by decide +kernel
theorem dX10_sum_13 : decode cX10_sum 13 = .ok (.invokestatic 179, 3) := by decide +kernel
theorem dX10_sum_16 : decode cX10_sum 16 = .ok (.ifCond .eq 10, 3) := by decide +kernel
theorem dX10_sum_19 : decode cX10_sum 19 = .ok (.iload_n 3, 1) := by decide +kernel
theorem dX10_sum_20 : decode cX10_sum 20 = .ok (.invokestatic 179, 3) := by decide +kernel
theorem dX10_sum_23 : decode cX10_sum 23 = .ok (.ifCond .ne 5, 3) := by decide +kernel
theorem dX10_sum_26 : decode cX10_sum 26 = .ok (.iconst (-1), 1) := by decide +kernel
theorem dX10_sum_27 : decode cX10_sum 27 = .ok (.ireturn, 1) := by decide +kernel
theorem dX10_sum_28 : decode cX10_sum 28 = .ok (.aload_n 0, 1) := by decide +kernel
theorem dX10_sum_29 : decode cX10_sum 29 = .ok (.iload_n 3, 1) := by decide +kernel
theorem dX10_sum_30 : decode cX10_sum 30 = .ok (.aload_n 0, 1) := by decide +kernel
theorem dX10_sum_31 : decode cX10_sum 31 = .ok (.getfield 16, 3) := by decide +kernel
theorem dX10_sum_34 : decode cX10_sum 34 = .ok (.iconst 3, 1) := by decide +kernel
theorem dX10_sum_35 : decode cX10_sum 35 = .ok (.iload_n 1, 1) := by decide +kernel
theorem dX10_sum_36 : decode cX10_sum 36 = .ok (.imul, 1) := by decide +kernel
theorem dX10_sum_37 : decode cX10_sum 37 = .ok (.iaload, 1) := by decide +kernel
theorem dX10_sum_38 : decode cX10_sum 38 = .ok (.i2l, 1) := by decide +kernel
theorem dX10_sum_39 : decode cX10_sum 39 = .ok (.aload_n 0, 1) := by decide +kernel
theorem dX10_sum_40 : decode cX10_sum 40 = .ok (.getfield 16, 3) := by decide +kernel
theorem dX10_sum_43 : decode cX10_sum 43 = .ok (.iconst 3, 1) := by decide +kernel
theorem dX10_sum_44 : decode cX10_sum 44 = .ok (.iload_n 2, 1) := by decide +kernel
theorem dX10_sum_45 : decode cX10_sum 45 = .ok (.imul, 1) := by decide +kernel
theorem dX10_sum_46 : decode cX10_sum 46 = .ok (.iaload, 1) := by decide +kernel
theorem dX10_sum_47 : decode cX10_sum 47 = .ok (.i2l, 1) := by decide +kernel
theorem dX10_sum_48 : decode cX10_sum 48 = .ok (.ladd, 1) := by decide +kernel
theorem dX10_sum_49 : decode cX10_sum 49 = .ok (.aload_n 0, 1) := by decide +kernel
theorem dX10_sum_50 : decode cX10_sum 50 = .ok (.getfield 16, 3) := by decide +kernel
theorem dX10_sum_53 : decode cX10_sum 53 = .ok (.iconst 3, 1) := by decide +kernel
theorem dX10_sum_54 : decode cX10_sum 54 = .ok (.iload_n 1, 1) := by decide +kernel
theorem dX10_sum_55 : decode cX10_sum 55 = .ok (.imul, 1) := by decide +kernel
theorem dX10_sum_56 : decode cX10_sum 56 = .ok (.iconst 1, 1) := by decide +kernel
theorem dX10_sum_57 : decode cX10_sum 57 = .ok (.iadd, 1) := by decide +kernel
theorem dX10_sum_58 : decode cX10_sum 58 = .ok (.iaload, 1) := by decide +kernel
theorem dX10_sum_59 : decode cX10_sum 59 = .ok (.i2l, 1) := by decide +kernel
theorem dX10_sum_60 : decode cX10_sum 60 = .ok (.aload_n 0, 1) := by decide +kernel
theorem dX10_sum_61 : decode cX10_sum 61 = .ok (.getfield 16, 3) := by decide +kernel
theorem dX10_sum_64 : decode cX10_sum 64 = .ok (.iconst 3, 1) := by decide +kernel
theorem dX10_sum_65 : decode cX10_sum 65 = .ok (.iload_n 2, 1) := by decide +kernel
theorem dX10_sum_66 : decode cX10_sum 66 = .ok (.imul, 1) := by decide +kernel
theorem dX10_sum_67 : decode cX10_sum 67 = .ok (.iconst 1, 1) := by decide +kernel
theorem dX10_sum_68 : decode cX10_sum 68 = .ok (.iadd, 1) := by decide +kernel
theorem dX10_sum_69 : decode cX10_sum 69 = .ok (.iaload, 1) := by decide +kernel
theorem dX10_sum_70 : decode cX10_sum 70 = .ok (.i2l, 1) := by decide +kernel
theorem dX10_sum_71 : decode cX10_sum 71 = .ok (.ladd, 1) := by decide +kernel
theorem dX10_sum_72 : decode cX10_sum 72 = .ok (.aload_n 0, 1) := by decide +kernel
theorem dX10_sum_73 : decode cX10_sum 73 = .ok (.getfield 16, 3) := by decide +kernel
theorem dX10_sum_76 : decode cX10_sum 76 = .ok (.iconst 3, 1) := by decide +kernel
theorem dX10_sum_77 : decode cX10_sum 77 = .ok (.iload_n 1, 1) := by decide +kernel
theorem dX10_sum_78 : decode cX10_sum 78 = .ok (.imul, 1) := by decide +kernel
theorem dX10_sum_79 : decode cX10_sum 79 = .ok (.iconst 2, 1) := by decide +kernel
theorem dX10_sum_80 : decode cX10_sum 80 = .ok (.iadd, 1) := by decide +kernel
theorem dX10_sum_81 : decode cX10_sum 81 = .ok (.iaload, 1) := by decide +kernel
theorem dX10_sum_82 : decode cX10_sum 82 = .ok (.i2l, 1) := by decide +kernel
theorem dX10_sum_83 : decode cX10_sum 83 = .ok (.aload_n 0, 1) := by decide +kernel
theorem dX10_sum_84 : decode cX10_sum 84 = .ok (.getfield 16, 3) := by decide +kernel
theorem dX10_sum_87 : decode cX10_sum 87 = .ok (.iconst 3, 1) := by decide +kernel
theorem dX10_sum_88 : decode cX10_sum 88 = .ok (.iload_n 2, 1) := by decide +kernel
theorem dX10_sum_89 : decode cX10_sum 89 = .ok (.imul, 1) := by decide +kernel
theorem dX10_sum_90 : decode cX10_sum 90 = .ok (.iconst 2, 1) := by decide +kernel
theorem dX10_sum_91 : decode cX10_sum 91 = .ok (.iadd, 1) := by decide +kernel
theorem dX10_sum_92 : decode cX10_sum 92 = .ok (.iaload, 1) := by decide +kernel
theorem dX10_sum_93 : decode cX10_sum 93 = .ok (.i2l, 1) := by decide +kernel
theorem dX10_sum_94 : decode cX10_sum 94 = .ok (.ladd, 1) := by decide +kernel
theorem dX10_sum_95 : decode cX10_sum 95 = .ok (.invokevirtual 251, 3) := by decide +kernel
theorem dX10_sum_98 : decode cX10_sum 98 = .ok (.ireturn, 1) := by decide +kernel
theorem dX10_mult_0 : decode cX10_mult 0 = .ok (.aload_n 0, 1) := by decide +kernel
theorem dX10_mult_1 : decode cX10_mult 1 = .ok (.iconst 0, 1) := by decide +kernel
theorem dX10_mult_2 : decode cX10_mult 2 = .ok (.putfield 45, 3) := by decide +kernel
theorem dX10_mult_5 : decode cX10_mult 5 = .ok (.iload_n 1, 1) := by decide +kernel
theorem dX10_mult_6 : decode cX10_mult 6 = .ok (.invokestatic 179, 3) := by decide +kernel
theorem dX10_mult_9 : decode cX10_mult 9 = .ok (.ifCond .eq 10, 3) := by decide +kernel
theorem dX10_mult_12 : decode cX10_mult 12 = .ok (.iload_n 3, 1) := by decide +kernel
theorem dX10_mult_13 : decode cX10_mult 13 = .ok (.invokestatic 179, 3) := by decide +kernel
theorem dX10_mult_16 : decode cX10_mult 16 = .ok (.ifCond .ne 5, 3) := by decide +kernel
theorem dX10_mult_19 : decode cX10_mult 19 = .ok (.iconst (-1), 1) := by decide +kernel
theorem dX10_mult_20 : decode cX10_mult 20 = .ok (.ireturn, 1) := by decide +kernel
theorem dX10_mult_21 : decode cX10_mult 21 = .ok (.aload_n 0, 1) := by decide +kernel
theorem dX10_mult_22 : decode cX10_mult 22 = .ok (.iload_n 3, 1) := by decide +kernel
theorem dX10_mult_23 : decode cX10_mult 23 = .ok (.iload_n 2, 1) := by decide +kernel
theorem dX10_mult_24 : decode cX10_mult 24 = .ok (.i2l, 1) := by decide +kernel
theorem dX10_mult_25 : decode cX10_mult 25 = .ok (.aload_n 0, 1) := by decide +kernel
theorem dX10_mult_26 : decode cX10_mult 26 = .ok (.getfield 16, 3) := by decide +kernel
theorem dX10_mult_29 : decode cX10_mult 29 = .ok (.iconst 3, 1) := by decide +kernel
theorem dX10_mult_30 : decode cX10_mult 30 = .ok (.iload_n 1, 1) := by decide +kernel
theorem dX10_mult_31 : decode cX10_mult 31 = .ok (.imul, 1) := by decide +kernel
theorem dX10_mult_32 : decode cX10_mult 32 = .ok (.iaload, 1) := by decide +kernel
theorem dX10_mult_33 : decode cX10_mult 33 = .ok (.i2l, 1) := by decide +kernel
theorem dX10_mult_34 : decode cX10_mult 34 = .ok (.lmul, 1) := by decide +kernel
theorem dX10_mult_35 : decode cX10_mult 35 = .ok (.iload_n 2, 1) := by decide +kernel
theorem dX10_mult_36 : decode cX10_mult 36 = .ok (.i2l, 1) := by decide +kernel
theorem dX10_mult_37 : decode cX10_mult 37 = .ok (.aload_n 0, 1) := by decide +kernel
theorem dX10_mult_38 : decode cX10_mult 38 = .ok (.getfield 16, 3) := by decide +kernel
theorem dX10_mult_41 : decode cX10_mult 41 = .ok (.iconst 3, 1) := by decide +kernel
theorem dX10_mult_42 : decode cX10_mult 42 = .ok (.iload_n 1, 1) := by decide +kernel
theorem dX10_mult_43 : decode cX10_mult 43 = .ok (.imul, 1) := by decide +kernel
theorem dX10_mult_44 : decode cX10_mult 44 = .ok (.iconst 1, 1) := by decide +kernel
theorem dX10_mult_45 : decode cX10_mult 45 = .ok (.iadd, 1) := by decide +kernel
theorem dX10_mult_46 : decode cX10_mult 46 = .ok (.iaload, 1) := by decide +kernel
theorem dX10_mult_47 : decode cX10_mult 47 = .ok (.i2l, 1) := by decide +kernel
theorem dX10_mult_48 : decode cX10_mult 48 = .ok (.lmul, 1) := by decide +kernel
theorem dX10_mult_49 : decode cX10_mult 49 = .ok (.iload_n 2, 1) := by decide +kernel
theorem dX10_mult_50 : decode cX10_mult 50 = .ok (.i2l, 1) := by decide +kernel
theorem dX10_mult_51 : decode cX10_mult 51 = .ok (.aload_n 0, 1) := by decide +kernel
theorem dX10_mult_52 : decode cX10_mult 52 = .ok (.getfield 16, 3) := by decide +kernel
theorem dX10_mult_55 : decode cX10_mult 55 = .ok (.iconst 3, 1) := by decide +kernel
theorem dX10_mult_56 : decode cX10_mult 56 = .ok (.iload_n 1, 1) := by decide +kernel
theorem dX10_mult_57 : decode cX10_mult 57 = .ok (.imul, 1) := by decide +kernel
theorem dX10_mult_58 : decode cX10_mult 58 = .ok (.iconst 2, 1) := by decide +kernel
theorem dX10_mult_59 : decode cX10_mult 59 = .ok (.iadd, 1) := by decide +kernel
theorem dX10_mult_60 : decode cX10_mult 60 = .ok (.iaload, 1) := by decide +kernel
theorem dX10_mult_61 : decode cX10_mult 61 = .ok (.i2l, 1) := by decide +kernel
theorem dX10_mult_62 : decode cX10_mult 62 = .ok (.lmul, 1) := by decide +kernel
theorem dX10_mult_63 : decode cX10_mult 63 = .ok (.invokevirtual 251, 3) := by decide +kernel
theorem dX10_mult_66 : decode cX10_mult 66 = .ok (.ireturn, 1) := by decide +kernel
theorem dX10_turn_0 : decode cX10_turn 0 = .ok (.aload_n 0, 1) := by decide +kernel
theorem dX10_turn_1 : decode cX10_turn 1 = .ok (.iload_n 1, 1) := by decide +kernel
theorem dX10_turn_2 : decode cX10_turn 2 = .ok (.iconst (-1), 1) := by decide +kernel
theorem dX10_turn_3 : decode cX10_turn 3 = .ok (.iload_n 2, 1) := by decide +kernel
theorem dX10_turn_4 : decode cX10_turn 4 = .ok (.invokevirtual 255, 3) := by decide +kernel
theorem dX10_turn_7 : decode cX10_turn 7 = .ok (.ireturn, 1) := by decide +kernel
theorem dX10_even_0 : decode cX10_even 0 = .ok (.aload_n 0, 1) := by decide +kernel
theorem dX10_even_1 : decode cX10_even 1 = .ok (.iconst 0, 1) := by decide +kernel
theorem dX10_even_2 : decode cX10_even 2 = .ok (.putfield 45, 3) := by decide +kernel
theorem dX10_even_5 : decode cX10_even 5 = .ok (.iload_n 1, 1) := by decide +kernel
theorem dX10_even_6 : decode cX10_even 6 = .ok (.invokestatic 179, 3) := by decide +kernel
theorem dX10_even_9 : decode cX10_even 9 = .ok (.ifCond .eq 10, 3) := by decide +kernel
theorem dX10_even_12 : decode cX10_even 12 = .ok (.iload_n 2, 1) := by decide +kernel
theorem dX10_even_13 : decode cX10_even 13 = .ok (.invokestatic 179, 3) := by decide +kernel
theorem dX10_even_16 : decode cX10_even 16 = .ok (.ifCond .ne 5, 3) := by decide +kernel
theorem dX10_even_19 : decode cX10_even 19 = .ok (.iconst (-1), 1) := by decide +kernel
theorem dX10_even_20 : decode cX10_even 20 = .ok (.ireturn, 1) := by decide +kernel
theorem dX10_even_21 : decode cX10_even 21 = .ok (.aload_n 0, 1) := by decide +kernel
theorem dX10_even_22 : decode cX10_even 22 = .ok (.getfield 16, 3) := by decide +kernel
theorem dX10_even_25 : decode cX10_even 25 = .ok (.iconst 3, 1) := by decide +kernel
theorem dX10_even_26 : decode cX10_even 26 = .ok (.iload_n 1, 1) := by decide +kernel
theorem dX10_even_27 : decode cX10_even 27 = .ok (.imul, 1) := by decide +kernel
theorem dX10_even_28 : decode cX10_even 28 = .ok (.iconst 2, 1) := by decide +kernel
theorem dX10_even_29 : decode cX10_even 29 = .ok (.iadd, 1) := by decide +kernel
theorem dX10_even_30 : decode cX10_even 30 = .ok (.iaload, 1) := by decide +kernel
theorem dX10_even_31 : decode cX10_even 31 = .ok (.i2l, 1) := by decide +kernel
theorem dX10_even_32 : decode cX10_even 32 = .ok (.lstore_n 3, 1) := by decide +kernel
theorem dX10_even_33 : decode cX10_even 33 = .ok (.aload_n 0, 1) := by decide +kernel
theorem dX10_even_34 : decode cX10_even 34 = .ok (.iload_n 2, 1) := by decide +kernel
theorem dX10_even_35 : decode cX10_even 35 = .ok (.aload_n 0, 1) := by decide +kernel
theorem dX10_even_36 : decode cX10_even 36 = .ok (.getfield 16, 3) := by decide +kernel
theorem dX10_even_39 : decode cX10_even 39 = .ok (.iconst 3, 1) := by decide +kernel
theorem dX10_even_40 : decode cX10_even 40 = .ok (.iload_n 1, 1) := by decide +kernel
theorem dX10_even_41 : decode cX10_even 41 = .ok (.imul, 1) := by decide +kernel
theorem dX10_even_42 : decode cX10_even 42 = .ok (.iaload, 1) := by decide +kernel
theorem dX10_even_43 : decode cX10_even 43 = .ok (.i2l, 1) := by decide +kernel
theorem dX10_even_44 : decode cX10_even 44 = .ok (.aload_n 0, 1) := by decide +kernel
theorem dX10_even_45 : decode cX10_even 45 = .ok (.getfield 16, 3) := by decide +kernel
theorem dX10_even_48 : decode cX10_even 48 = .ok (.iconst 3, 1) := by decide +kernel
theorem dX10_even_49 : decode cX10_even 49 = .ok (.iload_n 1, 1) := by decide +kernel
theorem dX10_even_50 : decode cX10_even 50 = .ok (.imul, 1) := by decide +kernel
theorem dX10_even_51 : decode cX10_even 51 = .ok (.iconst 1, 1) := by decide +kernel
theorem dX10_even_52 : decode cX10_even 52 = .ok (.iadd, 1) := by decide +kernel
theorem dX10_even_53 : decode cX10_even 53 = .ok (.iaload, 1) := by decide +kernel
theorem dX10_even_54 : decode cX10_even 54 = .ok (.i2l, 1) := by decide +kernel
theorem dX10_even_55 : decode cX10_even 55 = .ok (.lload_n 3, 1) := by decide +kernel
theorem dX10_even_56 : decode cX10_even 56 = .ok (.ldc2_w 127, 3) := by decide +kernel
theorem dX10_even_59 : decode cX10_even 59 = .ok (.ldiv, 1) := by decide +kernel
theorem dX10_even_60 : decode cX10_even 60 = .ok (.ladd, 1) := by decide +kernel
theorem dX10_even_61 : decode cX10_even 61 = .ok (.lload_n 3, 1) := by decide +kernel
theorem dX10_even_62 : decode cX10_even 62 = .ok (.ldc2_w 127, 3) := by decide +kernel
theorem dX10_even_65 : decode cX10_even 65 = .ok (.lrem, 1) := by decide +kernel
theorem dX10_even_66 : decode cX10_even 66 = .ok (.invokevirtual 251, 3) := by decide +kernel
theorem dX10_even_69 : decode cX10_even 69 = .ok (.ireturn, 1) := by decide +kernel
theorem dX10_findsMonths_0 : decode cX10_findsMonths 0 = .ok (.aload_n 0, 1) := by decide +kernel
theorem dX10_findsMonths_1 : decode cX10_findsMonths 1 = .ok (.iload_n 1, 1) := by decide +kernel
theorem dX10_findsMonths_2 : decode cX10_findsMonths 2 = .ok (.invokevirtual 97, 3) := by decide +kernel
theorem dX10_findsMonths_5 : decode cX10_findsMonths 5 = .ok (.ldc2_w 107, 3) := by decide +kernel
theorem dX10_findsMonths_8 : decode cX10_findsMonths 8 = .ok (.aload_n 0, 1) := by decide +kernel
theorem dX10_findsMonths_9 : decode cX10_findsMonths 9 = .ok (.getfield 84, 3) := by decide +kernel
theorem dX10_findsMonths_12 : decode cX10_findsMonths 12 = .ok (.i2l, 1) := by decide +kernel
theorem dX10_findsMonths_13 : decode cX10_findsMonths 13 = .ok (.lmul, 1) := by decide +kernel
theorem dX10_findsMonths_14 : decode cX10_findsMonths 14 = .ok (.aload_n 0, 1) := by decide +kernel
theorem dX10_findsMonths_15 : decode cX10_findsMonths 15 = .ok (.getfield 87, 3) := by decide +kernel
theorem dX10_findsMonths_18 : decode cX10_findsMonths 18 = .ok (.i2l, 1) := by decide +kernel
theorem dX10_findsMonths_19 : decode cX10_findsMonths 19 = .ok (.ladd, 1) := by decide +kernel
theorem dX10_findsMonths_20 : decode cX10_findsMonths 20 = .ok (.lstore 7, 2) := by decide +kernel
theorem dX10_findsMonths_22 : decode cX10_findsMonths 22 = .ok (.aload_n 0, 1) := by decide +kernel
theorem dX10_findsMonths_23 : decode cX10_findsMonths 23 = .ok (.lload_n 3, 1) := by decide +kernel
theorem dX10_findsMonths_24 : decode cX10_findsMonths 24 = .ok (.ldc2_w 127, 3) := by decide +kernel
theorem dX10_findsMonths_27 : decode cX10_findsMonths 27 = .ok (.ldiv, 1) := by decide +kernel
theorem dX10_findsMonths_28 : decode cX10_findsMonths 28 = .ok (.l2i, 1) := by decide +kernel
theorem dX10_findsMonths_29 : decode cX10_findsMonths 29 = .ok (.invokevirtual 97, 3) := by decide +kernel
theorem dX10_findsMonths_32 : decode cX10_findsMonths 32 = .ok (.ldc2_w 107, 3) := by decide +kernel
theorem dX10_findsMonths_35 : decode cX10_findsMonths 35 = .ok (.aload_n 0, 1) := by decide +kernel
theorem dX10_findsMonths_36 : decode cX10_findsMonths 36 = .ok (.getfield 84, 3) := by decide +kernel
theorem dX10_findsMonths_39 : decode cX10_findsMonths 39 = .ok (.i2l, 1) := by decide +kernel
theorem dX10_findsMonths_40 : decode cX10_findsMonths 40 = .ok (.lmul, 1) := by decide +kernel
theorem dX10_findsMonths_41 : decode cX10_findsMonths 41 = .ok (.aload_n 0, 1) := by decide +kernel
theorem dX10_findsMonths_42 : decode cX10_findsMonths 42 = .ok (.getfield 87, 3) := by decide +kernel
theorem dX10_findsMonths_45 : decode cX10_findsMonths 45 = .ok (.i2l, 1) := by decide +kernel
theorem dX10_findsMonths_46 : decode cX10_findsMonths 46 = .ok (.ladd, 1) := by decide +kernel
theorem dX10_findsMonths_47 : decode cX10_findsMonths 47 = .ok (.lload 7, 2) := by decide +kernel
theorem dX10_findsMonths_49 : decode cX10_findsMonths 49 = .ok (.lsub, 1) := by decide +kernel
theorem dX10_findsMonths_50 : decode cX10_findsMonths 50 = .ok (.lstore 9, 2) := by decide +kernel
theorem dX10_findsMonths_52 : decode cX10_findsMonths 52 = .ok (.lload_n 3, 1) := by decide +kernel
theorem dX10_findsMonths_53 : decode cX10_findsMonths 53 = .ok (.iload_n 1, 1) := by decide +kernel
theorem dX10_findsMonths_54 : decode cX10_findsMonths 54 = .ok (.i2l, 1) := by decide +kernel
theorem dX10_findsMonths_55 : decode cX10_findsMonths 55 = .ok (.ldc2_w 127, 3) := by decide +kernel
theorem dX10_findsMonths_58 : decode cX10_findsMonths 58 = .ok (.lmul, 1) := by decide +kernel
theorem dX10_findsMonths_59 : decode cX10_findsMonths 59 = .ok (.iload_n 2, 1) := by decide +kernel
theorem dX10_findsMonths_60 : decode cX10_findsMonths 60 = .ok (.i2l, 1) := by decide +kernel
theorem dX10_findsMonths_61 : decode cX10_findsMonths 61 = .ok (.ladd, 1) := by decide +kernel
theorem dX10_findsMonths_62 : decode cX10_findsMonths 62 = .ok (.lcmp, 1) := by decide +kernel
theorem dX10_findsMonths_63 : decode cX10_findsMonths 63 = .ok (.ifCond .ge 7, 3) := by decide +kernel
theorem dX10_findsMonths_66 : decode cX10_findsMonths 66 = .ok (.iconst 1, 1) := by decide +kernel
theorem dX10_findsMonths_67 : decode cX10_findsMonths 67 = .ok (.goto 4, 3) := by decide +kernel
theorem dX10_findsMonths_70 : decode cX10_findsMonths 70 = .ok (.iconst 0, 1) := by decide +kernel
theorem dX10_findsMonths_71 : decode cX10_findsMonths 71 = .ok (.istore 11, 2) := by decide +kernel
theorem dX10_findsMonths_73 : decode cX10_findsMonths 73 = .ok (.lload 9, 2) := by decide +kernel
theorem dX10_findsMonths_75 : decode cX10_findsMonths 75 = .ok (.iload 11, 2) := by decide +kernel
theorem dX10_findsMonths_77 : decode cX10_findsMonths 77 = .ok (.ifCond .eq 8, 3) := by decide +kernel
theorem dX10_findsMonths_80 : decode cX10_findsMonths 80 = .ok (.bipush (-2), 2) := by decide +kernel
theorem dX10_findsMonths_82 : decode cX10_findsMonths 82 = .ok (.goto 4, 3) := by decide +kernel
theorem dX10_findsMonths_85 : decode cX10_findsMonths 85 = .ok (.iconst 2, 1) := by decide +kernel
theorem dX10_findsMonths_86 : decode cX10_findsMonths 86 = .ok (.i2l, 1) := by decide +kernel
theorem dX10_findsMonths_87 : decode cX10_findsMonths 87 = .ok (.ladd, 1) := by decide +kernel
theorem dX10_findsMonths_88 : decode cX10_findsMonths 88 = .ok (.iload 6, 2) := by decide +kernel
theorem dX10_findsMonths_90 : decode cX10_findsMonths 90 = .ok (.i2l, 1) := by decide +kernel
theorem dX10_findsMonths_91 : decode cX10_findsMonths 91 = .ok (.ldiv, 1) := by decide +kernel
theorem dX10_findsMonths_92 : decode cX10_findsMonths 92 = .ok (.iload 6, 2) := by decide +kernel
theorem dX10_findsMonths_94 : decode cX10_findsMonths 94 = .ok (.i2l, 1) := by decide +kernel
theorem dX10_findsMonths_95 : decode cX10_findsMonths 95 = .ok (.lmul, 1) := by decide +kernel
theorem dX10_findsMonths_96 : decode cX10_findsMonths 96 = .ok (.lstore 12, 2) := by decide +kernel
theorem dX10_findsMonths_98 : decode cX10_findsMonths 98 = .ok (.iconst 0, 1) := by decide +kernel
theorem dX10_findsMonths_99 : decode cX10_findsMonths 99 = .ok (.istore 14, 2) := by decide +kernel
theorem dX10_findsMonths_101 : decode cX10_findsMonths 101 = .ok (.iload 14, 2) := by decide +kernel
theorem dX10_findsMonths_103 : decode cX10_findsMonths 103 = .ok (.ifCond .ne 113, 3) := by decide +kernel
theorem dX10_findsMonths_106 : decode cX10_findsMonths 106 = .ok (.iload 11, 2) := by decide +kernel
theorem dX10_findsMonths_108 : decode cX10_findsMonths 108 = .ok (.ifCond .eq 13, 3) := by decide +kernel
theorem dX10_findsMonths_111 : decode cX10_findsMonths 111 = .ok (.lload 12, 2) := by decide +kernel
theorem dX10_findsMonths_113 : decode cX10_findsMonths 113 = .ok (.lconst 0, 1) := by decide +kernel
theorem dX10_findsMonths_114 : decode cX10_findsMonths 114 = .ok (.lcmp, 1) := by decide +kernel
theorem dX10_findsMonths_115 : decode cX10_findsMonths 115 = .ok (.ifCond .lt 16, 3) := by decide +kernel
theorem dX10_findsMonths_118 : decode cX10_findsMonths 118 = .ok (.goto 10, 3) := by decide +kernel
theorem dX10_findsMonths_121 : decode cX10_findsMonths 121 = .ok (.lload 12, 2) := by decide +kernel
theorem dX10_findsMonths_123 : decode cX10_findsMonths 123 = .ok (.lconst 0, 1) := by decide +kernel
theorem dX10_findsMonths_124 : decode cX10_findsMonths 124 = .ok (.lcmp, 1) := by decide +kernel
theorem dX10_findsMonths_125 : decode cX10_findsMonths 125 = .ok (.ifCond .gt 6, 3) := by decide +kernel
theorem dX10_findsMonths_128 : decode cX10_findsMonths 128 = .ok (.lconst 0, 1) := by decide +kernel
theorem dX10_findsMonths_129 : decode cX10_findsMonths 129 = .ok (.lstore 12, 2) := by decide +kernel
theorem dX10_findsMonths_131 : decode cX10_findsMonths 131 = .ok (.aload_n 0, 1) := by decide +kernel
theorem dX10_findsMonths_132 : decode cX10_findsMonths 132 = .ok (.iload_n 1, 1) := by decide +kernel
theorem dX10_findsMonths_133 : decode cX10_findsMonths 133 = .ok (.iload_n 2, 1) := by decide +kernel
theorem dX10_findsMonths_134 : decode cX10_findsMonths 134 = .ok (.invokevirtual 146, 3) := by decide +kernel
theorem dX10_findsMonths_137 : decode cX10_findsMonths 137 = .ok (.lload 12, 2) := by decide +kernel
theorem dX10_findsMonths_139 : decode cX10_findsMonths 139 = .ok (.lconst 0, 1) := by decide +kernel
theorem dX10_findsMonths_140 : decode cX10_findsMonths 140 = .ok (.lcmp, 1) := by decide +kernel
theorem dX10_findsMonths_141 : decode cX10_findsMonths 141 = .ok (.ifCond .eq 40, 3) := by decide +kernel
theorem dX10_findsMonths_144 : decode cX10_findsMonths 144 = .ok (.aload_n 0, 1) := by decide +kernel
theorem dX10_findsMonths_145 : decode cX10_findsMonths 145 = .ok (.lload 12, 2) := by decide +kernel
theorem dX10_findsMonths_147 : decode cX10_findsMonths 147 = .ok (.iload 5, 2) := by decide +kernel
theorem dX10_findsMonths_149 : decode cX10_findsMonths 149 = .ok (.invokevirtual 132, 3) := by decide +kernel
theorem dX10_findsMonths_152 : decode cX10_findsMonths 152 = .ok (.ifCond .eq 33, 3) := by decide +kernel
theorem dX10_findsMonths_155 : decode cX10_findsMonths 155 = .ok (.iload 11, 2) := by decide +kernel
theorem dX10_findsMonths_157 : decode cX10_findsMonths 157 = .ok (.ifCond .eq 15, 3) := by decide +kernel
theorem dX10_findsMonths_160 : decode cX10_findsMonths 160 = .ok (.aload_n 0, 1) := by decide +kernel
theorem dX10_findsMonths_161 : decode cX10_findsMonths 161 = .ok (.invokevirtual 258, 3) := by decide +kernel
theorem dX10_findsMonths_164 : decode cX10_findsMonths 164 = .ok (.lload_n 3, 1) := by decide +kernel
theorem dX10_findsMonths_165 : decode cX10_findsMonths 165 = .ok (.lcmp, 1) := by decide +kernel
theorem dX10_findsMonths_166 : decode cX10_findsMonths 166 = .ok (.ifCond .lt 19, 3) := by decide +kernel
theorem dX10_findsMonths_169 : decode cX10_findsMonths 169 = .ok (.goto 12, 3) := by decide +kernel
theorem dX10_findsMonths_172 : decode cX10_findsMonths 172 = .ok (.aload_n 0, 1) := by decide +kernel
theorem dX10_findsMonths_173 : decode cX10_findsMonths 173 = .ok (.invokevirtual 258, 3) := by decide +kernel
theorem dX10_findsMonths_176 : decode cX10_findsMonths 176 = .ok (.lload_n 3, 1) := by decide +kernel
theorem dX10_findsMonths_177 : decode cX10_findsMonths 177 = .ok (.lcmp, 1) := by decide +kernel
theorem dX10_findsMonths_178 : decode cX10_findsMonths 178 = .ok (.ifCond .gt 7, 3) := by decide +kernel
theorem dX10_findsMonths_181 : decode cX10_findsMonths 181 = .ok (.iconst 1, 1) := by decide +kernel
theorem dX10_findsMonths_182 : decode cX10_findsMonths 182 = .ok (.goto 4, 3) := by decide +kernel
theorem dX10_findsMonths_185 : decode cX10_findsMonths 185 = .ok (.iconst 0, 1) := by decide +kernel
theorem dX10_findsMonths_186 : decode cX10_findsMonths 186 = .ok (.istore 14, 2) := by decide +kernel
theorem dX10_findsMonths_188 : decode cX10_findsMonths 188 = .ok (.iload 14, 2) := by decide +kernel
theorem dX10_findsMonths_190 : decode cX10_findsMonths 190 = .ok (.ifCond .ne (-89), 3) := by decide +kernel
theorem dX10_findsMonths_193 : decode cX10_findsMonths 193 = .ok (.lload 12, 2) := by decide +kernel
theorem dX10_findsMonths_195 : decode cX10_findsMonths 195 = .ok (.iload 11, 2) := by decide +kernel
theorem dX10_findsMonths_197 : decode cX10_findsMonths 197 = .ok (.ifCond .eq 9, 3) := by decide +kernel
theorem dX10_findsMonths_200 : decode cX10_findsMonths 200 = .ok (.iload 6, 2) := by decide +kernel
theorem dX10_findsMonths_202 : decode cX10_findsMonths 202 = .ok (.i2l, 1) := by decide +kernel
theorem dX10_findsMonths_203 : decode cX10_findsMonths 203 = .ok (.goto 7, 3) := by decide +kernel
theorem dX10_findsMonths_206 : decode cX10_findsMonths 206 = .ok (.iload 6, 2) := by decide +kernel
theorem dX10_findsMonths_208 : decode cX10_findsMonths 208 = .ok (.ineg, 1) := by decide +kernel
theorem dX10_findsMonths_209 : decode cX10_findsMonths 209 = .ok (.i2l, 1) := by decide +kernel
theorem dX10_findsMonths_210 : decode cX10_findsMonths 210 = .ok (.ladd, 1) := by decide +kernel
theorem dX10_findsMonths_211 : decode cX10_findsMonths 211 = .ok (.lstore 12, 2) := by decide +kernel
theorem dX10_findsMonths_213 : decode cX10_findsMonths 213 = .ok (.goto (-112), 3) := by decide +kernel
theorem dX10_findsMonths_216 : decode cX10_findsMonths 216 = .ok (.aload_n 0, 1) := by decide +kernel
theorem dX10_findsMonths_217 : decode cX10_findsMonths 217 = .ok (.lload 12, 2) := by decide +kernel
theorem dX10_findsMonths_219 : decode cX10_findsMonths 219 = .ok (.putfield 262, 3) := by decide +kernel
theorem dX10_findsMonths_222 : decode cX10_findsMonths 222 = .ok (.return_, 1) := by decide +kernel
theorem dX10_differs_0 : decode cX10_differs 0 = .ok (.iload 6, 2) := by decide +kernel
theorem dX10_differs_2 : decode cX10_differs 2 = .ok (.iconst 2, 1) := by decide +kernel
theorem dX10_differs_3 : decode cX10_differs 3 = .ok (.iand, 1) := by decide +kernel
theorem dX10_differs_4 : decode cX10_differs 4 = .ok (.iconst 2, 1) := by decide +kernel
theorem dX10_differs_5 : decode cX10_differs 5 = .ok (.if_icmp .ne 7, 3) := by decide +kernel
theorem dX10_differs_8 : decode cX10_differs 8 = .ok (.iconst 1, 1) := by decide +kernel
theorem dX10_differs_9 : decode cX10_differs 9 = .ok (.goto 17, 3) := by decide +kernel
theorem dX10_differs_12 : decode cX10_differs 12 = .ok (.iload 6, 2) := by decide +kernel
theorem dX10_differs_14 : decode cX10_differs 14 = .ok (.iconst 1, 1) := by decide +kernel
theorem dX10_differs_15 : decode cX10_differs 15 = .ok (.iand, 1) := by decide +kernel
theorem dX10_differs_16 : decode cX10_differs 16 = .ok (.iconst 1, 1) := by decide +kernel
theorem dX10_differs_17 : decode cX10_differs 17 = .ok (.if_icmp .ne 8, 3) := by decide +kernel
theorem dX10_differs_20 : decode cX10_differs 20 = .ok (.bipush 12, 2) := by decide +kernel
theorem dX10_differs_22 : decode cX10_differs 22 = .ok (.goto 4, 3) := by decide +kernel
theorem dX10_differs_25 : decode cX10_differs 25 = .ok (.iconst 0, 1) := by decide +kernel
theorem dX10_differs_26 : decode cX10_differs 26 = .ok (.istore 7, 2) := by decide +kernel
theorem dX10_differs_28 : decode cX10_differs 28 = .ok (.aload_n 0, 1) := by decide +kernel
theorem dX10_differs_29 : decode cX10_differs 29 = .ok (.lconst 0, 1) := by decide +kernel
theorem dX10_differs_30 : decode cX10_differs 30 = .ok (.putfield 262, 3) := by decide +kernel
theorem dX10_differs_33 : decode cX10_differs 33 = .ok (.aload_n 0, 1) := by decide +kernel
theorem dX10_differs_34 : decode cX10_differs 34 = .ok (.iload_n 1, 1) := by decide +kernel
theorem dX10_differs_35 : decode cX10_differs 35 = .ok (.iload_n 2, 1) := by decide +kernel
theorem dX10_differs_36 : decode cX10_differs 36 = .ok (.invokevirtual 146, 3) := by decide +kernel
theorem dX10_differs_39 : decode cX10_differs 39 = .ok (.iload 7, 2) := by decide +kernel
theorem dX10_differs_41 : decode cX10_differs 41 = .ok (.ifCond .le 14, 3) := by decide +kernel
theorem dX10_differs_44 : decode cX10_differs 44 = .ok (.aload_n 0, 1) := by decide +kernel
theorem dX10_differs_45 : decode cX10_differs 45 = .ok (.iload_n 1, 1) := by decide +kernel
theorem dX10_differs_46 : decode cX10_differs 46 = .ok (.iload_n 2, 1) := by decide +kernel
theorem dX10_differs_47 : decode cX10_differs 47 = .ok (.lload_n 3, 1) := by decide +kernel
theorem dX10_differs_48 : decode cX10_differs 48 = .ok (.iload 5, 2) := by decide +kernel
theorem dX10_differs_50 : decode cX10_differs 50 = .ok (.iload 7, 2) := by decide +kernel
theorem dX10_differs_52 : decode cX10_differs 52 = .ok (.invokevirtual 266, 3) := by decide +kernel
theorem dX10_differs_55 : decode cX10_differs 55 = .ok (.return_, 1) := by decide +kernel
theorem dX10_between_0 : decode cX10_between 0 = .ok (.aload_n 0, 1) := by decide +kernel
theorem dX10_between_1 : decode cX10_between 1 = .ok (.iconst 0, 1) := by decide +kernel
theorem dX10_between_2 : decode cX10_between 2 = .ok (.putfield 45, 3) := by decide +kernel
theorem dX10_between_5 : decode cX10_between 5 = .ok (.iload_n 1, 1) := by decide +kernel
theorem dX10_between_6 : decode cX10_between 6 = .ok (.invokestatic 179, 3) := by decide +kernel
theorem dX10_between_9 : decode cX10_between 9 = .ok (.ifCond .eq 38, 3) := by decide +kernel
theorem dX10_between_12 : decode cX10_between 12 = .ok (.iload_n 2, 1) := by decide +kernel
theorem dX10_between_13 : decode cX10_between 13 = .ok (.invokestatic 179, 3) := by decide +kernel
theorem dX10_between_16 : decode cX10_between 16 = .ok (.ifCond .eq 31, 3) := by decide +kernel
theorem dX10_between_19 : decode cX10_between 19 = .ok (.iload_n 3, 1) := by decide +kernel
theorem dX10_between_20 : decode cX10_between 20 = .ok (.invokestatic 236, 3) := by decide +kernel
theorem dX10_between_23 : decode cX10_between 23 = .ok (.ifCond .eq 24, 3) := by decide +kernel
theorem dX10_between_26 : decode cX10_between 26 = .ok (.iload 4, 2) := by decide +kernel
theorem dX10_between_28 : decode cX10_between 28 = .ok (.i2l, 1) := by decide +kernel
theorem dX10_between_29 : decode cX10_between 29 = .ok (.lconst 1, 1) := by decide +kernel
theorem dX10_between_30 : decode cX10_between 30 = .ok (.ldc2_w 52, 3) := by decide +kernel
theorem dX10_between_33 : decode cX10_between 33 = .ok (.invokestatic 54, 3) := by decide +kernel
theorem dX10_between_36 : decode cX10_between 36 = .ok (.ifCond .eq 11, 3) := by decide +kernel
theorem dX10_between_39 : decode cX10_between 39 = .ok (.iload 5, 2) := by decide +kernel
theorem dX10_between_41 : decode cX10_between 41 = .ok (.invokestatic 179, 3) := by decide +kernel
theorem dX10_between_44 : decode cX10_between 44 = .ok (.ifCond .ne 5, 3) := by decide +kernel
theorem dX10_between_47 : decode cX10_between 47 = .ok (.iconst (-1), 1) := by decide +kernel
theorem dX10_between_48 : decode cX10_between 48 = .ok (.ireturn, 1) := by decide +kernel
theorem dX10_between_49 : decode cX10_between 49 = .ok (.aload_n 0, 1) := by decide +kernel
theorem dX10_between_50 : decode cX10_between 50 = .ok (.iload_n 2, 1) := by decide +kernel
theorem dX10_between_51 : decode cX10_between 51 = .ok (.invokevirtual 270, 3) := by decide +kernel
theorem dX10_between_54 : decode cX10_between 54 = .ok (.lstore 6, 2) := by decide +kernel
theorem dX10_between_56 : decode cX10_between 56 = .ok (.aload_n 0, 1) := by decide +kernel
theorem dX10_between_57 : decode cX10_between 57 = .ok (.getfield 9, 3) := by decide +kernel
theorem dX10_between_60 : decode cX10_between 60 = .ok (.iload_n 1, 1) := by decide +kernel
theorem dX10_between_61 : decode cX10_between 61 = .ok (.iaload, 1) := by decide +kernel
theorem dX10_between_62 : decode cX10_between 62 = .ok (.istore 8, 2) := by decide +kernel
theorem dX10_between_64 : decode cX10_between 64 = .ok (.aload_n 0, 1) := by decide +kernel
theorem dX10_between_65 : decode cX10_between 65 = .ok (.getfield 13, 3) := by decide +kernel
theorem dX10_between_68 : decode cX10_between 68 = .ok (.iload_n 1, 1) := by decide +kernel
theorem dX10_between_69 : decode cX10_between 69 = .ok (.iaload, 1) := by decide +kernel
theorem dX10_between_70 : decode cX10_between 70 = .ok (.istore 9, 2) := by decide +kernel
theorem dX10_between_72 : decode cX10_between 72 = .ok (.aload_n 0, 1) := by decide +kernel
theorem dX10_between_73 : decode cX10_between 73 = .ok (.iload 8, 2) := by decide +kernel
theorem dX10_between_75 : decode cX10_between 75 = .ok (.iload 9, 2) := by decide +kernel
theorem dX10_between_77 : decode cX10_between 77 = .ok (.lload 6, 2) := by decide +kernel
theorem dX10_between_79 : decode cX10_between 79 = .ok (.iload_n 3, 1) := by decide +kernel
theorem dX10_between_80 : decode cX10_between 80 = .ok (.iload 4, 2) := by decide +kernel
theorem dX10_between_82 : decode cX10_between 82 = .ok (.invokevirtual 274, 3) := by decide +kernel
theorem dX10_between_85 : decode cX10_between 85 = .ok (.lload 6, 2) := by decide +kernel
theorem dX10_between_87 : decode cX10_between 87 = .ok (.aload_n 0, 1) := by decide +kernel
theorem dX10_between_88 : decode cX10_between 88 = .ok (.invokevirtual 258, 3) := by decide +kernel
theorem dX10_between_91 : decode cX10_between 91 = .ok (.lsub, 1) := by decide +kernel
theorem dX10_between_92 : decode cX10_between 92 = .ok (.lstore 10, 2) := by decide +kernel
theorem dX10_between_94 : decode cX10_between 94 = .ok (.iload 4, 2) := by decide +kernel
theorem dX10_between_96 : decode cX10_between 96 = .ok (.iconst 4, 1) := by decide +kernel
theorem dX10_between_97 : decode cX10_between 97 = .ok (.iand, 1) := by decide +kernel
theorem dX10_between_98 : decode cX10_between 98 = .ok (.iconst 4, 1) := by decide +kernel
theorem dX10_between_99 : decode cX10_between 99 = .ok (.if_icmp .ne 12, 3) := by decide +kernel
theorem dX10_between_102 : decode cX10_between 102 = .ok (.lload 10, 2) := by decide +kernel
theorem dX10_between_104 : decode cX10_between 104 = .ok (.ldc2_w 127, 3) := by decide +kernel
theorem dX10_between_107 : decode cX10_between 107 = .ok (.ldiv, 1) := by decide +kernel
theorem dX10_between_108 : decode cX10_between 108 = .ok (.goto 4, 3) := by decide +kernel
theorem dX10_between_111 : decode cX10_between 111 = .ok (.lconst 0, 1) := by decide +kernel
theorem dX10_between_112 : decode cX10_between 112 = .ok (.lstore 12, 2) := by decide +kernel
theorem dX10_between_114 : decode cX10_between 114 = .ok (.lload 10, 2) := by decide +kernel
theorem dX10_between_116 : decode cX10_between 116 = .ok (.ldc2_w 127, 3) := by decide +kernel
theorem dX10_between_119 : decode cX10_between 119 = .ok (.lload 12, 2) := by decide +kernel
theorem dX10_between_121 : decode cX10_between 121 = .ok (.lmul, 1) := by decide +kernel
theorem dX10_between_122 : decode cX10_between 122 = .ok (.lsub, 1) := by decide +kernel
theorem dX10_between_123 : decode cX10_between 123 = .ok (.lstore 14, 2) := by decide +kernel
theorem dX10_between_125 : decode cX10_between 125 = .ok (.lload 14, 2) := by decide +kernel
theorem dX10_between_127 : decode cX10_between 127 = .ok (.invokestatic 222, 3) := by decide +kernel
theorem dX10_between_130 : decode cX10_between 130 = .ok (.ifCond .ne 6, 3) := by decide +kernel
theorem dX10_between_133 : decode cX10_between 133 = .ok (.bipush (-9), 2) := by decide +kernel
theorem dX10_between_135 : decode cX10_between 135 = .ok (.ireturn, 1) := by decide +kernel
theorem dX10_between_136 : decode cX10_between 136 = .ok (.aload_n 0, 1) := by decide +kernel
theorem dX10_between_137 : decode cX10_between 137 = .ok (.iload_n 2, 1) := by decide +kernel
theorem dX10_between_138 : decode cX10_between 138 = .ok (.invokevirtual 242, 3) := by decide +kernel
theorem dX10_between_141 : decode cX10_between 141 = .ok (.aload_n 0, 1) := by decide +kernel
theorem dX10_between_142 : decode cX10_between 142 = .ok (.aload_n 0, 1) := by decide +kernel
theorem dX10_between_143 : decode cX10_between 143 = .ok (.getfield 262, 3) := by decide +kernel
theorem dX10_between_146 : decode cX10_between 146 = .ok (.lneg, 1) := by decide +kernel
theorem dX10_between_147 : decode cX10_between 147 = .ok (.lload 12, 2) := by decide +kernel
theorem dX10_between_149 : decode cX10_between 149 = .ok (.lneg, 1) := by decide +kernel
theorem dX10_between_150 : decode cX10_between 150 = .ok (.lload 14, 2) := by decide +kernel
theorem dX10_between_152 : decode cX10_between 152 = .ok (.lneg, 1) := by decide +kernel
theorem dX10_between_153 : decode cX10_between 153 = .ok (.iload_n 3, 1) := by decide +kernel
theorem dX10_between_154 : decode cX10_between 154 = .ok (.iconst 0, 1) := by decide +kernel
theorem dX10_between_155 : decode cX10_between 155 = .ok (.invokevirtual 142, 3) := by decide +kernel
theorem dX10_between_158 : decode cX10_between 158 = .ok (.ifCond .eq 25, 3) := by decide +kernel
theorem dX10_between_161 : decode cX10_between 161 = .ok (.aload_n 0, 1) := by decide +kernel
theorem dX10_between_162 : decode cX10_between 162 = .ok (.getfield 104, 3) := by decide +kernel
theorem dX10_between_165 : decode cX10_between 165 = .ok (.iload 8, 2) := by decide +kernel
theorem dX10_between_167 : decode cX10_between 167 = .ok (.if_icmp .ne 16, 3) := by decide +kernel
theorem dX10_between_170 : decode cX10_between 170 = .ok (.aload_n 0, 1) := by decide +kernel
theorem dX10_between_171 : decode cX10_between 171 = .ok (.getfield 129, 3) := by decide +kernel
theorem dX10_between_174 : decode cX10_between 174 = .ok (.iload 9, 2) := by decide +kernel
theorem dX10_between_176 : decode cX10_between 176 = .ok (.if_icmp .ne 7, 3) := by decide +kernel
theorem dX10_between_179 : decode cX10_between 179 = .ok (.iconst 1, 1) := by decide +kernel
theorem dX10_between_180 : decode cX10_between 180 = .ok (.goto 4, 3) := by decide +kernel
theorem dX10_between_183 : decode cX10_between 183 = .ok (.iconst 0, 1) := by decide +kernel
theorem dX10_between_184 : decode cX10_between 184 = .ok (.istore 16, 2) := by decide +kernel
theorem dX10_between_186 : decode cX10_between 186 = .ok (.aload_n 0, 1) := by decide +kernel
theorem dX10_between_187 : decode cX10_between 187 = .ok (.iload 5, 2) := by decide +kernel
theorem dX10_between_189 : decode cX10_between 189 = .ok (.aload_n 0, 1) := by decide +kernel
theorem dX10_between_190 : decode cX10_between 190 = .ok (.getfield 262, 3) := by decide +kernel
theorem dX10_between_193 : decode cX10_between 193 = .ok (.lload 12, 2) := by decide +kernel
theorem dX10_between_195 : decode cX10_between 195 = .ok (.lload 14, 2) := by decide +kernel
theorem dX10_between_197 : decode cX10_between 197 = .ok (.invokevirtual 215, 3) := by decide +kernel
theorem dX10_between_200 : decode cX10_between 200 = .ok (.aload_n 0, 1) := by decide +kernel
theorem dX10_between_201 : decode cX10_between 201 = .ok (.iload 5, 2) := by decide +kernel
theorem dX10_between_203 : decode cX10_between 203 = .ok (.invokevirtual 219, 3) := by decide +kernel
theorem dX10_between_206 : decode cX10_between 206 = .ok (.aload_n 0, 1) := by decide +kernel
theorem dX10_between_207 : decode cX10_between 207 = .ok (.iload 16, 2) := by decide +kernel
theorem dX10_between_209 : decode cX10_between 209 = .ok (.ifCond .eq 7, 3) := by decide +kernel
theorem dX10_between_212 : decode cX10_between 212 = .ok (.lconst 1, 1) := by decide +kernel
theorem dX10_between_213 : decode cX10_between 213 = .ok (.goto 4, 3) := by decide +kernel
theorem dX10_between_216 : decode cX10_between 216 = .ok (.lconst 0, 1) := by decide +kernel
theorem dX10_between_217 : decode cX10_between 217 = .ok (.invokevirtual 208, 3) := by decide +kernel
theorem dX10_between_220 : decode cX10_between 220 = .ok (.aload_n 0, 1) := by decide +kernel
theorem dX10_between_221 : decode cX10_between 221 = .ok (.getfield 262, 3) := by decide +kernel
theorem dX10_between_224 : decode cX10_between 224 = .ok (.l2i, 1) := by decide +kernel
theorem dX10_between_225 : decode cX10_between 225 = .ok (.ireturn, 1) := by decide +kernel
theorem dX10_sizeOf_0 : decode cX10_sizeOf 0 = .ok (.lload_n 0, 1) := by decide +kernel
theorem dX10_sizeOf_1 : decode cX10_sizeOf 1 = .ok (.lconst 0, 1) := by decide +kernel
theorem dX10_sizeOf_2 : decode cX10_sizeOf 2 = .ok (.lcmp, 1) := by decide +kernel
theorem dX10_sizeOf_3 : decode cX10_sizeOf 3 = .ok (.ifCond .ge 8, 3) := by decide +kernel
theorem dX10_sizeOf_6 : decode cX10_sizeOf 6 = .ok (.lload_n 0, 1) := by decide +kernel
theorem dX10_sizeOf_7 : decode cX10_sizeOf 7 = .ok (.lneg, 1) := by decide +kernel
theorem dX10_sizeOf_8 : decode cX10_sizeOf 8 = .ok (.goto 4, 3) := by decide +kernel
theorem dX10_sizeOf_11 : decode cX10_sizeOf 11 = .ok (.lload_n 0, 1) := by decide +kernel
theorem dX10_sizeOf_12 : decode cX10_sizeOf 12 = .ok (.lreturn, 1) := by decide +kernel
theorem dX10_least_0 : decode cX10_least 0 = .ok (.aload_n 0, 1) := by decide +kernel
theorem dX10_least_1 : decode cX10_least 1 = .ok (.iconst 0, 1) := by decide +kernel
theorem dX10_least_2 : decode cX10_least 2 = .ok (.putfield 45, 3) := by decide +kernel
theorem dX10_least_5 : decode cX10_least 5 = .ok (.iload_n 1, 1) := by decide +kernel
theorem dX10_least_6 : decode cX10_least 6 = .ok (.invokestatic 179, 3) := by decide +kernel
theorem dX10_least_9 : decode cX10_least 9 = .ok (.ifCond .eq 17, 3) := by decide +kernel
theorem dX10_least_12 : decode cX10_least 12 = .ok (.iload_n 2, 1) := by decide +kernel
theorem dX10_least_13 : decode cX10_least 13 = .ok (.invokestatic 179, 3) := by decide +kernel
theorem dX10_least_16 : decode cX10_least 16 = .ok (.ifCond .eq 10, 3) := by decide +kernel
theorem dX10_least_19 : decode cX10_least 19 = .ok (.iload_n 3, 1) := by decide +kernel
theorem dX10_least_20 : decode cX10_least 20 = .ok (.invokestatic 236, 3) := by decide +kernel
theorem dX10_least_23 : decode cX10_least 23 = .ok (.ifCond .ne 5, 3) := by decide +kernel
theorem dX10_least_26 : decode cX10_least 26 = .ok (.iconst (-1), 1) := by decide +kernel
theorem dX10_least_27 : decode cX10_least 27 = .ok (.ireturn, 1) := by decide +kernel
theorem dX10_least_28 : decode cX10_least 28 = .ok (.aload_n 0, 1) := by decide +kernel
theorem dX10_least_29 : decode cX10_least 29 = .ok (.getfield 9, 3) := by decide +kernel
theorem dX10_least_32 : decode cX10_least 32 = .ok (.iload_n 1, 1) := by decide +kernel
theorem dX10_least_33 : decode cX10_least 33 = .ok (.iaload, 1) := by decide +kernel
theorem dX10_least_34 : decode cX10_least 34 = .ok (.istore 4, 2) := by decide +kernel
theorem dX10_least_36 : decode cX10_least 36 = .ok (.aload_n 0, 1) := by decide +kernel
theorem dX10_least_37 : decode cX10_least 37 = .ok (.getfield 9, 3) := by decide +kernel
theorem dX10_least_40 : decode cX10_least 40 = .ok (.iload_n 2, 1) := by decide +kernel
theorem dX10_least_41 : decode cX10_least 41 = .ok (.iaload, 1) := by decide +kernel
theorem dX10_least_42 : decode cX10_least 42 = .ok (.istore 5, 2) := by decide +kernel
theorem dX10_least_44 : decode cX10_least 44 = .ok (.aload_n 0, 1) := by decide +kernel
theorem dX10_least_45 : decode cX10_least 45 = .ok (.iload 4, 2) := by decide +kernel
theorem dX10_least_47 : decode cX10_least 47 = .ok (.iconst 0, 1) := by decide +kernel
theorem dX10_least_48 : decode cX10_least 48 = .ok (.iload 5, 2) := by decide +kernel
theorem dX10_least_50 : decode cX10_least 50 = .ok (.i2l, 1) := by decide +kernel
theorem dX10_least_51 : decode cX10_least 51 = .ok (.ldc2_w 127, 3) := by decide +kernel
theorem dX10_least_54 : decode cX10_least 54 = .ok (.lmul, 1) := by decide +kernel
theorem dX10_least_55 : decode cX10_least 55 = .ok (.iload_n 3, 1) := by decide +kernel
theorem dX10_least_56 : decode cX10_least 56 = .ok (.bipush 7, 2) := by decide +kernel
theorem dX10_least_58 : decode cX10_least 58 = .ok (.invokevirtual 274, 3) := by decide +kernel
theorem dX10_least_61 : decode cX10_least 61 = .ok (.iload 5, 2) := by decide +kernel
theorem dX10_least_63 : decode cX10_least 63 = .ok (.iload 4, 2) := by decide +kernel
theorem dX10_least_65 : decode cX10_least 65 = .ok (.if_icmp .ge 7, 3) := by decide +kernel
theorem dX10_least_68 : decode cX10_least 68 = .ok (.iconst (-1), 1) := by decide +kernel
theorem dX10_least_69 : decode cX10_least 69 = .ok (.goto 4, 3) := by decide +kernel
theorem dX10_least_72 : decode cX10_least 72 = .ok (.iconst 1, 1) := by decide +kernel
theorem dX10_least_73 : decode cX10_least 73 = .ok (.istore 6, 2) := by decide +kernel
theorem dX10_least_75 : decode cX10_least 75 = .ok (.aload_n 0, 1) := by decide +kernel
theorem dX10_least_76 : decode cX10_least 76 = .ok (.getfield 262, 3) := by decide +kernel
theorem dX10_least_79 : decode cX10_least 79 = .ok (.invokestatic 277, 3) := by decide +kernel
theorem dX10_least_82 : decode cX10_least 82 = .ok (.l2i, 1) := by decide +kernel
theorem dX10_least_83 : decode cX10_least 83 = .ok (.bipush 12, 2) := by decide +kernel
theorem dX10_least_85 : decode cX10_least 85 = .ok (.iadd, 1) := by decide +kernel
theorem dX10_least_86 : decode cX10_least 86 = .ok (.istore 7, 2) := by decide +kernel
theorem dX10_least_88 : decode cX10_least 88 = .ok (.ldc2_w 281, 3) := by decide +kernel
theorem dX10_least_91 : decode cX10_least 91 = .ok (.lstore 8, 2) := by decide +kernel
theorem dX10_least_93 : decode cX10_least 93 = .ok (.iconst 0, 1) := by decide +kernel
theorem dX10_least_94 : decode cX10_least 94 = .ok (.istore 10, 2) := by decide +kernel
theorem dX10_least_96 : decode cX10_least 96 = .ok (.iconst 0, 1) := by decide +kernel
theorem dX10_least_97 : decode cX10_least 97 = .ok (.istore 11, 2) := by decide +kernel
theorem dX10_least_99 : decode cX10_least 99 = .ok (.iconst 0, 1) := by decide +kernel
theorem dX10_least_100 : decode cX10_least 100 = .ok (.istore 12, 2) := by decide +kernel
theorem dX10_least_102 : decode cX10_least 102 = .ok (.iload 12, 2) := by decide +kernel
theorem dX10_least_104 : decode cX10_least 104 = .ok (.iload 7, 2) := by decide +kernel
theorem dX10_least_106 : decode cX10_least 106 = .ok (.if_icmp .gt 112, 3) := by decide +kernel
theorem dX10_least_109 : decode cX10_least 109 = .ok (.aload_n 0, 1) := by decide +kernel
theorem dX10_least_110 : decode cX10_least 110 = .ok (.iload 4, 2) := by decide +kernel
theorem dX10_least_112 : decode cX10_least 112 = .ok (.iconst 0, 1) := by decide +kernel
theorem dX10_least_113 : decode cX10_least 113 = .ok (.invokevirtual 146, 3) := by decide +kernel
theorem dX10_least_116 : decode cX10_least 116 = .ok (.aload_n 0, 1) := by decide +kernel
theorem dX10_least_117 : decode cX10_least 117 = .ok (.iload 6, 2) := by decide +kernel
theorem dX10_least_119 : decode cX10_least 119 = .ok (.i2l, 1) := by decide +kernel
theorem dX10_least_120 : decode cX10_least 120 = .ok (.iload 12, 2) := by decide +kernel
theorem dX10_least_122 : decode cX10_least 122 = .ok (.i2l, 1) := by decide +kernel
theorem dX10_least_123 : decode cX10_least 123 = .ok (.lmul, 1) := by decide +kernel
theorem dX10_least_124 : decode cX10_least 124 = .ok (.iload_n 3, 1) := by decide +kernel
theorem dX10_least_125 : decode cX10_least 125 = .ok (.invokevirtual 132, 3) := by decide +kernel
theorem dX10_least_128 : decode cX10_least 128 = .ok (.ifCond .ne 6, 3) := by decide +kernel
theorem dX10_least_131 : decode cX10_least 131 = .ok (.goto 81, 3) := by decide +kernel
theorem dX10_least_134 : decode cX10_least 134 = .ok (.iload 5, 2) := by decide +kernel
theorem dX10_least_136 : decode cX10_least 136 = .ok (.aload_n 0, 1) := by decide +kernel
theorem dX10_least_137 : decode cX10_least 137 = .ok (.getfield 104, 3) := by decide +kernel
theorem dX10_least_140 : decode cX10_least 140 = .ok (.isub, 1) := by decide +kernel
theorem dX10_least_141 : decode cX10_least 141 = .ok (.istore 13, 2) := by decide +kernel
theorem dX10_least_143 : decode cX10_least 143 = .ok (.iload 12, 2) := by decide +kernel
theorem dX10_least_145 : decode cX10_least 145 = .ok (.bipush 12, 2) := by decide +kernel
theorem dX10_least_147 : decode cX10_least 147 = .ok (.idiv, 1) := by decide +kernel
theorem dX10_least_148 : decode cX10_least 148 = .ok (.iload 12, 2) := by decide +kernel
theorem dX10_least_150 : decode cX10_least 150 = .ok (.bipush 12, 2) := by decide +kernel
theorem dX10_least_152 : decode cX10_least 152 = .ok (.irem, 1) := by decide +kernel
theorem dX10_least_153 : decode cX10_least 153 = .ok (.iadd, 1) := by decide +kernel
theorem dX10_least_154 : decode cX10_least 154 = .ok (.i2l, 1) := by decide +kernel
theorem dX10_least_155 : decode cX10_least 155 = .ok (.iload 13, 2) := by decide +kernel
theorem dX10_least_157 : decode cX10_least 157 = .ok (.bipush 7, 2) := by decide +kernel
theorem dX10_least_159 : decode cX10_least 159 = .ok (.idiv, 1) := by decide +kernel
theorem dX10_least_160 : decode cX10_least 160 = .ok (.i2l, 1) := by decide +kernel
theorem dX10_least_161 : decode cX10_least 161 = .ok (.invokestatic 277, 3) := by decide +kernel
theorem dX10_least_164 : decode cX10_least 164 = .ok (.ladd, 1) := by decide +kernel
theorem dX10_least_165 : decode cX10_least 165 = .ok (.iload 13, 2) := by decide +kernel
theorem dX10_least_167 : decode cX10_least 167 = .ok (.bipush 7, 2) := by decide +kernel
theorem dX10_least_169 : decode cX10_least 169 = .ok (.irem, 1) := by decide +kernel
theorem dX10_least_170 : decode cX10_least 170 = .ok (.i2l, 1) := by decide +kernel
theorem dX10_least_171 : decode cX10_least 171 = .ok (.invokestatic 277, 3) := by decide +kernel
theorem dX10_least_174 : decode cX10_least 174 = .ok (.ladd, 1) := by decide +kernel
theorem dX10_least_175 : decode cX10_least 175 = .ok (.lstore 14, 2) := by decide +kernel
theorem dX10_least_177 : decode cX10_least 177 = .ok (.lload 8, 2) := by decide +kernel
