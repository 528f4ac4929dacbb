theorem dX10_whole_68 : decode cX10_whole 68 = .ok (.getfield 87, 3) := by decide +kernel
theorem dX10_whole_71 : decode cX10_whole 71 = .ok (.iadd, 1) := by decide +kernel
theorem dX10_whole_72 : decode cX10_whole 72 = .ok (.iconst 1, 1) := by decide +kernel
theorem dX10_whole_73 : decode cX10_whole 73 = .ok (.isub, 1) := by decide +kernel
theorem dX10_whole_74 : decode cX10_whole 74 = .ok (.istore 5, 2) := by decide +kernel
theorem dX10_whole_76 : decode cX10_whole 76 = .ok (.iload 4, 2) := by decide +kernel
theorem dX10_whole_78 : decode cX10_whole 78 = .ok (.aload_n 0, 1) := by decide +kernel
theorem dX10_whole_79 : decode cX10_whole 79 = .ok (.getfield 94, 3) := by decide +kernel
theorem dX10_whole_82 : decode cX10_whole 82 = .ok (.isub, 1) := by decide +kernel
theorem dX10_whole_83 : decode cX10_whole 83 = .ok (.iconst 1, 1) := by decide +kernel
theorem dX10_whole_84 : decode cX10_whole 84 = .ok (.iadd, 1) := by decide +kernel
theorem dX10_whole_85 : decode cX10_whole 85 = .ok (.istore 6, 2) := by decide +kernel
theorem dX10_whole_87 : decode cX10_whole 87 = .ok (.aload_n 0, 1) := by decide +kernel
theorem dX10_whole_88 : decode cX10_whole 88 = .ok (.iload_n 3, 1) := by decide +kernel
theorem dX10_whole_89 : decode cX10_whole 89 = .ok (.invokevirtual 97, 3) := by decide +kernel
theorem dX10_whole_92 : decode cX10_whole 92 = .ok (.bipush 12, 2) := by decide +kernel
theorem dX10_whole_94 : decode cX10_whole 94 = .ok (.aload_n 0, 1) := by decide +kernel
theorem dX10_whole_95 : decode cX10_whole 95 = .ok (.getfield 84, 3) := by decide +kernel
theorem dX10_whole_98 : decode cX10_whole 98 = .ok (.imul, 1) := by decide +kernel
theorem dX10_whole_99 : decode cX10_whole 99 = .ok (.aload_n 0, 1) := by decide +kernel
theorem dX10_whole_100 : decode cX10_whole 100 = .ok (.getfield 87, 3) := by decide +kernel
theorem dX10_whole_103 : decode cX10_whole 103 = .ok (.iadd, 1) := by decide +kernel
theorem dX10_whole_104 : decode cX10_whole 104 = .ok (.iconst 1, 1) := by decide +kernel
theorem dX10_whole_105 : decode cX10_whole 105 = .ok (.isub, 1) := by decide +kernel
theorem dX10_whole_106 : decode cX10_whole 106 = .ok (.istore 7, 2) := by decide +kernel
theorem dX10_whole_108 : decode cX10_whole 108 = .ok (.iload_n 3, 1) := by decide +kernel
theorem dX10_whole_109 : decode cX10_whole 109 = .ok (.istore 8, 2) := by decide +kernel
theorem dX10_whole_111 : decode cX10_whole 111 = .ok (.aload_n 0, 1) := by decide +kernel
theorem dX10_whole_112 : decode cX10_whole 112 = .ok (.getfield 94, 3) := by decide +kernel
theorem dX10_whole_115 : decode cX10_whole 115 = .ok (.iconst 1, 1) := by decide +kernel
theorem dX10_whole_116 : decode cX10_whole 116 = .ok (.if_icmp .le 28, 3) := by decide +kernel
theorem dX10_whole_119 : decode cX10_whole 119 = .ok (.iload_n 3, 1) := by decide +kernel
theorem dX10_whole_120 : decode cX10_whole 120 = .ok (.aload_n 0, 1) := by decide +kernel
theorem dX10_whole_121 : decode cX10_whole 121 = .ok (.getfield 94, 3) := by decide +kernel
theorem dX10_whole_124 : decode cX10_whole 124 = .ok (.isub, 1) := by decide +kernel
theorem dX10_whole_125 : decode cX10_whole 125 = .ok (.iconst 1, 1) := by decide +kernel
theorem dX10_whole_126 : decode cX10_whole 126 = .ok (.iadd, 1) := by decide +kernel
theorem dX10_whole_127 : decode cX10_whole 127 = .ok (.aload_n 0, 1) := by decide +kernel
theorem dX10_whole_128 : decode cX10_whole 128 = .ok (.getfield 84, 3) := by decide +kernel
theorem dX10_whole_131 : decode cX10_whole 131 = .ok (.aload_n 0, 1) := by decide +kernel
theorem dX10_whole_132 : decode cX10_whole 132 = .ok (.getfield 87, 3) := by decide +kernel
theorem dX10_whole_135 : decode cX10_whole 135 = .ok (.invokestatic 111, 3) := by decide +kernel
theorem dX10_whole_138 : decode cX10_whole 138 = .ok (.iadd, 1) := by decide +kernel
theorem dX10_whole_139 : decode cX10_whole 139 = .ok (.istore 8, 2) := by decide +kernel
theorem dX10_whole_141 : decode cX10_whole 141 = .ok (.iinc 7 1, 3) := by decide +kernel
theorem dX10_whole_144 : decode cX10_whole 144 = .ok (.iconst 0, 1) := by decide +kernel
theorem dX10_whole_145 : decode cX10_whole 145 = .ok (.iload 5, 2) := by decide +kernel
theorem dX10_whole_147 : decode cX10_whole 147 = .ok (.iload 7, 2) := by decide +kernel
theorem dX10_whole_149 : decode cX10_whole 149 = .ok (.isub, 1) := by decide +kernel
theorem dX10_whole_150 : decode cX10_whole 150 = .ok (.invokestatic 115, 3) := by decide +kernel
theorem dX10_whole_153 : decode cX10_whole 153 = .ok (.istore 9, 2) := by decide +kernel
theorem dX10_whole_155 : decode cX10_whole 155 = .ok (.aload_n 0, 1) := by decide +kernel
theorem dX10_whole_156 : decode cX10_whole 156 = .ok (.iconst 0, 1) := by decide +kernel
theorem dX10_whole_157 : decode cX10_whole 157 = .ok (.putfield 49, 3) := by decide +kernel
theorem dX10_whole_160 : decode cX10_whole 160 = .ok (.aload_n 0, 1) := by decide +kernel
theorem dX10_whole_161 : decode cX10_whole 161 = .ok (.iload 9, 2) := by decide +kernel
theorem dX10_whole_163 : decode cX10_whole 163 = .ok (.ifCond .ne 11, 3) := by decide +kernel
theorem dX10_whole_166 : decode cX10_whole 166 = .ok (.iload 4, 2) := by decide +kernel
theorem dX10_whole_168 : decode cX10_whole 168 = .ok (.iload_n 3, 1) := by decide +kernel
theorem dX10_whole_169 : decode cX10_whole 169 = .ok (.isub, 1) := by decide +kernel
theorem dX10_whole_170 : decode cX10_whole 170 = .ok (.i2l, 1) := by decide +kernel
theorem dX10_whole_171 : decode cX10_whole 171 = .ok (.goto 8, 3) := by decide +kernel
theorem dX10_whole_174 : decode cX10_whole 174 = .ok (.iload 8, 2) := by decide +kernel
theorem dX10_whole_176 : decode cX10_whole 176 = .ok (.iload_n 3, 1) := by decide +kernel
theorem dX10_whole_177 : decode cX10_whole 177 = .ok (.isub, 1) := by decide +kernel
theorem dX10_whole_178 : decode cX10_whole 178 = .ok (.i2l, 1) := by decide +kernel
theorem dX10_whole_179 : decode cX10_whole 179 = .ok (.invokevirtual 208, 3) := by decide +kernel
theorem dX10_whole_182 : decode cX10_whole 182 = .ok (.aload_n 0, 1) := by decide +kernel
theorem dX10_whole_183 : decode cX10_whole 183 = .ok (.iload 9, 2) := by decide +kernel
theorem dX10_whole_185 : decode cX10_whole 185 = .ok (.ifCond .ne 7, 3) := by decide +kernel
theorem dX10_whole_188 : decode cX10_whole 188 = .ok (.lconst 0, 1) := by decide +kernel
theorem dX10_whole_189 : decode cX10_whole 189 = .ok (.goto 9, 3) := by decide +kernel
theorem dX10_whole_192 : decode cX10_whole 192 = .ok (.iload 4, 2) := by decide +kernel
theorem dX10_whole_194 : decode cX10_whole 194 = .ok (.iload 6, 2) := by decide +kernel
theorem dX10_whole_196 : decode cX10_whole 196 = .ok (.isub, 1) := by decide +kernel
theorem dX10_whole_197 : decode cX10_whole 197 = .ok (.i2l, 1) := by decide +kernel
theorem dX10_whole_198 : decode cX10_whole 198 = .ok (.invokevirtual 208, 3) := by decide +kernel
theorem dX10_whole_201 : decode cX10_whole 201 = .ok (.iload 9, 2) := by decide +kernel
theorem dX10_whole_203 : decode cX10_whole 203 = .ok (.ireturn, 1) := by decide +kernel
theorem dX10_floors_0 : decode cX10_floors 0 = .ok (.aload_n 0, 1) := by decide +kernel
theorem dX10_floors_1 : decode cX10_floors 1 = .ok (.iconst 0, 1) := by decide +kernel
theorem dX10_floors_2 : decode cX10_floors 2 = .ok (.putfield 45, 3) := by decide +kernel
theorem dX10_floors_5 : decode cX10_floors 5 = .ok (.iload_n 1, 1) := by decide +kernel
theorem dX10_floors_6 : decode cX10_floors 6 = .ok (.invokestatic 179, 3) := by decide +kernel
theorem dX10_floors_9 : decode cX10_floors 9 = .ok (.ifCond .eq 22, 3) := by decide +kernel
theorem dX10_floors_12 : decode cX10_floors 12 = .ok (.iload_n 2, 1) := by decide +kernel
theorem dX10_floors_13 : decode cX10_floors 13 = .ok (.i2l, 1) := by decide +kernel
theorem dX10_floors_14 : decode cX10_floors 14 = .ok (.lconst 0, 1) := by decide +kernel
theorem dX10_floors_15 : decode cX10_floors 15 = .ok (.ldc2_w 328, 3) := by decide +kernel
theorem dX10_floors_18 : decode cX10_floors 18 = .ok (.invokestatic 54, 3) := by decide +kernel
theorem dX10_floors_21 : decode cX10_floors 21 = .ok (.ifCond .eq 10, 3) := by decide +kernel
theorem dX10_floors_24 : decode cX10_floors 24 = .ok (.iload_n 3, 1) := by decide +kernel
theorem dX10_floors_25 : decode cX10_floors 25 = .ok (.invokestatic 179, 3) := by decide +kernel
theorem dX10_floors_28 : decode cX10_floors 28 = .ok (.ifCond .ne 5, 3) := by decide +kernel
theorem dX10_floors_31 : decode cX10_floors 31 = .ok (.iconst (-1), 1) := by decide +kernel
theorem dX10_floors_32 : decode cX10_floors 32 = .ok (.ireturn, 1) := by decide +kernel
theorem dX10_floors_33 : decode cX10_floors 33 = .ok (.aload_n 0, 1) := by decide +kernel
theorem dX10_floors_34 : decode cX10_floors 34 = .ok (.iload_n 1, 1) := by decide +kernel
theorem dX10_floors_35 : decode cX10_floors 35 = .ok (.invokevirtual 270, 3) := by decide +kernel
theorem dX10_floors_38 : decode cX10_floors 38 = .ok (.lstore 4, 2) := by decide +kernel
theorem dX10_floors_40 : decode cX10_floors 40 = .ok (.aload_n 0, 1) := by decide +kernel
theorem dX10_floors_41 : decode cX10_floors 41 = .ok (.getfield 9, 3) := by decide +kernel
theorem dX10_floors_44 : decode cX10_floors 44 = .ok (.iload_n 1, 1) := by decide +kernel
theorem dX10_floors_45 : decode cX10_floors 45 = .ok (.iaload, 1) := by decide +kernel
theorem dX10_floors_46 : decode cX10_floors 46 = .ok (.istore 6, 2) := by decide +kernel
theorem dX10_floors_48 : decode cX10_floors 48 = .ok (.iload_n 2, 1) := by decide +kernel
theorem dX10_floors_49 : decode cX10_floors 49 = .ok (.ifCond .ne 18, 3) := by decide +kernel
theorem dX10_floors_52 : decode cX10_floors 52 = .ok (.aload_n 0, 1) := by decide +kernel
theorem dX10_floors_53 : decode cX10_floors 53 = .ok (.getfield 13, 3) := by decide +kernel
theorem dX10_floors_56 : decode cX10_floors 56 = .ok (.iload_n 1, 1) := by decide +kernel
theorem dX10_floors_57 : decode cX10_floors 57 = .ok (.iaload, 1) := by decide +kernel
theorem dX10_floors_58 : decode cX10_floors 58 = .ok (.bipush 60, 2) := by decide +kernel
theorem dX10_floors_60 : decode cX10_floors 60 = .ok (.idiv, 1) := by decide +kernel
theorem dX10_floors_61 : decode cX10_floors 61 = .ok (.bipush 60, 2) := by decide +kernel
theorem dX10_floors_63 : decode cX10_floors 63 = .ok (.imul, 1) := by decide +kernel
theorem dX10_floors_64 : decode cX10_floors 64 = .ok (.goto 26, 3) := by decide +kernel
theorem dX10_floors_67 : decode cX10_floors 67 = .ok (.iload_n 2, 1) := by decide +kernel
theorem dX10_floors_68 : decode cX10_floors 68 = .ok (.iconst 1, 1) := by decide +kernel
theorem dX10_floors_69 : decode cX10_floors 69 = .ok (.if_icmp .ne 20, 3) := by decide +kernel
theorem dX10_floors_72 : decode cX10_floors 72 = .ok (.aload_n 0, 1) := by decide +kernel
theorem dX10_floors_73 : decode cX10_floors 73 = .ok (.getfield 13, 3) := by decide +kernel
theorem dX10_floors_76 : decode cX10_floors 76 = .ok (.iload_n 1, 1) := by decide +kernel
theorem dX10_floors_77 : decode cX10_floors 77 = .ok (.iaload, 1) := by decide +kernel
theorem dX10_floors_78 : decode cX10_floors 78 = .ok (.sipush 3600, 3) := by decide +kernel
theorem dX10_floors_81 : decode cX10_floors 81 = .ok (.idiv, 1) := by decide +kernel
theorem dX10_floors_82 : decode cX10_floors 82 = .ok (.sipush 3600, 3) := by decide +kernel
theorem dX10_floors_85 : decode cX10_floors 85 = .ok (.imul, 1) := by decide +kernel
theorem dX10_floors_86 : decode cX10_floors 86 = .ok (.goto 4, 3) := by decide +kernel
theorem dX10_floors_89 : decode cX10_floors 89 = .ok (.iconst 0, 1) := by decide +kernel
theorem dX10_floors_90 : decode cX10_floors 90 = .ok (.istore 7, 2) := by decide +kernel
theorem dX10_floors_92 : decode cX10_floors 92 = .ok (.aload_n 0, 1) := by decide +kernel
theorem dX10_floors_93 : decode cX10_floors 93 = .ok (.iload 6, 2) := by decide +kernel
theorem dX10_floors_95 : decode cX10_floors 95 = .ok (.invokevirtual 97, 3) := by decide +kernel
theorem dX10_floors_98 : decode cX10_floors 98 = .ok (.iload_n 2, 1) := by decide +kernel
theorem dX10_floors_99 : decode cX10_floors 99 = .ok (.iconst 3, 1) := by decide +kernel
theorem dX10_floors_100 : decode cX10_floors 100 = .ok (.if_icmp .ne 13, 3) := by decide +kernel
theorem dX10_floors_103 : decode cX10_floors 103 = .ok (.iload 6, 2) := by decide +kernel
theorem dX10_floors_105 : decode cX10_floors 105 = .ok (.iload 6, 2) := by decide +kernel
theorem dX10_floors_107 : decode cX10_floors 107 = .ok (.bipush 7, 2) := by decide +kernel
theorem dX10_floors_109 : decode cX10_floors 109 = .ok (.irem, 1) := by decide +kernel
theorem dX10_floors_110 : decode cX10_floors 110 = .ok (.isub, 1) := by decide +kernel
theorem dX10_floors_111 : decode cX10_floors 111 = .ok (.istore 6, 2) := by decide +kernel
theorem dX10_floors_113 : decode cX10_floors 113 = .ok (.iload_n 2, 1) := by decide +kernel
theorem dX10_floors_114 : decode cX10_floors 114 = .ok (.iconst 4, 1) := by decide +kernel
theorem dX10_floors_115 : decode cX10_floors 115 = .ok (.if_icmp .ne 14, 3) := by decide +kernel
theorem dX10_floors_118 : decode cX10_floors 118 = .ok (.iload 6, 2) := by decide +kernel
theorem dX10_floors_120 : decode cX10_floors 120 = .ok (.aload_n 0, 1) := by decide +kernel
theorem dX10_floors_121 : decode cX10_floors 121 = .ok (.getfield 94, 3) := by decide +kernel
theorem dX10_floors_124 : decode cX10_floors 124 = .ok (.iconst 1, 1) := by decide +kernel
theorem dX10_floors_125 : decode cX10_floors 125 = .ok (.isub, 1) := by decide +kernel
theorem dX10_floors_126 : decode cX10_floors 126 = .ok (.isub, 1) := by decide +kernel
theorem dX10_floors_127 : decode cX10_floors 127 = .ok (.istore 6, 2) := by decide +kernel
theorem dX10_floors_129 : decode cX10_floors 129 = .ok (.iload_n 2, 1) := by decide +kernel
theorem dX10_floors_130 : decode cX10_floors 130 = .ok (.iconst 5, 1) := by decide +kernel
theorem dX10_floors_131 : decode cX10_floors 131 = .ok (.if_icmp .ne 12, 3) := by decide +kernel
theorem dX10_floors_134 : decode cX10_floors 134 = .ok (.aload_n 0, 1) := by decide +kernel
theorem dX10_floors_135 : decode cX10_floors 135 = .ok (.getfield 84, 3) := by decide +kernel
theorem dX10_floors_138 : decode cX10_floors 138 = .ok (.invokestatic 73, 3) := by decide +kernel
theorem dX10_floors_141 : decode cX10_floors 141 = .ok (.istore 6, 2) := by decide +kernel
theorem dX10_floors_143 : decode cX10_floors 143 = .ok (.aload_n 0, 1) := by decide +kernel
theorem dX10_floors_144 : decode cX10_floors 144 = .ok (.iload 6, 2) := by decide +kernel
theorem dX10_floors_146 : decode cX10_floors 146 = .ok (.iload 7, 2) := by decide +kernel
theorem dX10_floors_148 : decode cX10_floors 148 = .ok (.invokevirtual 146, 3) := by decide +kernel
theorem dX10_floors_151 : decode cX10_floors 151 = .ok (.aload_n 0, 1) := by decide +kernel
theorem dX10_floors_152 : decode cX10_floors 152 = .ok (.iload_n 3, 1) := by decide +kernel
theorem dX10_floors_153 : decode cX10_floors 153 = .ok (.invokevirtual 182, 3) := by decide +kernel
theorem dX10_floors_156 : decode cX10_floors 156 = .ok (.aload_n 0, 1) := by decide +kernel
theorem dX10_floors_157 : decode cX10_floors 157 = .ok (.iconst 0, 1) := by decide +kernel
theorem dX10_floors_158 : decode cX10_floors 158 = .ok (.putfield 49, 3) := by decide +kernel
theorem dX10_floors_161 : decode cX10_floors 161 = .ok (.aload_n 0, 1) := by decide +kernel
theorem dX10_floors_162 : decode cX10_floors 162 = .ok (.iload 7, 2) := by decide +kernel
theorem dX10_floors_164 : decode cX10_floors 164 = .ok (.i2l, 1) := by decide +kernel
theorem dX10_floors_165 : decode cX10_floors 165 = .ok (.invokevirtual 208, 3) := by decide +kernel
theorem dX10_floors_168 : decode cX10_floors 168 = .ok (.aload_n 0, 1) := by decide +kernel
theorem dX10_floors_169 : decode cX10_floors 169 = .ok (.lload 4, 2) := by decide +kernel
theorem dX10_floors_171 : decode cX10_floors 171 = .ok (.aload_n 0, 1) := by decide +kernel
theorem dX10_floors_172 : decode cX10_floors 172 = .ok (.invokevirtual 258, 3) := by decide +kernel
theorem dX10_floors_175 : decode cX10_floors 175 = .ok (.lsub, 1) := by decide +kernel
theorem dX10_floors_176 : decode cX10_floors 176 = .ok (.invokevirtual 208, 3) := by decide +kernel
theorem dX10_floors_179 : decode cX10_floors 179 = .ok (.iload 6, 2) := by decide +kernel
theorem dX10_floors_181 : decode cX10_floors 181 = .ok (.ireturn, 1) := by decide +kernel
theorem dX10_part_0 : decode cX10_part 0 = .ok (.aload_n 0, 1) := by decide +kernel
theorem dX10_part_1 : decode cX10_part 1 = .ok (.iconst 0, 1) := by decide +kernel
theorem dX10_part_2 : decode cX10_part 2 = .ok (.putfield 45, 3) := by decide +kernel
theorem dX10_part_5 : decode cX10_part 5 = .ok (.iload_n 1, 1) := by decide +kernel
theorem dX10_part_6 : decode cX10_part 6 = .ok (.invokestatic 179, 3) := by decide +kernel
theorem dX10_part_9 : decode cX10_part 9 = .ok (.ifCond .eq 43, 3) := by decide +kernel
theorem dX10_part_12 : decode cX10_part 12 = .ok (.iload_n 2, 1) := by decide +kernel
theorem dX10_part_13 : decode cX10_part 13 = .ok (.invokestatic 179, 3) := by decide +kernel
theorem dX10_part_16 : decode cX10_part 16 = .ok (.ifCond .eq 36, 3) := by decide +kernel
theorem dX10_part_19 : decode cX10_part 19 = .ok (.iload 4, 2) := by decide +kernel
theorem dX10_part_21 : decode cX10_part 21 = .ok (.i2l, 1) := by decide +kernel
theorem dX10_part_22 : decode cX10_part 22 = .ok (.lconst 1, 1) := by decide +kernel
theorem dX10_part_23 : decode cX10_part 23 = .ok (.ldc2_w 314, 3) := by decide +kernel
theorem dX10_part_26 : decode cX10_part 26 = .ok (.invokestatic 54, 3) := by decide +kernel
theorem dX10_part_29 : decode cX10_part 29 = .ok (.ifCond .eq 23, 3) := by decide +kernel
theorem dX10_part_32 : decode cX10_part 32 = .ok (.iload_n 3, 1) := by decide +kernel
theorem dX10_part_33 : decode cX10_part 33 = .ok (.i2l, 1) := by decide +kernel
theorem dX10_part_34 : decode cX10_part 34 = .ok (.lconst 0, 1) := by decide +kernel
theorem dX10_part_35 : decode cX10_part 35 = .ok (.iload 4, 2) := by decide +kernel
theorem dX10_part_37 : decode cX10_part 37 = .ok (.i2l, 1) := by decide +kernel
theorem dX10_part_38 : decode cX10_part 38 = .ok (.invokestatic 54, 3) := by decide +kernel
theorem dX10_part_41 : decode cX10_part 41 = .ok (.ifCond .eq 11, 3) := by decide +kernel
theorem dX10_part_44 : decode cX10_part 44 = .ok (.iload 5, 2) := by decide +kernel
theorem dX10_part_46 : decode cX10_part 46 = .ok (.invokestatic 179, 3) := by decide +kernel
theorem dX10_part_49 : decode cX10_part 49 = .ok (.ifCond .ne 5, 3) := by decide +kernel
theorem dX10_part_52 : decode cX10_part 52 = .ok (.iconst (-1), 1) := by decide +kernel
theorem dX10_part_53 : decode cX10_part 53 = .ok (.ireturn, 1) := by decide +kernel
theorem dX10_part_54 : decode cX10_part 54 = .ok (.aload_n 0, 1) := by decide +kernel
theorem dX10_part_55 : decode cX10_part 55 = .ok (.iload_n 1, 1) := by decide +kernel
theorem dX10_part_56 : decode cX10_part 56 = .ok (.invokevirtual 270, 3) := by decide +kernel
theorem dX10_part_59 : decode cX10_part 59 = .ok (.aload_n 0, 1) := by decide +kernel
theorem dX10_part_60 : decode cX10_part 60 = .ok (.iload_n 2, 1) := by decide +kernel
theorem dX10_part_61 : decode cX10_part 61 = .ok (.invokevirtual 270, 3) := by decide +kernel
theorem dX10_part_64 : decode cX10_part 64 = .ok (.aload_n 0, 1) := by decide +kernel
theorem dX10_part_65 : decode cX10_part 65 = .ok (.iload_n 1, 1) := by decide +kernel
theorem dX10_part_66 : decode cX10_part 66 = .ok (.invokevirtual 270, 3) := by decide +kernel
theorem dX10_part_69 : decode cX10_part 69 = .ok (.lsub, 1) := by decide +kernel
theorem dX10_part_70 : decode cX10_part 70 = .ok (.iload_n 3, 1) := by decide +kernel
theorem dX10_part_71 : decode cX10_part 71 = .ok (.i2l, 1) := by decide +kernel
theorem dX10_part_72 : decode cX10_part 72 = .ok (.lmul, 1) := by decide +kernel
theorem dX10_part_73 : decode cX10_part 73 = .ok (.iload 4, 2) := by decide +kernel
theorem dX10_part_75 : decode cX10_part 75 = .ok (.i2l, 1) := by decide +kernel
theorem dX10_part_76 : decode cX10_part 76 = .ok (.ldiv, 1) := by decide +kernel
theorem dX10_part_77 : decode cX10_part 77 = .ok (.ladd, 1) := by decide +kernel
theorem dX10_part_78 : decode cX10_part 78 = .ok (.lstore 6, 2) := by decide +kernel
theorem dX10_part_80 : decode cX10_part 80 = .ok (.aload_n 0, 1) := by decide +kernel
theorem dX10_part_81 : decode cX10_part 81 = .ok (.lload 6, 2) := by decide +kernel
theorem dX10_part_83 : decode cX10_part 83 = .ok (.ldc2_w 127, 3) := by decide +kernel
theorem dX10_part_86 : decode cX10_part 86 = .ok (.ldiv, 1) := by decide +kernel
theorem dX10_part_87 : decode cX10_part 87 = .ok (.l2i, 1) := by decide +kernel
theorem dX10_part_88 : decode cX10_part 88 = .ok (.lload 6, 2) := by decide +kernel
theorem dX10_part_90 : decode cX10_part 90 = .ok (.ldc2_w 127, 3) := by decide +kernel
theorem dX10_part_93 : decode cX10_part 93 = .ok (.lrem, 1) := by decide +kernel
theorem dX10_part_94 : decode cX10_part 94 = .ok (.l2i, 1) := by decide +kernel
theorem dX10_part_95 : decode cX10_part 95 = .ok (.invokevirtual 146, 3) := by decide +kernel
theorem dX10_part_98 : decode cX10_part 98 = .ok (.aload_n 0, 1) := by decide +kernel
theorem dX10_part_99 : decode cX10_part 99 = .ok (.iload 5, 2) := by decide +kernel
theorem dX10_part_101 : decode cX10_part 101 = .ok (.invokevirtual 182, 3) := by decide +kernel
theorem dX10_part_104 : decode cX10_part 104 = .ok (.aload_n 0, 1) := by decide +kernel
theorem dX10_part_105 : decode cX10_part 105 = .ok (.iconst 0, 1) := by decide +kernel
theorem dX10_part_106 : decode cX10_part 106 = .ok (.putfield 49, 3) := by decide +kernel
theorem dX10_part_109 : decode cX10_part 109 = .ok (.aload_n 0, 1) := by decide +kernel
theorem dX10_part_110 : decode cX10_part 110 = .ok (.aload_n 0, 1) := by decide +kernel
theorem dX10_part_111 : decode cX10_part 111 = .ok (.getfield 129, 3) := by decide +kernel
theorem dX10_part_114 : decode cX10_part 114 = .ok (.i2l, 1) := by decide +kernel
theorem dX10_part_115 : decode cX10_part 115 = .ok (.invokevirtual 208, 3) := by decide +kernel
theorem dX10_part_118 : decode cX10_part 118 = .ok (.aload_n 0, 1) := by decide +kernel
theorem dX10_part_119 : decode cX10_part 119 = .ok (.getfield 104, 3) := by decide +kernel
theorem dX10_part_122 : decode cX10_part 122 = .ok (.ireturn, 1) := by decide +kernel
theorem dX10_ranks_0 : decode cX10_ranks 0 = .ok (.aload_n 0, 1) := by decide +kernel
theorem dX10_ranks_1 : decode cX10_ranks 1 = .ok (.iconst 0, 1) := by decide +kernel
theorem dX10_ranks_2 : decode cX10_ranks 2 = .ok (.putfield 45, 3) := by decide +kernel
theorem dX10_ranks_5 : decode cX10_ranks 5 = .ok (.aload_n 0, 1) := by decide +kernel
theorem dX10_ranks_6 : decode cX10_ranks 6 = .ok (.iconst 0, 1) := by decide +kernel
theorem dX10_ranks_7 : decode cX10_ranks 7 = .ok (.putfield 49, 3) := by decide +kernel
theorem dX10_ranks_10 : decode cX10_ranks 10 = .ok (.iconst 0, 1) := by decide +kernel
theorem dX10_ranks_11 : decode cX10_ranks 11 = .ok (.istore_n 1, 1) := by decide +kernel
theorem dX10_ranks_12 : decode cX10_ranks 12 = .ok (.iconst 0, 1) := by decide +kernel
theorem dX10_ranks_13 : decode cX10_ranks 13 = .ok (.istore_n 2, 1) := by decide +kernel
theorem dX10_ranks_14 : decode cX10_ranks 14 = .ok (.iload_n 2, 1) := by decide +kernel
theorem dX10_ranks_15 : decode cX10_ranks 15 = .ok (.bipush 8, 2) := by decide +kernel
theorem dX10_ranks_17 : decode cX10_ranks 17 = .ok (.if_icmp .ge 71, 3) := by decide +kernel
theorem dX10_ranks_20 : decode cX10_ranks 20 = .ok (.iconst (-1), 1) := by decide +kernel
theorem dX10_ranks_21 : decode cX10_ranks 21 = .ok (.istore_n 3, 1) := by decide +kernel
theorem dX10_ranks_22 : decode cX10_ranks 22 = .ok (.iconst 0, 1) := by decide +kernel
theorem dX10_ranks_23 : decode cX10_ranks 23 = .ok (.istore 4, 2) := by decide +kernel
theorem dX10_ranks_25 : decode cX10_ranks 25 = .ok (.iload 4, 2) := by decide +kernel
theorem dX10_ranks_27 : decode cX10_ranks 27 = .ok (.bipush 8, 2) := by decide +kernel
theorem dX10_ranks_29 : decode cX10_ranks 29 = .ok (.if_icmp .ge 41, 3) := by decide +kernel
theorem dX10_ranks_32 : decode cX10_ranks 32 = .ok (.iload_n 1, 1) := by decide +kernel
theorem dX10_ranks_33 : decode cX10_ranks 33 = .ok (.iload 4, 2) := by decide +kernel
theorem dX10_ranks_35 : decode cX10_ranks 35 = .ok (.ishr, 1) := by decide +kernel
theorem dX10_ranks_36 : decode cX10_ranks 36 = .ok (.iconst 1, 1) := by decide +kernel
theorem dX10_ranks_37 : decode cX10_ranks 37 = .ok (.iand, 1) := by decide +kernel
theorem dX10_ranks_38 : decode cX10_ranks 38 = .ok (.ifCond .ne 26, 3) := by decide +kernel
theorem dX10_ranks_41 : decode cX10_ranks 41 = .ok (.iload_n 3, 1) := by decide +kernel
theorem dX10_ranks_42 : decode cX10_ranks 42 = .ok (.iconst (-1), 1) := by decide +kernel
theorem dX10_ranks_43 : decode cX10_ranks 43 = .ok (.if_icmp .eq 18, 3) := by decide +kernel
theorem dX10_ranks_46 : decode cX10_ranks 46 = .ok (.aload_n 0, 1) := by decide +kernel
theorem dX10_ranks_47 : decode cX10_ranks 47 = .ok (.iload 4, 2) := by decide +kernel
theorem dX10_ranks_49 : decode cX10_ranks 49 = .ok (.invokevirtual 330, 3) := by decide +kernel
theorem dX10_ranks_52 : decode cX10_ranks 52 = .ok (.aload_n 0, 1) := by decide +kernel
theorem dX10_ranks_53 : decode cX10_ranks 53 = .ok (.iload_n 3, 1) := by decide +kernel
theorem dX10_ranks_54 : decode cX10_ranks 54 = .ok (.invokevirtual 330, 3) := by decide +kernel
theorem dX10_ranks_57 : decode cX10_ranks 57 = .ok (.dcmp .g, 1) := by decide +kernel
theorem dX10_ranks_58 : decode cX10_ranks 58 = .ok (.ifCond .ge 6, 3) := by decide +kernel
theorem dX10_ranks_61 : decode cX10_ranks 61 = .ok (.iload 4, 2) := by decide +kernel
theorem dX10_ranks_63 : decode cX10_ranks 63 = .ok (.istore_n 3, 1) := by decide +kernel
theorem dX10_ranks_64 : decode cX10_ranks 64 = .ok (.iinc 4 1, 3) := by decide +kernel
theorem dX10_ranks_67 : decode cX10_ranks 67 = .ok (.goto (-42), 3) := by decide +kernel
theorem dX10_ranks_70 : decode cX10_ranks 70 = .ok (.iload_n 1, 1) := by decide +kernel
theorem dX10_ranks_71 : decode cX10_ranks 71 = .ok (.iconst 1, 1) := by decide +kernel
theorem dX10_ranks_72 : decode cX10_ranks 72 = .ok (.iload_n 3, 1) := by decide +kernel
theorem dX10_ranks_73 : decode cX10_ranks 73 = .ok (.ishl, 1) := by decide +kernel
theorem dX10_ranks_74 : decode cX10_ranks 74 = .ok (.ior, 1) := by decide +kernel
theorem dX10_ranks_75 : decode cX10_ranks 75 = .ok (.istore_n 1, 1) := by decide +kernel
theorem dX10_ranks_76 : decode cX10_ranks 76 = .ok (.aload_n 0, 1) := by decide +kernel
theorem dX10_ranks_77 : decode cX10_ranks 77 = .ok (.iload_n 3, 1) := by decide +kernel
theorem dX10_ranks_78 : decode cX10_ranks 78 = .ok (.i2l, 1) := by decide +kernel
theorem dX10_ranks_79 : decode cX10_ranks 79 = .ok (.invokevirtual 208, 3) := by decide +kernel
theorem dX10_ranks_82 : decode cX10_ranks 82 = .ok (.iinc 2 1, 3) := by decide +kernel
theorem dX10_ranks_85 : decode cX10_ranks 85 = .ok (.goto (-71), 3) := by decide +kernel
theorem dX10_ranks_88 : decode cX10_ranks 88 = .ok (.aload_n 0, 1) := by decide +kernel
theorem dX10_ranks_89 : decode cX10_ranks 89 = .ok (.getfield 26, 3) := by decide +kernel
theorem dX10_ranks_92 : decode cX10_ranks 92 = .ok (.iconst 0, 1) := by decide +kernel
theorem dX10_ranks_93 : decode cX10_ranks 93 = .ok (.laload, 1) := by decide +kernel
theorem dX10_ranks_94 : decode cX10_ranks 94 = .ok (.l2i, 1) := by decide +kernel
theorem dX10_ranks_95 : decode cX10_ranks 95 = .ok (.ireturn, 1) := by decide +kernel
theorem dX10_nth_0 : decode cX10_nth 0 = .ok (.aload_n 0, 1) := by decide +kernel
theorem dX10_nth_1 : decode cX10_nth 1 = .ok (.iconst 0, 1) := by decide +kernel
theorem dX10_nth_2 : decode cX10_nth 2 = .ok (.putfield 45, 3) := by decide +kernel
theorem dX10_nth_5 : decode cX10_nth 5 = .ok (.iload_n 1, 1) := by decide +kernel
theorem dX10_nth_6 : decode cX10_nth 6 = .ok (.i2l, 1) := by decide +kernel
theorem dX10_nth_7 : decode cX10_nth 7 = .ok (.lconst 1, 1) := by decide +kernel
theorem dX10_nth_8 : decode cX10_nth 8 = .ok (.ldc2_w 231, 3) := by decide +kernel
theorem dX10_nth_11 : decode cX10_nth 11 = .ok (.invokestatic 54, 3) := by decide +kernel
theorem dX10_nth_14 : decode cX10_nth 14 = .ok (.ifCond .eq 47, 3) := by decide +kernel
theorem dX10_nth_17 : decode cX10_nth 17 = .ok (.iload_n 2, 1) := by decide +kernel
theorem dX10_nth_18 : decode cX10_nth 18 = .ok (.i2l, 1) := by decide +kernel
theorem dX10_nth_19 : decode cX10_nth 19 = .ok (.lconst 1, 1) := by decide +kernel
theorem dX10_nth_20 : decode cX10_nth 20 = .ok (.ldc2_w 107, 3) := by decide +kernel
theorem dX10_nth_23 : decode cX10_nth 23 = .ok (.invokestatic 54, 3) := by decide +kernel
theorem dX10_nth_26 : decode cX10_nth 26 = .ok (.ifCond .eq 35, 3) := by decide +kernel
theorem dX10_nth_29 : decode cX10_nth 29 = .ok (.iload_n 3, 1) := by decide +kernel
theorem dX10_nth_30 : decode cX10_nth 30 = .ok (.i2l, 1) := by decide +kernel
theorem dX10_nth_31 : decode cX10_nth 31 = .ok (.lconst 0, 1) := by decide +kernel
theorem dX10_nth_32 : decode cX10_nth 32 = .ok (.ldc2_w 324, 3) := by decide +kernel
theorem dX10_nth_35 : decode cX10_nth 35 = .ok (.invokestatic 54, 3) := by decide +kernel
theorem dX10_nth_38 : decode cX10_nth 38 = .ok (.ifCond .eq 23, 3) := by decide +kernel
theorem dX10_nth_41 : decode cX10_nth 41 = .ok (.iload 4, 2) := by decide +kernel
theorem dX10_nth_43 : decode cX10_nth 43 = .ok (.i2l, 1) := by decide +kernel
theorem dX10_nth_44 : decode cX10_nth 44 = .ok (.ldc2_w 334, 3) := by decide +kernel
theorem dX10_nth_47 : decode cX10_nth 47 = .ok (.ldc2_w 328, 3) := by decide +kernel
theorem dX10_nth_50 : decode cX10_nth 50 = .ok (.invokestatic 54, 3) := by decide +kernel
theorem dX10_nth_53 : decode cX10_nth 53 = .ok (.ifCond .eq 8, 3) := by decide +kernel
theorem dX10_nth_56 : decode cX10_nth 56 = .ok (.iload 4, 2) := by decide +kernel
theorem dX10_nth_58 : decode cX10_nth 58 = .ok (.ifCond .ne 5, 3) := by decide +kernel
theorem dX10_nth_61 : decode cX10_nth 61 = .ok (.iconst (-1), 1) := by decide +kernel
theorem dX10_nth_62 : decode cX10_nth 62 = .ok (.ireturn, 1) := by decide +kernel
theorem dX10_nth_63 : decode cX10_nth 63 = .ok (.iload_n 1, 1) := by decide +kernel
theorem dX10_nth_64 : decode cX10_nth 64 = .ok (.iload_n 2, 1) := by decide +kernel
theorem dX10_nth_65 : decode cX10_nth 65 = .ok (.iconst 1, 1) := by decide +kernel
theorem dX10_nth_66 : decode cX10_nth 66 = .ok (.invokestatic 90, 3) := by decide +kernel
theorem dX10_nth_69 : decode cX10_nth 69 = .ok (.istore 5, 2) := by decide +kernel
theorem dX10_nth_71 : decode cX10_nth 71 = .ok (.iload 5, 2) := by decide +kernel
theorem dX10_nth_73 : decode cX10_nth 73 = .ok (.iload_n 1, 1) := by decide +kernel
theorem dX10_nth_74 : decode cX10_nth 74 = .ok (.iload_n 2, 1) := by decide +kernel
theorem dX10_nth_75 : decode cX10_nth 75 = .ok (.invokestatic 111, 3) := by decide +kernel
theorem dX10_nth_78 : decode cX10_nth 78 = .ok (.iadd, 1) := by decide +kernel
theorem dX10_nth_79 : decode cX10_nth 79 = .ok (.iconst 1, 1) := by decide +kernel
theorem dX10_nth_80 : decode cX10_nth 80 = .ok (.isub, 1) := by decide +kernel
theorem dX10_nth_81 : decode cX10_nth 81 = .ok (.istore 6, 2) := by decide +kernel
theorem dX10_nth_83 : decode cX10_nth 83 = .ok (.iload 4, 2) := by decide +kernel
theorem dX10_nth_85 : decode cX10_nth 85 = .ok (.ifCond .le 30, 3) := by decide +kernel
theorem dX10_nth_88 : decode cX10_nth 88 = .ok (.iload 5, 2) := by decide +kernel
theorem dX10_nth_90 : decode cX10_nth 90 = .ok (.iload_n 3, 1) := by decide +kernel
theorem dX10_nth_91 : decode cX10_nth 91 = .ok (.iload 5, 2) := by decide +kernel
theorem dX10_nth_93 : decode cX10_nth 93 = .ok (.bipush 7, 2) := by decide +kernel
theorem dX10_nth_95 : decode cX10_nth 95 = .ok (.irem, 1) := by decide +kernel
theorem dX10_nth_96 : decode cX10_nth 96 = .ok (.isub, 1) := by decide +kernel
theorem dX10_nth_97 : decode cX10_nth 97 = .ok (.bipush 7, 2) := by decide +kernel
theorem dX10_nth_99 : decode cX10_nth 99 = .ok (.iadd, 1) := by decide +kernel
theorem dX10_nth_100 : decode cX10_nth 100 = .ok (.bipush 7, 2) := by decide +kernel
theorem dX10_nth_102 : decode cX10_nth 102 = .ok (.irem, 1) := by decide +kernel
theorem dX10_nth_103 : decode cX10_nth 103 = .ok (.iadd, 1) := by decide +kernel
theorem dX10_nth_104 : decode cX10_nth 104 = .ok (.bipush 7, 2) := by decide +kernel
theorem dX10_nth_106 : decode cX10_nth 106 = .ok (.iload 4, 2) := by decide +kernel
theorem dX10_nth_108 : decode cX10_nth 108 = .ok (.iconst 1, 1) := by decide +kernel
theorem dX10_nth_109 : decode cX10_nth 109 = .ok (.isub, 1) := by decide +kernel
theorem dX10_nth_110 : decode cX10_nth 110 = .ok (.imul, 1) := by decide +kernel
theorem dX10_nth_111 : decode cX10_nth 111 = .ok (.iadd, 1) := by decide +kernel
theorem dX10_nth_112 : decode cX10_nth 112 = .ok (.goto 27, 3) := by decide +kernel
theorem dX10_nth_115 : decode cX10_nth 115 = .ok (.iload 6, 2) := by decide +kernel
theorem dX10_nth_117 : decode cX10_nth 117 = .ok (.iload 6, 2) := by decide +kernel
theorem dX10_nth_119 : decode cX10_nth 119 = .ok (.bipush 7, 2) := by decide +kernel
theorem dX10_nth_121 : decode cX10_nth 121 = .ok (.irem, 1) := by decide +kernel
theorem dX10_nth_122 : decode cX10_nth 122 = .ok (.iload_n 3, 1) := by decide +kernel
theorem dX10_nth_123 : decode cX10_nth 123 = .ok (.isub, 1) := by decide +kernel
theorem dX10_nth_124 : decode cX10_nth 124 = .ok (.bipush 7, 2) := by decide +kernel
theorem dX10_nth_126 : decode cX10_nth 126 = .ok (.iadd, 1) := by decide +kernel
theorem dX10_nth_127 : decode cX10_nth 127 = .ok (.bipush 7, 2) := by decide +kernel
theorem dX10_nth_129 : decode cX10_nth 129 = .ok (.irem, 1) := by decide +kernel
theorem dX10_nth_130 : decode cX10_nth 130 = .ok (.isub, 1) := by decide +kernel
theorem dX10_nth_131 : decode cX10_nth 131 = .ok (.bipush 7, 2) := by decide +kernel
theorem dX10_nth_133 : decode cX10_nth 133 = .ok (.iload 4, 2) := by decide +kernel
theorem dX10_nth_135 : decode cX10_nth 135 = .ok (.iconst 1, 1) := by decide +kernel
theorem dX10_nth_136 : decode cX10_nth 136 = .ok (.iadd, 1) := by decide +kernel
theorem dX10_nth_137 : decode cX10_nth 137 = .ok (.imul, 1) := by decide +kernel
theorem dX10_nth_138 : decode cX10_nth 138 = .ok (.iadd, 1) := by decide +kernel
theorem dX10_nth_139 : decode cX10_nth 139 = .ok (.istore 7, 2) := by decide +kernel
theorem dX10_nth_141 : decode cX10_nth 141 = .ok (.iload 7, 2) := by decide +kernel
theorem dX10_nth_143 : decode cX10_nth 143 = .ok (.i2l, 1) := by decide +kernel
theorem dX10_nth_144 : decode cX10_nth 144 = .ok (.iload 5, 2) := by decide +kernel
theorem dX10_nth_146 : decode cX10_nth 146 = .ok (.i2l, 1) := by decide +kernel
theorem dX10_nth_147 : decode cX10_nth 147 = .ok (.iload 6, 2) := by decide +kernel
theorem dX10_nth_149 : decode cX10_nth 149 = .ok (.i2l, 1) := by decide +kernel
theorem dX10_nth_150 : decode cX10_nth 150 = .ok (.invokestatic 54, 3) := by decide +kernel
theorem dX10_nth_153 : decode cX10_nth 153 = .ok (.ifCond .eq 8, 3) := by decide +kernel
theorem dX10_nth_156 : decode cX10_nth 156 = .ok (.iload 7, 2) := by decide +kernel
theorem dX10_nth_158 : decode cX10_nth 158 = .ok (.goto 5, 3) := by decide +kernel
theorem dX10_nth_161 : decode cX10_nth 161 = .ok (.bipush (-2), 2) := by decide +kernel
theorem dX10_nth_163 : decode cX10_nth 163 = .ok (.ireturn, 1) := by decide +kernel
theorem dX10_workdays_0 : decode cX10_workdays 0 = .ok (.aload_n 0, 1) := by decide +kernel
theorem dX10_workdays_1 : decode cX10_workdays 1 = .ok (.iconst 0, 1) := by decide +kernel
theorem dX10_workdays_2 : decode cX10_workdays 2 = .ok (.putfield 45, 3) := by decide +kernel
theorem dX10_workdays_5 : decode cX10_workdays 5 = .ok (.iload_n 1, 1) := by decide +kernel
theorem dX10_workdays_6 : decode cX10_workdays 6 = .ok (.invokestatic 179, 3) := by decide +kernel
theorem dX10_workdays_9 : decode cX10_workdays 9 = .ok (.ifCond .eq 10, 3) := by decide +kernel
theorem dX10_workdays_12 : decode cX10_workdays 12 = .ok (.iload_n 2, 1) := by decide +kernel
theorem dX10_workdays_13 : decode cX10_workdays 13 = .ok (.invokestatic 179, 3) := by decide +kernel
theorem dX10_workdays_16 : decode cX10_workdays 16 = .ok (.ifCond .ne 5, 3) := by decide +kernel
theorem dX10_workdays_19 : decode cX10_workdays 19 = .ok (.iconst (-1), 1) := by decide +kernel
theorem dX10_workdays_20 : decode cX10_workdays 20 = .ok (.ireturn, 1) := by decide +kernel
theorem dX10_workdays_21 : decode cX10_workdays 21 = .ok (.aload_n 0, 1) := by decide +kernel
theorem dX10_workdays_22 : decode cX10_workdays 22 = .ok (.getfield 9, 3) := by decide +kernel
theorem dX10_workdays_25 : decode cX10_workdays 25 = .ok (.iload_n 1, 1) := by decide +kernel
theorem dX10_workdays_26 : decode cX10_workdays 26 = .ok (.iaload, 1) := by decide +kernel
theorem dX10_workdays_27 : decode cX10_workdays 27 = .ok (.aload_n 0, 1) := by decide +kernel
theorem dX10_workdays_28 : decode cX10_workdays 28 = .ok (.getfield 9, 3) := by decide +kernel
theorem dX10_workdays_31 : decode cX10_workdays 31 = .ok (.iload_n 2, 1) := by decide +kernel
theorem dX10_workdays_32 : decode cX10_workdays 32 = .ok (.iaload, 1) := by decide +kernel
theorem dX10_workdays_33 : decode cX10_workdays 33 = .ok (.invokestatic 120, 3) := by decide +kernel
theorem dX10_workdays_36 : decode cX10_workdays 36 = .ok (.istore_n 3, 1) := by decide +kernel
theorem dX10_workdays_37 : decode cX10_workdays 37 = .ok (.aload_n 0, 1) := by decide +kernel
theorem dX10_workdays_38 : decode cX10_workdays 38 = .ok (.getfield 9, 3) := by decide +kernel
theorem dX10_workdays_41 : decode cX10_workdays 41 = .ok (.iload_n 1, 1) := by decide +kernel
theorem dX10_workdays_42 : decode cX10_workdays 42 = .ok (.iaload, 1) := by decide +kernel
theorem dX10_workdays_43 : decode cX10_workdays 43 = .ok (.aload_n 0, 1) := by decide +kernel
theorem dX10_workdays_44 : decode cX10_workdays 44 = .ok (.getfield 9, 3) := by decide +kernel
theorem dX10_workdays_47 : decode cX10_workdays 47 = .ok (.iload_n 2, 1) := by decide +kernel
theorem dX10_workdays_48 : decode cX10_workdays 48 = .ok (.iaload, 1) := by decide +kernel
theorem dX10_workdays_49 : decode cX10_workdays 49 = .ok (.invokestatic 115, 3) := by decide +kernel
theorem dX10_workdays_52 : decode cX10_workdays 52 = .ok (.istore 4, 2) := by decide +kernel
theorem dX10_workdays_54 : decode cX10_workdays 54 = .ok (.iconst 0, 1) := by decide +kernel
theorem dX10_workdays_55 : decode cX10_workdays 55 = .ok (.istore 5, 2) := by decide +kernel
theorem dX10_workdays_57 : decode cX10_workdays 57 = .ok (.aload_n 0, 1) := by decide +kernel
theorem dX10_workdays_58 : decode cX10_workdays 58 = .ok (.iconst 0, 1) := by decide +kernel
theorem dX10_workdays_59 : decode cX10_workdays 59 = .ok (.putfield 49, 3) := by decide +kernel
theorem dX10_workdays_62 : decode cX10_workdays 62 = .ok (.iconst 0, 1) := by decide +kernel
theorem dX10_workdays_63 : decode cX10_workdays 63 = .ok (.istore 6, 2) := by decide +kernel
theorem dX10_workdays_65 : decode cX10_workdays 65 = .ok (.iload 6, 2) := by decide +kernel
theorem dX10_workdays_67 : decode cX10_workdays 67 = .ok (.bipush 7, 2) := by decide +kernel
theorem dX10_workdays_69 : decode cX10_workdays 69 = .ok (.if_icmp .ge 57, 3) := by decide +kernel
theorem dX10_workdays_72 : decode cX10_workdays 72 = .ok (.iload 4, 2) := by decide +kernel
theorem dX10_workdays_74 : decode cX10_workdays 74 = .ok (.bipush 6, 2) := by decide +kernel
theorem dX10_workdays_76 : decode cX10_workdays 76 = .ok (.iadd, 1) := by decide +kernel
theorem dX10_workdays_77 : decode cX10_workdays 77 = .ok (.iload 6, 2) := by decide +kernel
theorem dX10_workdays_79 : decode cX10_workdays 79 = .ok (.isub, 1) := by decide +kernel
theorem dX10_workdays_80 : decode cX10_workdays 80 = .ok (.bipush 7, 2) := by decide +kernel
theorem dX10_workdays_82 : decode cX10_workdays 82 = .ok (.idiv, 1) := by decide +kernel
theorem dX10_workdays_83 : decode cX10_workdays 83 = .ok (.iload_n 3, 1) := by decide +kernel
theorem dX10_workdays_84 : decode cX10_workdays 84 = .ok (.bipush 6, 2) := by decide +kernel
theorem dX10_workdays_86 : decode cX10_workdays 86 = .ok (.iadd, 1) := by decide +kernel
theorem dX10_workdays_87 : decode cX10_workdays 87 = .ok (.iload 6, 2) := by decide +kernel
theorem dX10_workdays_89 : decode cX10_workdays 89 = .ok (.isub, 1) := by decide +kernel
theorem dX10_workdays_90 : decode cX10_workdays 90 = .ok (.bipush 7, 2) := by decide +kernel
theorem dX10_workdays_92 : decode cX10_workdays 92 = .ok (.idiv, 1) := by decide +kernel
theorem dX10_workdays_93 : decode cX10_workdays 93 = .ok (.isub, 1) := by decide +kernel
theorem dX10_workdays_94 : decode cX10_workdays 94 = .ok (.istore 7, 2) := by decide +kernel
theorem dX10_workdays_96 : decode cX10_workdays 96 = .ok (.aload_n 0, 1) := by decide +kernel
theorem dX10_workdays_97 : decode cX10_workdays 97 = .ok (.iload 7, 2) := by decide +kernel
theorem dX10_workdays_99 : decode cX10_workdays 99 = .ok (.i2l, 1) := by decide +kernel
theorem dX10_workdays_100 : decode cX10_workdays 100 = .ok (.invokevirtual 208, 3) := by decide +kernel
theorem dX10_workdays_103 : decode cX10_workdays 103 = .ok (.iload 5, 2) := by decide +kernel
theorem dX10_workdays_105 : decode cX10_workdays 105 = .ok (.iload 6, 2) := by decide +kernel
theorem dX10_workdays_107 : decode cX10_workdays 107 = .ok (.iconst 5, 1) := by decide +kernel
theorem dX10_workdays_108 : decode cX10_workdays 108 = .ok (.if_icmp .ge 8, 3) := by decide +kernel
theorem dX10_workdays_111 : decode cX10_workdays 111 = .ok (.iload 7, 2) := by decide +kernel
theorem dX10_workdays_113 : decode cX10_workdays 113 = .ok (.goto 4, 3) := by decide +kernel
theorem dX10_workdays_116 : decode cX10_workdays 116 = .ok (.iconst 0, 1) := by decide +kernel
theorem dX10_workdays_117 : decode cX10_workdays 117 = .ok (.iadd, 1) := by decide +kernel
theorem dX10_workdays_118 : decode cX10_workdays 118 = .ok (.istore 5, 2) := by decide +kernel
theorem dX10_workdays_120 : decode cX10_workdays 120 = .ok (.iinc 6 1, 3) := by decide +kernel
theorem dX10_workdays_123 : decode cX10_workdays 123 = .ok (.goto (-58), 3) := by decide +kernel
theorem dX10_workdays_126 : decode cX10_workdays 126 = .ok (.aload_n 0, 1) := by decide +kernel
theorem dX10_workdays_127 : decode cX10_workdays 127 = .ok (.getfield 9, 3) := by decide +kernel
theorem dX10_workdays_130 : decode cX10_workdays 130 = .ok (.iload_n 2, 1) := by decide +kernel
theorem dX10_workdays_131 : decode cX10_workdays 131 = .ok (.iaload, 1) := by decide +kernel
theorem dX10_workdays_132 : decode cX10_workdays 132 = .ok (.aload_n 0, 1) := by decide +kernel
theorem dX10_workdays_133 : decode cX10_workdays 133 = .ok (.getfield 9, 3) := by decide +kernel
theorem dX10_workdays_136 : decode cX10_workdays 136 = .ok (.iload_n 1, 1) := by decide +kernel
theorem dX10_workdays_137 : decode cX10_workdays 137 = .ok (.iaload, 1) := by decide +kernel
theorem dX10_workdays_138 : decode cX10_workdays 138 = .ok (.if_icmp .ge 9, 3) := by decide +kernel
theorem dX10_workdays_141 : decode cX10_workdays 141 = .ok (.iload 5, 2) := by decide +kernel
theorem dX10_workdays_143 : decode cX10_workdays 143 = .ok (.ineg, 1) := by decide +kernel
theorem dX10_workdays_144 : decode cX10_workdays 144 = .ok (.goto 5, 3) := by decide +kernel
theorem dX10_workdays_147 : decode cX10_workdays 147 = .ok (.iload 5, 2) := by decide +kernel
theorem dX10_workdays_149 : decode cX10_workdays 149 = .ok (.ireturn, 1) := by decide +kernel
theorem dX10_shifts_0 : decode cX10_shifts 0 = .ok (.aload_n 0, 1) := by decide +kernel
theorem dX10_shifts_1 : decode cX10_shifts 1 = .ok (.iconst 0, 1) := by decide +kernel
theorem dX10_shifts_2 : decode cX10_shifts 2 = .ok (.putfield 45, 3) := by decide +kernel
theorem dX10_shifts_5 : decode cX10_shifts 5 = .ok (.iload_n 1, 1) := by decide +kernel
theorem dX10_shifts_6 : decode cX10_shifts 6 = .ok (.invokestatic 179, 3) := by decide +kernel
theorem dX10_shifts_9 : decode cX10_shifts 9 = .ok (.ifCond .eq 24, 3) := by decide +kernel
theorem dX10_shifts_12 : decode cX10_shifts 12 = .ok (.iload_n 2, 1) := by decide +kernel
theorem dX10_shifts_13 : decode cX10_shifts 13 = .ok (.i2l, 1) := by decide +kernel
theorem dX10_shifts_14 : decode cX10_shifts 14 = .ok (.ldc2_w 336, 3) := by decide +kernel
theorem dX10_shifts_17 : decode cX10_shifts 17 = .ok (.ldc2_w 249, 3) := by decide +kernel
theorem dX10_shifts_20 : decode cX10_shifts 20 = .ok (.invokestatic 54, 3) := by decide +kernel
theorem dX10_shifts_23 : decode cX10_shifts 23 = .ok (.ifCond .eq 10, 3) := by decide +kernel
theorem dX10_shifts_26 : decode cX10_shifts 26 = .ok (.iload_n 3, 1) := by decide +kernel
theorem dX10_shifts_27 : decode cX10_shifts 27 = .ok (.invokestatic 179, 3) := by decide +kernel
theorem dX10_shifts_30 : decode cX10_shifts 30 = .ok (.ifCond .ne 5, 3) := by decide +kernel
theorem dX10_shifts_33 : decode cX10_shifts 33 = .ok (.iconst (-1), 1) := by decide +kernel
theorem dX10_shifts_34 : decode cX10_shifts 34 = .ok (.ireturn, 1) := by decide +kernel
theorem dX10_shifts_35 : decode cX10_shifts 35 = .ok (.aload_n 0, 1) := by decide +kernel
theorem dX10_shifts_36 : decode cX10_shifts 36 = .ok (.getfield 9, 3) := by decide +kernel
theorem dX10_shifts_39 : decode cX10_shifts 39 = .ok (.iload_n 1, 1) := by decide +kernel
theorem dX10_shifts_40 : decode cX10_shifts 40 = .ok (.iaload, 1) := by decide +kernel
theorem dX10_shifts_41 : decode cX10_shifts 41 = .ok (.istore 4, 2) := by decide +kernel
theorem dX10_shifts_43 : decode cX10_shifts 43 = .ok (.iload_n 2, 1) := by decide +kernel
theorem dX10_shifts_44 : decode cX10_shifts 44 = .ok (.i2l, 1) := by decide +kernel
theorem dX10_shifts_45 : decode cX10_shifts 45 = .ok (.invokestatic 277, 3) := by decide +kernel
theorem dX10_shifts_48 : decode cX10_shifts 48 = .ok (.l2i, 1) := by decide +kernel
theorem dX10_shifts_49 : decode cX10_shifts 49 = .ok (.istore 5, 2) := by decide +kernel
theorem dX10_shifts_51 : decode cX10_shifts 51 = .ok (.iconst 0, 1) := by decide +kernel
theorem dX10_shifts_52 : decode cX10_shifts 52 = .ok (.istore 6, 2) := by decide +kernel
theorem dX10_shifts_54 : decode cX10_shifts 54 = .ok (.iload 5, 2) := by decide +kernel
theorem dX10_shifts_56 : decode cX10_shifts 56 = .ok (.ifCond .le 50, 3) := by decide +kernel
theorem dX10_shifts_59 : decode cX10_shifts 59 = .ok (.iload 4, 2) := by decide +kernel
theorem dX10_shifts_61 : decode cX10_shifts 61 = .ok (.iload_n 2, 1) := by decide +kernel
theorem dX10_shifts_62 : decode cX10_shifts 62 = .ok (.ifCond .ge 7, 3) := by decide +kernel
theorem dX10_shifts_65 : decode cX10_shifts 65 = .ok (.iconst (-1), 1) := by decide +kernel
theorem dX10_shifts_66 : decode cX10_shifts 66 = .ok (.goto 4, 3) := by decide +kernel
theorem dX10_shifts_69 : decode cX10_shifts 69 = .ok (.iconst 1, 1) := by decide +kernel
theorem dX10_shifts_70 : decode cX10_shifts 70 = .ok (.iadd, 1) := by decide +kernel
theorem dX10_shifts_71 : decode cX10_shifts 71 = .ok (.istore 4, 2) := by decide +kernel
theorem dX10_shifts_73 : decode cX10_shifts 73 = .ok (.iload 4, 2) := by decide +kernel
theorem dX10_shifts_75 : decode cX10_shifts 75 = .ok (.i2l, 1) := by decide +kernel
theorem dX10_shifts_76 : decode cX10_shifts 76 = .ok (.invokestatic 123, 3) := by decide +kernel
theorem dX10_shifts_79 : decode cX10_shifts 79 = .ok (.ifCond .ne 6, 3) := by decide +kernel
theorem dX10_shifts_82 : decode cX10_shifts 82 = .ok (.bipush (-2), 2) := by decide +kernel
theorem dX10_shifts_84 : decode cX10_shifts 84 = .ok (.ireturn, 1) := by decide +kernel
theorem dX10_shifts_85 : decode cX10_shifts 85 = .ok (.iload 4, 2) := by decide +kernel
theorem dX10_shifts_87 : decode cX10_shifts 87 = .ok (.bipush 7, 2) := by decide +kernel
theorem dX10_shifts_89 : decode cX10_shifts 89 = .ok (.irem, 1) := by decide +kernel
theorem dX10_shifts_90 : decode cX10_shifts 90 = .ok (.iconst 5, 1) := by decide +kernel
theorem dX10_shifts_91 : decode cX10_shifts 91 = .ok (.if_icmp .ge 9, 3) := by decide +kernel
theorem dX10_shifts_94 : decode cX10_shifts 94 = .ok (.iinc 5 (-1), 3) := by decide +kernel
theorem dX10_shifts_97 : decode cX10_shifts 97 = .ok (.goto (-43), 3) := by decide +kernel
theorem dX10_shifts_100 : decode cX10_shifts 100 = .ok (.iinc 6 1, 3) := by decide +kernel
theorem dX10_shifts_103 : decode cX10_shifts 103 = .ok (.goto (-49), 3) := by decide +kernel
theorem dX10_shifts_106 : decode cX10_shifts 106 = .ok (.aload_n 0, 1) := by decide +kernel
theorem dX10_shifts_107 : decode cX10_shifts 107 = .ok (.iload 4, 2) := by decide +kernel
theorem dX10_shifts_109 : decode cX10_shifts 109 = .ok (.aload_n 0, 1) := by decide +kernel
theorem dX10_shifts_110 : decode cX10_shifts 110 = .ok (.getfield 13, 3) := by decide +kernel
theorem dX10_shifts_113 : decode cX10_shifts 113 = .ok (.iload_n 1, 1) := by decide +kernel
theorem dX10_shifts_114 : decode cX10_shifts 114 = .ok (.iaload, 1) := by decide +kernel
theorem dX10_shifts_115 : decode cX10_shifts 115 = .ok (.invokevirtual 146, 3) := by decide +kernel
theorem dX10_shifts_118 : decode cX10_shifts 118 = .ok (.aload_n 0, 1) := by decide +kernel
theorem dX10_shifts_119 : decode cX10_shifts 119 = .ok (.iload_n 3, 1) := by decide +kernel
theorem dX10_shifts_120 : decode cX10_shifts 120 = .ok (.invokevirtual 182, 3) := by decide +kernel
theorem dX10_shifts_123 : decode cX10_shifts 123 = .ok (.aload_n 0, 1) := by decide +kernel
theorem dX10_shifts_124 : decode cX10_shifts 124 = .ok (.iconst 0, 1) := by decide +kernel
theorem dX10_shifts_125 : decode cX10_shifts 125 = .ok (.putfield 49, 3) := by decide +kernel
theorem dX10_shifts_128 : decode cX10_shifts 128 = .ok (.aload_n 0, 1) := by decide +kernel
theorem dX10_shifts_129 : decode cX10_shifts 129 = .ok (.iload 6, 2) := by decide +kernel
theorem dX10_shifts_131 : decode cX10_shifts 131 = .ok (.i2l, 1) := by decide +kernel
theorem dX10_shifts_132 : decode cX10_shifts 132 = .ok (.invokevirtual 208, 3) := by decide +kernel
theorem dX10_shifts_135 : decode cX10_shifts 135 = .ok (.iload 4, 2) := by decide +kernel
theorem dX10_shifts_137 : decode cX10_shifts 137 = .ok (.ireturn, 1) := by decide +kernel
theorem dX10_overlaps_0 : decode cX10_overlaps 0 = .ok (.aload_n 0, 1) := by decide +kernel
theorem dX10_overlaps_1 : decode cX10_overlaps 1 = .ok (.iconst 0, 1) := by decide +kernel
theorem dX10_overlaps_2 : decode cX10_overlaps 2 = .ok (.putfield 45, 3) := by decide +kernel
theorem dX10_overlaps_5 : decode cX10_overlaps 5 = .ok (.iload_n 1, 1) := by decide +kernel
theorem dX10_overlaps_6 : decode cX10_overlaps 6 = .ok (.invokestatic 179, 3) := by decide +kernel
theorem dX10_overlaps_9 : decode cX10_overlaps 9 = .ok (.ifCond .eq 25, 3) := by decide +kernel
theorem dX10_overlaps_12 : decode cX10_overlaps 12 = .ok (.iload_n 2, 1) := by decide +kernel
theorem dX10_overlaps_13 : decode cX10_overlaps 13 = .ok (.invokestatic 179, 3) := by decide +kernel
theorem dX10_overlaps_16 : decode cX10_overlaps 16 = .ok (.ifCond .eq 18, 3) := by decide +kernel
theorem dX10_overlaps_19 : decode cX10_overlaps 19 = .ok (.iload_n 3, 1) := by decide +kernel
theorem dX10_overlaps_20 : decode cX10_overlaps 20 = .ok (.invokestatic 179, 3) := by decide +kernel
theorem dX10_overlaps_23 : decode cX10_overlaps 23 = .ok (.ifCond .eq 11, 3) := by decide +kernel
theorem dX10_overlaps_26 : decode cX10_overlaps 26 = .ok (.iload 4, 2) := by decide +kernel
theorem dX10_overlaps_28 : decode cX10_overlaps 28 = .ok (.invokestatic 179, 3) := by decide +kernel
theorem dX10_overlaps_31 : decode cX10_overlaps 31 = .ok (.ifCond .ne 7, 3) := by decide +kernel
theorem dX10_overlaps_34 : decode cX10_overlaps 34 = .ok (.ldc2_w 281, 3) := by decide +kernel
theorem dX10_overlaps_37 : decode cX10_overlaps 37 = .ok (.lreturn, 1) := by decide +kernel
theorem dX10_overlaps_38 : decode cX10_overlaps 38 = .ok (.aload_n 0, 1) := by decide +kernel
theorem dX10_overlaps_39 : decode cX10_overlaps 39 = .ok (.iload_n 1, 1) := by decide +kernel
theorem dX10_overlaps_40 : decode cX10_overlaps 40 = .ok (.invokevirtual 270, 3) := by decide +kernel
theorem dX10_overlaps_43 : decode cX10_overlaps 43 = .ok (.aload_n 0, 1) := by decide +kernel
theorem dX10_overlaps_44 : decode cX10_overlaps 44 = .ok (.iload_n 2, 1) := by decide +kernel
theorem dX10_overlaps_45 : decode cX10_overlaps 45 = .ok (.invokevirtual 270, 3) := by decide +kernel
theorem dX10_overlaps_48 : decode cX10_overlaps 48 = .ok (.invokestatic 338, 3) := by decide +kernel
theorem dX10_overlaps_51 : decode cX10_overlaps 51 = .ok (.aload_n 0, 1) := by decide +kernel
theorem dX10_overlaps_52 : decode cX10_overlaps 52 = .ok (.iload_n 3, 1) := by decide +kernel
theorem dX10_overlaps_53 : decode cX10_overlaps 53 = .ok (.invokevirtual 270, 3) := by decide +kernel
theorem dX10_overlaps_56 : decode cX10_overlaps 56 = .ok (.aload_n 0, 1) := by decide +kernel
theorem dX10_overlaps_57 : decode cX10_overlaps 57 = .ok (.iload 4, 2) := by decide +kernel
theorem dX10_overlaps_59 : decode cX10_overlaps 59 = .ok (.invokevirtual 270, 3) := by decide +kernel
theorem dX10_overlaps_62 : decode cX10_overlaps 62 = .ok (.invokestatic 338, 3) := by decide +kernel
theorem dX10_overlaps_65 : decode cX10_overlaps 65 = .ok (.invokestatic 341, 3) := by decide +kernel
theorem dX10_overlaps_68 : decode cX10_overlaps 68 = .ok (.lstore 5, 2) := by decide +kernel
theorem dX10_overlaps_70 : decode cX10_overlaps 70 = .ok (.aload_n 0, 1) := by decide +kernel
theorem dX10_overlaps_71 : decode cX10_overlaps 71 = .ok (.iload_n 1, 1) := by decide +kernel
theorem dX10_overlaps_72 : decode cX10_overlaps 72 = .ok (.invokevirtual 270, 3) := by decide +kernel
theorem dX10_overlaps_75 : decode cX10_overlaps 75 = .ok (.aload_n 0, 1) := by decide +kernel
theorem dX10_overlaps_76 : decode cX10_overlaps 76 = .ok (.iload_n 2, 1) := by decide +kernel
theorem dX10_overlaps_77 : decode cX10_overlaps 77 = .ok (.invokevirtual 270, 3) := by decide +kernel
theorem dX10_overlaps_80 : decode cX10_overlaps 80 = .ok (.invokestatic 341, 3) := by decide +kernel
theorem dX10_overlaps_83 : decode cX10_overlaps 83 = .ok (.aload_n 0, 1) := by decide +kernel
theorem dX10_overlaps_84 : decode cX10_overlaps 84 = .ok (.iload_n 3, 1) := by decide +kernel
theorem dX10_overlaps_85 : decode cX10_overlaps 85 = .ok (.invokevirtual 270, 3) := by decide +kernel
theorem dX10_overlaps_88 : decode cX10_overlaps 88 = .ok (.aload_n 0, 1) := by decide +kernel
theorem dX10_overlaps_89 : decode cX10_overlaps 89 = .ok (.iload 4, 2) := by decide +kernel
theorem dX10_overlaps_91 : decode cX10_overlaps 91 = .ok (.invokevirtual 270, 3) := by decide +kernel
theorem dX10_overlaps_94 : decode cX10_overlaps 94 = .ok (.invokestatic 341, 3) := by decide +kernel
theorem dX10_overlaps_97 : decode cX10_overlaps 97 = .ok (.invokestatic 338, 3) := by decide +kernel
theorem dX10_overlaps_100 : decode cX10_overlaps 100 = .ok (.lstore 7, 2) := by decide +kernel
theorem dX10_overlaps_102 : decode cX10_overlaps 102 = .ok (.aload_n 0, 1) := by decide +kernel
theorem dX10_overlaps_103 : decode cX10_overlaps 103 = .ok (.iconst 0, 1) := by decide +kernel
theorem dX10_overlaps_104 : decode cX10_overlaps 104 = .ok (.putfield 49, 3) := by decide +kernel
theorem dX10_overlaps_107 : decode cX10_overlaps 107 = .ok (.aload_n 0, 1) := by decide +kernel
theorem dX10_overlaps_108 : decode cX10_overlaps 108 = .ok (.lload 5, 2) := by decide +kernel
theorem dX10_overlaps_110 : decode cX10_overlaps 110 = .ok (.invokevirtual 208, 3) := by decide +kernel
theorem dX10_overlaps_113 : decode cX10_overlaps 113 = .ok (.aload_n 0, 1) := by decide +kernel
theorem dX10_overlaps_114 : decode cX10_overlaps 114 = .ok (.lconst 0, 1) := by decide +kernel
theorem dX10_overlaps_115 : decode cX10_overlaps 115 = .ok (.lload 5, 2) := by decide +kernel
theorem dX10_overlaps_117 : decode cX10_overlaps 117 = .ok (.lload 7, 2) := by decide +kernel
theorem dX10_overlaps_119 : decode cX10_overlaps 119 = .ok (.lsub, 1) := by decide +kernel
theorem dX10_overlaps_120 : decode cX10_overlaps 120 = .ok (.invokestatic 341, 3) := by decide +kernel
theorem dX10_overlaps_123 : decode cX10_overlaps 123 = .ok (.invokevirtual 208, 3) := by decide +kernel
theorem dX10_overlaps_126 : decode cX10_overlaps 126 = .ok (.lconst 0, 1) := by decide +kernel
theorem dX10_overlaps_127 : decode cX10_overlaps 127 = .ok (.lload 7, 2) := by decide +kernel
theorem dX10_overlaps_129 : decode cX10_overlaps 129 = .ok (.lload 5, 2) := by decide +kernel
theorem dX10_overlaps_131 : decode cX10_overlaps 131 = .ok (.lsub, 1) := by decide +kernel
theorem dX10_overlaps_132 : decode cX10_overlaps 132 = .ok (.invokestatic 341, 3) := by decide +kernel
theorem dX10_overlaps_135 : decode cX10_overlaps 135 = .ok (.lreturn, 1) := by decide +kernel
theorem dX10_leaps_0 : decode cX10_leaps 0 = .ok (.aload_n 0, 1) := by decide +kernel
theorem dX10_leaps_1 : decode cX10_leaps 1 = .ok (.iconst 0, 1) := by decide +kernel
theorem dX10_leaps_2 : decode cX10_leaps 2 = .ok (.putfield 45, 3) := by decide +kernel
theorem dX10_leaps_5 : decode cX10_leaps 5 = .ok (.iload_n 1, 1) := by decide +kernel
theorem dX10_leaps_6 : decode cX10_leaps 6 = .ok (.invokestatic 179, 3) := by decide +kernel
theorem dX10_leaps_9 : decode cX10_leaps 9 = .ok (.ifCond .eq 10, 3) := by decide +kernel
theorem dX10_leaps_12 : decode cX10_leaps 12 = .ok (.iload_n 2, 1) := by decide +kernel
theorem dX10_leaps_13 : decode cX10_leaps 13 = .ok (.invokestatic 179, 3) := by decide +kernel
theorem dX10_leaps_16 : decode cX10_leaps 16 = .ok (.ifCond .ne 5, 3) := by decide +kernel
theorem dX10_leaps_19 : decode cX10_leaps 19 = .ok (.iconst (-1), 1) := by decide +kernel
theorem dX10_leaps_20 : decode cX10_leaps 20 = .ok (.ireturn, 1) := by decide +kernel
theorem dX10_leaps_21 : decode cX10_leaps 21 = .ok (.aload_n 0, 1) := by decide +kernel
theorem dX10_leaps_22 : decode cX10_leaps 22 = .ok (.getfield 9, 3) := by decide +kernel
theorem dX10_leaps_25 : decode cX10_leaps 25 = .ok (.iload_n 1, 1) := by decide +kernel
theorem dX10_leaps_26 : decode cX10_leaps 26 = .ok (.iaload, 1) := by decide +kernel
theorem dX10_leaps_27 : decode cX10_leaps 27 = .ok (.aload_n 0, 1) := by decide +kernel
theorem dX10_leaps_28 : decode cX10_leaps 28 = .ok (.getfield 9, 3) := by decide +kernel
theorem dX10_leaps_31 : decode cX10_leaps 31 = .ok (.iload_n 2, 1) := by decide +kernel
theorem dX10_leaps_32 : decode cX10_leaps 32 = .ok (.iaload, 1) := by decide +kernel
theorem dX10_leaps_33 : decode cX10_leaps 33 = .ok (.invokestatic 120, 3) := by decide +kernel
theorem dX10_leaps_36 : decode cX10_leaps 36 = .ok (.istore_n 3, 1) := by decide +kernel
theorem dX10_leaps_37 : decode cX10_leaps 37 = .ok (.aload_n 0, 1) := by decide +kernel
theorem dX10_leaps_38 : decode cX10_leaps 38 = .ok (.getfield 9, 3) := by decide +kernel
theorem dX10_leaps_41 : decode cX10_leaps 41 = .ok (.iload_n 1, 1) := by decide +kernel
theorem dX10_leaps_42 : decode cX10_leaps 42 = .ok (.iaload, 1) := by decide +kernel
theorem dX10_leaps_43 : decode cX10_leaps 43 = .ok (.aload_n 0, 1) := by decide +kernel
theorem dX10_leaps_44 : decode cX10_leaps 44 = .ok (.getfield 9, 3) := by decide +kernel
theorem dX10_leaps_47 : decode cX10_leaps 47 = .ok (.iload_n 2, 1) := by decide +kernel
theorem dX10_leaps_48 : decode cX10_leaps 48 = .ok (.iaload, 1) := by decide +kernel
theorem dX10_leaps_49 : decode cX10_leaps 49 = .ok (.invokestatic 115, 3) := by decide +kernel
theorem dX10_leaps_52 : decode cX10_leaps 52 = .ok (.istore 4, 2) := by decide +kernel
theorem dX10_leaps_54 : decode cX10_leaps 54 = .ok (.aload_n 0, 1) := by decide +kernel
theorem dX10_leaps_55 : decode cX10_leaps 55 = .ok (.iload 4, 2) := by decide +kernel
theorem dX10_leaps_57 : decode cX10_leaps 57 = .ok (.invokevirtual 97, 3) := by decide +kernel
theorem dX10_leaps_60 : decode cX10_leaps 60 = .ok (.aload_n 0, 1) := by decide +kernel
theorem dX10_leaps_61 : decode cX10_leaps 61 = .ok (.getfield 84, 3) := by decide +kernel
theorem dX10_leaps_64 : decode cX10_leaps 64 = .ok (.istore 5, 2) := by decide +kernel
theorem dX10_leaps_66 : decode cX10_leaps 66 = .ok (.aload_n 0, 1) := by decide +kernel
theorem dX10_leaps_67 : decode cX10_leaps 67 = .ok (.iload_n 3, 1) := by decide +kernel
theorem dX10_leaps_68 : decode cX10_leaps 68 = .ok (.invokevirtual 97, 3) := by decide +kernel
theorem dX10_leaps_71 : decode cX10_leaps 71 = .ok (.iconst 0, 1) := by decide +kernel
theorem dX10_leaps_72 : decode cX10_leaps 72 = .ok (.istore 6, 2) := by decide +kernel
theorem dX10_leaps_74 : decode cX10_leaps 74 = .ok (.iconst (-1), 1) := by decide +kernel
theorem dX10_leaps_75 : decode cX10_leaps 75 = .ok (.istore 7, 2) := by decide +kernel
theorem dX10_leaps_77 : decode cX10_leaps 77 = .ok (.iconst (-1), 1) := by decide +kernel
theorem dX10_leaps_78 : decode cX10_leaps 78 = .ok (.istore 8, 2) := by decide +kernel
theorem dX10_leaps_80 : decode cX10_leaps 80 = .ok (.aload_n 0, 1) := by decide +kernel
theorem dX10_leaps_81 : decode cX10_leaps 81 = .ok (.getfield 84, 3) := by decide +kernel
theorem dX10_leaps_84 : decode cX10_leaps 84 = .ok (.istore 9, 2) := by decide +kernel
theorem dX10_leaps_86 : decode cX10_leaps 86 = .ok (.iload 9, 2) := by decide +kernel
theorem dX10_leaps_88 : decode cX10_leaps 88 = .ok (.iload 5, 2) := by decide +kernel
theorem dX10_leaps_90 : decode cX10_leaps 90 = .ok (.if_icmp .gt 68, 3) := by decide +kernel
theorem dX10_leaps_93 : decode cX10_leaps 93 = .ok (.iload 9, 2) := by decide +kernel
theorem dX10_leaps_95 : decode cX10_leaps 95 = .ok (.invokestatic 69, 3) := by decide +kernel
theorem dX10_leaps_98 : decode cX10_leaps 98 = .ok (.ifCond .eq 14, 3) := by decide +kernel
theorem dX10_leaps_101 : decode cX10_leaps 101 = .ok (.iload 9, 2) := by decide +kernel
theorem dX10_leaps_103 : decode cX10_leaps 103 = .ok (.iconst 2, 1) := by decide +kernel
theorem dX10_leaps_104 : decode cX10_leaps 104 = .ok (.bipush 29, 2) := by decide +kernel
theorem dX10_leaps_106 : decode cX10_leaps 106 = .ok (.invokestatic 90, 3) := by decide +kernel
theorem dX10_leaps_109 : decode cX10_leaps 109 = .ok (.goto 4, 3) := by decide +kernel
theorem dX10_leaps_112 : decode cX10_leaps 112 = .ok (.iconst (-1), 1) := by decide +kernel
theorem dX10_leaps_113 : decode cX10_leaps 113 = .ok (.istore 10, 2) := by decide +kernel
theorem dX10_leaps_115 : decode cX10_leaps 115 = .ok (.iload 10, 2) := by decide +kernel
theorem dX10_leaps_117 : decode cX10_leaps 117 = .ok (.iload_n 3, 1) := by decide +kernel
theorem dX10_leaps_118 : decode cX10_leaps 118 = .ok (.if_icmp .lt 34, 3) := by decide +kernel
theorem dX10_leaps_121 : decode cX10_leaps 121 = .ok (.iload 10, 2) := by decide +kernel
theorem dX10_leaps_123 : decode cX10_leaps 123 = .ok (.iload 4, 2) := by decide +kernel
theorem dX10_leaps_125 : decode cX10_leaps 125 = .ok (.if_icmp .le 6, 3) := by decide +kernel
theorem dX10_leaps_128 : decode cX10_leaps 128 = .ok (.goto 24, 3) := by decide +kernel
theorem dX10_leaps_131 : decode cX10_leaps 131 = .ok (.iload 6, 2) := by decide +kernel
theorem dX10_leaps_133 : decode cX10_leaps 133 = .ok (.ifCond .ne 8, 3) := by decide +kernel
theorem dX10_leaps_136 : decode cX10_leaps 136 = .ok (.iload 10, 2) := by decide +kernel
theorem dX10_leaps_138 : decode cX10_leaps 138 = .ok (.goto 5, 3) := by decide +kernel
theorem dX10_leaps_141 : decode cX10_leaps 141 = .ok (.iload 7, 2) := by decide +kernel
theorem dX10_leaps_143 : decode cX10_leaps 143 = .ok (.istore 7, 2) := by decide +kernel
theorem dX10_leaps_145 : decode cX10_leaps 145 = .ok (.iload 10, 2) := by decide +kernel
theorem dX10_leaps_147 : decode cX10_leaps 147 = .ok (.istore 8, 2) := by decide +kernel
theorem dX10_leaps_149 : decode cX10_leaps 149 = .ok (.iinc 6 1, 3) := by decide +kernel
theorem dX10_leaps_152 : decode cX10_leaps 152 = .ok (.iinc 9 1, 3) := by decide +kernel
theorem dX10_leaps_155 : decode cX10_leaps 155 = .ok (.goto (-69), 3) := by decide +kernel
theorem dX10_leaps_158 : decode cX10_leaps 158 = .ok (.aload_n 0, 1) := by decide +kernel
theorem dX10_leaps_159 : decode cX10_leaps 159 = .ok (.iconst 0, 1) := by decide +kernel
theorem dX10_leaps_160 : decode cX10_leaps 160 = .ok (.putfield 49, 3) := by decide +kernel
theorem dX10_leaps_163 : decode cX10_leaps 163 = .ok (.aload_n 0, 1) := by decide +kernel
theorem dX10_leaps_164 : decode cX10_leaps 164 = .ok (.iload 7, 2) := by decide +kernel
theorem dX10_leaps_166 : decode cX10_leaps 166 = .ok (.i2l, 1) := by decide +kernel
theorem dX10_leaps_167 : decode cX10_leaps 167 = .ok (.invokevirtual 208, 3) := by decide +kernel
theorem dX10_leaps_170 : decode cX10_leaps 170 = .ok (.aload_n 0, 1) := by decide +kernel
theorem dX10_leaps_171 : decode cX10_leaps 171 = .ok (.iload 8, 2) := by decide +kernel
theorem dX10_leaps_173 : decode cX10_leaps 173 = .ok (.i2l, 1) := by decide +kernel
theorem dX10_leaps_174 : decode cX10_leaps 174 = .ok (.invokevirtual 208, 3) := by decide +kernel
theorem dX10_leaps_177 : decode cX10_leaps 177 = .ok (.iload 6, 2) := by decide +kernel
theorem dX10_leaps_179 : decode cX10_leaps 179 = .ok (.ireturn, 1) := by decide +kernel
theorem dX10_mean_0 : decode cX10_mean 0 = .ok (.aload_n 0, 1) := by decide +kernel
theorem dX10_mean_1 : decode cX10_mean 1 = .ok (.iconst 0, 1) := by decide +kernel
theorem dX10_mean_2 : decode cX10_mean 2 = .ok (.putfield 45, 3) := by decide +kernel
theorem dX10_mean_5 : decode cX10_mean 5 = .ok (.iload_n 1, 1) := by decide +kernel
theorem dX10_mean_6 : decode cX10_mean 6 = .ok (.i2l, 1) := by decide +kernel
theorem dX10_mean_7 : decode cX10_mean 7 = .ok (.lconst 1, 1) := by decide +kernel
theorem dX10_mean_8 : decode cX10_mean 8 = .ok (.ldc2_w 343, 3) := by decide +kernel
theorem dX10_mean_11 : decode cX10_mean 11 = .ok (.invokestatic 54, 3) := by decide +kernel
theorem dX10_mean_14 : decode cX10_mean 14 = .ok (.ifCond .ne 5, 3) := by decide +kernel
theorem dX10_mean_17 : decode cX10_mean 17 = .ok (.iconst (-1), 1) := by decide +kernel
theorem dX10_mean_18 : decode cX10_mean 18 = .ok (.ireturn, 1) := by decide +kernel
theorem dX10_mean_19 : decode cX10_mean 19 = .ok (.lconst 0, 1) := by decide +kernel
theorem dX10_mean_20 : decode cX10_mean 20 = .ok (.lstore_n 2, 1) := by decide +kernel
theorem dX10_mean_21 : decode cX10_mean 21 = .ok (.iconst 0, 1) := by decide +kernel
theorem dX10_mean_22 : decode cX10_mean 22 = .ok (.istore 4, 2) := by decide +kernel
theorem dX10_mean_24 : decode cX10_mean 24 = .ok (.iconst (-1), 1) := by decide +kernel
theorem dX10_mean_25 : decode cX10_mean 25 = .ok (.istore 5, 2) := by decide +kernel
theorem dX10_mean_27 : decode cX10_mean 27 = .ok (.iconst (-1), 1) := by decide +kernel
theorem dX10_mean_28 : decode cX10_mean 28 = .ok (.istore 6, 2) := by decide +kernel
theorem dX10_mean_30 : decode cX10_mean 30 = .ok (.iconst 0, 1) := by decide +kernel
theorem dX10_mean_31 : decode cX10_mean 31 = .ok (.istore 7, 2) := by decide +kernel
theorem dX10_mean_33 : decode cX10_mean 33 = .ok (.iload 7, 2) := by decide +kernel
theorem dX10_mean_35 : decode cX10_mean 35 = .ok (.bipush 8, 2) := by decide +kernel
theorem dX10_mean_37 : decode cX10_mean 37 = .ok (.if_icmp .ge 95, 3) := by decide +kernel
theorem dX10_mean_40 : decode cX10_mean 40 = .ok (.iload_n 1, 1) := by decide +kernel
theorem dX10_mean_41 : decode cX10_mean 41 = .ok (.iload 7, 2) := by decide +kernel
theorem dX10_mean_43 : decode cX10_mean 43 = .ok (.ishr, 1) := by decide +kernel
theorem dX10_mean_44 : decode cX10_mean 44 = .ok (.iconst 1, 1) := by decide +kernel
theorem dX10_mean_45 : decode cX10_mean 45 = .ok (.iand, 1) := by decide +kernel
theorem dX10_mean_46 : decode cX10_mean 46 = .ok (.ifCond .ne 6, 3) := by decide +kernel
theorem dX10_mean_49 : decode cX10_mean 49 = .ok (.goto 77, 3) := by decide +kernel
theorem dX10_mean_52 : decode cX10_mean 52 = .ok (.lload_n 2, 1) := by decide +kernel
theorem dX10_mean_53 : decode cX10_mean 53 = .ok (.aload_n 0, 1) := by decide +kernel
theorem dX10_mean_54 : decode cX10_mean 54 = .ok (.iload 7, 2) := by decide +kernel
theorem dX10_mean_56 : decode cX10_mean 56 = .ok (.invokevirtual 270, 3) := by decide +kernel
theorem dX10_mean_59 : decode cX10_mean 59 = .ok (.ladd, 1) := by decide +kernel
theorem dX10_mean_60 : decode cX10_mean 60 = .ok (.lstore_n 2, 1) := by decide +kernel
theorem dX10_mean_61 : decode cX10_mean 61 = .ok (.iinc 4 1, 3) := by decide +kernel
theorem dX10_mean_64 : decode cX10_mean 64 = .ok (.iload 5, 2) := by decide +kernel
theorem dX10_mean_66 : decode cX10_mean 66 = .ok (.iconst (-1), 1) := by decide +kernel
theorem dX10_mean_67 : decode cX10_mean 67 = .ok (.if_icmp .eq 19, 3) := by decide +kernel
theorem dX10_mean_70 : decode cX10_mean 70 = .ok (.aload_n 0, 1) := by decide +kernel
theorem dX10_mean_71 : decode cX10_mean 71 = .ok (.iload 7, 2) := by decide +kernel
theorem dX10_mean_73 : decode cX10_mean 73 = .ok (.invokevirtual 270, 3) := by decide +kernel
theorem dX10_mean_76 : decode cX10_mean 76 = .ok (.aload_n 0, 1) := by decide +kernel
theorem dX10_mean_77 : decode cX10_mean 77 = .ok (.iload 5, 2) := by decide +kernel
theorem dX10_mean_79 : decode cX10_mean 79 = .ok (.invokevirtual 270, 3) := by decide +kernel
theorem dX10_mean_82 : decode cX10_mean 82 = .ok (.lcmp, 1) := by decide +kernel
theorem dX10_mean_83 : decode cX10_mean 83 = .ok (.ifCond .ge 8, 3) := by decide +kernel
theorem dX10_mean_86 : decode cX10_mean 86 = .ok (.iload 7, 2) := by decide +kernel
theorem dX10_mean_88 : decode cX10_mean 88 = .ok (.goto 5, 3) := by decide +kernel
theorem dX10_mean_91 : decode cX10_mean 91 = .ok (.iload 5, 2) := by decide +kernel
theorem dX10_mean_93 : decode cX10_mean 93 = .ok (.istore 5, 2) := by decide +kernel
theorem dX10_mean_95 : decode cX10_mean 95 = .ok (.iload 6, 2) := by decide +kernel
theorem dX10_mean_97 : decode cX10_mean 97 = .ok (.iconst (-1), 1) := by decide +kernel
theorem dX10_mean_98 : decode cX10_mean 98 = .ok (.if_icmp .eq 19, 3) := by decide +kernel
theorem dX10_mean_101 : decode cX10_mean 101 = .ok (.aload_n 0, 1) := by decide +kernel
theorem dX10_mean_102 : decode cX10_mean 102 = .ok (.iload 7, 2) := by decide +kernel
theorem dX10_mean_104 : decode cX10_mean 104 = .ok (.invokevirtual 270, 3) := by decide +kernel
theorem dX10_mean_107 : decode cX10_mean 107 = .ok (.aload_n 0, 1) := by decide +kernel
theorem dX10_mean_108 : decode cX10_mean 108 = .ok (.iload 6, 2) := by decide +kernel
theorem dX10_mean_110 : decode cX10_mean 110 = .ok (.invokevirtual 270, 3) := by decide +kernel
theorem dX10_mean_113 : decode cX10_mean 113 = .ok (.lcmp, 1) := by decide +kernel
theorem dX10_mean_114 : decode cX10_mean 114 = .ok (.ifCond .le 8, 3) := by decide +kernel
theorem dX10_mean_117 : decode cX10_mean 117 = .ok (.iload 7, 2) := by decide +kernel
theorem dX10_mean_119 : decode cX10_mean 119 = .ok (.goto 5, 3) := by decide +kernel
theorem dX10_mean_122 : decode cX10_mean 122 = .ok (.iload 6, 2) := by decide +kernel
theorem dX10_mean_124 : decode cX10_mean 124 = .ok (.istore 6, 2) := by decide +kernel
theorem dX10_mean_126 : decode cX10_mean 126 = .ok (.iinc 7 1, 3) := by decide +kernel
theorem dX10_mean_129 : decode cX10_mean 129 = .ok (.goto (-96), 3) := by decide +kernel
theorem dX10_mean_132 : decode cX10_mean 132 = .ok (.lload_n 2, 1) := by decide +kernel
theorem dX10_mean_133 : decode cX10_mean 133 = .ok (.iload 4, 2) := by decide +kernel
theorem dX10_mean_135 : decode cX10_mean 135 = .ok (.i2l, 1) := by decide +kernel
theorem dX10_mean_136 : decode cX10_mean 136 = .ok (.ldiv, 1) := by decide +kernel
theorem dX10_mean_137 : decode cX10_mean 137 = .ok (.lstore 7, 2) := by decide +kernel
theorem dX10_mean_139 : decode cX10_mean 139 = .ok (.aload_n 0, 1) := by decide +kernel
theorem dX10_mean_140 : decode cX10_mean 140 = .ok (.iconst 0, 1) := by decide +kernel
theorem dX10_mean_141 : decode cX10_mean 141 = .ok (.putfield 49, 3) := by decide +kernel
theorem dX10_mean_144 : decode cX10_mean 144 = .ok (.aload_n 0, 1) := by decide +kernel
theorem dX10_mean_145 : decode cX10_mean 145 = .ok (.lload 7, 2) := by decide +kernel
theorem dX10_mean_147 : decode cX10_mean 147 = .ok (.ldc2_w 127, 3) := by decide +kernel
theorem dX10_mean_150 : decode cX10_mean 150 = .ok (.lrem, 1) := by decide +kernel
theorem dX10_mean_151 : decode cX10_mean 151 = .ok (.invokevirtual 208, 3) := by decide +kernel
theorem dX10_mean_154 : decode cX10_mean 154 = .ok (.aload_n 0, 1) := by decide +kernel
theorem dX10_mean_155 : decode cX10_mean 155 = .ok (.iload 5, 2) := by decide +kernel
theorem dX10_mean_157 : decode cX10_mean 157 = .ok (.i2l, 1) := by decide +kernel
theorem dX10_mean_158 : decode cX10_mean 158 = .ok (.invokevirtual 208, 3) := by decide +kernel
theorem dX10_mean_161 : decode cX10_mean 161 = .ok (.aload_n 0, 1) := by decide +kernel
theorem dX10_mean_162 : decode cX10_mean 162 = .ok (.iload 6, 2) := by decide +kernel
theorem dX10_mean_164 : decode cX10_mean 164 = .ok (.i2l, 1) := by decide +kernel
theorem dX10_mean_165 : decode cX10_mean 165 = .ok (.invokevirtual 208, 3) := by decide +kernel
theorem dX10_mean_168 : decode cX10_mean 168 = .ok (.lload 7, 2) := by decide +kernel
theorem dX10_mean_170 : decode cX10_mean 170 = .ok (.ldc2_w 127, 3) := by decide +kernel
theorem dX10_mean_173 : decode cX10_mean 173 = .ok (.ldiv, 1) := by decide +kernel
theorem dX10_mean_174 : decode cX10_mean 174 = .ok (.l2i, 1) := by decide +kernel
theorem dX10_mean_175 : decode cX10_mean 175 = .ok (.ireturn, 1) := by decide +kernel
theorem dX10_sorts_0 : decode cX10_sorts 0 = .ok (.aload_n 0, 1) := by decide +kernel
theorem dX10_sorts_1 : decode cX10_sorts 1 = .ok (.iconst 0, 1) := by decide +kernel
theorem dX10_sorts_2 : decode cX10_sorts 2 = .ok (.putfield 45, 3) := by decide +kernel
theorem dX10_sorts_5 : decode cX10_sorts 5 = .ok (.aload_n 0, 1) := by decide +kernel
theorem dX10_sorts_6 : decode cX10_sorts 6 = .ok (.iconst 0, 1) := by decide +kernel
theorem dX10_sorts_7 : decode cX10_sorts 7 = .ok (.putfield 49, 3) := by decide +kernel
theorem dX10_sorts_10 : decode cX10_sorts 10 = .ok (.iconst 0, 1) := by decide +kernel
theorem dX10_sorts_11 : decode cX10_sorts 11 = .ok (.istore_n 1, 1) := by decide +kernel
theorem dX10_sorts_12 : decode cX10_sorts 12 = .ok (.iconst 0, 1) := by decide +kernel
theorem dX10_sorts_13 : decode cX10_sorts 13 = .ok (.istore_n 2, 1) := by decide +kernel
theorem dX10_sorts_14 : decode cX10_sorts 14 = .ok (.iload_n 2, 1) := by decide +kernel
theorem dX10_sorts_15 : decode cX10_sorts 15 = .ok (.bipush 8, 2) := by decide +kernel
theorem dX10_sorts_17 : decode cX10_sorts 17 = .ok (.if_icmp .ge 71, 3) := by decide +kernel
theorem dX10_sorts_20 : decode cX10_sorts 20 = .ok (.iconst (-1), 1) := by decide +kernel
theorem dX10_sorts_21 : decode cX10_sorts 21 = .ok (.istore_n 3, 1) := by decide +kernel
theorem dX10_sorts_22 : decode cX10_sorts 22 = .ok (.iconst 0, 1) := by decide +kernel
theorem dX10_sorts_23 : decode cX10_sorts 23 = .ok (.istore 4, 2) := by decide +kernel
theorem dX10_sorts_25 : decode cX10_sorts 25 = .ok (.iload 4, 2) := by decide +kernel
theorem dX10_sorts_27 : decode cX10_sorts 27 = .ok (.bipush 8, 2) := by decide +kernel
theorem dX10_sorts_29 : decode cX10_sorts 29 = .ok (.if_icmp .ge 41, 3) := by decide +kernel
theorem dX10_sorts_32 : decode cX10_sorts 32 = .ok (.iload_n 1, 1) := by decide +kernel
theorem dX10_sorts_33 : decode cX10_sorts 33 = .ok (.iload 4, 2) := by decide +kernel
theorem dX10_sorts_35 : decode cX10_sorts 35 = .ok (.ishr, 1) := by decide +kernel
theorem dX10_sorts_36 : decode cX10_sorts 36 = .ok (.iconst 1, 1) := by decide +kernel
theorem dX10_sorts_37 : decode cX10_sorts 37 = .ok (.iand, 1) := by decide +kernel
theorem dX10_sorts_38 : decode cX10_sorts 38 = .ok (.ifCond .ne 26, 3) := by decide +kernel
theorem dX10_sorts_41 : decode cX10_sorts 41 = .ok (.iload_n 3, 1) := by decide +kernel
theorem dX10_sorts_42 : decode cX10_sorts 42 = .ok (.iconst (-1), 1) := by decide +kernel
theorem dX10_sorts_43 : decode cX10_sorts 43 = .ok (.if_icmp .eq 18, 3) := by decide +kernel
theorem dX10_sorts_46 : decode cX10_sorts 46 = .ok (.aload_n 0, 1) := by decide +kernel
theorem dX10_sorts_47 : decode cX10_sorts 47 = .ok (.iload 4, 2) := by decide +kernel
theorem dX10_sorts_49 : decode cX10_sorts 49 = .ok (.invokevirtual 270, 3) := by decide +kernel
theorem dX10_sorts_52 : decode cX10_sorts 52 = .ok (.aload_n 0, 1) := by decide +kernel
theorem dX10_sorts_53 : decode cX10_sorts 53 = .ok (.iload_n 3, 1) := by decide +kernel
theorem dX10_sorts_54 : decode cX10_sorts 54 = .ok (.invokevirtual 270, 3) := by decide +kernel
theorem dX10_sorts_57 : decode cX10_sorts 57 = .ok (.lcmp, 1) := by decide +kernel
theorem dX10_sorts_58 : decode cX10_sorts 58 = .ok (.ifCond .ge 6, 3) := by decide +kernel
theorem dX10_sorts_61 : decode cX10_sorts 61 = .ok (.iload 4, 2) := by decide +kernel
theorem dX10_sorts_63 : decode cX10_sorts 63 = .ok (.istore_n 3, 1) := by decide +kernel
theorem dX10_sorts_64 : decode cX10_sorts 64 = .ok (.iinc 4 1, 3) := by decide +kernel
theorem dX10_sorts_67 : decode cX10_sorts 67 = .ok (.goto (-42), 3) := by decide +kernel
theorem dX10_sorts_70 : decode cX10_sorts 70 = .ok (.iload_n 1, 1) := by decide +kernel
theorem dX10_sorts_71 : decode cX10_sorts 71 = .ok (.iconst 1, 1) := by decide +kernel
theorem dX10_sorts_72 : decode cX10_sorts 72 = .ok (.iload_n 3, 1) := by decide +kernel
theorem dX10_sorts_73 : decode cX10_sorts 73 = .ok (.ishl, 1) := by decide +kernel
theorem dX10_sorts_74 : decode cX10_sorts 74 = .ok (.ior, 1) := by decide +kernel
theorem dX10_sorts_75 : decode cX10_sorts 75 = .ok (.istore_n 1, 1) := by decide +kernel
theorem dX10_sorts_76 : decode cX10_sorts 76 = .ok (.aload_n 0, 1) := by decide +kernel
theorem dX10_sorts_77 : decode cX10_sorts 77 = .ok (.iload_n 3, 1) := by decide +kernel
theorem dX10_sorts_78 : decode cX10_sorts 78 = .ok (.i2l, 1) := by decide +kernel
theorem dX10_sorts_79 : decode cX10_sorts 79 = .ok (.invokevirtual 208, 3) := by decide +kernel
theorem dX10_sorts_82 : decode cX10_sorts 82 = .ok (.iinc 2 1, 3) := by decide +kernel
theorem dX10_sorts_85 : decode cX10_sorts 85 = .ok (.goto (-71), 3) := by decide +kernel
theorem dX10_sorts_88 : decode cX10_sorts 88 = .ok (.aload_n 0, 1) := by decide +kernel
theorem dX10_sorts_89 : decode cX10_sorts 89 = .ok (.getfield 26, 3) := by decide +kernel
theorem dX10_sorts_92 : decode cX10_sorts 92 = .ok (.iconst 0, 1) := by decide +kernel
theorem dX10_sorts_93 : decode cX10_sorts 93 = .ok (.laload, 1) := by decide +kernel
theorem dX10_sorts_94 : decode cX10_sorts 94 = .ok (.l2i, 1) := by decide +kernel
theorem dX10_sorts_95 : decode cX10_sorts 95 = .ok (.ireturn, 1) := by decide +kernel
theorem dX10_lengthOf_0 : decode cX10_lengthOf 0 = .ok (.ldc2_w 345, 3) := by decide +kernel
theorem dX10_lengthOf_3 : decode cX10_lengthOf 3 = .ok (.aload_n 0, 1) := by decide +kernel
theorem dX10_lengthOf_4 : decode cX10_lengthOf 4 = .ok (.getfield 16, 3) := by decide +kernel
theorem dX10_lengthOf_7 : decode cX10_lengthOf 7 = .ok (.iconst 3, 1) := by decide +kernel
theorem dX10_lengthOf_8 : decode cX10_lengthOf 8 = .ok (.iload_n 1, 1) := by decide +kernel
theorem dX10_lengthOf_9 : decode cX10_lengthOf 9 = .ok (.imul, 1) := by decide +kernel
theorem dX10_lengthOf_10 : decode cX10_lengthOf 10 = .ok (.iaload, 1) := by decide +kernel
theorem dX10_lengthOf_11 : decode cX10_lengthOf 11 = .ok (.i2d, 1) := by decide +kernel
theorem dX10_lengthOf_12 : decode cX10_lengthOf 12 = .ok (.dmul, 1) := by decide +kernel
theorem dX10_lengthOf_13 : decode cX10_lengthOf 13 = .ok (.ldc2_w 347, 3) := by decide +kernel
theorem dX10_lengthOf_16 : decode cX10_lengthOf 16 = .ok (.aload_n 0, 1) := by decide +kernel
theorem dX10_lengthOf_17 : decode cX10_lengthOf 17 = .ok (.getfield 16, 3) := by decide +kernel
theorem dX10_lengthOf_20 : decode cX10_lengthOf 20 = .ok (.iconst 3, 1) := by decide +kernel
theorem dX10_lengthOf_21 : decode cX10_lengthOf 21 = .ok (.iload_n 1, 1) := by decide +kernel
theorem dX10_lengthOf_22 : decode cX10_lengthOf 22 = .ok (.imul, 1) := by decide +kernel
theorem dX10_lengthOf_23 : decode cX10_lengthOf 23 = .ok (.iconst 1, 1) := by decide +kernel
theorem dX10_lengthOf_24 : decode cX10_lengthOf 24 = .ok (.iadd, 1) := by decide +kernel
theorem dX10_lengthOf_25 : decode cX10_lengthOf 25 = .ok (.iaload, 1) := by decide +kernel
theorem dX10_lengthOf_26 : decode cX10_lengthOf 26 = .ok (.i2d, 1) := by decide +kernel
theorem dX10_lengthOf_27 : decode cX10_lengthOf 27 = .ok (.dmul, 1) := by decide +kernel
theorem dX10_lengthOf_28 : decode cX10_lengthOf 28 = .ok (.dadd, 1) := by decide +kernel
theorem dX10_lengthOf_29 : decode cX10_lengthOf 29 = .ok (.aload_n 0, 1) := by decide +kernel
theorem dX10_lengthOf_30 : decode cX10_lengthOf 30 = .ok (.getfield 16, 3) := by decide +kernel
theorem dX10_lengthOf_33 : decode cX10_lengthOf 33 = .ok (.iconst 3, 1) := by decide +kernel
theorem dX10_lengthOf_34 : decode cX10_lengthOf 34 = .ok (.iload_n 1, 1) := by decide +kernel
theorem dX10_lengthOf_35 : decode cX10_lengthOf 35 = .ok (.imul, 1) := by decide +kernel
theorem dX10_lengthOf_36 : decode cX10_lengthOf 36 = .ok (.iconst 2, 1) := by decide +kernel
theorem dX10_lengthOf_37 : decode cX10_lengthOf 37 = .ok (.iadd, 1) := by decide +kernel
theorem dX10_lengthOf_38 : decode cX10_lengthOf 38 = .ok (.iaload, 1) := by decide +kernel
theorem dX10_lengthOf_39 : decode cX10_lengthOf 39 = .ok (.i2d, 1) := by decide +kernel
theorem dX10_lengthOf_40 : decode cX10_lengthOf 40 = .ok (.dadd, 1) := by decide +kernel
theorem dX10_lengthOf_41 : decode cX10_lengthOf 41 = .ok (.dreturn, 1) := by decide +kernel
theorem dX10_share_0 : decode cX10_share 0 = .ok (.aload_n 0, 1) := by decide +kernel
theorem dX10_share_1 : decode cX10_share 1 = .ok (.iconst 0, 1) := by decide +kernel
theorem dX10_share_2 : decode cX10_share 2 = .ok (.putfield 45, 3) := by decide +kernel
theorem dX10_share_5 : decode cX10_share 5 = .ok (.iload_n 1, 1) := by decide +kernel
theorem dX10_share_6 : decode cX10_share 6 = .ok (.invokestatic 179, 3) := by decide +kernel
theorem dX10_share_9 : decode cX10_share 9 = .ok (.ifCond .eq 10, 3) := by decide +kernel
theorem dX10_share_12 : decode cX10_share 12 = .ok (.iload_n 2, 1) := by decide +kernel
theorem dX10_share_13 : decode cX10_share 13 = .ok (.invokestatic 179, 3) := by decide +kernel
theorem dX10_share_16 : decode cX10_share 16 = .ok (.ifCond .ne 7, 3) := by decide +kernel
theorem dX10_share_19 : decode cX10_share 19 = .ok (.ldc2_w 281, 3) := by decide +kernel
theorem dX10_share_22 : decode cX10_share 22 = .ok (.lreturn, 1) := by decide +kernel
theorem dX10_share_23 : decode cX10_share 23 = .ok (.aload_n 0, 1) := by decide +kernel
theorem dX10_share_24 : decode cX10_share 24 = .ok (.iload_n 1, 1) := by decide +kernel
theorem dX10_share_25 : decode cX10_share 25 = .ok (.invokevirtual 330, 3) := by decide +kernel
theorem dX10_share_28 : decode cX10_share 28 = .ok (.aload_n 0, 1) := by decide +kernel
theorem dX10_share_29 : decode cX10_share 29 = .ok (.iload_n 2, 1) := by decide +kernel
theorem dX10_share_30 : decode cX10_share 30 = .ok (.invokevirtual 330, 3) := by decide +kernel
theorem dX10_share_33 : decode cX10_share 33 = .ok (.ddiv, 1) := by decide +kernel
theorem dX10_share_34 : decode cX10_share 34 = .ok (.invokestatic 349, 3) := by decide +kernel
theorem dX10_share_37 : decode cX10_share 37 = .ok (.lreturn, 1) := by decide +kernel
theorem dX10_rest_0 : decode cX10_rest 0 = .ok (.aload_n 0, 1) := by decide +kernel
theorem dX10_rest_1 : decode cX10_rest 1 = .ok (.iconst 0, 1) := by decide +kernel
theorem dX10_rest_2 : decode cX10_rest 2 = .ok (.putfield 45, 3) := by decide +kernel
theorem dX10_rest_5 : decode cX10_rest 5 = .ok (.iload_n 1, 1) := by decide +kernel
theorem dX10_rest_6 : decode cX10_rest 6 = .ok (.invokestatic 179, 3) := by decide +kernel
theorem dX10_rest_9 : decode cX10_rest 9 = .ok (.ifCond .eq 10, 3) := by decide +kernel
theorem dX10_rest_12 : decode cX10_rest 12 = .ok (.iload_n 2, 1) := by decide +kernel
theorem dX10_rest_13 : decode cX10_rest 13 = .ok (.invokestatic 179, 3) := by decide +kernel
theorem dX10_rest_16 : decode cX10_rest 16 = .ok (.ifCond .ne 7, 3) := by decide +kernel
theorem dX10_rest_19 : decode cX10_rest 19 = .ok (.ldc2_w 281, 3) := by decide +kernel
theorem dX10_rest_22 : decode cX10_rest 22 = .ok (.lreturn, 1) := by decide +kernel
theorem dX10_rest_23 : decode cX10_rest 23 = .ok (.aload_n 0, 1) := by decide +kernel
theorem dX10_rest_24 : decode cX10_rest 24 = .ok (.iload_n 1, 1) := by decide +kernel
theorem dX10_rest_25 : decode cX10_rest 25 = .ok (.invokevirtual 330, 3) := by decide +kernel
theorem dX10_rest_28 : decode cX10_rest 28 = .ok (.aload_n 0, 1) := by decide +kernel
theorem dX10_rest_29 : decode cX10_rest 29 = .ok (.iload_n 2, 1) := by decide +kernel
theorem dX10_rest_30 : decode cX10_rest 30 = .ok (.invokevirtual 330, 3) := by decide +kernel
theorem dX10_rest_33 : decode cX10_rest 33 = .ok (.drem, 1) := by decide +kernel
theorem dX10_rest_34 : decode cX10_rest 34 = .ok (.invokestatic 349, 3) := by decide +kernel
theorem dX10_rest_37 : decode cX10_rest 37 = .ok (.lreturn, 1) := by decide +kernel
theorem dX10_years_0 : decode cX10_years 0 = .ok (.aload_n 0, 1) := by decide +kernel
theorem dX10_years_1 : decode cX10_years 1 = .ok (.iconst 0, 1) := by decide +kernel
theorem dX10_years_2 : decode cX10_years 2 = .ok (.putfield 45, 3) := by decide +kernel
theorem dX10_years_5 : decode cX10_years 5 = .ok (.iload_n 1, 1) := by decide +kernel
theorem dX10_years_6 : decode cX10_years 6 = .ok (.invokestatic 179, 3) := by decide +kernel
theorem dX10_years_9 : decode cX10_years 9 = .ok (.ifCond .ne 5, 3) := by decide +kernel
theorem dX10_years_12 : decode cX10_years 12 = .ok (.iconst (-1), 1) := by decide +kernel
theorem dX10_years_13 : decode cX10_years 13 = .ok (.ireturn, 1) := by decide +kernel
theorem dX10_years_14 : decode cX10_years 14 = .ok (.aload_n 0, 1) := by decide +kernel
theorem dX10_years_15 : decode cX10_years 15 = .ok (.iload_n 1, 1) := by decide +kernel
theorem dX10_years_16 : decode cX10_years 16 = .ok (.invokevirtual 330, 3) := by decide +kernel
theorem dX10_years_19 : decode cX10_years 19 = .ok (.ldc2_w 355, 3) := by decide +kernel
theorem dX10_years_22 : decode cX10_years 22 = .ok (.ddiv, 1) := by decide +kernel
theorem dX10_years_23 : decode cX10_years 23 = .ok (.d2f, 1) := by decide +kernel
theorem dX10_years_24 : decode cX10_years 24 = .ok (.invokestatic 357, 3) := by decide +kernel
theorem dX10_years_27 : decode cX10_years 27 = .ok (.ireturn, 1) := by decide +kernel
theorem dX10_writes_0 : decode cX10_writes 0 = .ok (.aload_n 0, 1) := by decide +kernel
theorem dX10_writes_1 : decode cX10_writes 1 = .ok (.getfield 42, 3) := by decide +kernel
theorem dX10_writes_4 : decode cX10_writes 4 = .ok (.aload_n 0, 1) := by decide +kernel
theorem dX10_writes_5 : decode cX10_writes 5 = .ok (.getfield 363, 3) := by decide +kernel
theorem dX10_writes_8 : decode cX10_writes 8 = .ok (.iload_n 1, 1) := by decide +kernel
theorem dX10_writes_9 : decode cX10_writes 9 = .ok (.i2b, 1) := by decide +kernel
theorem dX10_writes_10 : decode cX10_writes 10 = .ok (.bastore, 1) := by decide +kernel
theorem dX10_writes_11 : decode cX10_writes 11 = .ok (.aload_n 0, 1) := by decide +kernel
theorem dX10_writes_12 : decode cX10_writes 12 = .ok (.dup, 1) := by decide +kernel
theorem dX10_writes_13 : decode cX10_writes 13 = .ok (.getfield 363, 3) := by decide +kernel
theorem dX10_writes_16 : decode cX10_writes 16 = .ok (.iconst 1, 1) := by decide +kernel
theorem dX10_writes_17 : decode cX10_writes 17 = .ok (.iadd, 1) := by decide +kernel
theorem dX10_writes_18 : decode cX10_writes 18 = .ok (.putfield 363, 3) := by decide +kernel
theorem dX10_writes_21 : decode cX10_writes 21 = .ok (.return_, 1) := by decide +kernel
theorem dX10_writesTwo_0 : decode cX10_writesTwo 0 = .ok (.aload_n 0, 1) := by decide +kernel
theorem dX10_writesTwo_1 : decode cX10_writesTwo 1 = .ok (.bipush 48, 2) := by decide +kernel
theorem dX10_writesTwo_3 : decode cX10_writesTwo 3 = .ok (.iload_n 1, 1) := by decide +kernel
theorem dX10_writesTwo_4 : decode cX10_writesTwo 4 = .ok (.bipush 10, 2) := by decide +kernel
theorem dX10_writesTwo_6 : decode cX10_writesTwo 6 = .ok (.idiv, 1) := by decide +kernel
theorem dX10_writesTwo_7 : decode cX10_writesTwo 7 = .ok (.iadd, 1) := by decide +kernel
theorem dX10_writesTwo_8 : decode cX10_writesTwo 8 = .ok (.invokevirtual 366, 3) := by decide +kernel
theorem dX10_writesTwo_11 : decode cX10_writesTwo 11 = .ok (.aload_n 0, 1) := by decide +kernel
theorem dX10_writesTwo_12 : decode cX10_writesTwo 12 = .ok (.bipush 48, 2) := by decide +kernel
theorem dX10_writesTwo_14 : decode cX10_writesTwo 14 = .ok (.iload_n 1, 1) := by decide +kernel
theorem dX10_writesTwo_15 : decode cX10_writesTwo 15 = .ok (.bipush 10, 2) := by decide +kernel
theorem dX10_writesTwo_17 : decode cX10_writesTwo 17 = .ok (.irem, 1) := by decide +kernel
theorem dX10_writesTwo_18 : decode cX10_writesTwo 18 = .ok (.iadd, 1) := by decide +kernel
theorem dX10_writesTwo_19 : decode cX10_writesTwo 19 = .ok (.invokevirtual 366, 3) := by decide +kernel
theorem dX10_writesTwo_22 : decode cX10_writesTwo 22 = .ok (.return_, 1) := by decide +kernel
theorem dX10_signOf_0 : decode cX10_signOf 0 = .ok (.iload_n 1, 1) := by decide +kernel
theorem dX10_signOf_1 : decode cX10_signOf 1 = .ok (.iconst (-1), 1) := by decide +kernel
theorem dX10_signOf_2 : decode cX10_signOf 2 = .ok (.if_icmp .ne 10, 3) := by decide +kernel
theorem dX10_signOf_5 : decode cX10_signOf 5 = .ok (.aload_n 0, 1) := by decide +kernel
theorem dX10_signOf_6 : decode cX10_signOf 6 = .ok (.getfield 363, 3) := by decide +kernel
theorem dX10_signOf_9 : decode cX10_signOf 9 = .ok (.goto 29, 3) := by decide +kernel
theorem dX10_signOf_12 : decode cX10_signOf 12 = .ok (.iload_n 1, 1) := by decide +kernel
theorem dX10_signOf_13 : decode cX10_signOf 13 = .ok (.i2l, 1) := by decide +kernel
theorem dX10_signOf_14 : decode cX10_signOf 14 = .ok (.lconst 0, 1) := by decide +kernel
theorem dX10_signOf_15 : decode cX10_signOf 15 = .ok (.aload_n 0, 1) := by decide +kernel
theorem dX10_signOf_16 : decode cX10_signOf 16 = .ok (.getfield 363, 3) := by decide +kernel
theorem dX10_signOf_19 : decode cX10_signOf 19 = .ok (.iconst 1, 1) := by decide +kernel
theorem dX10_signOf_20 : decode cX10_signOf 20 = .ok (.isub, 1) := by decide +kernel
theorem dX10_signOf_21 : decode cX10_signOf 21 = .ok (.i2l, 1) := by decide +kernel
theorem dX10_signOf_22 : decode cX10_signOf 22 = .ok (.invokestatic 54, 3) := by decide +kernel
theorem dX10_signOf_25 : decode cX10_signOf 25 = .ok (.ifCond .eq 12, 3) := by decide +kernel
theorem dX10_signOf_28 : decode cX10_signOf 28 = .ok (.aload_n 0, 1) := by decide +kernel
theorem dX10_signOf_29 : decode cX10_signOf 29 = .ok (.getfield 42, 3) := by decide +kernel
theorem dX10_signOf_32 : decode cX10_signOf 32 = .ok (.iload_n 1, 1) := by decide +kernel
theorem dX10_signOf_33 : decode cX10_signOf 33 = .ok (.baload, 1) := by decide +kernel
theorem dX10_signOf_34 : decode cX10_signOf 34 = .ok (.goto 4, 3) := by decide +kernel
theorem dX10_signOf_37 : decode cX10_signOf 37 = .ok (.iconst (-1), 1) := by decide +kernel
theorem dX10_signOf_38 : decode cX10_signOf 38 = .ok (.ireturn, 1) := by decide +kernel
theorem dX10_written_0 : decode cX10_written 0 = .ok (.aload_n 0, 1) := by decide +kernel
theorem dX10_written_1 : decode cX10_written 1 = .ok (.iconst 0, 1) := by decide +kernel
theorem dX10_written_2 : decode cX10_written 2 = .ok (.putfield 45, 3) := by decide +kernel
theorem dX10_written_5 : decode cX10_written 5 = .ok (.iload_n 1, 1) := by decide +kernel
theorem dX10_written_6 : decode cX10_written 6 = .ok (.invokestatic 179, 3) := by decide +kernel
theorem dX10_written_9 : decode cX10_written 9 = .ok (.ifCond .ne 5, 3) := by decide +kernel
theorem dX10_written_12 : decode cX10_written 12 = .ok (.iconst (-1), 1) := by decide +kernel
theorem dX10_written_13 : decode cX10_written 13 = .ok (.ireturn, 1) := by decide +kernel
theorem dX10_written_14 : decode cX10_written 14 = .ok (.aload_n 0, 1) := by decide +kernel
theorem dX10_written_15 : decode cX10_written 15 = .ok (.aload_n 0, 1) := by decide +kernel
theorem dX10_written_16 : decode cX10_written 16 = .ok (.getfield 9, 3) := by decide +kernel
theorem dX10_written_19 : decode cX10_written 19 = .ok (.iload_n 1, 1) := by decide +kernel
theorem dX10_written_20 : decode cX10_written 20 = .ok (.iaload, 1) := by decide +kernel
theorem dX10_written_21 : decode cX10_written 21 = .ok (.invokevirtual 97, 3) := by decide +kernel
theorem dX10_written_24 : decode cX10_written 24 = .ok (.aload_n 0, 1) := by decide +kernel
theorem dX10_written_25 : decode cX10_written 25 = .ok (.iconst 0, 1) := by decide +kernel
theorem dX10_written_26 : decode cX10_written 26 = .ok (.putfield 363, 3) := by decide +kernel
theorem dX10_written_29 : decode cX10_written 29 = .ok (.aload_n 0, 1) := by decide +kernel
theorem dX10_written_30 : decode cX10_written 30 = .ok (.aload_n 0, 1) := by decide +kernel
theorem dX10_written_31 : decode cX10_written 31 = .ok (.getfield 84, 3) := by decide +kernel
theorem dX10_written_34 : decode cX10_written 34 = .ok (.bipush 100, 2) := by decide +kernel
theorem dX10_written_36 : decode cX10_written 36 = .ok (.idiv, 1) := by decide +kernel
theorem dX10_written_37 : decode cX10_written 37 = .ok (.invokevirtual 369, 3) := by decide +kernel
theorem dX10_written_40 : decode cX10_written 40 = .ok (.aload_n 0, 1) := by decide +kernel
theorem dX10_written_41 : decode cX10_written 41 = .ok (.aload_n 0, 1) := by decide +kernel
theorem dX10_written_42 : decode cX10_written 42 = .ok (.getfield 84, 3) := by decide +kernel
theorem dX10_written_45 : decode cX10_written 45 = .ok (.bipush 100, 2) := by decide +kernel
theorem dX10_written_47 : decode cX10_written 47 = .ok (.irem, 1) := by decide +kernel
theorem dX10_written_48 : decode cX10_written 48 = .ok (.invokevirtual 369, 3) := by decide +kernel
theorem dX10_written_51 : decode cX10_written 51 = .ok (.aload_n 0, 1) := by decide +kernel
theorem dX10_written_52 : decode cX10_written 52 = .ok (.bipush 45, 2) := by decide +kernel
theorem dX10_written_54 : decode cX10_written 54 = .ok (.invokevirtual 366, 3) := by decide +kernel
theorem dX10_written_57 : decode cX10_written 57 = .ok (.aload_n 0, 1) := by decide +kernel
theorem dX10_written_58 : decode cX10_written 58 = .ok (.aload_n 0, 1) := by decide +kernel
theorem dX10_written_59 : decode cX10_written 59 = .ok (.getfield 87, 3) := by decide +kernel
theorem dX10_written_62 : decode cX10_written 62 = .ok (.invokevirtual 369, 3) := by decide +kernel
theorem dX10_written_65 : decode cX10_written 65 = .ok (.aload_n 0, 1) := by decide +kernel
theorem dX10_written_66 : decode cX10_written 66 = .ok (.bipush 45, 2) := by decide +kernel
theorem dX10_written_68 : decode cX10_written 68 = .ok (.invokevirtual 366, 3) := by decide +kernel
theorem dX10_written_71 : decode cX10_written 71 = .ok (.aload_n 0, 1) := by decide +kernel
theorem dX10_written_72 : decode cX10_written 72 = .ok (.aload_n 0, 1) := by decide +kernel
theorem dX10_written_73 : decode cX10_written 73 = .ok (.getfield 94, 3) := by decide +kernel
theorem dX10_written_76 : decode cX10_written 76 = .ok (.invokevirtual 369, 3) := by decide +kernel
theorem dX10_written_79 : decode cX10_written 79 = .ok (.aload_n 0, 1) := by decide +kernel
theorem dX10_written_80 : decode cX10_written 80 = .ok (.getfield 13, 3) := by decide +kernel
theorem dX10_written_83 : decode cX10_written 83 = .ok (.iload_n 1, 1) := by decide +kernel
theorem dX10_written_84 : decode cX10_written 84 = .ok (.iaload, 1) := by decide +kernel
theorem dX10_written_85 : decode cX10_written 85 = .ok (.ifCond .le 64, 3) := by decide +kernel
theorem dX10_written_88 : decode cX10_written 88 = .ok (.aload_n 0, 1) := by decide +kernel
theorem dX10_written_89 : decode cX10_written 89 = .ok (.bipush 84, 2) := by decide +kernel
theorem dX10_written_91 : decode cX10_written 91 = .ok (.invokevirtual 366, 3) := by decide +kernel
theorem dX10_written_94 : decode cX10_written 94 = .ok (.aload_n 0, 1) := by decide +kernel
theorem dX10_written_95 : decode cX10_written 95 = .ok (.aload_n 0, 1) := by decide +kernel
theorem dX10_written_96 : decode cX10_written 96 = .ok (.getfield 13, 3) := by decide +kernel
theorem dX10_written_99 : decode cX10_written 99 = .ok (.iload_n 1, 1) := by decide +kernel
theorem dX10_written_100 : decode cX10_written 100 = .ok (.iaload, 1) := by decide +kernel
theorem dX10_written_101 : decode cX10_written 101 = .ok (.sipush 3600, 3) := by decide +kernel
theorem dX10_written_104 : decode cX10_written 104 = .ok (.idiv, 1) := by decide +kernel
theorem dX10_written_105 : decode cX10_written 105 = .ok (.invokevirtual 369, 3) := by decide +kernel
theorem dX10_written_108 : decode cX10_written 108 = .ok (.aload_n 0, 1) := by decide +kernel
theorem dX10_written_109 : decode cX10_written 109 = .ok (.bipush 58, 2) := by decide +kernel
theorem dX10_written_111 : decode cX10_written 111 = .ok (.invokevirtual 366, 3) := by decide +kernel
theorem dX10_written_114 : decode cX10_written 114 = .ok (.aload_n 0, 1) := by decide +kernel
theorem dX10_written_115 : decode cX10_written 115 = .ok (.aload_n 0, 1) := by decide +kernel
theorem dX10_written_116 : decode cX10_written 116 = .ok (.getfield 13, 3) := by decide +kernel
theorem dX10_written_119 : decode cX10_written 119 = .ok (.iload_n 1, 1) := by decide +kernel
theorem dX10_written_120 : decode cX10_written 120 = .ok (.iaload, 1) := by decide +kernel
theorem dX10_written_121 : decode cX10_written 121 = .ok (.bipush 60, 2) := by decide +kernel
theorem dX10_written_123 : decode cX10_written 123 = .ok (.idiv, 1) := by decide +kernel
theorem dX10_written_124 : decode cX10_written 124 = .ok (.bipush 60, 2) := by decide +kernel
theorem dX10_written_126 : decode cX10_written 126 = .ok (.irem, 1) := by decide +kernel
theorem dX10_written_127 : decode cX10_written 127 = .ok (.invokevirtual 369, 3) := by decide +kernel
theorem dX10_written_130 : decode cX10_written 130 = .ok (.aload_n 0, 1) := by decide +kernel
theorem dX10_written_131 : decode cX10_written 131 = .ok (.bipush 58, 2) := by decide +kernel
theorem dX10_written_133 : decode cX10_written 133 = .ok (.invokevirtual 366, 3) := by decide +kernel
theorem dX10_written_136 : decode cX10_written 136 = .ok (.aload_n 0, 1) := by decide +kernel
theorem dX10_written_137 : decode cX10_written 137 = .ok (.aload_n 0, 1) := by decide +kernel
theorem dX10_written_138 : decode cX10_written 138 = .ok (.getfield 13, 3) := by decide +kernel
theorem dX10_written_141 : decode cX10_written 141 = .ok (.iload_n 1, 1) := by decide +kernel
theorem dX10_written_142 : decode cX10_written 142 = .ok (.iaload, 1) := by decide +kernel
theorem dX10_written_143 : decode cX10_written 143 = .ok (.bipush 60, 2) := by decide +kernel
theorem dX10_written_145 : decode cX10_written 145 = .ok (.irem, 1) := by decide +kernel
theorem dX10_written_146 : decode cX10_written 146 = .ok (.invokevirtual 369, 3) := by decide +kernel
theorem dX10_written_149 : decode cX10_written 149 = .ok (.aload_n 0, 1) := by decide +kernel
theorem dX10_written_150 : decode cX10_written 150 = .ok (.iload_n 2, 1) := by decide +kernel
theorem dX10_written_151 : decode cX10_written 151 = .ok (.invokevirtual 372, 3) := by decide +kernel
theorem dX10_written_154 : decode cX10_written 154 = .ok (.ireturn, 1) := by decide +kernel
theorem dX10_writesPart_0 : decode cX10_writesPart 0 = .ok (.iload_n 1, 1) := by decide +kernel
theorem dX10_writesPart_1 : decode cX10_writesPart 1 = .ok (.ifCond .ne 4, 3) := by decide +kernel
theorem dX10_writesPart_4 : decode cX10_writesPart 4 = .ok (.return_, 1) := by decide +kernel
theorem dX10_writesPart_5 : decode cX10_writesPart 5 = .ok (.iload_n 1, 1) := by decide +kernel
theorem dX10_writesPart_6 : decode cX10_writesPart 6 = .ok (.ifCond .ge 9, 3) := by decide +kernel
theorem dX10_writesPart_9 : decode cX10_writesPart 9 = .ok (.aload_n 0, 1) := by decide +kernel
theorem dX10_writesPart_10 : decode cX10_writesPart 10 = .ok (.bipush 45, 2) := by decide +kernel
theorem dX10_writesPart_12 : decode cX10_writesPart 12 = .ok (.invokevirtual 366, 3) := by decide +kernel
theorem dX10_writesPart_15 : decode cX10_writesPart 15 = .ok (.iload_n 1, 1) := by decide +kernel
theorem dX10_writesPart_16 : decode cX10_writesPart 16 = .ok (.ifCond .ge 8, 3) := by decide +kernel
theorem dX10_writesPart_19 : decode cX10_writesPart 19 = .ok (.iload_n 1, 1) := by decide +kernel
theorem dX10_writesPart_20 : decode cX10_writesPart 20 = .ok (.ineg, 1) := by decide +kernel
theorem dX10_writesPart_21 : decode cX10_writesPart 21 = .ok (.goto 4, 3) := by decide +kernel
theorem dX10_writesPart_24 : decode cX10_writesPart 24 = .ok (.iload_n 1, 1) := by decide +kernel
theorem dX10_writesPart_25 : decode cX10_writesPart 25 = .ok (.istore_n 3, 1) := by decide +kernel
theorem dX10_writesPart_26 : decode cX10_writesPart 26 = .ok (.iconst 1, 1) := by decide +kernel
theorem dX10_writesPart_27 : decode cX10_writesPart 27 = .ok (.istore 4, 2) := by decide +kernel
theorem dX10_writesPart_29 : decode cX10_writesPart 29 = .ok (.iload 4, 2) := by decide +kernel
theorem dX10_writesPart_31 : decode cX10_writesPart 31 = .ok (.bipush 10, 2) := by decide +kernel
theorem dX10_writesPart_33 : decode cX10_writesPart 33 = .ok (.imul, 1) := by decide +kernel
theorem dX10_writesPart_34 : decode cX10_writesPart 34 = .ok (.iload_n 3, 1) := by decide +kernel
theorem dX10_writesPart_35 : decode cX10_writesPart 35 = .ok (.if_icmp .gt 13, 3) := by decide +kernel
theorem dX10_writesPart_38 : decode cX10_writesPart 38 = .ok (.iload 4, 2) := by decide +kernel
theorem dX10_writesPart_40 : decode cX10_writesPart 40 = .ok (.bipush 10, 2) := by decide +kernel
theorem dX10_writesPart_42 : decode cX10_writesPart 42 = .ok (.imul, 1) := by decide +kernel
theorem dX10_writesPart_43 : decode cX10_writesPart 43 = .ok (.istore 4, 2) := by decide +kernel
theorem dX10_writesPart_45 : decode cX10_writesPart 45 = .ok (.goto (-16), 3) := by decide +kernel
theorem dX10_writesPart_48 : decode cX10_writesPart 48 = .ok (.iload 4, 2) := by decide +kernel
theorem dX10_writesPart_50 : decode cX10_writesPart 50 = .ok (.ifCond .le 27, 3) := by decide +kernel
theorem dX10_writesPart_53 : decode cX10_writesPart 53 = .ok (.aload_n 0, 1) := by decide +kernel
theorem dX10_writesPart_54 : decode cX10_writesPart 54 = .ok (.bipush 48, 2) := by decide +kernel
theorem dX10_writesPart_56 : decode cX10_writesPart 56 = .ok (.iload_n 3, 1) := by decide +kernel
theorem dX10_writesPart_57 : decode cX10_writesPart 57 = .ok (.iload 4, 2) := by decide +kernel
theorem dX10_writesPart_59 : decode cX10_writesPart 59 = .ok (.idiv, 1) := by decide +kernel
theorem dX10_writesPart_60 : decode cX10_writesPart 60 = .ok (.bipush 10, 2) := by decide +kernel
theorem dX10_writesPart_62 : decode cX10_writesPart 62 = .ok (.irem, 1) := by decide +kernel
theorem dX10_writesPart_63 : decode cX10_writesPart 63 = .ok (.iadd, 1) := by decide +kernel
theorem dX10_writesPart_64 : decode cX10_writesPart 64 = .ok (.invokevirtual 366, 3) := by decide +kernel
theorem dX10_writesPart_67 : decode cX10_writesPart 67 = .ok (.iload 4, 2) := by decide +kernel
theorem dX10_writesPart_69 : decode cX10_writesPart 69 = .ok (.bipush 10, 2) := by decide +kernel
theorem dX10_writesPart_71 : decode cX10_writesPart 71 = .ok (.idiv, 1) := by decide +kernel
theorem dX10_writesPart_72 : decode cX10_writesPart 72 = .ok (.istore 4, 2) := by decide +kernel
theorem dX10_writesPart_74 : decode cX10_writesPart 74 = .ok (.goto (-26), 3) := by decide +kernel
theorem dX10_writesPart_77 : decode cX10_writesPart 77 = .ok (.aload_n 0, 1) := by decide +kernel
theorem dX10_writesPart_78 : decode cX10_writesPart 78 = .ok (.iload_n 2, 1) := by decide +kernel
theorem dX10_writesPart_79 : decode cX10_writesPart 79 = .ok (.invokestatic 199, 3) := by decide +kernel
theorem dX10_writesPart_82 : decode cX10_writesPart 82 = .ok (.invokevirtual 366, 3) := by decide +kernel
theorem dX10_writesPart_85 : decode cX10_writesPart 85 = .ok (.return_, 1) := by decide +kernel
theorem dX10_valueOf_0 : decode cX10_valueOf 0 = .ok (.aload_n 0, 1) := by decide +kernel
theorem dX10_valueOf_1 : decode cX10_valueOf 1 = .ok (.getfield 16, 3) := by decide +kernel
theorem dX10_valueOf_4 : decode cX10_valueOf 4 = .ok (.iconst 3, 1) := by decide +kernel
theorem dX10_valueOf_5 : decode cX10_valueOf 5 = .ok (.iload_n 1, 1) := by decide +kernel
theorem dX10_valueOf_6 : decode cX10_valueOf 6 = .ok (.imul, 1) := by decide +kernel
theorem dX10_valueOf_7 : decode cX10_valueOf 7 = .ok (.iload_n 2, 1) := by decide +kernel
theorem dX10_valueOf_8 : decode cX10_valueOf 8 = .ok (.invokestatic 202, 3) := by decide +kernel
theorem dX10_valueOf_11 : decode cX10_valueOf 11 = .ok (.iadd, 1) := by decide +kernel
theorem dX10_valueOf_12 : decode cX10_valueOf 12 = .ok (.iaload, 1) := by decide +kernel
theorem dX10_valueOf_13 : decode cX10_valueOf 13 = .ok (.istore_n 3, 1) := by decide +kernel
theorem dX10_valueOf_14 : decode cX10_valueOf 14 = .ok (.iload_n 2, 1) := by decide +kernel
theorem dX10_valueOf_15 : decode cX10_valueOf 15 = .ok (.tableswitch 71 0 5 #[37, 42, 47, 52, 57, 63], 37) := by decide +kernel
theorem dX10_valueOf_52 : decode cX10_valueOf 52 = .ok (.iload_n 3, 1) := by decide +kernel
theorem dX10_valueOf_53 : decode cX10_valueOf 53 = .ok (.bipush 12, 2) := by decide +kernel
theorem dX10_valueOf_55 : decode cX10_valueOf 55 = .ok (.idiv, 1) := by decide +kernel
theorem dX10_valueOf_56 : decode cX10_valueOf 56 = .ok (.ireturn, 1) := by decide +kernel
theorem dX10_valueOf_57 : decode cX10_valueOf 57 = .ok (.iload_n 3, 1) := by decide +kernel
theorem dX10_valueOf_58 : decode cX10_valueOf 58 = .ok (.bipush 12, 2) := by decide +kernel
theorem dX10_valueOf_60 : decode cX10_valueOf 60 = .ok (.irem, 1) := by decide +kernel
theorem dX10_valueOf_61 : decode cX10_valueOf 61 = .ok (.ireturn, 1) := by decide +kernel
theorem dX10_valueOf_62 : decode cX10_valueOf 62 = .ok (.iload_n 3, 1) := by decide +kernel
theorem dX10_valueOf_63 : decode cX10_valueOf 63 = .ok (.bipush 7, 2) := by decide +kernel
theorem dX10_valueOf_65 : decode cX10_valueOf 65 = .ok (.idiv, 1) := by decide +kernel
theorem dX10_valueOf_66 : decode cX10_valueOf 66 = .ok (.ireturn, 1) := by decide +kernel
theorem dX10_valueOf_67 : decode cX10_valueOf 67 = .ok (.iload_n 3, 1) := by decide +kernel
theorem dX10_valueOf_68 : decode cX10_valueOf 68 = .ok (.bipush 7, 2) := by decide +kernel
theorem dX10_valueOf_70 : decode cX10_valueOf 70 = .ok (.irem, 1) := by decide +kernel
theorem dX10_valueOf_71 : decode cX10_valueOf 71 = .ok (.ireturn, 1) := by decide +kernel
theorem dX10_valueOf_72 : decode cX10_valueOf 72 = .ok (.iload_n 3, 1) := by decide +kernel
theorem dX10_valueOf_73 : decode cX10_valueOf 73 = .ok (.sipush 3600, 3) := by decide +kernel
theorem dX10_valueOf_76 : decode cX10_valueOf 76 = .ok (.idiv, 1) := by decide +kernel
theorem dX10_valueOf_77 : decode cX10_valueOf 77 = .ok (.ireturn, 1) := by decide +kernel
theorem dX10_valueOf_78 : decode cX10_valueOf 78 = .ok (.iload_n 3, 1) := by decide +kernel
theorem dX10_valueOf_79 : decode cX10_valueOf 79 = .ok (.bipush 60, 2) := by decide +kernel
theorem dX10_valueOf_81 : decode cX10_valueOf 81 = .ok (.idiv, 1) := by decide +kernel
theorem dX10_valueOf_82 : decode cX10_valueOf 82 = .ok (.bipush 60, 2) := by decide +kernel
theorem dX10_valueOf_84 : decode cX10_valueOf 84 = .ok (.irem, 1) := by decide +kernel
theorem dX10_valueOf_85 : decode cX10_valueOf 85 = .ok (.ireturn, 1) := by decide +kernel
theorem dX10_valueOf_86 : decode cX10_valueOf 86 = .ok (.iload_n 3, 1) := by decide +kernel
theorem dX10_valueOf_87 : decode cX10_valueOf 87 = .ok (.bipush 60, 2) := by decide +kernel
theorem dX10_valueOf_89 : decode cX10_valueOf 89 = .ok (.irem, 1) := by decide +kernel
theorem dX10_valueOf_90 : decode cX10_valueOf 90 = .ok (.ireturn, 1) := by decide +kernel
theorem dX10_phrase_0 : decode cX10_phrase 0 = .ok (.aload_n 0, 1) := by decide +kernel
theorem dX10_phrase_1 : decode cX10_phrase 1 = .ok (.iconst 0, 1) := by decide +kernel
theorem dX10_phrase_2 : decode cX10_phrase 2 = .ok (.putfield 45, 3) := by decide +kernel
theorem dX10_phrase_5 : decode cX10_phrase 5 = .ok (.iload_n 1, 1) := by decide +kernel
theorem dX10_phrase_6 : decode cX10_phrase 6 = .ok (.invokestatic 179, 3) := by decide +kernel
