theorem dX9_phraseSize_1 : decode cX9_phraseSize 1 = .ok (.invokestatic 243, 3) := by decide +kernel
theorem dX9_phraseSize_4 : decode cX9_phraseSize 4 = .ok (.istore_n 2, 1) := by decide +kernel
theorem dX9_phraseSize_5 : decode cX9_phraseSize 5 = .ok (.iload_n 1, 1) := by decide +kernel
theorem dX9_phraseSize_6 : decode cX9_phraseSize 6 = .ok (.invokestatic 243, 3) := by decide +kernel
theorem dX9_phraseSize_9 : decode cX9_phraseSize 9 = .ok (.istore_n 3, 1) := by decide +kernel
theorem dX9_phraseSize_10 : decode cX9_phraseSize 10 = .ok (.iload_n 2, 1) := by decide +kernel
theorem dX9_phraseSize_11 : decode cX9_phraseSize 11 = .ok (.bipush 12, 2) := by decide +kernel
theorem dX9_phraseSize_13 : decode cX9_phraseSize 13 = .ok (.idiv, 1) := by decide +kernel
theorem dX9_phraseSize_14 : decode cX9_phraseSize 14 = .ok (.iload_n 2, 1) := by decide +kernel
theorem dX9_phraseSize_15 : decode cX9_phraseSize 15 = .ok (.bipush 12, 2) := by decide +kernel
theorem dX9_phraseSize_17 : decode cX9_phraseSize 17 = .ok (.irem, 1) := by decide +kernel
theorem dX9_phraseSize_18 : decode cX9_phraseSize 18 = .ok (.iadd, 1) := by decide +kernel
theorem dX9_phraseSize_19 : decode cX9_phraseSize 19 = .ok (.iload_n 3, 1) := by decide +kernel
theorem dX9_phraseSize_20 : decode cX9_phraseSize 20 = .ok (.bipush 7, 2) := by decide +kernel
theorem dX9_phraseSize_22 : decode cX9_phraseSize 22 = .ok (.idiv, 1) := by decide +kernel
theorem dX9_phraseSize_23 : decode cX9_phraseSize 23 = .ok (.iadd, 1) := by decide +kernel
theorem dX9_phraseSize_24 : decode cX9_phraseSize 24 = .ok (.iload_n 3, 1) := by decide +kernel
theorem dX9_phraseSize_25 : decode cX9_phraseSize 25 = .ok (.bipush 7, 2) := by decide +kernel
theorem dX9_phraseSize_27 : decode cX9_phraseSize 27 = .ok (.irem, 1) := by decide +kernel
theorem dX9_phraseSize_28 : decode cX9_phraseSize 28 = .ok (.iadd, 1) := by decide +kernel
theorem dX9_phraseSize_29 : decode cX9_phraseSize 29 = .ok (.ireturn, 1) := by decide +kernel
theorem dX9_age_0 : decode cX9_age 0 = .ok (.iload_n 1, 1) := by decide +kernel
theorem dX9_age_1 : decode cX9_age 1 = .ok (.invokestatic 93, 3) := by decide +kernel
theorem dX9_age_4 : decode cX9_age 4 = .ok (.ifCond .eq 10, 3) := by decide +kernel
theorem dX9_age_7 : decode cX9_age 7 = .ok (.iload_n 2, 1) := by decide +kernel
theorem dX9_age_8 : decode cX9_age 8 = .ok (.invokestatic 93, 3) := by decide +kernel
theorem dX9_age_11 : decode cX9_age 11 = .ok (.ifCond .ne 5, 3) := by decide +kernel
theorem dX9_age_14 : decode cX9_age 14 = .ok (.iconst (-1), 1) := by decide +kernel
theorem dX9_age_15 : decode cX9_age 15 = .ok (.ireturn, 1) := by decide +kernel
theorem dX9_age_16 : decode cX9_age 16 = .ok (.aload_n 0, 1) := by decide +kernel
theorem dX9_age_17 : decode cX9_age 17 = .ok (.getfield 10, 3) := by decide +kernel
theorem dX9_age_20 : decode cX9_age 20 = .ok (.iload_n 1, 1) := by decide +kernel
theorem dX9_age_21 : decode cX9_age 21 = .ok (.invokevirtual 112, 3) := by decide +kernel
theorem dX9_age_24 : decode cX9_age 24 = .ok (.istore_n 3, 1) := by decide +kernel
theorem dX9_age_25 : decode cX9_age 25 = .ok (.aload_n 0, 1) := by decide +kernel
theorem dX9_age_26 : decode cX9_age 26 = .ok (.getfield 10, 3) := by decide +kernel
theorem dX9_age_29 : decode cX9_age 29 = .ok (.iload_n 2, 1) := by decide +kernel
theorem dX9_age_30 : decode cX9_age 30 = .ok (.invokevirtual 112, 3) := by decide +kernel
theorem dX9_age_33 : decode cX9_age 33 = .ok (.istore 4, 2) := by decide +kernel
theorem dX9_age_35 : decode cX9_age 35 = .ok (.iload 4, 2) := by decide +kernel
theorem dX9_age_37 : decode cX9_age 37 = .ok (.iload_n 3, 1) := by decide +kernel
theorem dX9_age_38 : decode cX9_age 38 = .ok (.if_icmp .ge 7, 3) := by decide +kernel
theorem dX9_age_41 : decode cX9_age 41 = .ok (.iconst 0, 1) := by decide +kernel
theorem dX9_age_42 : decode cX9_age 42 = .ok (.goto 20, 3) := by decide +kernel
theorem dX9_age_45 : decode cX9_age 45 = .ok (.aload_n 0, 1) := by decide +kernel
theorem dX9_age_46 : decode cX9_age 46 = .ok (.iload_n 3, 1) := by decide +kernel
theorem dX9_age_47 : decode cX9_age 47 = .ok (.iconst 0, 1) := by decide +kernel
theorem dX9_age_48 : decode cX9_age 48 = .ok (.iload 4, 2) := by decide +kernel
theorem dX9_age_50 : decode cX9_age 50 = .ok (.iconst 0, 1) := by decide +kernel
theorem dX9_age_51 : decode cX9_age 51 = .ok (.invokestatic 236, 3) := by decide +kernel
theorem dX9_age_54 : decode cX9_age 54 = .ok (.iconst 0, 1) := by decide +kernel
theorem dX9_age_55 : decode cX9_age 55 = .ok (.iconst 1, 1) := by decide +kernel
theorem dX9_age_56 : decode cX9_age 56 = .ok (.invokevirtual 216, 3) := by decide +kernel
theorem dX9_age_59 : decode cX9_age 59 = .ok (.bipush 12, 2) := by decide +kernel
theorem dX9_age_61 : decode cX9_age 61 = .ok (.idiv, 1) := by decide +kernel
theorem dX9_age_62 : decode cX9_age 62 = .ok (.istore 5, 2) := by decide +kernel
theorem dX9_age_64 : decode cX9_age 64 = .ok (.aload_n 0, 1) := by decide +kernel
theorem dX9_age_65 : decode cX9_age 65 = .ok (.getfield 57, 3) := by decide +kernel
theorem dX9_age_68 : decode cX9_age 68 = .ok (.bipush 12, 2) := by decide +kernel
theorem dX9_age_70 : decode cX9_age 70 = .ok (.iload 5, 2) := by decide +kernel
theorem dX9_age_72 : decode cX9_age 72 = .ok (.imul, 1) := by decide +kernel
theorem dX9_age_73 : decode cX9_age 73 = .ok (.iconst 0, 1) := by decide +kernel
theorem dX9_age_74 : decode cX9_age 74 = .ok (.iconst 0, 1) := by decide +kernel
theorem dX9_age_75 : decode cX9_age 75 = .ok (.iconst 0, 1) := by decide +kernel
theorem dX9_age_76 : decode cX9_age 76 = .ok (.invokevirtual 220, 3) := by decide +kernel
theorem dX9_age_79 : decode cX9_age 79 = .ok (.aload_n 0, 1) := by decide +kernel
theorem dX9_age_80 : decode cX9_age 80 = .ok (.getfield 57, 3) := by decide +kernel
theorem dX9_age_83 : decode cX9_age 83 = .ok (.iload_n 3, 1) := by decide +kernel
theorem dX9_age_84 : decode cX9_age 84 = .ok (.iconst 0, 1) := by decide +kernel
theorem dX9_age_85 : decode cX9_age 85 = .ok (.iconst 0, 1) := by decide +kernel
theorem dX9_age_86 : decode cX9_age 86 = .ok (.invokevirtual 190, 3) := by decide +kernel
theorem dX9_age_89 : decode cX9_age 89 = .ok (.pop, 1) := by decide +kernel
theorem dX9_age_90 : decode cX9_age 90 = .ok (.aload_n 0, 1) := by decide +kernel
theorem dX9_age_91 : decode cX9_age 91 = .ok (.getfield 57, 3) := by decide +kernel
theorem dX9_age_94 : decode cX9_age 94 = .ok (.getfield 194, 3) := by decide +kernel
theorem dX9_age_97 : decode cX9_age 97 = .ok (.istore 6, 2) := by decide +kernel
theorem dX9_age_99 : decode cX9_age 99 = .ok (.aload_n 0, 1) := by decide +kernel
theorem dX9_age_100 : decode cX9_age 100 = .ok (.getfield 57, 3) := by decide +kernel
theorem dX9_age_103 : decode cX9_age 103 = .ok (.bipush 12, 2) := by decide +kernel
theorem dX9_age_105 : decode cX9_age 105 = .ok (.iload 5, 2) := by decide +kernel
theorem dX9_age_107 : decode cX9_age 107 = .ok (.imul, 1) := by decide +kernel
theorem dX9_age_108 : decode cX9_age 108 = .ok (.bipush 12, 2) := by decide +kernel
theorem dX9_age_110 : decode cX9_age 110 = .ok (.iadd, 1) := by decide +kernel
theorem dX9_age_111 : decode cX9_age 111 = .ok (.iconst 0, 1) := by decide +kernel
theorem dX9_age_112 : decode cX9_age 112 = .ok (.iconst 0, 1) := by decide +kernel
theorem dX9_age_113 : decode cX9_age 113 = .ok (.iconst 0, 1) := by decide +kernel
theorem dX9_age_114 : decode cX9_age 114 = .ok (.invokevirtual 220, 3) := by decide +kernel
theorem dX9_age_117 : decode cX9_age 117 = .ok (.aload_n 0, 1) := by decide +kernel
theorem dX9_age_118 : decode cX9_age 118 = .ok (.getfield 57, 3) := by decide +kernel
theorem dX9_age_121 : decode cX9_age 121 = .ok (.iload_n 3, 1) := by decide +kernel
theorem dX9_age_122 : decode cX9_age 122 = .ok (.iconst 0, 1) := by decide +kernel
theorem dX9_age_123 : decode cX9_age 123 = .ok (.iconst 0, 1) := by decide +kernel
theorem dX9_age_124 : decode cX9_age 124 = .ok (.invokevirtual 190, 3) := by decide +kernel
theorem dX9_age_127 : decode cX9_age 127 = .ok (.istore 7, 2) := by decide +kernel
theorem dX9_age_129 : decode cX9_age 129 = .ok (.aload_n 0, 1) := by decide +kernel
theorem dX9_age_130 : decode cX9_age 130 = .ok (.getfield 26, 3) := by decide +kernel
theorem dX9_age_133 : decode cX9_age 133 = .ok (.iload 4, 2) := by decide +kernel
theorem dX9_age_135 : decode cX9_age 135 = .ok (.iload 6, 2) := by decide +kernel
theorem dX9_age_137 : decode cX9_age 137 = .ok (.isub, 1) := by decide +kernel
theorem dX9_age_138 : decode cX9_age 138 = .ok (.i2l, 1) := by decide +kernel
theorem dX9_age_139 : decode cX9_age 139 = .ok (.iload 7, 2) := by decide +kernel
theorem dX9_age_141 : decode cX9_age 141 = .ok (.ifCond .eq 17, 3) := by decide +kernel
theorem dX9_age_144 : decode cX9_age 144 = .ok (.aload_n 0, 1) := by decide +kernel
theorem dX9_age_145 : decode cX9_age 145 = .ok (.getfield 57, 3) := by decide +kernel
theorem dX9_age_148 : decode cX9_age 148 = .ok (.getfield 194, 3) := by decide +kernel
theorem dX9_age_151 : decode cX9_age 151 = .ok (.iload 4, 2) := by decide +kernel
theorem dX9_age_153 : decode cX9_age 153 = .ok (.isub, 1) := by decide +kernel
theorem dX9_age_154 : decode cX9_age 154 = .ok (.i2l, 1) := by decide +kernel
theorem dX9_age_155 : decode cX9_age 155 = .ok (.goto 6, 3) := by decide +kernel
theorem dX9_age_158 : decode cX9_age 158 = .ok (.ldc2_w 251, 3) := by decide +kernel
theorem dX9_age_161 : decode cX9_age 161 = .ok (.invokevirtual 199, 3) := by decide +kernel
theorem dX9_age_164 : decode cX9_age 164 = .ok (.iload 5, 2) := by decide +kernel
theorem dX9_age_166 : decode cX9_age 166 = .ok (.ireturn, 1) := by decide +kernel
theorem dX9_drift_0 : decode cX9_drift 0 = .ok (.iload_n 1, 1) := by decide +kernel
theorem dX9_drift_1 : decode cX9_drift 1 = .ok (.invokestatic 93, 3) := by decide +kernel
theorem dX9_drift_4 : decode cX9_drift 4 = .ok (.ifCond .eq 30, 3) := by decide +kernel
theorem dX9_drift_7 : decode cX9_drift 7 = .ok (.iload_n 2, 1) := by decide +kernel
theorem dX9_drift_8 : decode cX9_drift 8 = .ok (.invokestatic 93, 3) := by decide +kernel
theorem dX9_drift_11 : decode cX9_drift 11 = .ok (.ifCond .eq 23, 3) := by decide +kernel
theorem dX9_drift_14 : decode cX9_drift 14 = .ok (.iload_n 3, 1) := by decide +kernel
theorem dX9_drift_15 : decode cX9_drift 15 = .ok (.invokestatic 180, 3) := by decide +kernel
theorem dX9_drift_18 : decode cX9_drift 18 = .ok (.ifCond .eq 16, 3) := by decide +kernel
theorem dX9_drift_21 : decode cX9_drift 21 = .ok (.iload 4, 2) := by decide +kernel
theorem dX9_drift_23 : decode cX9_drift 23 = .ok (.ifCond .lt 11, 3) := by decide +kernel
theorem dX9_drift_26 : decode cX9_drift 26 = .ok (.iload 4, 2) := by decide +kernel
theorem dX9_drift_28 : decode cX9_drift 28 = .ok (.sipush 1000, 3) := by decide +kernel
theorem dX9_drift_31 : decode cX9_drift 31 = .ok (.if_icmp .le 7, 3) := by decide +kernel
theorem dX9_drift_34 : decode cX9_drift 34 = .ok (.ldc2_w 253, 3) := by decide +kernel
theorem dX9_drift_37 : decode cX9_drift 37 = .ok (.lreturn, 1) := by decide +kernel
theorem dX9_drift_38 : decode cX9_drift 38 = .ok (.aload_n 0, 1) := by decide +kernel
theorem dX9_drift_39 : decode cX9_drift 39 = .ok (.getfield 61, 3) := by decide +kernel
theorem dX9_drift_42 : decode cX9_drift 42 = .ok (.aload_n 0, 1) := by decide +kernel
theorem dX9_drift_43 : decode cX9_drift 43 = .ok (.getfield 10, 3) := by decide +kernel
theorem dX9_drift_46 : decode cX9_drift 46 = .ok (.iload_n 2, 1) := by decide +kernel
theorem dX9_drift_47 : decode cX9_drift 47 = .ok (.iload 4, 2) := by decide +kernel
theorem dX9_drift_49 : decode cX9_drift 49 = .ok (.iload_n 3, 1) := by decide +kernel
theorem dX9_drift_50 : decode cX9_drift 50 = .ok (.invokevirtual 186, 3) := by decide +kernel
theorem dX9_drift_53 : decode cX9_drift 53 = .ok (.ifCond .ne 7, 3) := by decide +kernel
theorem dX9_drift_56 : decode cX9_drift 56 = .ok (.ldc2_w 314, 3) := by decide +kernel
theorem dX9_drift_59 : decode cX9_drift 59 = .ok (.lreturn, 1) := by decide +kernel
theorem dX9_drift_60 : decode cX9_drift 60 = .ok (.aload_n 0, 1) := by decide +kernel
theorem dX9_drift_61 : decode cX9_drift 61 = .ok (.getfield 61, 3) := by decide +kernel
theorem dX9_drift_64 : decode cX9_drift 64 = .ok (.aload_n 0, 1) := by decide +kernel
theorem dX9_drift_65 : decode cX9_drift 65 = .ok (.getfield 10, 3) := by decide +kernel
theorem dX9_drift_68 : decode cX9_drift 68 = .ok (.iload_n 1, 1) := by decide +kernel
theorem dX9_drift_69 : decode cX9_drift 69 = .ok (.invokevirtual 112, 3) := by decide +kernel
theorem dX9_drift_72 : decode cX9_drift 72 = .ok (.aload_n 0, 1) := by decide +kernel
theorem dX9_drift_73 : decode cX9_drift 73 = .ok (.getfield 10, 3) := by decide +kernel
theorem dX9_drift_76 : decode cX9_drift 76 = .ok (.iload_n 1, 1) := by decide +kernel
theorem dX9_drift_77 : decode cX9_drift 77 = .ok (.invokevirtual 143, 3) := by decide +kernel
theorem dX9_drift_80 : decode cX9_drift 80 = .ok (.iconst 0, 1) := by decide +kernel
theorem dX9_drift_81 : decode cX9_drift 81 = .ok (.invokevirtual 190, 3) := by decide +kernel
theorem dX9_drift_84 : decode cX9_drift 84 = .ok (.ifCond .ne 7, 3) := by decide +kernel
theorem dX9_drift_87 : decode cX9_drift 87 = .ok (.ldc2_w 316, 3) := by decide +kernel
theorem dX9_drift_90 : decode cX9_drift 90 = .ok (.lreturn, 1) := by decide +kernel
theorem dX9_drift_91 : decode cX9_drift 91 = .ok (.aload_n 0, 1) := by decide +kernel
theorem dX9_drift_92 : decode cX9_drift 92 = .ok (.getfield 57, 3) := by decide +kernel
theorem dX9_drift_95 : decode cX9_drift 95 = .ok (.aload_n 0, 1) := by decide +kernel
theorem dX9_drift_96 : decode cX9_drift 96 = .ok (.getfield 10, 3) := by decide +kernel
theorem dX9_drift_99 : decode cX9_drift 99 = .ok (.iload_n 2, 1) := by decide +kernel
theorem dX9_drift_100 : decode cX9_drift 100 = .ok (.iconst 1, 1) := by decide +kernel
theorem dX9_drift_101 : decode cX9_drift 101 = .ok (.iload_n 3, 1) := by decide +kernel
theorem dX9_drift_102 : decode cX9_drift 102 = .ok (.invokevirtual 186, 3) := by decide +kernel
theorem dX9_drift_105 : decode cX9_drift 105 = .ok (.pop, 1) := by decide +kernel
theorem dX9_drift_106 : decode cX9_drift 106 = .ok (.aload_n 0, 1) := by decide +kernel
theorem dX9_drift_107 : decode cX9_drift 107 = .ok (.getfield 57, 3) := by decide +kernel
theorem dX9_drift_110 : decode cX9_drift 110 = .ok (.aload_n 0, 1) := by decide +kernel
theorem dX9_drift_111 : decode cX9_drift 111 = .ok (.getfield 10, 3) := by decide +kernel
theorem dX9_drift_114 : decode cX9_drift 114 = .ok (.iload_n 1, 1) := by decide +kernel
theorem dX9_drift_115 : decode cX9_drift 115 = .ok (.invokevirtual 112, 3) := by decide +kernel
theorem dX9_drift_118 : decode cX9_drift 118 = .ok (.aload_n 0, 1) := by decide +kernel
theorem dX9_drift_119 : decode cX9_drift 119 = .ok (.getfield 10, 3) := by decide +kernel
theorem dX9_drift_122 : decode cX9_drift 122 = .ok (.iload_n 1, 1) := by decide +kernel
theorem dX9_drift_123 : decode cX9_drift 123 = .ok (.invokevirtual 143, 3) := by decide +kernel
theorem dX9_drift_126 : decode cX9_drift 126 = .ok (.invokevirtual 202, 3) := by decide +kernel
theorem dX9_drift_129 : decode cX9_drift 129 = .ok (.iconst 0, 1) := by decide +kernel
theorem dX9_drift_130 : decode cX9_drift 130 = .ok (.istore 5, 2) := by decide +kernel
theorem dX9_drift_132 : decode cX9_drift 132 = .ok (.iload 5, 2) := by decide +kernel
theorem dX9_drift_134 : decode cX9_drift 134 = .ok (.iload 4, 2) := by decide +kernel
theorem dX9_drift_136 : decode cX9_drift 136 = .ok (.if_icmp .ge 38, 3) := by decide +kernel
theorem dX9_drift_139 : decode cX9_drift 139 = .ok (.aload_n 0, 1) := by decide +kernel
theorem dX9_drift_140 : decode cX9_drift 140 = .ok (.getfield 57, 3) := by decide +kernel
theorem dX9_drift_143 : decode cX9_drift 143 = .ok (.aload_n 0, 1) := by decide +kernel
theorem dX9_drift_144 : decode cX9_drift 144 = .ok (.getfield 57, 3) := by decide +kernel
theorem dX9_drift_147 : decode cX9_drift 147 = .ok (.getfield 194, 3) := by decide +kernel
theorem dX9_drift_150 : decode cX9_drift 150 = .ok (.aload_n 0, 1) := by decide +kernel
theorem dX9_drift_151 : decode cX9_drift 151 = .ok (.getfield 57, 3) := by decide +kernel
theorem dX9_drift_154 : decode cX9_drift 154 = .ok (.getfield 195, 3) := by decide +kernel
theorem dX9_drift_157 : decode cX9_drift 157 = .ok (.iconst 0, 1) := by decide +kernel
theorem dX9_drift_158 : decode cX9_drift 158 = .ok (.invokevirtual 190, 3) := by decide +kernel
theorem dX9_drift_161 : decode cX9_drift 161 = .ok (.ifCond .ne 7, 3) := by decide +kernel
theorem dX9_drift_164 : decode cX9_drift 164 = .ok (.ldc2_w 316, 3) := by decide +kernel
theorem dX9_drift_167 : decode cX9_drift 167 = .ok (.lreturn, 1) := by decide +kernel
theorem dX9_drift_168 : decode cX9_drift 168 = .ok (.iinc 5 1, 3) := by decide +kernel
theorem dX9_drift_171 : decode cX9_drift 171 = .ok (.goto (-39), 3) := by decide +kernel
theorem dX9_drift_174 : decode cX9_drift 174 = .ok (.aload_n 0, 1) := by decide +kernel
theorem dX9_drift_175 : decode cX9_drift 175 = .ok (.getfield 26, 3) := by decide +kernel
theorem dX9_drift_178 : decode cX9_drift 178 = .ok (.aload_n 0, 1) := by decide +kernel
theorem dX9_drift_179 : decode cX9_drift 179 = .ok (.getfield 57, 3) := by decide +kernel
theorem dX9_drift_182 : decode cX9_drift 182 = .ok (.invokevirtual 223, 3) := by decide +kernel
theorem dX9_drift_185 : decode cX9_drift 185 = .ok (.aload_n 0, 1) := by decide +kernel
theorem dX9_drift_186 : decode cX9_drift 186 = .ok (.getfield 61, 3) := by decide +kernel
theorem dX9_drift_189 : decode cX9_drift 189 = .ok (.invokevirtual 223, 3) := by decide +kernel
theorem dX9_drift_192 : decode cX9_drift 192 = .ok (.invokevirtual 199, 3) := by decide +kernel
theorem dX9_drift_195 : decode cX9_drift 195 = .ok (.aload_n 0, 1) := by decide +kernel
theorem dX9_drift_196 : decode cX9_drift 196 = .ok (.getfield 57, 3) := by decide +kernel
theorem dX9_drift_199 : decode cX9_drift 199 = .ok (.invokevirtual 223, 3) := by decide +kernel
theorem dX9_drift_202 : decode cX9_drift 202 = .ok (.aload_n 0, 1) := by decide +kernel
theorem dX9_drift_203 : decode cX9_drift 203 = .ok (.getfield 61, 3) := by decide +kernel
theorem dX9_drift_206 : decode cX9_drift 206 = .ok (.invokevirtual 223, 3) := by decide +kernel
theorem dX9_drift_209 : decode cX9_drift 209 = .ok (.lsub, 1) := by decide +kernel
theorem dX9_drift_210 : decode cX9_drift 210 = .ok (.lreturn, 1) := by decide +kernel
theorem dX9_next_0 : decode cX9_next 0 = .ok (.iload_n 1, 1) := by decide +kernel
theorem dX9_next_1 : decode cX9_next 1 = .ok (.invokestatic 93, 3) := by decide +kernel
theorem dX9_next_4 : decode cX9_next 4 = .ok (.ifCond .eq 25, 3) := by decide +kernel
theorem dX9_next_7 : decode cX9_next 7 = .ok (.iload_n 2, 1) := by decide +kernel
theorem dX9_next_8 : decode cX9_next 8 = .ok (.invokestatic 93, 3) := by decide +kernel
theorem dX9_next_11 : decode cX9_next 11 = .ok (.ifCond .eq 18, 3) := by decide +kernel
theorem dX9_next_14 : decode cX9_next 14 = .ok (.iload_n 3, 1) := by decide +kernel
theorem dX9_next_15 : decode cX9_next 15 = .ok (.invokestatic 180, 3) := by decide +kernel
theorem dX9_next_18 : decode cX9_next 18 = .ok (.ifCond .eq 11, 3) := by decide +kernel
theorem dX9_next_21 : decode cX9_next 21 = .ok (.iload 4, 2) := by decide +kernel
theorem dX9_next_23 : decode cX9_next 23 = .ok (.invokestatic 93, 3) := by decide +kernel
theorem dX9_next_26 : decode cX9_next 26 = .ok (.ifCond .ne 5, 3) := by decide +kernel
theorem dX9_next_29 : decode cX9_next 29 = .ok (.iconst (-1), 1) := by decide +kernel
theorem dX9_next_30 : decode cX9_next 30 = .ok (.ireturn, 1) := by decide +kernel
theorem dX9_next_31 : decode cX9_next 31 = .ok (.aload_n 0, 1) := by decide +kernel
theorem dX9_next_32 : decode cX9_next 32 = .ok (.getfield 10, 3) := by decide +kernel
theorem dX9_next_35 : decode cX9_next 35 = .ok (.iload 4, 2) := by decide +kernel
theorem dX9_next_37 : decode cX9_next 37 = .ok (.invokevirtual 212, 3) := by decide +kernel
theorem dX9_next_40 : decode cX9_next 40 = .ok (.lstore 5, 2) := by decide +kernel
theorem dX9_next_42 : decode cX9_next 42 = .ok (.iconst 0, 1) := by decide +kernel
theorem dX9_next_43 : decode cX9_next 43 = .ok (.istore 7, 2) := by decide +kernel
theorem dX9_next_45 : decode cX9_next 45 = .ok (.iload 7, 2) := by decide +kernel
theorem dX9_next_47 : decode cX9_next 47 = .ok (.sipush 10000, 3) := by decide +kernel
theorem dX9_next_50 : decode cX9_next 50 = .ok (.if_icmp .gt 60, 3) := by decide +kernel
theorem dX9_next_53 : decode cX9_next 53 = .ok (.aload_n 0, 1) := by decide +kernel
theorem dX9_next_54 : decode cX9_next 54 = .ok (.iload_n 1, 1) := by decide +kernel
theorem dX9_next_55 : decode cX9_next 55 = .ok (.iload_n 2, 1) := by decide +kernel
theorem dX9_next_56 : decode cX9_next 56 = .ok (.iload_n 3, 1) := by decide +kernel
theorem dX9_next_57 : decode cX9_next 57 = .ok (.iload 7, 2) := by decide +kernel
theorem dX9_next_59 : decode cX9_next 59 = .ok (.invokevirtual 318, 3) := by decide +kernel
theorem dX9_next_62 : decode cX9_next 62 = .ok (.ifCond .eq 42, 3) := by decide +kernel
theorem dX9_next_65 : decode cX9_next 65 = .ok (.aload_n 0, 1) := by decide +kernel
theorem dX9_next_66 : decode cX9_next 66 = .ok (.getfield 57, 3) := by decide +kernel
theorem dX9_next_69 : decode cX9_next 69 = .ok (.invokevirtual 223, 3) := by decide +kernel
theorem dX9_next_72 : decode cX9_next 72 = .ok (.lload 5, 2) := by decide +kernel
theorem dX9_next_74 : decode cX9_next 74 = .ok (.lcmp, 1) := by decide +kernel
theorem dX9_next_75 : decode cX9_next 75 = .ok (.ifCond .lt 29, 3) := by decide +kernel
theorem dX9_next_78 : decode cX9_next 78 = .ok (.aload_n 0, 1) := by decide +kernel
theorem dX9_next_79 : decode cX9_next 79 = .ok (.getfield 26, 3) := by decide +kernel
theorem dX9_next_82 : decode cX9_next 82 = .ok (.aload_n 0, 1) := by decide +kernel
theorem dX9_next_83 : decode cX9_next 83 = .ok (.getfield 57, 3) := by decide +kernel
theorem dX9_next_86 : decode cX9_next 86 = .ok (.getfield 194, 3) := by decide +kernel
theorem dX9_next_89 : decode cX9_next 89 = .ok (.i2l, 1) := by decide +kernel
theorem dX9_next_90 : decode cX9_next 90 = .ok (.aload_n 0, 1) := by decide +kernel
theorem dX9_next_91 : decode cX9_next 91 = .ok (.getfield 57, 3) := by decide +kernel
theorem dX9_next_94 : decode cX9_next 94 = .ok (.getfield 195, 3) := by decide +kernel
theorem dX9_next_97 : decode cX9_next 97 = .ok (.i2l, 1) := by decide +kernel
theorem dX9_next_98 : decode cX9_next 98 = .ok (.invokevirtual 199, 3) := by decide +kernel
theorem dX9_next_101 : decode cX9_next 101 = .ok (.iload 7, 2) := by decide +kernel
theorem dX9_next_103 : decode cX9_next 103 = .ok (.ireturn, 1) := by decide +kernel
theorem dX9_next_104 : decode cX9_next 104 = .ok (.iinc 7 1, 3) := by decide +kernel
theorem dX9_next_107 : decode cX9_next 107 = .ok (.goto (-62), 3) := by decide +kernel
theorem dX9_next_110 : decode cX9_next 110 = .ok (.bipush (-2), 2) := by decide +kernel
theorem dX9_next_112 : decode cX9_next 112 = .ok (.ireturn, 1) := by decide +kernel
theorem dX9_leadsAtOnce_0 : decode cX9_leadsAtOnce 0 = .ok (.aload_n 0, 1) := by decide +kernel
theorem dX9_leadsAtOnce_1 : decode cX9_leadsAtOnce 1 = .ok (.getfield 57, 3) := by decide +kernel
theorem dX9_leadsAtOnce_4 : decode cX9_leadsAtOnce 4 = .ok (.aload_n 0, 1) := by decide +kernel
theorem dX9_leadsAtOnce_5 : decode cX9_leadsAtOnce 5 = .ok (.getfield 10, 3) := by decide +kernel
theorem dX9_leadsAtOnce_8 : decode cX9_leadsAtOnce 8 = .ok (.iload_n 2, 1) := by decide +kernel
theorem dX9_leadsAtOnce_9 : decode cX9_leadsAtOnce 9 = .ok (.iload 4, 2) := by decide +kernel
theorem dX9_leadsAtOnce_11 : decode cX9_leadsAtOnce 11 = .ok (.iload_n 3, 1) := by decide +kernel
theorem dX9_leadsAtOnce_12 : decode cX9_leadsAtOnce 12 = .ok (.invokevirtual 186, 3) := by decide +kernel
theorem dX9_leadsAtOnce_15 : decode cX9_leadsAtOnce 15 = .ok (.ifCond .eq 34, 3) := by decide +kernel
theorem dX9_leadsAtOnce_18 : decode cX9_leadsAtOnce 18 = .ok (.aload_n 0, 1) := by decide +kernel
theorem dX9_leadsAtOnce_19 : decode cX9_leadsAtOnce 19 = .ok (.getfield 57, 3) := by decide +kernel
theorem dX9_leadsAtOnce_22 : decode cX9_leadsAtOnce 22 = .ok (.aload_n 0, 1) := by decide +kernel
theorem dX9_leadsAtOnce_23 : decode cX9_leadsAtOnce 23 = .ok (.getfield 10, 3) := by decide +kernel
theorem dX9_leadsAtOnce_26 : decode cX9_leadsAtOnce 26 = .ok (.iload_n 1, 1) := by decide +kernel
theorem dX9_leadsAtOnce_27 : decode cX9_leadsAtOnce 27 = .ok (.invokevirtual 112, 3) := by decide +kernel
theorem dX9_leadsAtOnce_30 : decode cX9_leadsAtOnce 30 = .ok (.aload_n 0, 1) := by decide +kernel
theorem dX9_leadsAtOnce_31 : decode cX9_leadsAtOnce 31 = .ok (.getfield 10, 3) := by decide +kernel
theorem dX9_leadsAtOnce_34 : decode cX9_leadsAtOnce 34 = .ok (.iload_n 1, 1) := by decide +kernel
theorem dX9_leadsAtOnce_35 : decode cX9_leadsAtOnce 35 = .ok (.invokevirtual 143, 3) := by decide +kernel
theorem dX9_leadsAtOnce_38 : decode cX9_leadsAtOnce 38 = .ok (.iconst 0, 1) := by decide +kernel
theorem dX9_leadsAtOnce_39 : decode cX9_leadsAtOnce 39 = .ok (.invokevirtual 190, 3) := by decide +kernel
theorem dX9_leadsAtOnce_42 : decode cX9_leadsAtOnce 42 = .ok (.ifCond .eq 7, 3) := by decide +kernel
theorem dX9_leadsAtOnce_45 : decode cX9_leadsAtOnce 45 = .ok (.iconst 1, 1) := by decide +kernel
theorem dX9_leadsAtOnce_46 : decode cX9_leadsAtOnce 46 = .ok (.goto 4, 3) := by decide +kernel
theorem dX9_leadsAtOnce_49 : decode cX9_leadsAtOnce 49 = .ok (.iconst 0, 1) := by decide +kernel
theorem dX9_leadsAtOnce_50 : decode cX9_leadsAtOnce 50 = .ok (.ireturn, 1) := by decide +kernel
theorem dX9_nth_0 : decode cX9_nth 0 = .ok (.iload_n 1, 1) := by decide +kernel
theorem dX9_nth_1 : decode cX9_nth 1 = .ok (.invokestatic 170, 3) := by decide +kernel
theorem dX9_nth_4 : decode cX9_nth 4 = .ok (.ifCond .eq 35, 3) := by decide +kernel
theorem dX9_nth_7 : decode cX9_nth 7 = .ok (.iload_n 2, 1) := by decide +kernel
theorem dX9_nth_8 : decode cX9_nth 8 = .ok (.invokestatic 173, 3) := by decide +kernel
theorem dX9_nth_11 : decode cX9_nth 11 = .ok (.ifCond .eq 28, 3) := by decide +kernel
theorem dX9_nth_14 : decode cX9_nth 14 = .ok (.iload_n 3, 1) := by decide +kernel
theorem dX9_nth_15 : decode cX9_nth 15 = .ok (.invokestatic 324, 3) := by decide +kernel
theorem dX9_nth_18 : decode cX9_nth 18 = .ok (.ifCond .eq 21, 3) := by decide +kernel
theorem dX9_nth_21 : decode cX9_nth 21 = .ok (.iload 4, 2) := by decide +kernel
theorem dX9_nth_23 : decode cX9_nth 23 = .ok (.ifCond .eq 16, 3) := by decide +kernel
theorem dX9_nth_26 : decode cX9_nth 26 = .ok (.iload 4, 2) := by decide +kernel
theorem dX9_nth_28 : decode cX9_nth 28 = .ok (.bipush (-5), 2) := by decide +kernel
theorem dX9_nth_30 : decode cX9_nth 30 = .ok (.if_icmp .lt 9, 3) := by decide +kernel
theorem dX9_nth_33 : decode cX9_nth 33 = .ok (.iload 4, 2) := by decide +kernel
theorem dX9_nth_35 : decode cX9_nth 35 = .ok (.iconst 5, 1) := by decide +kernel
theorem dX9_nth_36 : decode cX9_nth 36 = .ok (.if_icmp .le 5, 3) := by decide +kernel
theorem dX9_nth_39 : decode cX9_nth 39 = .ok (.iconst (-1), 1) := by decide +kernel
theorem dX9_nth_40 : decode cX9_nth 40 = .ok (.ireturn, 1) := by decide +kernel
theorem dX9_nth_41 : decode cX9_nth 41 = .ok (.iload_n 1, 1) := by decide +kernel
theorem dX9_nth_42 : decode cX9_nth 42 = .ok (.iload_n 2, 1) := by decide +kernel
theorem dX9_nth_43 : decode cX9_nth 43 = .ok (.iconst 1, 1) := by decide +kernel
theorem dX9_nth_44 : decode cX9_nth 44 = .ok (.invokestatic 149, 3) := by decide +kernel
theorem dX9_nth_47 : decode cX9_nth 47 = .ok (.istore 5, 2) := by decide +kernel
theorem dX9_nth_49 : decode cX9_nth 49 = .ok (.iload 5, 2) := by decide +kernel
theorem dX9_nth_51 : decode cX9_nth 51 = .ok (.iload_n 1, 1) := by decide +kernel
theorem dX9_nth_52 : decode cX9_nth 52 = .ok (.iload_n 2, 1) := by decide +kernel
theorem dX9_nth_53 : decode cX9_nth 53 = .ok (.invokestatic 153, 3) := by decide +kernel
theorem dX9_nth_56 : decode cX9_nth 56 = .ok (.iadd, 1) := by decide +kernel
theorem dX9_nth_57 : decode cX9_nth 57 = .ok (.iconst 1, 1) := by decide +kernel
theorem dX9_nth_58 : decode cX9_nth 58 = .ok (.isub, 1) := by decide +kernel
theorem dX9_nth_59 : decode cX9_nth 59 = .ok (.istore 6, 2) := by decide +kernel
theorem dX9_nth_61 : decode cX9_nth 61 = .ok (.iload 4, 2) := by decide +kernel
theorem dX9_nth_63 : decode cX9_nth 63 = .ok (.ifCond .le 30, 3) := by decide +kernel
theorem dX9_nth_66 : decode cX9_nth 66 = .ok (.iload 5, 2) := by decide +kernel
theorem dX9_nth_68 : decode cX9_nth 68 = .ok (.iload_n 3, 1) := by decide +kernel
theorem dX9_nth_69 : decode cX9_nth 69 = .ok (.iload 5, 2) := by decide +kernel
theorem dX9_nth_71 : decode cX9_nth 71 = .ok (.invokestatic 146, 3) := by decide +kernel
theorem dX9_nth_74 : decode cX9_nth 74 = .ok (.isub, 1) := by decide +kernel
theorem dX9_nth_75 : decode cX9_nth 75 = .ok (.bipush 7, 2) := by decide +kernel
theorem dX9_nth_77 : decode cX9_nth 77 = .ok (.iadd, 1) := by decide +kernel
theorem dX9_nth_78 : decode cX9_nth 78 = .ok (.bipush 7, 2) := by decide +kernel
theorem dX9_nth_80 : decode cX9_nth 80 = .ok (.irem, 1) := by decide +kernel
theorem dX9_nth_81 : decode cX9_nth 81 = .ok (.iadd, 1) := by decide +kernel
theorem dX9_nth_82 : decode cX9_nth 82 = .ok (.bipush 7, 2) := by decide +kernel
theorem dX9_nth_84 : decode cX9_nth 84 = .ok (.iload 4, 2) := by decide +kernel
theorem dX9_nth_86 : decode cX9_nth 86 = .ok (.iconst 1, 1) := by decide +kernel
theorem dX9_nth_87 : decode cX9_nth 87 = .ok (.isub, 1) := by decide +kernel
theorem dX9_nth_88 : decode cX9_nth 88 = .ok (.imul, 1) := by decide +kernel
theorem dX9_nth_89 : decode cX9_nth 89 = .ok (.iadd, 1) := by decide +kernel
theorem dX9_nth_90 : decode cX9_nth 90 = .ok (.goto 27, 3) := by decide +kernel
theorem dX9_nth_93 : decode cX9_nth 93 = .ok (.iload 6, 2) := by decide +kernel
theorem dX9_nth_95 : decode cX9_nth 95 = .ok (.iload 6, 2) := by decide +kernel
theorem dX9_nth_97 : decode cX9_nth 97 = .ok (.invokestatic 146, 3) := by decide +kernel
theorem dX9_nth_100 : decode cX9_nth 100 = .ok (.iload_n 3, 1) := by decide +kernel
theorem dX9_nth_101 : decode cX9_nth 101 = .ok (.isub, 1) := by decide +kernel
theorem dX9_nth_102 : decode cX9_nth 102 = .ok (.bipush 7, 2) := by decide +kernel
theorem dX9_nth_104 : decode cX9_nth 104 = .ok (.iadd, 1) := by decide +kernel
theorem dX9_nth_105 : decode cX9_nth 105 = .ok (.bipush 7, 2) := by decide +kernel
theorem dX9_nth_107 : decode cX9_nth 107 = .ok (.irem, 1) := by decide +kernel
theorem dX9_nth_108 : decode cX9_nth 108 = .ok (.isub, 1) := by decide +kernel
theorem dX9_nth_109 : decode cX9_nth 109 = .ok (.bipush 7, 2) := by decide +kernel
theorem dX9_nth_111 : decode cX9_nth 111 = .ok (.iload 4, 2) := by decide +kernel
theorem dX9_nth_113 : decode cX9_nth 113 = .ok (.iconst 1, 1) := by decide +kernel
theorem dX9_nth_114 : decode cX9_nth 114 = .ok (.iadd, 1) := by decide +kernel
theorem dX9_nth_115 : decode cX9_nth 115 = .ok (.imul, 1) := by decide +kernel
theorem dX9_nth_116 : decode cX9_nth 116 = .ok (.iadd, 1) := by decide +kernel
theorem dX9_nth_117 : decode cX9_nth 117 = .ok (.istore 7, 2) := by decide +kernel
theorem dX9_nth_119 : decode cX9_nth 119 = .ok (.iload 7, 2) := by decide +kernel
theorem dX9_nth_121 : decode cX9_nth 121 = .ok (.iload 5, 2) := by decide +kernel
theorem dX9_nth_123 : decode cX9_nth 123 = .ok (.if_icmp .lt 10, 3) := by decide +kernel
theorem dX9_nth_126 : decode cX9_nth 126 = .ok (.iload 7, 2) := by decide +kernel
theorem dX9_nth_128 : decode cX9_nth 128 = .ok (.iload 6, 2) := by decide +kernel
theorem dX9_nth_130 : decode cX9_nth 130 = .ok (.if_icmp .le 8, 3) := by decide +kernel
theorem dX9_nth_133 : decode cX9_nth 133 = .ok (.bipush (-2), 2) := by decide +kernel
theorem dX9_nth_135 : decode cX9_nth 135 = .ok (.goto 5, 3) := by decide +kernel
theorem dX9_nth_138 : decode cX9_nth 138 = .ok (.iload 7, 2) := by decide +kernel
theorem dX9_nth_140 : decode cX9_nth 140 = .ok (.ireturn, 1) := by decide +kernel
theorem dX9_workdays_0 : decode cX9_workdays 0 = .ok (.iload_n 1, 1) := by decide +kernel
theorem dX9_workdays_1 : decode cX9_workdays 1 = .ok (.invokestatic 93, 3) := by decide +kernel
theorem dX9_workdays_4 : decode cX9_workdays 4 = .ok (.ifCond .eq 10, 3) := by decide +kernel
theorem dX9_workdays_7 : decode cX9_workdays 7 = .ok (.iload_n 2, 1) := by decide +kernel
theorem dX9_workdays_8 : decode cX9_workdays 8 = .ok (.invokestatic 93, 3) := by decide +kernel
theorem dX9_workdays_11 : decode cX9_workdays 11 = .ok (.ifCond .ne 5, 3) := by decide +kernel
theorem dX9_workdays_14 : decode cX9_workdays 14 = .ok (.iconst (-1), 1) := by decide +kernel
theorem dX9_workdays_15 : decode cX9_workdays 15 = .ok (.ireturn, 1) := by decide +kernel
theorem dX9_workdays_16 : decode cX9_workdays 16 = .ok (.aload_n 0, 1) := by decide +kernel
theorem dX9_workdays_17 : decode cX9_workdays 17 = .ok (.getfield 10, 3) := by decide +kernel
theorem dX9_workdays_20 : decode cX9_workdays 20 = .ok (.iload_n 1, 1) := by decide +kernel
theorem dX9_workdays_21 : decode cX9_workdays 21 = .ok (.invokevirtual 112, 3) := by decide +kernel
theorem dX9_workdays_24 : decode cX9_workdays 24 = .ok (.aload_n 0, 1) := by decide +kernel
theorem dX9_workdays_25 : decode cX9_workdays 25 = .ok (.getfield 10, 3) := by decide +kernel
theorem dX9_workdays_28 : decode cX9_workdays 28 = .ok (.iload_n 2, 1) := by decide +kernel
theorem dX9_workdays_29 : decode cX9_workdays 29 = .ok (.invokevirtual 112, 3) := by decide +kernel
theorem dX9_workdays_32 : decode cX9_workdays 32 = .ok (.invokestatic 299, 3) := by decide +kernel
theorem dX9_workdays_35 : decode cX9_workdays 35 = .ok (.istore_n 3, 1) := by decide +kernel
theorem dX9_workdays_36 : decode cX9_workdays 36 = .ok (.aload_n 0, 1) := by decide +kernel
theorem dX9_workdays_37 : decode cX9_workdays 37 = .ok (.getfield 10, 3) := by decide +kernel
theorem dX9_workdays_40 : decode cX9_workdays 40 = .ok (.iload_n 1, 1) := by decide +kernel
theorem dX9_workdays_41 : decode cX9_workdays 41 = .ok (.invokevirtual 112, 3) := by decide +kernel
theorem dX9_workdays_44 : decode cX9_workdays 44 = .ok (.aload_n 0, 1) := by decide +kernel
theorem dX9_workdays_45 : decode cX9_workdays 45 = .ok (.getfield 10, 3) := by decide +kernel
theorem dX9_workdays_48 : decode cX9_workdays 48 = .ok (.iload_n 2, 1) := by decide +kernel
theorem dX9_workdays_49 : decode cX9_workdays 49 = .ok (.invokevirtual 112, 3) := by decide +kernel
theorem dX9_workdays_52 : decode cX9_workdays 52 = .ok (.invokestatic 327, 3) := by decide +kernel
theorem dX9_workdays_55 : decode cX9_workdays 55 = .ok (.istore 4, 2) := by decide +kernel
theorem dX9_workdays_57 : decode cX9_workdays 57 = .ok (.iload 4, 2) := by decide +kernel
theorem dX9_workdays_59 : decode cX9_workdays 59 = .ok (.iload_n 3, 1) := by decide +kernel
theorem dX9_workdays_60 : decode cX9_workdays 60 = .ok (.isub, 1) := by decide +kernel
theorem dX9_workdays_61 : decode cX9_workdays 61 = .ok (.bipush 7, 2) := by decide +kernel
theorem dX9_workdays_63 : decode cX9_workdays 63 = .ok (.idiv, 1) := by decide +kernel
theorem dX9_workdays_64 : decode cX9_workdays 64 = .ok (.istore 5, 2) := by decide +kernel
theorem dX9_workdays_66 : decode cX9_workdays 66 = .ok (.iload 4, 2) := by decide +kernel
theorem dX9_workdays_68 : decode cX9_workdays 68 = .ok (.iload_n 3, 1) := by decide +kernel
theorem dX9_workdays_69 : decode cX9_workdays 69 = .ok (.isub, 1) := by decide +kernel
theorem dX9_workdays_70 : decode cX9_workdays 70 = .ok (.bipush 7, 2) := by decide +kernel
theorem dX9_workdays_72 : decode cX9_workdays 72 = .ok (.irem, 1) := by decide +kernel
theorem dX9_workdays_73 : decode cX9_workdays 73 = .ok (.istore 6, 2) := by decide +kernel
theorem dX9_workdays_75 : decode cX9_workdays 75 = .ok (.iconst 0, 1) := by decide +kernel
theorem dX9_workdays_76 : decode cX9_workdays 76 = .ok (.istore 7, 2) := by decide +kernel
theorem dX9_workdays_78 : decode cX9_workdays 78 = .ok (.aload_n 0, 1) := by decide +kernel
theorem dX9_workdays_79 : decode cX9_workdays 79 = .ok (.getfield 26, 3) := by decide +kernel
theorem dX9_workdays_82 : decode cX9_workdays 82 = .ok (.invokevirtual 330, 3) := by decide +kernel
theorem dX9_workdays_85 : decode cX9_workdays 85 = .ok (.iconst 0, 1) := by decide +kernel
theorem dX9_workdays_86 : decode cX9_workdays 86 = .ok (.istore 8, 2) := by decide +kernel
theorem dX9_workdays_88 : decode cX9_workdays 88 = .ok (.iload 8, 2) := by decide +kernel
theorem dX9_workdays_90 : decode cX9_workdays 90 = .ok (.bipush 7, 2) := by decide +kernel
theorem dX9_workdays_92 : decode cX9_workdays 92 = .ok (.if_icmp .ge 65, 3) := by decide +kernel
theorem dX9_workdays_95 : decode cX9_workdays 95 = .ok (.iload 8, 2) := by decide +kernel
theorem dX9_workdays_97 : decode cX9_workdays 97 = .ok (.iload_n 3, 1) := by decide +kernel
theorem dX9_workdays_98 : decode cX9_workdays 98 = .ok (.invokestatic 146, 3) := by decide +kernel
theorem dX9_workdays_101 : decode cX9_workdays 101 = .ok (.isub, 1) := by decide +kernel
theorem dX9_workdays_102 : decode cX9_workdays 102 = .ok (.bipush 7, 2) := by decide +kernel
theorem dX9_workdays_104 : decode cX9_workdays 104 = .ok (.iadd, 1) := by decide +kernel
theorem dX9_workdays_105 : decode cX9_workdays 105 = .ok (.bipush 7, 2) := by decide +kernel
theorem dX9_workdays_107 : decode cX9_workdays 107 = .ok (.irem, 1) := by decide +kernel
theorem dX9_workdays_108 : decode cX9_workdays 108 = .ok (.istore 9, 2) := by decide +kernel
theorem dX9_workdays_110 : decode cX9_workdays 110 = .ok (.iload 9, 2) := by decide +kernel
theorem dX9_workdays_112 : decode cX9_workdays 112 = .ok (.iload 6, 2) := by decide +kernel
theorem dX9_workdays_114 : decode cX9_workdays 114 = .ok (.if_icmp .ge 10, 3) := by decide +kernel
theorem dX9_workdays_117 : decode cX9_workdays 117 = .ok (.iload 5, 2) := by decide +kernel
theorem dX9_workdays_119 : decode cX9_workdays 119 = .ok (.iconst 1, 1) := by decide +kernel
theorem dX9_workdays_120 : decode cX9_workdays 120 = .ok (.iadd, 1) := by decide +kernel
theorem dX9_workdays_121 : decode cX9_workdays 121 = .ok (.goto 5, 3) := by decide +kernel
theorem dX9_workdays_124 : decode cX9_workdays 124 = .ok (.iload 5, 2) := by decide +kernel
theorem dX9_workdays_126 : decode cX9_workdays 126 = .ok (.istore 10, 2) := by decide +kernel
theorem dX9_workdays_128 : decode cX9_workdays 128 = .ok (.aload_n 0, 1) := by decide +kernel
theorem dX9_workdays_129 : decode cX9_workdays 129 = .ok (.getfield 26, 3) := by decide +kernel
theorem dX9_workdays_132 : decode cX9_workdays 132 = .ok (.iload 10, 2) := by decide +kernel
theorem dX9_workdays_134 : decode cX9_workdays 134 = .ok (.i2l, 1) := by decide +kernel
theorem dX9_workdays_135 : decode cX9_workdays 135 = .ok (.invokevirtual 233, 3) := by decide +kernel
theorem dX9_workdays_138 : decode cX9_workdays 138 = .ok (.iload 8, 2) := by decide +kernel
theorem dX9_workdays_140 : decode cX9_workdays 140 = .ok (.iconst 5, 1) := by decide +kernel
theorem dX9_workdays_141 : decode cX9_workdays 141 = .ok (.if_icmp .ge 10, 3) := by decide +kernel
theorem dX9_workdays_144 : decode cX9_workdays 144 = .ok (.iload 7, 2) := by decide +kernel
theorem dX9_workdays_146 : decode cX9_workdays 146 = .ok (.iload 10, 2) := by decide +kernel
theorem dX9_workdays_148 : decode cX9_workdays 148 = .ok (.iadd, 1) := by decide +kernel
theorem dX9_workdays_149 : decode cX9_workdays 149 = .ok (.istore 7, 2) := by decide +kernel
theorem dX9_workdays_151 : decode cX9_workdays 151 = .ok (.iinc 8 1, 3) := by decide +kernel
theorem dX9_workdays_154 : decode cX9_workdays 154 = .ok (.goto (-66), 3) := by decide +kernel
theorem dX9_workdays_157 : decode cX9_workdays 157 = .ok (.aload_n 0, 1) := by decide +kernel
theorem dX9_workdays_158 : decode cX9_workdays 158 = .ok (.getfield 10, 3) := by decide +kernel
theorem dX9_workdays_161 : decode cX9_workdays 161 = .ok (.iload_n 2, 1) := by decide +kernel
theorem dX9_workdays_162 : decode cX9_workdays 162 = .ok (.invokevirtual 112, 3) := by decide +kernel
theorem dX9_workdays_165 : decode cX9_workdays 165 = .ok (.aload_n 0, 1) := by decide +kernel
theorem dX9_workdays_166 : decode cX9_workdays 166 = .ok (.getfield 10, 3) := by decide +kernel
theorem dX9_workdays_169 : decode cX9_workdays 169 = .ok (.iload_n 1, 1) := by decide +kernel
theorem dX9_workdays_170 : decode cX9_workdays 170 = .ok (.invokevirtual 112, 3) := by decide +kernel
theorem dX9_workdays_173 : decode cX9_workdays 173 = .ok (.if_icmp .ge 9, 3) := by decide +kernel
theorem dX9_workdays_176 : decode cX9_workdays 176 = .ok (.iload 7, 2) := by decide +kernel
theorem dX9_workdays_178 : decode cX9_workdays 178 = .ok (.ineg, 1) := by decide +kernel
theorem dX9_workdays_179 : decode cX9_workdays 179 = .ok (.goto 5, 3) := by decide +kernel
theorem dX9_workdays_182 : decode cX9_workdays 182 = .ok (.iload 7, 2) := by decide +kernel
theorem dX9_workdays_184 : decode cX9_workdays 184 = .ok (.ireturn, 1) := by decide +kernel
theorem dX9_shifts_0 : decode cX9_shifts 0 = .ok (.iload_n 1, 1) := by decide +kernel
theorem dX9_shifts_1 : decode cX9_shifts 1 = .ok (.invokestatic 93, 3) := by decide +kernel
theorem dX9_shifts_4 : decode cX9_shifts 4 = .ok (.ifCond .eq 24, 3) := by decide +kernel
theorem dX9_shifts_7 : decode cX9_shifts 7 = .ok (.iload_n 2, 1) := by decide +kernel
theorem dX9_shifts_8 : decode cX9_shifts 8 = .ok (.sipush (-10000), 3) := by decide +kernel
theorem dX9_shifts_11 : decode cX9_shifts 11 = .ok (.if_icmp .lt 17, 3) := by decide +kernel
theorem dX9_shifts_14 : decode cX9_shifts 14 = .ok (.iload_n 2, 1) := by decide +kernel
theorem dX9_shifts_15 : decode cX9_shifts 15 = .ok (.sipush 10000, 3) := by decide +kernel
theorem dX9_shifts_18 : decode cX9_shifts 18 = .ok (.if_icmp .gt 10, 3) := by decide +kernel
theorem dX9_shifts_21 : decode cX9_shifts 21 = .ok (.iload_n 3, 1) := by decide +kernel
theorem dX9_shifts_22 : decode cX9_shifts 22 = .ok (.invokestatic 93, 3) := by decide +kernel
theorem dX9_shifts_25 : decode cX9_shifts 25 = .ok (.ifCond .ne 5, 3) := by decide +kernel
theorem dX9_shifts_28 : decode cX9_shifts 28 = .ok (.iconst (-1), 1) := by decide +kernel
theorem dX9_shifts_29 : decode cX9_shifts 29 = .ok (.ireturn, 1) := by decide +kernel
theorem dX9_shifts_30 : decode cX9_shifts 30 = .ok (.iload_n 2, 1) := by decide +kernel
theorem dX9_shifts_31 : decode cX9_shifts 31 = .ok (.ifCond .ge 7, 3) := by decide +kernel
theorem dX9_shifts_34 : decode cX9_shifts 34 = .ok (.iconst (-1), 1) := by decide +kernel
theorem dX9_shifts_35 : decode cX9_shifts 35 = .ok (.goto 4, 3) := by decide +kernel
theorem dX9_shifts_38 : decode cX9_shifts 38 = .ok (.iconst 1, 1) := by decide +kernel
theorem dX9_shifts_39 : decode cX9_shifts 39 = .ok (.istore 4, 2) := by decide +kernel
theorem dX9_shifts_41 : decode cX9_shifts 41 = .ok (.iload_n 2, 1) := by decide +kernel
theorem dX9_shifts_42 : decode cX9_shifts 42 = .ok (.invokestatic 243, 3) := by decide +kernel
theorem dX9_shifts_45 : decode cX9_shifts 45 = .ok (.istore 5, 2) := by decide +kernel
theorem dX9_shifts_47 : decode cX9_shifts 47 = .ok (.aload_n 0, 1) := by decide +kernel
theorem dX9_shifts_48 : decode cX9_shifts 48 = .ok (.getfield 10, 3) := by decide +kernel
theorem dX9_shifts_51 : decode cX9_shifts 51 = .ok (.iload_n 1, 1) := by decide +kernel
theorem dX9_shifts_52 : decode cX9_shifts 52 = .ok (.invokevirtual 112, 3) := by decide +kernel
theorem dX9_shifts_55 : decode cX9_shifts 55 = .ok (.istore 6, 2) := by decide +kernel
theorem dX9_shifts_57 : decode cX9_shifts 57 = .ok (.iconst 0, 1) := by decide +kernel
theorem dX9_shifts_58 : decode cX9_shifts 58 = .ok (.istore 7, 2) := by decide +kernel
theorem dX9_shifts_60 : decode cX9_shifts 60 = .ok (.iconst 0, 1) := by decide +kernel
theorem dX9_shifts_61 : decode cX9_shifts 61 = .ok (.istore 8, 2) := by decide +kernel
theorem dX9_shifts_63 : decode cX9_shifts 63 = .ok (.iload 8, 2) := by decide +kernel
theorem dX9_shifts_65 : decode cX9_shifts 65 = .ok (.sipush 30000, 3) := by decide +kernel
theorem dX9_shifts_68 : decode cX9_shifts 68 = .ok (.if_icmp .ge 50, 3) := by decide +kernel
theorem dX9_shifts_71 : decode cX9_shifts 71 = .ok (.iload 5, 2) := by decide +kernel
theorem dX9_shifts_73 : decode cX9_shifts 73 = .ok (.ifCond .le 45, 3) := by decide +kernel
theorem dX9_shifts_76 : decode cX9_shifts 76 = .ok (.iload 6, 2) := by decide +kernel
theorem dX9_shifts_78 : decode cX9_shifts 78 = .ok (.iload 4, 2) := by decide +kernel
theorem dX9_shifts_80 : decode cX9_shifts 80 = .ok (.iadd, 1) := by decide +kernel
theorem dX9_shifts_81 : decode cX9_shifts 81 = .ok (.istore 6, 2) := by decide +kernel
theorem dX9_shifts_83 : decode cX9_shifts 83 = .ok (.iload 6, 2) := by decide +kernel
theorem dX9_shifts_85 : decode cX9_shifts 85 = .ok (.invokestatic 108, 3) := by decide +kernel
theorem dX9_shifts_88 : decode cX9_shifts 88 = .ok (.ifCond .ne 6, 3) := by decide +kernel
theorem dX9_shifts_91 : decode cX9_shifts 91 = .ok (.bipush (-2), 2) := by decide +kernel
theorem dX9_shifts_93 : decode cX9_shifts 93 = .ok (.ireturn, 1) := by decide +kernel
theorem dX9_shifts_94 : decode cX9_shifts 94 = .ok (.iload 6, 2) := by decide +kernel
theorem dX9_shifts_96 : decode cX9_shifts 96 = .ok (.invokestatic 146, 3) := by decide +kernel
theorem dX9_shifts_99 : decode cX9_shifts 99 = .ok (.iconst 5, 1) := by decide +kernel
theorem dX9_shifts_100 : decode cX9_shifts 100 = .ok (.if_icmp .ge 9, 3) := by decide +kernel
theorem dX9_shifts_103 : decode cX9_shifts 103 = .ok (.iinc 5 (-1), 3) := by decide +kernel
theorem dX9_shifts_106 : decode cX9_shifts 106 = .ok (.goto 6, 3) := by decide +kernel
theorem dX9_shifts_109 : decode cX9_shifts 109 = .ok (.iinc 7 1, 3) := by decide +kernel
theorem dX9_shifts_112 : decode cX9_shifts 112 = .ok (.iinc 8 1, 3) := by decide +kernel
theorem dX9_shifts_115 : decode cX9_shifts 115 = .ok (.goto (-52), 3) := by decide +kernel
theorem dX9_shifts_118 : decode cX9_shifts 118 = .ok (.aload_n 0, 1) := by decide +kernel
theorem dX9_shifts_119 : decode cX9_shifts 119 = .ok (.getfield 10, 3) := by decide +kernel
theorem dX9_shifts_122 : decode cX9_shifts 122 = .ok (.iload_n 3, 1) := by decide +kernel
theorem dX9_shifts_123 : decode cX9_shifts 123 = .ok (.iload 6, 2) := by decide +kernel
theorem dX9_shifts_125 : decode cX9_shifts 125 = .ok (.aload_n 0, 1) := by decide +kernel
theorem dX9_shifts_126 : decode cX9_shifts 126 = .ok (.getfield 10, 3) := by decide +kernel
theorem dX9_shifts_129 : decode cX9_shifts 129 = .ok (.iload_n 1, 1) := by decide +kernel
theorem dX9_shifts_130 : decode cX9_shifts 130 = .ok (.invokevirtual 143, 3) := by decide +kernel
theorem dX9_shifts_133 : decode cX9_shifts 133 = .ok (.invokevirtual 104, 3) := by decide +kernel
theorem dX9_shifts_136 : decode cX9_shifts 136 = .ok (.aload_n 0, 1) := by decide +kernel
theorem dX9_shifts_137 : decode cX9_shifts 137 = .ok (.getfield 26, 3) := by decide +kernel
theorem dX9_shifts_140 : decode cX9_shifts 140 = .ok (.iload 7, 2) := by decide +kernel
theorem dX9_shifts_142 : decode cX9_shifts 142 = .ok (.i2l, 1) := by decide +kernel
theorem dX9_shifts_143 : decode cX9_shifts 143 = .ok (.invokevirtual 176, 3) := by decide +kernel
theorem dX9_shifts_146 : decode cX9_shifts 146 = .ok (.iload 6, 2) := by decide +kernel
theorem dX9_shifts_148 : decode cX9_shifts 148 = .ok (.ireturn, 1) := by decide +kernel
theorem dX9_overlaps_0 : decode cX9_overlaps 0 = .ok (.iload_n 1, 1) := by decide +kernel
theorem dX9_overlaps_1 : decode cX9_overlaps 1 = .ok (.invokestatic 93, 3) := by decide +kernel
theorem dX9_overlaps_4 : decode cX9_overlaps 4 = .ok (.ifCond .eq 25, 3) := by decide +kernel
theorem dX9_overlaps_7 : decode cX9_overlaps 7 = .ok (.iload_n 2, 1) := by decide +kernel
theorem dX9_overlaps_8 : decode cX9_overlaps 8 = .ok (.invokestatic 93, 3) := by decide +kernel
theorem dX9_overlaps_11 : decode cX9_overlaps 11 = .ok (.ifCond .eq 18, 3) := by decide +kernel
theorem dX9_overlaps_14 : decode cX9_overlaps 14 = .ok (.iload_n 3, 1) := by decide +kernel
theorem dX9_overlaps_15 : decode cX9_overlaps 15 = .ok (.invokestatic 93, 3) := by decide +kernel
theorem dX9_overlaps_18 : decode cX9_overlaps 18 = .ok (.ifCond .eq 11, 3) := by decide +kernel
theorem dX9_overlaps_21 : decode cX9_overlaps 21 = .ok (.iload 4, 2) := by decide +kernel
theorem dX9_overlaps_23 : decode cX9_overlaps 23 = .ok (.invokestatic 93, 3) := by decide +kernel
theorem dX9_overlaps_26 : decode cX9_overlaps 26 = .ok (.ifCond .ne 7, 3) := by decide +kernel
theorem dX9_overlaps_29 : decode cX9_overlaps 29 = .ok (.ldc2_w 253, 3) := by decide +kernel
theorem dX9_overlaps_32 : decode cX9_overlaps 32 = .ok (.lreturn, 1) := by decide +kernel
theorem dX9_overlaps_33 : decode cX9_overlaps 33 = .ok (.aload_n 0, 1) := by decide +kernel
theorem dX9_overlaps_34 : decode cX9_overlaps 34 = .ok (.getfield 10, 3) := by decide +kernel
theorem dX9_overlaps_37 : decode cX9_overlaps 37 = .ok (.iload_n 1, 1) := by decide +kernel
theorem dX9_overlaps_38 : decode cX9_overlaps 38 = .ok (.invokevirtual 212, 3) := by decide +kernel
theorem dX9_overlaps_41 : decode cX9_overlaps 41 = .ok (.aload_n 0, 1) := by decide +kernel
theorem dX9_overlaps_42 : decode cX9_overlaps 42 = .ok (.getfield 10, 3) := by decide +kernel
theorem dX9_overlaps_45 : decode cX9_overlaps 45 = .ok (.iload_n 2, 1) := by decide +kernel
theorem dX9_overlaps_46 : decode cX9_overlaps 46 = .ok (.invokevirtual 212, 3) := by decide +kernel
theorem dX9_overlaps_49 : decode cX9_overlaps 49 = .ok (.invokestatic 333, 3) := by decide +kernel
theorem dX9_overlaps_52 : decode cX9_overlaps 52 = .ok (.aload_n 0, 1) := by decide +kernel
theorem dX9_overlaps_53 : decode cX9_overlaps 53 = .ok (.getfield 10, 3) := by decide +kernel
theorem dX9_overlaps_56 : decode cX9_overlaps 56 = .ok (.iload_n 3, 1) := by decide +kernel
theorem dX9_overlaps_57 : decode cX9_overlaps 57 = .ok (.invokevirtual 212, 3) := by decide +kernel
theorem dX9_overlaps_60 : decode cX9_overlaps 60 = .ok (.aload_n 0, 1) := by decide +kernel
theorem dX9_overlaps_61 : decode cX9_overlaps 61 = .ok (.getfield 10, 3) := by decide +kernel
theorem dX9_overlaps_64 : decode cX9_overlaps 64 = .ok (.iload 4, 2) := by decide +kernel
theorem dX9_overlaps_66 : decode cX9_overlaps 66 = .ok (.invokevirtual 212, 3) := by decide +kernel
theorem dX9_overlaps_69 : decode cX9_overlaps 69 = .ok (.invokestatic 333, 3) := by decide +kernel
theorem dX9_overlaps_72 : decode cX9_overlaps 72 = .ok (.invokestatic 336, 3) := by decide +kernel
theorem dX9_overlaps_75 : decode cX9_overlaps 75 = .ok (.lstore 5, 2) := by decide +kernel
theorem dX9_overlaps_77 : decode cX9_overlaps 77 = .ok (.aload_n 0, 1) := by decide +kernel
theorem dX9_overlaps_78 : decode cX9_overlaps 78 = .ok (.getfield 10, 3) := by decide +kernel
theorem dX9_overlaps_81 : decode cX9_overlaps 81 = .ok (.iload_n 1, 1) := by decide +kernel
theorem dX9_overlaps_82 : decode cX9_overlaps 82 = .ok (.invokevirtual 212, 3) := by decide +kernel
theorem dX9_overlaps_85 : decode cX9_overlaps 85 = .ok (.aload_n 0, 1) := by decide +kernel
theorem dX9_overlaps_86 : decode cX9_overlaps 86 = .ok (.getfield 10, 3) := by decide +kernel
theorem dX9_overlaps_89 : decode cX9_overlaps 89 = .ok (.iload_n 2, 1) := by decide +kernel
theorem dX9_overlaps_90 : decode cX9_overlaps 90 = .ok (.invokevirtual 212, 3) := by decide +kernel
theorem dX9_overlaps_93 : decode cX9_overlaps 93 = .ok (.invokestatic 336, 3) := by decide +kernel
theorem dX9_overlaps_96 : decode cX9_overlaps 96 = .ok (.aload_n 0, 1) := by decide +kernel
theorem dX9_overlaps_97 : decode cX9_overlaps 97 = .ok (.getfield 10, 3) := by decide +kernel
theorem dX9_overlaps_100 : decode cX9_overlaps 100 = .ok (.iload_n 3, 1) := by decide +kernel
theorem dX9_overlaps_101 : decode cX9_overlaps 101 = .ok (.invokevirtual 212, 3) := by decide +kernel
theorem dX9_overlaps_104 : decode cX9_overlaps 104 = .ok (.aload_n 0, 1) := by decide +kernel
theorem dX9_overlaps_105 : decode cX9_overlaps 105 = .ok (.getfield 10, 3) := by decide +kernel
theorem dX9_overlaps_108 : decode cX9_overlaps 108 = .ok (.iload 4, 2) := by decide +kernel
theorem dX9_overlaps_110 : decode cX9_overlaps 110 = .ok (.invokevirtual 212, 3) := by decide +kernel
theorem dX9_overlaps_113 : decode cX9_overlaps 113 = .ok (.invokestatic 336, 3) := by decide +kernel
theorem dX9_overlaps_116 : decode cX9_overlaps 116 = .ok (.invokestatic 333, 3) := by decide +kernel
theorem dX9_overlaps_119 : decode cX9_overlaps 119 = .ok (.lstore 7, 2) := by decide +kernel
theorem dX9_overlaps_121 : decode cX9_overlaps 121 = .ok (.aload_n 0, 1) := by decide +kernel
theorem dX9_overlaps_122 : decode cX9_overlaps 122 = .ok (.getfield 26, 3) := by decide +kernel
theorem dX9_overlaps_125 : decode cX9_overlaps 125 = .ok (.lload 5, 2) := by decide +kernel
theorem dX9_overlaps_127 : decode cX9_overlaps 127 = .ok (.lload 5, 2) := by decide +kernel
theorem dX9_overlaps_129 : decode cX9_overlaps 129 = .ok (.lload 7, 2) := by decide +kernel
theorem dX9_overlaps_131 : decode cX9_overlaps 131 = .ok (.lsub, 1) := by decide +kernel
theorem dX9_overlaps_132 : decode cX9_overlaps 132 = .ok (.lconst 0, 1) := by decide +kernel
theorem dX9_overlaps_133 : decode cX9_overlaps 133 = .ok (.invokestatic 336, 3) := by decide +kernel
theorem dX9_overlaps_136 : decode cX9_overlaps 136 = .ok (.invokevirtual 199, 3) := by decide +kernel
theorem dX9_overlaps_139 : decode cX9_overlaps 139 = .ok (.lload 7, 2) := by decide +kernel
theorem dX9_overlaps_141 : decode cX9_overlaps 141 = .ok (.lload 5, 2) := by decide +kernel
theorem dX9_overlaps_143 : decode cX9_overlaps 143 = .ok (.lsub, 1) := by decide +kernel
theorem dX9_overlaps_144 : decode cX9_overlaps 144 = .ok (.lconst 0, 1) := by decide +kernel
theorem dX9_overlaps_145 : decode cX9_overlaps 145 = .ok (.invokestatic 336, 3) := by decide +kernel
theorem dX9_overlaps_148 : decode cX9_overlaps 148 = .ok (.lreturn, 1) := by decide +kernel
theorem dX9_leaps_0 : decode cX9_leaps 0 = .ok (.iload_n 1, 1) := by decide +kernel
theorem dX9_leaps_1 : decode cX9_leaps 1 = .ok (.invokestatic 93, 3) := by decide +kernel
theorem dX9_leaps_4 : decode cX9_leaps 4 = .ok (.ifCond .eq 10, 3) := by decide +kernel
theorem dX9_leaps_7 : decode cX9_leaps 7 = .ok (.iload_n 2, 1) := by decide +kernel
theorem dX9_leaps_8 : decode cX9_leaps 8 = .ok (.invokestatic 93, 3) := by decide +kernel
theorem dX9_leaps_11 : decode cX9_leaps 11 = .ok (.ifCond .ne 5, 3) := by decide +kernel
theorem dX9_leaps_14 : decode cX9_leaps 14 = .ok (.iconst (-1), 1) := by decide +kernel
theorem dX9_leaps_15 : decode cX9_leaps 15 = .ok (.ireturn, 1) := by decide +kernel
theorem dX9_leaps_16 : decode cX9_leaps 16 = .ok (.aload_n 0, 1) := by decide +kernel
theorem dX9_leaps_17 : decode cX9_leaps 17 = .ok (.getfield 10, 3) := by decide +kernel
theorem dX9_leaps_20 : decode cX9_leaps 20 = .ok (.iload_n 1, 1) := by decide +kernel
theorem dX9_leaps_21 : decode cX9_leaps 21 = .ok (.invokevirtual 112, 3) := by decide +kernel
theorem dX9_leaps_24 : decode cX9_leaps 24 = .ok (.aload_n 0, 1) := by decide +kernel
theorem dX9_leaps_25 : decode cX9_leaps 25 = .ok (.getfield 10, 3) := by decide +kernel
theorem dX9_leaps_28 : decode cX9_leaps 28 = .ok (.iload_n 2, 1) := by decide +kernel
theorem dX9_leaps_29 : decode cX9_leaps 29 = .ok (.invokevirtual 112, 3) := by decide +kernel
theorem dX9_leaps_32 : decode cX9_leaps 32 = .ok (.invokestatic 299, 3) := by decide +kernel
theorem dX9_leaps_35 : decode cX9_leaps 35 = .ok (.istore_n 3, 1) := by decide +kernel
theorem dX9_leaps_36 : decode cX9_leaps 36 = .ok (.aload_n 0, 1) := by decide +kernel
theorem dX9_leaps_37 : decode cX9_leaps 37 = .ok (.getfield 10, 3) := by decide +kernel
theorem dX9_leaps_40 : decode cX9_leaps 40 = .ok (.iload_n 1, 1) := by decide +kernel
theorem dX9_leaps_41 : decode cX9_leaps 41 = .ok (.invokevirtual 112, 3) := by decide +kernel
theorem dX9_leaps_44 : decode cX9_leaps 44 = .ok (.aload_n 0, 1) := by decide +kernel
theorem dX9_leaps_45 : decode cX9_leaps 45 = .ok (.getfield 10, 3) := by decide +kernel
theorem dX9_leaps_48 : decode cX9_leaps 48 = .ok (.iload_n 2, 1) := by decide +kernel
theorem dX9_leaps_49 : decode cX9_leaps 49 = .ok (.invokevirtual 112, 3) := by decide +kernel
theorem dX9_leaps_52 : decode cX9_leaps 52 = .ok (.invokestatic 327, 3) := by decide +kernel
theorem dX9_leaps_55 : decode cX9_leaps 55 = .ok (.istore 4, 2) := by decide +kernel
theorem dX9_leaps_57 : decode cX9_leaps 57 = .ok (.iload 4, 2) := by decide +kernel
theorem dX9_leaps_59 : decode cX9_leaps 59 = .ok (.invokestatic 138, 3) := by decide +kernel
theorem dX9_leaps_62 : decode cX9_leaps 62 = .ok (.sipush 10000, 3) := by decide +kernel
theorem dX9_leaps_65 : decode cX9_leaps 65 = .ok (.idiv, 1) := by decide +kernel
theorem dX9_leaps_66 : decode cX9_leaps 66 = .ok (.istore 5, 2) := by decide +kernel
theorem dX9_leaps_68 : decode cX9_leaps 68 = .ok (.iconst 0, 1) := by decide +kernel
theorem dX9_leaps_69 : decode cX9_leaps 69 = .ok (.istore 6, 2) := by decide +kernel
theorem dX9_leaps_71 : decode cX9_leaps 71 = .ok (.iconst (-1), 1) := by decide +kernel
theorem dX9_leaps_72 : decode cX9_leaps 72 = .ok (.istore 7, 2) := by decide +kernel
theorem dX9_leaps_74 : decode cX9_leaps 74 = .ok (.iconst (-1), 1) := by decide +kernel
theorem dX9_leaps_75 : decode cX9_leaps 75 = .ok (.istore 8, 2) := by decide +kernel
theorem dX9_leaps_77 : decode cX9_leaps 77 = .ok (.iload_n 3, 1) := by decide +kernel
theorem dX9_leaps_78 : decode cX9_leaps 78 = .ok (.invokestatic 138, 3) := by decide +kernel
theorem dX9_leaps_81 : decode cX9_leaps 81 = .ok (.sipush 10000, 3) := by decide +kernel
theorem dX9_leaps_84 : decode cX9_leaps 84 = .ok (.idiv, 1) := by decide +kernel
theorem dX9_leaps_85 : decode cX9_leaps 85 = .ok (.istore 9, 2) := by decide +kernel
theorem dX9_leaps_87 : decode cX9_leaps 87 = .ok (.iload 9, 2) := by decide +kernel
theorem dX9_leaps_89 : decode cX9_leaps 89 = .ok (.iload 5, 2) := by decide +kernel
theorem dX9_leaps_91 : decode cX9_leaps 91 = .ok (.if_icmp .gt 56, 3) := by decide +kernel
theorem dX9_leaps_94 : decode cX9_leaps 94 = .ok (.iload 9, 2) := by decide +kernel
theorem dX9_leaps_96 : decode cX9_leaps 96 = .ok (.iconst 2, 1) := by decide +kernel
theorem dX9_leaps_97 : decode cX9_leaps 97 = .ok (.bipush 29, 2) := by decide +kernel
theorem dX9_leaps_99 : decode cX9_leaps 99 = .ok (.invokestatic 149, 3) := by decide +kernel
theorem dX9_leaps_102 : decode cX9_leaps 102 = .ok (.istore 10, 2) := by decide +kernel
theorem dX9_leaps_104 : decode cX9_leaps 104 = .ok (.iload 9, 2) := by decide +kernel
theorem dX9_leaps_106 : decode cX9_leaps 106 = .ok (.invokestatic 157, 3) := by decide +kernel
theorem dX9_leaps_109 : decode cX9_leaps 109 = .ok (.ifCond .eq 32, 3) := by decide +kernel
theorem dX9_leaps_112 : decode cX9_leaps 112 = .ok (.iload 10, 2) := by decide +kernel
theorem dX9_leaps_114 : decode cX9_leaps 114 = .ok (.iload_n 3, 1) := by decide +kernel
theorem dX9_leaps_115 : decode cX9_leaps 115 = .ok (.if_icmp .lt 26, 3) := by decide +kernel
theorem dX9_leaps_118 : decode cX9_leaps 118 = .ok (.iload 10, 2) := by decide +kernel
theorem dX9_leaps_120 : decode cX9_leaps 120 = .ok (.iload 4, 2) := by decide +kernel
theorem dX9_leaps_122 : decode cX9_leaps 122 = .ok (.if_icmp .gt 19, 3) := by decide +kernel
theorem dX9_leaps_125 : decode cX9_leaps 125 = .ok (.iload 6, 2) := by decide +kernel
theorem dX9_leaps_127 : decode cX9_leaps 127 = .ok (.ifCond .ne 7, 3) := by decide +kernel
theorem dX9_leaps_130 : decode cX9_leaps 130 = .ok (.iload 10, 2) := by decide +kernel
theorem dX9_leaps_132 : decode cX9_leaps 132 = .ok (.istore 7, 2) := by decide +kernel
theorem dX9_leaps_134 : decode cX9_leaps 134 = .ok (.iload 10, 2) := by decide +kernel
theorem dX9_leaps_136 : decode cX9_leaps 136 = .ok (.istore 8, 2) := by decide +kernel
theorem dX9_leaps_138 : decode cX9_leaps 138 = .ok (.iinc 6 1, 3) := by decide +kernel
theorem dX9_leaps_141 : decode cX9_leaps 141 = .ok (.iinc 9 1, 3) := by decide +kernel
theorem dX9_leaps_144 : decode cX9_leaps 144 = .ok (.goto (-57), 3) := by decide +kernel
theorem dX9_leaps_147 : decode cX9_leaps 147 = .ok (.aload_n 0, 1) := by decide +kernel
theorem dX9_leaps_148 : decode cX9_leaps 148 = .ok (.getfield 26, 3) := by decide +kernel
theorem dX9_leaps_151 : decode cX9_leaps 151 = .ok (.iload 7, 2) := by decide +kernel
theorem dX9_leaps_153 : decode cX9_leaps 153 = .ok (.i2l, 1) := by decide +kernel
theorem dX9_leaps_154 : decode cX9_leaps 154 = .ok (.iload 8, 2) := by decide +kernel
theorem dX9_leaps_156 : decode cX9_leaps 156 = .ok (.i2l, 1) := by decide +kernel
theorem dX9_leaps_157 : decode cX9_leaps 157 = .ok (.invokevirtual 199, 3) := by decide +kernel
theorem dX9_leaps_160 : decode cX9_leaps 160 = .ok (.iload 6, 2) := by decide +kernel
theorem dX9_leaps_162 : decode cX9_leaps 162 = .ok (.ireturn, 1) := by decide +kernel
theorem dX9_whole_0 : decode cX9_whole 0 = .ok (.iload_n 1, 1) := by decide +kernel
theorem dX9_whole_1 : decode cX9_whole 1 = .ok (.invokestatic 93, 3) := by decide +kernel
theorem dX9_whole_4 : decode cX9_whole 4 = .ok (.ifCond .eq 10, 3) := by decide +kernel
theorem dX9_whole_7 : decode cX9_whole 7 = .ok (.iload_n 2, 1) := by decide +kernel
theorem dX9_whole_8 : decode cX9_whole 8 = .ok (.invokestatic 93, 3) := by decide +kernel
theorem dX9_whole_11 : decode cX9_whole 11 = .ok (.ifCond .ne 5, 3) := by decide +kernel
theorem dX9_whole_14 : decode cX9_whole 14 = .ok (.iconst (-1), 1) := by decide +kernel
theorem dX9_whole_15 : decode cX9_whole 15 = .ok (.ireturn, 1) := by decide +kernel
theorem dX9_whole_16 : decode cX9_whole 16 = .ok (.aload_n 0, 1) := by decide +kernel
theorem dX9_whole_17 : decode cX9_whole 17 = .ok (.getfield 10, 3) := by decide +kernel
theorem dX9_whole_20 : decode cX9_whole 20 = .ok (.iload_n 1, 1) := by decide +kernel
theorem dX9_whole_21 : decode cX9_whole 21 = .ok (.invokevirtual 112, 3) := by decide +kernel
theorem dX9_whole_24 : decode cX9_whole 24 = .ok (.aload_n 0, 1) := by decide +kernel
theorem dX9_whole_25 : decode cX9_whole 25 = .ok (.getfield 10, 3) := by decide +kernel
theorem dX9_whole_28 : decode cX9_whole 28 = .ok (.iload_n 2, 1) := by decide +kernel
theorem dX9_whole_29 : decode cX9_whole 29 = .ok (.invokevirtual 112, 3) := by decide +kernel
theorem dX9_whole_32 : decode cX9_whole 32 = .ok (.invokestatic 299, 3) := by decide +kernel
theorem dX9_whole_35 : decode cX9_whole 35 = .ok (.istore_n 3, 1) := by decide +kernel
theorem dX9_whole_36 : decode cX9_whole 36 = .ok (.aload_n 0, 1) := by decide +kernel
theorem dX9_whole_37 : decode cX9_whole 37 = .ok (.getfield 10, 3) := by decide +kernel
theorem dX9_whole_40 : decode cX9_whole 40 = .ok (.iload_n 1, 1) := by decide +kernel
theorem dX9_whole_41 : decode cX9_whole 41 = .ok (.invokevirtual 112, 3) := by decide +kernel
theorem dX9_whole_44 : decode cX9_whole 44 = .ok (.aload_n 0, 1) := by decide +kernel
theorem dX9_whole_45 : decode cX9_whole 45 = .ok (.getfield 10, 3) := by decide +kernel
theorem dX9_whole_48 : decode cX9_whole 48 = .ok (.iload_n 2, 1) := by decide +kernel
theorem dX9_whole_49 : decode cX9_whole 49 = .ok (.invokevirtual 112, 3) := by decide +kernel
theorem dX9_whole_52 : decode cX9_whole 52 = .ok (.invokestatic 327, 3) := by decide +kernel
theorem dX9_whole_55 : decode cX9_whole 55 = .ok (.istore 4, 2) := by decide +kernel
theorem dX9_whole_57 : decode cX9_whole 57 = .ok (.iload_n 3, 1) := by decide +kernel
theorem dX9_whole_58 : decode cX9_whole 58 = .ok (.invokestatic 240, 3) := by decide +kernel
theorem dX9_whole_61 : decode cX9_whole 61 = .ok (.istore 5, 2) := by decide +kernel
theorem dX9_whole_63 : decode cX9_whole 63 = .ok (.iload 5, 2) := by decide +kernel
theorem dX9_whole_65 : decode cX9_whole 65 = .ok (.invokestatic 338, 3) := by decide +kernel
theorem dX9_whole_68 : decode cX9_whole 68 = .ok (.iload_n 3, 1) := by decide +kernel
theorem dX9_whole_69 : decode cX9_whole 69 = .ok (.if_icmp .ge 6, 3) := by decide +kernel
theorem dX9_whole_72 : decode cX9_whole 72 = .ok (.iinc 5 1, 3) := by decide +kernel
theorem dX9_whole_75 : decode cX9_whole 75 = .ok (.iload 4, 2) := by decide +kernel
theorem dX9_whole_77 : decode cX9_whole 77 = .ok (.invokestatic 240, 3) := by decide +kernel
theorem dX9_whole_80 : decode cX9_whole 80 = .ok (.istore 6, 2) := by decide +kernel
theorem dX9_whole_82 : decode cX9_whole 82 = .ok (.iload 6, 2) := by decide +kernel
theorem dX9_whole_84 : decode cX9_whole 84 = .ok (.iload 5, 2) := by decide +kernel
theorem dX9_whole_86 : decode cX9_whole 86 = .ok (.if_icmp .gt 18, 3) := by decide +kernel
theorem dX9_whole_89 : decode cX9_whole 89 = .ok (.aload_n 0, 1) := by decide +kernel
theorem dX9_whole_90 : decode cX9_whole 90 = .ok (.getfield 26, 3) := by decide +kernel
theorem dX9_whole_93 : decode cX9_whole 93 = .ok (.iload 4, 2) := by decide +kernel
theorem dX9_whole_95 : decode cX9_whole 95 = .ok (.iload_n 3, 1) := by decide +kernel
theorem dX9_whole_96 : decode cX9_whole 96 = .ok (.isub, 1) := by decide +kernel
theorem dX9_whole_97 : decode cX9_whole 97 = .ok (.i2l, 1) := by decide +kernel
theorem dX9_whole_98 : decode cX9_whole 98 = .ok (.lconst 0, 1) := by decide +kernel
theorem dX9_whole_99 : decode cX9_whole 99 = .ok (.invokevirtual 199, 3) := by decide +kernel
theorem dX9_whole_102 : decode cX9_whole 102 = .ok (.iconst 0, 1) := by decide +kernel
theorem dX9_whole_103 : decode cX9_whole 103 = .ok (.ireturn, 1) := by decide +kernel
theorem dX9_whole_104 : decode cX9_whole 104 = .ok (.aload_n 0, 1) := by decide +kernel
theorem dX9_whole_105 : decode cX9_whole 105 = .ok (.getfield 26, 3) := by decide +kernel
theorem dX9_whole_108 : decode cX9_whole 108 = .ok (.iload 5, 2) := by decide +kernel
theorem dX9_whole_110 : decode cX9_whole 110 = .ok (.invokestatic 338, 3) := by decide +kernel
theorem dX9_whole_113 : decode cX9_whole 113 = .ok (.iload_n 3, 1) := by decide +kernel
theorem dX9_whole_114 : decode cX9_whole 114 = .ok (.isub, 1) := by decide +kernel
theorem dX9_whole_115 : decode cX9_whole 115 = .ok (.i2l, 1) := by decide +kernel
theorem dX9_whole_116 : decode cX9_whole 116 = .ok (.iload 4, 2) := by decide +kernel
theorem dX9_whole_118 : decode cX9_whole 118 = .ok (.iload 6, 2) := by decide +kernel
theorem dX9_whole_120 : decode cX9_whole 120 = .ok (.invokestatic 338, 3) := by decide +kernel
theorem dX9_whole_123 : decode cX9_whole 123 = .ok (.isub, 1) := by decide +kernel
theorem dX9_whole_124 : decode cX9_whole 124 = .ok (.i2l, 1) := by decide +kernel
theorem dX9_whole_125 : decode cX9_whole 125 = .ok (.invokevirtual 199, 3) := by decide +kernel
theorem dX9_whole_128 : decode cX9_whole 128 = .ok (.iload 6, 2) := by decide +kernel
theorem dX9_whole_130 : decode cX9_whole 130 = .ok (.iload 5, 2) := by decide +kernel
theorem dX9_whole_132 : decode cX9_whole 132 = .ok (.isub, 1) := by decide +kernel
theorem dX9_whole_133 : decode cX9_whole 133 = .ok (.ireturn, 1) := by decide +kernel
theorem dX9_floors_0 : decode cX9_floors 0 = .ok (.iload_n 1, 1) := by decide +kernel
theorem dX9_floors_1 : decode cX9_floors 1 = .ok (.invokestatic 93, 3) := by decide +kernel
theorem dX9_floors_4 : decode cX9_floors 4 = .ok (.ifCond .eq 19, 3) := by decide +kernel
theorem dX9_floors_7 : decode cX9_floors 7 = .ok (.iload_n 2, 1) := by decide +kernel
theorem dX9_floors_8 : decode cX9_floors 8 = .ok (.ifCond .lt 15, 3) := by decide +kernel
theorem dX9_floors_11 : decode cX9_floors 11 = .ok (.iload_n 2, 1) := by decide +kernel
theorem dX9_floors_12 : decode cX9_floors 12 = .ok (.iconst 5, 1) := by decide +kernel
theorem dX9_floors_13 : decode cX9_floors 13 = .ok (.if_icmp .gt 10, 3) := by decide +kernel
theorem dX9_floors_16 : decode cX9_floors 16 = .ok (.iload_n 3, 1) := by decide +kernel
theorem dX9_floors_17 : decode cX9_floors 17 = .ok (.invokestatic 93, 3) := by decide +kernel
theorem dX9_floors_20 : decode cX9_floors 20 = .ok (.ifCond .ne 5, 3) := by decide +kernel
theorem dX9_floors_23 : decode cX9_floors 23 = .ok (.iconst (-1), 1) := by decide +kernel
theorem dX9_floors_24 : decode cX9_floors 24 = .ok (.ireturn, 1) := by decide +kernel
theorem dX9_floors_25 : decode cX9_floors 25 = .ok (.aload_n 0, 1) := by decide +kernel
theorem dX9_floors_26 : decode cX9_floors 26 = .ok (.getfield 10, 3) := by decide +kernel
theorem dX9_floors_29 : decode cX9_floors 29 = .ok (.iload_n 1, 1) := by decide +kernel
theorem dX9_floors_30 : decode cX9_floors 30 = .ok (.invokevirtual 212, 3) := by decide +kernel
theorem dX9_floors_33 : decode cX9_floors 33 = .ok (.lstore 4, 2) := by decide +kernel
theorem dX9_floors_35 : decode cX9_floors 35 = .ok (.aload_n 0, 1) := by decide +kernel
theorem dX9_floors_36 : decode cX9_floors 36 = .ok (.getfield 10, 3) := by decide +kernel
theorem dX9_floors_39 : decode cX9_floors 39 = .ok (.iload_n 1, 1) := by decide +kernel
theorem dX9_floors_40 : decode cX9_floors 40 = .ok (.invokevirtual 112, 3) := by decide +kernel
theorem dX9_floors_43 : decode cX9_floors 43 = .ok (.aload_n 0, 1) := by decide +kernel
theorem dX9_floors_44 : decode cX9_floors 44 = .ok (.getfield 10, 3) := by decide +kernel
theorem dX9_floors_47 : decode cX9_floors 47 = .ok (.iload_n 1, 1) := by decide +kernel
theorem dX9_floors_48 : decode cX9_floors 48 = .ok (.invokevirtual 143, 3) := by decide +kernel
theorem dX9_floors_51 : decode cX9_floors 51 = .ok (.iload_n 2, 1) := by decide +kernel
theorem dX9_floors_52 : decode cX9_floors 52 = .ok (.invokestatic 341, 3) := by decide +kernel
theorem dX9_floors_55 : decode cX9_floors 55 = .ok (.lstore 6, 2) := by decide +kernel
theorem dX9_floors_57 : decode cX9_floors 57 = .ok (.aload_n 0, 1) := by decide +kernel
theorem dX9_floors_58 : decode cX9_floors 58 = .ok (.getfield 10, 3) := by decide +kernel
theorem dX9_floors_61 : decode cX9_floors 61 = .ok (.iload_n 3, 1) := by decide +kernel
theorem dX9_floors_62 : decode cX9_floors 62 = .ok (.lload 6, 2) := by decide +kernel
theorem dX9_floors_64 : decode cX9_floors 64 = .ok (.invokevirtual 345, 3) := by decide +kernel
theorem dX9_floors_67 : decode cX9_floors 67 = .ok (.aload_n 0, 1) := by decide +kernel
theorem dX9_floors_68 : decode cX9_floors 68 = .ok (.getfield 26, 3) := by decide +kernel
theorem dX9_floors_71 : decode cX9_floors 71 = .ok (.aload_n 0, 1) := by decide +kernel
theorem dX9_floors_72 : decode cX9_floors 72 = .ok (.getfield 10, 3) := by decide +kernel
theorem dX9_floors_75 : decode cX9_floors 75 = .ok (.iload_n 3, 1) := by decide +kernel
theorem dX9_floors_76 : decode cX9_floors 76 = .ok (.invokevirtual 143, 3) := by decide +kernel
theorem dX9_floors_79 : decode cX9_floors 79 = .ok (.i2l, 1) := by decide +kernel
theorem dX9_floors_80 : decode cX9_floors 80 = .ok (.lload 4, 2) := by decide +kernel
theorem dX9_floors_82 : decode cX9_floors 82 = .ok (.lload 6, 2) := by decide +kernel
theorem dX9_floors_84 : decode cX9_floors 84 = .ok (.lsub, 1) := by decide +kernel
theorem dX9_floors_85 : decode cX9_floors 85 = .ok (.invokevirtual 199, 3) := by decide +kernel
theorem dX9_floors_88 : decode cX9_floors 88 = .ok (.aload_n 0, 1) := by decide +kernel
theorem dX9_floors_89 : decode cX9_floors 89 = .ok (.getfield 10, 3) := by decide +kernel
theorem dX9_floors_92 : decode cX9_floors 92 = .ok (.iload_n 3, 1) := by decide +kernel
theorem dX9_floors_93 : decode cX9_floors 93 = .ok (.invokevirtual 112, 3) := by decide +kernel
theorem dX9_floors_96 : decode cX9_floors 96 = .ok (.ireturn, 1) := by decide +kernel
theorem dX9_floorOf_0 : decode cX9_floorOf 0 = .ok (.iload_n 0, 1) := by decide +kernel
theorem dX9_floorOf_1 : decode cX9_floorOf 1 = .ok (.invokestatic 138, 3) := by decide +kernel
theorem dX9_floorOf_4 : decode cX9_floorOf 4 = .ok (.sipush 10000, 3) := by decide +kernel
theorem dX9_floorOf_7 : decode cX9_floorOf 7 = .ok (.idiv, 1) := by decide +kernel
theorem dX9_floorOf_8 : decode cX9_floorOf 8 = .ok (.istore_n 3, 1) := by decide +kernel
theorem dX9_floorOf_9 : decode cX9_floorOf 9 = .ok (.iload_n 2, 1) := by decide +kernel
theorem dX9_floorOf_10 : decode cX9_floorOf 10 = .ok (.tableswitch 86 0 4 #[34, 45, 57, 63, 74], 34) := by decide +kernel
theorem dX9_floorOf_44 : decode cX9_floorOf 44 = .ok (.iload_n 0, 1) := by decide +kernel
theorem dX9_floorOf_45 : decode cX9_floorOf 45 = .ok (.iload_n 1, 1) := by decide +kernel
theorem dX9_floorOf_46 : decode cX9_floorOf 46 = .ok (.iload_n 1, 1) := by decide +kernel
theorem dX9_floorOf_47 : decode cX9_floorOf 47 = .ok (.bipush 60, 2) := by decide +kernel
theorem dX9_floorOf_49 : decode cX9_floorOf 49 = .ok (.irem, 1) := by decide +kernel
theorem dX9_floorOf_50 : decode cX9_floorOf 50 = .ok (.isub, 1) := by decide +kernel
theorem dX9_floorOf_51 : decode cX9_floorOf 51 = .ok (.invokestatic 236, 3) := by decide +kernel
theorem dX9_floorOf_54 : decode cX9_floorOf 54 = .ok (.lreturn, 1) := by decide +kernel
theorem dX9_floorOf_55 : decode cX9_floorOf 55 = .ok (.iload_n 0, 1) := by decide +kernel
theorem dX9_floorOf_56 : decode cX9_floorOf 56 = .ok (.iload_n 1, 1) := by decide +kernel
theorem dX9_floorOf_57 : decode cX9_floorOf 57 = .ok (.iload_n 1, 1) := by decide +kernel
theorem dX9_floorOf_58 : decode cX9_floorOf 58 = .ok (.sipush 3600, 3) := by decide +kernel
theorem dX9_floorOf_61 : decode cX9_floorOf 61 = .ok (.irem, 1) := by decide +kernel
theorem dX9_floorOf_62 : decode cX9_floorOf 62 = .ok (.isub, 1) := by decide +kernel
theorem dX9_floorOf_63 : decode cX9_floorOf 63 = .ok (.invokestatic 236, 3) := by decide +kernel
theorem dX9_floorOf_66 : decode cX9_floorOf 66 = .ok (.lreturn, 1) := by decide +kernel
theorem dX9_floorOf_67 : decode cX9_floorOf 67 = .ok (.iload_n 0, 1) := by decide +kernel
theorem dX9_floorOf_68 : decode cX9_floorOf 68 = .ok (.iconst 0, 1) := by decide +kernel
theorem dX9_floorOf_69 : decode cX9_floorOf 69 = .ok (.invokestatic 236, 3) := by decide +kernel
theorem dX9_floorOf_72 : decode cX9_floorOf 72 = .ok (.lreturn, 1) := by decide +kernel
theorem dX9_floorOf_73 : decode cX9_floorOf 73 = .ok (.iload_n 0, 1) := by decide +kernel
theorem dX9_floorOf_74 : decode cX9_floorOf 74 = .ok (.iload_n 0, 1) := by decide +kernel
theorem dX9_floorOf_75 : decode cX9_floorOf 75 = .ok (.invokestatic 146, 3) := by decide +kernel
theorem dX9_floorOf_78 : decode cX9_floorOf 78 = .ok (.isub, 1) := by decide +kernel
theorem dX9_floorOf_79 : decode cX9_floorOf 79 = .ok (.iconst 0, 1) := by decide +kernel
theorem dX9_floorOf_80 : decode cX9_floorOf 80 = .ok (.invokestatic 236, 3) := by decide +kernel
theorem dX9_floorOf_83 : decode cX9_floorOf 83 = .ok (.lreturn, 1) := by decide +kernel
theorem dX9_floorOf_84 : decode cX9_floorOf 84 = .ok (.iload_n 0, 1) := by decide +kernel
theorem dX9_floorOf_85 : decode cX9_floorOf 85 = .ok (.invokestatic 240, 3) := by decide +kernel
theorem dX9_floorOf_88 : decode cX9_floorOf 88 = .ok (.invokestatic 338, 3) := by decide +kernel
theorem dX9_floorOf_91 : decode cX9_floorOf 91 = .ok (.iconst 0, 1) := by decide +kernel
theorem dX9_floorOf_92 : decode cX9_floorOf 92 = .ok (.invokestatic 236, 3) := by decide +kernel
theorem dX9_floorOf_95 : decode cX9_floorOf 95 = .ok (.lreturn, 1) := by decide +kernel
theorem dX9_floorOf_96 : decode cX9_floorOf 96 = .ok (.iload_n 3, 1) := by decide +kernel
theorem dX9_floorOf_97 : decode cX9_floorOf 97 = .ok (.iconst 1, 1) := by decide +kernel
theorem dX9_floorOf_98 : decode cX9_floorOf 98 = .ok (.iconst 1, 1) := by decide +kernel
theorem dX9_floorOf_99 : decode cX9_floorOf 99 = .ok (.invokestatic 149, 3) := by decide +kernel
theorem dX9_floorOf_102 : decode cX9_floorOf 102 = .ok (.iconst 0, 1) := by decide +kernel
theorem dX9_floorOf_103 : decode cX9_floorOf 103 = .ok (.invokestatic 236, 3) := by decide +kernel
theorem dX9_floorOf_106 : decode cX9_floorOf 106 = .ok (.lreturn, 1) := by decide +kernel
theorem dX9_part_0 : decode cX9_part 0 = .ok (.iload_n 1, 1) := by decide +kernel
theorem dX9_part_1 : decode cX9_part 1 = .ok (.invokestatic 93, 3) := by decide +kernel
theorem dX9_part_4 : decode cX9_part 4 = .ok (.ifCond .eq 42, 3) := by decide +kernel
theorem dX9_part_7 : decode cX9_part 7 = .ok (.iload_n 2, 1) := by decide +kernel
theorem dX9_part_8 : decode cX9_part 8 = .ok (.invokestatic 93, 3) := by decide +kernel
theorem dX9_part_11 : decode cX9_part 11 = .ok (.ifCond .eq 35, 3) := by decide +kernel
theorem dX9_part_14 : decode cX9_part 14 = .ok (.iload 4, 2) := by decide +kernel
theorem dX9_part_16 : decode cX9_part 16 = .ok (.iconst 1, 1) := by decide +kernel
theorem dX9_part_17 : decode cX9_part 17 = .ok (.if_icmp .lt 29, 3) := by decide +kernel
theorem dX9_part_20 : decode cX9_part 20 = .ok (.iload 4, 2) := by decide +kernel
theorem dX9_part_22 : decode cX9_part 22 = .ok (.sipush 1000, 3) := by decide +kernel
theorem dX9_part_25 : decode cX9_part 25 = .ok (.if_icmp .gt 21, 3) := by decide +kernel
theorem dX9_part_28 : decode cX9_part 28 = .ok (.iload_n 3, 1) := by decide +kernel
theorem dX9_part_29 : decode cX9_part 29 = .ok (.ifCond .lt 17, 3) := by decide +kernel
theorem dX9_part_32 : decode cX9_part 32 = .ok (.iload_n 3, 1) := by decide +kernel
theorem dX9_part_33 : decode cX9_part 33 = .ok (.iload 4, 2) := by decide +kernel
theorem dX9_part_35 : decode cX9_part 35 = .ok (.if_icmp .gt 11, 3) := by decide +kernel
theorem dX9_part_38 : decode cX9_part 38 = .ok (.iload 5, 2) := by decide +kernel
theorem dX9_part_40 : decode cX9_part 40 = .ok (.invokestatic 93, 3) := by decide +kernel
theorem dX9_part_43 : decode cX9_part 43 = .ok (.ifCond .ne 5, 3) := by decide +kernel
theorem dX9_part_46 : decode cX9_part 46 = .ok (.iconst (-1), 1) := by decide +kernel
theorem dX9_part_47 : decode cX9_part 47 = .ok (.ireturn, 1) := by decide +kernel
theorem dX9_part_48 : decode cX9_part 48 = .ok (.aload_n 0, 1) := by decide +kernel
theorem dX9_part_49 : decode cX9_part 49 = .ok (.getfield 10, 3) := by decide +kernel
theorem dX9_part_52 : decode cX9_part 52 = .ok (.iload_n 2, 1) := by decide +kernel
theorem dX9_part_53 : decode cX9_part 53 = .ok (.invokevirtual 212, 3) := by decide +kernel
theorem dX9_part_56 : decode cX9_part 56 = .ok (.aload_n 0, 1) := by decide +kernel
theorem dX9_part_57 : decode cX9_part 57 = .ok (.getfield 10, 3) := by decide +kernel
theorem dX9_part_60 : decode cX9_part 60 = .ok (.iload_n 1, 1) := by decide +kernel
theorem dX9_part_61 : decode cX9_part 61 = .ok (.invokevirtual 212, 3) := by decide +kernel
theorem dX9_part_64 : decode cX9_part 64 = .ok (.lsub, 1) := by decide +kernel
theorem dX9_part_65 : decode cX9_part 65 = .ok (.iload_n 3, 1) := by decide +kernel
theorem dX9_part_66 : decode cX9_part 66 = .ok (.i2l, 1) := by decide +kernel
theorem dX9_part_67 : decode cX9_part 67 = .ok (.lmul, 1) := by decide +kernel
theorem dX9_part_68 : decode cX9_part 68 = .ok (.iload 4, 2) := by decide +kernel
theorem dX9_part_70 : decode cX9_part 70 = .ok (.i2l, 1) := by decide +kernel
theorem dX9_part_71 : decode cX9_part 71 = .ok (.ldiv, 1) := by decide +kernel
theorem dX9_part_72 : decode cX9_part 72 = .ok (.lstore 6, 2) := by decide +kernel
theorem dX9_part_74 : decode cX9_part 74 = .ok (.aload_n 0, 1) := by decide +kernel
theorem dX9_part_75 : decode cX9_part 75 = .ok (.getfield 10, 3) := by decide +kernel
theorem dX9_part_78 : decode cX9_part 78 = .ok (.iload 5, 2) := by decide +kernel
theorem dX9_part_80 : decode cX9_part 80 = .ok (.aload_n 0, 1) := by decide +kernel
theorem dX9_part_81 : decode cX9_part 81 = .ok (.getfield 10, 3) := by decide +kernel
theorem dX9_part_84 : decode cX9_part 84 = .ok (.iload_n 1, 1) := by decide +kernel
theorem dX9_part_85 : decode cX9_part 85 = .ok (.invokevirtual 212, 3) := by decide +kernel
theorem dX9_part_88 : decode cX9_part 88 = .ok (.lload 6, 2) := by decide +kernel
theorem dX9_part_90 : decode cX9_part 90 = .ok (.ladd, 1) := by decide +kernel
theorem dX9_part_91 : decode cX9_part 91 = .ok (.invokevirtual 345, 3) := by decide +kernel
theorem dX9_part_94 : decode cX9_part 94 = .ok (.aload_n 0, 1) := by decide +kernel
theorem dX9_part_95 : decode cX9_part 95 = .ok (.getfield 26, 3) := by decide +kernel
theorem dX9_part_98 : decode cX9_part 98 = .ok (.aload_n 0, 1) := by decide +kernel
theorem dX9_part_99 : decode cX9_part 99 = .ok (.getfield 10, 3) := by decide +kernel
theorem dX9_part_102 : decode cX9_part 102 = .ok (.iload 5, 2) := by decide +kernel
theorem dX9_part_104 : decode cX9_part 104 = .ok (.invokevirtual 143, 3) := by decide +kernel
theorem dX9_part_107 : decode cX9_part 107 = .ok (.i2l, 1) := by decide +kernel
theorem dX9_part_108 : decode cX9_part 108 = .ok (.invokevirtual 176, 3) := by decide +kernel
theorem dX9_part_111 : decode cX9_part 111 = .ok (.aload_n 0, 1) := by decide +kernel
theorem dX9_part_112 : decode cX9_part 112 = .ok (.getfield 10, 3) := by decide +kernel
theorem dX9_part_115 : decode cX9_part 115 = .ok (.iload 5, 2) := by decide +kernel
theorem dX9_part_117 : decode cX9_part 117 = .ok (.invokevirtual 112, 3) := by decide +kernel
theorem dX9_part_120 : decode cX9_part 120 = .ok (.ireturn, 1) := by decide +kernel
theorem dX9_mean_0 : decode cX9_mean 0 = .ok (.iload_n 1, 1) := by decide +kernel
theorem dX9_mean_1 : decode cX9_mean 1 = .ok (.iconst 1, 1) := by decide +kernel
theorem dX9_mean_2 : decode cX9_mean 2 = .ok (.if_icmp .lt 10, 3) := by decide +kernel
theorem dX9_mean_5 : decode cX9_mean 5 = .ok (.iload_n 1, 1) := by decide +kernel
theorem dX9_mean_6 : decode cX9_mean 6 = .ok (.sipush 255, 3) := by decide +kernel
theorem dX9_mean_9 : decode cX9_mean 9 = .ok (.if_icmp .le 5, 3) := by decide +kernel
theorem dX9_mean_12 : decode cX9_mean 12 = .ok (.iconst (-1), 1) := by decide +kernel
theorem dX9_mean_13 : decode cX9_mean 13 = .ok (.ireturn, 1) := by decide +kernel
theorem dX9_mean_14 : decode cX9_mean 14 = .ok (.lconst 0, 1) := by decide +kernel
theorem dX9_mean_15 : decode cX9_mean 15 = .ok (.lstore_n 2, 1) := by decide +kernel
theorem dX9_mean_16 : decode cX9_mean 16 = .ok (.iconst 0, 1) := by decide +kernel
theorem dX9_mean_17 : decode cX9_mean 17 = .ok (.istore 4, 2) := by decide +kernel
theorem dX9_mean_19 : decode cX9_mean 19 = .ok (.iconst (-1), 1) := by decide +kernel
theorem dX9_mean_20 : decode cX9_mean 20 = .ok (.istore 5, 2) := by decide +kernel
theorem dX9_mean_22 : decode cX9_mean 22 = .ok (.iconst (-1), 1) := by decide +kernel
theorem dX9_mean_23 : decode cX9_mean 23 = .ok (.istore 6, 2) := by decide +kernel
theorem dX9_mean_25 : decode cX9_mean 25 = .ok (.iconst 0, 1) := by decide +kernel
theorem dX9_mean_26 : decode cX9_mean 26 = .ok (.istore 7, 2) := by decide +kernel
theorem dX9_mean_28 : decode cX9_mean 28 = .ok (.iload 7, 2) := by decide +kernel
theorem dX9_mean_30 : decode cX9_mean 30 = .ok (.bipush 8, 2) := by decide +kernel
theorem dX9_mean_32 : decode cX9_mean 32 = .ok (.if_icmp .ge 97, 3) := by decide +kernel
theorem dX9_mean_35 : decode cX9_mean 35 = .ok (.iload_n 1, 1) := by decide +kernel
theorem dX9_mean_36 : decode cX9_mean 36 = .ok (.iconst 1, 1) := by decide +kernel
theorem dX9_mean_37 : decode cX9_mean 37 = .ok (.iload 7, 2) := by decide +kernel
theorem dX9_mean_39 : decode cX9_mean 39 = .ok (.ishl, 1) := by decide +kernel
theorem dX9_mean_40 : decode cX9_mean 40 = .ok (.iand, 1) := by decide +kernel
theorem dX9_mean_41 : decode cX9_mean 41 = .ok (.ifCond .eq 82, 3) := by decide +kernel
theorem dX9_mean_44 : decode cX9_mean 44 = .ok (.lload_n 2, 1) := by decide +kernel
theorem dX9_mean_45 : decode cX9_mean 45 = .ok (.aload_n 0, 1) := by decide +kernel
theorem dX9_mean_46 : decode cX9_mean 46 = .ok (.getfield 10, 3) := by decide +kernel
theorem dX9_mean_49 : decode cX9_mean 49 = .ok (.iload 7, 2) := by decide +kernel
theorem dX9_mean_51 : decode cX9_mean 51 = .ok (.invokevirtual 212, 3) := by decide +kernel
theorem dX9_mean_54 : decode cX9_mean 54 = .ok (.ladd, 1) := by decide +kernel
theorem dX9_mean_55 : decode cX9_mean 55 = .ok (.lstore_n 2, 1) := by decide +kernel
theorem dX9_mean_56 : decode cX9_mean 56 = .ok (.iinc 4 1, 3) := by decide +kernel
theorem dX9_mean_59 : decode cX9_mean 59 = .ok (.iload 5, 2) := by decide +kernel
theorem dX9_mean_61 : decode cX9_mean 61 = .ok (.iconst (-1), 1) := by decide +kernel
theorem dX9_mean_62 : decode cX9_mean 62 = .ok (.if_icmp .eq 25, 3) := by decide +kernel
theorem dX9_mean_65 : decode cX9_mean 65 = .ok (.aload_n 0, 1) := by decide +kernel
theorem dX9_mean_66 : decode cX9_mean 66 = .ok (.getfield 10, 3) := by decide +kernel
theorem dX9_mean_69 : decode cX9_mean 69 = .ok (.iload 7, 2) := by decide +kernel
theorem dX9_mean_71 : decode cX9_mean 71 = .ok (.invokevirtual 212, 3) := by decide +kernel
theorem dX9_mean_74 : decode cX9_mean 74 = .ok (.aload_n 0, 1) := by decide +kernel
theorem dX9_mean_75 : decode cX9_mean 75 = .ok (.getfield 10, 3) := by decide +kernel
theorem dX9_mean_78 : decode cX9_mean 78 = .ok (.iload 5, 2) := by decide +kernel
theorem dX9_mean_80 : decode cX9_mean 80 = .ok (.invokevirtual 212, 3) := by decide +kernel
theorem dX9_mean_83 : decode cX9_mean 83 = .ok (.lcmp, 1) := by decide +kernel
theorem dX9_mean_84 : decode cX9_mean 84 = .ok (.ifCond .ge 7, 3) := by decide +kernel
theorem dX9_mean_87 : decode cX9_mean 87 = .ok (.iload 7, 2) := by decide +kernel
theorem dX9_mean_89 : decode cX9_mean 89 = .ok (.istore 5, 2) := by decide +kernel
theorem dX9_mean_91 : decode cX9_mean 91 = .ok (.iload 6, 2) := by decide +kernel
theorem dX9_mean_93 : decode cX9_mean 93 = .ok (.iconst (-1), 1) := by decide +kernel
theorem dX9_mean_94 : decode cX9_mean 94 = .ok (.if_icmp .eq 25, 3) := by decide +kernel
theorem dX9_mean_97 : decode cX9_mean 97 = .ok (.aload_n 0, 1) := by decide +kernel
theorem dX9_mean_98 : decode cX9_mean 98 = .ok (.getfield 10, 3) := by decide +kernel
theorem dX9_mean_101 : decode cX9_mean 101 = .ok (.iload 7, 2) := by decide +kernel
theorem dX9_mean_103 : decode cX9_mean 103 = .ok (.invokevirtual 212, 3) := by decide +kernel
theorem dX9_mean_106 : decode cX9_mean 106 = .ok (.aload_n 0, 1) := by decide +kernel
theorem dX9_mean_107 : decode cX9_mean 107 = .ok (.getfield 10, 3) := by decide +kernel
theorem dX9_mean_110 : decode cX9_mean 110 = .ok (.iload 6, 2) := by decide +kernel
theorem dX9_mean_112 : decode cX9_mean 112 = .ok (.invokevirtual 212, 3) := by decide +kernel
theorem dX9_mean_115 : decode cX9_mean 115 = .ok (.lcmp, 1) := by decide +kernel
theorem dX9_mean_116 : decode cX9_mean 116 = .ok (.ifCond .le 7, 3) := by decide +kernel
theorem dX9_mean_119 : decode cX9_mean 119 = .ok (.iload 7, 2) := by decide +kernel
theorem dX9_mean_121 : decode cX9_mean 121 = .ok (.istore 6, 2) := by decide +kernel
theorem dX9_mean_123 : decode cX9_mean 123 = .ok (.iinc 7 1, 3) := by decide +kernel
theorem dX9_mean_126 : decode cX9_mean 126 = .ok (.goto (-98), 3) := by decide +kernel
theorem dX9_mean_129 : decode cX9_mean 129 = .ok (.iload 4, 2) := by decide +kernel
theorem dX9_mean_131 : decode cX9_mean 131 = .ok (.ifCond .le 11, 3) := by decide +kernel
theorem dX9_mean_134 : decode cX9_mean 134 = .ok (.lload_n 2, 1) := by decide +kernel
theorem dX9_mean_135 : decode cX9_mean 135 = .ok (.iload 4, 2) := by decide +kernel
theorem dX9_mean_137 : decode cX9_mean 137 = .ok (.i2l, 1) := by decide +kernel
theorem dX9_mean_138 : decode cX9_mean 138 = .ok (.ldiv, 1) := by decide +kernel
theorem dX9_mean_139 : decode cX9_mean 139 = .ok (.goto 4, 3) := by decide +kernel
theorem dX9_mean_142 : decode cX9_mean 142 = .ok (.lconst 0, 1) := by decide +kernel
theorem dX9_mean_143 : decode cX9_mean 143 = .ok (.lstore 7, 2) := by decide +kernel
theorem dX9_mean_145 : decode cX9_mean 145 = .ok (.aload_n 0, 1) := by decide +kernel
theorem dX9_mean_146 : decode cX9_mean 146 = .ok (.getfield 26, 3) := by decide +kernel
theorem dX9_mean_149 : decode cX9_mean 149 = .ok (.lload 7, 2) := by decide +kernel
theorem dX9_mean_151 : decode cX9_mean 151 = .ok (.ldc2_w 227, 3) := by decide +kernel
theorem dX9_mean_154 : decode cX9_mean 154 = .ok (.lrem, 1) := by decide +kernel
theorem dX9_mean_155 : decode cX9_mean 155 = .ok (.iload 5, 2) := by decide +kernel
theorem dX9_mean_157 : decode cX9_mean 157 = .ok (.i2l, 1) := by decide +kernel
theorem dX9_mean_158 : decode cX9_mean 158 = .ok (.iload 6, 2) := by decide +kernel
theorem dX9_mean_160 : decode cX9_mean 160 = .ok (.i2l, 1) := by decide +kernel
theorem dX9_mean_161 : decode cX9_mean 161 = .ok (.invokevirtual 209, 3) := by decide +kernel
theorem dX9_mean_164 : decode cX9_mean 164 = .ok (.lload 7, 2) := by decide +kernel
theorem dX9_mean_166 : decode cX9_mean 166 = .ok (.ldc2_w 227, 3) := by decide +kernel
theorem dX9_mean_169 : decode cX9_mean 169 = .ok (.ldiv, 1) := by decide +kernel
theorem dX9_mean_170 : decode cX9_mean 170 = .ok (.l2i, 1) := by decide +kernel
theorem dX9_mean_171 : decode cX9_mean 171 = .ok (.ireturn, 1) := by decide +kernel
theorem dX9_sorts_0 : decode cX9_sorts 0 = .ok (.aload_n 0, 1) := by decide +kernel
theorem dX9_sorts_1 : decode cX9_sorts 1 = .ok (.iconst 0, 1) := by decide +kernel
theorem dX9_sorts_2 : decode cX9_sorts 2 = .ok (.invokevirtual 348, 3) := by decide +kernel
theorem dX9_sorts_5 : decode cX9_sorts 5 = .ok (.ireturn, 1) := by decide +kernel
theorem dX9_ranked_0 : decode cX9_ranked 0 = .ok (.aload_n 0, 1) := by decide +kernel
theorem dX9_ranked_1 : decode cX9_ranked 1 = .ok (.getfield 26, 3) := by decide +kernel
theorem dX9_ranked_4 : decode cX9_ranked 4 = .ok (.invokevirtual 330, 3) := by decide +kernel
theorem dX9_ranked_7 : decode cX9_ranked 7 = .ok (.iconst 0, 1) := by decide +kernel
theorem dX9_ranked_8 : decode cX9_ranked 8 = .ok (.istore_n 2, 1) := by decide +kernel
theorem dX9_ranked_9 : decode cX9_ranked 9 = .ok (.iload_n 2, 1) := by decide +kernel
theorem dX9_ranked_10 : decode cX9_ranked 10 = .ok (.bipush 8, 2) := by decide +kernel
theorem dX9_ranked_12 : decode cX9_ranked 12 = .ok (.if_icmp .ge 18, 3) := by decide +kernel
theorem dX9_ranked_15 : decode cX9_ranked 15 = .ok (.aload_n 0, 1) := by decide +kernel
theorem dX9_ranked_16 : decode cX9_ranked 16 = .ok (.getfield 26, 3) := by decide +kernel
theorem dX9_ranked_19 : decode cX9_ranked 19 = .ok (.iload_n 2, 1) := by decide +kernel
theorem dX9_ranked_20 : decode cX9_ranked 20 = .ok (.i2l, 1) := by decide +kernel
theorem dX9_ranked_21 : decode cX9_ranked 21 = .ok (.invokevirtual 233, 3) := by decide +kernel
theorem dX9_ranked_24 : decode cX9_ranked 24 = .ok (.iinc 2 1, 3) := by decide +kernel
theorem dX9_ranked_27 : decode cX9_ranked 27 = .ok (.goto (-18), 3) := by decide +kernel
theorem dX9_ranked_30 : decode cX9_ranked 30 = .ok (.iconst 0, 1) := by decide +kernel
theorem dX9_ranked_31 : decode cX9_ranked 31 = .ok (.istore_n 2, 1) := by decide +kernel
theorem dX9_ranked_32 : decode cX9_ranked 32 = .ok (.iload_n 2, 1) := by decide +kernel
theorem dX9_ranked_33 : decode cX9_ranked 33 = .ok (.bipush 8, 2) := by decide +kernel
theorem dX9_ranked_35 : decode cX9_ranked 35 = .ok (.if_icmp .ge 99, 3) := by decide +kernel
theorem dX9_ranked_38 : decode cX9_ranked 38 = .ok (.iconst 0, 1) := by decide +kernel
theorem dX9_ranked_39 : decode cX9_ranked 39 = .ok (.istore_n 3, 1) := by decide +kernel
theorem dX9_ranked_40 : decode cX9_ranked 40 = .ok (.iconst 0, 1) := by decide +kernel
theorem dX9_ranked_41 : decode cX9_ranked 41 = .ok (.istore 4, 2) := by decide +kernel
theorem dX9_ranked_43 : decode cX9_ranked 43 = .ok (.iload 4, 2) := by decide +kernel
theorem dX9_ranked_45 : decode cX9_ranked 45 = .ok (.bipush 8, 2) := by decide +kernel
theorem dX9_ranked_47 : decode cX9_ranked 47 = .ok (.if_icmp .ge 71, 3) := by decide +kernel
theorem dX9_ranked_50 : decode cX9_ranked 50 = .ok (.iload_n 1, 1) := by decide +kernel
theorem dX9_ranked_51 : decode cX9_ranked 51 = .ok (.ifCond .eq 18, 3) := by decide +kernel
theorem dX9_ranked_54 : decode cX9_ranked 54 = .ok (.aload_n 0, 1) := by decide +kernel
theorem dX9_ranked_55 : decode cX9_ranked 55 = .ok (.iload 4, 2) := by decide +kernel
theorem dX9_ranked_57 : decode cX9_ranked 57 = .ok (.invokevirtual 352, 3) := by decide +kernel
theorem dX9_ranked_60 : decode cX9_ranked 60 = .ok (.aload_n 0, 1) := by decide +kernel
theorem dX9_ranked_61 : decode cX9_ranked 61 = .ok (.iload_n 2, 1) := by decide +kernel
theorem dX9_ranked_62 : decode cX9_ranked 62 = .ok (.invokevirtual 352, 3) := by decide +kernel
theorem dX9_ranked_65 : decode cX9_ranked 65 = .ok (.lsub, 1) := by decide +kernel
theorem dX9_ranked_66 : decode cX9_ranked 66 = .ok (.goto 21, 3) := by decide +kernel
theorem dX9_ranked_69 : decode cX9_ranked 69 = .ok (.aload_n 0, 1) := by decide +kernel
theorem dX9_ranked_70 : decode cX9_ranked 70 = .ok (.getfield 10, 3) := by decide +kernel
theorem dX9_ranked_73 : decode cX9_ranked 73 = .ok (.iload 4, 2) := by decide +kernel
theorem dX9_ranked_75 : decode cX9_ranked 75 = .ok (.invokevirtual 212, 3) := by decide +kernel
theorem dX9_ranked_78 : decode cX9_ranked 78 = .ok (.aload_n 0, 1) := by decide +kernel
theorem dX9_ranked_79 : decode cX9_ranked 79 = .ok (.getfield 10, 3) := by decide +kernel
theorem dX9_ranked_82 : decode cX9_ranked 82 = .ok (.iload_n 2, 1) := by decide +kernel
theorem dX9_ranked_83 : decode cX9_ranked 83 = .ok (.invokevirtual 212, 3) := by decide +kernel
theorem dX9_ranked_86 : decode cX9_ranked 86 = .ok (.lsub, 1) := by decide +kernel
theorem dX9_ranked_87 : decode cX9_ranked 87 = .ok (.lstore 5, 2) := by decide +kernel
theorem dX9_ranked_89 : decode cX9_ranked 89 = .ok (.lload 5, 2) := by decide +kernel
theorem dX9_ranked_91 : decode cX9_ranked 91 = .ok (.lconst 0, 1) := by decide +kernel
theorem dX9_ranked_92 : decode cX9_ranked 92 = .ok (.lcmp, 1) := by decide +kernel
theorem dX9_ranked_93 : decode cX9_ranked 93 = .ok (.ifCond .lt 16, 3) := by decide +kernel
theorem dX9_ranked_96 : decode cX9_ranked 96 = .ok (.lload 5, 2) := by decide +kernel
theorem dX9_ranked_98 : decode cX9_ranked 98 = .ok (.lconst 0, 1) := by decide +kernel
theorem dX9_ranked_99 : decode cX9_ranked 99 = .ok (.lcmp, 1) := by decide +kernel
theorem dX9_ranked_100 : decode cX9_ranked 100 = .ok (.ifCond .ne 12, 3) := by decide +kernel
theorem dX9_ranked_103 : decode cX9_ranked 103 = .ok (.iload 4, 2) := by decide +kernel
theorem dX9_ranked_105 : decode cX9_ranked 105 = .ok (.iload_n 2, 1) := by decide +kernel
theorem dX9_ranked_106 : decode cX9_ranked 106 = .ok (.if_icmp .ge 6, 3) := by decide +kernel
theorem dX9_ranked_109 : decode cX9_ranked 109 = .ok (.iinc 3 1, 3) := by decide +kernel
theorem dX9_ranked_112 : decode cX9_ranked 112 = .ok (.iinc 4 1, 3) := by decide +kernel
theorem dX9_ranked_115 : decode cX9_ranked 115 = .ok (.goto (-72), 3) := by decide +kernel
theorem dX9_ranked_118 : decode cX9_ranked 118 = .ok (.aload_n 0, 1) := by decide +kernel
theorem dX9_ranked_119 : decode cX9_ranked 119 = .ok (.getfield 26, 3) := by decide +kernel
theorem dX9_ranked_122 : decode cX9_ranked 122 = .ok (.iload_n 3, 1) := by decide +kernel
theorem dX9_ranked_123 : decode cX9_ranked 123 = .ok (.iload_n 2, 1) := by decide +kernel
theorem dX9_ranked_124 : decode cX9_ranked 124 = .ok (.i2l, 1) := by decide +kernel
theorem dX9_ranked_125 : decode cX9_ranked 125 = .ok (.invokevirtual 266, 3) := by decide +kernel
theorem dX9_ranked_128 : decode cX9_ranked 128 = .ok (.iinc 2 1, 3) := by decide +kernel
theorem dX9_ranked_131 : decode cX9_ranked 131 = .ok (.goto (-99), 3) := by decide +kernel
theorem dX9_ranked_134 : decode cX9_ranked 134 = .ok (.aload_n 0, 1) := by decide +kernel
theorem dX9_ranked_135 : decode cX9_ranked 135 = .ok (.getfield 26, 3) := by decide +kernel
theorem dX9_ranked_138 : decode cX9_ranked 138 = .ok (.iconst 0, 1) := by decide +kernel
theorem dX9_ranked_139 : decode cX9_ranked 139 = .ok (.invokevirtual 263, 3) := by decide +kernel
theorem dX9_ranked_142 : decode cX9_ranked 142 = .ok (.l2i, 1) := by decide +kernel
theorem dX9_ranked_143 : decode cX9_ranked 143 = .ok (.ireturn, 1) := by decide +kernel
theorem dX9_lengthOf_0 : decode cX9_lengthOf 0 = .ok (.ldc2_w 377, 3) := by decide +kernel
theorem dX9_lengthOf_3 : decode cX9_lengthOf 3 = .ok (.aload_n 0, 1) := by decide +kernel
theorem dX9_lengthOf_4 : decode cX9_lengthOf 4 = .ok (.getfield 10, 3) := by decide +kernel
theorem dX9_lengthOf_7 : decode cX9_lengthOf 7 = .ok (.iload_n 1, 1) := by decide +kernel
theorem dX9_lengthOf_8 : decode cX9_lengthOf 8 = .ok (.invokevirtual 161, 3) := by decide +kernel
theorem dX9_lengthOf_11 : decode cX9_lengthOf 11 = .ok (.i2l, 1) := by decide +kernel
theorem dX9_lengthOf_12 : decode cX9_lengthOf 12 = .ok (.lmul, 1) := by decide +kernel
theorem dX9_lengthOf_13 : decode cX9_lengthOf 13 = .ok (.ldc2_w 227, 3) := by decide +kernel
theorem dX9_lengthOf_16 : decode cX9_lengthOf 16 = .ok (.aload_n 0, 1) := by decide +kernel
theorem dX9_lengthOf_17 : decode cX9_lengthOf 17 = .ok (.getfield 10, 3) := by decide +kernel
theorem dX9_lengthOf_20 : decode cX9_lengthOf 20 = .ok (.iload_n 1, 1) := by decide +kernel
theorem dX9_lengthOf_21 : decode cX9_lengthOf 21 = .ok (.invokevirtual 164, 3) := by decide +kernel
theorem dX9_lengthOf_24 : decode cX9_lengthOf 24 = .ok (.i2l, 1) := by decide +kernel
theorem dX9_lengthOf_25 : decode cX9_lengthOf 25 = .ok (.lmul, 1) := by decide +kernel
theorem dX9_lengthOf_26 : decode cX9_lengthOf 26 = .ok (.ladd, 1) := by decide +kernel
theorem dX9_lengthOf_27 : decode cX9_lengthOf 27 = .ok (.aload_n 0, 1) := by decide +kernel
theorem dX9_lengthOf_28 : decode cX9_lengthOf 28 = .ok (.getfield 10, 3) := by decide +kernel
theorem dX9_lengthOf_31 : decode cX9_lengthOf 31 = .ok (.iload_n 1, 1) := by decide +kernel
theorem dX9_lengthOf_32 : decode cX9_lengthOf 32 = .ok (.invokevirtual 167, 3) := by decide +kernel
theorem dX9_lengthOf_35 : decode cX9_lengthOf 35 = .ok (.i2l, 1) := by decide +kernel
theorem dX9_lengthOf_36 : decode cX9_lengthOf 36 = .ok (.ladd, 1) := by decide +kernel
theorem dX9_lengthOf_37 : decode cX9_lengthOf 37 = .ok (.lreturn, 1) := by decide +kernel
theorem dX9_written_0 : decode cX9_written 0 = .ok (.iload_n 1, 1) := by decide +kernel
theorem dX9_written_1 : decode cX9_written 1 = .ok (.invokestatic 93, 3) := by decide +kernel
theorem dX9_written_4 : decode cX9_written 4 = .ok (.ifCond .ne 5, 3) := by decide +kernel
theorem dX9_written_7 : decode cX9_written 7 = .ok (.iconst (-1), 1) := by decide +kernel
theorem dX9_written_8 : decode cX9_written 8 = .ok (.ireturn, 1) := by decide +kernel
theorem dX9_written_9 : decode cX9_written 9 = .ok (.aload_n 0, 1) := by decide +kernel
theorem dX9_written_10 : decode cX9_written 10 = .ok (.aload_n 0, 1) := by decide +kernel
theorem dX9_written_11 : decode cX9_written 11 = .ok (.getfield 10, 3) := by decide +kernel
theorem dX9_written_14 : decode cX9_written 14 = .ok (.iload_n 1, 1) := by decide +kernel
theorem dX9_written_15 : decode cX9_written 15 = .ok (.invokevirtual 112, 3) := by decide +kernel
theorem dX9_written_18 : decode cX9_written 18 = .ok (.aload_n 0, 1) := by decide +kernel
theorem dX9_written_19 : decode cX9_written 19 = .ok (.getfield 10, 3) := by decide +kernel
theorem dX9_written_22 : decode cX9_written 22 = .ok (.iload_n 1, 1) := by decide +kernel
theorem dX9_written_23 : decode cX9_written 23 = .ok (.invokevirtual 143, 3) := by decide +kernel
theorem dX9_written_26 : decode cX9_written 26 = .ok (.invokevirtual 383, 3) := by decide +kernel
theorem dX9_written_29 : decode cX9_written 29 = .ok (.iload_n 2, 1) := by decide +kernel
theorem dX9_written_30 : decode cX9_written 30 = .ok (.iconst (-1), 1) := by decide +kernel
theorem dX9_written_31 : decode cX9_written 31 = .ok (.if_icmp .ne 13, 3) := by decide +kernel
theorem dX9_written_34 : decode cX9_written 34 = .ok (.aload_n 0, 1) := by decide +kernel
theorem dX9_written_35 : decode cX9_written 35 = .ok (.getfield 37, 3) := by decide +kernel
theorem dX9_written_38 : decode cX9_written 38 = .ok (.invokevirtual 78, 3) := by decide +kernel
theorem dX9_written_41 : decode cX9_written 41 = .ok (.goto 11, 3) := by decide +kernel
theorem dX9_written_44 : decode cX9_written 44 = .ok (.aload_n 0, 1) := by decide +kernel
theorem dX9_written_45 : decode cX9_written 45 = .ok (.getfield 37, 3) := by decide +kernel
theorem dX9_written_48 : decode cX9_written 48 = .ok (.iload_n 2, 1) := by decide +kernel
theorem dX9_written_49 : decode cX9_written 49 = .ok (.invokevirtual 386, 3) := by decide +kernel
theorem dX9_written_52 : decode cX9_written 52 = .ok (.ireturn, 1) := by decide +kernel
theorem dX9_writeMoment_0 : decode cX9_writeMoment 0 = .ok (.iload_n 1, 1) := by decide +kernel
theorem dX9_writeMoment_1 : decode cX9_writeMoment 1 = .ok (.invokestatic 138, 3) := by decide +kernel
theorem dX9_writeMoment_4 : decode cX9_writeMoment 4 = .ok (.istore_n 3, 1) := by decide +kernel
theorem dX9_writeMoment_5 : decode cX9_writeMoment 5 = .ok (.aload_n 0, 1) := by decide +kernel
theorem dX9_writeMoment_6 : decode cX9_writeMoment 6 = .ok (.getfield 37, 3) := by decide +kernel
theorem dX9_writeMoment_9 : decode cX9_writeMoment 9 = .ok (.iconst 0, 1) := by decide +kernel
theorem dX9_writeMoment_10 : decode cX9_writeMoment 10 = .ok (.invokevirtual 86, 3) := by decide +kernel
theorem dX9_writeMoment_13 : decode cX9_writeMoment 13 = .ok (.aload_n 0, 1) := by decide +kernel
theorem dX9_writeMoment_14 : decode cX9_writeMoment 14 = .ok (.getfield 37, 3) := by decide +kernel
theorem dX9_writeMoment_17 : decode cX9_writeMoment 17 = .ok (.iload_n 3, 1) := by decide +kernel
theorem dX9_writeMoment_18 : decode cX9_writeMoment 18 = .ok (.ldc_w 388, 3) := by decide +kernel
theorem dX9_writeMoment_21 : decode cX9_writeMoment 21 = .ok (.idiv, 1) := by decide +kernel
theorem dX9_writeMoment_22 : decode cX9_writeMoment 22 = .ok (.invokevirtual 389, 3) := by decide +kernel
theorem dX9_writeMoment_25 : decode cX9_writeMoment 25 = .ok (.aload_n 0, 1) := by decide +kernel
theorem dX9_writeMoment_26 : decode cX9_writeMoment 26 = .ok (.getfield 37, 3) := by decide +kernel
theorem dX9_writeMoment_29 : decode cX9_writeMoment 29 = .ok (.iload_n 3, 1) := by decide +kernel
theorem dX9_writeMoment_30 : decode cX9_writeMoment 30 = .ok (.sipush 10000, 3) := by decide +kernel
theorem dX9_writeMoment_33 : decode cX9_writeMoment 33 = .ok (.idiv, 1) := by decide +kernel
theorem dX9_writeMoment_34 : decode cX9_writeMoment 34 = .ok (.bipush 100, 2) := by decide +kernel
theorem dX9_writeMoment_36 : decode cX9_writeMoment 36 = .ok (.irem, 1) := by decide +kernel
theorem dX9_writeMoment_37 : decode cX9_writeMoment 37 = .ok (.invokevirtual 389, 3) := by decide +kernel
theorem dX9_writeMoment_40 : decode cX9_writeMoment 40 = .ok (.aload_n 0, 1) := by decide +kernel
theorem dX9_writeMoment_41 : decode cX9_writeMoment 41 = .ok (.getfield 37, 3) := by decide +kernel
theorem dX9_writeMoment_44 : decode cX9_writeMoment 44 = .ok (.bipush 45, 2) := by decide +kernel
theorem dX9_writeMoment_46 : decode cX9_writeMoment 46 = .ok (.invokevirtual 82, 3) := by decide +kernel
theorem dX9_writeMoment_49 : decode cX9_writeMoment 49 = .ok (.aload_n 0, 1) := by decide +kernel
theorem dX9_writeMoment_50 : decode cX9_writeMoment 50 = .ok (.getfield 37, 3) := by decide +kernel
theorem dX9_writeMoment_53 : decode cX9_writeMoment 53 = .ok (.iload_n 3, 1) := by decide +kernel
theorem dX9_writeMoment_54 : decode cX9_writeMoment 54 = .ok (.bipush 100, 2) := by decide +kernel
theorem dX9_writeMoment_56 : decode cX9_writeMoment 56 = .ok (.idiv, 1) := by decide +kernel
theorem dX9_writeMoment_57 : decode cX9_writeMoment 57 = .ok (.bipush 100, 2) := by decide +kernel
theorem dX9_writeMoment_59 : decode cX9_writeMoment 59 = .ok (.irem, 1) := by decide +kernel
theorem dX9_writeMoment_60 : decode cX9_writeMoment 60 = .ok (.invokevirtual 389, 3) := by decide +kernel
theorem dX9_writeMoment_63 : decode cX9_writeMoment 63 = .ok (.aload_n 0, 1) := by decide +kernel
theorem dX9_writeMoment_64 : decode cX9_writeMoment 64 = .ok (.getfield 37, 3) := by decide +kernel
theorem dX9_writeMoment_67 : decode cX9_writeMoment 67 = .ok (.bipush 45, 2) := by decide +kernel
theorem dX9_writeMoment_69 : decode cX9_writeMoment 69 = .ok (.invokevirtual 82, 3) := by decide +kernel
theorem dX9_writeMoment_72 : decode cX9_writeMoment 72 = .ok (.aload_n 0, 1) := by decide +kernel
theorem dX9_writeMoment_73 : decode cX9_writeMoment 73 = .ok (.getfield 37, 3) := by decide +kernel
theorem dX9_writeMoment_76 : decode cX9_writeMoment 76 = .ok (.iload_n 3, 1) := by decide +kernel
theorem dX9_writeMoment_77 : decode cX9_writeMoment 77 = .ok (.bipush 100, 2) := by decide +kernel
theorem dX9_writeMoment_79 : decode cX9_writeMoment 79 = .ok (.irem, 1) := by decide +kernel
theorem dX9_writeMoment_80 : decode cX9_writeMoment 80 = .ok (.invokevirtual 389, 3) := by decide +kernel
theorem dX9_writeMoment_83 : decode cX9_writeMoment 83 = .ok (.iload_n 2, 1) := by decide +kernel
theorem dX9_writeMoment_84 : decode cX9_writeMoment 84 = .ok (.ifCond .eq 67, 3) := by decide +kernel
theorem dX9_writeMoment_87 : decode cX9_writeMoment 87 = .ok (.aload_n 0, 1) := by decide +kernel
theorem dX9_writeMoment_88 : decode cX9_writeMoment 88 = .ok (.getfield 37, 3) := by decide +kernel
theorem dX9_writeMoment_91 : decode cX9_writeMoment 91 = .ok (.bipush 84, 2) := by decide +kernel
theorem dX9_writeMoment_93 : decode cX9_writeMoment 93 = .ok (.invokevirtual 82, 3) := by decide +kernel
theorem dX9_writeMoment_96 : decode cX9_writeMoment 96 = .ok (.aload_n 0, 1) := by decide +kernel
theorem dX9_writeMoment_97 : decode cX9_writeMoment 97 = .ok (.getfield 37, 3) := by decide +kernel
theorem dX9_writeMoment_100 : decode cX9_writeMoment 100 = .ok (.iload_n 2, 1) := by decide +kernel
theorem dX9_writeMoment_101 : decode cX9_writeMoment 101 = .ok (.sipush 3600, 3) := by decide +kernel
theorem dX9_writeMoment_104 : decode cX9_writeMoment 104 = .ok (.idiv, 1) := by decide +kernel
theorem dX9_writeMoment_105 : decode cX9_writeMoment 105 = .ok (.invokevirtual 389, 3) := by decide +kernel
theorem dX9_writeMoment_108 : decode cX9_writeMoment 108 = .ok (.aload_n 0, 1) := by decide +kernel
theorem dX9_writeMoment_109 : decode cX9_writeMoment 109 = .ok (.getfield 37, 3) := by decide +kernel
theorem dX9_writeMoment_112 : decode cX9_writeMoment 112 = .ok (.bipush 58, 2) := by decide +kernel
theorem dX9_writeMoment_114 : decode cX9_writeMoment 114 = .ok (.invokevirtual 82, 3) := by decide +kernel
theorem dX9_writeMoment_117 : decode cX9_writeMoment 117 = .ok (.aload_n 0, 1) := by decide +kernel
theorem dX9_writeMoment_118 : decode cX9_writeMoment 118 = .ok (.getfield 37, 3) := by decide +kernel
theorem dX9_writeMoment_121 : decode cX9_writeMoment 121 = .ok (.iload_n 2, 1) := by decide +kernel
theorem dX9_writeMoment_122 : decode cX9_writeMoment 122 = .ok (.bipush 60, 2) := by decide +kernel
theorem dX9_writeMoment_124 : decode cX9_writeMoment 124 = .ok (.idiv, 1) := by decide +kernel
theorem dX9_writeMoment_125 : decode cX9_writeMoment 125 = .ok (.bipush 60, 2) := by decide +kernel
theorem dX9_writeMoment_127 : decode cX9_writeMoment 127 = .ok (.irem, 1) := by decide +kernel
theorem dX9_writeMoment_128 : decode cX9_writeMoment 128 = .ok (.invokevirtual 389, 3) := by decide +kernel
theorem dX9_writeMoment_131 : decode cX9_writeMoment 131 = .ok (.aload_n 0, 1) := by decide +kernel
theorem dX9_writeMoment_132 : decode cX9_writeMoment 132 = .ok (.getfield 37, 3) := by decide +kernel
