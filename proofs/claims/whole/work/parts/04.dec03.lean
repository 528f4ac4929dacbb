theorem dX9_workdays_117 : decode cX9_workdays 117 = .ok (.iload 5, 2) := by decide +kernel
theorem dX9_workdays_119 : decode cX9_workdays 119 = .ok (.iconst 1, 1) := by decide +kernel
theorem dX9_workdays_120 : decode cX9_workdays 120 = .ok (.iadd, 1) := by decide +kernel
theorem dX9_workdays_121 : decode cX9_workdays 121 = .ok (.goto 5, 3) := by decide +kernel
theorem dX9_workdays_124 : decode cX9_workdays 124 = .ok (.iload 5, 2) := by decide +kernel
theorem dX9_workdays_126 : decode cX9_workdays 126 = .ok (.istore 10, 2) := by decide +kernel
theorem dX9_workdays_128 : decode cX9_workdays 128 = .ok (.aload_n 0, 1) := by decide +kernel
theorem dX9_workdays_129 : decode cX9_workdays 129 = .ok (.getfield 26, 3) := by decide +kernel
theorem dX9_workdays_132 : decode cX9_workdays 132 = .ok (.iload 10, 2) := by decide +kernel
theorem dX9_workdays_134 : decode cX9_workdays 134 = .ok (.i2l, 1) := by decide +kernel
theorem dX9_workdays_135 : decode cX9_workdays 135 = .ok (.invokevirtual 233, 3) := by decide +kernel
theorem dX9_workdays_138 : decode cX9_workdays 138 = .ok (.iload 8, 2) := by decide +kernel
theorem dX9_workdays_140 : decode cX9_workdays 140 = .ok (.iconst 5, 1) := by decide +kernel
theorem dX9_workdays_141 : decode cX9_workdays 141 = .ok (.if_icmp .ge 10, 3) := by decide +kernel
theorem dX9_workdays_144 : decode cX9_workdays 144 = .ok (.iload 7, 2) := by decide +kernel
theorem dX9_workdays_146 : decode cX9_workdays 146 = .ok (.iload 10, 2) := by decide +kernel
theorem dX9_workdays_148 : decode cX9_workdays 148 = .ok (.iadd, 1) := by decide +kernel
theorem dX9_workdays_149 : decode cX9_workdays 149 = .ok (.istore 7, 2) := by decide +kernel
theorem dX9_workdays_151 : decode cX9_workdays 151 = .ok (.iinc 8 1, 3) := by decide +kernel
theorem dX9_workdays_154 : decode cX9_workdays 154 = .ok (.goto (-66), 3) := by decide +kernel
theorem dX9_workdays_157 : decode cX9_workdays 157 = .ok (.aload_n 0, 1) := by decide +kernel
theorem dX9_workdays_158 : decode cX9_workdays 158 = .ok (.getfield 10, 3) := by decide +kernel
theorem dX9_workdays_161 : decode cX9_workdays 161 = .ok (.iload_n 2, 1) := by decide +kernel
theorem dX9_workdays_162 : decode cX9_workdays 162 = .ok (.invokevirtual 112, 3) := by decide +kernel
theorem dX9_workdays_165 : decode cX9_workdays 165 = .ok (.aload_n 0, 1) := by decide +kernel
theorem dX9_workdays_166 : decode cX9_workdays 166 = .ok (.getfield 10, 3) := by decide +kernel
theorem dX9_workdays_169 : decode cX9_workdays 169 = .ok (.iload_n 1, 1) := by decide +kernel
theorem dX9_workdays_170 : decode cX9_workdays 170 = .ok (.invokevirtual 112, 3) := by decide +kernel
theorem dX9_workdays_173 : decode cX9_workdays 173 = .ok (.if_icmp .ge 9, 3) := by decide +kernel
theorem dX9_workdays_176 : decode cX9_workdays 176 = .ok (.iload 7, 2) := by decide +kernel
theorem dX9_workdays_178 : decode cX9_workdays 178 = .ok (.ineg, 1) := by decide +kernel
theorem dX9_workdays_179 : decode cX9_workdays 179 = .ok (.goto 5, 3) := by decide +kernel
theorem dX9_workdays_182 : decode cX9_workdays 182 = .ok (.iload 7, 2) := by decide +kernel
theorem dX9_workdays_184 : decode cX9_workdays 184 = .ok (.ireturn, 1) := by decide +kernel
theorem dX9_shifts_0 : decode cX9_shifts 0 = .ok (.iload_n 1, 1) := by decide +kernel
theorem dX9_shifts_1 : decode cX9_shifts 1 = .ok (.invokestatic 93, 3) := by decide +kernel
theorem dX9_shifts_4 : decode cX9_shifts 4 = .ok (.ifCond .eq 24, 3) := by decide +kernel
theorem dX9_shifts_7 : decode cX9_shifts 7 = .ok (.iload_n 2, 1) := by decide +kernel
theorem dX9_shifts_8 : decode cX9_shifts 8 = .ok (.sipush (-10000), 3) := by decide +kernel
theorem dX9_shifts_11 : decode cX9_shifts 11 = .ok (.if_icmp .lt 17, 3) := by decide +kernel
theorem dX9_shifts_14 : decode cX9_shifts 14 = .ok (.iload_n 2, 1) := by decide +kernel
theorem dX9_shifts_15 : decode cX9_shifts 15 = .ok (.sipush 10000, 3) := by decide +kernel
theorem dX9_shifts_18 : decode cX9_shifts 18 = .ok (.if_icmp .gt 10, 3) := by decide +kernel
theorem dX9_shifts_21 : decode cX9_shifts 21 = .ok (.iload_n 3, 1) := by decide +kernel
theorem dX9_shifts_22 : decode cX9_shifts 22 = .ok (.invokestatic 93, 3) := by decide +kernel
theorem dX9_shifts_25 : decode cX9_shifts 25 = .ok (.ifCond .ne 5, 3) := by decide +kernel
theorem dX9_shifts_28 : decode cX9_shifts 28 = .ok (.iconst (-1), 1) := by decide +kernel
theorem dX9_shifts_29 : decode cX9_shifts 29 = .ok (.ireturn, 1) := by decide +kernel
theorem dX9_shifts_30 : decode cX9_shifts 30 = .ok (.iload_n 2, 1) := by decide +kernel
theorem dX9_shifts_31 : decode cX9_shifts 31 = .ok (.ifCond .ge 7, 3) := by decide +kernel
theorem dX9_shifts_34 : decode cX9_shifts 34 = .ok (.iconst (-1), 1) := by decide +kernel
theorem dX9_shifts_35 : decode cX9_shifts 35 = .ok (.goto 4, 3) := by decide +kernel
theorem dX9_shifts_38 : decode cX9_shifts 38 = .ok (.iconst 1, 1) := by decide +kernel
theorem dX9_shifts_39 : decode cX9_shifts 39 = .ok (.istore 4, 2) := by decide +kernel
theorem dX9_shifts_41 : decode cX9_shifts 41 = .ok (.iload_n 2, 1) := by decide +kernel
theorem dX9_shifts_42 : decode cX9_shifts 42 = .ok (.invokestatic 243, 3) := by decide +kernel
theorem dX9_shifts_45 : decode cX9_shifts 45 = .ok (.istore 5, 2) := by decide +kernel
theorem dX9_shifts_47 : decode cX9_shifts 47 = .ok (.aload_n 0, 1) := by decide +kernel
theorem dX9_shifts_48 : decode cX9_shifts 48 = .ok (.getfield 10, 3) := by decide +kernel
theorem dX9_shifts_51 : decode cX9_shifts 51 = .ok (.iload_n 1, 1) := by decide +kernel
theorem dX9_shifts_52 : decode cX9_shifts 52 = .ok (.invokevirtual 112, 3) := by decide +kernel
theorem dX9_shifts_55 : decode cX9_shifts 55 = .ok (.istore 6, 2) := by decide +kernel
theorem dX9_shifts_57 : decode cX9_shifts 57 = .ok (.iconst 0, 1) := by decide +kernel
theorem dX9_shifts_58 : decode cX9_shifts 58 = .ok (.istore 7, 2) := by decide +kernel
theorem dX9_shifts_60 : decode cX9_shifts 60 = .ok (.iconst 0, 1) := by decide +kernel
theorem dX9_shifts_61 : decode cX9_shifts 61 = .ok (.istore 8, 2) := by decide +kernel
theorem dX9_shifts_63 : decode cX9_shifts 63 = .ok (.iload 8, 2) := by decide +kernel
theorem dX9_shifts_65 : decode cX9_shifts 65 = .ok (.sipush 30000, 3) := by decide +kernel
theorem dX9_shifts_68 : decode cX9_shifts 68 = .ok (.if_icmp .ge 50, 3) := by decide +kernel
theorem dX9_shifts_71 : decode cX9_shifts 71 = .ok (.iload 5, 2) := by decide +kernel
theorem dX9_shifts_73 : decode cX9_shifts 73 = .ok (.ifCond .le 45, 3) := by decide +kernel
theorem dX9_shifts_76 : decode cX9_shifts 76 = .ok (.iload 6, 2) := by decide +kernel
theorem dX9_shifts_78 : decode cX9_shifts 78 = .ok (.iload 4, 2) := by decide +kernel
theorem dX9_shifts_80 : decode cX9_shifts 80 = .ok (.iadd, 1) := by decide +kernel
theorem dX9_shifts_81 : decode cX9_shifts 81 = .ok (.istore 6, 2) := by decide +kernel
theorem dX9_shifts_83 : decode cX9_shifts 83 = .ok (.iload 6, 2) := by decide +kernel
theorem dX9_shifts_85 : decode cX9_shifts 85 = .ok (.invokestatic 108, 3) := by decide +kernel
theorem dX9_shifts_88 : decode cX9_shifts 88 = .ok (.ifCond .ne 6, 3) := by decide +kernel
theorem dX9_shifts_91 : decode cX9_shifts 91 = .ok (.bipush (-2), 2) := by decide +kernel
theorem dX9_shifts_93 : decode cX9_shifts 93 = .ok (.ireturn, 1) := by decide +kernel
theorem dX9_shifts_94 : decode cX9_shifts 94 = .ok (.iload 6, 2) := by decide +kernel
theorem dX9_shifts_96 : decode cX9_shifts 96 = .ok (.invokestatic 146, 3) := by decide +kernel
theorem dX9_shifts_99 : decode cX9_shifts 99 = .ok (.iconst 5, 1) := by decide +kernel
theorem dX9_shifts_100 : decode cX9_shifts 100 = .ok (.if_icmp .ge 9, 3) := by decide +kernel
theorem dX9_shifts_103 : decode cX9_shifts 103 = .ok (.iinc 5 (-1), 3) := by decide +kernel
theorem dX9_shifts_106 : decode cX9_shifts 106 = .ok (.goto 6, 3) := by decide +kernel
theorem dX9_shifts_109 : decode cX9_shifts 109 = .ok (.iinc 7 1, 3) := by decide +kernel
theorem dX9_shifts_112 : decode cX9_shifts 112 = .ok (.iinc 8 1, 3) := by decide +kernel
theorem dX9_shifts_115 : decode cX9_shifts 115 = .ok (.goto (-52), 3) := by decide +kernel
theorem dX9_shifts_118 : decode cX9_shifts 118 = .ok (.aload_n 0, 1) := by decide +kernel
theorem dX9_shifts_119 : decode cX9_shifts 119 = .ok (.getfield 10, 3) := by decide +kernel
theorem dX9_shifts_122 : decode cX9_shifts 122 = .ok (.iload_n 3, 1) := by decide +kernel
theorem dX9_shifts_123 : decode cX9_shifts 123 = .ok (.iload 6, 2) := by decide +kernel
theorem dX9_shifts_125 : decode cX9_shifts 125 = .ok (.aload_n 0, 1) := by decide +kernel
theorem dX9_shifts_126 : decode cX9_shifts 126 = .ok (.getfield 10, 3) := by decide +kernel
theorem dX9_shifts_129 : decode cX9_shifts 129 = .ok (.iload_n 1, 1) := by decide +kernel
theorem dX9_shifts_130 : decode cX9_shifts 130 = .ok (.invokevirtual 143, 3) := by decide +kernel
theorem dX9_shifts_133 : decode cX9_shifts 133 = .ok (.invokevirtual 104, 3) := by decide +kernel
theorem dX9_shifts_136 : decode cX9_shifts 136 = .ok (.aload_n 0, 1) := by decide +kernel
theorem dX9_shifts_137 : decode cX9_shifts 137 = .ok (.getfield 26, 3) := by decide +kernel
theorem dX9_shifts_140 : decode cX9_shifts 140 = .ok (.iload 7, 2) := by decide +kernel
theorem dX9_shifts_142 : decode cX9_shifts 142 = .ok (.i2l, 1) := by decide +kernel
theorem dX9_shifts_143 : decode cX9_shifts 143 = .ok (.invokevirtual 176, 3) := by decide +kernel
theorem dX9_shifts_146 : decode cX9_shifts 146 = .ok (.iload 6, 2) := by decide +kernel
theorem dX9_shifts_148 : decode cX9_shifts 148 = .ok (.ireturn, 1) := by decide +kernel
theorem dX9_overlaps_0 : decode cX9_overlaps 0 = .ok (.iload_n 1, 1) := by decide +kernel
theorem dX9_overlaps_1 : decode cX9_overlaps 1 = .ok (.invokestatic 93, 3) := by decide +kernel
theorem dX9_overlaps_4 : decode cX9_overlaps 4 = .ok (.ifCond .eq 25, 3) := by decide +kernel
theorem dX9_overlaps_7 : decode cX9_overlaps 7 = .ok (.iload_n 2, 1) := by decide +kernel
theorem dX9_overlaps_8 : decode cX9_overlaps 8 = .ok (.invokestatic 93, 3) := by decide +kernel
theorem dX9_overlaps_11 : decode cX9_overlaps 11 = .ok (.ifCond .eq 18, 3) := by decide +kernel
theorem dX9_overlaps_14 : decode cX9_overlaps 14 = .ok (.iload_n 3, 1) := by decide +kernel
theorem dX9_overlaps_15 : decode cX9_overlaps 15 = .ok (.invokestatic 93, 3) := by decide +kernel
theorem dX9_overlaps_18 : decode cX9_overlaps 18 = .ok (.ifCond .eq 11, 3) := by decide +kernel
theorem dX9_overlaps_21 : decode cX9_overlaps 21 = .ok (.iload 4, 2) := by decide +kernel
theorem dX9_overlaps_23 : decode cX9_overlaps 23 = .ok (.invokestatic 93, 3) := by decide +kernel
theorem dX9_overlaps_26 : decode cX9_overlaps 26 = .ok (.ifCond .ne 7, 3) := by decide +kernel
theorem dX9_overlaps_29 : decode cX9_overlaps 29 = .ok (.ldc2_w 253, 3) := by decide +kernel
theorem dX9_overlaps_32 : decode cX9_overlaps 32 = .ok (.lreturn, 1) := by decide +kernel
theorem dX9_overlaps_33 : decode cX9_overlaps 33 = .ok (.aload_n 0, 1) := by decide +kernel
theorem dX9_overlaps_34 : decode cX9_overlaps 34 = .ok (.getfield 10, 3) := by decide +kernel
theorem dX9_overlaps_37 : decode cX9_overlaps 37 = .ok (.iload_n 1, 1) := by decide +kernel
theorem dX9_overlaps_38 : decode cX9_overlaps 38 = .ok (.invokevirtual 212, 3) := by decide +kernel
theorem dX9_overlaps_41 : decode cX9_overlaps 41 = .ok (.aload_n 0, 1) := by decide +kernel
theorem dX9_overlaps_42 : decode cX9_overlaps 42 = .ok (.getfield 10, 3) := by decide +kernel
theorem dX9_overlaps_45 : decode cX9_overlaps 45 = .ok (.iload_n 2, 1) := by decide +kernel
theorem dX9_overlaps_46 : decode cX9_overlaps 46 = .ok (.invokevirtual 212, 3) := by decide +kernel
theorem dX9_overlaps_49 : decode cX9_overlaps 49 = .ok (.invokestatic 333, 3) := by decide +kernel
theorem dX9_overlaps_52 : decode cX9_overlaps 52 = .ok (.aload_n 0, 1) := by decide +kernel
theorem dX9_overlaps_53 : decode cX9_overlaps 53 = .ok (.getfield 10, 3) := by decide +kernel
theorem dX9_overlaps_56 : decode cX9_overlaps 56 = .ok (.iload_n 3, 1) := by decide +kernel
theorem dX9_overlaps_57 : decode cX9_overlaps 57 = .ok (.invokevirtual 212, 3) := by decide +kernel
theorem dX9_overlaps_60 : decode cX9_overlaps 60 = .ok (.aload_n 0, 1) := by decide +kernel
theorem dX9_overlaps_61 : decode cX9_overlaps 61 = .ok (.getfield 10, 3) := by decide +kernel
theorem dX9_overlaps_64 : decode cX9_overlaps 64 = .ok (.iload 4, 2) := by decide +kernel
theorem dX9_overlaps_66 : decode cX9_overlaps 66 = .ok (.invokevirtual 212, 3) := by decide +kernel
theorem dX9_overlaps_69 : decode cX9_overlaps 69 = .ok (.invokestatic 333, 3) := by decide +kernel
theorem dX9_overlaps_72 : decode cX9_overlaps 72 = .ok (.invokestatic 336, 3) := by decide +kernel
theorem dX9_overlaps_75 : decode cX9_overlaps 75 = .ok (.lstore 5, 2) := by decide +kernel
theorem dX9_overlaps_77 : decode cX9_overlaps 77 = .ok (.aload_n 0, 1) := by decide +kernel
theorem dX9_overlaps_78 : decode cX9_overlaps 78 = .ok (.getfield 10, 3) := by decide +kernel
theorem dX9_overlaps_81 : decode cX9_overlaps 81 = .ok (.iload_n 1, 1) := by decide +kernel
theorem dX9_overlaps_82 : decode cX9_overlaps 82 = .ok (.invokevirtual 212, 3) := by decide +kernel
theorem dX9_overlaps_85 : decode cX9_overlaps 85 = .ok (.aload_n 0, 1) := by decide +kernel
theorem dX9_overlaps_86 : decode cX9_overlaps 86 = .ok (.getfield 10, 3) := by decide +kernel
theorem dX9_overlaps_89 : decode cX9_overlaps 89 = .ok (.iload_n 2, 1) := by decide +kernel
theorem dX9_overlaps_90 : decode cX9_overlaps 90 = .ok (.invokevirtual 212, 3) := by decide +kernel
theorem dX9_overlaps_93 : decode cX9_overlaps 93 = .ok (.invokestatic 336, 3) := by decide +kernel
theorem dX9_overlaps_96 : decode cX9_overlaps 96 = .ok (.aload_n 0, 1) := by decide +kernel
theorem dX9_overlaps_97 : decode cX9_overlaps 97 = .ok (.getfield 10, 3) := by decide +kernel
theorem dX9_overlaps_100 : decode cX9_overlaps 100 = .ok (.iload_n 3, 1) := by decide +kernel
theorem dX9_overlaps_101 : decode cX9_overlaps 101 = .ok (.invokevirtual 212, 3) := by decide +kernel
theorem dX9_overlaps_104 : decode cX9_overlaps 104 = .ok (.aload_n 0, 1) := by decide +kernel
theorem dX9_overlaps_105 : decode cX9_overlaps 105 = .ok (.getfield 10, 3) := by decide +kernel
theorem dX9_overlaps_108 : decode cX9_overlaps 108 = .ok (.iload 4, 2) := by decide +kernel
theorem dX9_overlaps_110 : decode cX9_overlaps 110 = .ok (.invokevirtual 212, 3) := by decide +kernel
theorem dX9_overlaps_113 : decode cX9_overlaps 113 = .ok (.invokestatic 336, 3) := by decide +kernel
theorem dX9_overlaps_116 : decode cX9_overlaps 116 = .ok (.invokestatic 333, 3) := by decide +kernel
theorem dX9_overlaps_119 : decode cX9_overlaps 119 = .ok (.lstore 7, 2) := by decide +kernel
theorem dX9_overlaps_121 : decode cX9_overlaps 121 = .ok (.aload_n 0, 1) := by decide +kernel
theorem dX9_overlaps_122 : decode cX9_overlaps 122 = .ok (.getfield 26, 3) := by decide +kernel
theorem dX9_overlaps_125 : decode cX9_overlaps 125 = .ok (.lload 5, 2) := by decide +kernel
theorem dX9_overlaps_127 : decode cX9_overlaps 127 = .ok (.lload 5, 2) := by decide +kernel
theorem dX9_overlaps_129 : decode cX9_overlaps 129 = .ok (.lload 7, 2) := by decide +kernel
theorem dX9_overlaps_131 : decode cX9_overlaps 131 = .ok (.lsub, 1) := by decide +kernel
theorem dX9_overlaps_132 : decode cX9_overlaps 132 = .ok (.lconst 0, 1) := by decide +kernel
theorem dX9_overlaps_133 : decode cX9_overlaps 133 = .ok (.invokestatic 336, 3) := by decide +kernel
theorem dX9_overlaps_136 : decode cX9_overlaps 136 = .ok (.invokevirtual 199, 3) := by decide +kernel
theorem dX9_overlaps_139 : decode cX9_overlaps 139 = .ok (.lload 7, 2) := by decide +kernel
theorem dX9_overlaps_141 : decode cX9_overlaps 141 = .ok (.lload 5, 2) := by decide +kernel
theorem dX9_overlaps_143 : decode cX9_overlaps 143 = .ok (.lsub, 1) := by decide +kernel
theorem dX9_overlaps_144 : decode cX9_overlaps 144 = .ok (.lconst 0, 1) := by decide +kernel
theorem dX9_overlaps_145 : decode cX9_overlaps 145 = .ok (.invokestatic 336, 3) := by decide +kernel
theorem dX9_overlaps_148 : decode cX9_overlaps 148 = .ok (.lreturn, 1) := by decide +kernel
theorem dX9_leaps_0 : decode cX9_leaps 0 = .ok (.iload_n 1, 1) := by decide +kernel
theorem dX9_leaps_1 : decode cX9_leaps 1 = .ok (.invokestatic 93, 3) := by decide +kernel
theorem dX9_leaps_4 : decode cX9_leaps 4 = .ok (.ifCond .eq 10, 3) := by decide +kernel
theorem dX9_leaps_7 : decode cX9_leaps 7 = .ok (.iload_n 2, 1) := by decide +kernel
theorem dX9_leaps_8 : decode cX9_leaps 8 = .ok (.invokestatic 93, 3) := by decide +kernel
theorem dX9_leaps_11 : decode cX9_leaps 11 = .ok (.ifCond .ne 5, 3) := by decide +kernel
theorem dX9_leaps_14 : decode cX9_leaps 14 = .ok (.iconst (-1), 1) := by decide +kernel
theorem dX9_leaps_15 : decode cX9_leaps 15 = .ok (.ireturn, 1) := by decide +kernel
theorem dX9_leaps_16 : decode cX9_leaps 16 = .ok (.aload_n 0, 1) := by decide +kernel
theorem dX9_leaps_17 : decode cX9_leaps 17 = .ok (.getfield 10, 3) := by decide +kernel
theorem dX9_leaps_20 : decode cX9_leaps 20 = .ok (.iload_n 1, 1) := by decide +kernel
theorem dX9_leaps_21 : decode cX9_leaps 21 = .ok (.invokevirtual 112, 3) := by decide +kernel
theorem dX9_leaps_24 : decode cX9_leaps 24 = .ok (.aload_n 0, 1) := by decide +kernel
theorem dX9_leaps_25 : decode cX9_leaps 25 = .ok (.getfield 10, 3) := by decide +kernel
theorem dX9_leaps_28 : decode cX9_leaps 28 = .ok (.iload_n 2, 1) := by decide +kernel
theorem dX9_leaps_29 : decode cX9_leaps 29 = .ok (.invokevirtual 112, 3) := by decide +kernel
theorem dX9_leaps_32 : decode cX9_leaps 32 = .ok (.invokestatic 299, 3) := by decide +kernel
theorem dX9_leaps_35 : decode cX9_leaps 35 = .ok (.istore_n 3, 1) := by decide +kernel
theorem dX9_leaps_36 : decode cX9_leaps 36 = .ok (.aload_n 0, 1) := by decide +kernel
theorem dX9_leaps_37 : decode cX9_leaps 37 = .ok (.getfield 10, 3) := by decide +kernel
theorem dX9_leaps_40 : decode cX9_leaps 40 = .ok (.iload_n 1, 1) := by decide +kernel
theorem dX9_leaps_41 : decode cX9_leaps 41 = .ok (.invokevirtual 112, 3) := by decide +kernel
theorem dX9_leaps_44 : decode cX9_leaps 44 = .ok (.aload_n 0, 1) := by decide +kernel
theorem dX9_leaps_45 : decode cX9_leaps 45 = .ok (.getfield 10, 3) := by decide +kernel
theorem dX9_leaps_48 : decode cX9_leaps 48 = .ok (.iload_n 2, 1) := by decide +kernel
theorem dX9_leaps_49 : decode cX9_leaps 49 = .ok (.invokevirtual 112, 3) := by decide +kernel
theorem dX9_leaps_52 : decode cX9_leaps 52 = .ok (.invokestatic 327, 3) := by decide +kernel
theorem dX9_leaps_55 : decode cX9_leaps 55 = .ok (.istore 4, 2) := by decide +kernel
theorem dX9_leaps_57 : decode cX9_leaps 57 = .ok (.iload 4, 2) := by decide +kernel
theorem dX9_leaps_59 : decode cX9_leaps 59 = .ok (.invokestatic 138, 3) := by decide +kernel
theorem dX9_leaps_62 : decode cX9_leaps 62 = .ok (.sipush 10000, 3) := by decide +kernel
theorem dX9_leaps_65 : decode cX9_leaps 65 = .ok (.idiv, 1) := by decide +kernel
theorem dX9_leaps_66 : decode cX9_leaps 66 = .ok (.istore 5, 2) := by decide +kernel
theorem dX9_leaps_68 : decode cX9_leaps 68 = .ok (.iconst 0, 1) := by decide +kernel
theorem dX9_leaps_69 : decode cX9_leaps 69 = .ok (.istore 6, 2) := by decide +kernel
theorem dX9_leaps_71 : decode cX9_leaps 71 = .ok (.iconst (-1), 1) := by decide +kernel
theorem dX9_leaps_72 : decode cX9_leaps 72 = .ok (.istore 7, 2) := by decide +kernel
theorem dX9_leaps_74 : decode cX9_leaps 74 = .ok (.iconst (-1), 1) := by decide +kernel
theorem dX9_leaps_75 : decode cX9_leaps 75 = .ok (.istore 8, 2) := by decide +kernel
theorem dX9_leaps_77 : decode cX9_leaps 77 = .ok (.iload_n 3, 1) := by decide +kernel
theorem dX9_leaps_78 : decode cX9_leaps 78 = .ok (.invokestatic 138, 3) := by decide +kernel
theorem dX9_leaps_81 : decode cX9_leaps 81 = .ok (.sipush 10000, 3) := by decide +kernel
theorem dX9_leaps_84 : decode cX9_leaps 84 = .ok (.idiv, 1) := by decide +kernel
theorem dX9_leaps_85 : decode cX9_leaps 85 = .ok (.istore 9, 2) := by decide +kernel
theorem dX9_leaps_87 : decode cX9_leaps 87 = .ok (.iload 9, 2) := by decide +kernel
theorem dX9_leaps_89 : decode cX9_leaps 89 = .ok (.iload 5, 2) := by decide +kernel
theorem dX9_leaps_91 : decode cX9_leaps 91 = .ok (.if_icmp .gt 56, 3) := by decide +kernel
theorem dX9_leaps_94 : decode cX9_leaps 94 = .ok (.iload 9, 2) := by decide +kernel
theorem dX9_leaps_96 : decode cX9_leaps 96 = .ok (.iconst 2, 1) := by decide +kernel
theorem dX9_leaps_97 : decode cX9_leaps 97 = .ok (.bipush 29, 2) := by decide +kernel
theorem dX9_leaps_99 : decode cX9_leaps 99 = .ok (.invokestatic 149, 3) := by decide +kernel
theorem dX9_leaps_102 : decode cX9_leaps 102 = .ok (.istore 10, 2) := by decide +kernel
theorem dX9_leaps_104 : decode cX9_leaps 104 = .ok (.iload 9, 2) := by decide +kernel
theorem dX9_leaps_106 : decode cX9_leaps 106 = .ok (.invokestatic 157, 3) := by decide +kernel
theorem dX9_leaps_109 : decode cX9_leaps 109 = .ok (.ifCond .eq 32, 3) := by decide +kernel
theorem dX9_leaps_112 : decode cX9_leaps 112 = .ok (.iload 10, 2) := by decide +kernel
theorem dX9_leaps_114 : decode cX9_leaps 114 = .ok (.iload_n 3, 1) := by decide +kernel
theorem dX9_leaps_115 : decode cX9_leaps 115 = .ok (.if_icmp .lt 26, 3) := by decide +kernel
theorem dX9_leaps_118 : decode cX9_leaps 118 = .ok (.iload 10, 2) := by decide +kernel
theorem dX9_leaps_120 : decode cX9_leaps 120 = .ok (.iload 4, 2) := by decide +kernel
theorem dX9_leaps_122 : decode cX9_leaps 122 = .ok (.if_icmp .gt 19, 3) := by decide +kernel
theorem dX9_leaps_125 : decode cX9_leaps 125 = .ok (.iload 6, 2) := by decide +kernel
theorem dX9_leaps_127 : decode cX9_leaps 127 = .ok (.ifCond .ne 7, 3) := by decide +kernel
theorem dX9_leaps_130 : decode cX9_leaps 130 = .ok (.iload 10, 2) := by decide +kernel
theorem dX9_leaps_132 : decode cX9_leaps 132 = .ok (.istore 7, 2) := by decide +kernel
theorem dX9_leaps_134 : decode cX9_leaps 134 = .ok (.iload 10, 2) := by decide +kernel
theorem dX9_leaps_136 : decode cX9_leaps 136 = .ok (.istore 8, 2) := by decide +kernel
theorem dX9_leaps_138 : decode cX9_leaps 138 = .ok (.iinc 6 1, 3) := by decide +kernel
theorem dX9_leaps_141 : decode cX9_leaps 141 = .ok (.iinc 9 1, 3) := by decide +kernel
theorem dX9_leaps_144 : decode cX9_leaps 144 = .ok (.goto (-57), 3) := by decide +kernel
theorem dX9_leaps_147 : decode cX9_leaps 147 = .ok (.aload_n 0, 1) := by decide +kernel
theorem dX9_leaps_148 : decode cX9_leaps 148 = .ok (.getfield 26, 3) := by decide +kernel
theorem dX9_leaps_151 : decode cX9_leaps 151 = .ok (.iload 7, 2) := by decide +kernel
theorem dX9_leaps_153 : decode cX9_leaps 153 = .ok (.i2l, 1) := by decide +kernel
theorem dX9_leaps_154 : decode cX9_leaps 154 = .ok (.iload 8, 2) := by decide +kernel
theorem dX9_leaps_156 : decode cX9_leaps 156 = .ok (.i2l, 1) := by decide +kernel
theorem dX9_leaps_157 : decode cX9_leaps 157 = .ok (.invokevirtual 199, 3) := by decide +kernel
theorem dX9_leaps_160 : decode cX9_leaps 160 = .ok (.iload 6, 2) := by decide +kernel
theorem dX9_leaps_162 : decode cX9_leaps 162 = .ok (.ireturn, 1) := by decide +kernel
theorem dX9_again_0 : decode cX9_again 0 = .ok (.iload_n 1, 1) := by decide +kernel
theorem dX9_again_1 : decode cX9_again 1 = .ok (.invokestatic 93, 3) := by decide +kernel
theorem dX9_again_4 : decode cX9_again 4 = .ok (.ifCond .eq 14, 3) := by decide +kernel
theorem dX9_again_7 : decode cX9_again 7 = .ok (.iload_n 2, 1) := by decide +kernel
theorem dX9_again_8 : decode cX9_again 8 = .ok (.iconst 1, 1) := by decide +kernel
theorem dX9_again_9 : decode cX9_again 9 = .ok (.if_icmp .lt 9, 3) := by decide +kernel
theorem dX9_again_12 : decode cX9_again 12 = .ok (.iload_n 2, 1) := by decide +kernel
theorem dX9_again_13 : decode cX9_again 13 = .ok (.bipush 100, 2) := by decide +kernel
theorem dX9_again_15 : decode cX9_again 15 = .ok (.if_icmp .le 5, 3) := by decide +kernel
theorem dX9_again_18 : decode cX9_again 18 = .ok (.iconst (-1), 1) := by decide +kernel
theorem dX9_again_19 : decode cX9_again 19 = .ok (.ireturn, 1) := by decide +kernel
theorem dX9_again_20 : decode cX9_again 20 = .ok (.aload_n 0, 1) := by decide +kernel
theorem dX9_again_21 : decode cX9_again 21 = .ok (.getfield 10, 3) := by decide +kernel
theorem dX9_again_24 : decode cX9_again 24 = .ok (.iload_n 1, 1) := by decide +kernel
theorem dX9_again_25 : decode cX9_again 25 = .ok (.invokevirtual 112, 3) := by decide +kernel
theorem dX9_again_28 : decode cX9_again 28 = .ok (.invokestatic 138, 3) := by decide +kernel
theorem dX9_again_31 : decode cX9_again 31 = .ok (.istore_n 3, 1) := by decide +kernel
theorem dX9_again_32 : decode cX9_again 32 = .ok (.iload_n 3, 1) := by decide +kernel
theorem dX9_again_33 : decode cX9_again 33 = .ok (.bipush 100, 2) := by decide +kernel
theorem dX9_again_35 : decode cX9_again 35 = .ok (.idiv, 1) := by decide +kernel
theorem dX9_again_36 : decode cX9_again 36 = .ok (.bipush 100, 2) := by decide +kernel
theorem dX9_again_38 : decode cX9_again 38 = .ok (.irem, 1) := by decide +kernel
theorem dX9_again_39 : decode cX9_again 39 = .ok (.istore 4, 2) := by decide +kernel
theorem dX9_again_41 : decode cX9_again 41 = .ok (.iload_n 3, 1) := by decide +kernel
theorem dX9_again_42 : decode cX9_again 42 = .ok (.bipush 100, 2) := by decide +kernel
theorem dX9_again_44 : decode cX9_again 44 = .ok (.irem, 1) := by decide +kernel
theorem dX9_again_45 : decode cX9_again 45 = .ok (.istore 5, 2) := by decide +kernel
theorem dX9_again_47 : decode cX9_again 47 = .ok (.iload_n 2, 1) := by decide +kernel
theorem dX9_again_48 : decode cX9_again 48 = .ok (.istore 6, 2) := by decide +kernel
theorem dX9_again_50 : decode cX9_again 50 = .ok (.iload_n 3, 1) := by decide +kernel
theorem dX9_again_51 : decode cX9_again 51 = .ok (.sipush 10000, 3) := by decide +kernel
theorem dX9_again_54 : decode cX9_again 54 = .ok (.idiv, 1) := by decide +kernel
theorem dX9_again_55 : decode cX9_again 55 = .ok (.iconst 1, 1) := by decide +kernel
theorem dX9_again_56 : decode cX9_again 56 = .ok (.iadd, 1) := by decide +kernel
theorem dX9_again_57 : decode cX9_again 57 = .ok (.istore 7, 2) := by decide +kernel
theorem dX9_again_59 : decode cX9_again 59 = .ok (.iload 7, 2) := by decide +kernel
theorem dX9_again_61 : decode cX9_again 61 = .ok (.sipush 9999, 3) := by decide +kernel
theorem dX9_again_64 : decode cX9_again 64 = .ok (.if_icmp .gt 49, 3) := by decide +kernel
theorem dX9_again_67 : decode cX9_again 67 = .ok (.iload 5, 2) := by decide +kernel
theorem dX9_again_69 : decode cX9_again 69 = .ok (.iload 7, 2) := by decide +kernel
theorem dX9_again_71 : decode cX9_again 71 = .ok (.iload 4, 2) := by decide +kernel
theorem dX9_again_73 : decode cX9_again 73 = .ok (.invokestatic 153, 3) := by decide +kernel
theorem dX9_again_76 : decode cX9_again 76 = .ok (.if_icmp .gt 6, 3) := by decide +kernel
theorem dX9_again_79 : decode cX9_again 79 = .ok (.iinc 6 (-1), 3) := by decide +kernel
theorem dX9_again_82 : decode cX9_again 82 = .ok (.iload 6, 2) := by decide +kernel
theorem dX9_again_84 : decode cX9_again 84 = .ok (.ifCond .ne 23, 3) := by decide +kernel
theorem dX9_again_87 : decode cX9_again 87 = .ok (.aload_n 0, 1) := by decide +kernel
theorem dX9_again_88 : decode cX9_again 88 = .ok (.getfield 26, 3) := by decide +kernel
theorem dX9_again_91 : decode cX9_again 91 = .ok (.iload 7, 2) := by decide +kernel
theorem dX9_again_93 : decode cX9_again 93 = .ok (.i2l, 1) := by decide +kernel
theorem dX9_again_94 : decode cX9_again 94 = .ok (.invokevirtual 176, 3) := by decide +kernel
theorem dX9_again_97 : decode cX9_again 97 = .ok (.iload 7, 2) := by decide +kernel
theorem dX9_again_99 : decode cX9_again 99 = .ok (.iload 4, 2) := by decide +kernel
theorem dX9_again_101 : decode cX9_again 101 = .ok (.iload 5, 2) := by decide +kernel
theorem dX9_again_103 : decode cX9_again 103 = .ok (.invokestatic 149, 3) := by decide +kernel
theorem dX9_again_106 : decode cX9_again 106 = .ok (.ireturn, 1) := by decide +kernel
theorem dX9_again_107 : decode cX9_again 107 = .ok (.iinc 7 1, 3) := by decide +kernel
theorem dX9_again_110 : decode cX9_again 110 = .ok (.goto (-51), 3) := by decide +kernel
theorem dX9_again_113 : decode cX9_again 113 = .ok (.bipush (-2), 2) := by decide +kernel
theorem dX9_again_115 : decode cX9_again 115 = .ok (.ireturn, 1) := by decide +kernel
theorem dX9_whole_0 : decode cX9_whole 0 = .ok (.iload_n 1, 1) := by decide +kernel
theorem dX9_whole_1 : decode cX9_whole 1 = .ok (.invokestatic 93, 3) := by decide +kernel
theorem dX9_whole_4 : decode cX9_whole 4 = .ok (.ifCond .eq 10, 3) := by decide +kernel
theorem dX9_whole_7 : decode cX9_whole 7 = .ok (.iload_n 2, 1) := by decide +kernel
theorem dX9_whole_8 : decode cX9_whole 8 = .ok (.invokestatic 93, 3) := by decide +kernel
theorem dX9_whole_11 : decode cX9_whole 11 = .ok (.ifCond .ne 5, 3) := by decide +kernel
theorem dX9_whole_14 : decode cX9_whole 14 = .ok (.iconst (-1), 1) := by decide +kernel
theorem dX9_whole_15 : decode cX9_whole 15 = .ok (.ireturn, 1) := by decide +kernel
theorem dX9_whole_16 : decode cX9_whole 16 = .ok (.aload_n 0, 1) := by decide +kernel
theorem dX9_whole_17 : decode cX9_whole 17 = .ok (.getfield 10, 3) := by decide +kernel
theorem dX9_whole_20 : decode cX9_whole 20 = .ok (.iload_n 1, 1) := by decide +kernel
theorem dX9_whole_21 : decode cX9_whole 21 = .ok (.invokevirtual 112, 3) := by decide +kernel
theorem dX9_whole_24 : decode cX9_whole 24 = .ok (.aload_n 0, 1) := by decide +kernel
theorem dX9_whole_25 : decode cX9_whole 25 = .ok (.getfield 10, 3) := by decide +kernel
theorem dX9_whole_28 : decode cX9_whole 28 = .ok (.iload_n 2, 1) := by decide +kernel
theorem dX9_whole_29 : decode cX9_whole 29 = .ok (.invokevirtual 112, 3) := by decide +kernel
theorem dX9_whole_32 : decode cX9_whole 32 = .ok (.invokestatic 299, 3) := by decide +kernel
theorem dX9_whole_35 : decode cX9_whole 35 = .ok (.istore_n 3, 1) := by decide +kernel
theorem dX9_whole_36 : decode cX9_whole 36 = .ok (.aload_n 0, 1) := by decide +kernel
theorem dX9_whole_37 : decode cX9_whole 37 = .ok (.getfield 10, 3) := by decide +kernel
theorem dX9_whole_40 : decode cX9_whole 40 = .ok (.iload_n 1, 1) := by decide +kernel
theorem dX9_whole_41 : decode cX9_whole 41 = .ok (.invokevirtual 112, 3) := by decide +kernel
theorem dX9_whole_44 : decode cX9_whole 44 = .ok (.aload_n 0, 1) := by decide +kernel
theorem dX9_whole_45 : decode cX9_whole 45 = .ok (.getfield 10, 3) := by decide +kernel
theorem dX9_whole_48 : decode cX9_whole 48 = .ok (.iload_n 2, 1) := by decide +kernel
theorem dX9_whole_49 : decode cX9_whole 49 = .ok (.invokevirtual 112, 3) := by decide +kernel
theorem dX9_whole_52 : decode cX9_whole 52 = .ok (.invokestatic 327, 3) := by decide +kernel
theorem dX9_whole_55 : decode cX9_whole 55 = .ok (.istore 4, 2) := by decide +kernel
theorem dX9_whole_57 : decode cX9_whole 57 = .ok (.iload_n 3, 1) := by decide +kernel
theorem dX9_whole_58 : decode cX9_whole 58 = .ok (.invokestatic 240, 3) := by decide +kernel
theorem dX9_whole_61 : decode cX9_whole 61 = .ok (.istore 5, 2) := by decide +kernel
theorem dX9_whole_63 : decode cX9_whole 63 = .ok (.iload 5, 2) := by decide +kernel
theorem dX9_whole_65 : decode cX9_whole 65 = .ok (.invokestatic 338, 3) := by decide +kernel
theorem dX9_whole_68 : decode cX9_whole 68 = .ok (.iload_n 3, 1) := by decide +kernel
theorem dX9_whole_69 : decode cX9_whole 69 = .ok (.if_icmp .ge 6, 3) := by decide +kernel
theorem dX9_whole_72 : decode cX9_whole 72 = .ok (.iinc 5 1, 3) := by decide +kernel
theorem dX9_whole_75 : decode cX9_whole 75 = .ok (.iload 4, 2) := by decide +kernel
theorem dX9_whole_77 : decode cX9_whole 77 = .ok (.invokestatic 240, 3) := by decide +kernel
theorem dX9_whole_80 : decode cX9_whole 80 = .ok (.istore 6, 2) := by decide +kernel
theorem dX9_whole_82 : decode cX9_whole 82 = .ok (.iload 6, 2) := by decide +kernel
theorem dX9_whole_84 : decode cX9_whole 84 = .ok (.iload 5, 2) := by decide +kernel
theorem dX9_whole_86 : decode cX9_whole 86 = .ok (.if_icmp .gt 18, 3) := by decide +kernel
theorem dX9_whole_89 : decode cX9_whole 89 = .ok (.aload_n 0, 1) := by decide +kernel
theorem dX9_whole_90 : decode cX9_whole 90 = .ok (.getfield 26, 3) := by decide +kernel
theorem dX9_whole_93 : decode cX9_whole 93 = .ok (.iload 4, 2) := by decide +kernel
theorem dX9_whole_95 : decode cX9_whole 95 = .ok (.iload_n 3, 1) := by decide +kernel
theorem dX9_whole_96 : decode cX9_whole 96 = .ok (.isub, 1) := by decide +kernel
theorem dX9_whole_97 : decode cX9_whole 97 = .ok (.i2l, 1) := by decide +kernel
theorem dX9_whole_98 : decode cX9_whole 98 = .ok (.lconst 0, 1) := by decide +kernel
theorem dX9_whole_99 : decode cX9_whole 99 = .ok (.invokevirtual 199, 3) := by decide +kernel
theorem dX9_whole_102 : decode cX9_whole 102 = .ok (.iconst 0, 1) := by decide +kernel
theorem dX9_whole_103 : decode cX9_whole 103 = .ok (.ireturn, 1) := by decide +kernel
theorem dX9_whole_104 : decode cX9_whole 104 = .ok (.aload_n 0, 1) := by decide +kernel
theorem dX9_whole_105 : decode cX9_whole 105 = .ok (.getfield 26, 3) := by decide +kernel
theorem dX9_whole_108 : decode cX9_whole 108 = .ok (.iload 5, 2) := by decide +kernel
theorem dX9_whole_110 : decode cX9_whole 110 = .ok (.invokestatic 338, 3) := by decide +kernel
theorem dX9_whole_113 : decode cX9_whole 113 = .ok (.iload_n 3, 1) := by decide +kernel
theorem dX9_whole_114 : decode cX9_whole 114 = .ok (.isub, 1) := by decide +kernel
theorem dX9_whole_115 : decode cX9_whole 115 = .ok (.i2l, 1) := by decide +kernel
theorem dX9_whole_116 : decode cX9_whole 116 = .ok (.iload 4, 2) := by decide +kernel
theorem dX9_whole_118 : decode cX9_whole 118 = .ok (.iload 6, 2) := by decide +kernel
theorem dX9_whole_120 : decode cX9_whole 120 = .ok (.invokestatic 338, 3) := by decide +kernel
theorem dX9_whole_123 : decode cX9_whole 123 = .ok (.isub, 1) := by decide +kernel
theorem dX9_whole_124 : decode cX9_whole 124 = .ok (.i2l, 1) := by decide +kernel
theorem dX9_whole_125 : decode cX9_whole 125 = .ok (.invokevirtual 199, 3) := by decide +kernel
theorem dX9_whole_128 : decode cX9_whole 128 = .ok (.iload 6, 2) := by decide +kernel
theorem dX9_whole_130 : decode cX9_whole 130 = .ok (.iload 5, 2) := by decide +kernel
theorem dX9_whole_132 : decode cX9_whole 132 = .ok (.isub, 1) := by decide +kernel
theorem dX9_whole_133 : decode cX9_whole 133 = .ok (.ireturn, 1) := by decide +kernel
theorem dX9_floors_0 : decode cX9_floors 0 = .ok (.iload_n 1, 1) := by decide +kernel
theorem dX9_floors_1 : decode cX9_floors 1 = .ok (.invokestatic 93, 3) := by decide +kernel
theorem dX9_floors_4 : decode cX9_floors 4 = .ok (.ifCond .eq 19, 3) := by decide +kernel
theorem dX9_floors_7 : decode cX9_floors 7 = .ok (.iload_n 2, 1) := by decide +kernel
theorem dX9_floors_8 : decode cX9_floors 8 = .ok (.ifCond .lt 15, 3) := by decide +kernel
theorem dX9_floors_11 : decode cX9_floors 11 = .ok (.iload_n 2, 1) := by decide +kernel
theorem dX9_floors_12 : decode cX9_floors 12 = .ok (.iconst 5, 1) := by decide +kernel
theorem dX9_floors_13 : decode cX9_floors 13 = .ok (.if_icmp .gt 10, 3) := by decide +kernel
theorem dX9_floors_16 : decode cX9_floors 16 = .ok (.iload_n 3, 1) := by decide +kernel
theorem dX9_floors_17 : decode cX9_floors 17 = .ok (.invokestatic 93, 3) := by decide +kernel
theorem dX9_floors_20 : decode cX9_floors 20 = .ok (.ifCond .ne 5, 3) := by decide +kernel
theorem dX9_floors_23 : decode cX9_floors 23 = .ok (.iconst (-1), 1) := by decide +kernel
theorem dX9_floors_24 : decode cX9_floors 24 = .ok (.ireturn, 1) := by decide +kernel
theorem dX9_floors_25 : decode cX9_floors 25 = .ok (.aload_n 0, 1) := by decide +kernel
theorem dX9_floors_26 : decode cX9_floors 26 = .ok (.getfield 10, 3) := by decide +kernel
theorem dX9_floors_29 : decode cX9_floors 29 = .ok (.iload_n 1, 1) := by decide +kernel
theorem dX9_floors_30 : decode cX9_floors 30 = .ok (.invokevirtual 212, 3) := by decide +kernel
theorem dX9_floors_33 : decode cX9_floors 33 = .ok (.lstore 4, 2) := by decide +kernel
theorem dX9_floors_35 : decode cX9_floors 35 = .ok (.aload_n 0, 1) := by decide +kernel
theorem dX9_floors_36 : decode cX9_floors 36 = .ok (.getfield 10, 3) := by decide +kernel
theorem dX9_floors_39 : decode cX9_floors 39 = .ok (.iload_n 1, 1) := by decide +kernel
theorem dX9_floors_40 : decode cX9_floors 40 = .ok (.invokevirtual 112, 3) := by decide +kernel
theorem dX9_floors_43 : decode cX9_floors 43 = .ok (.aload_n 0, 1) := by decide +kernel
theorem dX9_floors_44 : decode cX9_floors 44 = .ok (.getfield 10, 3) := by decide +kernel
theorem dX9_floors_47 : decode cX9_floors 47 = .ok (.iload_n 1, 1) := by decide +kernel
theorem dX9_floors_48 : decode cX9_floors 48 = .ok (.invokevirtual 143, 3) := by decide +kernel
theorem dX9_floors_51 : decode cX9_floors 51 = .ok (.iload_n 2, 1) := by decide +kernel
theorem dX9_floors_52 : decode cX9_floors 52 = .ok (.invokestatic 341, 3) := by decide +kernel
theorem dX9_floors_55 : decode cX9_floors 55 = .ok (.lstore 6, 2) := by decide +kernel
theorem dX9_floors_57 : decode cX9_floors 57 = .ok (.aload_n 0, 1) := by decide +kernel
theorem dX9_floors_58 : decode cX9_floors 58 = .ok (.getfield 10, 3) := by decide +kernel
theorem dX9_floors_61 : decode cX9_floors 61 = .ok (.iload_n 3, 1) := by decide +kernel
theorem dX9_floors_62 : decode cX9_floors 62 = .ok (.lload 6, 2) := by decide +kernel
theorem dX9_floors_64 : decode cX9_floors 64 = .ok (.invokevirtual 345, 3) := by decide +kernel
theorem dX9_floors_67 : decode cX9_floors 67 = .ok (.aload_n 0, 1) := by decide +kernel
theorem dX9_floors_68 : decode cX9_floors 68 = .ok (.getfield 26, 3) := by decide +kernel
theorem dX9_floors_71 : decode cX9_floors 71 = .ok (.aload_n 0, 1) := by decide +kernel
theorem dX9_floors_72 : decode cX9_floors 72 = .ok (.getfield 10, 3) := by decide +kernel
theorem dX9_floors_75 : decode cX9_floors 75 = .ok (.iload_n 3, 1) := by decide +kernel
theorem dX9_floors_76 : decode cX9_floors 76 = .ok (.invokevirtual 143, 3) := by decide +kernel
theorem dX9_floors_79 : decode cX9_floors 79 = .ok (.i2l, 1) := by decide +kernel
theorem dX9_floors_80 : decode cX9_floors 80 = .ok (.lload 4, 2) := by decide +kernel
theorem dX9_floors_82 : decode cX9_floors 82 = .ok (.lload 6, 2) := by decide +kernel
theorem dX9_floors_84 : decode cX9_floors 84 = .ok (.lsub, 1) := by decide +kernel
theorem dX9_floors_85 : decode cX9_floors 85 = .ok (.invokevirtual 199, 3) := by decide +kernel
theorem dX9_floors_88 : decode cX9_floors 88 = .ok (.aload_n 0, 1) := by decide +kernel
theorem dX9_floors_89 : decode cX9_floors 89 = .ok (.getfield 10, 3) := by decide +kernel
theorem dX9_floors_92 : decode cX9_floors 92 = .ok (.iload_n 3, 1) := by decide +kernel
theorem dX9_floors_93 : decode cX9_floors 93 = .ok (.invokevirtual 112, 3) := by decide +kernel
theorem dX9_floors_96 : decode cX9_floors 96 = .ok (.ireturn, 1) := by decide +kernel
theorem dX9_floorOf_0 : decode cX9_floorOf 0 = .ok (.iload_n 0, 1) := by decide +kernel
theorem dX9_floorOf_1 : decode cX9_floorOf 1 = .ok (.invokestatic 138, 3) := by decide +kernel
theorem dX9_floorOf_4 : decode cX9_floorOf 4 = .ok (.sipush 10000, 3) := by decide +kernel
theorem dX9_floorOf_7 : decode cX9_floorOf 7 = .ok (.idiv, 1) := by decide +kernel
theorem dX9_floorOf_8 : decode cX9_floorOf 8 = .ok (.istore_n 3, 1) := by decide +kernel
theorem dX9_floorOf_9 : decode cX9_floorOf 9 = .ok (.iload_n 2, 1) := by decide +kernel
theorem dX9_floorOf_10 : decode cX9_floorOf 10 = .ok (.tableswitch 86 0 4 #[34, 45, 57, 63, 74], 34) := by decide +kernel
theorem dX9_floorOf_44 : decode cX9_floorOf 44 = .ok (.iload_n 0, 1) := by decide +kernel
theorem dX9_floorOf_45 : decode cX9_floorOf 45 = .ok (.iload_n 1, 1) := by decide +kernel
theorem dX9_floorOf_46 : decode cX9_floorOf 46 = .ok (.iload_n 1, 1) := by decide +kernel
theorem dX9_floorOf_47 : decode cX9_floorOf 47 = .ok (.bipush 60, 2) := by decide +kernel
theorem dX9_floorOf_49 : decode cX9_floorOf 49 = .ok (.irem, 1) := by decide +kernel
theorem dX9_floorOf_50 : decode cX9_floorOf 50 = .ok (.isub, 1) := by decide +kernel
theorem dX9_floorOf_51 : decode cX9_floorOf 51 = .ok (.invokestatic 236, 3) := by decide +kernel
theorem dX9_floorOf_54 : decode cX9_floorOf 54 = .ok (.lreturn, 1) := by decide +kernel
theorem dX9_floorOf_55 : decode cX9_floorOf 55 = .ok (.iload_n 0, 1) := by decide +kernel
theorem dX9_floorOf_56 : decode cX9_floorOf 56 = .ok (.iload_n 1, 1) := by decide +kernel
theorem dX9_floorOf_57 : decode cX9_floorOf 57 = .ok (.iload_n 1, 1) := by decide +kernel
theorem dX9_floorOf_58 : decode cX9_floorOf 58 = .ok (.sipush 3600, 3) := by decide +kernel
theorem dX9_floorOf_61 : decode cX9_floorOf 61 = .ok (.irem, 1) := by decide +kernel
theorem dX9_floorOf_62 : decode cX9_floorOf 62 = .ok (.isub, 1) := by decide +kernel
theorem dX9_floorOf_63 : decode cX9_floorOf 63 = .ok (.invokestatic 236, 3) := by decide +kernel
theorem dX9_floorOf_66 : decode cX9_floorOf 66 = .ok (.lreturn, 1) := by decide +kernel
theorem dX9_floorOf_67 : decode cX9_floorOf 67 = .ok (.iload_n 0, 1) := by decide +kernel
theorem dX9_floorOf_68 : decode cX9_floorOf 68 = .ok (.iconst 0, 1) := by decide +kernel
theorem dX9_floorOf_69 : decode cX9_floorOf 69 = .ok (.invokestatic 236, 3) := by decide +kernel
theorem dX9_floorOf_72 : decode cX9_floorOf 72 = .ok (.lreturn, 1) := by decide +kernel
theorem dX9_floorOf_73 : decode cX9_floorOf 73 = .ok (.iload_n 0, 1) := by decide +kernel
theorem dX9_floorOf_74 : decode cX9_floorOf 74 = .ok (.iload_n 0, 1) := by decide +kernel
theorem dX9_floorOf_75 : decode cX9_floorOf 75 = .ok (.invokestatic 146, 3) := by decide +kernel
theorem dX9_floorOf_78 : decode cX9_floorOf 78 = .ok (.isub, 1) := by decide +kernel
theorem dX9_floorOf_79 : decode cX9_floorOf 79 = .ok (.iconst 0, 1) := by decide +kernel
theorem dX9_floorOf_80 : decode cX9_floorOf 80 = .ok (.invokestatic 236, 3) := by decide +kernel
theorem dX9_floorOf_83 : decode cX9_floorOf 83 = .ok (.lreturn, 1) := by decide +kernel
theorem dX9_floorOf_84 : decode cX9_floorOf 84 = .ok (.iload_n 0, 1) := by decide +kernel
theorem dX9_floorOf_85 : decode cX9_floorOf 85 = .ok (.invokestatic 240, 3) := by decide +kernel
theorem dX9_floorOf_88 : decode cX9_floorOf 88 = .ok (.invokestatic 338, 3) := by decide +kernel
theorem dX9_floorOf_91 : decode cX9_floorOf 91 = .ok (.iconst 0, 1) := by decide +kernel
theorem dX9_floorOf_92 : decode cX9_floorOf 92 = .ok (.invokestatic 236, 3) := by decide +kernel
theorem dX9_floorOf_95 : decode cX9_floorOf 95 = .ok (.lreturn, 1) := by decide +kernel
theorem dX9_floorOf_96 : decode cX9_floorOf 96 = .ok (.iload_n 3, 1) := by decide +kernel
theorem dX9_floorOf_97 : decode cX9_floorOf 97 = .ok (.iconst 1, 1) := by decide +kernel
theorem dX9_floorOf_98 : decode cX9_floorOf 98 = .ok (.iconst 1, 1) := by decide +kernel
theorem dX9_floorOf_99 : decode cX9_floorOf 99 = .ok (.invokestatic 149, 3) := by decide +kernel
theorem dX9_floorOf_102 : decode cX9_floorOf 102 = .ok (.iconst 0, 1) := by decide +kernel
theorem dX9_floorOf_103 : decode cX9_floorOf 103 = .ok (.invokestatic 236, 3) := by decide +kernel
theorem dX9_floorOf_106 : decode cX9_floorOf 106 = .ok (.lreturn, 1) := by decide +kernel
theorem dX9_part_0 : decode cX9_part 0 = .ok (.iload_n 1, 1) := by decide +kernel
theorem dX9_part_1 : decode cX9_part 1 = .ok (.invokestatic 93, 3) := by decide +kernel
theorem dX9_part_4 : decode cX9_part 4 = .ok (.ifCond .eq 42, 3) := by decide +kernel
theorem dX9_part_7 : decode cX9_part 7 = .ok (.iload_n 2, 1) := by decide +kernel
theorem dX9_part_8 : decode cX9_part 8 = .ok (.invokestatic 93, 3) := by decide +kernel
theorem dX9_part_11 : decode cX9_part 11 = .ok (.ifCond .eq 35, 3) := by decide +kernel
theorem dX9_part_14 : decode cX9_part 14 = .ok (.iload 4, 2) := by decide +kernel
theorem dX9_part_16 : decode cX9_part 16 = .ok (.iconst 1, 1) := by decide +kernel
theorem dX9_part_17 : decode cX9_part 17 = .ok (.if_icmp .lt 29, 3) := by decide +kernel
theorem dX9_part_20 : decode cX9_part 20 = .ok (.iload 4, 2) := by decide +kernel
theorem dX9_part_22 : decode cX9_part 22 = .ok (.sipush 1000, 3) := by decide +kernel
theorem dX9_part_25 : decode cX9_part 25 = .ok (.if_icmp .gt 21, 3) := by decide +kernel
theorem dX9_part_28 : decode cX9_part 28 = .ok (.iload_n 3, 1) := by decide +kernel
theorem dX9_part_29 : decode cX9_part 29 = .ok (.ifCond .lt 17, 3) := by decide +kernel
theorem dX9_part_32 : decode cX9_part 32 = .ok (.iload_n 3, 1) := by decide +kernel
theorem dX9_part_33 : decode cX9_part 33 = .ok (.iload 4, 2) := by decide +kernel
theorem dX9_part_35 : decode cX9_part 35 = .ok (.if_icmp .gt 11, 3) := by decide +kernel
theorem dX9_part_38 : decode cX9_part 38 = .ok (.iload 5, 2) := by decide +kernel
theorem dX9_part_40 : decode cX9_part 40 = .ok (.invokestatic 93, 3) := by decide +kernel
theorem dX9_part_43 : decode cX9_part 43 = .ok (.ifCond .ne 5, 3) := by decide +kernel
theorem dX9_part_46 : decode cX9_part 46 = .ok (.iconst (-1), 1) := by decide +kernel
theorem dX9_part_47 : decode cX9_part 47 = .ok (.ireturn, 1) := by decide +kernel
theorem dX9_part_48 : decode cX9_part 48 = .ok (.aload_n 0, 1) := by decide +kernel
theorem dX9_part_49 : decode cX9_part 49 = .ok (.getfield 10, 3) := by decide +kernel
theorem dX9_part_52 : decode cX9_part 52 = .ok (.iload_n 2, 1) := by decide +kernel
theorem dX9_part_53 : decode cX9_part 53 = .ok (.invokevirtual 212, 3) := by decide +kernel
theorem dX9_part_56 : decode cX9_part 56 = .ok (.aload_n 0, 1) := by decide +kernel
theorem dX9_part_57 : decode cX9_part 57 = .ok (.getfield 10, 3) := by decide +kernel
theorem dX9_part_60 : decode cX9_part 60 = .ok (.iload_n 1, 1) := by decide +kernel
theorem dX9_part_61 : decode cX9_part 61 = .ok (.invokevirtual 212, 3) := by decide +kernel
theorem dX9_part_64 : decode cX9_part 64 = .ok (.lsub, 1) := by decide +kernel
theorem dX9_part_65 : decode cX9_part 65 = .ok (.iload_n 3, 1) := by decide +kernel
theorem dX9_part_66 : decode cX9_part 66 = .ok (.i2l, 1) := by decide +kernel
theorem dX9_part_67 : decode cX9_part 67 = .ok (.lmul, 1) := by decide +kernel
theorem dX9_part_68 : decode cX9_part 68 = .ok (.iload 4, 2) := by decide +kernel
theorem dX9_part_70 : decode cX9_part 70 = .ok (.i2l, 1) := by decide +kernel
theorem dX9_part_71 : decode cX9_part 71 = .ok (.ldiv, 1) := by decide +kernel
theorem dX9_part_72 : decode cX9_part 72 = .ok (.lstore 6, 2) := by decide +kernel
theorem dX9_part_74 : decode cX9_part 74 = .ok (.aload_n 0, 1) := by decide +kernel
theorem dX9_part_75 : decode cX9_part 75 = .ok (.getfield 10, 3) := by decide +kernel
theorem dX9_part_78 : decode cX9_part 78 = .ok (.iload 5, 2) := by decide +kernel
theorem dX9_part_80 : decode cX9_part 80 = .ok (.aload_n 0, 1) := by decide +kernel
theorem dX9_part_81 : decode cX9_part 81 = .ok (.getfield 10, 3) := by decide +kernel
theorem dX9_part_84 : decode cX9_part 84 = .ok (.iload_n 1, 1) := by decide +kernel
theorem dX9_part_85 : decode cX9_part 85 = .ok (.invokevirtual 212, 3) := by decide +kernel
theorem dX9_part_88 : decode cX9_part 88 = .ok (.lload 6, 2) := by decide +kernel
theorem dX9_part_90 : decode cX9_part 90 = .ok (.ladd, 1) := by decide +kernel
theorem dX9_part_91 : decode cX9_part 91 = .ok (.invokevirtual 345, 3) := by decide +kernel
theorem dX9_part_94 : decode cX9_part 94 = .ok (.aload_n 0, 1) := by decide +kernel
theorem dX9_part_95 : decode cX9_part 95 = .ok (.getfield 26, 3) := by decide +kernel
theorem dX9_part_98 : decode cX9_part 98 = .ok (.aload_n 0, 1) := by decide +kernel
theorem dX9_part_99 : decode cX9_part 99 = .ok (.getfield 10, 3) := by decide +kernel
theorem dX9_part_102 : decode cX9_part 102 = .ok (.iload 5, 2) := by decide +kernel
theorem dX9_part_104 : decode cX9_part 104 = .ok (.invokevirtual 143, 3) := by decide +kernel
theorem dX9_part_107 : decode cX9_part 107 = .ok (.i2l, 1) := by decide +kernel
theorem dX9_part_108 : decode cX9_part 108 = .ok (.invokevirtual 176, 3) := by decide +kernel
theorem dX9_part_111 : decode cX9_part 111 = .ok (.aload_n 0, 1) := by decide +kernel
theorem dX9_part_112 : decode cX9_part 112 = .ok (.getfield 10, 3) := by decide +kernel
theorem dX9_part_115 : decode cX9_part 115 = .ok (.iload 5, 2) := by decide +kernel
theorem dX9_part_117 : decode cX9_part 117 = .ok (.invokevirtual 112, 3) := by decide +kernel
theorem dX9_part_120 : decode cX9_part 120 = .ok (.ireturn, 1) := by decide +kernel
theorem dX9_mean_0 : decode cX9_mean 0 = .ok (.iload_n 1, 1) := by decide +kernel
theorem dX9_mean_1 : decode cX9_mean 1 = .ok (.iconst 1, 1) := by decide +kernel
theorem dX9_mean_2 : decode cX9_mean 2 = .ok (.if_icmp .lt 10, 3) := by decide +kernel
theorem dX9_mean_5 : decode cX9_mean 5 = .ok (.iload_n 1, 1) := by decide +kernel
theorem dX9_mean_6 : decode cX9_mean 6 = .ok (.sipush 255, 3) := by decide +kernel
theorem dX9_mean_9 : decode cX9_mean 9 = .ok (.if_icmp .le 5, 3) := by decide +kernel
theorem dX9_mean_12 : decode cX9_mean 12 = .ok (.iconst (-1), 1) := by decide +kernel
theorem dX9_mean_13 : decode cX9_mean 13 = .ok (.ireturn, 1) := by decide +kernel
theorem dX9_mean_14 : decode cX9_mean 14 = .ok (.lconst 0, 1) := by decide +kernel
theorem dX9_mean_15 : decode cX9_mean 15 = .ok (.lstore_n 2, 1) := by decide +kernel
theorem dX9_mean_16 : decode cX9_mean 16 = .ok (.iconst 0, 1) := by decide +kernel
theorem dX9_mean_17 : decode cX9_mean 17 = .ok (.istore 4, 2) := by decide +kernel
theorem dX9_mean_19 : decode cX9_mean 19 = .ok (.iconst (-1), 1) := by decide +kernel
theorem dX9_mean_20 : decode cX9_mean 20 = .ok (.istore 5, 2) := by decide +kernel
theorem dX9_mean_22 : decode cX9_mean 22 = .ok (.iconst (-1), 1) := by decide +kernel
theorem dX9_mean_23 : decode cX9_mean 23 = .ok (.istore 6, 2) := by decide +kernel
theorem dX9_mean_25 : decode cX9_mean 25 = .ok (.iconst 0, 1) := by decide +kernel
theorem dX9_mean_26 : decode cX9_mean 26 = .ok (.istore 7, 2) := by decide +kernel
theorem dX9_mean_28 : decode cX9_mean 28 = .ok (.iload 7, 2) := by decide +kernel
theorem dX9_mean_30 : decode cX9_mean 30 = .ok (.bipush 8, 2) := by decide +kernel
theorem dX9_mean_32 : decode cX9_mean 32 = .ok (.if_icmp .ge 97, 3) := by decide +kernel
theorem dX9_mean_35 : decode cX9_mean 35 = .ok (.iload_n 1, 1) := by decide +kernel
theorem dX9_mean_36 : decode cX9_mean 36 = .ok (.iconst 1, 1) := by decide +kernel
theorem dX9_mean_37 : decode cX9_mean 37 = .ok (.iload 7, 2) := by decide +kernel
theorem dX9_mean_39 : decode cX9_mean 39 = .ok (.ishl, 1) := by decide +kernel
theorem dX9_mean_40 : decode cX9_mean 40 = .ok (.iand, 1) := by decide +kernel
theorem dX9_mean_41 : decode cX9_mean 41 = .ok (.ifCond .eq 82, 3) := by decide +kernel
theorem dX9_mean_44 : decode cX9_mean 44 = .ok (.lload_n 2, 1) := by decide +kernel
theorem dX9_mean_45 : decode cX9_mean 45 = .ok (.aload_n 0, 1) := by decide +kernel
theorem dX9_mean_46 : decode cX9_mean 46 = .ok (.getfield 10, 3) := by decide +kernel
theorem dX9_mean_49 : decode cX9_mean 49 = .ok (.iload 7, 2) := by decide +kernel
theorem dX9_mean_51 : decode cX9_mean 51 = .ok (.invokevirtual 212, 3) := by decide +kernel
theorem dX9_mean_54 : decode cX9_mean 54 = .ok (.ladd, 1) := by decide +kernel
theorem dX9_mean_55 : decode cX9_mean 55 = .ok (.lstore_n 2, 1) := by decide +kernel
theorem dX9_mean_56 : decode cX9_mean 56 = .ok (.iinc 4 1, 3) := by decide +kernel
theorem dX9_mean_59 : decode cX9_mean 59 = .ok (.iload 5, 2) := by decide +kernel
theorem dX9_mean_61 : decode cX9_mean 61 = .ok (.iconst (-1), 1) := by decide +kernel
theorem dX9_mean_62 : decode cX9_mean 62 = .ok (.if_icmp .eq 25, 3) := by decide +kernel
theorem dX9_mean_65 : decode cX9_mean 65 = .ok (.aload_n 0, 1) := by decide +kernel
theorem dX9_mean_66 : decode cX9_mean 66 = .ok (.getfield 10, 3) := by decide +kernel
theorem dX9_mean_69 : decode cX9_mean 69 = .ok (.iload 7, 2) := by decide +kernel
theorem dX9_mean_71 : decode cX9_mean 71 = .ok (.invokevirtual 212, 3) := by decide +kernel
theorem dX9_mean_74 : decode cX9_mean 74 = .ok (.aload_n 0, 1) := by decide +kernel
theorem dX9_mean_75 : decode cX9_mean 75 = .ok (.getfield 10, 3) := by decide +kernel
theorem dX9_mean_78 : decode cX9_mean 78 = .ok (.iload 5, 2) := by decide +kernel
theorem dX9_mean_80 : decode cX9_mean 80 = .ok (.invokevirtual 212, 3) := by decide +kernel
theorem dX9_mean_83 : decode cX9_mean 83 = .ok (.lcmp, 1) := by decide +kernel
theorem dX9_mean_84 : decode cX9_mean 84 = .ok (.ifCond .ge 7, 3) := by decide +kernel
theorem dX9_mean_87 : decode cX9_mean 87 = .ok (.iload 7, 2) := by decide +kernel
theorem dX9_mean_89 : decode cX9_mean 89 = .ok (.istore 5, 2) := by decide +kernel
theorem dX9_mean_91 : decode cX9_mean 91 = .ok (.iload 6, 2) := by decide +kernel
theorem dX9_mean_93 : decode cX9_mean 93 = .ok (.iconst (-1), 1) := by decide +kernel
theorem dX9_mean_94 : decode cX9_mean 94 = .ok (.if_icmp .eq 25, 3) := by decide +kernel
theorem dX9_mean_97 : decode cX9_mean 97 = .ok (.aload_n 0, 1) := by decide +kernel
theorem dX9_mean_98 : decode cX9_mean 98 = .ok (.getfield 10, 3) := by decide +kernel
theorem dX9_mean_101 : decode cX9_mean 101 = .ok (.iload 7, 2) := by decide +kernel
theorem dX9_mean_103 : decode cX9_mean 103 = .ok (.invokevirtual 212, 3) := by decide +kernel
theorem dX9_mean_106 : decode cX9_mean 106 = .ok (.aload_n 0, 1) := by decide +kernel
theorem dX9_mean_107 : decode cX9_mean 107 = .ok (.getfield 10, 3) := by decide +kernel
theorem dX9_mean_110 : decode cX9_mean 110 = .ok (.iload 6, 2) := by decide +kernel
theorem dX9_mean_112 : decode cX9_mean 112 = .ok (.invokevirtual 212, 3) := by decide +kernel
theorem dX9_mean_115 : decode cX9_mean 115 = .ok (.lcmp, 1) := by decide +kernel
theorem dX9_mean_116 : decode cX9_mean 116 = .ok (.ifCond .le 7, 3) := by decide +kernel
theorem dX9_mean_119 : decode cX9_mean 119 = .ok (.iload 7, 2) := by decide +kernel
theorem dX9_mean_121 : decode cX9_mean 121 = .ok (.istore 6, 2) := by decide +kernel
theorem dX9_mean_123 : decode cX9_mean 123 = .ok (.iinc 7 1, 3) := by decide +kernel
theorem dX9_mean_126 : decode cX9_mean 126 = .ok (.goto (-98), 3) := by decide +kernel
theorem dX9_mean_129 : decode cX9_mean 129 = .ok (.iload 4, 2) := by decide +kernel
theorem dX9_mean_131 : decode cX9_mean 131 = .ok (.ifCond .le 11, 3) := by decide +kernel
theorem dX9_mean_134 : decode cX9_mean 134 = .ok (.lload_n 2, 1) := by decide +kernel
theorem dX9_mean_135 : decode cX9_mean 135 = .ok (.iload 4, 2) := by decide +kernel
theorem dX9_mean_137 : decode cX9_mean 137 = .ok (.i2l, 1) := by decide +kernel
theorem dX9_mean_138 : decode cX9_mean 138 = .ok (.ldiv, 1) := by decide +kernel
theorem dX9_mean_139 : decode cX9_mean 139 = .ok (.goto 4, 3) := by decide +kernel
theorem dX9_mean_142 : decode cX9_mean 142 = .ok (.lconst 0, 1) := by decide +kernel
theorem dX9_mean_143 : decode cX9_mean 143 = .ok (.lstore 7, 2) := by decide +kernel
theorem dX9_mean_145 : decode cX9_mean 145 = .ok (.aload_n 0, 1) := by decide +kernel
theorem dX9_mean_146 : decode cX9_mean 146 = .ok (.getfield 26, 3) := by decide +kernel
theorem dX9_mean_149 : decode cX9_mean 149 = .ok (.lload 7, 2) := by decide +kernel
theorem dX9_mean_151 : decode cX9_mean 151 = .ok (.ldc2_w 227, 3) := by decide +kernel
theorem dX9_mean_154 : decode cX9_mean 154 = .ok (.lrem, 1) := by decide +kernel
theorem dX9_mean_155 : decode cX9_mean 155 = .ok (.iload 5, 2) := by decide +kernel
theorem dX9_mean_157 : decode cX9_mean 157 = .ok (.i2l, 1) := by decide +kernel
theorem dX9_mean_158 : decode cX9_mean 158 = .ok (.iload 6, 2) := by decide +kernel
theorem dX9_mean_160 : decode cX9_mean 160 = .ok (.i2l, 1) := by decide +kernel
theorem dX9_mean_161 : decode cX9_mean 161 = .ok (.invokevirtual 209, 3) := by decide +kernel
theorem dX9_mean_164 : decode cX9_mean 164 = .ok (.lload 7, 2) := by decide +kernel
theorem dX9_mean_166 : decode cX9_mean 166 = .ok (.ldc2_w 227, 3) := by decide +kernel
theorem dX9_mean_169 : decode cX9_mean 169 = .ok (.ldiv, 1) := by decide +kernel
theorem dX9_mean_170 : decode cX9_mean 170 = .ok (.l2i, 1) := by decide +kernel
theorem dX9_mean_171 : decode cX9_mean 171 = .ok (.ireturn, 1) := by decide +kernel
theorem dX9_sorts_0 : decode cX9_sorts 0 = .ok (.aload_n 0, 1) := by decide +kernel
theorem dX9_sorts_1 : decode cX9_sorts 1 = .ok (.iconst 0, 1) := by decide +kernel
theorem dX9_sorts_2 : decode cX9_sorts 2 = .ok (.invokevirtual 348, 3) := by decide +kernel
theorem dX9_sorts_5 : decode cX9_sorts 5 = .ok (.ireturn, 1) := by decide +kernel
theorem dX9_ranked_0 : decode cX9_ranked 0 = .ok (.aload_n 0, 1) := by decide +kernel
theorem dX9_ranked_1 : decode cX9_ranked 1 = .ok (.getfield 26, 3) := by decide +kernel
theorem dX9_ranked_4 : decode cX9_ranked 4 = .ok (.invokevirtual 330, 3) := by decide +kernel
theorem dX9_ranked_7 : decode cX9_ranked 7 = .ok (.iconst 0, 1) := by decide +kernel
theorem dX9_ranked_8 : decode cX9_ranked 8 = .ok (.istore_n 2, 1) := by decide +kernel
theorem dX9_ranked_9 : decode cX9_ranked 9 = .ok (.iload_n 2, 1) := by decide +kernel
theorem dX9_ranked_10 : decode cX9_ranked 10 = .ok (.bipush 8, 2) := by decide +kernel
theorem dX9_ranked_12 : decode cX9_ranked 12 = .ok (.if_icmp .ge 18, 3) := by decide +kernel
theorem dX9_ranked_15 : decode cX9_ranked 15 = .ok (.aload_n 0, 1) := by decide +kernel
theorem dX9_ranked_16 : decode cX9_ranked 16 = .ok (.getfield 26, 3) := by decide +kernel
theorem dX9_ranked_19 : decode cX9_ranked 19 = .ok (.iload_n 2, 1) := by decide +kernel
theorem dX9_ranked_20 : decode cX9_ranked 20 = .ok (.i2l, 1) := by decide +kernel
theorem dX9_ranked_21 : decode cX9_ranked 21 = .ok (.invokevirtual 233, 3) := by decide +kernel
theorem dX9_ranked_24 : decode cX9_ranked 24 = .ok (.iinc 2 1, 3) := by decide +kernel
theorem dX9_ranked_27 : decode cX9_ranked 27 = .ok (.goto (-18), 3) := by decide +kernel
theorem dX9_ranked_30 : decode cX9_ranked 30 = .ok (.iconst 0, 1) := by decide +kernel
theorem dX9_ranked_31 : decode cX9_ranked 31 = .ok (.istore_n 2, 1) := by decide +kernel
theorem dX9_ranked_32 : decode cX9_ranked 32 = .ok (.iload_n 2, 1) := by decide +kernel
theorem dX9_ranked_33 : decode cX9_ranked 33 = .ok (.bipush 8, 2) := by decide +kernel
theorem dX9_ranked_35 : decode cX9_ranked 35 = .ok (.if_icmp .ge 99, 3) := by decide +kernel
theorem dX9_ranked_38 : decode cX9_ranked 38 = .ok (.iconst 0, 1) := by decide +kernel
theorem dX9_ranked_39 : decode cX9_ranked 39 = .ok (.istore_n 3, 1) := by decide +kernel
theorem dX9_ranked_40 : decode cX9_ranked 40 = .ok (.iconst 0, 1) := by decide +kernel
theorem dX9_ranked_41 : decode cX9_ranked 41 = .ok (.istore 4, 2) := by decide +kernel
theorem dX9_ranked_43 : decode cX9_ranked 43 = .ok (.iload 4, 2) := by decide +kernel
theorem dX9_ranked_45 : decode cX9_ranked 45 = .ok (.bipush 8, 2) := by decide +kernel
theorem dX9_ranked_47 : decode cX9_ranked 47 = .ok (.if_icmp .ge 71, 3) := by decide +kernel
theorem dX9_ranked_50 : decode cX9_ranked 50 = .ok (.iload_n 1, 1) := by decide +kernel
theorem dX9_ranked_51 : decode cX9_ranked 51 = .ok (.ifCond .eq 18, 3) := by decide +kernel
theorem dX9_ranked_54 : decode cX9_ranked 54 = .ok (.aload_n 0, 1) := by decide +kernel
theorem dX9_ranked_55 : decode cX9_ranked 55 = .ok (.iload 4, 2) := by decide +kernel
theorem dX9_ranked_57 : decode cX9_ranked 57 = .ok (.invokevirtual 352, 3) := by decide +kernel
theorem dX9_ranked_60 : decode cX9_ranked 60 = .ok (.aload_n 0, 1) := by decide +kernel
theorem dX9_ranked_61 : decode cX9_ranked 61 = .ok (.iload_n 2, 1) := by decide +kernel
theorem dX9_ranked_62 : decode cX9_ranked 62 = .ok (.invokevirtual 352, 3) := by decide +kernel
theorem dX9_ranked_65 : decode cX9_ranked 65 = .ok (.lsub, 1) := by decide +kernel
theorem dX9_ranked_66 : decode cX9_ranked 66 = .ok (.goto 21, 3) := by decide +kernel
theorem dX9_ranked_69 : decode cX9_ranked 69 = .ok (.aload_n 0, 1) := by decide +kernel
theorem dX9_ranked_70 : decode cX9_ranked 70 = .ok (.getfield 10, 3) := by decide +kernel
theorem dX9_ranked_73 : decode cX9_ranked 73 = .ok (.iload 4, 2) := by decide +kernel
theorem dX9_ranked_75 : decode cX9_ranked 75 = .ok (.invokevirtual 212, 3) := by decide +kernel
theorem dX9_ranked_78 : decode cX9_ranked 78 = .ok (.aload_n 0, 1) := by decide +kernel
theorem dX9_ranked_79 : decode cX9_ranked 79 = .ok (.getfield 10, 3) := by decide +kernel
theorem dX9_ranked_82 : decode cX9_ranked 82 = .ok (.iload_n 2, 1) := by decide +kernel
theorem dX9_ranked_83 : decode cX9_ranked 83 = .ok (.invokevirtual 212, 3) := by decide +kernel
theorem dX9_ranked_86 : decode cX9_ranked 86 = .ok (.lsub, 1) := by decide +kernel
theorem dX9_ranked_87 : decode cX9_ranked 87 = .ok (.lstore 5, 2) := by decide +kernel
theorem dX9_ranked_89 : decode cX9_ranked 89 = .ok (.lload 5, 2) := by decide +kernel
theorem dX9_ranked_91 : decode cX9_ranked 91 = .ok (.lconst 0, 1) := by decide +kernel
theorem dX9_ranked_92 : decode cX9_ranked 92 = .ok (.lcmp, 1) := by decide +kernel
theorem dX9_ranked_93 : decode cX9_ranked 93 = .ok (.ifCond .lt 16, 3) := by decide +kernel
theorem dX9_ranked_96 : decode cX9_ranked 96 = .ok (.lload 5, 2) := by decide +kernel
theorem dX9_ranked_98 : decode cX9_ranked 98 = .ok (.lconst 0, 1) := by decide +kernel
theorem dX9_ranked_99 : decode cX9_ranked 99 = .ok (.lcmp, 1) := by decide +kernel
theorem dX9_ranked_100 : decode cX9_ranked 100 = .ok (.ifCond .ne 12, 3) := by decide +kernel
theorem dX9_ranked_103 : decode cX9_ranked 103 = .ok (.iload 4, 2) := by decide +kernel
theorem dX9_ranked_105 : decode cX9_ranked 105 = .ok (.iload_n 2, 1) := by decide +kernel
theorem dX9_ranked_106 : decode cX9_ranked 106 = .ok (.if_icmp .ge 6, 3) := by decide +kernel
theorem dX9_ranked_109 : decode cX9_ranked 109 = .ok (.iinc 3 1, 3) := by decide +kernel
theorem dX9_ranked_112 : decode cX9_ranked 112 = .ok (.iinc 4 1, 3) := by decide +kernel
theorem dX9_ranked_115 : decode cX9_ranked 115 = .ok (.goto (-72), 3) := by decide +kernel
theorem dX9_ranked_118 : decode cX9_ranked 118 = .ok (.aload_n 0, 1) := by decide +kernel
theorem dX9_ranked_119 : decode cX9_ranked 119 = .ok (.getfield 26, 3) := by decide +kernel
theorem dX9_ranked_122 : decode cX9_ranked 122 = .ok (.iload_n 3, 1) := by decide +kernel
theorem dX9_ranked_123 : decode cX9_ranked 123 = .ok (.iload_n 2, 1) := by decide +kernel
theorem dX9_ranked_124 : decode cX9_ranked 124 = .ok (.i2l, 1) := by decide +kernel
theorem dX9_ranked_125 : decode cX9_ranked 125 = .ok (.invokevirtual 266, 3) := by decide +kernel
theorem dX9_ranked_128 : decode cX9_ranked 128 = .ok (.iinc 2 1, 3) := by decide +kernel
theorem dX9_ranked_131 : decode cX9_ranked 131 = .ok (.goto (-99), 3) := by decide +kernel
theorem dX9_ranked_134 : decode cX9_ranked 134 = .ok (.aload_n 0, 1) := by decide +kernel
theorem dX9_ranked_135 : decode cX9_ranked 135 = .ok (.getfield 26, 3) := by decide +kernel
theorem dX9_ranked_138 : decode cX9_ranked 138 = .ok (.iconst 0, 1) := by decide +kernel
theorem dX9_ranked_139 : decode cX9_ranked 139 = .ok (.invokevirtual 263, 3) := by decide +kernel
theorem dX9_ranked_142 : decode cX9_ranked 142 = .ok (.l2i, 1) := by decide +kernel
theorem dX9_ranked_143 : decode cX9_ranked 143 = .ok (.ireturn, 1) := by decide +kernel
theorem dX9_share_0 : decode cX9_share 0 = .ok (.iload_n 1, 1) := by decide +kernel
theorem dX9_share_1 : decode cX9_share 1 = .ok (.invokestatic 93, 3) := by decide +kernel
theorem dX9_share_4 : decode cX9_share 4 = .ok (.ifCond .eq 10, 3) := by decide +kernel
theorem dX9_share_7 : decode cX9_share 7 = .ok (.iload_n 2, 1) := by decide +kernel
theorem dX9_share_8 : decode cX9_share 8 = .ok (.invokestatic 93, 3) := by decide +kernel
theorem dX9_share_11 : decode cX9_share 11 = .ok (.ifCond .ne 7, 3) := by decide +kernel
theorem dX9_share_14 : decode cX9_share 14 = .ok (.ldc2_w 253, 3) := by decide +kernel
theorem dX9_share_17 : decode cX9_share 17 = .ok (.lreturn, 1) := by decide +kernel
theorem dX9_share_18 : decode cX9_share 18 = .ok (.aload_n 0, 1) := by decide +kernel
theorem dX9_share_19 : decode cX9_share 19 = .ok (.iload_n 1, 1) := by decide +kernel
theorem dX9_share_20 : decode cX9_share 20 = .ok (.invokevirtual 352, 3) := by decide +kernel
theorem dX9_share_23 : decode cX9_share 23 = .ok (.lstore_n 3, 1) := by decide +kernel
theorem dX9_share_24 : decode cX9_share 24 = .ok (.aload_n 0, 1) := by decide +kernel
theorem dX9_share_25 : decode cX9_share 25 = .ok (.iload_n 2, 1) := by decide +kernel
theorem dX9_share_26 : decode cX9_share 26 = .ok (.invokevirtual 352, 3) := by decide +kernel
theorem dX9_share_29 : decode cX9_share 29 = .ok (.lstore 5, 2) := by decide +kernel
theorem dX9_share_31 : decode cX9_share 31 = .ok (.lload 5, 2) := by decide +kernel
theorem dX9_share_33 : decode cX9_share 33 = .ok (.lconst 0, 1) := by decide +kernel
theorem dX9_share_34 : decode cX9_share 34 = .ok (.lcmp, 1) := by decide +kernel
theorem dX9_share_35 : decode cX9_share 35 = .ok (.ifCond .ne 24, 3) := by decide +kernel
theorem dX9_share_38 : decode cX9_share 38 = .ok (.lload_n 3, 1) := by decide +kernel
theorem dX9_share_39 : decode cX9_share 39 = .ok (.lconst 0, 1) := by decide +kernel
theorem dX9_share_40 : decode cX9_share 40 = .ok (.lcmp, 1) := by decide +kernel
theorem dX9_share_41 : decode cX9_share 41 = .ok (.ifCond .ne 9, 3) := by decide +kernel
theorem dX9_share_44 : decode cX9_share 44 = .ok (.ldc2_w 355, 3) := by decide +kernel
theorem dX9_share_47 : decode cX9_share 47 = .ok (.goto 11, 3) := by decide +kernel
theorem dX9_share_50 : decode cX9_share 50 = .ok (.lload_n 3, 1) := by decide +kernel
theorem dX9_share_51 : decode cX9_share 51 = .ok (.invokestatic 357, 3) := by decide +kernel
theorem dX9_share_54 : decode cX9_share 54 = .ok (.ldc2_w 360, 3) := by decide +kernel
theorem dX9_share_57 : decode cX9_share 57 = .ok (.lor, 1) := by decide +kernel
theorem dX9_share_58 : decode cX9_share 58 = .ok (.lreturn, 1) := by decide +kernel
theorem dX9_share_59 : decode cX9_share 59 = .ok (.lload_n 3, 1) := by decide +kernel
theorem dX9_share_60 : decode cX9_share 60 = .ok (.lconst 0, 1) := by decide +kernel
theorem dX9_share_61 : decode cX9_share 61 = .ok (.lcmp, 1) := by decide +kernel
theorem dX9_share_62 : decode cX9_share 62 = .ok (.ifCond .ne 9, 3) := by decide +kernel
theorem dX9_share_65 : decode cX9_share 65 = .ok (.lload 5, 2) := by decide +kernel
theorem dX9_share_67 : decode cX9_share 67 = .ok (.invokestatic 357, 3) := by decide +kernel
theorem dX9_share_70 : decode cX9_share 70 = .ok (.lreturn, 1) := by decide +kernel
theorem dX9_share_71 : decode cX9_share 71 = .ok (.lload_n 3, 1) := by decide +kernel
theorem dX9_share_72 : decode cX9_share 72 = .ok (.l2d, 1) := by decide +kernel
theorem dX9_share_73 : decode cX9_share 73 = .ok (.lload 5, 2) := by decide +kernel
theorem dX9_share_75 : decode cX9_share 75 = .ok (.l2d, 1) := by decide +kernel
theorem dX9_share_76 : decode cX9_share 76 = .ok (.ddiv, 1) := by decide +kernel
theorem dX9_share_77 : decode cX9_share 77 = .ok (.invokestatic 362, 3) := by decide +kernel
theorem dX9_share_80 : decode cX9_share 80 = .ok (.lreturn, 1) := by decide +kernel
theorem dX9_ranks_0 : decode cX9_ranks 0 = .ok (.aload_n 0, 1) := by decide +kernel
theorem dX9_ranks_1 : decode cX9_ranks 1 = .ok (.iconst 1, 1) := by decide +kernel
theorem dX9_ranks_2 : decode cX9_ranks 2 = .ok (.invokevirtual 348, 3) := by decide +kernel
theorem dX9_ranks_5 : decode cX9_ranks 5 = .ok (.ireturn, 1) := by decide +kernel
theorem dX9_rest_0 : decode cX9_rest 0 = .ok (.iload_n 1, 1) := by decide +kernel
theorem dX9_rest_1 : decode cX9_rest 1 = .ok (.invokestatic 93, 3) := by decide +kernel
theorem dX9_rest_4 : decode cX9_rest 4 = .ok (.ifCond .eq 10, 3) := by decide +kernel
theorem dX9_rest_7 : decode cX9_rest 7 = .ok (.iload_n 2, 1) := by decide +kernel
theorem dX9_rest_8 : decode cX9_rest 8 = .ok (.invokestatic 93, 3) := by decide +kernel
theorem dX9_rest_11 : decode cX9_rest 11 = .ok (.ifCond .ne 7, 3) := by decide +kernel
theorem dX9_rest_14 : decode cX9_rest 14 = .ok (.ldc2_w 253, 3) := by decide +kernel
theorem dX9_rest_17 : decode cX9_rest 17 = .ok (.lreturn, 1) := by decide +kernel
theorem dX9_rest_18 : decode cX9_rest 18 = .ok (.aload_n 0, 1) := by decide +kernel
theorem dX9_rest_19 : decode cX9_rest 19 = .ok (.iload_n 1, 1) := by decide +kernel
theorem dX9_rest_20 : decode cX9_rest 20 = .ok (.invokevirtual 352, 3) := by decide +kernel
theorem dX9_rest_23 : decode cX9_rest 23 = .ok (.lstore_n 3, 1) := by decide +kernel
theorem dX9_rest_24 : decode cX9_rest 24 = .ok (.aload_n 0, 1) := by decide +kernel
theorem dX9_rest_25 : decode cX9_rest 25 = .ok (.iload_n 2, 1) := by decide +kernel
theorem dX9_rest_26 : decode cX9_rest 26 = .ok (.invokevirtual 352, 3) := by decide +kernel
theorem dX9_rest_29 : decode cX9_rest 29 = .ok (.lstore 5, 2) := by decide +kernel
theorem dX9_rest_31 : decode cX9_rest 31 = .ok (.lload 5, 2) := by decide +kernel
theorem dX9_rest_33 : decode cX9_rest 33 = .ok (.lconst 0, 1) := by decide +kernel
theorem dX9_rest_34 : decode cX9_rest 34 = .ok (.lcmp, 1) := by decide +kernel
theorem dX9_rest_35 : decode cX9_rest 35 = .ok (.ifCond .ne 7, 3) := by decide +kernel
theorem dX9_rest_38 : decode cX9_rest 38 = .ok (.ldc2_w 355, 3) := by decide +kernel
theorem dX9_rest_41 : decode cX9_rest 41 = .ok (.lreturn, 1) := by decide +kernel
theorem dX9_rest_42 : decode cX9_rest 42 = .ok (.lload_n 3, 1) := by decide +kernel
theorem dX9_rest_43 : decode cX9_rest 43 = .ok (.lload 5, 2) := by decide +kernel
theorem dX9_rest_45 : decode cX9_rest 45 = .ok (.lrem, 1) := by decide +kernel
theorem dX9_rest_46 : decode cX9_rest 46 = .ok (.lstore 7, 2) := by decide +kernel
theorem dX9_rest_48 : decode cX9_rest 48 = .ok (.lload 7, 2) := by decide +kernel
theorem dX9_rest_50 : decode cX9_rest 50 = .ok (.lconst 0, 1) := by decide +kernel
theorem dX9_rest_51 : decode cX9_rest 51 = .ok (.lcmp, 1) := by decide +kernel
theorem dX9_rest_52 : decode cX9_rest 52 = .ok (.ifCond .ne 10, 3) := by decide +kernel
theorem dX9_rest_55 : decode cX9_rest 55 = .ok (.lload_n 3, 1) := by decide +kernel
theorem dX9_rest_56 : decode cX9_rest 56 = .ok (.invokestatic 357, 3) := by decide +kernel
theorem dX9_rest_59 : decode cX9_rest 59 = .ok (.goto 9, 3) := by decide +kernel
theorem dX9_rest_62 : decode cX9_rest 62 = .ok (.lload 7, 2) := by decide +kernel
theorem dX9_rest_64 : decode cX9_rest 64 = .ok (.l2d, 1) := by decide +kernel
theorem dX9_rest_65 : decode cX9_rest 65 = .ok (.invokestatic 362, 3) := by decide +kernel
theorem dX9_rest_68 : decode cX9_rest 68 = .ok (.lreturn, 1) := by decide +kernel
theorem dX9_years_0 : decode cX9_years 0 = .ok (.iload_n 1, 1) := by decide +kernel
theorem dX9_years_1 : decode cX9_years 1 = .ok (.invokestatic 93, 3) := by decide +kernel
theorem dX9_years_4 : decode cX9_years 4 = .ok (.ifCond .ne 5, 3) := by decide +kernel
theorem dX9_years_7 : decode cX9_years 7 = .ok (.iconst (-1), 1) := by decide +kernel
theorem dX9_years_8 : decode cX9_years 8 = .ok (.ireturn, 1) := by decide +kernel
theorem dX9_years_9 : decode cX9_years 9 = .ok (.aload_n 0, 1) := by decide +kernel
theorem dX9_years_10 : decode cX9_years 10 = .ok (.iload_n 1, 1) := by decide +kernel
theorem dX9_years_11 : decode cX9_years 11 = .ok (.invokevirtual 352, 3) := by decide +kernel
theorem dX9_years_14 : decode cX9_years 14 = .ok (.l2d, 1) := by decide +kernel
theorem dX9_years_15 : decode cX9_years 15 = .ok (.ldc2_w 366, 3) := by decide +kernel
theorem dX9_years_18 : decode cX9_years 18 = .ok (.ddiv, 1) := by decide +kernel
theorem dX9_years_19 : decode cX9_years 19 = .ok (.d2f, 1) := by decide +kernel
theorem dX9_years_20 : decode cX9_years 20 = .ok (.fstore_n 2, 1) := by decide +kernel
theorem dX9_years_21 : decode cX9_years 21 = .ok (.fload_n 2, 1) := by decide +kernel
theorem dX9_years_22 : decode cX9_years 22 = .ok (.fconst 0, 1) := by decide +kernel
theorem dX9_years_23 : decode cX9_years 23 = .ok (.fcmp .l, 1) := by decide +kernel
theorem dX9_years_24 : decode cX9_years 24 = .ok (.ifCond .ne 5, 3) := by decide +kernel
theorem dX9_years_27 : decode cX9_years 27 = .ok (.iconst 0, 1) := by decide +kernel
theorem dX9_years_28 : decode cX9_years 28 = .ok (.ireturn, 1) := by decide +kernel
theorem dX9_years_29 : decode cX9_years 29 = .ok (.fload_n 2, 1) := by decide +kernel
theorem dX9_years_30 : decode cX9_years 30 = .ok (.fconst 0, 1) := by decide +kernel
theorem dX9_years_31 : decode cX9_years 31 = .ok (.fcmp .g, 1) := by decide +kernel
theorem dX9_years_32 : decode cX9_years 32 = .ok (.ifCond .ge 9, 3) := by decide +kernel
theorem dX9_years_35 : decode cX9_years 35 = .ok (.fload_n 2, 1) := by decide +kernel
theorem dX9_years_36 : decode cX9_years 36 = .ok (.fneg, 1) := by decide +kernel
theorem dX9_years_37 : decode cX9_years 37 = .ok (.f2d, 1) := by decide +kernel
theorem dX9_years_38 : decode cX9_years 38 = .ok (.goto 5, 3) := by decide +kernel
theorem dX9_years_41 : decode cX9_years 41 = .ok (.fload_n 2, 1) := by decide +kernel
theorem dX9_years_42 : decode cX9_years 42 = .ok (.f2d, 1) := by decide +kernel
theorem dX9_years_43 : decode cX9_years 43 = .ok (.dstore_n 3, 1) := by decide +kernel
theorem dX9_years_44 : decode cX9_years 44 = .ok (.dload_n 3, 1) := by decide +kernel
theorem dX9_years_45 : decode cX9_years 45 = .ok (.invokestatic 368, 3) := by decide +kernel
theorem dX9_years_48 : decode cX9_years 48 = .ok (.istore 5, 2) := by decide +kernel
theorem dX9_years_50 : decode cX9_years 50 = .ok (.iload 5, 2) := by decide +kernel
theorem dX9_years_52 : decode cX9_years 52 = .ok (.bipush 127, 2) := by decide +kernel
theorem dX9_years_54 : decode cX9_years 54 = .ok (.iadd, 1) := by decide +kernel
theorem dX9_years_55 : decode cX9_years 55 = .ok (.bipush 23, 2) := by decide +kernel
theorem dX9_years_57 : decode cX9_years 57 = .ok (.ishl, 1) := by decide +kernel
theorem dX9_years_58 : decode cX9_years 58 = .ok (.dload_n 3, 1) := by decide +kernel
theorem dX9_years_59 : decode cX9_years 59 = .ok (.iload 5, 2) := by decide +kernel
theorem dX9_years_61 : decode cX9_years 61 = .ok (.bipush 23, 2) := by decide +kernel
theorem dX9_years_63 : decode cX9_years 63 = .ok (.invokestatic 372, 3) := by decide +kernel
theorem dX9_years_66 : decode cX9_years 66 = .ok (.l2i, 1) := by decide +kernel
theorem dX9_years_67 : decode cX9_years 67 = .ok (.ior, 1) := by decide +kernel
theorem dX9_years_68 : decode cX9_years 68 = .ok (.istore 6, 2) := by decide +kernel
theorem dX9_years_70 : decode cX9_years 70 = .ok (.fload_n 2, 1) := by decide +kernel
theorem dX9_years_71 : decode cX9_years 71 = .ok (.fconst 0, 1) := by decide +kernel
theorem dX9_years_72 : decode cX9_years 72 = .ok (.fcmp .g, 1) := by decide +kernel
theorem dX9_years_73 : decode cX9_years 73 = .ok (.ifCond .ge 12, 3) := by decide +kernel
theorem dX9_years_76 : decode cX9_years 76 = .ok (.iload 6, 2) := by decide +kernel
theorem dX9_years_78 : decode cX9_years 78 = .ok (.ldc_w 376, 3) := by decide +kernel
theorem dX9_years_81 : decode cX9_years 81 = .ok (.ior, 1) := by decide +kernel
theorem dX9_years_82 : decode cX9_years 82 = .ok (.goto 5, 3) := by decide +kernel
theorem dX9_years_85 : decode cX9_years 85 = .ok (.iload 6, 2) := by decide +kernel
theorem dX9_years_87 : decode cX9_years 87 = .ok (.ireturn, 1) := by decide +kernel
theorem dX9_lengthOf_0 : decode cX9_lengthOf 0 = .ok (.ldc2_w 377, 3) := by decide +kernel
theorem dX9_lengthOf_3 : decode cX9_lengthOf 3 = .ok (.aload_n 0, 1) := by decide +kernel
theorem dX9_lengthOf_4 : decode cX9_lengthOf 4 = .ok (.getfield 10, 3) := by decide +kernel
theorem dX9_lengthOf_7 : decode cX9_lengthOf 7 = .ok (.iload_n 1, 1) := by decide +kernel
theorem dX9_lengthOf_8 : decode cX9_lengthOf 8 = .ok (.invokevirtual 161, 3) := by decide +kernel
theorem dX9_lengthOf_11 : decode cX9_lengthOf 11 = .ok (.i2l, 1) := by decide +kernel
theorem dX9_lengthOf_12 : decode cX9_lengthOf 12 = .ok (.lmul, 1) := by decide +kernel
theorem dX9_lengthOf_13 : decode cX9_lengthOf 13 = .ok (.ldc2_w 227, 3) := by decide +kernel
theorem dX9_lengthOf_16 : decode cX9_lengthOf 16 = .ok (.aload_n 0, 1) := by decide +kernel
theorem dX9_lengthOf_17 : decode cX9_lengthOf 17 = .ok (.getfield 10, 3) := by decide +kernel
theorem dX9_lengthOf_20 : decode cX9_lengthOf 20 = .ok (.iload_n 1, 1) := by decide +kernel
theorem dX9_lengthOf_21 : decode cX9_lengthOf 21 = .ok (.invokevirtual 164, 3) := by decide +kernel
theorem dX9_lengthOf_24 : decode cX9_lengthOf 24 = .ok (.i2l, 1) := by decide +kernel
theorem dX9_lengthOf_25 : decode cX9_lengthOf 25 = .ok (.lmul, 1) := by decide +kernel
theorem dX9_lengthOf_26 : decode cX9_lengthOf 26 = .ok (.ladd, 1) := by decide +kernel
theorem dX9_lengthOf_27 : decode cX9_lengthOf 27 = .ok (.aload_n 0, 1) := by decide +kernel
theorem dX9_lengthOf_28 : decode cX9_lengthOf 28 = .ok (.getfield 10, 3) := by decide +kernel
theorem dX9_lengthOf_31 : decode cX9_lengthOf 31 = .ok (.iload_n 1, 1) := by decide +kernel
theorem dX9_lengthOf_32 : decode cX9_lengthOf 32 = .ok (.invokevirtual 167, 3) := by decide +kernel
theorem dX9_lengthOf_35 : decode cX9_lengthOf 35 = .ok (.i2l, 1) := by decide +kernel
theorem dX9_lengthOf_36 : decode cX9_lengthOf 36 = .ok (.ladd, 1) := by decide +kernel
theorem dX9_lengthOf_37 : decode cX9_lengthOf 37 = .ok (.lreturn, 1) := by decide +kernel
theorem dX9_signBit_0 : decode cX9_signBit 0 = .ok (.lload_n 0, 1) := by decide +kernel
theorem dX9_signBit_1 : decode cX9_signBit 1 = .ok (.lconst 0, 1) := by decide +kernel
theorem dX9_signBit_2 : decode cX9_signBit 2 = .ok (.lcmp, 1) := by decide +kernel
theorem dX9_signBit_3 : decode cX9_signBit 3 = .ok (.ifCond .ge 9, 3) := by decide +kernel
theorem dX9_signBit_6 : decode cX9_signBit 6 = .ok (.ldc2_w 379, 3) := by decide +kernel
theorem dX9_signBit_9 : decode cX9_signBit 9 = .ok (.goto 4, 3) := by decide +kernel
theorem dX9_signBit_12 : decode cX9_signBit 12 = .ok (.lconst 0, 1) := by decide +kernel
theorem dX9_signBit_13 : decode cX9_signBit 13 = .ok (.lreturn, 1) := by decide +kernel
theorem dX9_bitsOf_0 : decode cX9_bitsOf 0 = .ok (.dload_n 0, 1) := by decide +kernel
theorem dX9_bitsOf_1 : decode cX9_bitsOf 1 = .ok (.dconst 0, 1) := by decide +kernel
theorem dX9_bitsOf_2 : decode cX9_bitsOf 2 = .ok (.dcmp .g, 1) := by decide +kernel
theorem dX9_bitsOf_3 : decode cX9_bitsOf 3 = .ok (.ifCond .ge 8, 3) := by decide +kernel
theorem dX9_bitsOf_6 : decode cX9_bitsOf 6 = .ok (.dload_n 0, 1) := by decide +kernel
theorem dX9_bitsOf_7 : decode cX9_bitsOf 7 = .ok (.dneg, 1) := by decide +kernel
theorem dX9_bitsOf_8 : decode cX9_bitsOf 8 = .ok (.goto 4, 3) := by decide +kernel
theorem dX9_bitsOf_11 : decode cX9_bitsOf 11 = .ok (.dload_n 0, 1) := by decide +kernel
theorem dX9_bitsOf_12 : decode cX9_bitsOf 12 = .ok (.dstore_n 2, 1) := by decide +kernel
theorem dX9_bitsOf_13 : decode cX9_bitsOf 13 = .ok (.dload_n 2, 1) := by decide +kernel
theorem dX9_bitsOf_14 : decode cX9_bitsOf 14 = .ok (.invokestatic 368, 3) := by decide +kernel
theorem dX9_bitsOf_17 : decode cX9_bitsOf 17 = .ok (.istore 4, 2) := by decide +kernel
theorem dX9_bitsOf_19 : decode cX9_bitsOf 19 = .ok (.iload 4, 2) := by decide +kernel
theorem dX9_bitsOf_21 : decode cX9_bitsOf 21 = .ok (.sipush 1023, 3) := by decide +kernel
theorem dX9_bitsOf_24 : decode cX9_bitsOf 24 = .ok (.iadd, 1) := by decide +kernel
theorem dX9_bitsOf_25 : decode cX9_bitsOf 25 = .ok (.i2l, 1) := by decide +kernel
theorem dX9_bitsOf_26 : decode cX9_bitsOf 26 = .ok (.bipush 52, 2) := by decide +kernel
theorem dX9_bitsOf_28 : decode cX9_bitsOf 28 = .ok (.lshl, 1) := by decide +kernel
theorem dX9_bitsOf_29 : decode cX9_bitsOf 29 = .ok (.dload_n 2, 1) := by decide +kernel
theorem dX9_bitsOf_30 : decode cX9_bitsOf 30 = .ok (.iload 4, 2) := by decide +kernel
theorem dX9_bitsOf_32 : decode cX9_bitsOf 32 = .ok (.bipush 52, 2) := by decide +kernel
theorem dX9_bitsOf_34 : decode cX9_bitsOf 34 = .ok (.invokestatic 372, 3) := by decide +kernel
theorem dX9_bitsOf_37 : decode cX9_bitsOf 37 = .ok (.lor, 1) := by decide +kernel
theorem dX9_bitsOf_38 : decode cX9_bitsOf 38 = .ok (.lstore 5, 2) := by decide +kernel
theorem dX9_bitsOf_40 : decode cX9_bitsOf 40 = .ok (.dload_n 0, 1) := by decide +kernel
theorem dX9_bitsOf_41 : decode cX9_bitsOf 41 = .ok (.dconst 0, 1) := by decide +kernel
theorem dX9_bitsOf_42 : decode cX9_bitsOf 42 = .ok (.dcmp .g, 1) := by decide +kernel
theorem dX9_bitsOf_43 : decode cX9_bitsOf 43 = .ok (.ifCond .ge 12, 3) := by decide +kernel
theorem dX9_bitsOf_46 : decode cX9_bitsOf 46 = .ok (.lload 5, 2) := by decide +kernel
theorem dX9_bitsOf_48 : decode cX9_bitsOf 48 = .ok (.ldc2_w 379, 3) := by decide +kernel
theorem dX9_bitsOf_51 : decode cX9_bitsOf 51 = .ok (.lor, 1) := by decide +kernel
theorem dX9_bitsOf_52 : decode cX9_bitsOf 52 = .ok (.goto 5, 3) := by decide +kernel
theorem dX9_bitsOf_55 : decode cX9_bitsOf 55 = .ok (.lload 5, 2) := by decide +kernel
theorem dX9_bitsOf_57 : decode cX9_bitsOf 57 = .ok (.lreturn, 1) := by decide +kernel
theorem dX9_powerOf_0 : decode cX9_powerOf 0 = .ok (.dload_n 0, 1) := by decide +kernel
theorem dX9_powerOf_1 : decode cX9_powerOf 1 = .ok (.dstore_n 2, 1) := by decide +kernel
theorem dX9_powerOf_2 : decode cX9_powerOf 2 = .ok (.iconst 0, 1) := by decide +kernel
theorem dX9_powerOf_3 : decode cX9_powerOf 3 = .ok (.istore 4, 2) := by decide +kernel
theorem dX9_powerOf_5 : decode cX9_powerOf 5 = .ok (.iconst 0, 1) := by decide +kernel
theorem dX9_powerOf_6 : decode cX9_powerOf 6 = .ok (.istore 5, 2) := by decide +kernel
theorem dX9_powerOf_8 : decode cX9_powerOf 8 = .ok (.iload 5, 2) := by decide +kernel
theorem dX9_powerOf_10 : decode cX9_powerOf 10 = .ok (.sipush 1100, 3) := by decide +kernel
theorem dX9_powerOf_13 : decode cX9_powerOf 13 = .ok (.if_icmp .ge 26, 3) := by decide +kernel
theorem dX9_powerOf_16 : decode cX9_powerOf 16 = .ok (.dload_n 2, 1) := by decide +kernel
theorem dX9_powerOf_17 : decode cX9_powerOf 17 = .ok (.ldc2_w 381, 3) := by decide +kernel
theorem dX9_powerOf_20 : decode cX9_powerOf 20 = .ok (.dcmp .l, 1) := by decide +kernel
theorem dX9_powerOf_21 : decode cX9_powerOf 21 = .ok (.ifCond .lt 18, 3) := by decide +kernel
theorem dX9_powerOf_24 : decode cX9_powerOf 24 = .ok (.dload_n 2, 1) := by decide +kernel
theorem dX9_powerOf_25 : decode cX9_powerOf 25 = .ok (.ldc2_w 381, 3) := by decide +kernel
theorem dX9_powerOf_28 : decode cX9_powerOf 28 = .ok (.ddiv, 1) := by decide +kernel
theorem dX9_powerOf_29 : decode cX9_powerOf 29 = .ok (.dstore_n 2, 1) := by decide +kernel
theorem dX9_powerOf_30 : decode cX9_powerOf 30 = .ok (.iinc 4 1, 3) := by decide +kernel
theorem dX9_powerOf_33 : decode cX9_powerOf 33 = .ok (.iinc 5 1, 3) := by decide +kernel
theorem dX9_powerOf_36 : decode cX9_powerOf 36 = .ok (.goto (-28), 3) := by decide +kernel
theorem dX9_powerOf_39 : decode cX9_powerOf 39 = .ok (.iconst 0, 1) := by decide +kernel
theorem dX9_powerOf_40 : decode cX9_powerOf 40 = .ok (.istore 5, 2) := by decide +kernel
theorem dX9_powerOf_42 : decode cX9_powerOf 42 = .ok (.iload 5, 2) := by decide +kernel
theorem dX9_powerOf_44 : decode cX9_powerOf 44 = .ok (.sipush 1100, 3) := by decide +kernel
theorem dX9_powerOf_47 : decode cX9_powerOf 47 = .ok (.if_icmp .ge 24, 3) := by decide +kernel
theorem dX9_powerOf_50 : decode cX9_powerOf 50 = .ok (.dload_n 2, 1) := by decide +kernel
theorem dX9_powerOf_51 : decode cX9_powerOf 51 = .ok (.dconst 1, 1) := by decide +kernel
theorem dX9_powerOf_52 : decode cX9_powerOf 52 = .ok (.dcmp .g, 1) := by decide +kernel
theorem dX9_powerOf_53 : decode cX9_powerOf 53 = .ok (.ifCond .ge 18, 3) := by decide +kernel
theorem dX9_powerOf_56 : decode cX9_powerOf 56 = .ok (.dload_n 2, 1) := by decide +kernel
theorem dX9_powerOf_57 : decode cX9_powerOf 57 = .ok (.ldc2_w 381, 3) := by decide +kernel
theorem dX9_powerOf_60 : decode cX9_powerOf 60 = .ok (.dmul, 1) := by decide +kernel
theorem dX9_powerOf_61 : decode cX9_powerOf 61 = .ok (.dstore_n 2, 1) := by decide +kernel
theorem dX9_powerOf_62 : decode cX9_powerOf 62 = .ok (.iinc 4 (-1), 3) := by decide +kernel
theorem dX9_powerOf_65 : decode cX9_powerOf 65 = .ok (.iinc 5 1, 3) := by decide +kernel
theorem dX9_powerOf_68 : decode cX9_powerOf 68 = .ok (.goto (-26), 3) := by decide +kernel
theorem dX9_powerOf_71 : decode cX9_powerOf 71 = .ok (.iload 4, 2) := by decide +kernel
theorem dX9_powerOf_73 : decode cX9_powerOf 73 = .ok (.ireturn, 1) := by decide +kernel
theorem dX9_fractionOf_0 : decode cX9_fractionOf 0 = .ok (.dload_n 0, 1) := by decide +kernel
theorem dX9_fractionOf_1 : decode cX9_fractionOf 1 = .ok (.dstore 4, 2) := by decide +kernel
theorem dX9_fractionOf_3 : decode cX9_fractionOf 3 = .ok (.iload_n 2, 1) := by decide +kernel
theorem dX9_fractionOf_4 : decode cX9_fractionOf 4 = .ok (.istore 6, 2) := by decide +kernel
theorem dX9_fractionOf_6 : decode cX9_fractionOf 6 = .ok (.iload 6, 2) := by decide +kernel
theorem dX9_fractionOf_8 : decode cX9_fractionOf 8 = .ok (.iload_n 3, 1) := by decide +kernel
theorem dX9_fractionOf_9 : decode cX9_fractionOf 9 = .ok (.if_icmp .ge 17, 3) := by decide +kernel
theorem dX9_fractionOf_12 : decode cX9_fractionOf 12 = .ok (.dload 4, 2) := by decide +kernel
theorem dX9_fractionOf_14 : decode cX9_fractionOf 14 = .ok (.ldc2_w 381, 3) := by decide +kernel
theorem dX9_fractionOf_17 : decode cX9_fractionOf 17 = .ok (.dmul, 1) := by decide +kernel
theorem dX9_fractionOf_18 : decode cX9_fractionOf 18 = .ok (.dstore 4, 2) := by decide +kernel
theorem dX9_fractionOf_20 : decode cX9_fractionOf 20 = .ok (.iinc 6 1, 3) := by decide +kernel
theorem dX9_fractionOf_23 : decode cX9_fractionOf 23 = .ok (.goto (-17), 3) := by decide +kernel
theorem dX9_fractionOf_26 : decode cX9_fractionOf 26 = .ok (.iload_n 2, 1) := by decide +kernel
theorem dX9_fractionOf_27 : decode cX9_fractionOf 27 = .ok (.istore 6, 2) := by decide +kernel
theorem dX9_fractionOf_29 : decode cX9_fractionOf 29 = .ok (.iload 6, 2) := by decide +kernel
theorem dX9_fractionOf_31 : decode cX9_fractionOf 31 = .ok (.iload_n 3, 1) := by decide +kernel
theorem dX9_fractionOf_32 : decode cX9_fractionOf 32 = .ok (.if_icmp .le 17, 3) := by decide +kernel
theorem dX9_fractionOf_35 : decode cX9_fractionOf 35 = .ok (.dload 4, 2) := by decide +kernel
theorem dX9_fractionOf_37 : decode cX9_fractionOf 37 = .ok (.ldc2_w 381, 3) := by decide +kernel
theorem dX9_fractionOf_40 : decode cX9_fractionOf 40 = .ok (.ddiv, 1) := by decide +kernel
theorem dX9_fractionOf_41 : decode cX9_fractionOf 41 = .ok (.dstore 4, 2) := by decide +kernel
theorem dX9_fractionOf_43 : decode cX9_fractionOf 43 = .ok (.iinc 6 (-1), 3) := by decide +kernel
theorem dX9_fractionOf_46 : decode cX9_fractionOf 46 = .ok (.goto (-17), 3) := by decide +kernel
theorem dX9_fractionOf_49 : decode cX9_fractionOf 49 = .ok (.dload 4, 2) := by decide +kernel
theorem dX9_fractionOf_51 : decode cX9_fractionOf 51 = .ok (.d2l, 1) := by decide +kernel
theorem dX9_fractionOf_52 : decode cX9_fractionOf 52 = .ok (.lconst 1, 1) := by decide +kernel
theorem dX9_fractionOf_53 : decode cX9_fractionOf 53 = .ok (.iload_n 3, 1) := by decide +kernel
theorem dX9_fractionOf_54 : decode cX9_fractionOf 54 = .ok (.lshl, 1) := by decide +kernel
theorem dX9_fractionOf_55 : decode cX9_fractionOf 55 = .ok (.lsub, 1) := by decide +kernel
theorem dX9_fractionOf_56 : decode cX9_fractionOf 56 = .ok (.lreturn, 1) := by decide +kernel
theorem dX9_written_0 : decode cX9_written 0 = .ok (.iload_n 1, 1) := by decide +kernel
theorem dX9_written_1 : decode cX9_written 1 = .ok (.invokestatic 93, 3) := by decide +kernel
theorem dX9_written_4 : decode cX9_written 4 = .ok (.ifCond .ne 5, 3) := by decide +kernel
theorem dX9_written_7 : decode cX9_written 7 = .ok (.iconst (-1), 1) := by decide +kernel
theorem dX9_written_8 : decode cX9_written 8 = .ok (.ireturn, 1) := by decide +kernel
theorem dX9_written_9 : decode cX9_written 9 = .ok (.aload_n 0, 1) := by decide +kernel
theorem dX9_written_10 : decode cX9_written 10 = .ok (.aload_n 0, 1) := by decide +kernel
theorem dX9_written_11 : decode cX9_written 11 = .ok (.getfield 10, 3) := by decide +kernel
theorem dX9_written_14 : decode cX9_written 14 = .ok (.iload_n 1, 1) := by decide +kernel
theorem dX9_written_15 : decode cX9_written 15 = .ok (.invokevirtual 112, 3) := by decide +kernel
theorem dX9_written_18 : decode cX9_written 18 = .ok (.aload_n 0, 1) := by decide +kernel
theorem dX9_written_19 : decode cX9_written 19 = .ok (.getfield 10, 3) := by decide +kernel
theorem dX9_written_22 : decode cX9_written 22 = .ok (.iload_n 1, 1) := by decide +kernel
theorem dX9_written_23 : decode cX9_written 23 = .ok (.invokevirtual 143, 3) := by decide +kernel
theorem dX9_written_26 : decode cX9_written 26 = .ok (.invokevirtual 383, 3) := by decide +kernel
theorem dX9_written_29 : decode cX9_written 29 = .ok (.iload_n 2, 1) := by decide +kernel
theorem dX9_written_30 : decode cX9_written 30 = .ok (.iconst (-1), 1) := by decide +kernel
theorem dX9_written_31 : decode cX9_written 31 = .ok (.if_icmp .ne 13, 3) := by decide +kernel
theorem dX9_written_34 : decode cX9_written 34 = .ok (.aload_n 0, 1) := by decide +kernel
theorem dX9_written_35 : decode cX9_written 35 = .ok (.getfield 37, 3) := by decide +kernel
theorem dX9_written_38 : decode cX9_written 38 = .ok (.invokevirtual 78, 3) := by decide +kernel
theorem dX9_written_41 : decode cX9_written 41 = .ok (.goto 11, 3) := by decide +kernel
theorem dX9_written_44 : decode cX9_written 44 = .ok (.aload_n 0, 1) := by decide +kernel
theorem dX9_written_45 : decode cX9_written 45 = .ok (.getfield 37, 3) := by decide +kernel
theorem dX9_written_48 : decode cX9_written 48 = .ok (.iload_n 2, 1) := by decide +kernel
theorem dX9_written_49 : decode cX9_written 49 = .ok (.invokevirtual 386, 3) := by decide +kernel
theorem dX9_written_52 : decode cX9_written 52 = .ok (.ireturn, 1) := by decide +kernel
theorem dX9_writeMoment_0 : decode cX9_writeMoment 0 = .ok (.iload_n 1, 1) := by decide +kernel
theorem dX9_writeMoment_1 : decode cX9_writeMoment 1 = .ok (.invokestatic 138, 3) := by decide +kernel
theorem dX9_writeMoment_4 : decode cX9_writeMoment 4 = .ok (.istore_n 3, 1) := by decide +kernel
theorem dX9_writeMoment_5 : decode cX9_writeMoment 5 = .ok (.aload_n 0, 1) := by decide +kernel
theorem dX9_writeMoment_6 : decode cX9_writeMoment 6 = .ok (.getfield 37, 3) := by decide +kernel
theorem dX9_writeMoment_9 : decode cX9_writeMoment 9 = .ok (.iconst 0, 1) := by decide +kernel
theorem dX9_writeMoment_10 : decode cX9_writeMoment 10 = .ok (.invokevirtual 86, 3) := by decide +kernel
theorem dX9_writeMoment_13 : decode cX9_writeMoment 13 = .ok (.aload_n 0, 1) := by decide +kernel
theorem dX9_writeMoment_14 : decode cX9_writeMoment 14 = .ok (.getfield 37, 3) := by decide +kernel
theorem dX9_writeMoment_17 : decode cX9_writeMoment 17 = .ok (.iload_n 3, 1) := by decide +kernel
theorem dX9_writeMoment_18 : decode cX9_writeMoment 18 = .ok (.ldc_w 388, 3) := by decide +kernel
theorem dX9_writeMoment_21 : decode cX9_writeMoment 21 = .ok (.idiv, 1) := by decide +kernel
theorem dX9_writeMoment_22 : decode cX9_writeMoment 22 = .ok (.invokevirtual 389, 3) := by decide +kernel
theorem dX9_writeMoment_25 : decode cX9_writeMoment 25 = .ok (.aload_n 0, 1) := by decide +kernel
theorem dX9_writeMoment_26 : decode cX9_writeMoment 26 = .ok (.getfield 37, 3) := by decide +kernel
theorem dX9_writeMoment_29 : decode cX9_writeMoment 29 = .ok (.iload_n 3, 1) := by decide +kernel
theorem dX9_writeMoment_30 : decode cX9_writeMoment 30 = .ok (.sipush 10000, 3) := by decide +kernel
theorem dX9_writeMoment_33 : decode cX9_writeMoment 33 = .ok (.idiv, 1) := by decide +kernel
theorem dX9_writeMoment_34 : decode cX9_writeMoment 34 = .ok (.bipush 100, 2) := by decide +kernel
theorem dX9_writeMoment_36 : decode cX9_writeMoment 36 = .ok (.irem, 1) := by decide +kernel
theorem dX9_writeMoment_37 : decode cX9_writeMoment 37 = .ok (.invokevirtual 389, 3) := by decide +kernel
theorem dX9_writeMoment_40 : decode cX9_writeMoment 40 = .ok (.aload_n 0, 1) := by decide +kernel
theorem dX9_writeMoment_41 : decode cX9_writeMoment 41 = .ok (.getfield 37, 3) := by decide +kernel
theorem dX9_writeMoment_44 : decode cX9_writeMoment 44 = .ok (.bipush 45, 2) := by decide +kernel
theorem dX9_writeMoment_46 : decode cX9_writeMoment 46 = .ok (.invokevirtual 82, 3) := by decide +kernel
theorem dX9_writeMoment_49 : decode cX9_writeMoment 49 = .ok (.aload_n 0, 1) := by decide +kernel
theorem dX9_writeMoment_50 : decode cX9_writeMoment 50 = .ok (.getfield 37, 3) := by decide +kernel
theorem dX9_writeMoment_53 : decode cX9_writeMoment 53 = .ok (.iload_n 3, 1) := by decide +kernel
theorem dX9_writeMoment_54 : decode cX9_writeMoment 54 = .ok (.bipush 100, 2) := by decide +kernel
theorem dX9_writeMoment_56 : decode cX9_writeMoment 56 = .ok (.idiv, 1) := by decide +kernel
theorem dX9_writeMoment_57 : decode cX9_writeMoment 57 = .ok (.bipush 100, 2) := by decide +kernel
theorem dX9_writeMoment_59 : decode cX9_writeMoment 59 = .ok (.irem, 1) := by decide +kernel
theorem dX9_writeMoment_60 : decode cX9_writeMoment 60 = .ok (.invokevirtual 389, 3) := by decide +kernel
theorem dX9_writeMoment_63 : decode cX9_writeMoment 63 = .ok (.aload_n 0, 1) := by decide +kernel
theorem dX9_writeMoment_64 : decode cX9_writeMoment 64 = .ok (.getfield 37, 3) := by decide +kernel
theorem dX9_writeMoment_67 : decode cX9_writeMoment 67 = .ok (.bipush 45, 2) := by decide +kernel
theorem dX9_writeMoment_69 : decode cX9_writeMoment 69 = .ok (.invokevirtual 82, 3) := by decide +kernel
theorem dX9_writeMoment_72 : decode cX9_writeMoment 72 = .ok (.aload_n 0, 1) := by decide +kernel
theorem dX9_writeMoment_73 : decode cX9_writeMoment 73 = .ok (.getfield 37, 3) := by decide +kernel
theorem dX9_writeMoment_76 : decode cX9_writeMoment 76 = .ok (.iload_n 3, 1) := by decide +kernel
theorem dX9_writeMoment_77 : decode cX9_writeMoment 77 = .ok (.bipush 100, 2) := by decide +kernel
theorem dX9_writeMoment_79 : decode cX9_writeMoment 79 = .ok (.irem, 1) := by decide +kernel
theorem dX9_writeMoment_80 : decode cX9_writeMoment 80 = .ok (.invokevirtual 389, 3) := by decide +kernel
theorem dX9_writeMoment_83 : decode cX9_writeMoment 83 = .ok (.iload_n 2, 1) := by decide +kernel
theorem dX9_writeMoment_84 : decode cX9_writeMoment 84 = .ok (.ifCond .eq 67, 3) := by decide +kernel
theorem dX9_writeMoment_87 : decode cX9_writeMoment 87 = .ok (.aload_n 0, 1) := by decide +kernel
theorem dX9_writeMoment_88 : decode cX9_writeMoment 88 = .ok (.getfield 37, 3) := by decide +kernel
theorem dX9_writeMoment_91 : decode cX9_writeMoment 91 = .ok (.bipush 84, 2) := by decide +kernel
theorem dX9_writeMoment_93 : decode cX9_writeMoment 93 = .ok (.invokevirtual 82, 3) := by decide +kernel
theorem dX9_writeMoment_96 : decode cX9_writeMoment 96 = .ok (.aload_n 0, 1) := by decide +kernel
theorem dX9_writeMoment_97 : decode cX9_writeMoment 97 = .ok (.getfield 37, 3) := by decide +kernel
theorem dX9_writeMoment_100 : decode cX9_writeMoment 100 = .ok (.iload_n 2, 1) := by decide +kernel
theorem dX9_writeMoment_101 : decode cX9_writeMoment 101 = .ok (.sipush 3600, 3) := by decide +kernel
theorem dX9_writeMoment_104 : decode cX9_writeMoment 104 = .ok (.idiv, 1) := by decide +kernel
theorem dX9_writeMoment_105 : decode cX9_writeMoment 105 = .ok (.invokevirtual 389, 3) := by decide +kernel
theorem dX9_writeMoment_108 : decode cX9_writeMoment 108 = .ok (.aload_n 0, 1) := by decide +kernel
theorem dX9_writeMoment_109 : decode cX9_writeMoment 109 = .ok (.getfield 37, 3) := by decide +kernel
theorem dX9_writeMoment_112 : decode cX9_writeMoment 112 = .ok (.bipush 58, 2) := by decide +kernel
theorem dX9_writeMoment_114 : decode cX9_writeMoment 114 = .ok (.invokevirtual 82, 3) := by decide +kernel
theorem dX9_writeMoment_117 : decode cX9_writeMoment 117 = .ok (.aload_n 0, 1) := by decide +kernel
theorem dX9_writeMoment_118 : decode cX9_writeMoment 118 = .ok (.getfield 37, 3) := by decide +kernel
theorem dX9_writeMoment_121 : decode cX9_writeMoment 121 = .ok (.iload_n 2, 1) := by decide +kernel
theorem dX9_writeMoment_122 : decode cX9_writeMoment 122 = .ok (.bipush 60, 2) := by decide +kernel
theorem dX9_writeMoment_124 : decode cX9_writeMoment 124 = .ok (.idiv, 1) := by decide +kernel
theorem dX9_writeMoment_125 : decode cX9_writeMoment 125 = .ok (.bipush 60, 2) := by decide +kernel
theorem dX9_writeMoment_127 : decode cX9_writeMoment 127 = .ok (.irem, 1) := by decide +kernel
theorem dX9_writeMoment_128 : decode cX9_writeMoment 128 = .ok (.invokevirtual 389, 3) := by decide +kernel
theorem dX9_writeMoment_131 : decode cX9_writeMoment 131 = .ok (.aload_n 0, 1) := by decide +kernel
theorem dX9_writeMoment_132 : decode cX9_writeMoment 132 = .ok (.getfield 37, 3) := by decide +kernel
theorem dX9_writeMoment_135 : decode cX9_writeMoment 135 = .ok (.bipush 58, 2) := by decide +kernel
theorem dX9_writeMoment_137 : decode cX9_writeMoment 137 = .ok (.invokevirtual 82, 3) := by decide +kernel
theorem dX9_writeMoment_140 : decode cX9_writeMoment 140 = .ok (.aload_n 0, 1) := by decide +kernel
theorem dX9_writeMoment_141 : decode cX9_writeMoment 141 = .ok (.getfield 37, 3) := by decide +kernel
theorem dX9_writeMoment_144 : decode cX9_writeMoment 144 = .ok (.iload_n 2, 1) := by decide +kernel
theorem dX9_writeMoment_145 : decode cX9_writeMoment 145 = .ok (.bipush 60, 2) := by decide +kernel
theorem dX9_writeMoment_147 : decode cX9_writeMoment 147 = .ok (.irem, 1) := by decide +kernel
theorem dX9_writeMoment_148 : decode cX9_writeMoment 148 = .ok (.invokevirtual 389, 3) := by decide +kernel
theorem dX9_writeMoment_151 : decode cX9_writeMoment 151 = .ok (.return_, 1) := by decide +kernel
theorem dX9_phrase_0 : decode cX9_phrase 0 = .ok (.iload_n 1, 1) := by decide +kernel
theorem dX9_phrase_1 : decode cX9_phrase 1 = .ok (.invokestatic 93, 3) := by decide +kernel
theorem dX9_phrase_4 : decode cX9_phrase 4 = .ok (.ifCond .eq 8, 3) := by decide +kernel
theorem dX9_phrase_7 : decode cX9_phrase 7 = .ok (.iload_n 2, 1) := by decide +kernel
theorem dX9_phrase_8 : decode cX9_phrase 8 = .ok (.iconst (-1), 1) := by decide +kernel
theorem dX9_phrase_9 : decode cX9_phrase 9 = .ok (.if_icmp .ge 5, 3) := by decide +kernel
theorem dX9_phrase_12 : decode cX9_phrase 12 = .ok (.iconst (-1), 1) := by decide +kernel
theorem dX9_phrase_13 : decode cX9_phrase 13 = .ok (.ireturn, 1) := by decide +kernel
theorem dX9_phrase_14 : decode cX9_phrase 14 = .ok (.aload_n 0, 1) := by decide +kernel
theorem dX9_phrase_15 : decode cX9_phrase 15 = .ok (.getfield 10, 3) := by decide +kernel
theorem dX9_phrase_18 : decode cX9_phrase 18 = .ok (.iload_n 1, 1) := by decide +kernel
theorem dX9_phrase_19 : decode cX9_phrase 19 = .ok (.invokevirtual 161, 3) := by decide +kernel
theorem dX9_phrase_22 : decode cX9_phrase 22 = .ok (.istore_n 3, 1) := by decide +kernel
theorem dX9_phrase_23 : decode cX9_phrase 23 = .ok (.aload_n 0, 1) := by decide +kernel
theorem dX9_phrase_24 : decode cX9_phrase 24 = .ok (.getfield 10, 3) := by decide +kernel
theorem dX9_phrase_27 : decode cX9_phrase 27 = .ok (.iload_n 1, 1) := by decide +kernel
theorem dX9_phrase_28 : decode cX9_phrase 28 = .ok (.invokevirtual 164, 3) := by decide +kernel
theorem dX9_phrase_31 : decode cX9_phrase 31 = .ok (.istore 4, 2) := by decide +kernel
theorem dX9_phrase_33 : decode cX9_phrase 33 = .ok (.aload_n 0, 1) := by decide +kernel
theorem dX9_phrase_34 : decode cX9_phrase 34 = .ok (.getfield 10, 3) := by decide +kernel
theorem dX9_phrase_37 : decode cX9_phrase 37 = .ok (.iload_n 1, 1) := by decide +kernel
theorem dX9_phrase_38 : decode cX9_phrase 38 = .ok (.invokevirtual 167, 3) := by decide +kernel
theorem dX9_phrase_41 : decode cX9_phrase 41 = .ok (.istore 5, 2) := by decide +kernel
theorem dX9_phrase_43 : decode cX9_phrase 43 = .ok (.iload_n 3, 1) := by decide +kernel
theorem dX9_phrase_44 : decode cX9_phrase 44 = .ok (.bipush 12, 2) := by decide +kernel
theorem dX9_phrase_46 : decode cX9_phrase 46 = .ok (.idiv, 1) := by decide +kernel
theorem dX9_phrase_47 : decode cX9_phrase 47 = .ok (.invokestatic 392, 3) := by decide +kernel
theorem dX9_phrase_50 : decode cX9_phrase 50 = .ok (.ifCond .eq 26, 3) := by decide +kernel
theorem dX9_phrase_53 : decode cX9_phrase 53 = .ok (.iload 4, 2) := by decide +kernel
theorem dX9_phrase_55 : decode cX9_phrase 55 = .ok (.bipush 7, 2) := by decide +kernel
theorem dX9_phrase_57 : decode cX9_phrase 57 = .ok (.idiv, 1) := by decide +kernel
theorem dX9_phrase_58 : decode cX9_phrase 58 = .ok (.invokestatic 392, 3) := by decide +kernel
theorem dX9_phrase_61 : decode cX9_phrase 61 = .ok (.ifCond .eq 15, 3) := by decide +kernel
theorem dX9_phrase_64 : decode cX9_phrase 64 = .ok (.iload 5, 2) := by decide +kernel
theorem dX9_phrase_66 : decode cX9_phrase 66 = .ok (.sipush 3600, 3) := by decide +kernel
theorem dX9_phrase_69 : decode cX9_phrase 69 = .ok (.idiv, 1) := by decide +kernel
theorem dX9_phrase_70 : decode cX9_phrase 70 = .ok (.invokestatic 392, 3) := by decide +kernel
theorem dX9_phrase_73 : decode cX9_phrase 73 = .ok (.ifCond .ne 6, 3) := by decide +kernel
theorem dX9_phrase_76 : decode cX9_phrase 76 = .ok (.bipush (-2), 2) := by decide +kernel
theorem dX9_phrase_78 : decode cX9_phrase 78 = .ok (.ireturn, 1) := by decide +kernel
theorem dX9_phrase_79 : decode cX9_phrase 79 = .ok (.aload_n 0, 1) := by decide +kernel
theorem dX9_phrase_80 : decode cX9_phrase 80 = .ok (.getfield 37, 3) := by decide +kernel
theorem dX9_phrase_83 : decode cX9_phrase 83 = .ok (.iconst 0, 1) := by decide +kernel
theorem dX9_phrase_84 : decode cX9_phrase 84 = .ok (.invokevirtual 86, 3) := by decide +kernel
theorem dX9_phrase_87 : decode cX9_phrase 87 = .ok (.aload_n 0, 1) := by decide +kernel
theorem dX9_phrase_88 : decode cX9_phrase 88 = .ok (.getfield 37, 3) := by decide +kernel
theorem dX9_phrase_91 : decode cX9_phrase 91 = .ok (.iload_n 3, 1) := by decide +kernel
theorem dX9_phrase_92 : decode cX9_phrase 92 = .ok (.bipush 12, 2) := by decide +kernel
theorem dX9_phrase_94 : decode cX9_phrase 94 = .ok (.idiv, 1) := by decide +kernel
theorem dX9_phrase_95 : decode cX9_phrase 95 = .ok (.bipush 121, 2) := by decide +kernel
theorem dX9_phrase_97 : decode cX9_phrase 97 = .ok (.invokevirtual 395, 3) := by decide +kernel
theorem dX9_phrase_100 : decode cX9_phrase 100 = .ok (.aload_n 0, 1) := by decide +kernel
theorem dX9_phrase_101 : decode cX9_phrase 101 = .ok (.getfield 37, 3) := by decide +kernel
theorem dX9_phrase_104 : decode cX9_phrase 104 = .ok (.iload_n 3, 1) := by decide +kernel
theorem dX9_phrase_105 : decode cX9_phrase 105 = .ok (.bipush 12, 2) := by decide +kernel
theorem dX9_phrase_107 : decode cX9_phrase 107 = .ok (.irem, 1) := by decide +kernel
theorem dX9_phrase_108 : decode cX9_phrase 108 = .ok (.bipush 109, 2) := by decide +kernel
theorem dX9_phrase_110 : decode cX9_phrase 110 = .ok (.invokevirtual 395, 3) := by decide +kernel
theorem dX9_phrase_113 : decode cX9_phrase 113 = .ok (.aload_n 0, 1) := by decide +kernel
theorem dX9_phrase_114 : decode cX9_phrase 114 = .ok (.getfield 37, 3) := by decide +kernel
theorem dX9_phrase_117 : decode cX9_phrase 117 = .ok (.iload 4, 2) := by decide +kernel
theorem dX9_phrase_119 : decode cX9_phrase 119 = .ok (.bipush 7, 2) := by decide +kernel
theorem dX9_phrase_121 : decode cX9_phrase 121 = .ok (.idiv, 1) := by decide +kernel
theorem dX9_phrase_122 : decode cX9_phrase 122 = .ok (.bipush 119, 2) := by decide +kernel
theorem dX9_phrase_124 : decode cX9_phrase 124 = .ok (.invokevirtual 395, 3) := by decide +kernel
theorem dX9_phrase_127 : decode cX9_phrase 127 = .ok (.aload_n 0, 1) := by decide +kernel
theorem dX9_phrase_128 : decode cX9_phrase 128 = .ok (.getfield 37, 3) := by decide +kernel
theorem dX9_phrase_131 : decode cX9_phrase 131 = .ok (.iload 4, 2) := by decide +kernel
theorem dX9_phrase_133 : decode cX9_phrase 133 = .ok (.bipush 7, 2) := by decide +kernel
theorem dX9_phrase_135 : decode cX9_phrase 135 = .ok (.irem, 1) := by decide +kernel
theorem dX9_phrase_136 : decode cX9_phrase 136 = .ok (.bipush 100, 2) := by decide +kernel
theorem dX9_phrase_138 : decode cX9_phrase 138 = .ok (.invokevirtual 395, 3) := by decide +kernel
theorem dX9_phrase_141 : decode cX9_phrase 141 = .ok (.aload_n 0, 1) := by decide +kernel
theorem dX9_phrase_142 : decode cX9_phrase 142 = .ok (.getfield 37, 3) := by decide +kernel
theorem dX9_phrase_145 : decode cX9_phrase 145 = .ok (.iload 5, 2) := by decide +kernel
theorem dX9_phrase_147 : decode cX9_phrase 147 = .ok (.sipush 3600, 3) := by decide +kernel
theorem dX9_phrase_150 : decode cX9_phrase 150 = .ok (.idiv, 1) := by decide +kernel
theorem dX9_phrase_151 : decode cX9_phrase 151 = .ok (.bipush 104, 2) := by decide +kernel
theorem dX9_phrase_153 : decode cX9_phrase 153 = .ok (.invokevirtual 395, 3) := by decide +kernel
theorem dX9_phrase_156 : decode cX9_phrase 156 = .ok (.aload_n 0, 1) := by decide +kernel
theorem dX9_phrase_157 : decode cX9_phrase 157 = .ok (.getfield 37, 3) := by decide +kernel
theorem dX9_phrase_160 : decode cX9_phrase 160 = .ok (.iload 5, 2) := by decide +kernel
theorem dX9_phrase_162 : decode cX9_phrase 162 = .ok (.bipush 60, 2) := by decide +kernel
theorem dX9_phrase_164 : decode cX9_phrase 164 = .ok (.idiv, 1) := by decide +kernel
theorem dX9_phrase_165 : decode cX9_phrase 165 = .ok (.bipush 60, 2) := by decide +kernel
theorem dX9_phrase_167 : decode cX9_phrase 167 = .ok (.irem, 1) := by decide +kernel
theorem dX9_phrase_168 : decode cX9_phrase 168 = .ok (.bipush 105, 2) := by decide +kernel
theorem dX9_phrase_170 : decode cX9_phrase 170 = .ok (.invokevirtual 395, 3) := by decide +kernel
theorem dX9_phrase_173 : decode cX9_phrase 173 = .ok (.aload_n 0, 1) := by decide +kernel
theorem dX9_phrase_174 : decode cX9_phrase 174 = .ok (.getfield 37, 3) := by decide +kernel
theorem dX9_phrase_177 : decode cX9_phrase 177 = .ok (.iload 5, 2) := by decide +kernel
theorem dX9_phrase_179 : decode cX9_phrase 179 = .ok (.bipush 60, 2) := by decide +kernel
theorem dX9_phrase_181 : decode cX9_phrase 181 = .ok (.irem, 1) := by decide +kernel
theorem dX9_phrase_182 : decode cX9_phrase 182 = .ok (.bipush 115, 2) := by decide +kernel
theorem dX9_phrase_184 : decode cX9_phrase 184 = .ok (.invokevirtual 395, 3) := by decide +kernel
theorem dX9_phrase_187 : decode cX9_phrase 187 = .ok (.aload_n 0, 1) := by decide +kernel
theorem dX9_phrase_188 : decode cX9_phrase 188 = .ok (.getfield 37, 3) := by decide +kernel
theorem dX9_phrase_191 : decode cX9_phrase 191 = .ok (.invokevirtual 78, 3) := by decide +kernel
theorem dX9_phrase_194 : decode cX9_phrase 194 = .ok (.ifCond .ne 21, 3) := by decide +kernel
theorem dX9_phrase_197 : decode cX9_phrase 197 = .ok (.aload_n 0, 1) := by decide +kernel
theorem dX9_phrase_198 : decode cX9_phrase 198 = .ok (.getfield 37, 3) := by decide +kernel
theorem dX9_phrase_201 : decode cX9_phrase 201 = .ok (.bipush 48, 2) := by decide +kernel
theorem dX9_phrase_203 : decode cX9_phrase 203 = .ok (.invokevirtual 82, 3) := by decide +kernel
theorem dX9_phrase_206 : decode cX9_phrase 206 = .ok (.aload_n 0, 1) := by decide +kernel
theorem dX9_phrase_207 : decode cX9_phrase 207 = .ok (.getfield 37, 3) := by decide +kernel
theorem dX9_phrase_210 : decode cX9_phrase 210 = .ok (.bipush 115, 2) := by decide +kernel
theorem dX9_phrase_212 : decode cX9_phrase 212 = .ok (.invokevirtual 82, 3) := by decide +kernel
theorem dX9_phrase_215 : decode cX9_phrase 215 = .ok (.iload_n 2, 1) := by decide +kernel
theorem dX9_phrase_216 : decode cX9_phrase 216 = .ok (.iconst (-1), 1) := by decide +kernel
theorem dX9_phrase_217 : decode cX9_phrase 217 = .ok (.if_icmp .ne 13, 3) := by decide +kernel
theorem dX9_phrase_220 : decode cX9_phrase 220 = .ok (.aload_n 0, 1) := by decide +kernel
