theorem dX0_init_0 : decode cX0_init 0 = .ok (.aload_n 0, 1) := by decide +kernel
theorem dX0_init_1 : decode cX0_init 1 = .ok (.invokespecial 3, 3) := by decide +kernel
theorem dX0_init_4 : decode cX0_init 4 = .ok (.return_, 1) := by decide +kernel
theorem dX0_takes_0 : decode cX0_takes 0 = .ok (.aload_n 1, 1) := by decide +kernel
theorem dX0_takes_1 : decode cX0_takes 1 = .ok (.iload_n 2, 1) := by decide +kernel
theorem dX0_takes_2 : decode cX0_takes 2 = .ok (.invokevirtual 9, 3) := by decide +kernel
theorem dX0_takes_5 : decode cX0_takes 5 = .ok (.i2l, 1) := by decide +kernel
theorem dX0_takes_6 : decode cX0_takes 6 = .ok (.iload_n 3, 1) := by decide +kernel
theorem dX0_takes_7 : decode cX0_takes 7 = .ok (.i2l, 1) := by decide +kernel
theorem dX0_takes_8 : decode cX0_takes 8 = .ok (.lmul, 1) := by decide +kernel
theorem dX0_takes_9 : decode cX0_takes 9 = .ok (.lstore 5, 2) := by decide +kernel
theorem dX0_takes_11 : decode cX0_takes 11 = .ok (.aload_n 1, 1) := by decide +kernel
theorem dX0_takes_12 : decode cX0_takes 12 = .ok (.iload_n 2, 1) := by decide +kernel
theorem dX0_takes_13 : decode cX0_takes 13 = .ok (.invokevirtual 15, 3) := by decide +kernel
theorem dX0_takes_16 : decode cX0_takes 16 = .ok (.i2l, 1) := by decide +kernel
theorem dX0_takes_17 : decode cX0_takes 17 = .ok (.iload_n 3, 1) := by decide +kernel
theorem dX0_takes_18 : decode cX0_takes 18 = .ok (.i2l, 1) := by decide +kernel
theorem dX0_takes_19 : decode cX0_takes 19 = .ok (.lmul, 1) := by decide +kernel
theorem dX0_takes_20 : decode cX0_takes 20 = .ok (.lstore 7, 2) := by decide +kernel
theorem dX0_takes_22 : decode cX0_takes 22 = .ok (.aload_n 1, 1) := by decide +kernel
theorem dX0_takes_23 : decode cX0_takes 23 = .ok (.iload_n 2, 1) := by decide +kernel
theorem dX0_takes_24 : decode cX0_takes 24 = .ok (.invokevirtual 18, 3) := by decide +kernel
theorem dX0_takes_27 : decode cX0_takes 27 = .ok (.i2l, 1) := by decide +kernel
theorem dX0_takes_28 : decode cX0_takes 28 = .ok (.iload_n 3, 1) := by decide +kernel
theorem dX0_takes_29 : decode cX0_takes 29 = .ok (.i2l, 1) := by decide +kernel
theorem dX0_takes_30 : decode cX0_takes 30 = .ok (.lmul, 1) := by decide +kernel
theorem dX0_takes_31 : decode cX0_takes 31 = .ok (.lstore 9, 2) := by decide +kernel
theorem dX0_takes_33 : decode cX0_takes 33 = .ok (.lload 5, 2) := by decide +kernel
theorem dX0_takes_35 : decode cX0_takes 35 = .ok (.lload 7, 2) := by decide +kernel
theorem dX0_takes_37 : decode cX0_takes 37 = .ok (.lload 9, 2) := by decide +kernel
theorem dX0_takes_39 : decode cX0_takes 39 = .ok (.invokestatic 21, 3) := by decide +kernel
theorem dX0_takes_42 : decode cX0_takes 42 = .ok (.ifCond .ne 5, 3) := by decide +kernel
theorem dX0_takes_45 : decode cX0_takes 45 = .ok (.iconst 0, 1) := by decide +kernel
theorem dX0_takes_46 : decode cX0_takes 46 = .ok (.ireturn, 1) := by decide +kernel
theorem dX0_takes_47 : decode cX0_takes 47 = .ok (.aload_n 0, 1) := by decide +kernel
theorem dX0_takes_48 : decode cX0_takes 48 = .ok (.lload 5, 2) := by decide +kernel
theorem dX0_takes_50 : decode cX0_takes 50 = .ok (.l2i, 1) := by decide +kernel
theorem dX0_takes_51 : decode cX0_takes 51 = .ok (.lload 7, 2) := by decide +kernel
theorem dX0_takes_53 : decode cX0_takes 53 = .ok (.l2i, 1) := by decide +kernel
theorem dX0_takes_54 : decode cX0_takes 54 = .ok (.lload 9, 2) := by decide +kernel
theorem dX0_takes_56 : decode cX0_takes 56 = .ok (.l2i, 1) := by decide +kernel
theorem dX0_takes_57 : decode cX0_takes 57 = .ok (.iload 4, 2) := by decide +kernel
theorem dX0_takes_59 : decode cX0_takes 59 = .ok (.invokevirtual 25, 3) := by decide +kernel
theorem dX0_takes_62 : decode cX0_takes 62 = .ok (.iconst 1, 1) := by decide +kernel
theorem dX0_takes_63 : decode cX0_takes 63 = .ok (.ireturn, 1) := by decide +kernel
theorem dX0_takesNumbers_0 : decode cX0_takesNumbers 0 = .ok (.aload_n 0, 1) := by decide +kernel
theorem dX0_takesNumbers_1 : decode cX0_takesNumbers 1 = .ok (.iload_n 1, 1) := by decide +kernel
theorem dX0_takesNumbers_2 : decode cX0_takesNumbers 2 = .ok (.putfield 31, 3) := by decide +kernel
theorem dX0_takesNumbers_5 : decode cX0_takesNumbers 5 = .ok (.aload_n 0, 1) := by decide +kernel
theorem dX0_takesNumbers_6 : decode cX0_takesNumbers 6 = .ok (.iload_n 2, 1) := by decide +kernel
theorem dX0_takesNumbers_7 : decode cX0_takesNumbers 7 = .ok (.putfield 35, 3) := by decide +kernel
theorem dX0_takesNumbers_10 : decode cX0_takesNumbers 10 = .ok (.aload_n 0, 1) := by decide +kernel
theorem dX0_takesNumbers_11 : decode cX0_takesNumbers 11 = .ok (.iload_n 3, 1) := by decide +kernel
theorem dX0_takesNumbers_12 : decode cX0_takesNumbers 12 = .ok (.putfield 38, 3) := by decide +kernel
theorem dX0_takesNumbers_15 : decode cX0_takesNumbers 15 = .ok (.aload_n 0, 1) := by decide +kernel
theorem dX0_takesNumbers_16 : decode cX0_takesNumbers 16 = .ok (.iload 4, 2) := by decide +kernel
theorem dX0_takesNumbers_18 : decode cX0_takesNumbers 18 = .ok (.putfield 41, 3) := by decide +kernel
theorem dX0_takesNumbers_21 : decode cX0_takesNumbers 21 = .ok (.aload_n 0, 1) := by decide +kernel
theorem dX0_takesNumbers_22 : decode cX0_takesNumbers 22 = .ok (.iconst 0, 1) := by decide +kernel
theorem dX0_takesNumbers_23 : decode cX0_takesNumbers 23 = .ok (.putfield 44, 3) := by decide +kernel
theorem dX0_takesNumbers_26 : decode cX0_takesNumbers 26 = .ok (.return_, 1) := by decide +kernel
theorem dX0_stands_0 : decode cX0_stands 0 = .ok (.aload_n 0, 1) := by decide +kernel
theorem dX0_stands_1 : decode cX0_stands 1 = .ok (.iload_n 1, 1) := by decide +kernel
theorem dX0_stands_2 : decode cX0_stands 2 = .ok (.putfield 47, 3) := by decide +kernel
theorem dX0_stands_5 : decode cX0_stands 5 = .ok (.aload_n 0, 1) := by decide +kernel
theorem dX0_stands_6 : decode cX0_stands 6 = .ok (.iload_n 2, 1) := by decide +kernel
theorem dX0_stands_7 : decode cX0_stands 7 = .ok (.putfield 50, 3) := by decide +kernel
theorem dX0_stands_10 : decode cX0_stands 10 = .ok (.aload_n 0, 1) := by decide +kernel
theorem dX0_stands_11 : decode cX0_stands 11 = .ok (.iconst 0, 1) := by decide +kernel
theorem dX0_stands_12 : decode cX0_stands 12 = .ok (.putfield 53, 3) := by decide +kernel
theorem dX0_stands_15 : decode cX0_stands 15 = .ok (.return_, 1) := by decide +kernel
theorem dX0_leads_0 : decode cX0_leads 0 = .ok (.aload_n 0, 1) := by decide +kernel
theorem dX0_leads_1 : decode cX0_leads 1 = .ok (.iload_n 1, 1) := by decide +kernel
theorem dX0_leads_2 : decode cX0_leads 2 = .ok (.iload_n 2, 1) := by decide +kernel
theorem dX0_leads_3 : decode cX0_leads 3 = .ok (.invokevirtual 56, 3) := by decide +kernel
theorem dX0_leads_6 : decode cX0_leads 6 = .ok (.iload_n 3, 1) := by decide +kernel
theorem dX0_leads_7 : decode cX0_leads 7 = .ok (.ifCond .ne 30, 3) := by decide +kernel
theorem dX0_leads_10 : decode cX0_leads 10 = .ok (.aload_n 0, 1) := by decide +kernel
theorem dX0_leads_11 : decode cX0_leads 11 = .ok (.invokevirtual 60, 3) := by decide +kernel
theorem dX0_leads_14 : decode cX0_leads 14 = .ok (.ifCond .eq 21, 3) := by decide +kernel
theorem dX0_leads_17 : decode cX0_leads 17 = .ok (.aload_n 0, 1) := by decide +kernel
theorem dX0_leads_18 : decode cX0_leads 18 = .ok (.invokevirtual 64, 3) := by decide +kernel
theorem dX0_leads_21 : decode cX0_leads 21 = .ok (.ifCond .eq 14, 3) := by decide +kernel
theorem dX0_leads_24 : decode cX0_leads 24 = .ok (.aload_n 0, 1) := by decide +kernel
theorem dX0_leads_25 : decode cX0_leads 25 = .ok (.invokevirtual 67, 3) := by decide +kernel
theorem dX0_leads_28 : decode cX0_leads 28 = .ok (.ifCond .eq 7, 3) := by decide +kernel
theorem dX0_leads_31 : decode cX0_leads 31 = .ok (.iconst 1, 1) := by decide +kernel
theorem dX0_leads_32 : decode cX0_leads 32 = .ok (.goto 4, 3) := by decide +kernel
theorem dX0_leads_35 : decode cX0_leads 35 = .ok (.iconst 0, 1) := by decide +kernel
theorem dX0_leads_36 : decode cX0_leads 36 = .ok (.ireturn, 1) := by decide +kernel
theorem dX0_leads_37 : decode cX0_leads 37 = .ok (.aload_n 0, 1) := by decide +kernel
theorem dX0_leads_38 : decode cX0_leads 38 = .ok (.invokevirtual 67, 3) := by decide +kernel
theorem dX0_leads_41 : decode cX0_leads 41 = .ok (.ifCond .eq 21, 3) := by decide +kernel
theorem dX0_leads_44 : decode cX0_leads 44 = .ok (.aload_n 0, 1) := by decide +kernel
theorem dX0_leads_45 : decode cX0_leads 45 = .ok (.invokevirtual 64, 3) := by decide +kernel
theorem dX0_leads_48 : decode cX0_leads 48 = .ok (.ifCond .eq 14, 3) := by decide +kernel
theorem dX0_leads_51 : decode cX0_leads 51 = .ok (.aload_n 0, 1) := by decide +kernel
theorem dX0_leads_52 : decode cX0_leads 52 = .ok (.invokevirtual 60, 3) := by decide +kernel
theorem dX0_leads_55 : decode cX0_leads 55 = .ok (.ifCond .eq 7, 3) := by decide +kernel
theorem dX0_leads_58 : decode cX0_leads 58 = .ok (.iconst 1, 1) := by decide +kernel
theorem dX0_leads_59 : decode cX0_leads 59 = .ok (.goto 4, 3) := by decide +kernel
theorem dX0_leads_62 : decode cX0_leads 62 = .ok (.iconst 0, 1) := by decide +kernel
theorem dX0_leads_63 : decode cX0_leads 63 = .ok (.ireturn, 1) := by decide +kernel
theorem dX0_instant_0 : decode cX0_instant 0 = .ok (.aload_n 0, 1) := by decide +kernel
theorem dX0_instant_1 : decode cX0_instant 1 = .ok (.getfield 47, 3) := by decide +kernel
theorem dX0_instant_4 : decode cX0_instant 4 = .ok (.aload_n 0, 1) := by decide +kernel
theorem dX0_instant_5 : decode cX0_instant 5 = .ok (.getfield 50, 3) := by decide +kernel
theorem dX0_instant_8 : decode cX0_instant 8 = .ok (.invokestatic 70, 3) := by decide +kernel
theorem dX0_instant_11 : decode cX0_instant 11 = .ok (.lreturn, 1) := by decide +kernel
theorem dX0_movesMonths_0 : decode cX0_movesMonths 0 = .ok (.aload_n 0, 1) := by decide +kernel
theorem dX0_movesMonths_1 : decode cX0_movesMonths 1 = .ok (.getfield 31, 3) := by decide +kernel
theorem dX0_movesMonths_4 : decode cX0_movesMonths 4 = .ok (.ifCond .ne 5, 3) := by decide +kernel
theorem dX0_movesMonths_7 : decode cX0_movesMonths 7 = .ok (.iconst 1, 1) := by decide +kernel
theorem dX0_movesMonths_8 : decode cX0_movesMonths 8 = .ok (.ireturn, 1) := by decide +kernel
theorem dX0_movesMonths_9 : decode cX0_movesMonths 9 = .ok (.aload_n 0, 1) := by decide +kernel
theorem dX0_movesMonths_10 : decode cX0_movesMonths 10 = .ok (.getfield 47, 3) := by decide +kernel
theorem dX0_movesMonths_13 : decode cX0_movesMonths 13 = .ok (.aload_n 0, 1) := by decide +kernel
theorem dX0_movesMonths_14 : decode cX0_movesMonths 14 = .ok (.getfield 74, 3) := by decide +kernel
theorem dX0_movesMonths_17 : decode cX0_movesMonths 17 = .ok (.if_icmp .lt 19, 3) := by decide +kernel
theorem dX0_movesMonths_20 : decode cX0_movesMonths 20 = .ok (.aload_n 0, 1) := by decide +kernel
theorem dX0_movesMonths_21 : decode cX0_movesMonths 21 = .ok (.getfield 47, 3) := by decide +kernel
theorem dX0_movesMonths_24 : decode cX0_movesMonths 24 = .ok (.aload_n 0, 1) := by decide +kernel
theorem dX0_movesMonths_25 : decode cX0_movesMonths 25 = .ok (.getfield 74, 3) := by decide +kernel
theorem dX0_movesMonths_28 : decode cX0_movesMonths 28 = .ok (.isub, 1) := by decide +kernel
theorem dX0_movesMonths_29 : decode cX0_movesMonths 29 = .ok (.aload_n 0, 1) := by decide +kernel
theorem dX0_movesMonths_30 : decode cX0_movesMonths 30 = .ok (.getfield 44, 3) := by decide +kernel
theorem dX0_movesMonths_33 : decode cX0_movesMonths 33 = .ok (.if_icmp .lt 7, 3) := by decide +kernel
theorem dX0_movesMonths_36 : decode cX0_movesMonths 36 = .ok (.aload_n 0, 1) := by decide +kernel
theorem dX0_movesMonths_37 : decode cX0_movesMonths 37 = .ok (.invokevirtual 77, 3) := by decide +kernel
theorem dX0_movesMonths_40 : decode cX0_movesMonths 40 = .ok (.aload_n 0, 1) := by decide +kernel
theorem dX0_movesMonths_41 : decode cX0_movesMonths 41 = .ok (.getfield 80, 3) := by decide +kernel
theorem dX0_movesMonths_44 : decode cX0_movesMonths 44 = .ok (.ifCond .ne 5, 3) := by decide +kernel
theorem dX0_movesMonths_47 : decode cX0_movesMonths 47 = .ok (.iconst 0, 1) := by decide +kernel
theorem dX0_movesMonths_48 : decode cX0_movesMonths 48 = .ok (.ireturn, 1) := by decide +kernel
theorem dX0_movesMonths_49 : decode cX0_movesMonths 49 = .ok (.aload_n 0, 1) := by decide +kernel
theorem dX0_movesMonths_50 : decode cX0_movesMonths 50 = .ok (.getfield 47, 3) := by decide +kernel
theorem dX0_movesMonths_53 : decode cX0_movesMonths 53 = .ok (.aload_n 0, 1) := by decide +kernel
theorem dX0_movesMonths_54 : decode cX0_movesMonths 54 = .ok (.getfield 74, 3) := by decide +kernel
theorem dX0_movesMonths_57 : decode cX0_movesMonths 57 = .ok (.isub, 1) := by decide +kernel
theorem dX0_movesMonths_58 : decode cX0_movesMonths 58 = .ok (.iconst 1, 1) := by decide +kernel
theorem dX0_movesMonths_59 : decode cX0_movesMonths 59 = .ok (.iadd, 1) := by decide +kernel
theorem dX0_movesMonths_60 : decode cX0_movesMonths 60 = .ok (.istore_n 1, 1) := by decide +kernel
theorem dX0_movesMonths_61 : decode cX0_movesMonths 61 = .ok (.iload_n 1, 1) := by decide +kernel
theorem dX0_movesMonths_62 : decode cX0_movesMonths 62 = .ok (.aload_n 0, 1) := by decide +kernel
theorem dX0_movesMonths_63 : decode cX0_movesMonths 63 = .ok (.getfield 44, 3) := by decide +kernel
theorem dX0_movesMonths_66 : decode cX0_movesMonths 66 = .ok (.if_icmp .ne 7, 3) := by decide +kernel
theorem dX0_movesMonths_69 : decode cX0_movesMonths 69 = .ok (.iconst 1, 1) := by decide +kernel
theorem dX0_movesMonths_70 : decode cX0_movesMonths 70 = .ok (.goto 4, 3) := by decide +kernel
theorem dX0_movesMonths_73 : decode cX0_movesMonths 73 = .ok (.iconst 0, 1) := by decide +kernel
theorem dX0_movesMonths_74 : decode cX0_movesMonths 74 = .ok (.istore_n 2, 1) := by decide +kernel
theorem dX0_movesMonths_75 : decode cX0_movesMonths 75 = .ok (.aload_n 0, 1) := by decide +kernel
theorem dX0_movesMonths_76 : decode cX0_movesMonths 76 = .ok (.iload_n 1, 1) := by decide +kernel
theorem dX0_movesMonths_77 : decode cX0_movesMonths 77 = .ok (.aload_n 0, 1) := by decide +kernel
theorem dX0_movesMonths_78 : decode cX0_movesMonths 78 = .ok (.getfield 80, 3) := by decide +kernel
theorem dX0_movesMonths_81 : decode cX0_movesMonths 81 = .ok (.isub, 1) := by decide +kernel
theorem dX0_movesMonths_82 : decode cX0_movesMonths 82 = .ok (.iconst 0, 1) := by decide +kernel
theorem dX0_movesMonths_83 : decode cX0_movesMonths 83 = .ok (.invokestatic 83, 3) := by decide +kernel
theorem dX0_movesMonths_86 : decode cX0_movesMonths 86 = .ok (.putfield 53, 3) := by decide +kernel
theorem dX0_movesMonths_89 : decode cX0_movesMonths 89 = .ok (.aload_n 0, 1) := by decide +kernel
theorem dX0_movesMonths_90 : decode cX0_movesMonths 90 = .ok (.getfield 53, 3) := by decide +kernel
theorem dX0_movesMonths_93 : decode cX0_movesMonths 93 = .ok (.ifCond .le 13, 3) := by decide +kernel
theorem dX0_movesMonths_96 : decode cX0_movesMonths 96 = .ok (.aload_n 0, 1) := by decide +kernel
theorem dX0_movesMonths_97 : decode cX0_movesMonths 97 = .ok (.getfield 41, 3) := by decide +kernel
theorem dX0_movesMonths_100 : decode cX0_movesMonths 100 = .ok (.iconst 3, 1) := by decide +kernel
theorem dX0_movesMonths_101 : decode cX0_movesMonths 101 = .ok (.if_icmp .ne 5, 3) := by decide +kernel
theorem dX0_movesMonths_104 : decode cX0_movesMonths 104 = .ok (.iconst 0, 1) := by decide +kernel
theorem dX0_movesMonths_105 : decode cX0_movesMonths 105 = .ok (.ireturn, 1) := by decide +kernel
theorem dX0_movesMonths_106 : decode cX0_movesMonths 106 = .ok (.aload_n 0, 1) := by decide +kernel
theorem dX0_movesMonths_107 : decode cX0_movesMonths 107 = .ok (.getfield 41, 3) := by decide +kernel
theorem dX0_movesMonths_110 : decode cX0_movesMonths 110 = .ok (.iconst 2, 1) := by decide +kernel
theorem dX0_movesMonths_111 : decode cX0_movesMonths 111 = .ok (.if_icmp .ne 7, 3) := by decide +kernel
theorem dX0_movesMonths_114 : decode cX0_movesMonths 114 = .ok (.iload_n 2, 1) := by decide +kernel
theorem dX0_movesMonths_115 : decode cX0_movesMonths 115 = .ok (.ifCond .ne 18, 3) := by decide +kernel
theorem dX0_movesMonths_118 : decode cX0_movesMonths 118 = .ok (.aload_n 0, 1) := by decide +kernel
theorem dX0_movesMonths_119 : decode cX0_movesMonths 119 = .ok (.getfield 53, 3) := by decide +kernel
theorem dX0_movesMonths_122 : decode cX0_movesMonths 122 = .ok (.ifCond .le 16, 3) := by decide +kernel
theorem dX0_movesMonths_125 : decode cX0_movesMonths 125 = .ok (.aload_n 0, 1) := by decide +kernel
theorem dX0_movesMonths_126 : decode cX0_movesMonths 126 = .ok (.getfield 41, 3) := by decide +kernel
theorem dX0_movesMonths_129 : decode cX0_movesMonths 129 = .ok (.iconst 1, 1) := by decide +kernel
theorem dX0_movesMonths_130 : decode cX0_movesMonths 130 = .ok (.if_icmp .eq 8, 3) := by decide +kernel
theorem dX0_movesMonths_133 : decode cX0_movesMonths 133 = .ok (.aload_n 0, 1) := by decide +kernel
theorem dX0_movesMonths_134 : decode cX0_movesMonths 134 = .ok (.getfield 80, 3) := by decide +kernel
theorem dX0_movesMonths_137 : decode cX0_movesMonths 137 = .ok (.istore_n 1, 1) := by decide +kernel
theorem dX0_movesMonths_138 : decode cX0_movesMonths 138 = .ok (.aload_n 0, 1) := by decide +kernel
theorem dX0_movesMonths_139 : decode cX0_movesMonths 139 = .ok (.aload_n 0, 1) := by decide +kernel
theorem dX0_movesMonths_140 : decode cX0_movesMonths 140 = .ok (.getfield 89, 3) := by decide +kernel
theorem dX0_movesMonths_143 : decode cX0_movesMonths 143 = .ok (.iload_n 1, 1) := by decide +kernel
theorem dX0_movesMonths_144 : decode cX0_movesMonths 144 = .ok (.iadd, 1) := by decide +kernel
theorem dX0_movesMonths_145 : decode cX0_movesMonths 145 = .ok (.iconst 1, 1) := by decide +kernel
theorem dX0_movesMonths_146 : decode cX0_movesMonths 146 = .ok (.isub, 1) := by decide +kernel
theorem dX0_movesMonths_147 : decode cX0_movesMonths 147 = .ok (.putfield 47, 3) := by decide +kernel
theorem dX0_movesMonths_150 : decode cX0_movesMonths 150 = .ok (.aload_n 0, 1) := by decide +kernel
theorem dX0_movesMonths_151 : decode cX0_movesMonths 151 = .ok (.getfield 47, 3) := by decide +kernel
theorem dX0_movesMonths_154 : decode cX0_movesMonths 154 = .ok (.invokestatic 92, 3) := by decide +kernel
theorem dX0_movesMonths_157 : decode cX0_movesMonths 157 = .ok (.ireturn, 1) := by decide +kernel
theorem dX0_lookUp_0 : decode cX0_lookUp 0 = .ok (.aload_n 0, 1) := by decide +kernel
theorem dX0_lookUp_1 : decode cX0_lookUp 1 = .ok (.getfield 47, 3) := by decide +kernel
theorem dX0_lookUp_4 : decode cX0_lookUp 4 = .ok (.invokestatic 96, 3) := by decide +kernel
theorem dX0_lookUp_7 : decode cX0_lookUp 7 = .ok (.istore_n 1, 1) := by decide +kernel
theorem dX0_lookUp_8 : decode cX0_lookUp 8 = .ok (.aload_n 0, 1) := by decide +kernel
theorem dX0_lookUp_9 : decode cX0_lookUp 9 = .ok (.iload_n 1, 1) := by decide +kernel
theorem dX0_lookUp_10 : decode cX0_lookUp 10 = .ok (.invokestatic 101, 3) := by decide +kernel
theorem dX0_lookUp_13 : decode cX0_lookUp 13 = .ok (.putfield 74, 3) := by decide +kernel
theorem dX0_lookUp_16 : decode cX0_lookUp 16 = .ok (.aload_n 0, 1) := by decide +kernel
theorem dX0_lookUp_17 : decode cX0_lookUp 17 = .ok (.iload_n 1, 1) := by decide +kernel
theorem dX0_lookUp_18 : decode cX0_lookUp 18 = .ok (.iconst 1, 1) := by decide +kernel
theorem dX0_lookUp_19 : decode cX0_lookUp 19 = .ok (.iadd, 1) := by decide +kernel
theorem dX0_lookUp_20 : decode cX0_lookUp 20 = .ok (.invokestatic 101, 3) := by decide +kernel
theorem dX0_lookUp_23 : decode cX0_lookUp 23 = .ok (.aload_n 0, 1) := by decide +kernel
theorem dX0_lookUp_24 : decode cX0_lookUp 24 = .ok (.getfield 74, 3) := by decide +kernel
theorem dX0_lookUp_27 : decode cX0_lookUp 27 = .ok (.isub, 1) := by decide +kernel
theorem dX0_lookUp_28 : decode cX0_lookUp 28 = .ok (.putfield 44, 3) := by decide +kernel
theorem dX0_lookUp_31 : decode cX0_lookUp 31 = .ok (.iload_n 1, 1) := by decide +kernel
theorem dX0_lookUp_32 : decode cX0_lookUp 32 = .ok (.aload_n 0, 1) := by decide +kernel
theorem dX0_lookUp_33 : decode cX0_lookUp 33 = .ok (.getfield 31, 3) := by decide +kernel
theorem dX0_lookUp_36 : decode cX0_lookUp 36 = .ok (.iadd, 1) := by decide +kernel
theorem dX0_lookUp_37 : decode cX0_lookUp 37 = .ok (.istore_n 2, 1) := by decide +kernel
theorem dX0_lookUp_38 : decode cX0_lookUp 38 = .ok (.iload_n 2, 1) := by decide +kernel
theorem dX0_lookUp_39 : decode cX0_lookUp 39 = .ok (.bipush 12, 2) := by decide +kernel
theorem dX0_lookUp_41 : decode cX0_lookUp 41 = .ok (.if_icmp .lt 9, 3) := by decide +kernel
theorem dX0_lookUp_44 : decode cX0_lookUp 44 = .ok (.iload_n 2, 1) := by decide +kernel
theorem dX0_lookUp_45 : decode cX0_lookUp 45 = .ok (.ldc 104, 2) := by decide +kernel
theorem dX0_lookUp_47 : decode cX0_lookUp 47 = .ok (.if_icmp .le 9, 3) := by decide +kernel
theorem dX0_lookUp_50 : decode cX0_lookUp 50 = .ok (.aload_n 0, 1) := by decide +kernel
theorem dX0_lookUp_51 : decode cX0_lookUp 51 = .ok (.iconst 0, 1) := by decide +kernel
theorem dX0_lookUp_52 : decode cX0_lookUp 52 = .ok (.putfield 80, 3) := by decide +kernel
theorem dX0_lookUp_55 : decode cX0_lookUp 55 = .ok (.return_, 1) := by decide +kernel
theorem dX0_lookUp_56 : decode cX0_lookUp 56 = .ok (.aload_n 0, 1) := by decide +kernel
theorem dX0_lookUp_57 : decode cX0_lookUp 57 = .ok (.iload_n 2, 1) := by decide +kernel
theorem dX0_lookUp_58 : decode cX0_lookUp 58 = .ok (.invokestatic 101, 3) := by decide +kernel
theorem dX0_lookUp_61 : decode cX0_lookUp 61 = .ok (.putfield 89, 3) := by decide +kernel
theorem dX0_lookUp_64 : decode cX0_lookUp 64 = .ok (.aload_n 0, 1) := by decide +kernel
theorem dX0_lookUp_65 : decode cX0_lookUp 65 = .ok (.iload_n 2, 1) := by decide +kernel
theorem dX0_lookUp_66 : decode cX0_lookUp 66 = .ok (.iconst 1, 1) := by decide +kernel
theorem dX0_lookUp_67 : decode cX0_lookUp 67 = .ok (.iadd, 1) := by decide +kernel
theorem dX0_lookUp_68 : decode cX0_lookUp 68 = .ok (.invokestatic 101, 3) := by decide +kernel
theorem dX0_lookUp_71 : decode cX0_lookUp 71 = .ok (.aload_n 0, 1) := by decide +kernel
theorem dX0_lookUp_72 : decode cX0_lookUp 72 = .ok (.getfield 89, 3) := by decide +kernel
theorem dX0_lookUp_75 : decode cX0_lookUp 75 = .ok (.isub, 1) := by decide +kernel
theorem dX0_lookUp_76 : decode cX0_lookUp 76 = .ok (.putfield 80, 3) := by decide +kernel
theorem dX0_lookUp_79 : decode cX0_lookUp 79 = .ok (.return_, 1) := by decide +kernel
theorem dX0_movesDays_0 : decode cX0_movesDays 0 = .ok (.aload_n 0, 1) := by decide +kernel
theorem dX0_movesDays_1 : decode cX0_movesDays 1 = .ok (.dup, 1) := by decide +kernel
theorem dX0_movesDays_2 : decode cX0_movesDays 2 = .ok (.getfield 47, 3) := by decide +kernel
theorem dX0_movesDays_5 : decode cX0_movesDays 5 = .ok (.aload_n 0, 1) := by decide +kernel
theorem dX0_movesDays_6 : decode cX0_movesDays 6 = .ok (.getfield 35, 3) := by decide +kernel
theorem dX0_movesDays_9 : decode cX0_movesDays 9 = .ok (.iadd, 1) := by decide +kernel
theorem dX0_movesDays_10 : decode cX0_movesDays 10 = .ok (.putfield 47, 3) := by decide +kernel
theorem dX0_movesDays_13 : decode cX0_movesDays 13 = .ok (.aload_n 0, 1) := by decide +kernel
theorem dX0_movesDays_14 : decode cX0_movesDays 14 = .ok (.getfield 47, 3) := by decide +kernel
theorem dX0_movesDays_17 : decode cX0_movesDays 17 = .ok (.invokestatic 92, 3) := by decide +kernel
theorem dX0_movesDays_20 : decode cX0_movesDays 20 = .ok (.ireturn, 1) := by decide +kernel
theorem dX0_movesSeconds_0 : decode cX0_movesSeconds 0 = .ok (.aload_n 0, 1) := by decide +kernel
theorem dX0_movesSeconds_1 : decode cX0_movesSeconds 1 = .ok (.getfield 38, 3) := by decide +kernel
theorem dX0_movesSeconds_4 : decode cX0_movesSeconds 4 = .ok (.ifCond .ne 5, 3) := by decide +kernel
theorem dX0_movesSeconds_7 : decode cX0_movesSeconds 7 = .ok (.iconst 1, 1) := by decide +kernel
theorem dX0_movesSeconds_8 : decode cX0_movesSeconds 8 = .ok (.ireturn, 1) := by decide +kernel
theorem dX0_movesSeconds_9 : decode cX0_movesSeconds 9 = .ok (.aload_n 0, 1) := by decide +kernel
theorem dX0_movesSeconds_10 : decode cX0_movesSeconds 10 = .ok (.invokevirtual 105, 3) := by decide +kernel
theorem dX0_movesSeconds_13 : decode cX0_movesSeconds 13 = .ok (.aload_n 0, 1) := by decide +kernel
theorem dX0_movesSeconds_14 : decode cX0_movesSeconds 14 = .ok (.getfield 38, 3) := by decide +kernel
theorem dX0_movesSeconds_17 : decode cX0_movesSeconds 17 = .ok (.i2l, 1) := by decide +kernel
theorem dX0_movesSeconds_18 : decode cX0_movesSeconds 18 = .ok (.ladd, 1) := by decide +kernel
theorem dX0_movesSeconds_19 : decode cX0_movesSeconds 19 = .ok (.lstore_n 1, 1) := by decide +kernel
theorem dX0_movesSeconds_20 : decode cX0_movesSeconds 20 = .ok (.lload_n 1, 1) := by decide +kernel
theorem dX0_movesSeconds_21 : decode cX0_movesSeconds 21 = .ok (.lconst 0, 1) := by decide +kernel
theorem dX0_movesSeconds_22 : decode cX0_movesSeconds 22 = .ok (.lcmp, 1) := by decide +kernel
theorem dX0_movesSeconds_23 : decode cX0_movesSeconds 23 = .ok (.ifCond .lt 15, 3) := by decide +kernel
theorem dX0_movesSeconds_26 : decode cX0_movesSeconds 26 = .ok (.lload_n 1, 1) := by decide +kernel
theorem dX0_movesSeconds_27 : decode cX0_movesSeconds 27 = .ok (.ldc 109, 2) := by decide +kernel
theorem dX0_movesSeconds_29 : decode cX0_movesSeconds 29 = .ok (.ldc 110, 2) := by decide +kernel
theorem dX0_movesSeconds_31 : decode cX0_movesSeconds 31 = .ok (.invokestatic 70, 3) := by decide +kernel
theorem dX0_movesSeconds_34 : decode cX0_movesSeconds 34 = .ok (.lcmp, 1) := by decide +kernel
theorem dX0_movesSeconds_35 : decode cX0_movesSeconds 35 = .ok (.ifCond .le 5, 3) := by decide +kernel
theorem dX0_movesSeconds_38 : decode cX0_movesSeconds 38 = .ok (.iconst 0, 1) := by decide +kernel
theorem dX0_movesSeconds_39 : decode cX0_movesSeconds 39 = .ok (.ireturn, 1) := by decide +kernel
theorem dX0_movesSeconds_40 : decode cX0_movesSeconds 40 = .ok (.aload_n 0, 1) := by decide +kernel
theorem dX0_movesSeconds_41 : decode cX0_movesSeconds 41 = .ok (.lload_n 1, 1) := by decide +kernel
theorem dX0_movesSeconds_42 : decode cX0_movesSeconds 42 = .ok (.ldc2_w 111, 3) := by decide +kernel
theorem dX0_movesSeconds_45 : decode cX0_movesSeconds 45 = .ok (.ldiv, 1) := by decide +kernel
theorem dX0_movesSeconds_46 : decode cX0_movesSeconds 46 = .ok (.l2i, 1) := by decide +kernel
theorem dX0_movesSeconds_47 : decode cX0_movesSeconds 47 = .ok (.putfield 47, 3) := by decide +kernel
theorem dX0_movesSeconds_50 : decode cX0_movesSeconds 50 = .ok (.aload_n 0, 1) := by decide +kernel
theorem dX0_movesSeconds_51 : decode cX0_movesSeconds 51 = .ok (.lload_n 1, 1) := by decide +kernel
theorem dX0_movesSeconds_52 : decode cX0_movesSeconds 52 = .ok (.ldc2_w 111, 3) := by decide +kernel
theorem dX0_movesSeconds_55 : decode cX0_movesSeconds 55 = .ok (.lrem, 1) := by decide +kernel
theorem dX0_movesSeconds_56 : decode cX0_movesSeconds 56 = .ok (.l2i, 1) := by decide +kernel
theorem dX0_movesSeconds_57 : decode cX0_movesSeconds 57 = .ok (.putfield 50, 3) := by decide +kernel
theorem dX0_movesSeconds_60 : decode cX0_movesSeconds 60 = .ok (.iconst 1, 1) := by decide +kernel
theorem dX0_movesSeconds_61 : decode cX0_movesSeconds 61 = .ok (.ireturn, 1) := by decide +kernel
theorem dX1_isYear_0 : decode cX1_isYear 0 = .ok (.iload_n 0, 1) := by decide +kernel
theorem dX1_isYear_1 : decode cX1_isYear 1 = .ok (.iconst 1, 1) := by decide +kernel
theorem dX1_isYear_2 : decode cX1_isYear 2 = .ok (.if_icmp .lt 14, 3) := by decide +kernel
theorem dX1_isYear_5 : decode cX1_isYear 5 = .ok (.iload_n 0, 1) := by decide +kernel
theorem dX1_isYear_6 : decode cX1_isYear 6 = .ok (.sipush 9999, 3) := by decide +kernel
theorem dX1_isYear_9 : decode cX1_isYear 9 = .ok (.if_icmp .gt 7, 3) := by decide +kernel
theorem dX1_isYear_12 : decode cX1_isYear 12 = .ok (.iconst 1, 1) := by decide +kernel
theorem dX1_isYear_13 : decode cX1_isYear 13 = .ok (.goto 4, 3) := by decide +kernel
theorem dX1_isYear_16 : decode cX1_isYear 16 = .ok (.iconst 0, 1) := by decide +kernel
theorem dX1_isYear_17 : decode cX1_isYear 17 = .ok (.ireturn, 1) := by decide +kernel
theorem dX1_isMonth_0 : decode cX1_isMonth 0 = .ok (.iload_n 0, 1) := by decide +kernel
theorem dX1_isMonth_1 : decode cX1_isMonth 1 = .ok (.iconst 1, 1) := by decide +kernel
theorem dX1_isMonth_2 : decode cX1_isMonth 2 = .ok (.if_icmp .lt 13, 3) := by decide +kernel
theorem dX1_isMonth_5 : decode cX1_isMonth 5 = .ok (.iload_n 0, 1) := by decide +kernel
theorem dX1_isMonth_6 : decode cX1_isMonth 6 = .ok (.bipush 12, 2) := by decide +kernel
theorem dX1_isMonth_8 : decode cX1_isMonth 8 = .ok (.if_icmp .gt 7, 3) := by decide +kernel
theorem dX1_isMonth_11 : decode cX1_isMonth 11 = .ok (.iconst 1, 1) := by decide +kernel
theorem dX1_isMonth_12 : decode cX1_isMonth 12 = .ok (.goto 4, 3) := by decide +kernel
theorem dX1_isMonth_15 : decode cX1_isMonth 15 = .ok (.iconst 0, 1) := by decide +kernel
theorem dX1_isMonth_16 : decode cX1_isMonth 16 = .ok (.ireturn, 1) := by decide +kernel
theorem dX1_isLeap_0 : decode cX1_isLeap 0 = .ok (.iload_n 0, 1) := by decide +kernel
theorem dX1_isLeap_1 : decode cX1_isLeap 1 = .ok (.iconst 4, 1) := by decide +kernel
theorem dX1_isLeap_2 : decode cX1_isLeap 2 = .ok (.irem, 1) := by decide +kernel
theorem dX1_isLeap_3 : decode cX1_isLeap 3 = .ok (.ifCond .ne 22, 3) := by decide +kernel
theorem dX1_isLeap_6 : decode cX1_isLeap 6 = .ok (.iload_n 0, 1) := by decide +kernel
theorem dX1_isLeap_7 : decode cX1_isLeap 7 = .ok (.bipush 100, 2) := by decide +kernel
theorem dX1_isLeap_9 : decode cX1_isLeap 9 = .ok (.irem, 1) := by decide +kernel
theorem dX1_isLeap_10 : decode cX1_isLeap 10 = .ok (.ifCond .ne 11, 3) := by decide +kernel
theorem dX1_isLeap_13 : decode cX1_isLeap 13 = .ok (.iload_n 0, 1) := by decide +kernel
theorem dX1_isLeap_14 : decode cX1_isLeap 14 = .ok (.sipush 400, 3) := by decide +kernel
theorem dX1_isLeap_17 : decode cX1_isLeap 17 = .ok (.irem, 1) := by decide +kernel
theorem dX1_isLeap_18 : decode cX1_isLeap 18 = .ok (.ifCond .ne 7, 3) := by decide +kernel
theorem dX1_isLeap_21 : decode cX1_isLeap 21 = .ok (.iconst 1, 1) := by decide +kernel
theorem dX1_isLeap_22 : decode cX1_isLeap 22 = .ok (.goto 4, 3) := by decide +kernel
theorem dX1_isLeap_25 : decode cX1_isLeap 25 = .ok (.iconst 0, 1) := by decide +kernel
theorem dX1_isLeap_26 : decode cX1_isLeap 26 = .ok (.ireturn, 1) := by decide +kernel
theorem dX1_monthLength_0 : decode cX1_monthLength 0 = .ok (.iload_n 1, 1) := by decide +kernel
theorem dX1_monthLength_1 : decode cX1_monthLength 1 = .ok (.iconst 2, 1) := by decide +kernel
theorem dX1_monthLength_2 : decode cX1_monthLength 2 = .ok (.if_icmp .ne 18, 3) := by decide +kernel
theorem dX1_monthLength_5 : decode cX1_monthLength 5 = .ok (.iload_n 0, 1) := by decide +kernel
theorem dX1_monthLength_6 : decode cX1_monthLength 6 = .ok (.invokestatic 9, 3) := by decide +kernel
theorem dX1_monthLength_9 : decode cX1_monthLength 9 = .ok (.ifCond .eq 8, 3) := by decide +kernel
theorem dX1_monthLength_12 : decode cX1_monthLength 12 = .ok (.bipush 29, 2) := by decide +kernel
theorem dX1_monthLength_14 : decode cX1_monthLength 14 = .ok (.goto 5, 3) := by decide +kernel
theorem dX1_monthLength_17 : decode cX1_monthLength 17 = .ok (.bipush 28, 2) := by decide +kernel
theorem dX1_monthLength_19 : decode cX1_monthLength 19 = .ok (.ireturn, 1) := by decide +kernel
theorem dX1_monthLength_20 : decode cX1_monthLength 20 = .ok (.iload_n 1, 1) := by decide +kernel
theorem dX1_monthLength_21 : decode cX1_monthLength 21 = .ok (.iconst 4, 1) := by decide +kernel
theorem dX1_monthLength_22 : decode cX1_monthLength 22 = .ok (.if_icmp .eq 21, 3) := by decide +kernel
theorem dX1_monthLength_25 : decode cX1_monthLength 25 = .ok (.iload_n 1, 1) := by decide +kernel
theorem dX1_monthLength_26 : decode cX1_monthLength 26 = .ok (.bipush 6, 2) := by decide +kernel
theorem dX1_monthLength_28 : decode cX1_monthLength 28 = .ok (.if_icmp .eq 15, 3) := by decide +kernel
theorem dX1_monthLength_31 : decode cX1_monthLength 31 = .ok (.iload_n 1, 1) := by decide +kernel
theorem dX1_monthLength_32 : decode cX1_monthLength 32 = .ok (.bipush 9, 2) := by decide +kernel
theorem dX1_monthLength_34 : decode cX1_monthLength 34 = .ok (.if_icmp .eq 9, 3) := by decide +kernel
theorem dX1_monthLength_37 : decode cX1_monthLength 37 = .ok (.iload_n 1, 1) := by decide +kernel
theorem dX1_monthLength_38 : decode cX1_monthLength 38 = .ok (.bipush 11, 2) := by decide +kernel
theorem dX1_monthLength_40 : decode cX1_monthLength 40 = .ok (.if_icmp .ne 8, 3) := by decide +kernel
theorem dX1_monthLength_43 : decode cX1_monthLength 43 = .ok (.bipush 30, 2) := by decide +kernel
theorem dX1_monthLength_45 : decode cX1_monthLength 45 = .ok (.goto 5, 3) := by decide +kernel
theorem dX1_monthLength_48 : decode cX1_monthLength 48 = .ok (.bipush 31, 2) := by decide +kernel
theorem dX1_monthLength_50 : decode cX1_monthLength 50 = .ok (.ireturn, 1) := by decide +kernel
theorem dX1_weekdayOf_0 : decode cX1_weekdayOf 0 = .ok (.iload_n 0, 1) := by decide +kernel
theorem dX1_weekdayOf_1 : decode cX1_weekdayOf 1 = .ok (.bipush 7, 2) := by decide +kernel
theorem dX1_weekdayOf_3 : decode cX1_weekdayOf 3 = .ok (.irem, 1) := by decide +kernel
theorem dX1_weekdayOf_4 : decode cX1_weekdayOf 4 = .ok (.ireturn, 1) := by decide +kernel
theorem dX1_dayOf_0 : decode cX1_dayOf 0 = .ok (.iload_n 1, 1) := by decide +kernel
theorem dX1_dayOf_1 : decode cX1_dayOf 1 = .ok (.iconst 2, 1) := by decide +kernel
theorem dX1_dayOf_2 : decode cX1_dayOf 2 = .ok (.if_icmp .le 7, 3) := by decide +kernel
theorem dX1_dayOf_5 : decode cX1_dayOf 5 = .ok (.iload_n 0, 1) := by decide +kernel
theorem dX1_dayOf_6 : decode cX1_dayOf 6 = .ok (.goto 6, 3) := by decide +kernel
theorem dX1_dayOf_9 : decode cX1_dayOf 9 = .ok (.iload_n 0, 1) := by decide +kernel
theorem dX1_dayOf_10 : decode cX1_dayOf 10 = .ok (.iconst 1, 1) := by decide +kernel
theorem dX1_dayOf_11 : decode cX1_dayOf 11 = .ok (.isub, 1) := by decide +kernel
theorem dX1_dayOf_12 : decode cX1_dayOf 12 = .ok (.istore_n 3, 1) := by decide +kernel
theorem dX1_dayOf_13 : decode cX1_dayOf 13 = .ok (.iload_n 1, 1) := by decide +kernel
theorem dX1_dayOf_14 : decode cX1_dayOf 14 = .ok (.iconst 2, 1) := by decide +kernel
theorem dX1_dayOf_15 : decode cX1_dayOf 15 = .ok (.if_icmp .le 9, 3) := by decide +kernel
theorem dX1_dayOf_18 : decode cX1_dayOf 18 = .ok (.iload_n 1, 1) := by decide +kernel
theorem dX1_dayOf_19 : decode cX1_dayOf 19 = .ok (.iconst 3, 1) := by decide +kernel
theorem dX1_dayOf_20 : decode cX1_dayOf 20 = .ok (.isub, 1) := by decide +kernel
theorem dX1_dayOf_21 : decode cX1_dayOf 21 = .ok (.goto 7, 3) := by decide +kernel
theorem dX1_dayOf_24 : decode cX1_dayOf 24 = .ok (.iload_n 1, 1) := by decide +kernel
theorem dX1_dayOf_25 : decode cX1_dayOf 25 = .ok (.bipush 9, 2) := by decide +kernel
theorem dX1_dayOf_27 : decode cX1_dayOf 27 = .ok (.iadd, 1) := by decide +kernel
theorem dX1_dayOf_28 : decode cX1_dayOf 28 = .ok (.istore 4, 2) := by decide +kernel
theorem dX1_dayOf_30 : decode cX1_dayOf 30 = .ok (.sipush 365, 3) := by decide +kernel
theorem dX1_dayOf_33 : decode cX1_dayOf 33 = .ok (.iload_n 3, 1) := by decide +kernel
theorem dX1_dayOf_34 : decode cX1_dayOf 34 = .ok (.imul, 1) := by decide +kernel
theorem dX1_dayOf_35 : decode cX1_dayOf 35 = .ok (.iload_n 3, 1) := by decide +kernel
theorem dX1_dayOf_36 : decode cX1_dayOf 36 = .ok (.iconst 4, 1) := by decide +kernel
theorem dX1_dayOf_37 : decode cX1_dayOf 37 = .ok (.idiv, 1) := by decide +kernel
theorem dX1_dayOf_38 : decode cX1_dayOf 38 = .ok (.iadd, 1) := by decide +kernel
theorem dX1_dayOf_39 : decode cX1_dayOf 39 = .ok (.iload_n 3, 1) := by decide +kernel
theorem dX1_dayOf_40 : decode cX1_dayOf 40 = .ok (.bipush 100, 2) := by decide +kernel
theorem dX1_dayOf_42 : decode cX1_dayOf 42 = .ok (.idiv, 1) := by decide +kernel
theorem dX1_dayOf_43 : decode cX1_dayOf 43 = .ok (.isub, 1) := by decide +kernel
theorem dX1_dayOf_44 : decode cX1_dayOf 44 = .ok (.iload_n 3, 1) := by decide +kernel
theorem dX1_dayOf_45 : decode cX1_dayOf 45 = .ok (.sipush 400, 3) := by decide +kernel
theorem dX1_dayOf_48 : decode cX1_dayOf 48 = .ok (.idiv, 1) := by decide +kernel
theorem dX1_dayOf_49 : decode cX1_dayOf 49 = .ok (.iadd, 1) := by decide +kernel
theorem dX1_dayOf_50 : decode cX1_dayOf 50 = .ok (.istore 5, 2) := by decide +kernel
theorem dX1_dayOf_52 : decode cX1_dayOf 52 = .ok (.iload 5, 2) := by decide +kernel
theorem dX1_dayOf_54 : decode cX1_dayOf 54 = .ok (.sipush 153, 3) := by decide +kernel
theorem dX1_dayOf_57 : decode cX1_dayOf 57 = .ok (.iload 4, 2) := by decide +kernel
theorem dX1_dayOf_59 : decode cX1_dayOf 59 = .ok (.imul, 1) := by decide +kernel
theorem dX1_dayOf_60 : decode cX1_dayOf 60 = .ok (.iconst 2, 1) := by decide +kernel
theorem dX1_dayOf_61 : decode cX1_dayOf 61 = .ok (.iadd, 1) := by decide +kernel
theorem dX1_dayOf_62 : decode cX1_dayOf 62 = .ok (.iconst 5, 1) := by decide +kernel
theorem dX1_dayOf_63 : decode cX1_dayOf 63 = .ok (.idiv, 1) := by decide +kernel
theorem dX1_dayOf_64 : decode cX1_dayOf 64 = .ok (.iadd, 1) := by decide +kernel
theorem dX1_dayOf_65 : decode cX1_dayOf 65 = .ok (.iload_n 2, 1) := by decide +kernel
theorem dX1_dayOf_66 : decode cX1_dayOf 66 = .ok (.iadd, 1) := by decide +kernel
theorem dX1_dayOf_67 : decode cX1_dayOf 67 = .ok (.iconst 1, 1) := by decide +kernel
theorem dX1_dayOf_68 : decode cX1_dayOf 68 = .ok (.isub, 1) := by decide +kernel
theorem dX1_dayOf_69 : decode cX1_dayOf 69 = .ok (.sipush 306, 3) := by decide +kernel
theorem dX1_dayOf_72 : decode cX1_dayOf 72 = .ok (.isub, 1) := by decide +kernel
theorem dX1_dayOf_73 : decode cX1_dayOf 73 = .ok (.ireturn, 1) := by decide +kernel
theorem dX1_dateOf_0 : decode cX1_dateOf 0 = .ok (.iload_n 0, 1) := by decide +kernel
theorem dX1_dateOf_1 : decode cX1_dateOf 1 = .ok (.sipush 306, 3) := by decide +kernel
theorem dX1_dateOf_4 : decode cX1_dateOf 4 = .ok (.iadd, 1) := by decide +kernel
theorem dX1_dateOf_5 : decode cX1_dateOf 5 = .ok (.istore_n 1, 1) := by decide +kernel
theorem dX1_dateOf_6 : decode cX1_dateOf 6 = .ok (.iload_n 1, 1) := by decide +kernel
theorem dX1_dateOf_7 : decode cX1_dateOf 7 = .ok (.ldc 15, 2) := by decide +kernel
theorem dX1_dateOf_9 : decode cX1_dateOf 9 = .ok (.idiv, 1) := by decide +kernel
theorem dX1_dateOf_10 : decode cX1_dateOf 10 = .ok (.istore_n 2, 1) := by decide +kernel
theorem dX1_dateOf_11 : decode cX1_dateOf 11 = .ok (.iload_n 1, 1) := by decide +kernel
theorem dX1_dateOf_12 : decode cX1_dateOf 12 = .ok (.ldc 15, 2) := by decide +kernel
theorem dX1_dateOf_14 : decode cX1_dateOf 14 = .ok (.irem, 1) := by decide +kernel
theorem dX1_dateOf_15 : decode cX1_dateOf 15 = .ok (.istore_n 3, 1) := by decide +kernel
theorem dX1_dateOf_16 : decode cX1_dateOf 16 = .ok (.iload_n 3, 1) := by decide +kernel
theorem dX1_dateOf_17 : decode cX1_dateOf 17 = .ok (.iload_n 3, 1) := by decide +kernel
theorem dX1_dateOf_18 : decode cX1_dateOf 18 = .ok (.sipush 1460, 3) := by decide +kernel
theorem dX1_dateOf_21 : decode cX1_dateOf 21 = .ok (.idiv, 1) := by decide +kernel
theorem dX1_dateOf_22 : decode cX1_dateOf 22 = .ok (.isub, 1) := by decide +kernel
theorem dX1_dateOf_23 : decode cX1_dateOf 23 = .ok (.iload_n 3, 1) := by decide +kernel
theorem dX1_dateOf_24 : decode cX1_dateOf 24 = .ok (.ldc 16, 2) := by decide +kernel
theorem dX1_dateOf_26 : decode cX1_dateOf 26 = .ok (.idiv, 1) := by decide +kernel
theorem dX1_dateOf_27 : decode cX1_dateOf 27 = .ok (.iadd, 1) := by decide +kernel
theorem dX1_dateOf_28 : decode cX1_dateOf 28 = .ok (.iload_n 3, 1) := by decide +kernel
theorem dX1_dateOf_29 : decode cX1_dateOf 29 = .ok (.ldc 17, 2) := by decide +kernel
theorem dX1_dateOf_31 : decode cX1_dateOf 31 = .ok (.idiv, 1) := by decide +kernel
theorem dX1_dateOf_32 : decode cX1_dateOf 32 = .ok (.isub, 1) := by decide +kernel
theorem dX1_dateOf_33 : decode cX1_dateOf 33 = .ok (.sipush 365, 3) := by decide +kernel
theorem dX1_dateOf_36 : decode cX1_dateOf 36 = .ok (.idiv, 1) := by decide +kernel
theorem dX1_dateOf_37 : decode cX1_dateOf 37 = .ok (.istore 4, 2) := by decide +kernel
theorem dX1_dateOf_39 : decode cX1_dateOf 39 = .ok (.iload_n 3, 1) := by decide +kernel
theorem dX1_dateOf_40 : decode cX1_dateOf 40 = .ok (.sipush 365, 3) := by decide +kernel
theorem dX1_dateOf_43 : decode cX1_dateOf 43 = .ok (.iload 4, 2) := by decide +kernel
theorem dX1_dateOf_45 : decode cX1_dateOf 45 = .ok (.imul, 1) := by decide +kernel
theorem dX1_dateOf_46 : decode cX1_dateOf 46 = .ok (.iload 4, 2) := by decide +kernel
theorem dX1_dateOf_48 : decode cX1_dateOf 48 = .ok (.iconst 4, 1) := by decide +kernel
theorem dX1_dateOf_49 : decode cX1_dateOf 49 = .ok (.idiv, 1) := by decide +kernel
theorem dX1_dateOf_50 : decode cX1_dateOf 50 = .ok (.iadd, 1) := by decide +kernel
theorem dX1_dateOf_51 : decode cX1_dateOf 51 = .ok (.iload 4, 2) := by decide +kernel
theorem dX1_dateOf_53 : decode cX1_dateOf 53 = .ok (.bipush 100, 2) := by decide +kernel
theorem dX1_dateOf_55 : decode cX1_dateOf 55 = .ok (.idiv, 1) := by decide +kernel
theorem dX1_dateOf_56 : decode cX1_dateOf 56 = .ok (.isub, 1) := by decide +kernel
theorem dX1_dateOf_57 : decode cX1_dateOf 57 = .ok (.isub, 1) := by decide +kernel
theorem dX1_dateOf_58 : decode cX1_dateOf 58 = .ok (.istore 5, 2) := by decide +kernel
theorem dX1_dateOf_60 : decode cX1_dateOf 60 = .ok (.iconst 5, 1) := by decide +kernel
theorem dX1_dateOf_61 : decode cX1_dateOf 61 = .ok (.iload 5, 2) := by decide +kernel
theorem dX1_dateOf_63 : decode cX1_dateOf 63 = .ok (.imul, 1) := by decide +kernel
theorem dX1_dateOf_64 : decode cX1_dateOf 64 = .ok (.iconst 2, 1) := by decide +kernel
theorem dX1_dateOf_65 : decode cX1_dateOf 65 = .ok (.iadd, 1) := by decide +kernel
theorem dX1_dateOf_66 : decode cX1_dateOf 66 = .ok (.sipush 153, 3) := by decide +kernel
theorem dX1_dateOf_69 : decode cX1_dateOf 69 = .ok (.idiv, 1) := by decide +kernel
theorem dX1_dateOf_70 : decode cX1_dateOf 70 = .ok (.istore 6, 2) := by decide +kernel
theorem dX1_dateOf_72 : decode cX1_dateOf 72 = .ok (.iload 5, 2) := by decide +kernel
theorem dX1_dateOf_74 : decode cX1_dateOf 74 = .ok (.sipush 153, 3) := by decide +kernel
theorem dX1_dateOf_77 : decode cX1_dateOf 77 = .ok (.iload 6, 2) := by decide +kernel
theorem dX1_dateOf_79 : decode cX1_dateOf 79 = .ok (.imul, 1) := by decide +kernel
theorem dX1_dateOf_80 : decode cX1_dateOf 80 = .ok (.iconst 2, 1) := by decide +kernel
theorem dX1_dateOf_81 : decode cX1_dateOf 81 = .ok (.iadd, 1) := by decide +kernel
theorem dX1_dateOf_82 : decode cX1_dateOf 82 = .ok (.iconst 5, 1) := by decide +kernel
theorem dX1_dateOf_83 : decode cX1_dateOf 83 = .ok (.idiv, 1) := by decide +kernel
theorem dX1_dateOf_84 : decode cX1_dateOf 84 = .ok (.isub, 1) := by decide +kernel
theorem dX1_dateOf_85 : decode cX1_dateOf 85 = .ok (.iconst 1, 1) := by decide +kernel
theorem dX1_dateOf_86 : decode cX1_dateOf 86 = .ok (.iadd, 1) := by decide +kernel
theorem dX1_dateOf_87 : decode cX1_dateOf 87 = .ok (.istore 7, 2) := by decide +kernel
theorem dX1_dateOf_89 : decode cX1_dateOf 89 = .ok (.iload 6, 2) := by decide +kernel
theorem dX1_dateOf_91 : decode cX1_dateOf 91 = .ok (.bipush 10, 2) := by decide +kernel
theorem dX1_dateOf_93 : decode cX1_dateOf 93 = .ok (.if_icmp .ge 10, 3) := by decide +kernel
theorem dX1_dateOf_96 : decode cX1_dateOf 96 = .ok (.iload 6, 2) := by decide +kernel
theorem dX1_dateOf_98 : decode cX1_dateOf 98 = .ok (.iconst 3, 1) := by decide +kernel
theorem dX1_dateOf_99 : decode cX1_dateOf 99 = .ok (.iadd, 1) := by decide +kernel
theorem dX1_dateOf_100 : decode cX1_dateOf 100 = .ok (.goto 8, 3) := by decide +kernel
theorem dX1_dateOf_103 : decode cX1_dateOf 103 = .ok (.iload 6, 2) := by decide +kernel
theorem dX1_dateOf_105 : decode cX1_dateOf 105 = .ok (.bipush 9, 2) := by decide +kernel
theorem dX1_dateOf_107 : decode cX1_dateOf 107 = .ok (.isub, 1) := by decide +kernel
theorem dX1_dateOf_108 : decode cX1_dateOf 108 = .ok (.istore 8, 2) := by decide +kernel
theorem dX1_dateOf_110 : decode cX1_dateOf 110 = .ok (.iload_n 2, 1) := by decide +kernel
theorem dX1_dateOf_111 : decode cX1_dateOf 111 = .ok (.sipush 400, 3) := by decide +kernel
theorem dX1_dateOf_114 : decode cX1_dateOf 114 = .ok (.imul, 1) := by decide +kernel
theorem dX1_dateOf_115 : decode cX1_dateOf 115 = .ok (.iload 4, 2) := by decide +kernel
theorem dX1_dateOf_117 : decode cX1_dateOf 117 = .ok (.iadd, 1) := by decide +kernel
theorem dX1_dateOf_118 : decode cX1_dateOf 118 = .ok (.iload 8, 2) := by decide +kernel
theorem dX1_dateOf_120 : decode cX1_dateOf 120 = .ok (.iconst 2, 1) := by decide +kernel
theorem dX1_dateOf_121 : decode cX1_dateOf 121 = .ok (.if_icmp .le 7, 3) := by decide +kernel
theorem dX1_dateOf_124 : decode cX1_dateOf 124 = .ok (.iconst 0, 1) := by decide +kernel
theorem dX1_dateOf_125 : decode cX1_dateOf 125 = .ok (.goto 4, 3) := by decide +kernel
theorem dX1_dateOf_128 : decode cX1_dateOf 128 = .ok (.iconst 1, 1) := by decide +kernel
theorem dX1_dateOf_129 : decode cX1_dateOf 129 = .ok (.iadd, 1) := by decide +kernel
theorem dX1_dateOf_130 : decode cX1_dateOf 130 = .ok (.istore 9, 2) := by decide +kernel
theorem dX1_dateOf_132 : decode cX1_dateOf 132 = .ok (.iload 9, 2) := by decide +kernel
theorem dX1_dateOf_134 : decode cX1_dateOf 134 = .ok (.sipush 10000, 3) := by decide +kernel
theorem dX1_dateOf_137 : decode cX1_dateOf 137 = .ok (.imul, 1) := by decide +kernel
theorem dX1_dateOf_138 : decode cX1_dateOf 138 = .ok (.iload 8, 2) := by decide +kernel
theorem dX1_dateOf_140 : decode cX1_dateOf 140 = .ok (.bipush 100, 2) := by decide +kernel
theorem dX1_dateOf_142 : decode cX1_dateOf 142 = .ok (.imul, 1) := by decide +kernel
theorem dX1_dateOf_143 : decode cX1_dateOf 143 = .ok (.iadd, 1) := by decide +kernel
theorem dX1_dateOf_144 : decode cX1_dateOf 144 = .ok (.iload 7, 2) := by decide +kernel
theorem dX1_dateOf_146 : decode cX1_dateOf 146 = .ok (.iadd, 1) := by decide +kernel
theorem dX1_dateOf_147 : decode cX1_dateOf 147 = .ok (.ireturn, 1) := by decide +kernel
theorem dX1_monthOf_0 : decode cX1_monthOf 0 = .ok (.iload_n 0, 1) := by decide +kernel
theorem dX1_monthOf_1 : decode cX1_monthOf 1 = .ok (.invokestatic 18, 3) := by decide +kernel
theorem dX1_monthOf_4 : decode cX1_monthOf 4 = .ok (.istore_n 1, 1) := by decide +kernel
theorem dX1_monthOf_5 : decode cX1_monthOf 5 = .ok (.iload_n 1, 1) := by decide +kernel
theorem dX1_monthOf_6 : decode cX1_monthOf 6 = .ok (.sipush 10000, 3) := by decide +kernel
theorem dX1_monthOf_9 : decode cX1_monthOf 9 = .ok (.idiv, 1) := by decide +kernel
theorem dX1_monthOf_10 : decode cX1_monthOf 10 = .ok (.bipush 12, 2) := by decide +kernel
theorem dX1_monthOf_12 : decode cX1_monthOf 12 = .ok (.imul, 1) := by decide +kernel
theorem dX1_monthOf_13 : decode cX1_monthOf 13 = .ok (.iload_n 1, 1) := by decide +kernel
theorem dX1_monthOf_14 : decode cX1_monthOf 14 = .ok (.bipush 100, 2) := by decide +kernel
theorem dX1_monthOf_16 : decode cX1_monthOf 16 = .ok (.idiv, 1) := by decide +kernel
theorem dX1_monthOf_17 : decode cX1_monthOf 17 = .ok (.bipush 100, 2) := by decide +kernel
theorem dX1_monthOf_19 : decode cX1_monthOf 19 = .ok (.irem, 1) := by decide +kernel
theorem dX1_monthOf_20 : decode cX1_monthOf 20 = .ok (.iadd, 1) := by decide +kernel
theorem dX1_monthOf_21 : decode cX1_monthOf 21 = .ok (.iconst 1, 1) := by decide +kernel
theorem dX1_monthOf_22 : decode cX1_monthOf 22 = .ok (.isub, 1) := by decide +kernel
theorem dX1_monthOf_23 : decode cX1_monthOf 23 = .ok (.ireturn, 1) := by decide +kernel
theorem dX1_firstOf_0 : decode cX1_firstOf 0 = .ok (.iload_n 0, 1) := by decide +kernel
theorem dX1_firstOf_1 : decode cX1_firstOf 1 = .ok (.bipush 12, 2) := by decide +kernel
theorem dX1_firstOf_3 : decode cX1_firstOf 3 = .ok (.idiv, 1) := by decide +kernel
theorem dX1_firstOf_4 : decode cX1_firstOf 4 = .ok (.iload_n 0, 1) := by decide +kernel
theorem dX1_firstOf_5 : decode cX1_firstOf 5 = .ok (.bipush 12, 2) := by decide +kernel
theorem dX1_firstOf_7 : decode cX1_firstOf 7 = .ok (.irem, 1) := by decide +kernel
theorem dX1_firstOf_8 : decode cX1_firstOf 8 = .ok (.iconst 1, 1) := by decide +kernel
theorem dX1_firstOf_9 : decode cX1_firstOf 9 = .ok (.iadd, 1) := by decide +kernel
theorem dX1_firstOf_10 : decode cX1_firstOf 10 = .ok (.iconst 1, 1) := by decide +kernel
theorem dX1_firstOf_11 : decode cX1_firstOf 11 = .ok (.invokestatic 22, 3) := by decide +kernel
theorem dX1_firstOf_14 : decode cX1_firstOf 14 = .ok (.ireturn, 1) := by decide +kernel
theorem dX2_init_0 : decode cX2_init 0 = .ok (.aload_n 0, 1) := by decide +kernel
theorem dX2_init_1 : decode cX2_init 1 = .ok (.invokespecial 3, 3) := by decide +kernel
theorem dX2_init_4 : decode cX2_init 4 = .ok (.return_, 1) := by decide +kernel
theorem dX2_wrongAt_0 : decode cX2_wrongAt 0 = .ok (.aload_n 0, 1) := by decide +kernel
theorem dX2_wrongAt_1 : decode cX2_wrongAt 1 = .ok (.iconst 0, 1) := by decide +kernel
theorem dX2_wrongAt_2 : decode cX2_wrongAt 2 = .ok (.putfield 9, 3) := by decide +kernel
theorem dX2_wrongAt_5 : decode cX2_wrongAt 5 = .ok (.aload_n 0, 1) := by decide +kernel
theorem dX2_wrongAt_6 : decode cX2_wrongAt 6 = .ok (.iconst 0, 1) := by decide +kernel
theorem dX2_wrongAt_7 : decode cX2_wrongAt 7 = .ok (.putfield 15, 3) := by decide +kernel
theorem dX2_wrongAt_10 : decode cX2_wrongAt 10 = .ok (.iconst 0, 1) := by decide +kernel
theorem dX2_wrongAt_11 : decode cX2_wrongAt 11 = .ok (.istore_n 2, 1) := by decide +kernel
theorem dX2_wrongAt_12 : decode cX2_wrongAt 12 = .ok (.iload_n 2, 1) := by decide +kernel
theorem dX2_wrongAt_13 : decode cX2_wrongAt 13 = .ok (.bipush 19, 2) := by decide +kernel
theorem dX2_wrongAt_15 : decode cX2_wrongAt 15 = .ok (.if_icmp .ge 49, 3) := by decide +kernel
theorem dX2_wrongAt_18 : decode cX2_wrongAt 18 = .ok (.iload_n 2, 1) := by decide +kernel
theorem dX2_wrongAt_19 : decode cX2_wrongAt 19 = .ok (.aload_n 1, 1) := by decide +kernel
theorem dX2_wrongAt_20 : decode cX2_wrongAt 20 = .ok (.invokevirtual 18, 3) := by decide +kernel
theorem dX2_wrongAt_23 : decode cX2_wrongAt 23 = .ok (.if_icmp .ne 15, 3) := by decide +kernel
theorem dX2_wrongAt_26 : decode cX2_wrongAt 26 = .ok (.iload_n 2, 1) := by decide +kernel
theorem dX2_wrongAt_27 : decode cX2_wrongAt 27 = .ok (.bipush 10, 2) := by decide +kernel
theorem dX2_wrongAt_29 : decode cX2_wrongAt 29 = .ok (.if_icmp .ne 7, 3) := by decide +kernel
theorem dX2_wrongAt_32 : decode cX2_wrongAt 32 = .ok (.iconst (-1), 1) := by decide +kernel
theorem dX2_wrongAt_33 : decode cX2_wrongAt 33 = .ok (.goto 4, 3) := by decide +kernel
theorem dX2_wrongAt_36 : decode cX2_wrongAt 36 = .ok (.iload_n 2, 1) := by decide +kernel
theorem dX2_wrongAt_37 : decode cX2_wrongAt 37 = .ok (.ireturn, 1) := by decide +kernel
theorem dX2_wrongAt_38 : decode cX2_wrongAt 38 = .ok (.aload_n 0, 1) := by decide +kernel
theorem dX2_wrongAt_39 : decode cX2_wrongAt 39 = .ok (.iload_n 2, 1) := by decide +kernel
theorem dX2_wrongAt_40 : decode cX2_wrongAt 40 = .ok (.aload_n 1, 1) := by decide +kernel
theorem dX2_wrongAt_41 : decode cX2_wrongAt 41 = .ok (.iload_n 2, 1) := by decide +kernel
theorem dX2_wrongAt_42 : decode cX2_wrongAt 42 = .ok (.invokevirtual 24, 3) := by decide +kernel
theorem dX2_wrongAt_45 : decode cX2_wrongAt 45 = .ok (.invokevirtual 28, 3) := by decide +kernel
theorem dX2_wrongAt_48 : decode cX2_wrongAt 48 = .ok (.ifCond .ne 5, 3) := by decide +kernel
theorem dX2_wrongAt_51 : decode cX2_wrongAt 51 = .ok (.iload_n 2, 1) := by decide +kernel
theorem dX2_wrongAt_52 : decode cX2_wrongAt 52 = .ok (.ireturn, 1) := by decide +kernel
theorem dX2_wrongAt_53 : decode cX2_wrongAt 53 = .ok (.aload_n 0, 1) := by decide +kernel
theorem dX2_wrongAt_54 : decode cX2_wrongAt 54 = .ok (.iload_n 2, 1) := by decide +kernel
theorem dX2_wrongAt_55 : decode cX2_wrongAt 55 = .ok (.invokevirtual 32, 3) := by decide +kernel
theorem dX2_wrongAt_58 : decode cX2_wrongAt 58 = .ok (.iinc 2 1, 3) := by decide +kernel
theorem dX2_wrongAt_61 : decode cX2_wrongAt 61 = .ok (.goto (-49), 3) := by decide +kernel
theorem dX2_wrongAt_64 : decode cX2_wrongAt 64 = .ok (.aload_n 1, 1) := by decide +kernel
theorem dX2_wrongAt_65 : decode cX2_wrongAt 65 = .ok (.invokevirtual 18, 3) := by decide +kernel
theorem dX2_wrongAt_68 : decode cX2_wrongAt 68 = .ok (.bipush 19, 2) := by decide +kernel
theorem dX2_wrongAt_70 : decode cX2_wrongAt 70 = .ok (.if_icmp .le 8, 3) := by decide +kernel
theorem dX2_wrongAt_73 : decode cX2_wrongAt 73 = .ok (.bipush 19, 2) := by decide +kernel
theorem dX2_wrongAt_75 : decode cX2_wrongAt 75 = .ok (.goto 4, 3) := by decide +kernel
theorem dX2_wrongAt_78 : decode cX2_wrongAt 78 = .ok (.iconst (-1), 1) := by decide +kernel
theorem dX2_wrongAt_79 : decode cX2_wrongAt 79 = .ok (.ireturn, 1) := by decide +kernel
theorem dX2_fits_0 : decode cX2_fits 0 = .ok (.iload_n 1, 1) := by decide +kernel
theorem dX2_fits_1 : decode cX2_fits 1 = .ok (.tableswitch 103 4 16 #[67, 103, 103, 67, 103, 103, 79, 103, 103, 91, 103, 103, 91], 67) := by decide +kernel
theorem dX2_fits_68 : decode cX2_fits 68 = .ok (.iload_n 2, 1) := by decide +kernel
theorem dX2_fits_69 : decode cX2_fits 69 = .ok (.bipush 45, 2) := by decide +kernel
theorem dX2_fits_71 : decode cX2_fits 71 = .ok (.if_icmp .ne 7, 3) := by decide +kernel
theorem dX2_fits_74 : decode cX2_fits 74 = .ok (.iconst 1, 1) := by decide +kernel
theorem dX2_fits_75 : decode cX2_fits 75 = .ok (.goto 4, 3) := by decide +kernel
theorem dX2_fits_78 : decode cX2_fits 78 = .ok (.iconst 0, 1) := by decide +kernel
theorem dX2_fits_79 : decode cX2_fits 79 = .ok (.ireturn, 1) := by decide +kernel
theorem dX2_fits_80 : decode cX2_fits 80 = .ok (.iload_n 2, 1) := by decide +kernel
theorem dX2_fits_81 : decode cX2_fits 81 = .ok (.bipush 84, 2) := by decide +kernel
theorem dX2_fits_83 : decode cX2_fits 83 = .ok (.if_icmp .ne 7, 3) := by decide +kernel
theorem dX2_fits_86 : decode cX2_fits 86 = .ok (.iconst 1, 1) := by decide +kernel
theorem dX2_fits_87 : decode cX2_fits 87 = .ok (.goto 4, 3) := by decide +kernel
theorem dX2_fits_90 : decode cX2_fits 90 = .ok (.iconst 0, 1) := by decide +kernel
theorem dX2_fits_91 : decode cX2_fits 91 = .ok (.ireturn, 1) := by decide +kernel
theorem dX2_fits_92 : decode cX2_fits 92 = .ok (.iload_n 2, 1) := by decide +kernel
theorem dX2_fits_93 : decode cX2_fits 93 = .ok (.bipush 58, 2) := by decide +kernel
theorem dX2_fits_95 : decode cX2_fits 95 = .ok (.if_icmp .ne 7, 3) := by decide +kernel
theorem dX2_fits_98 : decode cX2_fits 98 = .ok (.iconst 1, 1) := by decide +kernel
theorem dX2_fits_99 : decode cX2_fits 99 = .ok (.goto 4, 3) := by decide +kernel
theorem dX2_fits_102 : decode cX2_fits 102 = .ok (.iconst 0, 1) := by decide +kernel
theorem dX2_fits_103 : decode cX2_fits 103 = .ok (.ireturn, 1) := by decide +kernel
theorem dX2_fits_104 : decode cX2_fits 104 = .ok (.iload_n 2, 1) := by decide +kernel
theorem dX2_fits_105 : decode cX2_fits 105 = .ok (.bipush 48, 2) := by decide +kernel
theorem dX2_fits_107 : decode cX2_fits 107 = .ok (.if_icmp .lt 25, 3) := by decide +kernel
theorem dX2_fits_110 : decode cX2_fits 110 = .ok (.iload_n 2, 1) := by decide +kernel
theorem dX2_fits_111 : decode cX2_fits 111 = .ok (.bipush 57, 2) := by decide +kernel
theorem dX2_fits_113 : decode cX2_fits 113 = .ok (.if_icmp .gt 19, 3) := by decide +kernel
theorem dX2_fits_116 : decode cX2_fits 116 = .ok (.aload_n 0, 1) := by decide +kernel
theorem dX2_fits_117 : decode cX2_fits 117 = .ok (.iload_n 1, 1) := by decide +kernel
theorem dX2_fits_118 : decode cX2_fits 118 = .ok (.iload_n 2, 1) := by decide +kernel
theorem dX2_fits_119 : decode cX2_fits 119 = .ok (.bipush 48, 2) := by decide +kernel
theorem dX2_fits_121 : decode cX2_fits 121 = .ok (.isub, 1) := by decide +kernel
theorem dX2_fits_122 : decode cX2_fits 122 = .ok (.invokevirtual 36, 3) := by decide +kernel
theorem dX2_fits_125 : decode cX2_fits 125 = .ok (.ifCond .eq 7, 3) := by decide +kernel
theorem dX2_fits_128 : decode cX2_fits 128 = .ok (.iconst 1, 1) := by decide +kernel
theorem dX2_fits_129 : decode cX2_fits 129 = .ok (.goto 4, 3) := by decide +kernel
theorem dX2_fits_132 : decode cX2_fits 132 = .ok (.iconst 0, 1) := by decide +kernel
theorem dX2_fits_133 : decode cX2_fits 133 = .ok (.ireturn, 1) := by decide +kernel
theorem dX2_fitsDigit_0 : decode cX2_fitsDigit 0 = .ok (.iload_n 1, 1) := by decide +kernel
theorem dX2_fitsDigit_1 : decode cX2_fitsDigit 1 = .ok (.ifCond .eq 32, 3) := by decide +kernel
theorem dX2_fitsDigit_4 : decode cX2_fitsDigit 4 = .ok (.iload_n 1, 1) := by decide +kernel
theorem dX2_fitsDigit_5 : decode cX2_fitsDigit 5 = .ok (.iconst 5, 1) := by decide +kernel
theorem dX2_fitsDigit_6 : decode cX2_fitsDigit 6 = .ok (.if_icmp .eq 27, 3) := by decide +kernel
theorem dX2_fitsDigit_9 : decode cX2_fitsDigit 9 = .ok (.iload_n 1, 1) := by decide +kernel
theorem dX2_fitsDigit_10 : decode cX2_fitsDigit 10 = .ok (.bipush 8, 2) := by decide +kernel
theorem dX2_fitsDigit_12 : decode cX2_fitsDigit 12 = .ok (.if_icmp .eq 21, 3) := by decide +kernel
theorem dX2_fitsDigit_15 : decode cX2_fitsDigit 15 = .ok (.iload_n 1, 1) := by decide +kernel
theorem dX2_fitsDigit_16 : decode cX2_fitsDigit 16 = .ok (.bipush 11, 2) := by decide +kernel
theorem dX2_fitsDigit_18 : decode cX2_fitsDigit 18 = .ok (.if_icmp .eq 15, 3) := by decide +kernel
theorem dX2_fitsDigit_21 : decode cX2_fitsDigit 21 = .ok (.iload_n 1, 1) := by decide +kernel
theorem dX2_fitsDigit_22 : decode cX2_fitsDigit 22 = .ok (.bipush 14, 2) := by decide +kernel
theorem dX2_fitsDigit_24 : decode cX2_fitsDigit 24 = .ok (.if_icmp .eq 9, 3) := by decide +kernel
theorem dX2_fitsDigit_27 : decode cX2_fitsDigit 27 = .ok (.iload_n 1, 1) := by decide +kernel
theorem dX2_fitsDigit_28 : decode cX2_fitsDigit 28 = .ok (.bipush 17, 2) := by decide +kernel
theorem dX2_fitsDigit_30 : decode cX2_fitsDigit 30 = .ok (.if_icmp .ne 7, 3) := by decide +kernel
theorem dX2_fitsDigit_33 : decode cX2_fitsDigit 33 = .ok (.iconst 1, 1) := by decide +kernel
theorem dX2_fitsDigit_34 : decode cX2_fitsDigit 34 = .ok (.goto 4, 3) := by decide +kernel
theorem dX2_fitsDigit_37 : decode cX2_fitsDigit 37 = .ok (.iconst 0, 1) := by decide +kernel
theorem dX2_fitsDigit_38 : decode cX2_fitsDigit 38 = .ok (.istore_n 3, 1) := by decide +kernel
theorem dX2_fitsDigit_39 : decode cX2_fitsDigit 39 = .ok (.aload_n 0, 1) := by decide +kernel
theorem dX2_fitsDigit_40 : decode cX2_fitsDigit 40 = .ok (.iload_n 3, 1) := by decide +kernel
theorem dX2_fitsDigit_41 : decode cX2_fitsDigit 41 = .ok (.ifCond .eq 7, 3) := by decide +kernel
theorem dX2_fitsDigit_44 : decode cX2_fitsDigit 44 = .ok (.iload_n 2, 1) := by decide +kernel
theorem dX2_fitsDigit_45 : decode cX2_fitsDigit 45 = .ok (.goto 12, 3) := by decide +kernel
theorem dX2_fitsDigit_48 : decode cX2_fitsDigit 48 = .ok (.aload_n 0, 1) := by decide +kernel
theorem dX2_fitsDigit_49 : decode cX2_fitsDigit 49 = .ok (.getfield 39, 3) := by decide +kernel
theorem dX2_fitsDigit_52 : decode cX2_fitsDigit 52 = .ok (.bipush 10, 2) := by decide +kernel
theorem dX2_fitsDigit_54 : decode cX2_fitsDigit 54 = .ok (.imul, 1) := by decide +kernel
theorem dX2_fitsDigit_55 : decode cX2_fitsDigit 55 = .ok (.iload_n 2, 1) := by decide +kernel
theorem dX2_fitsDigit_56 : decode cX2_fitsDigit 56 = .ok (.iadd, 1) := by decide +kernel
theorem dX2_fitsDigit_57 : decode cX2_fitsDigit 57 = .ok (.putfield 39, 3) := by decide +kernel
theorem dX2_fitsDigit_60 : decode cX2_fitsDigit 60 = .ok (.iload_n 1, 1) := by decide +kernel
theorem dX2_fitsDigit_61 : decode cX2_fitsDigit 61 = .ok (.iconst 4, 1) := by decide +kernel
theorem dX2_fitsDigit_62 : decode cX2_fitsDigit 62 = .ok (.if_icmp .ge 21, 3) := by decide +kernel
theorem dX2_fitsDigit_65 : decode cX2_fitsDigit 65 = .ok (.iload_n 1, 1) := by decide +kernel
theorem dX2_fitsDigit_66 : decode cX2_fitsDigit 66 = .ok (.iconst 3, 1) := by decide +kernel
theorem dX2_fitsDigit_67 : decode cX2_fitsDigit 67 = .ok (.if_icmp .lt 10, 3) := by decide +kernel
theorem dX2_fitsDigit_70 : decode cX2_fitsDigit 70 = .ok (.aload_n 0, 1) := by decide +kernel
theorem dX2_fitsDigit_71 : decode cX2_fitsDigit 71 = .ok (.getfield 39, 3) := by decide +kernel
theorem dX2_fitsDigit_74 : decode cX2_fitsDigit 74 = .ok (.ifCond .le 7, 3) := by decide +kernel
theorem dX2_fitsDigit_77 : decode cX2_fitsDigit 77 = .ok (.iconst 1, 1) := by decide +kernel
theorem dX2_fitsDigit_78 : decode cX2_fitsDigit 78 = .ok (.goto 4, 3) := by decide +kernel
theorem dX2_fitsDigit_81 : decode cX2_fitsDigit 81 = .ok (.iconst 0, 1) := by decide +kernel
theorem dX2_fitsDigit_82 : decode cX2_fitsDigit 82 = .ok (.ireturn, 1) := by decide +kernel
theorem dX2_fitsDigit_83 : decode cX2_fitsDigit 83 = .ok (.iload_n 1, 1) := by decide +kernel
theorem dX2_fitsDigit_84 : decode cX2_fitsDigit 84 = .ok (.bipush 10, 2) := by decide +kernel
theorem dX2_fitsDigit_86 : decode cX2_fitsDigit 86 = .ok (.if_icmp .ge 7, 3) := by decide +kernel
theorem dX2_fitsDigit_89 : decode cX2_fitsDigit 89 = .ok (.iconst 1, 1) := by decide +kernel
theorem dX2_fitsDigit_90 : decode cX2_fitsDigit 90 = .ok (.goto 4, 3) := by decide +kernel
theorem dX2_fitsDigit_93 : decode cX2_fitsDigit 93 = .ok (.iconst 0, 1) := by decide +kernel
theorem dX2_fitsDigit_94 : decode cX2_fitsDigit 94 = .ok (.istore 4, 2) := by decide +kernel
theorem dX2_fitsDigit_96 : decode cX2_fitsDigit 96 = .ok (.iload_n 3, 1) := by decide +kernel
theorem dX2_fitsDigit_97 : decode cX2_fitsDigit 97 = .ok (.ifCond .eq 26, 3) := by decide +kernel
theorem dX2_fitsDigit_100 : decode cX2_fitsDigit 100 = .ok (.aload_n 0, 1) := by decide +kernel
theorem dX2_fitsDigit_101 : decode cX2_fitsDigit 101 = .ok (.getfield 39, 3) := by decide +kernel
theorem dX2_fitsDigit_104 : decode cX2_fitsDigit 104 = .ok (.bipush 10, 2) := by decide +kernel
theorem dX2_fitsDigit_106 : decode cX2_fitsDigit 106 = .ok (.imul, 1) := by decide +kernel
theorem dX2_fitsDigit_107 : decode cX2_fitsDigit 107 = .ok (.aload_n 0, 1) := by decide +kernel
theorem dX2_fitsDigit_108 : decode cX2_fitsDigit 108 = .ok (.iload_n 1, 1) := by decide +kernel
theorem dX2_fitsDigit_109 : decode cX2_fitsDigit 109 = .ok (.invokevirtual 42, 3) := by decide +kernel
theorem dX2_fitsDigit_112 : decode cX2_fitsDigit 112 = .ok (.if_icmp .gt 7, 3) := by decide +kernel
theorem dX2_fitsDigit_115 : decode cX2_fitsDigit 115 = .ok (.iconst 1, 1) := by decide +kernel
theorem dX2_fitsDigit_116 : decode cX2_fitsDigit 116 = .ok (.goto 33, 3) := by decide +kernel
theorem dX2_fitsDigit_119 : decode cX2_fitsDigit 119 = .ok (.iconst 0, 1) := by decide +kernel
theorem dX2_fitsDigit_120 : decode cX2_fitsDigit 120 = .ok (.goto 29, 3) := by decide +kernel
theorem dX2_fitsDigit_123 : decode cX2_fitsDigit 123 = .ok (.aload_n 0, 1) := by decide +kernel
theorem dX2_fitsDigit_124 : decode cX2_fitsDigit 124 = .ok (.getfield 39, 3) := by decide +kernel
theorem dX2_fitsDigit_127 : decode cX2_fitsDigit 127 = .ok (.iload 4, 2) := by decide +kernel
theorem dX2_fitsDigit_129 : decode cX2_fitsDigit 129 = .ok (.if_icmp .lt 19, 3) := by decide +kernel
theorem dX2_fitsDigit_132 : decode cX2_fitsDigit 132 = .ok (.aload_n 0, 1) := by decide +kernel
theorem dX2_fitsDigit_133 : decode cX2_fitsDigit 133 = .ok (.getfield 39, 3) := by decide +kernel
theorem dX2_fitsDigit_136 : decode cX2_fitsDigit 136 = .ok (.aload_n 0, 1) := by decide +kernel
theorem dX2_fitsDigit_137 : decode cX2_fitsDigit 137 = .ok (.iload_n 1, 1) := by decide +kernel
theorem dX2_fitsDigit_138 : decode cX2_fitsDigit 138 = .ok (.invokevirtual 42, 3) := by decide +kernel
theorem dX2_fitsDigit_141 : decode cX2_fitsDigit 141 = .ok (.if_icmp .gt 7, 3) := by decide +kernel
theorem dX2_fitsDigit_144 : decode cX2_fitsDigit 144 = .ok (.iconst 1, 1) := by decide +kernel
theorem dX2_fitsDigit_145 : decode cX2_fitsDigit 145 = .ok (.goto 4, 3) := by decide +kernel
theorem dX2_fitsDigit_148 : decode cX2_fitsDigit 148 = .ok (.iconst 0, 1) := by decide +kernel
theorem dX2_fitsDigit_149 : decode cX2_fitsDigit 149 = .ok (.ireturn, 1) := by decide +kernel
theorem dX2_mostAt_0 : decode cX2_mostAt 0 = .ok (.iload_n 1, 1) := by decide +kernel
theorem dX2_mostAt_1 : decode cX2_mostAt 1 = .ok (.bipush 8, 2) := by decide +kernel
theorem dX2_mostAt_3 : decode cX2_mostAt 3 = .ok (.if_icmp .ge 6, 3) := by decide +kernel
theorem dX2_mostAt_6 : decode cX2_mostAt 6 = .ok (.bipush 12, 2) := by decide +kernel
theorem dX2_mostAt_8 : decode cX2_mostAt 8 = .ok (.ireturn, 1) := by decide +kernel
theorem dX2_mostAt_9 : decode cX2_mostAt 9 = .ok (.iload_n 1, 1) := by decide +kernel
theorem dX2_mostAt_10 : decode cX2_mostAt 10 = .ok (.bipush 11, 2) := by decide +kernel
theorem dX2_mostAt_12 : decode cX2_mostAt 12 = .ok (.if_icmp .ge 15, 3) := by decide +kernel
theorem dX2_mostAt_15 : decode cX2_mostAt 15 = .ok (.aload_n 0, 1) := by decide +kernel
theorem dX2_mostAt_16 : decode cX2_mostAt 16 = .ok (.getfield 45, 3) := by decide +kernel
theorem dX2_mostAt_19 : decode cX2_mostAt 19 = .ok (.aload_n 0, 1) := by decide +kernel
theorem dX2_mostAt_20 : decode cX2_mostAt 20 = .ok (.getfield 48, 3) := by decide +kernel
theorem dX2_mostAt_23 : decode cX2_mostAt 23 = .ok (.invokestatic 51, 3) := by decide +kernel
theorem dX2_mostAt_26 : decode cX2_mostAt 26 = .ok (.ireturn, 1) := by decide +kernel
theorem dX2_mostAt_27 : decode cX2_mostAt 27 = .ok (.iload_n 1, 1) := by decide +kernel
theorem dX2_mostAt_28 : decode cX2_mostAt 28 = .ok (.bipush 14, 2) := by decide +kernel
theorem dX2_mostAt_30 : decode cX2_mostAt 30 = .ok (.if_icmp .ge 8, 3) := by decide +kernel
theorem dX2_mostAt_33 : decode cX2_mostAt 33 = .ok (.bipush 23, 2) := by decide +kernel
theorem dX2_mostAt_35 : decode cX2_mostAt 35 = .ok (.goto 5, 3) := by decide +kernel
theorem dX2_mostAt_38 : decode cX2_mostAt 38 = .ok (.bipush 59, 2) := by decide +kernel
theorem dX2_mostAt_40 : decode cX2_mostAt 40 = .ok (.ireturn, 1) := by decide +kernel
theorem dX2_keepNumber_0 : decode cX2_keepNumber 0 = .ok (.iload_n 1, 1) := by decide +kernel
theorem dX2_keepNumber_1 : decode cX2_keepNumber 1 = .ok (.tableswitch 173 3 18 #[79, 173, 173, 90, 173, 173, 101, 173, 173, 123, 173, 173, 138, 173, 173, 157], 79) := by decide +kernel
theorem dX2_keepNumber_80 : decode cX2_keepNumber 80 = .ok (.aload_n 0, 1) := by decide +kernel
theorem dX2_keepNumber_81 : decode cX2_keepNumber 81 = .ok (.aload_n 0, 1) := by decide +kernel
theorem dX2_keepNumber_82 : decode cX2_keepNumber 82 = .ok (.getfield 39, 3) := by decide +kernel
theorem dX2_keepNumber_85 : decode cX2_keepNumber 85 = .ok (.putfield 45, 3) := by decide +kernel
theorem dX2_keepNumber_88 : decode cX2_keepNumber 88 = .ok (.goto 86, 3) := by decide +kernel
theorem dX2_keepNumber_91 : decode cX2_keepNumber 91 = .ok (.aload_n 0, 1) := by decide +kernel
theorem dX2_keepNumber_92 : decode cX2_keepNumber 92 = .ok (.aload_n 0, 1) := by decide +kernel
theorem dX2_keepNumber_93 : decode cX2_keepNumber 93 = .ok (.getfield 39, 3) := by decide +kernel
theorem dX2_keepNumber_96 : decode cX2_keepNumber 96 = .ok (.putfield 48, 3) := by decide +kernel
theorem dX2_keepNumber_99 : decode cX2_keepNumber 99 = .ok (.goto 75, 3) := by decide +kernel
theorem dX2_keepNumber_102 : decode cX2_keepNumber 102 = .ok (.aload_n 0, 1) := by decide +kernel
theorem dX2_keepNumber_103 : decode cX2_keepNumber 103 = .ok (.aload_n 0, 1) := by decide +kernel
theorem dX2_keepNumber_104 : decode cX2_keepNumber 104 = .ok (.getfield 45, 3) := by decide +kernel
theorem dX2_keepNumber_107 : decode cX2_keepNumber 107 = .ok (.aload_n 0, 1) := by decide +kernel
theorem dX2_keepNumber_108 : decode cX2_keepNumber 108 = .ok (.getfield 48, 3) := by decide +kernel
theorem dX2_keepNumber_111 : decode cX2_keepNumber 111 = .ok (.aload_n 0, 1) := by decide +kernel
theorem dX2_keepNumber_112 : decode cX2_keepNumber 112 = .ok (.getfield 39, 3) := by decide +kernel
theorem dX2_keepNumber_115 : decode cX2_keepNumber 115 = .ok (.invokestatic 57, 3) := by decide +kernel
theorem dX2_keepNumber_118 : decode cX2_keepNumber 118 = .ok (.putfield 9, 3) := by decide +kernel
theorem dX2_keepNumber_121 : decode cX2_keepNumber 121 = .ok (.goto 53, 3) := by decide +kernel
theorem dX2_keepNumber_124 : decode cX2_keepNumber 124 = .ok (.aload_n 0, 1) := by decide +kernel
theorem dX2_keepNumber_125 : decode cX2_keepNumber 125 = .ok (.sipush 3600, 3) := by decide +kernel
theorem dX2_keepNumber_128 : decode cX2_keepNumber 128 = .ok (.aload_n 0, 1) := by decide +kernel
theorem dX2_keepNumber_129 : decode cX2_keepNumber 129 = .ok (.getfield 39, 3) := by decide +kernel
theorem dX2_keepNumber_132 : decode cX2_keepNumber 132 = .ok (.imul, 1) := by decide +kernel
theorem dX2_keepNumber_133 : decode cX2_keepNumber 133 = .ok (.putfield 15, 3) := by decide +kernel
theorem dX2_keepNumber_136 : decode cX2_keepNumber 136 = .ok (.goto 38, 3) := by decide +kernel
theorem dX2_keepNumber_139 : decode cX2_keepNumber 139 = .ok (.aload_n 0, 1) := by decide +kernel
theorem dX2_keepNumber_140 : decode cX2_keepNumber 140 = .ok (.dup, 1) := by decide +kernel
theorem dX2_keepNumber_141 : decode cX2_keepNumber 141 = .ok (.getfield 15, 3) := by decide +kernel
theorem dX2_keepNumber_144 : decode cX2_keepNumber 144 = .ok (.bipush 60, 2) := by decide +kernel
theorem dX2_keepNumber_146 : decode cX2_keepNumber 146 = .ok (.aload_n 0, 1) := by decide +kernel
theorem dX2_keepNumber_147 : decode cX2_keepNumber 147 = .ok (.getfield 39, 3) := by decide +kernel
theorem dX2_keepNumber_150 : decode cX2_keepNumber 150 = .ok (.imul, 1) := by decide +kernel
theorem dX2_keepNumber_151 : decode cX2_keepNumber 151 = .ok (.iadd, 1) := by decide +kernel
theorem dX2_keepNumber_152 : decode cX2_keepNumber 152 = .ok (.putfield 15, 3) := by decide +kernel
theorem dX2_keepNumber_155 : decode cX2_keepNumber 155 = .ok (.goto 19, 3) := by decide +kernel
theorem dX2_keepNumber_158 : decode cX2_keepNumber 158 = .ok (.aload_n 0, 1) := by decide +kernel
theorem dX2_keepNumber_159 : decode cX2_keepNumber 159 = .ok (.dup, 1) := by decide +kernel
theorem dX2_keepNumber_160 : decode cX2_keepNumber 160 = .ok (.getfield 15, 3) := by decide +kernel
theorem dX2_keepNumber_163 : decode cX2_keepNumber 163 = .ok (.aload_n 0, 1) := by decide +kernel
theorem dX2_keepNumber_164 : decode cX2_keepNumber 164 = .ok (.getfield 39, 3) := by decide +kernel
theorem dX2_keepNumber_167 : decode cX2_keepNumber 167 = .ok (.iadd, 1) := by decide +kernel
theorem dX2_keepNumber_168 : decode cX2_keepNumber 168 = .ok (.putfield 15, 3) := by decide +kernel
theorem dX2_keepNumber_171 : decode cX2_keepNumber 171 = .ok (.goto 3, 3) := by decide +kernel
theorem dX2_keepNumber_174 : decode cX2_keepNumber 174 = .ok (.return_, 1) := by decide +kernel
theorem dX3_init_0 : decode cX3_init 0 = .ok (.aload_n 0, 1) := by decide +kernel
theorem dX3_init_1 : decode cX3_init 1 = .ok (.invokespecial 3, 3) := by decide +kernel
theorem dX3_init_4 : decode cX3_init 4 = .ok (.aload_n 0, 1) := by decide +kernel
theorem dX3_init_5 : decode cX3_init 5 = .ok (.bipush 8, 2) := by decide +kernel
theorem dX3_init_7 : decode cX3_init 7 = .ok (.newarray .long, 2) := by decide +kernel
theorem dX3_init_9 : decode cX3_init 9 = .ok (.putfield 9, 3) := by decide +kernel
theorem dX3_init_12 : decode cX3_init 12 = .ok (.aload_n 0, 1) := by decide +kernel
theorem dX3_init_13 : decode cX3_init 13 = .ok (.iconst 0, 1) := by decide +kernel
theorem dX3_init_14 : decode cX3_init 14 = .ok (.putfield 15, 3) := by decide +kernel
theorem dX3_init_17 : decode cX3_init 17 = .ok (.return_, 1) := by decide +kernel
theorem dX3_length_0 : decode cX3_length 0 = .ok (.aload_n 0, 1) := by decide +kernel
theorem dX3_length_1 : decode cX3_length 1 = .ok (.getfield 15, 3) := by decide +kernel
theorem dX3_length_4 : decode cX3_length 4 = .ok (.ireturn, 1) := by decide +kernel
theorem dX3_begin_0 : decode cX3_begin 0 = .ok (.aload_n 0, 1) := by decide +kernel
theorem dX3_begin_1 : decode cX3_begin 1 = .ok (.iconst 0, 1) := by decide +kernel
theorem dX3_begin_2 : decode cX3_begin 2 = .ok (.putfield 15, 3) := by decide +kernel
theorem dX3_begin_5 : decode cX3_begin 5 = .ok (.return_, 1) := by decide +kernel
theorem dX3_push_0 : decode cX3_push 0 = .ok (.aload_n 0, 1) := by decide +kernel
theorem dX3_push_1 : decode cX3_push 1 = .ok (.getfield 15, 3) := by decide +kernel
theorem dX3_push_4 : decode cX3_push 4 = .ok (.ifCond .lt 35, 3) := by decide +kernel
theorem dX3_push_7 : decode cX3_push 7 = .ok (.aload_n 0, 1) := by decide +kernel
theorem dX3_push_8 : decode cX3_push 8 = .ok (.getfield 15, 3) := by decide +kernel
theorem dX3_push_11 : decode cX3_push 11 = .ok (.aload_n 0, 1) := by decide +kernel
theorem dX3_push_12 : decode cX3_push 12 = .ok (.getfield 9, 3) := by decide +kernel
theorem dX3_push_15 : decode cX3_push 15 = .ok (.arraylength, 1) := by decide +kernel
theorem dX3_push_16 : decode cX3_push 16 = .ok (.if_icmp .ge 23, 3) := by decide +kernel
theorem dX3_push_19 : decode cX3_push 19 = .ok (.aload_n 0, 1) := by decide +kernel
theorem dX3_push_20 : decode cX3_push 20 = .ok (.getfield 9, 3) := by decide +kernel
theorem dX3_push_23 : decode cX3_push 23 = .ok (.aload_n 0, 1) := by decide +kernel
theorem dX3_push_24 : decode cX3_push 24 = .ok (.getfield 15, 3) := by decide +kernel
theorem dX3_push_27 : decode cX3_push 27 = .ok (.lload_n 1, 1) := by decide +kernel
theorem dX3_push_28 : decode cX3_push 28 = .ok (.lastore, 1) := by decide +kernel
theorem dX3_push_29 : decode cX3_push 29 = .ok (.aload_n 0, 1) := by decide +kernel
theorem dX3_push_30 : decode cX3_push 30 = .ok (.dup, 1) := by decide +kernel
theorem dX3_push_31 : decode cX3_push 31 = .ok (.getfield 15, 3) := by decide +kernel
theorem dX3_push_34 : decode cX3_push 34 = .ok (.iconst 1, 1) := by decide +kernel
theorem dX3_push_35 : decode cX3_push 35 = .ok (.iadd, 1) := by decide +kernel
theorem dX3_push_36 : decode cX3_push 36 = .ok (.putfield 15, 3) := by decide +kernel
theorem dX3_push_39 : decode cX3_push 39 = .ok (.return_, 1) := by decide +kernel
theorem dX3_put_0 : decode cX3_put 0 = .ok (.iload_n 1, 1) := by decide +kernel
theorem dX3_put_1 : decode cX3_put 1 = .ok (.ifCond .lt 19, 3) := by decide +kernel
theorem dX3_put_4 : decode cX3_put 4 = .ok (.iload_n 1, 1) := by decide +kernel
theorem dX3_put_5 : decode cX3_put 5 = .ok (.aload_n 0, 1) := by decide +kernel
theorem dX3_put_6 : decode cX3_put 6 = .ok (.getfield 9, 3) := by decide +kernel
theorem dX3_put_9 : decode cX3_put 9 = .ok (.arraylength, 1) := by decide +kernel
theorem dX3_put_10 : decode cX3_put 10 = .ok (.if_icmp .ge 10, 3) := by decide +kernel
theorem dX3_put_13 : decode cX3_put 13 = .ok (.aload_n 0, 1) := by decide +kernel
theorem dX3_put_14 : decode cX3_put 14 = .ok (.getfield 9, 3) := by decide +kernel
theorem dX3_put_17 : decode cX3_put 17 = .ok (.iload_n 1, 1) := by decide +kernel
theorem dX3_put_18 : decode cX3_put 18 = .ok (.lload_n 2, 1) := by decide +kernel
theorem dX3_put_19 : decode cX3_put 19 = .ok (.lastore, 1) := by decide +kernel
theorem dX3_put_20 : decode cX3_put 20 = .ok (.return_, 1) := by decide +kernel
theorem dX3_at_0 : decode cX3_at 0 = .ok (.iload_n 1, 1) := by decide +kernel
theorem dX3_at_1 : decode cX3_at 1 = .ok (.ifCond .lt 21, 3) := by decide +kernel
theorem dX3_at_4 : decode cX3_at 4 = .ok (.iload_n 1, 1) := by decide +kernel
theorem dX3_at_5 : decode cX3_at 5 = .ok (.aload_n 0, 1) := by decide +kernel
theorem dX3_at_6 : decode cX3_at 6 = .ok (.getfield 9, 3) := by decide +kernel
theorem dX3_at_9 : decode cX3_at 9 = .ok (.arraylength, 1) := by decide +kernel
theorem dX3_at_10 : decode cX3_at 10 = .ok (.if_icmp .ge 12, 3) := by decide +kernel
theorem dX3_at_13 : decode cX3_at 13 = .ok (.aload_n 0, 1) := by decide +kernel
theorem dX3_at_14 : decode cX3_at 14 = .ok (.getfield 9, 3) := by decide +kernel
theorem dX3_at_17 : decode cX3_at 17 = .ok (.iload_n 1, 1) := by decide +kernel
theorem dX3_at_18 : decode cX3_at 18 = .ok (.laload, 1) := by decide +kernel
theorem dX3_at_19 : decode cX3_at 19 = .ok (.goto 4, 3) := by decide +kernel
theorem dX3_at_22 : decode cX3_at 22 = .ok (.lconst 0, 1) := by decide +kernel
theorem dX3_at_23 : decode cX3_at 23 = .ok (.lreturn, 1) := by decide +kernel
theorem dX3_tell_0 : decode cX3_tell 0 = .ok (.aload_n 0, 1) := by decide +kernel
theorem dX3_tell_1 : decode cX3_tell 1 = .ok (.invokevirtual 19, 3) := by decide +kernel
theorem dX3_tell_4 : decode cX3_tell 4 = .ok (.aload_n 0, 1) := by decide +kernel
theorem dX3_tell_5 : decode cX3_tell 5 = .ok (.lload_n 1, 1) := by decide +kernel
theorem dX3_tell_6 : decode cX3_tell 6 = .ok (.invokevirtual 22, 3) := by decide +kernel
theorem dX3_tell_9 : decode cX3_tell 9 = .ok (.return_, 1) := by decide +kernel
theorem dX3_tell__0 : decode cX3_tell_ 0 = .ok (.aload_n 0, 1) := by decide +kernel
theorem dX3_tell__1 : decode cX3_tell_ 1 = .ok (.lload_n 1, 1) := by decide +kernel
theorem dX3_tell__2 : decode cX3_tell_ 2 = .ok (.invokevirtual 26, 3) := by decide +kernel
theorem dX3_tell__5 : decode cX3_tell_ 5 = .ok (.aload_n 0, 1) := by decide +kernel
theorem dX3_tell__6 : decode cX3_tell_ 6 = .ok (.lload_n 3, 1) := by decide +kernel
theorem dX3_tell__7 : decode cX3_tell_ 7 = .ok (.invokevirtual 22, 3) := by decide +kernel
theorem dX3_tell__10 : decode cX3_tell_ 10 = .ok (.return_, 1) := by decide +kernel
theorem dX3_tell___0 : decode cX3_tell__ 0 = .ok (.aload_n 0, 1) := by decide +kernel
theorem dX3_tell___1 : decode cX3_tell__ 1 = .ok (.lload_n 1, 1) := by decide +kernel
theorem dX3_tell___2 : decode cX3_tell__ 2 = .ok (.lload_n 3, 1) := by decide +kernel
theorem dX3_tell___3 : decode cX3_tell__ 3 = .ok (.invokevirtual 29, 3) := by decide +kernel
theorem dX3_tell___6 : decode cX3_tell__ 6 = .ok (.aload_n 0, 1) := by decide +kernel
theorem dX3_tell___7 : decode cX3_tell__ 7 = .ok (.lload 5, 2) := by decide +kernel
theorem dX3_tell___9 : decode cX3_tell__ 9 = .ok (.invokevirtual 22, 3) := by decide +kernel
theorem dX3_tell___12 : decode cX3_tell__ 12 = .ok (.return_, 1) := by decide +kernel
theorem dX4_init_0 : decode cX4_init 0 = .ok (.aload_n 0, 1) := by decide +kernel
theorem dX4_init_1 : decode cX4_init 1 = .ok (.invokespecial 3, 3) := by decide +kernel
theorem dX4_init_4 : decode cX4_init 4 = .ok (.aload_n 0, 1) := by decide +kernel
theorem dX4_init_5 : decode cX4_init 5 = .ok (.bipush 8, 2) := by decide +kernel
theorem dX4_init_7 : decode cX4_init 7 = .ok (.newarray .int, 2) := by decide +kernel
theorem dX4_init_9 : decode cX4_init 9 = .ok (.putfield 9, 3) := by decide +kernel
theorem dX4_init_12 : decode cX4_init 12 = .ok (.aload_n 0, 1) := by decide +kernel
theorem dX4_init_13 : decode cX4_init 13 = .ok (.bipush 8, 2) := by decide +kernel
theorem dX4_init_15 : decode cX4_init 15 = .ok (.newarray .int, 2) := by decide +kernel
theorem dX4_init_17 : decode cX4_init 17 = .ok (.putfield 15, 3) := by decide +kernel
theorem dX4_init_20 : decode cX4_init 20 = .ok (.aload_n 0, 1) := by decide +kernel
theorem dX4_init_21 : decode cX4_init 21 = .ok (.bipush 8, 2) := by decide +kernel
theorem dX4_init_23 : decode cX4_init 23 = .ok (.newarray .int, 2) := by decide +kernel
theorem dX4_init_25 : decode cX4_init 25 = .ok (.putfield 18, 3) := by decide +kernel
theorem dX4_init_28 : decode cX4_init 28 = .ok (.aload_n 0, 1) := by decide +kernel
theorem dX4_init_29 : decode cX4_init 29 = .ok (.bipush 8, 2) := by decide +kernel
theorem dX4_init_31 : decode cX4_init 31 = .ok (.newarray .int, 2) := by decide +kernel
theorem dX4_init_33 : decode cX4_init 33 = .ok (.putfield 21, 3) := by decide +kernel
theorem dX4_init_36 : decode cX4_init 36 = .ok (.aload_n 0, 1) := by decide +kernel
theorem dX4_init_37 : decode cX4_init 37 = .ok (.bipush 8, 2) := by decide +kernel
theorem dX4_init_39 : decode cX4_init 39 = .ok (.newarray .int, 2) := by decide +kernel
theorem dX4_init_41 : decode cX4_init 41 = .ok (.putfield 24, 3) := by decide +kernel
theorem dX4_init_44 : decode cX4_init 44 = .ok (.return_, 1) := by decide +kernel
theorem dX4_dayAt_0 : decode cX4_dayAt 0 = .ok (.iload_n 1, 1) := by decide +kernel
theorem dX4_dayAt_1 : decode cX4_dayAt 1 = .ok (.invokestatic 27, 3) := by decide +kernel
theorem dX4_dayAt_4 : decode cX4_dayAt 4 = .ok (.ifCond .eq 12, 3) := by decide +kernel
theorem dX4_dayAt_7 : decode cX4_dayAt 7 = .ok (.aload_n 0, 1) := by decide +kernel
theorem dX4_dayAt_8 : decode cX4_dayAt 8 = .ok (.getfield 9, 3) := by decide +kernel
theorem dX4_dayAt_11 : decode cX4_dayAt 11 = .ok (.iload_n 1, 1) := by decide +kernel
theorem dX4_dayAt_12 : decode cX4_dayAt 12 = .ok (.iaload, 1) := by decide +kernel
theorem dX4_dayAt_13 : decode cX4_dayAt 13 = .ok (.goto 4, 3) := by decide +kernel
theorem dX4_dayAt_16 : decode cX4_dayAt 16 = .ok (.iconst 0, 1) := by decide +kernel
theorem dX4_dayAt_17 : decode cX4_dayAt 17 = .ok (.ireturn, 1) := by decide +kernel
theorem dX4_secondAt_0 : decode cX4_secondAt 0 = .ok (.iload_n 1, 1) := by decide +kernel
theorem dX4_secondAt_1 : decode cX4_secondAt 1 = .ok (.invokestatic 27, 3) := by decide +kernel
theorem dX4_secondAt_4 : decode cX4_secondAt 4 = .ok (.ifCond .eq 12, 3) := by decide +kernel
theorem dX4_secondAt_7 : decode cX4_secondAt 7 = .ok (.aload_n 0, 1) := by decide +kernel
theorem dX4_secondAt_8 : decode cX4_secondAt 8 = .ok (.getfield 15, 3) := by decide +kernel
theorem dX4_secondAt_11 : decode cX4_secondAt 11 = .ok (.iload_n 1, 1) := by decide +kernel
theorem dX4_secondAt_12 : decode cX4_secondAt 12 = .ok (.iaload, 1) := by decide +kernel
theorem dX4_secondAt_13 : decode cX4_secondAt 13 = .ok (.goto 4, 3) := by decide +kernel
theorem dX4_secondAt_16 : decode cX4_secondAt 16 = .ok (.iconst 0, 1) := by decide +kernel
theorem dX4_secondAt_17 : decode cX4_secondAt 17 = .ok (.ireturn, 1) := by decide +kernel
theorem dX4_instantAt_0 : decode cX4_instantAt 0 = .ok (.aload_n 0, 1) := by decide +kernel
theorem dX4_instantAt_1 : decode cX4_instantAt 1 = .ok (.iload_n 1, 1) := by decide +kernel
theorem dX4_instantAt_2 : decode cX4_instantAt 2 = .ok (.invokevirtual 31, 3) := by decide +kernel
theorem dX4_instantAt_5 : decode cX4_instantAt 5 = .ok (.aload_n 0, 1) := by decide +kernel
theorem dX4_instantAt_6 : decode cX4_instantAt 6 = .ok (.iload_n 1, 1) := by decide +kernel
theorem dX4_instantAt_7 : decode cX4_instantAt 7 = .ok (.invokevirtual 35, 3) := by decide +kernel
theorem dX4_instantAt_10 : decode cX4_instantAt 10 = .ok (.invokestatic 38, 3) := by decide +kernel
theorem dX4_instantAt_13 : decode cX4_instantAt 13 = .ok (.lreturn, 1) := by decide +kernel
theorem dX4_monthsAt_0 : decode cX4_monthsAt 0 = .ok (.iload_n 1, 1) := by decide +kernel
theorem dX4_monthsAt_1 : decode cX4_monthsAt 1 = .ok (.invokestatic 27, 3) := by decide +kernel
theorem dX4_monthsAt_4 : decode cX4_monthsAt 4 = .ok (.ifCond .eq 12, 3) := by decide +kernel
theorem dX4_monthsAt_7 : decode cX4_monthsAt 7 = .ok (.aload_n 0, 1) := by decide +kernel
theorem dX4_monthsAt_8 : decode cX4_monthsAt 8 = .ok (.getfield 18, 3) := by decide +kernel
theorem dX4_monthsAt_11 : decode cX4_monthsAt 11 = .ok (.iload_n 1, 1) := by decide +kernel
theorem dX4_monthsAt_12 : decode cX4_monthsAt 12 = .ok (.iaload, 1) := by decide +kernel
theorem dX4_monthsAt_13 : decode cX4_monthsAt 13 = .ok (.goto 4, 3) := by decide +kernel
theorem dX4_monthsAt_16 : decode cX4_monthsAt 16 = .ok (.iconst 0, 1) := by decide +kernel
theorem dX4_monthsAt_17 : decode cX4_monthsAt 17 = .ok (.ireturn, 1) := by decide +kernel
theorem dX4_daysAt_0 : decode cX4_daysAt 0 = .ok (.iload_n 1, 1) := by decide +kernel
theorem dX4_daysAt_1 : decode cX4_daysAt 1 = .ok (.invokestatic 27, 3) := by decide +kernel
theorem dX4_daysAt_4 : decode cX4_daysAt 4 = .ok (.ifCond .eq 12, 3) := by decide +kernel
theorem dX4_daysAt_7 : decode cX4_daysAt 7 = .ok (.aload_n 0, 1) := by decide +kernel
theorem dX4_daysAt_8 : decode cX4_daysAt 8 = .ok (.getfield 21, 3) := by decide +kernel
theorem dX4_daysAt_11 : decode cX4_daysAt 11 = .ok (.iload_n 1, 1) := by decide +kernel
theorem dX4_daysAt_12 : decode cX4_daysAt 12 = .ok (.iaload, 1) := by decide +kernel
theorem dX4_daysAt_13 : decode cX4_daysAt 13 = .ok (.goto 4, 3) := by decide +kernel
theorem dX4_daysAt_16 : decode cX4_daysAt 16 = .ok (.iconst 0, 1) := by decide +kernel
theorem dX4_daysAt_17 : decode cX4_daysAt 17 = .ok (.ireturn, 1) := by decide +kernel
theorem dX4_secondsAt_0 : decode cX4_secondsAt 0 = .ok (.iload_n 1, 1) := by decide +kernel
theorem dX4_secondsAt_1 : decode cX4_secondsAt 1 = .ok (.invokestatic 27, 3) := by decide +kernel
theorem dX4_secondsAt_4 : decode cX4_secondsAt 4 = .ok (.ifCond .eq 12, 3) := by decide +kernel
theorem dX4_secondsAt_7 : decode cX4_secondsAt 7 = .ok (.aload_n 0, 1) := by decide +kernel
theorem dX4_secondsAt_8 : decode cX4_secondsAt 8 = .ok (.getfield 24, 3) := by decide +kernel
theorem dX4_secondsAt_11 : decode cX4_secondsAt 11 = .ok (.iload_n 1, 1) := by decide +kernel
theorem dX4_secondsAt_12 : decode cX4_secondsAt 12 = .ok (.iaload, 1) := by decide +kernel
theorem dX4_secondsAt_13 : decode cX4_secondsAt 13 = .ok (.goto 4, 3) := by decide +kernel
theorem dX4_secondsAt_16 : decode cX4_secondsAt 16 = .ok (.iconst 0, 1) := by decide +kernel
theorem dX4_secondsAt_17 : decode cX4_secondsAt 17 = .ok (.ireturn, 1) := by decide +kernel
theorem dX4_putMoment_0 : decode cX4_putMoment 0 = .ok (.iload_n 1, 1) := by decide +kernel
theorem dX4_putMoment_1 : decode cX4_putMoment 1 = .ok (.invokestatic 27, 3) := by decide +kernel
theorem dX4_putMoment_4 : decode cX4_putMoment 4 = .ok (.ifCond .eq 17, 3) := by decide +kernel
theorem dX4_putMoment_7 : decode cX4_putMoment 7 = .ok (.aload_n 0, 1) := by decide +kernel
theorem dX4_putMoment_8 : decode cX4_putMoment 8 = .ok (.getfield 9, 3) := by decide +kernel
theorem dX4_putMoment_11 : decode cX4_putMoment 11 = .ok (.iload_n 1, 1) := by decide +kernel
theorem dX4_putMoment_12 : decode cX4_putMoment 12 = .ok (.iload_n 2, 1) := by decide +kernel
theorem dX4_putMoment_13 : decode cX4_putMoment 13 = .ok (.iastore, 1) := by decide +kernel
theorem dX4_putMoment_14 : decode cX4_putMoment 14 = .ok (.aload_n 0, 1) := by decide +kernel
theorem dX4_putMoment_15 : decode cX4_putMoment 15 = .ok (.getfield 15, 3) := by decide +kernel
theorem dX4_putMoment_18 : decode cX4_putMoment 18 = .ok (.iload_n 1, 1) := by decide +kernel
theorem dX4_putMoment_19 : decode cX4_putMoment 19 = .ok (.iload_n 3, 1) := by decide +kernel
theorem dX4_putMoment_20 : decode cX4_putMoment 20 = .ok (.iastore, 1) := by decide +kernel
theorem dX4_putMoment_21 : decode cX4_putMoment 21 = .ok (.return_, 1) := by decide +kernel
theorem dX4_putInstant_0 : decode cX4_putInstant 0 = .ok (.aload_n 0, 1) := by decide +kernel
theorem dX4_putInstant_1 : decode cX4_putInstant 1 = .ok (.iload_n 1, 1) := by decide +kernel
theorem dX4_putInstant_2 : decode cX4_putInstant 2 = .ok (.lload_n 2, 1) := by decide +kernel
theorem dX4_putInstant_3 : decode cX4_putInstant 3 = .ok (.ldc2_w 42, 3) := by decide +kernel
theorem dX4_putInstant_6 : decode cX4_putInstant 6 = .ok (.ldiv, 1) := by decide +kernel
theorem dX4_putInstant_7 : decode cX4_putInstant 7 = .ok (.l2i, 1) := by decide +kernel
theorem dX4_putInstant_8 : decode cX4_putInstant 8 = .ok (.lload_n 2, 1) := by decide +kernel
theorem dX4_putInstant_9 : decode cX4_putInstant 9 = .ok (.ldc2_w 42, 3) := by decide +kernel
theorem dX4_putInstant_12 : decode cX4_putInstant 12 = .ok (.lrem, 1) := by decide +kernel
theorem dX4_putInstant_13 : decode cX4_putInstant 13 = .ok (.l2i, 1) := by decide +kernel
theorem dX4_putInstant_14 : decode cX4_putInstant 14 = .ok (.invokevirtual 44, 3) := by decide +kernel
theorem dX4_putInstant_17 : decode cX4_putInstant 17 = .ok (.return_, 1) := by decide +kernel
theorem dX4_putSpan_0 : decode cX4_putSpan 0 = .ok (.iload_n 1, 1) := by decide +kernel
theorem dX4_putSpan_1 : decode cX4_putSpan 1 = .ok (.invokestatic 27, 3) := by decide +kernel
theorem dX4_putSpan_4 : decode cX4_putSpan 4 = .ok (.ifCond .eq 25, 3) := by decide +kernel
theorem dX4_putSpan_7 : decode cX4_putSpan 7 = .ok (.aload_n 0, 1) := by decide +kernel
theorem dX4_putSpan_8 : decode cX4_putSpan 8 = .ok (.getfield 18, 3) := by decide +kernel
theorem dX4_putSpan_11 : decode cX4_putSpan 11 = .ok (.iload_n 1, 1) := by decide +kernel
theorem dX4_putSpan_12 : decode cX4_putSpan 12 = .ok (.iload_n 2, 1) := by decide +kernel
theorem dX4_putSpan_13 : decode cX4_putSpan 13 = .ok (.iastore, 1) := by decide +kernel
theorem dX4_putSpan_14 : decode cX4_putSpan 14 = .ok (.aload_n 0, 1) := by decide +kernel
theorem dX4_putSpan_15 : decode cX4_putSpan 15 = .ok (.getfield 21, 3) := by decide +kernel
theorem dX4_putSpan_18 : decode cX4_putSpan 18 = .ok (.iload_n 1, 1) := by decide +kernel
theorem dX4_putSpan_19 : decode cX4_putSpan 19 = .ok (.iload_n 3, 1) := by decide +kernel
theorem dX4_putSpan_20 : decode cX4_putSpan 20 = .ok (.iastore, 1) := by decide +kernel
theorem dX4_putSpan_21 : decode cX4_putSpan 21 = .ok (.aload_n 0, 1) := by decide +kernel
theorem dX4_putSpan_22 : decode cX4_putSpan 22 = .ok (.getfield 24, 3) := by decide +kernel
theorem dX4_putSpan_25 : decode cX4_putSpan 25 = .ok (.iload_n 1, 1) := by decide +kernel
theorem dX4_putSpan_26 : decode cX4_putSpan 26 = .ok (.iload 4, 2) := by decide +kernel
theorem dX4_putSpan_28 : decode cX4_putSpan 28 = .ok (.iastore, 1) := by decide +kernel
theorem dX4_putSpan_29 : decode cX4_putSpan 29 = .ok (.return_, 1) := by decide +kernel
theorem dX4_becomes_0 : decode cX4_becomes 0 = .ok (.iconst 0, 1) := by decide +kernel
theorem dX4_becomes_1 : decode cX4_becomes 1 = .ok (.istore_n 2, 1) := by decide +kernel
theorem dX4_becomes_2 : decode cX4_becomes 2 = .ok (.iload_n 2, 1) := by decide +kernel
theorem dX4_becomes_3 : decode cX4_becomes 3 = .ok (.bipush 8, 2) := by decide +kernel
theorem dX4_becomes_5 : decode cX4_becomes 5 = .ok (.if_icmp .ge 44, 3) := by decide +kernel
theorem dX4_becomes_8 : decode cX4_becomes 8 = .ok (.aload_n 0, 1) := by decide +kernel
theorem dX4_becomes_9 : decode cX4_becomes 9 = .ok (.iload_n 2, 1) := by decide +kernel
theorem dX4_becomes_10 : decode cX4_becomes 10 = .ok (.aload_n 1, 1) := by decide +kernel
theorem dX4_becomes_11 : decode cX4_becomes 11 = .ok (.iload_n 2, 1) := by decide +kernel
theorem dX4_becomes_12 : decode cX4_becomes 12 = .ok (.invokevirtual 31, 3) := by decide +kernel
theorem dX4_becomes_15 : decode cX4_becomes 15 = .ok (.aload_n 1, 1) := by decide +kernel
theorem dX4_becomes_16 : decode cX4_becomes 16 = .ok (.iload_n 2, 1) := by decide +kernel
theorem dX4_becomes_17 : decode cX4_becomes 17 = .ok (.invokevirtual 35, 3) := by decide +kernel
theorem dX4_becomes_20 : decode cX4_becomes 20 = .ok (.invokevirtual 44, 3) := by decide +kernel
theorem dX4_becomes_23 : decode cX4_becomes 23 = .ok (.aload_n 0, 1) := by decide +kernel
theorem dX4_becomes_24 : decode cX4_becomes 24 = .ok (.iload_n 2, 1) := by decide +kernel
theorem dX4_becomes_25 : decode cX4_becomes 25 = .ok (.aload_n 1, 1) := by decide +kernel
theorem dX4_becomes_26 : decode cX4_becomes 26 = .ok (.iload_n 2, 1) := by decide +kernel
theorem dX4_becomes_27 : decode cX4_becomes 27 = .ok (.invokevirtual 48, 3) := by decide +kernel
theorem dX4_becomes_30 : decode cX4_becomes 30 = .ok (.aload_n 1, 1) := by decide +kernel
theorem dX4_becomes_31 : decode cX4_becomes 31 = .ok (.iload_n 2, 1) := by decide +kernel
theorem dX4_becomes_32 : decode cX4_becomes 32 = .ok (.invokevirtual 51, 3) := by decide +kernel
theorem dX4_becomes_35 : decode cX4_becomes 35 = .ok (.aload_n 1, 1) := by decide +kernel
theorem dX4_becomes_36 : decode cX4_becomes 36 = .ok (.iload_n 2, 1) := by decide +kernel
theorem dX4_becomes_37 : decode cX4_becomes 37 = .ok (.invokevirtual 54, 3) := by decide +kernel
theorem dX4_becomes_40 : decode cX4_becomes 40 = .ok (.invokevirtual 57, 3) := by decide +kernel
theorem dX4_becomes_43 : decode cX4_becomes 43 = .ok (.iinc 2 1, 3) := by decide +kernel
theorem dX4_becomes_46 : decode cX4_becomes 46 = .ok (.goto (-44), 3) := by decide +kernel
theorem dX4_becomes_49 : decode cX4_becomes 49 = .ok (.return_, 1) := by decide +kernel
theorem dX5_init_0 : decode cX5_init 0 = .ok (.aload_n 0, 1) := by decide +kernel
theorem dX5_init_1 : decode cX5_init 1 = .ok (.invokespecial 3, 3) := by decide +kernel
theorem dX5_init_4 : decode cX5_init 4 = .ok (.return_, 1) := by decide +kernel
theorem dX5_wrongAt_0 : decode cX5_wrongAt 0 = .ok (.aload_n 0, 1) := by decide +kernel
theorem dX5_wrongAt_1 : decode cX5_wrongAt 1 = .ok (.iconst 0, 1) := by decide +kernel
theorem dX5_wrongAt_2 : decode cX5_wrongAt 2 = .ok (.putfield 9, 3) := by decide +kernel
theorem dX5_wrongAt_5 : decode cX5_wrongAt 5 = .ok (.aload_n 0, 1) := by decide +kernel
theorem dX5_wrongAt_6 : decode cX5_wrongAt 6 = .ok (.iconst 0, 1) := by decide +kernel
theorem dX5_wrongAt_7 : decode cX5_wrongAt 7 = .ok (.putfield 15, 3) := by decide +kernel
theorem dX5_wrongAt_10 : decode cX5_wrongAt 10 = .ok (.aload_n 0, 1) := by decide +kernel
theorem dX5_wrongAt_11 : decode cX5_wrongAt 11 = .ok (.iconst 0, 1) := by decide +kernel
theorem dX5_wrongAt_12 : decode cX5_wrongAt 12 = .ok (.putfield 18, 3) := by decide +kernel
theorem dX5_wrongAt_15 : decode cX5_wrongAt 15 = .ok (.iconst (-1), 1) := by decide +kernel
theorem dX5_wrongAt_16 : decode cX5_wrongAt 16 = .ok (.istore_n 2, 1) := by decide +kernel
theorem dX5_wrongAt_17 : decode cX5_wrongAt 17 = .ok (.iconst 0, 1) := by decide +kernel
theorem dX5_wrongAt_18 : decode cX5_wrongAt 18 = .ok (.istore_n 3, 1) := by decide +kernel
theorem dX5_wrongAt_19 : decode cX5_wrongAt 19 = .ok (.iconst 0, 1) := by decide +kernel
theorem dX5_wrongAt_20 : decode cX5_wrongAt 20 = .ok (.istore 4, 2) := by decide +kernel
theorem dX5_wrongAt_22 : decode cX5_wrongAt 22 = .ok (.iconst 0, 1) := by decide +kernel
theorem dX5_wrongAt_23 : decode cX5_wrongAt 23 = .ok (.istore 5, 2) := by decide +kernel
theorem dX5_wrongAt_25 : decode cX5_wrongAt 25 = .ok (.iconst 0, 1) := by decide +kernel
theorem dX5_wrongAt_26 : decode cX5_wrongAt 26 = .ok (.istore 6, 2) := by decide +kernel
theorem dX5_wrongAt_28 : decode cX5_wrongAt 28 = .ok (.iload 6, 2) := by decide +kernel
theorem dX5_wrongAt_30 : decode cX5_wrongAt 30 = .ok (.aload_n 1, 1) := by decide +kernel
theorem dX5_wrongAt_31 : decode cX5_wrongAt 31 = .ok (.invokevirtual 21, 3) := by decide +kernel
theorem dX5_wrongAt_34 : decode cX5_wrongAt 34 = .ok (.if_icmp .ge 150, 3) := by decide +kernel
theorem dX5_wrongAt_37 : decode cX5_wrongAt 37 = .ok (.aload_n 1, 1) := by decide +kernel
theorem dX5_wrongAt_38 : decode cX5_wrongAt 38 = .ok (.iload 6, 2) := by decide +kernel
theorem dX5_wrongAt_40 : decode cX5_wrongAt 40 = .ok (.invokevirtual 27, 3) := by decide +kernel
theorem dX5_wrongAt_43 : decode cX5_wrongAt 43 = .ok (.istore 7, 2) := by decide +kernel
theorem dX5_wrongAt_45 : decode cX5_wrongAt 45 = .ok (.iload_n 2, 1) := by decide +kernel
theorem dX5_wrongAt_46 : decode cX5_wrongAt 46 = .ok (.bipush 6, 2) := by decide +kernel
theorem dX5_wrongAt_48 : decode cX5_wrongAt 48 = .ok (.if_icmp .ne 6, 3) := by decide +kernel
theorem dX5_wrongAt_51 : decode cX5_wrongAt 51 = .ok (.iload 6, 2) := by decide +kernel
theorem dX5_wrongAt_53 : decode cX5_wrongAt 53 = .ok (.ireturn, 1) := by decide +kernel
theorem dX5_wrongAt_54 : decode cX5_wrongAt 54 = .ok (.iload 7, 2) := by decide +kernel
theorem dX5_wrongAt_56 : decode cX5_wrongAt 56 = .ok (.bipush 48, 2) := by decide +kernel
theorem dX5_wrongAt_58 : decode cX5_wrongAt 58 = .ok (.if_icmp .lt 45, 3) := by decide +kernel
theorem dX5_wrongAt_61 : decode cX5_wrongAt 61 = .ok (.iload 7, 2) := by decide +kernel
theorem dX5_wrongAt_63 : decode cX5_wrongAt 63 = .ok (.bipush 57, 2) := by decide +kernel
theorem dX5_wrongAt_65 : decode cX5_wrongAt 65 = .ok (.if_icmp .gt 38, 3) := by decide +kernel
theorem dX5_wrongAt_68 : decode cX5_wrongAt 68 = .ok (.iload 4, 2) := by decide +kernel
theorem dX5_wrongAt_70 : decode cX5_wrongAt 70 = .ok (.iconst 5, 1) := by decide +kernel
theorem dX5_wrongAt_71 : decode cX5_wrongAt 71 = .ok (.if_icmp .eq 12, 3) := by decide +kernel
theorem dX5_wrongAt_74 : decode cX5_wrongAt 74 = .ok (.iload 4, 2) := by decide +kernel
theorem dX5_wrongAt_76 : decode cX5_wrongAt 76 = .ok (.ifCond .le 10, 3) := by decide +kernel
theorem dX5_wrongAt_79 : decode cX5_wrongAt 79 = .ok (.iload_n 3, 1) := by decide +kernel
theorem dX5_wrongAt_80 : decode cX5_wrongAt 80 = .ok (.ifCond .ne 6, 3) := by decide +kernel
theorem dX5_wrongAt_83 : decode cX5_wrongAt 83 = .ok (.iload 6, 2) := by decide +kernel
theorem dX5_wrongAt_85 : decode cX5_wrongAt 85 = .ok (.ireturn, 1) := by decide +kernel
theorem dX5_wrongAt_86 : decode cX5_wrongAt 86 = .ok (.iload_n 3, 1) := by decide +kernel
theorem dX5_wrongAt_87 : decode cX5_wrongAt 87 = .ok (.bipush 10, 2) := by decide +kernel
theorem dX5_wrongAt_89 : decode cX5_wrongAt 89 = .ok (.imul, 1) := by decide +kernel
theorem dX5_wrongAt_90 : decode cX5_wrongAt 90 = .ok (.iload 7, 2) := by decide +kernel
theorem dX5_wrongAt_92 : decode cX5_wrongAt 92 = .ok (.iadd, 1) := by decide +kernel
theorem dX5_wrongAt_93 : decode cX5_wrongAt 93 = .ok (.bipush 48, 2) := by decide +kernel
theorem dX5_wrongAt_95 : decode cX5_wrongAt 95 = .ok (.isub, 1) := by decide +kernel
theorem dX5_wrongAt_96 : decode cX5_wrongAt 96 = .ok (.istore_n 3, 1) := by decide +kernel
theorem dX5_wrongAt_97 : decode cX5_wrongAt 97 = .ok (.iinc 4 1, 3) := by decide +kernel
theorem dX5_wrongAt_100 : decode cX5_wrongAt 100 = .ok (.goto 78, 3) := by decide +kernel
theorem dX5_wrongAt_103 : decode cX5_wrongAt 103 = .ok (.iload 7, 2) := by decide +kernel
theorem dX5_wrongAt_105 : decode cX5_wrongAt 105 = .ok (.bipush 45, 2) := by decide +kernel
theorem dX5_wrongAt_107 : decode cX5_wrongAt 107 = .ok (.if_icmp .ne 22, 3) := by decide +kernel
theorem dX5_wrongAt_110 : decode cX5_wrongAt 110 = .ok (.iload 5, 2) := by decide +kernel
theorem dX5_wrongAt_112 : decode cX5_wrongAt 112 = .ok (.ifCond .ne 8, 3) := by decide +kernel
theorem dX5_wrongAt_115 : decode cX5_wrongAt 115 = .ok (.iload 4, 2) := by decide +kernel
theorem dX5_wrongAt_117 : decode cX5_wrongAt 117 = .ok (.ifCond .le 6, 3) := by decide +kernel
theorem dX5_wrongAt_120 : decode cX5_wrongAt 120 = .ok (.iload 6, 2) := by decide +kernel
theorem dX5_wrongAt_122 : decode cX5_wrongAt 122 = .ok (.ireturn, 1) := by decide +kernel
theorem dX5_wrongAt_123 : decode cX5_wrongAt 123 = .ok (.iconst 1, 1) := by decide +kernel
theorem dX5_wrongAt_124 : decode cX5_wrongAt 124 = .ok (.istore 5, 2) := by decide +kernel
theorem dX5_wrongAt_126 : decode cX5_wrongAt 126 = .ok (.goto 52, 3) := by decide +kernel
theorem dX5_wrongAt_129 : decode cX5_wrongAt 129 = .ok (.iload 7, 2) := by decide +kernel
theorem dX5_wrongAt_131 : decode cX5_wrongAt 131 = .ok (.invokestatic 31, 3) := by decide +kernel
theorem dX5_wrongAt_134 : decode cX5_wrongAt 134 = .ok (.istore 8, 2) := by decide +kernel
theorem dX5_wrongAt_136 : decode cX5_wrongAt 136 = .ok (.iload 4, 2) := by decide +kernel
theorem dX5_wrongAt_138 : decode cX5_wrongAt 138 = .ok (.ifCond .eq 9, 3) := by decide +kernel
theorem dX5_wrongAt_141 : decode cX5_wrongAt 141 = .ok (.iload 8, 2) := by decide +kernel
theorem dX5_wrongAt_143 : decode cX5_wrongAt 143 = .ok (.iload_n 2, 1) := by decide +kernel
theorem dX5_wrongAt_144 : decode cX5_wrongAt 144 = .ok (.if_icmp .gt 6, 3) := by decide +kernel
theorem dX5_wrongAt_147 : decode cX5_wrongAt 147 = .ok (.iload 6, 2) := by decide +kernel
theorem dX5_wrongAt_149 : decode cX5_wrongAt 149 = .ok (.ireturn, 1) := by decide +kernel
theorem dX5_wrongAt_150 : decode cX5_wrongAt 150 = .ok (.aload_n 0, 1) := by decide +kernel
theorem dX5_wrongAt_151 : decode cX5_wrongAt 151 = .ok (.iload 8, 2) := by decide +kernel
theorem dX5_wrongAt_153 : decode cX5_wrongAt 153 = .ok (.iload 5, 2) := by decide +kernel
theorem dX5_wrongAt_155 : decode cX5_wrongAt 155 = .ok (.ifCond .eq 8, 3) := by decide +kernel
theorem dX5_wrongAt_158 : decode cX5_wrongAt 158 = .ok (.iload_n 3, 1) := by decide +kernel
theorem dX5_wrongAt_159 : decode cX5_wrongAt 159 = .ok (.ineg, 1) := by decide +kernel
theorem dX5_wrongAt_160 : decode cX5_wrongAt 160 = .ok (.goto 4, 3) := by decide +kernel
theorem dX5_wrongAt_163 : decode cX5_wrongAt 163 = .ok (.iload_n 3, 1) := by decide +kernel
theorem dX5_wrongAt_164 : decode cX5_wrongAt 164 = .ok (.invokevirtual 34, 3) := by decide +kernel
theorem dX5_wrongAt_167 : decode cX5_wrongAt 167 = .ok (.iload 8, 2) := by decide +kernel
theorem dX5_wrongAt_169 : decode cX5_wrongAt 169 = .ok (.istore_n 2, 1) := by decide +kernel
theorem dX5_wrongAt_170 : decode cX5_wrongAt 170 = .ok (.iconst 0, 1) := by decide +kernel
theorem dX5_wrongAt_171 : decode cX5_wrongAt 171 = .ok (.istore_n 3, 1) := by decide +kernel
theorem dX5_wrongAt_172 : decode cX5_wrongAt 172 = .ok (.iconst 0, 1) := by decide +kernel
theorem dX5_wrongAt_173 : decode cX5_wrongAt 173 = .ok (.istore 4, 2) := by decide +kernel
theorem dX5_wrongAt_175 : decode cX5_wrongAt 175 = .ok (.iconst 0, 1) := by decide +kernel
theorem dX5_wrongAt_176 : decode cX5_wrongAt 176 = .ok (.istore 5, 2) := by decide +kernel
theorem dX5_wrongAt_178 : decode cX5_wrongAt 178 = .ok (.iinc 6 1, 3) := by decide +kernel
theorem dX5_wrongAt_181 : decode cX5_wrongAt 181 = .ok (.goto (-153), 3) := by decide +kernel
theorem dX5_wrongAt_184 : decode cX5_wrongAt 184 = .ok (.iload_n 2, 1) := by decide +kernel
theorem dX5_wrongAt_185 : decode cX5_wrongAt 185 = .ok (.iconst (-1), 1) := by decide +kernel
theorem dX5_wrongAt_186 : decode cX5_wrongAt 186 = .ok (.if_icmp .eq 13, 3) := by decide +kernel
theorem dX5_wrongAt_189 : decode cX5_wrongAt 189 = .ok (.iload 5, 2) := by decide +kernel
theorem dX5_wrongAt_191 : decode cX5_wrongAt 191 = .ok (.ifCond .ne 8, 3) := by decide +kernel
theorem dX5_wrongAt_194 : decode cX5_wrongAt 194 = .ok (.iload 4, 2) := by decide +kernel
theorem dX5_wrongAt_196 : decode cX5_wrongAt 196 = .ok (.ifCond .le 10, 3) := by decide +kernel
theorem dX5_wrongAt_199 : decode cX5_wrongAt 199 = .ok (.aload_n 1, 1) := by decide +kernel
theorem dX5_wrongAt_200 : decode cX5_wrongAt 200 = .ok (.invokevirtual 21, 3) := by decide +kernel
theorem dX5_wrongAt_203 : decode cX5_wrongAt 203 = .ok (.goto 4, 3) := by decide +kernel
theorem dX5_wrongAt_206 : decode cX5_wrongAt 206 = .ok (.iconst (-1), 1) := by decide +kernel
theorem dX5_wrongAt_207 : decode cX5_wrongAt 207 = .ok (.ireturn, 1) := by decide +kernel
theorem dX5_unitOf_0 : decode cX5_unitOf 0 = .ok (.iload_n 0, 1) := by decide +kernel
theorem dX5_unitOf_1 : decode cX5_unitOf 1 = .ok (.tableswitch 118 100 121 #[109, 118, 118, 118, 111, 113, 118, 118, 118, 105, 118, 118, 118, 118, 118, 115, 118, 118, 118, 107, 118, 103], 103) := by decide +kernel
theorem dX5_unitOf_104 : decode cX5_unitOf 104 = .ok (.iconst 0, 1) := by decide +kernel
theorem dX5_unitOf_105 : decode cX5_unitOf 105 = .ok (.ireturn, 1) := by decide +kernel
theorem dX5_unitOf_106 : decode cX5_unitOf 106 = .ok (.iconst 1, 1) := by decide +kernel
theorem dX5_unitOf_107 : decode cX5_unitOf 107 = .ok (.ireturn, 1) := by decide +kernel
theorem dX5_unitOf_108 : decode cX5_unitOf 108 = .ok (.iconst 2, 1) := by decide +kernel
theorem dX5_unitOf_109 : decode cX5_unitOf 109 = .ok (.ireturn, 1) := by decide +kernel
theorem dX5_unitOf_110 : decode cX5_unitOf 110 = .ok (.iconst 3, 1) := by decide +kernel
theorem dX5_unitOf_111 : decode cX5_unitOf 111 = .ok (.ireturn, 1) := by decide +kernel
theorem dX5_unitOf_112 : decode cX5_unitOf 112 = .ok (.iconst 4, 1) := by decide +kernel
theorem dX5_unitOf_113 : decode cX5_unitOf 113 = .ok (.ireturn, 1) := by decide +kernel
theorem dX5_unitOf_114 : decode cX5_unitOf 114 = .ok (.iconst 5, 1) := by decide +kernel
theorem dX5_unitOf_115 : decode cX5_unitOf 115 = .ok (.ireturn, 1) := by decide +kernel
theorem dX5_unitOf_116 : decode cX5_unitOf 116 = .ok (.bipush 6, 2) := by decide +kernel
theorem dX5_unitOf_118 : decode cX5_unitOf 118 = .ok (.ireturn, 1) := by decide +kernel
theorem dX5_unitOf_119 : decode cX5_unitOf 119 = .ok (.iconst (-1), 1) := by decide +kernel
theorem dX5_unitOf_120 : decode cX5_unitOf 120 = .ok (.ireturn, 1) := by decide +kernel
theorem dX5_take_0 : decode cX5_take 0 = .ok (.iload_n 1, 1) := by decide +kernel
theorem dX5_take_1 : decode cX5_take 1 = .ok (.tableswitch 130 0 5 #[39, 55, 68, 84, 97, 114], 39) := by decide +kernel
theorem dX5_take_40 : decode cX5_take 40 = .ok (.aload_n 0, 1) := by decide +kernel
theorem dX5_take_41 : decode cX5_take 41 = .ok (.dup, 1) := by decide +kernel
theorem dX5_take_42 : decode cX5_take 42 = .ok (.getfield 9, 3) := by decide +kernel
theorem dX5_take_45 : decode cX5_take 45 = .ok (.bipush 12, 2) := by decide +kernel
theorem dX5_take_47 : decode cX5_take 47 = .ok (.iload_n 2, 1) := by decide +kernel
theorem dX5_take_48 : decode cX5_take 48 = .ok (.imul, 1) := by decide +kernel
theorem dX5_take_49 : decode cX5_take 49 = .ok (.iadd, 1) := by decide +kernel
theorem dX5_take_50 : decode cX5_take 50 = .ok (.putfield 9, 3) := by decide +kernel
theorem dX5_take_53 : decode cX5_take 53 = .ok (.goto 88, 3) := by decide +kernel
theorem dX5_take_56 : decode cX5_take 56 = .ok (.aload_n 0, 1) := by decide +kernel
theorem dX5_take_57 : decode cX5_take 57 = .ok (.dup, 1) := by decide +kernel
theorem dX5_take_58 : decode cX5_take 58 = .ok (.getfield 9, 3) := by decide +kernel
theorem dX5_take_61 : decode cX5_take 61 = .ok (.iload_n 2, 1) := by decide +kernel
theorem dX5_take_62 : decode cX5_take 62 = .ok (.iadd, 1) := by decide +kernel
theorem dX5_take_63 : decode cX5_take 63 = .ok (.putfield 9, 3) := by decide +kernel
theorem dX5_take_66 : decode cX5_take 66 = .ok (.goto 75, 3) := by decide +kernel
theorem dX5_take_69 : decode cX5_take 69 = .ok (.aload_n 0, 1) := by decide +kernel
theorem dX5_take_70 : decode cX5_take 70 = .ok (.dup, 1) := by decide +kernel
theorem dX5_take_71 : decode cX5_take 71 = .ok (.getfield 15, 3) := by decide +kernel
theorem dX5_take_74 : decode cX5_take 74 = .ok (.bipush 7, 2) := by decide +kernel
theorem dX5_take_76 : decode cX5_take 76 = .ok (.iload_n 2, 1) := by decide +kernel
theorem dX5_take_77 : decode cX5_take 77 = .ok (.imul, 1) := by decide +kernel
theorem dX5_take_78 : decode cX5_take 78 = .ok (.iadd, 1) := by decide +kernel
theorem dX5_take_79 : decode cX5_take 79 = .ok (.putfield 15, 3) := by decide +kernel
theorem dX5_take_82 : decode cX5_take 82 = .ok (.goto 59, 3) := by decide +kernel
theorem dX5_take_85 : decode cX5_take 85 = .ok (.aload_n 0, 1) := by decide +kernel
theorem dX5_take_86 : decode cX5_take 86 = .ok (.dup, 1) := by decide +kernel
theorem dX5_take_87 : decode cX5_take 87 = .ok (.getfield 15, 3) := by decide +kernel
theorem dX5_take_90 : decode cX5_take 90 = .ok (.iload_n 2, 1) := by decide +kernel
theorem dX5_take_91 : decode cX5_take 91 = .ok (.iadd, 1) := by decide +kernel
theorem dX5_take_92 : decode cX5_take 92 = .ok (.putfield 15, 3) := by decide +kernel
theorem dX5_take_95 : decode cX5_take 95 = .ok (.goto 46, 3) := by decide +kernel
theorem dX5_take_98 : decode cX5_take 98 = .ok (.aload_n 0, 1) := by decide +kernel
theorem dX5_take_99 : decode cX5_take 99 = .ok (.dup, 1) := by decide +kernel
theorem dX5_take_100 : decode cX5_take 100 = .ok (.getfield 18, 3) := by decide +kernel
theorem dX5_take_103 : decode cX5_take 103 = .ok (.sipush 3600, 3) := by decide +kernel
theorem dX5_take_106 : decode cX5_take 106 = .ok (.iload_n 2, 1) := by decide +kernel
theorem dX5_take_107 : decode cX5_take 107 = .ok (.imul, 1) := by decide +kernel
theorem dX5_take_108 : decode cX5_take 108 = .ok (.iadd, 1) := by decide +kernel
theorem dX5_take_109 : decode cX5_take 109 = .ok (.putfield 18, 3) := by decide +kernel
theorem dX5_take_112 : decode cX5_take 112 = .ok (.goto 29, 3) := by decide +kernel
theorem dX5_take_115 : decode cX5_take 115 = .ok (.aload_n 0, 1) := by decide +kernel
theorem dX5_take_116 : decode cX5_take 116 = .ok (.dup, 1) := by decide +kernel
theorem dX5_take_117 : decode cX5_take 117 = .ok (.getfield 18, 3) := by decide +kernel
theorem dX5_take_120 : decode cX5_take 120 = .ok (.bipush 60, 2) := by decide +kernel
theorem dX5_take_122 : decode cX5_take 122 = .ok (.iload_n 2, 1) := by decide +kernel
theorem dX5_take_123 : decode cX5_take 123 = .ok (.imul, 1) := by decide +kernel
theorem dX5_take_124 : decode cX5_take 124 = .ok (.iadd, 1) := by decide +kernel
theorem dX5_take_125 : decode cX5_take 125 = .ok (.putfield 18, 3) := by decide +kernel
theorem dX5_take_128 : decode cX5_take 128 = .ok (.goto 13, 3) := by decide +kernel
theorem dX5_take_131 : decode cX5_take 131 = .ok (.aload_n 0, 1) := by decide +kernel
theorem dX5_take_132 : decode cX5_take 132 = .ok (.dup, 1) := by decide +kernel
theorem dX5_take_133 : decode cX5_take 133 = .ok (.getfield 18, 3) := by decide +kernel
theorem dX5_take_136 : decode cX5_take 136 = .ok (.iload_n 2, 1) := by decide +kernel
theorem dX5_take_137 : decode cX5_take 137 = .ok (.iadd, 1) := by decide +kernel
theorem dX5_take_138 : decode cX5_take 138 = .ok (.putfield 18, 3) := by decide +kernel
