theorem dX5_take_141 : decode cX5_take 141 = .ok (.return_, 1) := by decide +kernel
theorem dX6_init_0 : decode cX6_init 0 = .ok (.aload_n 0, 1) := by decide +kernel
theorem dX6_init_1 : decode cX6_init 1 = .ok (.invokespecial 3, 3) := by decide +kernel
theorem dX6_init_4 : decode cX6_init 4 = .ok (.aload_n 0, 1) := by decide +kernel
theorem dX6_init_5 : decode cX6_init 5 = .ok (.bipush 100, 2) := by decide +kernel
theorem dX6_init_7 : decode cX6_init 7 = .ok (.newarray .int, 2) := by decide +kernel
theorem dX6_init_9 : decode cX6_init 9 = .ok (.putfield 9, 3) := by decide +kernel
theorem dX6_init_12 : decode cX6_init 12 = .ok (.aload_n 0, 1) := by decide +kernel
theorem dX6_init_13 : decode cX6_init 13 = .ok (.iconst 0, 1) := by decide +kernel
theorem dX6_init_14 : decode cX6_init 14 = .ok (.putfield 15, 3) := by decide +kernel
theorem dX6_init_17 : decode cX6_init 17 = .ok (.return_, 1) := by decide +kernel
theorem dX6_length_0 : decode cX6_length 0 = .ok (.aload_n 0, 1) := by decide +kernel
theorem dX6_length_1 : decode cX6_length 1 = .ok (.getfield 15, 3) := by decide +kernel
theorem dX6_length_4 : decode cX6_length 4 = .ok (.ireturn, 1) := by decide +kernel
theorem dX6_at_0 : decode cX6_at 0 = .ok (.iload_n 1, 1) := by decide +kernel
theorem dX6_at_1 : decode cX6_at 1 = .ok (.ifCond .lt 29, 3) := by decide +kernel
theorem dX6_at_4 : decode cX6_at 4 = .ok (.iload_n 1, 1) := by decide +kernel
theorem dX6_at_5 : decode cX6_at 5 = .ok (.aload_n 0, 1) := by decide +kernel
theorem dX6_at_6 : decode cX6_at 6 = .ok (.getfield 15, 3) := by decide +kernel
theorem dX6_at_9 : decode cX6_at 9 = .ok (.if_icmp .ge 21, 3) := by decide +kernel
theorem dX6_at_12 : decode cX6_at 12 = .ok (.iload_n 1, 1) := by decide +kernel
theorem dX6_at_13 : decode cX6_at 13 = .ok (.aload_n 0, 1) := by decide +kernel
theorem dX6_at_14 : decode cX6_at 14 = .ok (.getfield 9, 3) := by decide +kernel
theorem dX6_at_17 : decode cX6_at 17 = .ok (.arraylength, 1) := by decide +kernel
theorem dX6_at_18 : decode cX6_at 18 = .ok (.if_icmp .ge 12, 3) := by decide +kernel
theorem dX6_at_21 : decode cX6_at 21 = .ok (.aload_n 0, 1) := by decide +kernel
theorem dX6_at_22 : decode cX6_at 22 = .ok (.getfield 9, 3) := by decide +kernel
theorem dX6_at_25 : decode cX6_at 25 = .ok (.iload_n 1, 1) := by decide +kernel
theorem dX6_at_26 : decode cX6_at 26 = .ok (.iaload, 1) := by decide +kernel
theorem dX6_at_27 : decode cX6_at 27 = .ok (.goto 4, 3) := by decide +kernel
theorem dX6_at_30 : decode cX6_at 30 = .ok (.iconst (-1), 1) := by decide +kernel
theorem dX6_at_31 : decode cX6_at 31 = .ok (.ireturn, 1) := by decide +kernel
theorem dX6_cut_0 : decode cX6_cut 0 = .ok (.iload_n 1, 1) := by decide +kernel
theorem dX6_cut_1 : decode cX6_cut 1 = .ok (.ifCond .lt 16, 3) := by decide +kernel
theorem dX6_cut_4 : decode cX6_cut 4 = .ok (.iload_n 1, 1) := by decide +kernel
theorem dX6_cut_5 : decode cX6_cut 5 = .ok (.aload_n 0, 1) := by decide +kernel
theorem dX6_cut_6 : decode cX6_cut 6 = .ok (.getfield 15, 3) := by decide +kernel
theorem dX6_cut_9 : decode cX6_cut 9 = .ok (.if_icmp .gt 8, 3) := by decide +kernel
theorem dX6_cut_12 : decode cX6_cut 12 = .ok (.aload_n 0, 1) := by decide +kernel
theorem dX6_cut_13 : decode cX6_cut 13 = .ok (.iload_n 1, 1) := by decide +kernel
theorem dX6_cut_14 : decode cX6_cut 14 = .ok (.putfield 15, 3) := by decide +kernel
theorem dX6_cut_17 : decode cX6_cut 17 = .ok (.return_, 1) := by decide +kernel
theorem dX6_put_0 : decode cX6_put 0 = .ok (.aload_n 0, 1) := by decide +kernel
theorem dX6_put_1 : decode cX6_put 1 = .ok (.getfield 15, 3) := by decide +kernel
theorem dX6_put_4 : decode cX6_put 4 = .ok (.ifCond .lt 35, 3) := by decide +kernel
theorem dX6_put_7 : decode cX6_put 7 = .ok (.aload_n 0, 1) := by decide +kernel
theorem dX6_put_8 : decode cX6_put 8 = .ok (.getfield 15, 3) := by decide +kernel
theorem dX6_put_11 : decode cX6_put 11 = .ok (.aload_n 0, 1) := by decide +kernel
theorem dX6_put_12 : decode cX6_put 12 = .ok (.getfield 9, 3) := by decide +kernel
theorem dX6_put_15 : decode cX6_put 15 = .ok (.arraylength, 1) := by decide +kernel
theorem dX6_put_16 : decode cX6_put 16 = .ok (.if_icmp .ge 23, 3) := by decide +kernel
theorem dX6_put_19 : decode cX6_put 19 = .ok (.aload_n 0, 1) := by decide +kernel
theorem dX6_put_20 : decode cX6_put 20 = .ok (.getfield 9, 3) := by decide +kernel
theorem dX6_put_23 : decode cX6_put 23 = .ok (.aload_n 0, 1) := by decide +kernel
theorem dX6_put_24 : decode cX6_put 24 = .ok (.getfield 15, 3) := by decide +kernel
theorem dX6_put_27 : decode cX6_put 27 = .ok (.iload_n 1, 1) := by decide +kernel
theorem dX6_put_28 : decode cX6_put 28 = .ok (.iastore, 1) := by decide +kernel
theorem dX6_put_29 : decode cX6_put 29 = .ok (.aload_n 0, 1) := by decide +kernel
theorem dX6_put_30 : decode cX6_put 30 = .ok (.dup, 1) := by decide +kernel
theorem dX6_put_31 : decode cX6_put 31 = .ok (.getfield 15, 3) := by decide +kernel
theorem dX6_put_34 : decode cX6_put 34 = .ok (.iconst 1, 1) := by decide +kernel
theorem dX6_put_35 : decode cX6_put 35 = .ok (.iadd, 1) := by decide +kernel
theorem dX6_put_36 : decode cX6_put 36 = .ok (.putfield 15, 3) := by decide +kernel
theorem dX6_put_39 : decode cX6_put 39 = .ok (.return_, 1) := by decide +kernel
theorem dX6_putTwo_0 : decode cX6_putTwo 0 = .ok (.aload_n 0, 1) := by decide +kernel
theorem dX6_putTwo_1 : decode cX6_putTwo 1 = .ok (.bipush 48, 2) := by decide +kernel
theorem dX6_putTwo_3 : decode cX6_putTwo 3 = .ok (.iload_n 1, 1) := by decide +kernel
theorem dX6_putTwo_4 : decode cX6_putTwo 4 = .ok (.bipush 10, 2) := by decide +kernel
theorem dX6_putTwo_6 : decode cX6_putTwo 6 = .ok (.idiv, 1) := by decide +kernel
theorem dX6_putTwo_7 : decode cX6_putTwo 7 = .ok (.iadd, 1) := by decide +kernel
theorem dX6_putTwo_8 : decode cX6_putTwo 8 = .ok (.invokevirtual 19, 3) := by decide +kernel
theorem dX6_putTwo_11 : decode cX6_putTwo 11 = .ok (.aload_n 0, 1) := by decide +kernel
theorem dX6_putTwo_12 : decode cX6_putTwo 12 = .ok (.bipush 48, 2) := by decide +kernel
theorem dX6_putTwo_14 : decode cX6_putTwo 14 = .ok (.iload_n 1, 1) := by decide +kernel
theorem dX6_putTwo_15 : decode cX6_putTwo 15 = .ok (.bipush 10, 2) := by decide +kernel
theorem dX6_putTwo_17 : decode cX6_putTwo 17 = .ok (.irem, 1) := by decide +kernel
theorem dX6_putTwo_18 : decode cX6_putTwo 18 = .ok (.iadd, 1) := by decide +kernel
theorem dX6_putTwo_19 : decode cX6_putTwo 19 = .ok (.invokevirtual 19, 3) := by decide +kernel
theorem dX6_putTwo_22 : decode cX6_putTwo 22 = .ok (.return_, 1) := by decide +kernel
theorem dX6_putPart_0 : decode cX6_putPart 0 = .ok (.iload_n 1, 1) := by decide +kernel
theorem dX6_putPart_1 : decode cX6_putPart 1 = .ok (.ifCond .ne 4, 3) := by decide +kernel
theorem dX6_putPart_4 : decode cX6_putPart 4 = .ok (.return_, 1) := by decide +kernel
theorem dX6_putPart_5 : decode cX6_putPart 5 = .ok (.iload_n 1, 1) := by decide +kernel
theorem dX6_putPart_6 : decode cX6_putPart 6 = .ok (.ifCond .ge 9, 3) := by decide +kernel
theorem dX6_putPart_9 : decode cX6_putPart 9 = .ok (.aload_n 0, 1) := by decide +kernel
theorem dX6_putPart_10 : decode cX6_putPart 10 = .ok (.bipush 45, 2) := by decide +kernel
theorem dX6_putPart_12 : decode cX6_putPart 12 = .ok (.invokevirtual 19, 3) := by decide +kernel
theorem dX6_putPart_15 : decode cX6_putPart 15 = .ok (.iload_n 1, 1) := by decide +kernel
theorem dX6_putPart_16 : decode cX6_putPart 16 = .ok (.invokestatic 23, 3) := by decide +kernel
theorem dX6_putPart_19 : decode cX6_putPart 19 = .ok (.istore_n 3, 1) := by decide +kernel
theorem dX6_putPart_20 : decode cX6_putPart 20 = .ok (.sipush 10000, 3) := by decide +kernel
theorem dX6_putPart_23 : decode cX6_putPart 23 = .ok (.istore 4, 2) := by decide +kernel
theorem dX6_putPart_25 : decode cX6_putPart 25 = .ok (.iload 4, 2) := by decide +kernel
theorem dX6_putPart_27 : decode cX6_putPart 27 = .ok (.ifCond .le 33, 3) := by decide +kernel
theorem dX6_putPart_30 : decode cX6_putPart 30 = .ok (.iload_n 3, 1) := by decide +kernel
theorem dX6_putPart_31 : decode cX6_putPart 31 = .ok (.iload 4, 2) := by decide +kernel
theorem dX6_putPart_33 : decode cX6_putPart 33 = .ok (.if_icmp .lt 17, 3) := by decide +kernel
theorem dX6_putPart_36 : decode cX6_putPart 36 = .ok (.aload_n 0, 1) := by decide +kernel
theorem dX6_putPart_37 : decode cX6_putPart 37 = .ok (.bipush 48, 2) := by decide +kernel
theorem dX6_putPart_39 : decode cX6_putPart 39 = .ok (.iload_n 3, 1) := by decide +kernel
theorem dX6_putPart_40 : decode cX6_putPart 40 = .ok (.iload 4, 2) := by decide +kernel
theorem dX6_putPart_42 : decode cX6_putPart 42 = .ok (.idiv, 1) := by decide +kernel
theorem dX6_putPart_43 : decode cX6_putPart 43 = .ok (.bipush 10, 2) := by decide +kernel
theorem dX6_putPart_45 : decode cX6_putPart 45 = .ok (.irem, 1) := by decide +kernel
theorem dX6_putPart_46 : decode cX6_putPart 46 = .ok (.iadd, 1) := by decide +kernel
theorem dX6_putPart_47 : decode cX6_putPart 47 = .ok (.invokevirtual 19, 3) := by decide +kernel
theorem dX6_putPart_50 : decode cX6_putPart 50 = .ok (.iload 4, 2) := by decide +kernel
theorem dX6_putPart_52 : decode cX6_putPart 52 = .ok (.bipush 10, 2) := by decide +kernel
theorem dX6_putPart_54 : decode cX6_putPart 54 = .ok (.idiv, 1) := by decide +kernel
theorem dX6_putPart_55 : decode cX6_putPart 55 = .ok (.istore 4, 2) := by decide +kernel
theorem dX6_putPart_57 : decode cX6_putPart 57 = .ok (.goto (-32), 3) := by decide +kernel
theorem dX6_putPart_60 : decode cX6_putPart 60 = .ok (.aload_n 0, 1) := by decide +kernel
theorem dX6_putPart_61 : decode cX6_putPart 61 = .ok (.iload_n 2, 1) := by decide +kernel
theorem dX6_putPart_62 : decode cX6_putPart 62 = .ok (.invokevirtual 19, 3) := by decide +kernel
theorem dX6_putPart_65 : decode cX6_putPart 65 = .ok (.return_, 1) := by decide +kernel
theorem dX7_init_0 : decode cX7_init 0 = .ok (.aload_n 0, 1) := by decide +kernel
theorem dX7_init_1 : decode cX7_init 1 = .ok (.invokespecial 3, 3) := by decide +kernel
theorem dX7_init_4 : decode cX7_init 4 = .ok (.aload_n 0, 1) := by decide +kernel
theorem dX7_init_5 : decode cX7_init 5 = .ok (.new 9, 3) := by decide +kernel
theorem dX7_init_8 : decode cX7_init 8 = .ok (.dup, 1) := by decide +kernel
theorem dX7_init_9 : decode cX7_init 9 = .ok (.invokespecial 11, 3) := by decide +kernel
theorem dX7_init_12 : decode cX7_init 12 = .ok (.putfield 12, 3) := by decide +kernel
theorem dX7_init_15 : decode cX7_init 15 = .ok (.aload_n 0, 1) := by decide +kernel
theorem dX7_init_16 : decode cX7_init 16 = .ok (.new 9, 3) := by decide +kernel
theorem dX7_init_19 : decode cX7_init 19 = .ok (.dup, 1) := by decide +kernel
theorem dX7_init_20 : decode cX7_init 20 = .ok (.invokespecial 11, 3) := by decide +kernel
theorem dX7_init_23 : decode cX7_init 23 = .ok (.putfield 18, 3) := by decide +kernel
theorem dX7_init_26 : decode cX7_init 26 = .ok (.aload_n 0, 1) := by decide +kernel
theorem dX7_init_27 : decode cX7_init 27 = .ok (.new 9, 3) := by decide +kernel
theorem dX7_init_30 : decode cX7_init 30 = .ok (.dup, 1) := by decide +kernel
theorem dX7_init_31 : decode cX7_init 31 = .ok (.invokespecial 11, 3) := by decide +kernel
theorem dX7_init_34 : decode cX7_init 34 = .ok (.putfield 21, 3) := by decide +kernel
theorem dX7_init_37 : decode cX7_init 37 = .ok (.aload_n 0, 1) := by decide +kernel
theorem dX7_init_38 : decode cX7_init 38 = .ok (.new 9, 3) := by decide +kernel
theorem dX7_init_41 : decode cX7_init 41 = .ok (.dup, 1) := by decide +kernel
theorem dX7_init_42 : decode cX7_init 42 = .ok (.invokespecial 11, 3) := by decide +kernel
theorem dX7_init_45 : decode cX7_init 45 = .ok (.putfield 24, 3) := by decide +kernel
theorem dX7_init_48 : decode cX7_init 48 = .ok (.return_, 1) := by decide +kernel
theorem dX8_init_0 : decode cX8_init 0 = .ok (.aload_n 0, 1) := by decide +kernel
theorem dX8_init_1 : decode cX8_init 1 = .ok (.invokespecial 1, 3) := by decide +kernel
theorem dX8_init_4 : decode cX8_init 4 = .ok (.aload_n 0, 1) := by decide +kernel
theorem dX8_init_5 : decode cX8_init 5 = .ok (.bipush 16, 2) := by decide +kernel
theorem dX8_init_7 : decode cX8_init 7 = .ok (.newarray .long, 2) := by decide +kernel
theorem dX8_init_9 : decode cX8_init 9 = .ok (.putfield 7, 3) := by decide +kernel
theorem dX8_init_12 : decode cX8_init 12 = .ok (.return_, 1) := by decide +kernel
theorem dX9_init_0 : decode cX9_init 0 = .ok (.aload_n 0, 1) := by decide +kernel
theorem dX9_init_1 : decode cX9_init 1 = .ok (.invokespecial 1, 3) := by decide +kernel
theorem dX9_init_4 : decode cX9_init 4 = .ok (.aload_n 0, 1) := by decide +kernel
theorem dX9_init_5 : decode cX9_init 5 = .ok (.new 7, 3) := by decide +kernel
theorem dX9_init_8 : decode cX9_init 8 = .ok (.dup, 1) := by decide +kernel
theorem dX9_init_9 : decode cX9_init 9 = .ok (.invokespecial 9, 3) := by decide +kernel
theorem dX9_init_12 : decode cX9_init 12 = .ok (.putfield 10, 3) := by decide +kernel
theorem dX9_init_15 : decode cX9_init 15 = .ok (.aload_n 0, 1) := by decide +kernel
theorem dX9_init_16 : decode cX9_init 16 = .ok (.new 7, 3) := by decide +kernel
theorem dX9_init_19 : decode cX9_init 19 = .ok (.dup, 1) := by decide +kernel
theorem dX9_init_20 : decode cX9_init 20 = .ok (.invokespecial 9, 3) := by decide +kernel
theorem dX9_init_23 : decode cX9_init 23 = .ok (.putfield 16, 3) := by decide +kernel
theorem dX9_init_26 : decode cX9_init 26 = .ok (.aload_n 0, 1) := by decide +kernel
theorem dX9_init_27 : decode cX9_init 27 = .ok (.iconst 0, 1) := by decide +kernel
theorem dX9_init_28 : decode cX9_init 28 = .ok (.putfield 19, 3) := by decide +kernel
theorem dX9_init_31 : decode cX9_init 31 = .ok (.aload_n 0, 1) := by decide +kernel
theorem dX9_init_32 : decode cX9_init 32 = .ok (.new 23, 3) := by decide +kernel
theorem dX9_init_35 : decode cX9_init 35 = .ok (.dup, 1) := by decide +kernel
theorem dX9_init_36 : decode cX9_init 36 = .ok (.invokespecial 25, 3) := by decide +kernel
theorem dX9_init_39 : decode cX9_init 39 = .ok (.putfield 26, 3) := by decide +kernel
theorem dX9_init_42 : decode cX9_init 42 = .ok (.aload_n 0, 1) := by decide +kernel
theorem dX9_init_43 : decode cX9_init 43 = .ok (.new 30, 3) := by decide +kernel
theorem dX9_init_46 : decode cX9_init 46 = .ok (.dup, 1) := by decide +kernel
theorem dX9_init_47 : decode cX9_init 47 = .ok (.invokespecial 32, 3) := by decide +kernel
theorem dX9_init_50 : decode cX9_init 50 = .ok (.putfield 33, 3) := by decide +kernel
theorem dX9_init_53 : decode cX9_init 53 = .ok (.aload_n 0, 1) := by decide +kernel
theorem dX9_init_54 : decode cX9_init 54 = .ok (.new 30, 3) := by decide +kernel
theorem dX9_init_57 : decode cX9_init 57 = .ok (.dup, 1) := by decide +kernel
theorem dX9_init_58 : decode cX9_init 58 = .ok (.invokespecial 32, 3) := by decide +kernel
theorem dX9_init_61 : decode cX9_init 61 = .ok (.putfield 37, 3) := by decide +kernel
theorem dX9_init_64 : decode cX9_init 64 = .ok (.aload_n 0, 1) := by decide +kernel
theorem dX9_init_65 : decode cX9_init 65 = .ok (.new 40, 3) := by decide +kernel
theorem dX9_init_68 : decode cX9_init 68 = .ok (.dup, 1) := by decide +kernel
theorem dX9_init_69 : decode cX9_init 69 = .ok (.invokespecial 42, 3) := by decide +kernel
theorem dX9_init_72 : decode cX9_init 72 = .ok (.putfield 43, 3) := by decide +kernel
theorem dX9_init_75 : decode cX9_init 75 = .ok (.aload_n 0, 1) := by decide +kernel
theorem dX9_init_76 : decode cX9_init 76 = .ok (.new 47, 3) := by decide +kernel
theorem dX9_init_79 : decode cX9_init 79 = .ok (.dup, 1) := by decide +kernel
theorem dX9_init_80 : decode cX9_init 80 = .ok (.invokespecial 49, 3) := by decide +kernel
theorem dX9_init_83 : decode cX9_init 83 = .ok (.putfield 50, 3) := by decide +kernel
theorem dX9_init_86 : decode cX9_init 86 = .ok (.aload_n 0, 1) := by decide +kernel
theorem dX9_init_87 : decode cX9_init 87 = .ok (.new 54, 3) := by decide +kernel
theorem dX9_init_90 : decode cX9_init 90 = .ok (.dup, 1) := by decide +kernel
theorem dX9_init_91 : decode cX9_init 91 = .ok (.invokespecial 56, 3) := by decide +kernel
theorem dX9_init_94 : decode cX9_init 94 = .ok (.putfield 57, 3) := by decide +kernel
theorem dX9_init_97 : decode cX9_init 97 = .ok (.aload_n 0, 1) := by decide +kernel
theorem dX9_init_98 : decode cX9_init 98 = .ok (.new 54, 3) := by decide +kernel
theorem dX9_init_101 : decode cX9_init 101 = .ok (.dup, 1) := by decide +kernel
theorem dX9_init_102 : decode cX9_init 102 = .ok (.invokespecial 56, 3) := by decide +kernel
theorem dX9_init_105 : decode cX9_init 105 = .ok (.putfield 61, 3) := by decide +kernel
theorem dX9_init_108 : decode cX9_init 108 = .ok (.aload_n 0, 1) := by decide +kernel
theorem dX9_init_109 : decode cX9_init 109 = .ok (.new 64, 3) := by decide +kernel
theorem dX9_init_112 : decode cX9_init 112 = .ok (.dup, 1) := by decide +kernel
theorem dX9_init_113 : decode cX9_init 113 = .ok (.invokespecial 66, 3) := by decide +kernel
theorem dX9_init_116 : decode cX9_init 116 = .ok (.putfield 67, 3) := by decide +kernel
theorem dX9_init_119 : decode cX9_init 119 = .ok (.aload_n 0, 1) := by decide +kernel
theorem dX9_init_120 : decode cX9_init 120 = .ok (.new 71, 3) := by decide +kernel
theorem dX9_init_123 : decode cX9_init 123 = .ok (.dup, 1) := by decide +kernel
theorem dX9_init_124 : decode cX9_init 124 = .ok (.invokespecial 73, 3) := by decide +kernel
theorem dX9_init_127 : decode cX9_init 127 = .ok (.putfield 74, 3) := by decide +kernel
theorem dX9_init_130 : decode cX9_init 130 = .ok (.return_, 1) := by decide +kernel
theorem dX9_sign_0 : decode cX9_sign 0 = .ok (.aload_n 0, 1) := by decide +kernel
theorem dX9_sign_1 : decode cX9_sign 1 = .ok (.getfield 33, 3) := by decide +kernel
theorem dX9_sign_4 : decode cX9_sign 4 = .ok (.invokevirtual 78, 3) := by decide +kernel
theorem dX9_sign_7 : decode cX9_sign 7 = .ok (.iconst 4, 1) := by decide +kernel
theorem dX9_sign_8 : decode cX9_sign 8 = .ok (.iadd, 1) := by decide +kernel
theorem dX9_sign_9 : decode cX9_sign 9 = .ok (.bipush 100, 2) := by decide +kernel
theorem dX9_sign_11 : decode cX9_sign 11 = .ok (.if_icmp .le 5, 3) := by decide +kernel
theorem dX9_sign_14 : decode cX9_sign 14 = .ok (.iconst (-1), 1) := by decide +kernel
theorem dX9_sign_15 : decode cX9_sign 15 = .ok (.ireturn, 1) := by decide +kernel
theorem dX9_sign_16 : decode cX9_sign 16 = .ok (.aload_n 0, 1) := by decide +kernel
theorem dX9_sign_17 : decode cX9_sign 17 = .ok (.getfield 33, 3) := by decide +kernel
theorem dX9_sign_20 : decode cX9_sign 20 = .ok (.iload_n 1, 1) := by decide +kernel
theorem dX9_sign_21 : decode cX9_sign 21 = .ok (.bipush 24, 2) := by decide +kernel
theorem dX9_sign_23 : decode cX9_sign 23 = .ok (.iushr, 1) := by decide +kernel
theorem dX9_sign_24 : decode cX9_sign 24 = .ok (.sipush 255, 3) := by decide +kernel
theorem dX9_sign_27 : decode cX9_sign 27 = .ok (.iand, 1) := by decide +kernel
theorem dX9_sign_28 : decode cX9_sign 28 = .ok (.invokevirtual 82, 3) := by decide +kernel
theorem dX9_sign_31 : decode cX9_sign 31 = .ok (.aload_n 0, 1) := by decide +kernel
theorem dX9_sign_32 : decode cX9_sign 32 = .ok (.getfield 33, 3) := by decide +kernel
theorem dX9_sign_35 : decode cX9_sign 35 = .ok (.iload_n 1, 1) := by decide +kernel
theorem dX9_sign_36 : decode cX9_sign 36 = .ok (.bipush 16, 2) := by decide +kernel
theorem dX9_sign_38 : decode cX9_sign 38 = .ok (.iushr, 1) := by decide +kernel
theorem dX9_sign_39 : decode cX9_sign 39 = .ok (.sipush 255, 3) := by decide +kernel
theorem dX9_sign_42 : decode cX9_sign 42 = .ok (.iand, 1) := by decide +kernel
theorem dX9_sign_43 : decode cX9_sign 43 = .ok (.invokevirtual 82, 3) := by decide +kernel
theorem dX9_sign_46 : decode cX9_sign 46 = .ok (.aload_n 0, 1) := by decide +kernel
theorem dX9_sign_47 : decode cX9_sign 47 = .ok (.getfield 33, 3) := by decide +kernel
theorem dX9_sign_50 : decode cX9_sign 50 = .ok (.iload_n 1, 1) := by decide +kernel
theorem dX9_sign_51 : decode cX9_sign 51 = .ok (.bipush 8, 2) := by decide +kernel
theorem dX9_sign_53 : decode cX9_sign 53 = .ok (.iushr, 1) := by decide +kernel
theorem dX9_sign_54 : decode cX9_sign 54 = .ok (.sipush 255, 3) := by decide +kernel
theorem dX9_sign_57 : decode cX9_sign 57 = .ok (.iand, 1) := by decide +kernel
theorem dX9_sign_58 : decode cX9_sign 58 = .ok (.invokevirtual 82, 3) := by decide +kernel
theorem dX9_sign_61 : decode cX9_sign 61 = .ok (.aload_n 0, 1) := by decide +kernel
theorem dX9_sign_62 : decode cX9_sign 62 = .ok (.getfield 33, 3) := by decide +kernel
theorem dX9_sign_65 : decode cX9_sign 65 = .ok (.iload_n 1, 1) := by decide +kernel
theorem dX9_sign_66 : decode cX9_sign 66 = .ok (.sipush 255, 3) := by decide +kernel
theorem dX9_sign_69 : decode cX9_sign 69 = .ok (.iand, 1) := by decide +kernel
theorem dX9_sign_70 : decode cX9_sign 70 = .ok (.invokevirtual 82, 3) := by decide +kernel
theorem dX9_sign_73 : decode cX9_sign 73 = .ok (.aload_n 0, 1) := by decide +kernel
theorem dX9_sign_74 : decode cX9_sign 74 = .ok (.getfield 33, 3) := by decide +kernel
theorem dX9_sign_77 : decode cX9_sign 77 = .ok (.invokevirtual 78, 3) := by decide +kernel
theorem dX9_sign_80 : decode cX9_sign 80 = .ok (.ireturn, 1) := by decide +kernel
theorem dX9_end_0 : decode cX9_end 0 = .ok (.iload_n 1, 1) := by decide +kernel
theorem dX9_end_1 : decode cX9_end 1 = .ok (.ifCond .lt 14, 3) := by decide +kernel
theorem dX9_end_4 : decode cX9_end 4 = .ok (.iload_n 1, 1) := by decide +kernel
theorem dX9_end_5 : decode cX9_end 5 = .ok (.aload_n 0, 1) := by decide +kernel
theorem dX9_end_6 : decode cX9_end 6 = .ok (.getfield 33, 3) := by decide +kernel
theorem dX9_end_9 : decode cX9_end 9 = .ok (.invokevirtual 78, 3) := by decide +kernel
theorem dX9_end_12 : decode cX9_end 12 = .ok (.if_icmp .le 5, 3) := by decide +kernel
theorem dX9_end_15 : decode cX9_end 15 = .ok (.iconst 0, 1) := by decide +kernel
theorem dX9_end_16 : decode cX9_end 16 = .ok (.ireturn, 1) := by decide +kernel
theorem dX9_end_17 : decode cX9_end 17 = .ok (.aload_n 0, 1) := by decide +kernel
theorem dX9_end_18 : decode cX9_end 18 = .ok (.getfield 33, 3) := by decide +kernel
theorem dX9_end_21 : decode cX9_end 21 = .ok (.iload_n 1, 1) := by decide +kernel
theorem dX9_end_22 : decode cX9_end 22 = .ok (.invokevirtual 86, 3) := by decide +kernel
theorem dX9_end_25 : decode cX9_end 25 = .ok (.iconst 1, 1) := by decide +kernel
theorem dX9_end_26 : decode cX9_end 26 = .ok (.ireturn, 1) := by decide +kernel
theorem dX9_moment_0 : decode cX9_moment 0 = .ok (.aload_n 0, 1) := by decide +kernel
theorem dX9_moment_1 : decode cX9_moment 1 = .ok (.getfield 43, 3) := by decide +kernel
theorem dX9_moment_4 : decode cX9_moment 4 = .ok (.aload_n 0, 1) := by decide +kernel
theorem dX9_moment_5 : decode cX9_moment 5 = .ok (.getfield 33, 3) := by decide +kernel
theorem dX9_moment_8 : decode cX9_moment 8 = .ok (.invokevirtual 89, 3) := by decide +kernel
theorem dX9_moment_11 : decode cX9_moment 11 = .ok (.istore_n 2, 1) := by decide +kernel
theorem dX9_moment_12 : decode cX9_moment 12 = .ok (.aload_n 0, 1) := by decide +kernel
theorem dX9_moment_13 : decode cX9_moment 13 = .ok (.getfield 33, 3) := by decide +kernel
theorem dX9_moment_16 : decode cX9_moment 16 = .ok (.iconst 0, 1) := by decide +kernel
theorem dX9_moment_17 : decode cX9_moment 17 = .ok (.invokevirtual 86, 3) := by decide +kernel
theorem dX9_moment_20 : decode cX9_moment 20 = .ok (.iload_n 2, 1) := by decide +kernel
theorem dX9_moment_21 : decode cX9_moment 21 = .ok (.iconst (-1), 1) := by decide +kernel
theorem dX9_moment_22 : decode cX9_moment 22 = .ok (.if_icmp .eq 8, 3) := by decide +kernel
theorem dX9_moment_25 : decode cX9_moment 25 = .ok (.bipush (-21), 2) := by decide +kernel
theorem dX9_moment_27 : decode cX9_moment 27 = .ok (.iload_n 2, 1) := by decide +kernel
theorem dX9_moment_28 : decode cX9_moment 28 = .ok (.isub, 1) := by decide +kernel
theorem dX9_moment_29 : decode cX9_moment 29 = .ok (.ireturn, 1) := by decide +kernel
theorem dX9_moment_30 : decode cX9_moment 30 = .ok (.iload_n 1, 1) := by decide +kernel
theorem dX9_moment_31 : decode cX9_moment 31 = .ok (.invokestatic 93, 3) := by decide +kernel
theorem dX9_moment_34 : decode cX9_moment 34 = .ok (.ifCond .ne 5, 3) := by decide +kernel
theorem dX9_moment_37 : decode cX9_moment 37 = .ok (.iconst (-1), 1) := by decide +kernel
theorem dX9_moment_38 : decode cX9_moment 38 = .ok (.ireturn, 1) := by decide +kernel
theorem dX9_moment_39 : decode cX9_moment 39 = .ok (.aload_n 0, 1) := by decide +kernel
theorem dX9_moment_40 : decode cX9_moment 40 = .ok (.getfield 10, 3) := by decide +kernel
theorem dX9_moment_43 : decode cX9_moment 43 = .ok (.iload_n 1, 1) := by decide +kernel
theorem dX9_moment_44 : decode cX9_moment 44 = .ok (.aload_n 0, 1) := by decide +kernel
theorem dX9_moment_45 : decode cX9_moment 45 = .ok (.getfield 43, 3) := by decide +kernel
theorem dX9_moment_48 : decode cX9_moment 48 = .ok (.getfield 97, 3) := by decide +kernel
theorem dX9_moment_51 : decode cX9_moment 51 = .ok (.aload_n 0, 1) := by decide +kernel
theorem dX9_moment_52 : decode cX9_moment 52 = .ok (.getfield 43, 3) := by decide +kernel
theorem dX9_moment_55 : decode cX9_moment 55 = .ok (.getfield 101, 3) := by decide +kernel
theorem dX9_moment_58 : decode cX9_moment 58 = .ok (.invokevirtual 104, 3) := by decide +kernel
theorem dX9_moment_61 : decode cX9_moment 61 = .ok (.aload_n 0, 1) := by decide +kernel
theorem dX9_moment_62 : decode cX9_moment 62 = .ok (.getfield 43, 3) := by decide +kernel
theorem dX9_moment_65 : decode cX9_moment 65 = .ok (.getfield 97, 3) := by decide +kernel
theorem dX9_moment_68 : decode cX9_moment 68 = .ok (.ireturn, 1) := by decide +kernel
theorem dX9_sets_0 : decode cX9_sets 0 = .ok (.iload_n 1, 1) := by decide +kernel
theorem dX9_sets_1 : decode cX9_sets 1 = .ok (.invokestatic 93, 3) := by decide +kernel
theorem dX9_sets_4 : decode cX9_sets 4 = .ok (.ifCond .eq 20, 3) := by decide +kernel
theorem dX9_sets_7 : decode cX9_sets 7 = .ok (.iload_n 2, 1) := by decide +kernel
theorem dX9_sets_8 : decode cX9_sets 8 = .ok (.invokestatic 108, 3) := by decide +kernel
theorem dX9_sets_11 : decode cX9_sets 11 = .ok (.ifCond .eq 13, 3) := by decide +kernel
theorem dX9_sets_14 : decode cX9_sets 14 = .ok (.iload_n 3, 1) := by decide +kernel
theorem dX9_sets_15 : decode cX9_sets 15 = .ok (.ifCond .lt 9, 3) := by decide +kernel
theorem dX9_sets_18 : decode cX9_sets 18 = .ok (.iload_n 3, 1) := by decide +kernel
theorem dX9_sets_19 : decode cX9_sets 19 = .ok (.ldc 111, 2) := by decide +kernel
theorem dX9_sets_21 : decode cX9_sets 21 = .ok (.if_icmp .lt 5, 3) := by decide +kernel
theorem dX9_sets_24 : decode cX9_sets 24 = .ok (.iconst (-1), 1) := by decide +kernel
theorem dX9_sets_25 : decode cX9_sets 25 = .ok (.ireturn, 1) := by decide +kernel
theorem dX9_sets_26 : decode cX9_sets 26 = .ok (.aload_n 0, 1) := by decide +kernel
theorem dX9_sets_27 : decode cX9_sets 27 = .ok (.getfield 10, 3) := by decide +kernel
theorem dX9_sets_30 : decode cX9_sets 30 = .ok (.iload_n 1, 1) := by decide +kernel
theorem dX9_sets_31 : decode cX9_sets 31 = .ok (.invokevirtual 112, 3) := by decide +kernel
theorem dX9_sets_34 : decode cX9_sets 34 = .ok (.istore 4, 2) := by decide +kernel
theorem dX9_sets_36 : decode cX9_sets 36 = .ok (.aload_n 0, 1) := by decide +kernel
theorem dX9_sets_37 : decode cX9_sets 37 = .ok (.getfield 10, 3) := by decide +kernel
theorem dX9_sets_40 : decode cX9_sets 40 = .ok (.iload_n 1, 1) := by decide +kernel
theorem dX9_sets_41 : decode cX9_sets 41 = .ok (.iload_n 2, 1) := by decide +kernel
theorem dX9_sets_42 : decode cX9_sets 42 = .ok (.iload_n 3, 1) := by decide +kernel
theorem dX9_sets_43 : decode cX9_sets 43 = .ok (.invokevirtual 104, 3) := by decide +kernel
theorem dX9_sets_46 : decode cX9_sets 46 = .ok (.iload 4, 2) := by decide +kernel
theorem dX9_sets_48 : decode cX9_sets 48 = .ok (.ireturn, 1) := by decide +kernel
theorem dX9_span_0 : decode cX9_span 0 = .ok (.aload_n 0, 1) := by decide +kernel
theorem dX9_span_1 : decode cX9_span 1 = .ok (.getfield 50, 3) := by decide +kernel
theorem dX9_span_4 : decode cX9_span 4 = .ok (.aload_n 0, 1) := by decide +kernel
theorem dX9_span_5 : decode cX9_span 5 = .ok (.getfield 33, 3) := by decide +kernel
theorem dX9_span_8 : decode cX9_span 8 = .ok (.invokevirtual 116, 3) := by decide +kernel
theorem dX9_span_11 : decode cX9_span 11 = .ok (.istore_n 2, 1) := by decide +kernel
theorem dX9_span_12 : decode cX9_span 12 = .ok (.aload_n 0, 1) := by decide +kernel
theorem dX9_span_13 : decode cX9_span 13 = .ok (.getfield 33, 3) := by decide +kernel
theorem dX9_span_16 : decode cX9_span 16 = .ok (.iconst 0, 1) := by decide +kernel
theorem dX9_span_17 : decode cX9_span 17 = .ok (.invokevirtual 86, 3) := by decide +kernel
theorem dX9_span_20 : decode cX9_span 20 = .ok (.iload_n 2, 1) := by decide +kernel
theorem dX9_span_21 : decode cX9_span 21 = .ok (.iconst (-1), 1) := by decide +kernel
theorem dX9_span_22 : decode cX9_span 22 = .ok (.if_icmp .eq 8, 3) := by decide +kernel
theorem dX9_span_25 : decode cX9_span 25 = .ok (.bipush (-21), 2) := by decide +kernel
theorem dX9_span_27 : decode cX9_span 27 = .ok (.iload_n 2, 1) := by decide +kernel
theorem dX9_span_28 : decode cX9_span 28 = .ok (.isub, 1) := by decide +kernel
theorem dX9_span_29 : decode cX9_span 29 = .ok (.ireturn, 1) := by decide +kernel
theorem dX9_span_30 : decode cX9_span 30 = .ok (.iload_n 1, 1) := by decide +kernel
theorem dX9_span_31 : decode cX9_span 31 = .ok (.invokestatic 93, 3) := by decide +kernel
theorem dX9_span_34 : decode cX9_span 34 = .ok (.ifCond .ne 5, 3) := by decide +kernel
theorem dX9_span_37 : decode cX9_span 37 = .ok (.iconst (-1), 1) := by decide +kernel
theorem dX9_span_38 : decode cX9_span 38 = .ok (.ireturn, 1) := by decide +kernel
theorem dX9_span_39 : decode cX9_span 39 = .ok (.aload_n 0, 1) := by decide +kernel
theorem dX9_span_40 : decode cX9_span 40 = .ok (.iload_n 1, 1) := by decide +kernel
theorem dX9_span_41 : decode cX9_span 41 = .ok (.aload_n 0, 1) := by decide +kernel
theorem dX9_span_42 : decode cX9_span 42 = .ok (.getfield 50, 3) := by decide +kernel
theorem dX9_span_45 : decode cX9_span 45 = .ok (.getfield 117, 3) := by decide +kernel
theorem dX9_span_48 : decode cX9_span 48 = .ok (.i2l, 1) := by decide +kernel
theorem dX9_span_49 : decode cX9_span 49 = .ok (.aload_n 0, 1) := by decide +kernel
theorem dX9_span_50 : decode cX9_span 50 = .ok (.getfield 50, 3) := by decide +kernel
theorem dX9_span_53 : decode cX9_span 53 = .ok (.getfield 120, 3) := by decide +kernel
theorem dX9_span_56 : decode cX9_span 56 = .ok (.i2l, 1) := by decide +kernel
theorem dX9_span_57 : decode cX9_span 57 = .ok (.aload_n 0, 1) := by decide +kernel
theorem dX9_span_58 : decode cX9_span 58 = .ok (.getfield 50, 3) := by decide +kernel
theorem dX9_span_61 : decode cX9_span 61 = .ok (.getfield 123, 3) := by decide +kernel
theorem dX9_span_64 : decode cX9_span 64 = .ok (.i2l, 1) := by decide +kernel
theorem dX9_span_65 : decode cX9_span 65 = .ok (.invokevirtual 126, 3) := by decide +kernel
theorem dX9_span_68 : decode cX9_span 68 = .ok (.ireturn, 1) := by decide +kernel
theorem dX9_parts_0 : decode cX9_parts 0 = .ok (.iload_n 1, 1) := by decide +kernel
theorem dX9_parts_1 : decode cX9_parts 1 = .ok (.invokestatic 93, 3) := by decide +kernel
theorem dX9_parts_4 : decode cX9_parts 4 = .ok (.ifCond .eq 16, 3) := by decide +kernel
theorem dX9_parts_7 : decode cX9_parts 7 = .ok (.iload_n 2, 1) := by decide +kernel
theorem dX9_parts_8 : decode cX9_parts 8 = .ok (.i2l, 1) := by decide +kernel
theorem dX9_parts_9 : decode cX9_parts 9 = .ok (.iload_n 3, 1) := by decide +kernel
theorem dX9_parts_10 : decode cX9_parts 10 = .ok (.i2l, 1) := by decide +kernel
theorem dX9_parts_11 : decode cX9_parts 11 = .ok (.iload 4, 2) := by decide +kernel
theorem dX9_parts_13 : decode cX9_parts 13 = .ok (.i2l, 1) := by decide +kernel
theorem dX9_parts_14 : decode cX9_parts 14 = .ok (.invokestatic 130, 3) := by decide +kernel
theorem dX9_parts_17 : decode cX9_parts 17 = .ok (.ifCond .ne 5, 3) := by decide +kernel
theorem dX9_parts_20 : decode cX9_parts 20 = .ok (.iconst 0, 1) := by decide +kernel
theorem dX9_parts_21 : decode cX9_parts 21 = .ok (.ireturn, 1) := by decide +kernel
theorem dX9_parts_22 : decode cX9_parts 22 = .ok (.aload_n 0, 1) := by decide +kernel
theorem dX9_parts_23 : decode cX9_parts 23 = .ok (.getfield 10, 3) := by decide +kernel
theorem dX9_parts_26 : decode cX9_parts 26 = .ok (.iload_n 1, 1) := by decide +kernel
theorem dX9_parts_27 : decode cX9_parts 27 = .ok (.iload_n 2, 1) := by decide +kernel
theorem dX9_parts_28 : decode cX9_parts 28 = .ok (.iload_n 3, 1) := by decide +kernel
theorem dX9_parts_29 : decode cX9_parts 29 = .ok (.iload 4, 2) := by decide +kernel
theorem dX9_parts_31 : decode cX9_parts 31 = .ok (.invokevirtual 134, 3) := by decide +kernel
theorem dX9_parts_34 : decode cX9_parts 34 = .ok (.iconst 1, 1) := by decide +kernel
theorem dX9_parts_35 : decode cX9_parts 35 = .ok (.ireturn, 1) := by decide +kernel
theorem dX9_momentIs_0 : decode cX9_momentIs 0 = .ok (.iload_n 1, 1) := by decide +kernel
theorem dX9_momentIs_1 : decode cX9_momentIs 1 = .ok (.invokestatic 93, 3) := by decide +kernel
theorem dX9_momentIs_4 : decode cX9_momentIs 4 = .ok (.ifCond .ne 5, 3) := by decide +kernel
theorem dX9_momentIs_7 : decode cX9_momentIs 7 = .ok (.iconst (-1), 1) := by decide +kernel
theorem dX9_momentIs_8 : decode cX9_momentIs 8 = .ok (.ireturn, 1) := by decide +kernel
theorem dX9_momentIs_9 : decode cX9_momentIs 9 = .ok (.aload_n 0, 1) := by decide +kernel
theorem dX9_momentIs_10 : decode cX9_momentIs 10 = .ok (.getfield 10, 3) := by decide +kernel
theorem dX9_momentIs_13 : decode cX9_momentIs 13 = .ok (.iload_n 1, 1) := by decide +kernel
theorem dX9_momentIs_14 : decode cX9_momentIs 14 = .ok (.invokevirtual 112, 3) := by decide +kernel
theorem dX9_momentIs_17 : decode cX9_momentIs 17 = .ok (.istore_n 3, 1) := by decide +kernel
theorem dX9_momentIs_18 : decode cX9_momentIs 18 = .ok (.iload_n 3, 1) := by decide +kernel
theorem dX9_momentIs_19 : decode cX9_momentIs 19 = .ok (.invokestatic 138, 3) := by decide +kernel
theorem dX9_momentIs_22 : decode cX9_momentIs 22 = .ok (.istore 4, 2) := by decide +kernel
theorem dX9_momentIs_24 : decode cX9_momentIs 24 = .ok (.iload 4, 2) := by decide +kernel
theorem dX9_momentIs_26 : decode cX9_momentIs 26 = .ok (.sipush 10000, 3) := by decide +kernel
theorem dX9_momentIs_29 : decode cX9_momentIs 29 = .ok (.idiv, 1) := by decide +kernel
theorem dX9_momentIs_30 : decode cX9_momentIs 30 = .ok (.istore 5, 2) := by decide +kernel
theorem dX9_momentIs_32 : decode cX9_momentIs 32 = .ok (.iload_n 2, 1) := by decide +kernel
theorem dX9_momentIs_33 : decode cX9_momentIs 33 = .ok (.tableswitch 102 0 6 #[43, 45, 54, 57, 62, 74, 88], 43) := by decide +kernel
theorem dX9_momentIs_76 : decode cX9_momentIs 76 = .ok (.iload_n 3, 1) := by decide +kernel
theorem dX9_momentIs_77 : decode cX9_momentIs 77 = .ok (.ireturn, 1) := by decide +kernel
theorem dX9_momentIs_78 : decode cX9_momentIs 78 = .ok (.aload_n 0, 1) := by decide +kernel
theorem dX9_momentIs_79 : decode cX9_momentIs 79 = .ok (.getfield 10, 3) := by decide +kernel
theorem dX9_momentIs_82 : decode cX9_momentIs 82 = .ok (.iload_n 1, 1) := by decide +kernel
theorem dX9_momentIs_83 : decode cX9_momentIs 83 = .ok (.invokevirtual 143, 3) := by decide +kernel
theorem dX9_momentIs_86 : decode cX9_momentIs 86 = .ok (.ireturn, 1) := by decide +kernel
theorem dX9_momentIs_87 : decode cX9_momentIs 87 = .ok (.iload 4, 2) := by decide +kernel
theorem dX9_momentIs_89 : decode cX9_momentIs 89 = .ok (.ireturn, 1) := by decide +kernel
theorem dX9_momentIs_90 : decode cX9_momentIs 90 = .ok (.iload_n 3, 1) := by decide +kernel
theorem dX9_momentIs_91 : decode cX9_momentIs 91 = .ok (.invokestatic 146, 3) := by decide +kernel
theorem dX9_momentIs_94 : decode cX9_momentIs 94 = .ok (.ireturn, 1) := by decide +kernel
theorem dX9_momentIs_95 : decode cX9_momentIs 95 = .ok (.iload_n 3, 1) := by decide +kernel
theorem dX9_momentIs_96 : decode cX9_momentIs 96 = .ok (.iload 5, 2) := by decide +kernel
theorem dX9_momentIs_98 : decode cX9_momentIs 98 = .ok (.iconst 1, 1) := by decide +kernel
theorem dX9_momentIs_99 : decode cX9_momentIs 99 = .ok (.iconst 1, 1) := by decide +kernel
theorem dX9_momentIs_100 : decode cX9_momentIs 100 = .ok (.invokestatic 149, 3) := by decide +kernel
theorem dX9_momentIs_103 : decode cX9_momentIs 103 = .ok (.isub, 1) := by decide +kernel
theorem dX9_momentIs_104 : decode cX9_momentIs 104 = .ok (.iconst 1, 1) := by decide +kernel
theorem dX9_momentIs_105 : decode cX9_momentIs 105 = .ok (.iadd, 1) := by decide +kernel
theorem dX9_momentIs_106 : decode cX9_momentIs 106 = .ok (.ireturn, 1) := by decide +kernel
theorem dX9_momentIs_107 : decode cX9_momentIs 107 = .ok (.iload 5, 2) := by decide +kernel
theorem dX9_momentIs_109 : decode cX9_momentIs 109 = .ok (.iload 4, 2) := by decide +kernel
theorem dX9_momentIs_111 : decode cX9_momentIs 111 = .ok (.bipush 100, 2) := by decide +kernel
theorem dX9_momentIs_113 : decode cX9_momentIs 113 = .ok (.idiv, 1) := by decide +kernel
theorem dX9_momentIs_114 : decode cX9_momentIs 114 = .ok (.bipush 100, 2) := by decide +kernel
theorem dX9_momentIs_116 : decode cX9_momentIs 116 = .ok (.irem, 1) := by decide +kernel
theorem dX9_momentIs_117 : decode cX9_momentIs 117 = .ok (.invokestatic 153, 3) := by decide +kernel
theorem dX9_momentIs_120 : decode cX9_momentIs 120 = .ok (.ireturn, 1) := by decide +kernel
theorem dX9_momentIs_121 : decode cX9_momentIs 121 = .ok (.iload 5, 2) := by decide +kernel
theorem dX9_momentIs_123 : decode cX9_momentIs 123 = .ok (.invokestatic 157, 3) := by decide +kernel
theorem dX9_momentIs_126 : decode cX9_momentIs 126 = .ok (.ifCond .eq 7, 3) := by decide +kernel
theorem dX9_momentIs_129 : decode cX9_momentIs 129 = .ok (.iconst 1, 1) := by decide +kernel
theorem dX9_momentIs_130 : decode cX9_momentIs 130 = .ok (.goto 4, 3) := by decide +kernel
theorem dX9_momentIs_133 : decode cX9_momentIs 133 = .ok (.iconst 0, 1) := by decide +kernel
theorem dX9_momentIs_134 : decode cX9_momentIs 134 = .ok (.ireturn, 1) := by decide +kernel
theorem dX9_momentIs_135 : decode cX9_momentIs 135 = .ok (.iconst (-1), 1) := by decide +kernel
theorem dX9_momentIs_136 : decode cX9_momentIs 136 = .ok (.ireturn, 1) := by decide +kernel
theorem dX9_spanIs_0 : decode cX9_spanIs 0 = .ok (.iload_n 1, 1) := by decide +kernel
theorem dX9_spanIs_1 : decode cX9_spanIs 1 = .ok (.invokestatic 93, 3) := by decide +kernel
theorem dX9_spanIs_4 : decode cX9_spanIs 4 = .ok (.ifCond .ne 6, 3) := by decide +kernel
theorem dX9_spanIs_7 : decode cX9_spanIs 7 = .ok (.ldc 160, 2) := by decide +kernel
theorem dX9_spanIs_9 : decode cX9_spanIs 9 = .ok (.ireturn, 1) := by decide +kernel
theorem dX9_spanIs_10 : decode cX9_spanIs 10 = .ok (.iload_n 2, 1) := by decide +kernel
theorem dX9_spanIs_11 : decode cX9_spanIs 11 = .ok (.tableswitch 52 0 2 #[25, 34, 43], 25) := by decide +kernel
theorem dX9_spanIs_36 : decode cX9_spanIs 36 = .ok (.aload_n 0, 1) := by decide +kernel
theorem dX9_spanIs_37 : decode cX9_spanIs 37 = .ok (.getfield 10, 3) := by decide +kernel
theorem dX9_spanIs_40 : decode cX9_spanIs 40 = .ok (.iload_n 1, 1) := by decide +kernel
theorem dX9_spanIs_41 : decode cX9_spanIs 41 = .ok (.invokevirtual 161, 3) := by decide +kernel
theorem dX9_spanIs_44 : decode cX9_spanIs 44 = .ok (.ireturn, 1) := by decide +kernel
theorem dX9_spanIs_45 : decode cX9_spanIs 45 = .ok (.aload_n 0, 1) := by decide +kernel
theorem dX9_spanIs_46 : decode cX9_spanIs 46 = .ok (.getfield 10, 3) := by decide +kernel
theorem dX9_spanIs_49 : decode cX9_spanIs 49 = .ok (.iload_n 1, 1) := by decide +kernel
theorem dX9_spanIs_50 : decode cX9_spanIs 50 = .ok (.invokevirtual 164, 3) := by decide +kernel
theorem dX9_spanIs_53 : decode cX9_spanIs 53 = .ok (.ireturn, 1) := by decide +kernel
theorem dX9_spanIs_54 : decode cX9_spanIs 54 = .ok (.aload_n 0, 1) := by decide +kernel
theorem dX9_spanIs_55 : decode cX9_spanIs 55 = .ok (.getfield 10, 3) := by decide +kernel
theorem dX9_spanIs_58 : decode cX9_spanIs 58 = .ok (.iload_n 1, 1) := by decide +kernel
theorem dX9_spanIs_59 : decode cX9_spanIs 59 = .ok (.invokevirtual 167, 3) := by decide +kernel
theorem dX9_spanIs_62 : decode cX9_spanIs 62 = .ok (.ireturn, 1) := by decide +kernel
theorem dX9_spanIs_63 : decode cX9_spanIs 63 = .ok (.ldc 160, 2) := by decide +kernel
theorem dX9_spanIs_65 : decode cX9_spanIs 65 = .ok (.ireturn, 1) := by decide +kernel
theorem dX9_date_0 : decode cX9_date 0 = .ok (.iload_n 1, 1) := by decide +kernel
theorem dX9_date_1 : decode cX9_date 1 = .ok (.invokestatic 108, 3) := by decide +kernel
theorem dX9_date_4 : decode cX9_date 4 = .ok (.ifCond .eq 10, 3) := by decide +kernel
theorem dX9_date_7 : decode cX9_date 7 = .ok (.iload_n 1, 1) := by decide +kernel
theorem dX9_date_8 : decode cX9_date 8 = .ok (.invokestatic 138, 3) := by decide +kernel
theorem dX9_date_11 : decode cX9_date 11 = .ok (.goto 4, 3) := by decide +kernel
theorem dX9_date_14 : decode cX9_date 14 = .ok (.iconst (-1), 1) := by decide +kernel
theorem dX9_date_15 : decode cX9_date 15 = .ok (.ireturn, 1) := by decide +kernel
theorem dX9_day_0 : decode cX9_day 0 = .ok (.iload_n 1, 1) := by decide +kernel
theorem dX9_day_1 : decode cX9_day 1 = .ok (.ifCond .ge 6, 3) := by decide +kernel
theorem dX9_day_4 : decode cX9_day 4 = .ok (.bipush (-2), 2) := by decide +kernel
theorem dX9_day_6 : decode cX9_day 6 = .ok (.ireturn, 1) := by decide +kernel
theorem dX9_day_7 : decode cX9_day 7 = .ok (.iload_n 1, 1) := by decide +kernel
theorem dX9_day_8 : decode cX9_day 8 = .ok (.sipush 10000, 3) := by decide +kernel
theorem dX9_day_11 : decode cX9_day 11 = .ok (.idiv, 1) := by decide +kernel
theorem dX9_day_12 : decode cX9_day 12 = .ok (.istore_n 2, 1) := by decide +kernel
theorem dX9_day_13 : decode cX9_day 13 = .ok (.iload_n 1, 1) := by decide +kernel
theorem dX9_day_14 : decode cX9_day 14 = .ok (.bipush 100, 2) := by decide +kernel
theorem dX9_day_16 : decode cX9_day 16 = .ok (.idiv, 1) := by decide +kernel
theorem dX9_day_17 : decode cX9_day 17 = .ok (.bipush 100, 2) := by decide +kernel
theorem dX9_day_19 : decode cX9_day 19 = .ok (.irem, 1) := by decide +kernel
theorem dX9_day_20 : decode cX9_day 20 = .ok (.istore_n 3, 1) := by decide +kernel
theorem dX9_day_21 : decode cX9_day 21 = .ok (.iload_n 1, 1) := by decide +kernel
theorem dX9_day_22 : decode cX9_day 22 = .ok (.bipush 100, 2) := by decide +kernel
theorem dX9_day_24 : decode cX9_day 24 = .ok (.irem, 1) := by decide +kernel
theorem dX9_day_25 : decode cX9_day 25 = .ok (.istore 4, 2) := by decide +kernel
theorem dX9_day_27 : decode cX9_day 27 = .ok (.iload_n 2, 1) := by decide +kernel
theorem dX9_day_28 : decode cX9_day 28 = .ok (.invokestatic 170, 3) := by decide +kernel
theorem dX9_day_31 : decode cX9_day 31 = .ok (.ifCond .eq 26, 3) := by decide +kernel
theorem dX9_day_34 : decode cX9_day 34 = .ok (.iload_n 3, 1) := by decide +kernel
theorem dX9_day_35 : decode cX9_day 35 = .ok (.invokestatic 173, 3) := by decide +kernel
theorem dX9_day_38 : decode cX9_day 38 = .ok (.ifCond .eq 19, 3) := by decide +kernel
theorem dX9_day_41 : decode cX9_day 41 = .ok (.iload 4, 2) := by decide +kernel
theorem dX9_day_43 : decode cX9_day 43 = .ok (.iconst 1, 1) := by decide +kernel
theorem dX9_day_44 : decode cX9_day 44 = .ok (.if_icmp .lt 13, 3) := by decide +kernel
theorem dX9_day_47 : decode cX9_day 47 = .ok (.iload 4, 2) := by decide +kernel
theorem dX9_day_49 : decode cX9_day 49 = .ok (.iload_n 2, 1) := by decide +kernel
theorem dX9_day_50 : decode cX9_day 50 = .ok (.iload_n 3, 1) := by decide +kernel
theorem dX9_day_51 : decode cX9_day 51 = .ok (.invokestatic 153, 3) := by decide +kernel
theorem dX9_day_54 : decode cX9_day 54 = .ok (.if_icmp .le 6, 3) := by decide +kernel
theorem dX9_day_57 : decode cX9_day 57 = .ok (.bipush (-2), 2) := by decide +kernel
theorem dX9_day_59 : decode cX9_day 59 = .ok (.ireturn, 1) := by decide +kernel
theorem dX9_day_60 : decode cX9_day 60 = .ok (.iload_n 2, 1) := by decide +kernel
theorem dX9_day_61 : decode cX9_day 61 = .ok (.iload_n 3, 1) := by decide +kernel
theorem dX9_day_62 : decode cX9_day 62 = .ok (.iload 4, 2) := by decide +kernel
theorem dX9_day_64 : decode cX9_day 64 = .ok (.invokestatic 149, 3) := by decide +kernel
theorem dX9_day_67 : decode cX9_day 67 = .ok (.ireturn, 1) := by decide +kernel
theorem dX9_week_0 : decode cX9_week 0 = .ok (.iload_n 1, 1) := by decide +kernel
theorem dX9_week_1 : decode cX9_week 1 = .ok (.invokestatic 108, 3) := by decide +kernel
theorem dX9_week_4 : decode cX9_week 4 = .ok (.ifCond .ne 5, 3) := by decide +kernel
theorem dX9_week_7 : decode cX9_week 7 = .ok (.iconst (-1), 1) := by decide +kernel
theorem dX9_week_8 : decode cX9_week 8 = .ok (.ireturn, 1) := by decide +kernel
theorem dX9_week_9 : decode cX9_week 9 = .ok (.iload_n 1, 1) := by decide +kernel
theorem dX9_week_10 : decode cX9_week 10 = .ok (.iload_n 1, 1) := by decide +kernel
theorem dX9_week_11 : decode cX9_week 11 = .ok (.invokestatic 146, 3) := by decide +kernel
theorem dX9_week_14 : decode cX9_week 14 = .ok (.isub, 1) := by decide +kernel
theorem dX9_week_15 : decode cX9_week 15 = .ok (.iconst 3, 1) := by decide +kernel
theorem dX9_week_16 : decode cX9_week 16 = .ok (.iadd, 1) := by decide +kernel
theorem dX9_week_17 : decode cX9_week 17 = .ok (.istore_n 2, 1) := by decide +kernel
theorem dX9_week_18 : decode cX9_week 18 = .ok (.iload_n 2, 1) := by decide +kernel
theorem dX9_week_19 : decode cX9_week 19 = .ok (.invokestatic 138, 3) := by decide +kernel
theorem dX9_week_22 : decode cX9_week 22 = .ok (.sipush 10000, 3) := by decide +kernel
theorem dX9_week_25 : decode cX9_week 25 = .ok (.idiv, 1) := by decide +kernel
theorem dX9_week_26 : decode cX9_week 26 = .ok (.istore_n 3, 1) := by decide +kernel
theorem dX9_week_27 : decode cX9_week 27 = .ok (.aload_n 0, 1) := by decide +kernel
theorem dX9_week_28 : decode cX9_week 28 = .ok (.getfield 26, 3) := by decide +kernel
theorem dX9_week_31 : decode cX9_week 31 = .ok (.iload_n 3, 1) := by decide +kernel
theorem dX9_week_32 : decode cX9_week 32 = .ok (.i2l, 1) := by decide +kernel
theorem dX9_week_33 : decode cX9_week 33 = .ok (.invokevirtual 176, 3) := by decide +kernel
theorem dX9_week_36 : decode cX9_week 36 = .ok (.iload_n 2, 1) := by decide +kernel
theorem dX9_week_37 : decode cX9_week 37 = .ok (.iload_n 3, 1) := by decide +kernel
theorem dX9_week_38 : decode cX9_week 38 = .ok (.iconst 1, 1) := by decide +kernel
theorem dX9_week_39 : decode cX9_week 39 = .ok (.iconst 1, 1) := by decide +kernel
theorem dX9_week_40 : decode cX9_week 40 = .ok (.invokestatic 149, 3) := by decide +kernel
theorem dX9_week_43 : decode cX9_week 43 = .ok (.isub, 1) := by decide +kernel
theorem dX9_week_44 : decode cX9_week 44 = .ok (.bipush 7, 2) := by decide +kernel
theorem dX9_week_46 : decode cX9_week 46 = .ok (.idiv, 1) := by decide +kernel
theorem dX9_week_47 : decode cX9_week 47 = .ok (.iconst 1, 1) := by decide +kernel
theorem dX9_week_48 : decode cX9_week 48 = .ok (.iadd, 1) := by decide +kernel
theorem dX9_week_49 : decode cX9_week 49 = .ok (.ireturn, 1) := by decide +kernel
theorem dX9_add_0 : decode cX9_add 0 = .ok (.iload_n 1, 1) := by decide +kernel
theorem dX9_add_1 : decode cX9_add 1 = .ok (.invokestatic 93, 3) := by decide +kernel
theorem dX9_add_4 : decode cX9_add 4 = .ok (.ifCond .eq 33, 3) := by decide +kernel
theorem dX9_add_7 : decode cX9_add 7 = .ok (.iload_n 2, 1) := by decide +kernel
theorem dX9_add_8 : decode cX9_add 8 = .ok (.invokestatic 93, 3) := by decide +kernel
theorem dX9_add_11 : decode cX9_add 11 = .ok (.ifCond .eq 26, 3) := by decide +kernel
theorem dX9_add_14 : decode cX9_add 14 = .ok (.iload_n 3, 1) := by decide +kernel
theorem dX9_add_15 : decode cX9_add 15 = .ok (.invokestatic 180, 3) := by decide +kernel
theorem dX9_add_18 : decode cX9_add 18 = .ok (.ifCond .eq 19, 3) := by decide +kernel
theorem dX9_add_21 : decode cX9_add 21 = .ok (.iload 4, 2) := by decide +kernel
theorem dX9_add_23 : decode cX9_add 23 = .ok (.invokestatic 183, 3) := by decide +kernel
theorem dX9_add_26 : decode cX9_add 26 = .ok (.ifCond .eq 11, 3) := by decide +kernel
theorem dX9_add_29 : decode cX9_add 29 = .ok (.iload 5, 2) := by decide +kernel
theorem dX9_add_31 : decode cX9_add 31 = .ok (.invokestatic 93, 3) := by decide +kernel
theorem dX9_add_34 : decode cX9_add 34 = .ok (.ifCond .ne 5, 3) := by decide +kernel
theorem dX9_add_37 : decode cX9_add 37 = .ok (.iconst (-1), 1) := by decide +kernel
theorem dX9_add_38 : decode cX9_add 38 = .ok (.ireturn, 1) := by decide +kernel
theorem dX9_add_39 : decode cX9_add 39 = .ok (.aload_n 0, 1) := by decide +kernel
theorem dX9_add_40 : decode cX9_add 40 = .ok (.getfield 57, 3) := by decide +kernel
theorem dX9_add_43 : decode cX9_add 43 = .ok (.aload_n 0, 1) := by decide +kernel
theorem dX9_add_44 : decode cX9_add 44 = .ok (.getfield 10, 3) := by decide +kernel
theorem dX9_add_47 : decode cX9_add 47 = .ok (.iload_n 2, 1) := by decide +kernel
theorem dX9_add_48 : decode cX9_add 48 = .ok (.iconst 1, 1) := by decide +kernel
theorem dX9_add_49 : decode cX9_add 49 = .ok (.iload_n 3, 1) := by decide +kernel
theorem dX9_add_50 : decode cX9_add 50 = .ok (.invokevirtual 186, 3) := by decide +kernel
theorem dX9_add_53 : decode cX9_add 53 = .ok (.pop, 1) := by decide +kernel
theorem dX9_add_54 : decode cX9_add 54 = .ok (.aload_n 0, 1) := by decide +kernel
theorem dX9_add_55 : decode cX9_add 55 = .ok (.getfield 57, 3) := by decide +kernel
theorem dX9_add_58 : decode cX9_add 58 = .ok (.aload_n 0, 1) := by decide +kernel
theorem dX9_add_59 : decode cX9_add 59 = .ok (.getfield 10, 3) := by decide +kernel
theorem dX9_add_62 : decode cX9_add 62 = .ok (.iload_n 1, 1) := by decide +kernel
theorem dX9_add_63 : decode cX9_add 63 = .ok (.invokevirtual 112, 3) := by decide +kernel
theorem dX9_add_66 : decode cX9_add 66 = .ok (.aload_n 0, 1) := by decide +kernel
theorem dX9_add_67 : decode cX9_add 67 = .ok (.getfield 10, 3) := by decide +kernel
theorem dX9_add_70 : decode cX9_add 70 = .ok (.iload_n 1, 1) := by decide +kernel
theorem dX9_add_71 : decode cX9_add 71 = .ok (.invokevirtual 143, 3) := by decide +kernel
theorem dX9_add_74 : decode cX9_add 74 = .ok (.iload 4, 2) := by decide +kernel
theorem dX9_add_76 : decode cX9_add 76 = .ok (.invokevirtual 190, 3) := by decide +kernel
theorem dX9_add_79 : decode cX9_add 79 = .ok (.ifCond .ne 6, 3) := by decide +kernel
theorem dX9_add_82 : decode cX9_add 82 = .ok (.bipush (-2), 2) := by decide +kernel
theorem dX9_add_84 : decode cX9_add 84 = .ok (.ireturn, 1) := by decide +kernel
theorem dX9_add_85 : decode cX9_add 85 = .ok (.aload_n 0, 1) := by decide +kernel
theorem dX9_add_86 : decode cX9_add 86 = .ok (.getfield 10, 3) := by decide +kernel
theorem dX9_add_89 : decode cX9_add 89 = .ok (.iload 5, 2) := by decide +kernel
theorem dX9_add_91 : decode cX9_add 91 = .ok (.aload_n 0, 1) := by decide +kernel
theorem dX9_add_92 : decode cX9_add 92 = .ok (.getfield 57, 3) := by decide +kernel
theorem dX9_add_95 : decode cX9_add 95 = .ok (.getfield 194, 3) := by decide +kernel
theorem dX9_add_98 : decode cX9_add 98 = .ok (.aload_n 0, 1) := by decide +kernel
theorem dX9_add_99 : decode cX9_add 99 = .ok (.getfield 57, 3) := by decide +kernel
theorem dX9_add_102 : decode cX9_add 102 = .ok (.getfield 195, 3) := by decide +kernel
theorem dX9_add_105 : decode cX9_add 105 = .ok (.invokevirtual 104, 3) := by decide +kernel
theorem dX9_add_108 : decode cX9_add 108 = .ok (.aload_n 0, 1) := by decide +kernel
theorem dX9_add_109 : decode cX9_add 109 = .ok (.getfield 26, 3) := by decide +kernel
theorem dX9_add_112 : decode cX9_add 112 = .ok (.aload_n 0, 1) := by decide +kernel
theorem dX9_add_113 : decode cX9_add 113 = .ok (.getfield 57, 3) := by decide +kernel
theorem dX9_add_116 : decode cX9_add 116 = .ok (.getfield 195, 3) := by decide +kernel
theorem dX9_add_119 : decode cX9_add 119 = .ok (.i2l, 1) := by decide +kernel
theorem dX9_add_120 : decode cX9_add 120 = .ok (.aload_n 0, 1) := by decide +kernel
theorem dX9_add_121 : decode cX9_add 121 = .ok (.getfield 57, 3) := by decide +kernel
theorem dX9_add_124 : decode cX9_add 124 = .ok (.getfield 196, 3) := by decide +kernel
theorem dX9_add_127 : decode cX9_add 127 = .ok (.i2l, 1) := by decide +kernel
theorem dX9_add_128 : decode cX9_add 128 = .ok (.invokevirtual 199, 3) := by decide +kernel
theorem dX9_add_131 : decode cX9_add 131 = .ok (.aload_n 0, 1) := by decide +kernel
theorem dX9_add_132 : decode cX9_add 132 = .ok (.getfield 57, 3) := by decide +kernel
theorem dX9_add_135 : decode cX9_add 135 = .ok (.getfield 194, 3) := by decide +kernel
theorem dX9_add_138 : decode cX9_add 138 = .ok (.ireturn, 1) := by decide +kernel
theorem dX9_steps_0 : decode cX9_steps 0 = .ok (.iload_n 1, 1) := by decide +kernel
theorem dX9_steps_1 : decode cX9_steps 1 = .ok (.invokestatic 93, 3) := by decide +kernel
theorem dX9_steps_4 : decode cX9_steps 4 = .ok (.ifCond .eq 46, 3) := by decide +kernel
theorem dX9_steps_7 : decode cX9_steps 7 = .ok (.iload_n 2, 1) := by decide +kernel
theorem dX9_steps_8 : decode cX9_steps 8 = .ok (.invokestatic 93, 3) := by decide +kernel
theorem dX9_steps_11 : decode cX9_steps 11 = .ok (.ifCond .eq 39, 3) := by decide +kernel
theorem dX9_steps_14 : decode cX9_steps 14 = .ok (.iload_n 3, 1) := by decide +kernel
theorem dX9_steps_15 : decode cX9_steps 15 = .ok (.invokestatic 180, 3) := by decide +kernel
theorem dX9_steps_18 : decode cX9_steps 18 = .ok (.ifCond .eq 32, 3) := by decide +kernel
theorem dX9_steps_21 : decode cX9_steps 21 = .ok (.iload 4, 2) := by decide +kernel
theorem dX9_steps_23 : decode cX9_steps 23 = .ok (.invokestatic 183, 3) := by decide +kernel
theorem dX9_steps_26 : decode cX9_steps 26 = .ok (.ifCond .eq 24, 3) := by decide +kernel
theorem dX9_steps_29 : decode cX9_steps 29 = .ok (.iload 6, 2) := by decide +kernel
theorem dX9_steps_31 : decode cX9_steps 31 = .ok (.invokestatic 93, 3) := by decide +kernel
theorem dX9_steps_34 : decode cX9_steps 34 = .ok (.ifCond .eq 16, 3) := by decide +kernel
theorem dX9_steps_37 : decode cX9_steps 37 = .ok (.iload 5, 2) := by decide +kernel
theorem dX9_steps_39 : decode cX9_steps 39 = .ok (.ifCond .lt 11, 3) := by decide +kernel
theorem dX9_steps_42 : decode cX9_steps 42 = .ok (.iload 5, 2) := by decide +kernel
theorem dX9_steps_44 : decode cX9_steps 44 = .ok (.sipush 10000, 3) := by decide +kernel
theorem dX9_steps_47 : decode cX9_steps 47 = .ok (.if_icmp .le 5, 3) := by decide +kernel
theorem dX9_steps_50 : decode cX9_steps 50 = .ok (.iconst (-1), 1) := by decide +kernel
theorem dX9_steps_51 : decode cX9_steps 51 = .ok (.ireturn, 1) := by decide +kernel
theorem dX9_steps_52 : decode cX9_steps 52 = .ok (.aload_n 0, 1) := by decide +kernel
theorem dX9_steps_53 : decode cX9_steps 53 = .ok (.getfield 57, 3) := by decide +kernel
theorem dX9_steps_56 : decode cX9_steps 56 = .ok (.aload_n 0, 1) := by decide +kernel
theorem dX9_steps_57 : decode cX9_steps 57 = .ok (.getfield 10, 3) := by decide +kernel
theorem dX9_steps_60 : decode cX9_steps 60 = .ok (.iload_n 2, 1) := by decide +kernel
theorem dX9_steps_61 : decode cX9_steps 61 = .ok (.iconst 1, 1) := by decide +kernel
theorem dX9_steps_62 : decode cX9_steps 62 = .ok (.iload_n 3, 1) := by decide +kernel
theorem dX9_steps_63 : decode cX9_steps 63 = .ok (.invokevirtual 186, 3) := by decide +kernel
theorem dX9_steps_66 : decode cX9_steps 66 = .ok (.pop, 1) := by decide +kernel
theorem dX9_steps_67 : decode cX9_steps 67 = .ok (.aload_n 0, 1) := by decide +kernel
theorem dX9_steps_68 : decode cX9_steps 68 = .ok (.getfield 57, 3) := by decide +kernel
theorem dX9_steps_71 : decode cX9_steps 71 = .ok (.aload_n 0, 1) := by decide +kernel
theorem dX9_steps_72 : decode cX9_steps 72 = .ok (.getfield 10, 3) := by decide +kernel
theorem dX9_steps_75 : decode cX9_steps 75 = .ok (.iload_n 1, 1) := by decide +kernel
theorem dX9_steps_76 : decode cX9_steps 76 = .ok (.invokevirtual 112, 3) := by decide +kernel
theorem dX9_steps_79 : decode cX9_steps 79 = .ok (.aload_n 0, 1) := by decide +kernel
theorem dX9_steps_80 : decode cX9_steps 80 = .ok (.getfield 10, 3) := by decide +kernel
theorem dX9_steps_83 : decode cX9_steps 83 = .ok (.iload_n 1, 1) := by decide +kernel
theorem dX9_steps_84 : decode cX9_steps 84 = .ok (.invokevirtual 143, 3) := by decide +kernel
theorem dX9_steps_87 : decode cX9_steps 87 = .ok (.invokevirtual 202, 3) := by decide +kernel
theorem dX9_steps_90 : decode cX9_steps 90 = .ok (.iconst 0, 1) := by decide +kernel
theorem dX9_steps_91 : decode cX9_steps 91 = .ok (.istore 7, 2) := by decide +kernel
theorem dX9_steps_93 : decode cX9_steps 93 = .ok (.iconst 0, 1) := by decide +kernel
theorem dX9_steps_94 : decode cX9_steps 94 = .ok (.istore 8, 2) := by decide +kernel
theorem dX9_steps_96 : decode cX9_steps 96 = .ok (.iload 8, 2) := by decide +kernel
theorem dX9_steps_98 : decode cX9_steps 98 = .ok (.iload 5, 2) := by decide +kernel
theorem dX9_steps_100 : decode cX9_steps 100 = .ok (.if_icmp .ge 51, 3) := by decide +kernel
theorem dX9_steps_103 : decode cX9_steps 103 = .ok (.aload_n 0, 1) := by decide +kernel
theorem dX9_steps_104 : decode cX9_steps 104 = .ok (.getfield 57, 3) := by decide +kernel
theorem dX9_steps_107 : decode cX9_steps 107 = .ok (.aload_n 0, 1) := by decide +kernel
theorem dX9_steps_108 : decode cX9_steps 108 = .ok (.getfield 57, 3) := by decide +kernel
theorem dX9_steps_111 : decode cX9_steps 111 = .ok (.getfield 194, 3) := by decide +kernel
theorem dX9_steps_114 : decode cX9_steps 114 = .ok (.aload_n 0, 1) := by decide +kernel
theorem dX9_steps_115 : decode cX9_steps 115 = .ok (.getfield 57, 3) := by decide +kernel
theorem dX9_steps_118 : decode cX9_steps 118 = .ok (.getfield 195, 3) := by decide +kernel
theorem dX9_steps_121 : decode cX9_steps 121 = .ok (.iload 4, 2) := by decide +kernel
theorem dX9_steps_123 : decode cX9_steps 123 = .ok (.invokevirtual 190, 3) := by decide +kernel
theorem dX9_steps_126 : decode cX9_steps 126 = .ok (.ifCond .ne 6, 3) := by decide +kernel
theorem dX9_steps_129 : decode cX9_steps 129 = .ok (.bipush (-2), 2) := by decide +kernel
theorem dX9_steps_131 : decode cX9_steps 131 = .ok (.ireturn, 1) := by decide +kernel
theorem dX9_steps_132 : decode cX9_steps 132 = .ok (.aload_n 0, 1) := by decide +kernel
theorem dX9_steps_133 : decode cX9_steps 133 = .ok (.getfield 57, 3) := by decide +kernel
theorem dX9_steps_136 : decode cX9_steps 136 = .ok (.getfield 196, 3) := by decide +kernel
theorem dX9_steps_139 : decode cX9_steps 139 = .ok (.ifCond .le 6, 3) := by decide +kernel
theorem dX9_steps_142 : decode cX9_steps 142 = .ok (.iinc 7 1, 3) := by decide +kernel
theorem dX9_steps_145 : decode cX9_steps 145 = .ok (.iinc 8 1, 3) := by decide +kernel
theorem dX9_steps_148 : decode cX9_steps 148 = .ok (.goto (-52), 3) := by decide +kernel
theorem dX9_steps_151 : decode cX9_steps 151 = .ok (.aload_n 0, 1) := by decide +kernel
theorem dX9_steps_152 : decode cX9_steps 152 = .ok (.getfield 10, 3) := by decide +kernel
theorem dX9_steps_155 : decode cX9_steps 155 = .ok (.iload 6, 2) := by decide +kernel
theorem dX9_steps_157 : decode cX9_steps 157 = .ok (.aload_n 0, 1) := by decide +kernel
theorem dX9_steps_158 : decode cX9_steps 158 = .ok (.getfield 57, 3) := by decide +kernel
theorem dX9_steps_161 : decode cX9_steps 161 = .ok (.getfield 194, 3) := by decide +kernel
theorem dX9_steps_164 : decode cX9_steps 164 = .ok (.aload_n 0, 1) := by decide +kernel
theorem dX9_steps_165 : decode cX9_steps 165 = .ok (.getfield 57, 3) := by decide +kernel
theorem dX9_steps_168 : decode cX9_steps 168 = .ok (.getfield 195, 3) := by decide +kernel
theorem dX9_steps_171 : decode cX9_steps 171 = .ok (.invokevirtual 104, 3) := by decide +kernel
theorem dX9_steps_174 : decode cX9_steps 174 = .ok (.aload_n 0, 1) := by decide +kernel
theorem dX9_steps_175 : decode cX9_steps 175 = .ok (.getfield 26, 3) := by decide +kernel
theorem dX9_steps_178 : decode cX9_steps 178 = .ok (.aload_n 0, 1) := by decide +kernel
theorem dX9_steps_179 : decode cX9_steps 179 = .ok (.getfield 57, 3) := by decide +kernel
theorem dX9_steps_182 : decode cX9_steps 182 = .ok (.getfield 195, 3) := by decide +kernel
theorem dX9_steps_185 : decode cX9_steps 185 = .ok (.i2l, 1) := by decide +kernel
theorem dX9_steps_186 : decode cX9_steps 186 = .ok (.iload 7, 2) := by decide +kernel
theorem dX9_steps_188 : decode cX9_steps 188 = .ok (.i2l, 1) := by decide +kernel
theorem dX9_steps_189 : decode cX9_steps 189 = .ok (.invokevirtual 199, 3) := by decide +kernel
theorem dX9_steps_192 : decode cX9_steps 192 = .ok (.aload_n 0, 1) := by decide +kernel
theorem dX9_steps_193 : decode cX9_steps 193 = .ok (.getfield 57, 3) := by decide +kernel
theorem dX9_steps_196 : decode cX9_steps 196 = .ok (.getfield 194, 3) := by decide +kernel
theorem dX9_steps_199 : decode cX9_steps 199 = .ok (.ireturn, 1) := by decide +kernel
theorem dX9_sum_0 : decode cX9_sum 0 = .ok (.iload_n 1, 1) := by decide +kernel
theorem dX9_sum_1 : decode cX9_sum 1 = .ok (.invokestatic 93, 3) := by decide +kernel
theorem dX9_sum_4 : decode cX9_sum 4 = .ok (.ifCond .eq 17, 3) := by decide +kernel
theorem dX9_sum_7 : decode cX9_sum 7 = .ok (.iload_n 2, 1) := by decide +kernel
theorem dX9_sum_8 : decode cX9_sum 8 = .ok (.invokestatic 93, 3) := by decide +kernel
theorem dX9_sum_11 : decode cX9_sum 11 = .ok (.ifCond .eq 10, 3) := by decide +kernel
theorem dX9_sum_14 : decode cX9_sum 14 = .ok (.iload_n 3, 1) := by decide +kernel
theorem dX9_sum_15 : decode cX9_sum 15 = .ok (.invokestatic 93, 3) := by decide +kernel
theorem dX9_sum_18 : decode cX9_sum 18 = .ok (.ifCond .ne 5, 3) := by decide +kernel
theorem dX9_sum_21 : decode cX9_sum 21 = .ok (.iconst (-1), 1) := by decide +kernel
theorem dX9_sum_22 : decode cX9_sum 22 = .ok (.ireturn, 1) := by decide +kernel
theorem dX9_sum_23 : decode cX9_sum 23 = .ok (.aload_n 0, 1) := by decide +kernel
theorem dX9_sum_24 : decode cX9_sum 24 = .ok (.iload_n 3, 1) := by decide +kernel
theorem dX9_sum_25 : decode cX9_sum 25 = .ok (.aload_n 0, 1) := by decide +kernel
theorem dX9_sum_26 : decode cX9_sum 26 = .ok (.getfield 10, 3) := by decide +kernel
theorem dX9_sum_29 : decode cX9_sum 29 = .ok (.iload_n 1, 1) := by decide +kernel
theorem dX9_sum_30 : decode cX9_sum 30 = .ok (.invokevirtual 161, 3) := by decide +kernel
theorem dX9_sum_33 : decode cX9_sum 33 = .ok (.i2l, 1) := by decide +kernel
theorem dX9_sum_34 : decode cX9_sum 34 = .ok (.aload_n 0, 1) := by decide +kernel
theorem dX9_sum_35 : decode cX9_sum 35 = .ok (.getfield 10, 3) := by decide +kernel
theorem dX9_sum_38 : decode cX9_sum 38 = .ok (.iload_n 2, 1) := by decide +kernel
theorem dX9_sum_39 : decode cX9_sum 39 = .ok (.invokevirtual 161, 3) := by decide +kernel
theorem dX9_sum_42 : decode cX9_sum 42 = .ok (.i2l, 1) := by decide +kernel
theorem dX9_sum_43 : decode cX9_sum 43 = .ok (.ladd, 1) := by decide +kernel
theorem dX9_sum_44 : decode cX9_sum 44 = .ok (.aload_n 0, 1) := by decide +kernel
theorem dX9_sum_45 : decode cX9_sum 45 = .ok (.getfield 10, 3) := by decide +kernel
theorem dX9_sum_48 : decode cX9_sum 48 = .ok (.iload_n 1, 1) := by decide +kernel
theorem dX9_sum_49 : decode cX9_sum 49 = .ok (.invokevirtual 164, 3) := by decide +kernel
theorem dX9_sum_52 : decode cX9_sum 52 = .ok (.i2l, 1) := by decide +kernel
theorem dX9_sum_53 : decode cX9_sum 53 = .ok (.aload_n 0, 1) := by decide +kernel
theorem dX9_sum_54 : decode cX9_sum 54 = .ok (.getfield 10, 3) := by decide +kernel
theorem dX9_sum_57 : decode cX9_sum 57 = .ok (.iload_n 2, 1) := by decide +kernel
theorem dX9_sum_58 : decode cX9_sum 58 = .ok (.invokevirtual 164, 3) := by decide +kernel
theorem dX9_sum_61 : decode cX9_sum 61 = .ok (.i2l, 1) := by decide +kernel
theorem dX9_sum_62 : decode cX9_sum 62 = .ok (.ladd, 1) := by decide +kernel
theorem dX9_sum_63 : decode cX9_sum 63 = .ok (.aload_n 0, 1) := by decide +kernel
theorem dX9_sum_64 : decode cX9_sum 64 = .ok (.getfield 10, 3) := by decide +kernel
theorem dX9_sum_67 : decode cX9_sum 67 = .ok (.iload_n 1, 1) := by decide +kernel
theorem dX9_sum_68 : decode cX9_sum 68 = .ok (.invokevirtual 167, 3) := by decide +kernel
theorem dX9_sum_71 : decode cX9_sum 71 = .ok (.i2l, 1) := by decide +kernel
theorem dX9_sum_72 : decode cX9_sum 72 = .ok (.aload_n 0, 1) := by decide +kernel
theorem dX9_sum_73 : decode cX9_sum 73 = .ok (.getfield 10, 3) := by decide +kernel
theorem dX9_sum_76 : decode cX9_sum 76 = .ok (.iload_n 2, 1) := by decide +kernel
theorem dX9_sum_77 : decode cX9_sum 77 = .ok (.invokevirtual 167, 3) := by decide +kernel
theorem dX9_sum_80 : decode cX9_sum 80 = .ok (.i2l, 1) := by decide +kernel
theorem dX9_sum_81 : decode cX9_sum 81 = .ok (.ladd, 1) := by decide +kernel
theorem dX9_sum_82 : decode cX9_sum 82 = .ok (.invokevirtual 126, 3) := by decide +kernel
theorem dX9_sum_85 : decode cX9_sum 85 = .ok (.ireturn, 1) := by decide +kernel
theorem dX9_turn_0 : decode cX9_turn 0 = .ok (.aload_n 0, 1) := by decide +kernel
theorem dX9_turn_1 : decode cX9_turn 1 = .ok (.iload_n 1, 1) := by decide +kernel
theorem dX9_turn_2 : decode cX9_turn 2 = .ok (.iconst (-1), 1) := by decide +kernel
theorem dX9_turn_3 : decode cX9_turn 3 = .ok (.iload_n 2, 1) := by decide +kernel
theorem dX9_turn_4 : decode cX9_turn 4 = .ok (.invokevirtual 206, 3) := by decide +kernel
theorem dX9_turn_7 : decode cX9_turn 7 = .ok (.ireturn, 1) := by decide +kernel
theorem dX9_mult_0 : decode cX9_mult 0 = .ok (.iload_n 1, 1) := by decide +kernel
theorem dX9_mult_1 : decode cX9_mult 1 = .ok (.invokestatic 93, 3) := by decide +kernel
theorem dX9_mult_4 : decode cX9_mult 4 = .ok (.ifCond .eq 10, 3) := by decide +kernel
theorem dX9_mult_7 : decode cX9_mult 7 = .ok (.iload_n 3, 1) := by decide +kernel
theorem dX9_mult_8 : decode cX9_mult 8 = .ok (.invokestatic 93, 3) := by decide +kernel
theorem dX9_mult_11 : decode cX9_mult 11 = .ok (.ifCond .ne 5, 3) := by decide +kernel
theorem dX9_mult_14 : decode cX9_mult 14 = .ok (.iconst (-1), 1) := by decide +kernel
theorem dX9_mult_15 : decode cX9_mult 15 = .ok (.ireturn, 1) := by decide +kernel
theorem dX9_mult_16 : decode cX9_mult 16 = .ok (.aload_n 0, 1) := by decide +kernel
theorem dX9_mult_17 : decode cX9_mult 17 = .ok (.iload_n 3, 1) := by decide +kernel
theorem dX9_mult_18 : decode cX9_mult 18 = .ok (.aload_n 0, 1) := by decide +kernel
theorem dX9_mult_19 : decode cX9_mult 19 = .ok (.getfield 10, 3) := by decide +kernel
theorem dX9_mult_22 : decode cX9_mult 22 = .ok (.iload_n 1, 1) := by decide +kernel
theorem dX9_mult_23 : decode cX9_mult 23 = .ok (.invokevirtual 161, 3) := by decide +kernel
theorem dX9_mult_26 : decode cX9_mult 26 = .ok (.i2l, 1) := by decide +kernel
theorem dX9_mult_27 : decode cX9_mult 27 = .ok (.iload_n 2, 1) := by decide +kernel
theorem dX9_mult_28 : decode cX9_mult 28 = .ok (.i2l, 1) := by decide +kernel
theorem dX9_mult_29 : decode cX9_mult 29 = .ok (.lmul, 1) := by decide +kernel
theorem dX9_mult_30 : decode cX9_mult 30 = .ok (.aload_n 0, 1) := by decide +kernel
theorem dX9_mult_31 : decode cX9_mult 31 = .ok (.getfield 10, 3) := by decide +kernel
theorem dX9_mult_34 : decode cX9_mult 34 = .ok (.iload_n 1, 1) := by decide +kernel
theorem dX9_mult_35 : decode cX9_mult 35 = .ok (.invokevirtual 164, 3) := by decide +kernel
theorem dX9_mult_38 : decode cX9_mult 38 = .ok (.i2l, 1) := by decide +kernel
theorem dX9_mult_39 : decode cX9_mult 39 = .ok (.iload_n 2, 1) := by decide +kernel
theorem dX9_mult_40 : decode cX9_mult 40 = .ok (.i2l, 1) := by decide +kernel
theorem dX9_mult_41 : decode cX9_mult 41 = .ok (.lmul, 1) := by decide +kernel
theorem dX9_mult_42 : decode cX9_mult 42 = .ok (.aload_n 0, 1) := by decide +kernel
theorem dX9_mult_43 : decode cX9_mult 43 = .ok (.getfield 10, 3) := by decide +kernel
theorem dX9_mult_46 : decode cX9_mult 46 = .ok (.iload_n 1, 1) := by decide +kernel
theorem dX9_mult_47 : decode cX9_mult 47 = .ok (.invokevirtual 167, 3) := by decide +kernel
theorem dX9_mult_50 : decode cX9_mult 50 = .ok (.i2l, 1) := by decide +kernel
theorem dX9_mult_51 : decode cX9_mult 51 = .ok (.iload_n 2, 1) := by decide +kernel
theorem dX9_mult_52 : decode cX9_mult 52 = .ok (.i2l, 1) := by decide +kernel
theorem dX9_mult_53 : decode cX9_mult 53 = .ok (.lmul, 1) := by decide +kernel
theorem dX9_mult_54 : decode cX9_mult 54 = .ok (.invokevirtual 126, 3) := by decide +kernel
theorem dX9_mult_57 : decode cX9_mult 57 = .ok (.ireturn, 1) := by decide +kernel
theorem dX9_even_0 : decode cX9_even 0 = .ok (.iload_n 1, 1) := by decide +kernel
theorem dX9_even_1 : decode cX9_even 1 = .ok (.invokestatic 93, 3) := by decide +kernel
theorem dX9_even_4 : decode cX9_even 4 = .ok (.ifCond .eq 10, 3) := by decide +kernel
theorem dX9_even_7 : decode cX9_even 7 = .ok (.iload_n 2, 1) := by decide +kernel
theorem dX9_even_8 : decode cX9_even 8 = .ok (.invokestatic 93, 3) := by decide +kernel
theorem dX9_even_11 : decode cX9_even 11 = .ok (.ifCond .ne 5, 3) := by decide +kernel
theorem dX9_even_14 : decode cX9_even 14 = .ok (.iconst (-1), 1) := by decide +kernel
theorem dX9_even_15 : decode cX9_even 15 = .ok (.ireturn, 1) := by decide +kernel
theorem dX9_even_16 : decode cX9_even 16 = .ok (.aload_n 0, 1) := by decide +kernel
theorem dX9_even_17 : decode cX9_even 17 = .ok (.getfield 10, 3) := by decide +kernel
theorem dX9_even_20 : decode cX9_even 20 = .ok (.iload_n 1, 1) := by decide +kernel
theorem dX9_even_21 : decode cX9_even 21 = .ok (.invokevirtual 167, 3) := by decide +kernel
theorem dX9_even_24 : decode cX9_even 24 = .ok (.istore_n 3, 1) := by decide +kernel
theorem dX9_even_25 : decode cX9_even 25 = .ok (.aload_n 0, 1) := by decide +kernel
theorem dX9_even_26 : decode cX9_even 26 = .ok (.iload_n 2, 1) := by decide +kernel
theorem dX9_even_27 : decode cX9_even 27 = .ok (.aload_n 0, 1) := by decide +kernel
theorem dX9_even_28 : decode cX9_even 28 = .ok (.getfield 10, 3) := by decide +kernel
theorem dX9_even_31 : decode cX9_even 31 = .ok (.iload_n 1, 1) := by decide +kernel
theorem dX9_even_32 : decode cX9_even 32 = .ok (.invokevirtual 161, 3) := by decide +kernel
theorem dX9_even_35 : decode cX9_even 35 = .ok (.i2l, 1) := by decide +kernel
theorem dX9_even_36 : decode cX9_even 36 = .ok (.aload_n 0, 1) := by decide +kernel
theorem dX9_even_37 : decode cX9_even 37 = .ok (.getfield 10, 3) := by decide +kernel
theorem dX9_even_40 : decode cX9_even 40 = .ok (.iload_n 1, 1) := by decide +kernel
theorem dX9_even_41 : decode cX9_even 41 = .ok (.invokevirtual 164, 3) := by decide +kernel
theorem dX9_even_44 : decode cX9_even 44 = .ok (.i2l, 1) := by decide +kernel
theorem dX9_even_45 : decode cX9_even 45 = .ok (.iload_n 3, 1) := by decide +kernel
theorem dX9_even_46 : decode cX9_even 46 = .ok (.ldc 111, 2) := by decide +kernel
theorem dX9_even_48 : decode cX9_even 48 = .ok (.idiv, 1) := by decide +kernel
theorem dX9_even_49 : decode cX9_even 49 = .ok (.i2l, 1) := by decide +kernel
theorem dX9_even_50 : decode cX9_even 50 = .ok (.ladd, 1) := by decide +kernel
theorem dX9_even_51 : decode cX9_even 51 = .ok (.iload_n 3, 1) := by decide +kernel
theorem dX9_even_52 : decode cX9_even 52 = .ok (.ldc 111, 2) := by decide +kernel
theorem dX9_even_54 : decode cX9_even 54 = .ok (.irem, 1) := by decide +kernel
theorem dX9_even_55 : decode cX9_even 55 = .ok (.i2l, 1) := by decide +kernel
theorem dX9_even_56 : decode cX9_even 56 = .ok (.invokevirtual 126, 3) := by decide +kernel
theorem dX9_even_59 : decode cX9_even 59 = .ok (.ireturn, 1) := by decide +kernel
theorem dX9_comesToSpan_0 : decode cX9_comesToSpan 0 = .ok (.lload_n 2, 1) := by decide +kernel
theorem dX9_comesToSpan_1 : decode cX9_comesToSpan 1 = .ok (.lload 4, 2) := by decide +kernel
theorem dX9_comesToSpan_3 : decode cX9_comesToSpan 3 = .ok (.lload 6, 2) := by decide +kernel
theorem dX9_comesToSpan_5 : decode cX9_comesToSpan 5 = .ok (.invokestatic 130, 3) := by decide +kernel
theorem dX9_comesToSpan_8 : decode cX9_comesToSpan 8 = .ok (.ifCond .ne 6, 3) := by decide +kernel
theorem dX9_comesToSpan_11 : decode cX9_comesToSpan 11 = .ok (.bipush (-9), 2) := by decide +kernel
theorem dX9_comesToSpan_13 : decode cX9_comesToSpan 13 = .ok (.ireturn, 1) := by decide +kernel
theorem dX9_comesToSpan_14 : decode cX9_comesToSpan 14 = .ok (.aload_n 0, 1) := by decide +kernel
theorem dX9_comesToSpan_15 : decode cX9_comesToSpan 15 = .ok (.getfield 10, 3) := by decide +kernel
theorem dX9_comesToSpan_18 : decode cX9_comesToSpan 18 = .ok (.iload_n 1, 1) := by decide +kernel
theorem dX9_comesToSpan_19 : decode cX9_comesToSpan 19 = .ok (.lload_n 2, 1) := by decide +kernel
theorem dX9_comesToSpan_20 : decode cX9_comesToSpan 20 = .ok (.l2i, 1) := by decide +kernel
theorem dX9_comesToSpan_21 : decode cX9_comesToSpan 21 = .ok (.lload 4, 2) := by decide +kernel
theorem dX9_comesToSpan_23 : decode cX9_comesToSpan 23 = .ok (.l2i, 1) := by decide +kernel
theorem dX9_comesToSpan_24 : decode cX9_comesToSpan 24 = .ok (.lload 6, 2) := by decide +kernel
theorem dX9_comesToSpan_26 : decode cX9_comesToSpan 26 = .ok (.l2i, 1) := by decide +kernel
theorem dX9_comesToSpan_27 : decode cX9_comesToSpan 27 = .ok (.invokevirtual 134, 3) := by decide +kernel
theorem dX9_comesToSpan_30 : decode cX9_comesToSpan 30 = .ok (.aload_n 0, 1) := by decide +kernel
theorem dX9_comesToSpan_31 : decode cX9_comesToSpan 31 = .ok (.getfield 26, 3) := by decide +kernel
theorem dX9_comesToSpan_34 : decode cX9_comesToSpan 34 = .ok (.lload_n 2, 1) := by decide +kernel
theorem dX9_comesToSpan_35 : decode cX9_comesToSpan 35 = .ok (.lload 4, 2) := by decide +kernel
theorem dX9_comesToSpan_37 : decode cX9_comesToSpan 37 = .ok (.lload 6, 2) := by decide +kernel
theorem dX9_comesToSpan_39 : decode cX9_comesToSpan 39 = .ok (.invokevirtual 209, 3) := by decide +kernel
theorem dX9_comesToSpan_42 : decode cX9_comesToSpan 42 = .ok (.lload_n 2, 1) := by decide +kernel
theorem dX9_comesToSpan_43 : decode cX9_comesToSpan 43 = .ok (.l2i, 1) := by decide +kernel
theorem dX9_comesToSpan_44 : decode cX9_comesToSpan 44 = .ok (.ireturn, 1) := by decide +kernel
theorem dX9_between_0 : decode cX9_between 0 = .ok (.iload_n 1, 1) := by decide +kernel
theorem dX9_between_1 : decode cX9_between 1 = .ok (.invokestatic 93, 3) := by decide +kernel
theorem dX9_between_4 : decode cX9_between 4 = .ok (.ifCond .eq 38, 3) := by decide +kernel
theorem dX9_between_7 : decode cX9_between 7 = .ok (.iload_n 2, 1) := by decide +kernel
theorem dX9_between_8 : decode cX9_between 8 = .ok (.invokestatic 93, 3) := by decide +kernel
theorem dX9_between_11 : decode cX9_between 11 = .ok (.ifCond .eq 31, 3) := by decide +kernel
theorem dX9_between_14 : decode cX9_between 14 = .ok (.iload_n 3, 1) := by decide +kernel
theorem dX9_between_15 : decode cX9_between 15 = .ok (.invokestatic 180, 3) := by decide +kernel
theorem dX9_between_18 : decode cX9_between 18 = .ok (.ifCond .eq 24, 3) := by decide +kernel
theorem dX9_between_21 : decode cX9_between 21 = .ok (.iload 4, 2) := by decide +kernel
theorem dX9_between_23 : decode cX9_between 23 = .ok (.iconst 1, 1) := by decide +kernel
theorem dX9_between_24 : decode cX9_between 24 = .ok (.if_icmp .lt 18, 3) := by decide +kernel
theorem dX9_between_27 : decode cX9_between 27 = .ok (.iload 4, 2) := by decide +kernel
theorem dX9_between_29 : decode cX9_between 29 = .ok (.bipush 7, 2) := by decide +kernel
theorem dX9_between_31 : decode cX9_between 31 = .ok (.if_icmp .gt 11, 3) := by decide +kernel
theorem dX9_between_34 : decode cX9_between 34 = .ok (.iload 5, 2) := by decide +kernel
theorem dX9_between_36 : decode cX9_between 36 = .ok (.invokestatic 93, 3) := by decide +kernel
theorem dX9_between_39 : decode cX9_between 39 = .ok (.ifCond .ne 5, 3) := by decide +kernel
theorem dX9_between_42 : decode cX9_between 42 = .ok (.iconst (-1), 1) := by decide +kernel
theorem dX9_between_43 : decode cX9_between 43 = .ok (.ireturn, 1) := by decide +kernel
theorem dX9_between_44 : decode cX9_between 44 = .ok (.iconst 0, 1) := by decide +kernel
theorem dX9_between_45 : decode cX9_between 45 = .ok (.istore 6, 2) := by decide +kernel
theorem dX9_between_47 : decode cX9_between 47 = .ok (.iload 4, 2) := by decide +kernel
theorem dX9_between_49 : decode cX9_between 49 = .ok (.iconst 3, 1) := by decide +kernel
theorem dX9_between_50 : decode cX9_between 50 = .ok (.iand, 1) := by decide +kernel
theorem dX9_between_51 : decode cX9_between 51 = .ok (.ifCond .eq 50, 3) := by decide +kernel
theorem dX9_between_54 : decode cX9_between 54 = .ok (.iload 4, 2) := by decide +kernel
theorem dX9_between_56 : decode cX9_between 56 = .ok (.iconst 2, 1) := by decide +kernel
theorem dX9_between_57 : decode cX9_between 57 = .ok (.iand, 1) := by decide +kernel
theorem dX9_between_58 : decode cX9_between 58 = .ok (.ifCond .ne 7, 3) := by decide +kernel
theorem dX9_between_61 : decode cX9_between 61 = .ok (.iconst 1, 1) := by decide +kernel
theorem dX9_between_62 : decode cX9_between 62 = .ok (.goto 4, 3) := by decide +kernel
theorem dX9_between_65 : decode cX9_between 65 = .ok (.iconst 0, 1) := by decide +kernel
theorem dX9_between_66 : decode cX9_between 66 = .ok (.istore 7, 2) := by decide +kernel
theorem dX9_between_68 : decode cX9_between 68 = .ok (.aload_n 0, 1) := by decide +kernel
theorem dX9_between_69 : decode cX9_between 69 = .ok (.aload_n 0, 1) := by decide +kernel
theorem dX9_between_70 : decode cX9_between 70 = .ok (.getfield 10, 3) := by decide +kernel
theorem dX9_between_73 : decode cX9_between 73 = .ok (.iload_n 1, 1) := by decide +kernel
theorem dX9_between_74 : decode cX9_between 74 = .ok (.invokevirtual 112, 3) := by decide +kernel
theorem dX9_between_77 : decode cX9_between 77 = .ok (.aload_n 0, 1) := by decide +kernel
theorem dX9_between_78 : decode cX9_between 78 = .ok (.getfield 10, 3) := by decide +kernel
theorem dX9_between_81 : decode cX9_between 81 = .ok (.iload_n 1, 1) := by decide +kernel
theorem dX9_between_82 : decode cX9_between 82 = .ok (.invokevirtual 143, 3) := by decide +kernel
theorem dX9_between_85 : decode cX9_between 85 = .ok (.aload_n 0, 1) := by decide +kernel
theorem dX9_between_86 : decode cX9_between 86 = .ok (.getfield 10, 3) := by decide +kernel
theorem dX9_between_89 : decode cX9_between 89 = .ok (.iload_n 2, 1) := by decide +kernel
theorem dX9_between_90 : decode cX9_between 90 = .ok (.invokevirtual 212, 3) := by decide +kernel
theorem dX9_between_93 : decode cX9_between 93 = .ok (.iload_n 3, 1) := by decide +kernel
theorem dX9_between_94 : decode cX9_between 94 = .ok (.iload 7, 2) := by decide +kernel
theorem dX9_between_96 : decode cX9_between 96 = .ok (.invokevirtual 216, 3) := by decide +kernel
theorem dX9_between_99 : decode cX9_between 99 = .ok (.istore 6, 2) := by decide +kernel
theorem dX9_between_101 : decode cX9_between 101 = .ok (.aload_n 0, 1) := by decide +kernel
theorem dX9_between_102 : decode cX9_between 102 = .ok (.getfield 57, 3) := by decide +kernel
theorem dX9_between_105 : decode cX9_between 105 = .ok (.iload 6, 2) := by decide +kernel
theorem dX9_between_107 : decode cX9_between 107 = .ok (.iconst 0, 1) := by decide +kernel
theorem dX9_between_108 : decode cX9_between 108 = .ok (.iconst 0, 1) := by decide +kernel
theorem dX9_between_109 : decode cX9_between 109 = .ok (.iload_n 3, 1) := by decide +kernel
theorem dX9_between_110 : decode cX9_between 110 = .ok (.invokevirtual 220, 3) := by decide +kernel
theorem dX9_between_113 : decode cX9_between 113 = .ok (.aload_n 0, 1) := by decide +kernel
theorem dX9_between_114 : decode cX9_between 114 = .ok (.getfield 57, 3) := by decide +kernel
theorem dX9_between_117 : decode cX9_between 117 = .ok (.aload_n 0, 1) := by decide +kernel
theorem dX9_between_118 : decode cX9_between 118 = .ok (.getfield 10, 3) := by decide +kernel
theorem dX9_between_121 : decode cX9_between 121 = .ok (.iload_n 1, 1) := by decide +kernel
theorem dX9_between_122 : decode cX9_between 122 = .ok (.invokevirtual 112, 3) := by decide +kernel
theorem dX9_between_125 : decode cX9_between 125 = .ok (.aload_n 0, 1) := by decide +kernel
theorem dX9_between_126 : decode cX9_between 126 = .ok (.getfield 10, 3) := by decide +kernel
theorem dX9_between_129 : decode cX9_between 129 = .ok (.iload_n 1, 1) := by decide +kernel
theorem dX9_between_130 : decode cX9_between 130 = .ok (.invokevirtual 143, 3) := by decide +kernel
theorem dX9_between_133 : decode cX9_between 133 = .ok (.iconst 0, 1) := by decide +kernel
theorem dX9_between_134 : decode cX9_between 134 = .ok (.invokevirtual 190, 3) := by decide +kernel
theorem dX9_between_137 : decode cX9_between 137 = .ok (.pop, 1) := by decide +kernel
theorem dX9_between_138 : decode cX9_between 138 = .ok (.aload_n 0, 1) := by decide +kernel
theorem dX9_between_139 : decode cX9_between 139 = .ok (.getfield 10, 3) := by decide +kernel
theorem dX9_between_142 : decode cX9_between 142 = .ok (.iload_n 2, 1) := by decide +kernel
theorem dX9_between_143 : decode cX9_between 143 = .ok (.invokevirtual 212, 3) := by decide +kernel
theorem dX9_between_146 : decode cX9_between 146 = .ok (.aload_n 0, 1) := by decide +kernel
theorem dX9_between_147 : decode cX9_between 147 = .ok (.getfield 57, 3) := by decide +kernel
theorem dX9_between_150 : decode cX9_between 150 = .ok (.invokevirtual 223, 3) := by decide +kernel
theorem dX9_between_153 : decode cX9_between 153 = .ok (.lsub, 1) := by decide +kernel
theorem dX9_between_154 : decode cX9_between 154 = .ok (.lstore 7, 2) := by decide +kernel
theorem dX9_between_156 : decode cX9_between 156 = .ok (.iload 4, 2) := by decide +kernel
theorem dX9_between_158 : decode cX9_between 158 = .ok (.iconst 4, 1) := by decide +kernel
theorem dX9_between_159 : decode cX9_between 159 = .ok (.iand, 1) := by decide +kernel
theorem dX9_between_160 : decode cX9_between 160 = .ok (.ifCond .eq 12, 3) := by decide +kernel
theorem dX9_between_163 : decode cX9_between 163 = .ok (.lload 7, 2) := by decide +kernel
theorem dX9_between_165 : decode cX9_between 165 = .ok (.ldc2_w 227, 3) := by decide +kernel
theorem dX9_between_168 : decode cX9_between 168 = .ok (.ldiv, 1) := by decide +kernel
theorem dX9_between_169 : decode cX9_between 169 = .ok (.goto 4, 3) := by decide +kernel
theorem dX9_between_172 : decode cX9_between 172 = .ok (.lconst 0, 1) := by decide +kernel
theorem dX9_between_173 : decode cX9_between 173 = .ok (.lstore 9, 2) := by decide +kernel
theorem dX9_between_175 : decode cX9_between 175 = .ok (.lload 7, 2) := by decide +kernel
theorem dX9_between_177 : decode cX9_between 177 = .ok (.lload 9, 2) := by decide +kernel
theorem dX9_between_179 : decode cX9_between 179 = .ok (.ldc2_w 227, 3) := by decide +kernel
theorem dX9_between_182 : decode cX9_between 182 = .ok (.lmul, 1) := by decide +kernel
theorem dX9_between_183 : decode cX9_between 183 = .ok (.lsub, 1) := by decide +kernel
theorem dX9_between_184 : decode cX9_between 184 = .ok (.lstore 11, 2) := by decide +kernel
theorem dX9_between_186 : decode cX9_between 186 = .ok (.aload_n 0, 1) := by decide +kernel
theorem dX9_between_187 : decode cX9_between 187 = .ok (.iload 5, 2) := by decide +kernel
theorem dX9_between_189 : decode cX9_between 189 = .ok (.iload 6, 2) := by decide +kernel
theorem dX9_between_191 : decode cX9_between 191 = .ok (.i2l, 1) := by decide +kernel
theorem dX9_between_192 : decode cX9_between 192 = .ok (.lload 9, 2) := by decide +kernel
theorem dX9_between_194 : decode cX9_between 194 = .ok (.lload 11, 2) := by decide +kernel
theorem dX9_between_196 : decode cX9_between 196 = .ok (.invokevirtual 126, 3) := by decide +kernel
theorem dX9_between_199 : decode cX9_between 199 = .ok (.istore 13, 2) := by decide +kernel
theorem dX9_between_201 : decode cX9_between 201 = .ok (.iload 6, 2) := by decide +kernel
theorem dX9_between_203 : decode cX9_between 203 = .ok (.i2l, 1) := by decide +kernel
theorem dX9_between_204 : decode cX9_between 204 = .ok (.lload 9, 2) := by decide +kernel
theorem dX9_between_206 : decode cX9_between 206 = .ok (.lload 11, 2) := by decide +kernel
theorem dX9_between_208 : decode cX9_between 208 = .ok (.invokestatic 130, 3) := by decide +kernel
theorem dX9_between_211 : decode cX9_between 211 = .ok (.ifCond .eq 27, 3) := by decide +kernel
theorem dX9_between_214 : decode cX9_between 214 = .ok (.aload_n 0, 1) := by decide +kernel
theorem dX9_between_215 : decode cX9_between 215 = .ok (.getfield 26, 3) := by decide +kernel
theorem dX9_between_218 : decode cX9_between 218 = .ok (.aload_n 0, 1) := by decide +kernel
theorem dX9_between_219 : decode cX9_between 219 = .ok (.iload_n 1, 1) := by decide +kernel
theorem dX9_between_220 : decode cX9_between 220 = .ok (.iload_n 2, 1) := by decide +kernel
theorem dX9_between_221 : decode cX9_between 221 = .ok (.iload 5, 2) := by decide +kernel
theorem dX9_between_223 : decode cX9_between 223 = .ok (.iload_n 3, 1) := by decide +kernel
theorem dX9_between_224 : decode cX9_between 224 = .ok (.invokevirtual 229, 3) := by decide +kernel
theorem dX9_between_227 : decode cX9_between 227 = .ok (.ifCond .eq 7, 3) := by decide +kernel
theorem dX9_between_230 : decode cX9_between 230 = .ok (.lconst 1, 1) := by decide +kernel
theorem dX9_between_231 : decode cX9_between 231 = .ok (.goto 4, 3) := by decide +kernel
theorem dX9_between_234 : decode cX9_between 234 = .ok (.lconst 0, 1) := by decide +kernel
theorem dX9_between_235 : decode cX9_between 235 = .ok (.invokevirtual 233, 3) := by decide +kernel
theorem dX9_between_238 : decode cX9_between 238 = .ok (.iload 13, 2) := by decide +kernel
theorem dX9_between_240 : decode cX9_between 240 = .ok (.ireturn, 1) := by decide +kernel
theorem dX9_returns_0 : decode cX9_returns 0 = .ok (.aload_n 0, 1) := by decide +kernel
theorem dX9_returns_1 : decode cX9_returns 1 = .ok (.getfield 57, 3) := by decide +kernel
theorem dX9_returns_4 : decode cX9_returns 4 = .ok (.aload_n 0, 1) := by decide +kernel
theorem dX9_returns_5 : decode cX9_returns 5 = .ok (.getfield 10, 3) := by decide +kernel
theorem dX9_returns_8 : decode cX9_returns 8 = .ok (.iload_n 3, 1) := by decide +kernel
theorem dX9_returns_9 : decode cX9_returns 9 = .ok (.iconst (-1), 1) := by decide +kernel
theorem dX9_returns_10 : decode cX9_returns 10 = .ok (.iload 4, 2) := by decide +kernel
theorem dX9_returns_12 : decode cX9_returns 12 = .ok (.invokevirtual 186, 3) := by decide +kernel
theorem dX9_returns_15 : decode cX9_returns 15 = .ok (.pop, 1) := by decide +kernel
theorem dX9_returns_16 : decode cX9_returns 16 = .ok (.aload_n 0, 1) := by decide +kernel
theorem dX9_returns_17 : decode cX9_returns 17 = .ok (.getfield 57, 3) := by decide +kernel
theorem dX9_returns_20 : decode cX9_returns 20 = .ok (.aload_n 0, 1) := by decide +kernel
theorem dX9_returns_21 : decode cX9_returns 21 = .ok (.getfield 10, 3) := by decide +kernel
theorem dX9_returns_24 : decode cX9_returns 24 = .ok (.iload_n 2, 1) := by decide +kernel
theorem dX9_returns_25 : decode cX9_returns 25 = .ok (.invokevirtual 112, 3) := by decide +kernel
theorem dX9_returns_28 : decode cX9_returns 28 = .ok (.aload_n 0, 1) := by decide +kernel
theorem dX9_returns_29 : decode cX9_returns 29 = .ok (.getfield 10, 3) := by decide +kernel
theorem dX9_returns_32 : decode cX9_returns 32 = .ok (.iload_n 2, 1) := by decide +kernel
theorem dX9_returns_33 : decode cX9_returns 33 = .ok (.invokevirtual 143, 3) := by decide +kernel
theorem dX9_returns_36 : decode cX9_returns 36 = .ok (.iconst 0, 1) := by decide +kernel
theorem dX9_returns_37 : decode cX9_returns 37 = .ok (.invokevirtual 190, 3) := by decide +kernel
theorem dX9_returns_40 : decode cX9_returns 40 = .ok (.ifCond .eq 26, 3) := by decide +kernel
theorem dX9_returns_43 : decode cX9_returns 43 = .ok (.aload_n 0, 1) := by decide +kernel
theorem dX9_returns_44 : decode cX9_returns 44 = .ok (.getfield 57, 3) := by decide +kernel
theorem dX9_returns_47 : decode cX9_returns 47 = .ok (.invokevirtual 223, 3) := by decide +kernel
theorem dX9_returns_50 : decode cX9_returns 50 = .ok (.aload_n 0, 1) := by decide +kernel
theorem dX9_returns_51 : decode cX9_returns 51 = .ok (.getfield 10, 3) := by decide +kernel
theorem dX9_returns_54 : decode cX9_returns 54 = .ok (.iload_n 1, 1) := by decide +kernel
theorem dX9_returns_55 : decode cX9_returns 55 = .ok (.invokevirtual 212, 3) := by decide +kernel
theorem dX9_returns_58 : decode cX9_returns 58 = .ok (.lcmp, 1) := by decide +kernel
theorem dX9_returns_59 : decode cX9_returns 59 = .ok (.ifCond .ne 7, 3) := by decide +kernel
theorem dX9_returns_62 : decode cX9_returns 62 = .ok (.iconst 1, 1) := by decide +kernel
theorem dX9_returns_63 : decode cX9_returns 63 = .ok (.goto 4, 3) := by decide +kernel
theorem dX9_returns_66 : decode cX9_returns 66 = .ok (.iconst 0, 1) := by decide +kernel
theorem dX9_returns_67 : decode cX9_returns 67 = .ok (.ireturn, 1) := by decide +kernel
theorem dX9_mostMonths_0 : decode cX9_mostMonths 0 = .ok (.lload_n 3, 1) := by decide +kernel
theorem dX9_mostMonths_1 : decode cX9_mostMonths 1 = .ok (.iload_n 1, 1) := by decide +kernel
theorem dX9_mostMonths_2 : decode cX9_mostMonths 2 = .ok (.iload_n 2, 1) := by decide +kernel
theorem dX9_mostMonths_3 : decode cX9_mostMonths 3 = .ok (.invokestatic 236, 3) := by decide +kernel
theorem dX9_mostMonths_6 : decode cX9_mostMonths 6 = .ok (.lcmp, 1) := by decide +kernel
theorem dX9_mostMonths_7 : decode cX9_mostMonths 7 = .ok (.ifCond .ge 7, 3) := by decide +kernel
theorem dX9_mostMonths_10 : decode cX9_mostMonths 10 = .ok (.iconst (-1), 1) := by decide +kernel
theorem dX9_mostMonths_11 : decode cX9_mostMonths 11 = .ok (.goto 4, 3) := by decide +kernel
theorem dX9_mostMonths_14 : decode cX9_mostMonths 14 = .ok (.iconst 1, 1) := by decide +kernel
theorem dX9_mostMonths_15 : decode cX9_mostMonths 15 = .ok (.istore 7, 2) := by decide +kernel
theorem dX9_mostMonths_17 : decode cX9_mostMonths 17 = .ok (.lload_n 3, 1) := by decide +kernel
theorem dX9_mostMonths_18 : decode cX9_mostMonths 18 = .ok (.ldc2_w 227, 3) := by decide +kernel
theorem dX9_mostMonths_21 : decode cX9_mostMonths 21 = .ok (.ldiv, 1) := by decide +kernel
theorem dX9_mostMonths_22 : decode cX9_mostMonths 22 = .ok (.l2i, 1) := by decide +kernel
theorem dX9_mostMonths_23 : decode cX9_mostMonths 23 = .ok (.invokestatic 240, 3) := by decide +kernel
theorem dX9_mostMonths_26 : decode cX9_mostMonths 26 = .ok (.istore 8, 2) := by decide +kernel
theorem dX9_mostMonths_28 : decode cX9_mostMonths 28 = .ok (.iload 8, 2) := by decide +kernel
theorem dX9_mostMonths_30 : decode cX9_mostMonths 30 = .ok (.iload_n 1, 1) := by decide +kernel
theorem dX9_mostMonths_31 : decode cX9_mostMonths 31 = .ok (.invokestatic 240, 3) := by decide +kernel
theorem dX9_mostMonths_34 : decode cX9_mostMonths 34 = .ok (.isub, 1) := by decide +kernel
theorem dX9_mostMonths_35 : decode cX9_mostMonths 35 = .ok (.invokestatic 243, 3) := by decide +kernel
theorem dX9_mostMonths_38 : decode cX9_mostMonths 38 = .ok (.istore 9, 2) := by decide +kernel
theorem dX9_mostMonths_40 : decode cX9_mostMonths 40 = .ok (.iload 9, 2) := by decide +kernel
theorem dX9_mostMonths_42 : decode cX9_mostMonths 42 = .ok (.iconst 1, 1) := by decide +kernel
theorem dX9_mostMonths_43 : decode cX9_mostMonths 43 = .ok (.iadd, 1) := by decide +kernel
theorem dX9_mostMonths_44 : decode cX9_mostMonths 44 = .ok (.istore 10, 2) := by decide +kernel
theorem dX9_mostMonths_46 : decode cX9_mostMonths 46 = .ok (.iload 10, 2) := by decide +kernel
theorem dX9_mostMonths_48 : decode cX9_mostMonths 48 = .ok (.ifCond .le 78, 3) := by decide +kernel
theorem dX9_mostMonths_51 : decode cX9_mostMonths 51 = .ok (.iload 6, 2) := by decide +kernel
theorem dX9_mostMonths_53 : decode cX9_mostMonths 53 = .ok (.ifCond .eq 14, 3) := by decide +kernel
theorem dX9_mostMonths_56 : decode cX9_mostMonths 56 = .ok (.iload 10, 2) := by decide +kernel
theorem dX9_mostMonths_58 : decode cX9_mostMonths 58 = .ok (.bipush 12, 2) := by decide +kernel
theorem dX9_mostMonths_60 : decode cX9_mostMonths 60 = .ok (.irem, 1) := by decide +kernel
theorem dX9_mostMonths_61 : decode cX9_mostMonths 61 = .ok (.ifCond .eq 6, 3) := by decide +kernel
theorem dX9_mostMonths_64 : decode cX9_mostMonths 64 = .ok (.goto 56, 3) := by decide +kernel
theorem dX9_mostMonths_67 : decode cX9_mostMonths 67 = .ok (.aload_n 0, 1) := by decide +kernel
theorem dX9_mostMonths_68 : decode cX9_mostMonths 68 = .ok (.getfield 57, 3) := by decide +kernel
theorem dX9_mostMonths_71 : decode cX9_mostMonths 71 = .ok (.iload 7, 2) := by decide +kernel
theorem dX9_mostMonths_73 : decode cX9_mostMonths 73 = .ok (.iload 10, 2) := by decide +kernel
theorem dX9_mostMonths_75 : decode cX9_mostMonths 75 = .ok (.imul, 1) := by decide +kernel
theorem dX9_mostMonths_76 : decode cX9_mostMonths 76 = .ok (.iconst 0, 1) := by decide +kernel
theorem dX9_mostMonths_77 : decode cX9_mostMonths 77 = .ok (.iconst 0, 1) := by decide +kernel
theorem dX9_mostMonths_78 : decode cX9_mostMonths 78 = .ok (.iload 5, 2) := by decide +kernel
theorem dX9_mostMonths_80 : decode cX9_mostMonths 80 = .ok (.invokevirtual 220, 3) := by decide +kernel
theorem dX9_mostMonths_83 : decode cX9_mostMonths 83 = .ok (.aload_n 0, 1) := by decide +kernel
theorem dX9_mostMonths_84 : decode cX9_mostMonths 84 = .ok (.getfield 57, 3) := by decide +kernel
theorem dX9_mostMonths_87 : decode cX9_mostMonths 87 = .ok (.iload_n 1, 1) := by decide +kernel
theorem dX9_mostMonths_88 : decode cX9_mostMonths 88 = .ok (.iload_n 2, 1) := by decide +kernel
theorem dX9_mostMonths_89 : decode cX9_mostMonths 89 = .ok (.iconst 0, 1) := by decide +kernel
theorem dX9_mostMonths_90 : decode cX9_mostMonths 90 = .ok (.invokevirtual 190, 3) := by decide +kernel
theorem dX9_mostMonths_93 : decode cX9_mostMonths 93 = .ok (.ifCond .eq 27, 3) := by decide +kernel
theorem dX9_mostMonths_96 : decode cX9_mostMonths 96 = .ok (.iload 7, 2) := by decide +kernel
theorem dX9_mostMonths_98 : decode cX9_mostMonths 98 = .ok (.i2l, 1) := by decide +kernel
theorem dX9_mostMonths_99 : decode cX9_mostMonths 99 = .ok (.lload_n 3, 1) := by decide +kernel
theorem dX9_mostMonths_100 : decode cX9_mostMonths 100 = .ok (.aload_n 0, 1) := by decide +kernel
theorem dX9_mostMonths_101 : decode cX9_mostMonths 101 = .ok (.getfield 57, 3) := by decide +kernel
theorem dX9_mostMonths_104 : decode cX9_mostMonths 104 = .ok (.invokevirtual 223, 3) := by decide +kernel
theorem dX9_mostMonths_107 : decode cX9_mostMonths 107 = .ok (.lsub, 1) := by decide +kernel
theorem dX9_mostMonths_108 : decode cX9_mostMonths 108 = .ok (.lmul, 1) := by decide +kernel
theorem dX9_mostMonths_109 : decode cX9_mostMonths 109 = .ok (.lconst 0, 1) := by decide +kernel
theorem dX9_mostMonths_110 : decode cX9_mostMonths 110 = .ok (.lcmp, 1) := by decide +kernel
theorem dX9_mostMonths_111 : decode cX9_mostMonths 111 = .ok (.ifCond .lt 9, 3) := by decide +kernel
theorem dX9_mostMonths_114 : decode cX9_mostMonths 114 = .ok (.iload 7, 2) := by decide +kernel
theorem dX9_mostMonths_116 : decode cX9_mostMonths 116 = .ok (.iload 10, 2) := by decide +kernel
theorem dX9_mostMonths_118 : decode cX9_mostMonths 118 = .ok (.imul, 1) := by decide +kernel
theorem dX9_mostMonths_119 : decode cX9_mostMonths 119 = .ok (.ireturn, 1) := by decide +kernel
theorem dX9_mostMonths_120 : decode cX9_mostMonths 120 = .ok (.iinc 10 (-1), 3) := by decide +kernel
theorem dX9_mostMonths_123 : decode cX9_mostMonths 123 = .ok (.goto (-77), 3) := by decide +kernel
theorem dX9_mostMonths_126 : decode cX9_mostMonths 126 = .ok (.iconst 0, 1) := by decide +kernel
theorem dX9_mostMonths_127 : decode cX9_mostMonths 127 = .ok (.ireturn, 1) := by decide +kernel
theorem dX9_least_0 : decode cX9_least 0 = .ok (.iload_n 1, 1) := by decide +kernel
theorem dX9_least_1 : decode cX9_least 1 = .ok (.invokestatic 93, 3) := by decide +kernel
theorem dX9_least_4 : decode cX9_least 4 = .ok (.ifCond .eq 17, 3) := by decide +kernel
theorem dX9_least_7 : decode cX9_least 7 = .ok (.iload_n 2, 1) := by decide +kernel
theorem dX9_least_8 : decode cX9_least 8 = .ok (.invokestatic 93, 3) := by decide +kernel
theorem dX9_least_11 : decode cX9_least 11 = .ok (.ifCond .eq 10, 3) := by decide +kernel
theorem dX9_least_14 : decode cX9_least 14 = .ok (.iload_n 3, 1) := by decide +kernel
theorem dX9_least_15 : decode cX9_least 15 = .ok (.invokestatic 180, 3) := by decide +kernel
theorem dX9_least_18 : decode cX9_least 18 = .ok (.ifCond .ne 5, 3) := by decide +kernel
theorem dX9_least_21 : decode cX9_least 21 = .ok (.iconst (-1), 1) := by decide +kernel
theorem dX9_least_22 : decode cX9_least 22 = .ok (.ireturn, 1) := by decide +kernel
theorem dX9_least_23 : decode cX9_least 23 = .ok (.aload_n 0, 1) := by decide +kernel
theorem dX9_least_24 : decode cX9_least 24 = .ok (.getfield 10, 3) := by decide +kernel
theorem dX9_least_27 : decode cX9_least 27 = .ok (.iload_n 1, 1) := by decide +kernel
theorem dX9_least_28 : decode cX9_least 28 = .ok (.invokevirtual 112, 3) := by decide +kernel
theorem dX9_least_31 : decode cX9_least 31 = .ok (.istore 4, 2) := by decide +kernel
theorem dX9_least_33 : decode cX9_least 33 = .ok (.aload_n 0, 1) := by decide +kernel
theorem dX9_least_34 : decode cX9_least 34 = .ok (.getfield 10, 3) := by decide +kernel
theorem dX9_least_37 : decode cX9_least 37 = .ok (.iload_n 2, 1) := by decide +kernel
theorem dX9_least_38 : decode cX9_least 38 = .ok (.invokevirtual 112, 3) := by decide +kernel
theorem dX9_least_41 : decode cX9_least 41 = .ok (.istore 5, 2) := by decide +kernel
theorem dX9_least_43 : decode cX9_least 43 = .ok (.iload 5, 2) := by decide +kernel
theorem dX9_least_45 : decode cX9_least 45 = .ok (.iload 4, 2) := by decide +kernel
theorem dX9_least_47 : decode cX9_least 47 = .ok (.if_icmp .ge 7, 3) := by decide +kernel
theorem dX9_least_50 : decode cX9_least 50 = .ok (.iconst (-1), 1) := by decide +kernel
theorem dX9_least_51 : decode cX9_least 51 = .ok (.goto 4, 3) := by decide +kernel
theorem dX9_least_54 : decode cX9_least 54 = .ok (.iconst 1, 1) := by decide +kernel
theorem dX9_least_55 : decode cX9_least 55 = .ok (.istore 6, 2) := by decide +kernel
theorem dX9_least_57 : decode cX9_least 57 = .ok (.aload_n 0, 1) := by decide +kernel
theorem dX9_least_58 : decode cX9_least 58 = .ok (.iload 4, 2) := by decide +kernel
theorem dX9_least_60 : decode cX9_least 60 = .ok (.iconst 0, 1) := by decide +kernel
theorem dX9_least_61 : decode cX9_least 61 = .ok (.iload 5, 2) := by decide +kernel
theorem dX9_least_63 : decode cX9_least 63 = .ok (.iconst 0, 1) := by decide +kernel
theorem dX9_least_64 : decode cX9_least 64 = .ok (.invokestatic 236, 3) := by decide +kernel
theorem dX9_least_67 : decode cX9_least 67 = .ok (.iload_n 3, 1) := by decide +kernel
theorem dX9_least_68 : decode cX9_least 68 = .ok (.iconst 0, 1) := by decide +kernel
theorem dX9_least_69 : decode cX9_least 69 = .ok (.invokevirtual 216, 3) := by decide +kernel
theorem dX9_least_72 : decode cX9_least 72 = .ok (.invokestatic 243, 3) := by decide +kernel
theorem dX9_least_75 : decode cX9_least 75 = .ok (.bipush 12, 2) := by decide +kernel
theorem dX9_least_77 : decode cX9_least 77 = .ok (.iadd, 1) := by decide +kernel
theorem dX9_least_78 : decode cX9_least 78 = .ok (.istore 7, 2) := by decide +kernel
theorem dX9_least_80 : decode cX9_least 80 = .ok (.iconst 0, 1) := by decide +kernel
theorem dX9_least_81 : decode cX9_least 81 = .ok (.iload 5, 2) := by decide +kernel
theorem dX9_least_83 : decode cX9_least 83 = .ok (.iload 4, 2) := by decide +kernel
theorem dX9_least_85 : decode cX9_least 85 = .ok (.isub, 1) := by decide +kernel
theorem dX9_least_86 : decode cX9_least 86 = .ok (.invokestatic 248, 3) := by decide +kernel
theorem dX9_least_89 : decode cX9_least 89 = .ok (.istore 8, 2) := by decide +kernel
theorem dX9_least_91 : decode cX9_least 91 = .ok (.iconst 0, 1) := by decide +kernel
theorem dX9_least_92 : decode cX9_least 92 = .ok (.istore 9, 2) := by decide +kernel
theorem dX9_least_94 : decode cX9_least 94 = .ok (.iload 5, 2) := by decide +kernel
theorem dX9_least_96 : decode cX9_least 96 = .ok (.iload 4, 2) := by decide +kernel
theorem dX9_least_98 : decode cX9_least 98 = .ok (.isub, 1) := by decide +kernel
theorem dX9_least_99 : decode cX9_least 99 = .ok (.istore 10, 2) := by decide +kernel
theorem dX9_least_101 : decode cX9_least 101 = .ok (.iconst 1, 1) := by decide +kernel
theorem dX9_least_102 : decode cX9_least 102 = .ok (.istore 11, 2) := by decide +kernel
theorem dX9_least_104 : decode cX9_least 104 = .ok (.iload 11, 2) := by decide +kernel
theorem dX9_least_106 : decode cX9_least 106 = .ok (.iload 7, 2) := by decide +kernel
theorem dX9_least_108 : decode cX9_least 108 = .ok (.if_icmp .gt 94, 3) := by decide +kernel
theorem dX9_least_111 : decode cX9_least 111 = .ok (.aload_n 0, 1) := by decide +kernel
theorem dX9_least_112 : decode cX9_least 112 = .ok (.getfield 57, 3) := by decide +kernel
theorem dX9_least_115 : decode cX9_least 115 = .ok (.iload 6, 2) := by decide +kernel
theorem dX9_least_117 : decode cX9_least 117 = .ok (.iload 11, 2) := by decide +kernel
theorem dX9_least_119 : decode cX9_least 119 = .ok (.imul, 1) := by decide +kernel
theorem dX9_least_120 : decode cX9_least 120 = .ok (.iconst 0, 1) := by decide +kernel
theorem dX9_least_121 : decode cX9_least 121 = .ok (.iconst 0, 1) := by decide +kernel
theorem dX9_least_122 : decode cX9_least 122 = .ok (.iload_n 3, 1) := by decide +kernel
theorem dX9_least_123 : decode cX9_least 123 = .ok (.invokevirtual 220, 3) := by decide +kernel
theorem dX9_least_126 : decode cX9_least 126 = .ok (.aload_n 0, 1) := by decide +kernel
theorem dX9_least_127 : decode cX9_least 127 = .ok (.getfield 57, 3) := by decide +kernel
theorem dX9_least_130 : decode cX9_least 130 = .ok (.iload 4, 2) := by decide +kernel
theorem dX9_least_132 : decode cX9_least 132 = .ok (.iconst 0, 1) := by decide +kernel
theorem dX9_least_133 : decode cX9_least 133 = .ok (.iconst 0, 1) := by decide +kernel
theorem dX9_least_134 : decode cX9_least 134 = .ok (.invokevirtual 190, 3) := by decide +kernel
theorem dX9_least_137 : decode cX9_least 137 = .ok (.ifCond .eq 59, 3) := by decide +kernel
theorem dX9_least_140 : decode cX9_least 140 = .ok (.iload 11, 2) := by decide +kernel
theorem dX9_least_142 : decode cX9_least 142 = .ok (.iload 5, 2) := by decide +kernel
theorem dX9_least_144 : decode cX9_least 144 = .ok (.aload_n 0, 1) := by decide +kernel
theorem dX9_least_145 : decode cX9_least 145 = .ok (.getfield 57, 3) := by decide +kernel
theorem dX9_least_148 : decode cX9_least 148 = .ok (.getfield 194, 3) := by decide +kernel
theorem dX9_least_151 : decode cX9_least 151 = .ok (.isub, 1) := by decide +kernel
theorem dX9_least_152 : decode cX9_least 152 = .ok (.invokestatic 248, 3) := by decide +kernel
theorem dX9_least_155 : decode cX9_least 155 = .ok (.iload 8, 2) := by decide +kernel
theorem dX9_least_157 : decode cX9_least 157 = .ok (.if_icmp .ge 39, 3) := by decide +kernel
theorem dX9_least_160 : decode cX9_least 160 = .ok (.iload 11, 2) := by decide +kernel
theorem dX9_least_162 : decode cX9_least 162 = .ok (.iload 5, 2) := by decide +kernel
theorem dX9_least_164 : decode cX9_least 164 = .ok (.aload_n 0, 1) := by decide +kernel
theorem dX9_least_165 : decode cX9_least 165 = .ok (.getfield 57, 3) := by decide +kernel
theorem dX9_least_168 : decode cX9_least 168 = .ok (.getfield 194, 3) := by decide +kernel
theorem dX9_least_171 : decode cX9_least 171 = .ok (.isub, 1) := by decide +kernel
theorem dX9_least_172 : decode cX9_least 172 = .ok (.invokestatic 248, 3) := by decide +kernel
theorem dX9_least_175 : decode cX9_least 175 = .ok (.istore 8, 2) := by decide +kernel
theorem dX9_least_177 : decode cX9_least 177 = .ok (.iload 6, 2) := by decide +kernel
theorem dX9_least_179 : decode cX9_least 179 = .ok (.iload 11, 2) := by decide +kernel
theorem dX9_least_181 : decode cX9_least 181 = .ok (.imul, 1) := by decide +kernel
theorem dX9_least_182 : decode cX9_least 182 = .ok (.istore 9, 2) := by decide +kernel
theorem dX9_least_184 : decode cX9_least 184 = .ok (.iload 5, 2) := by decide +kernel
theorem dX9_least_186 : decode cX9_least 186 = .ok (.aload_n 0, 1) := by decide +kernel
theorem dX9_least_187 : decode cX9_least 187 = .ok (.getfield 57, 3) := by decide +kernel
theorem dX9_least_190 : decode cX9_least 190 = .ok (.getfield 194, 3) := by decide +kernel
theorem dX9_least_193 : decode cX9_least 193 = .ok (.isub, 1) := by decide +kernel
theorem dX9_least_194 : decode cX9_least 194 = .ok (.istore 10, 2) := by decide +kernel
theorem dX9_least_196 : decode cX9_least 196 = .ok (.iinc 11 1, 3) := by decide +kernel
theorem dX9_least_199 : decode cX9_least 199 = .ok (.goto (-95), 3) := by decide +kernel
theorem dX9_least_202 : decode cX9_least 202 = .ok (.aload_n 0, 1) := by decide +kernel
theorem dX9_least_203 : decode cX9_least 203 = .ok (.getfield 26, 3) := by decide +kernel
theorem dX9_least_206 : decode cX9_least 206 = .ok (.iload 9, 2) := by decide +kernel
theorem dX9_least_208 : decode cX9_least 208 = .ok (.i2l, 1) := by decide +kernel
theorem dX9_least_209 : decode cX9_least 209 = .ok (.iload 10, 2) := by decide +kernel
theorem dX9_least_211 : decode cX9_least 211 = .ok (.i2l, 1) := by decide +kernel
theorem dX9_least_212 : decode cX9_least 212 = .ok (.invokevirtual 199, 3) := by decide +kernel
theorem dX9_least_215 : decode cX9_least 215 = .ok (.iload 8, 2) := by decide +kernel
theorem dX9_least_217 : decode cX9_least 217 = .ok (.ireturn, 1) := by decide +kernel
theorem dX9_phraseSize_0 : decode cX9_phraseSize 0 = .ok (.iload_n 0, 1) := by decide +kernel
