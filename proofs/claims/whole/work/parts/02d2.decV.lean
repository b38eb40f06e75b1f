theorem d_1_0 : decode (g_m 1).2.1 0 = .ok (.aload_n 0, 1) := by decide +kernel
theorem d_1_1 : decode (g_m 1).2.1 1 = .ok (.invokespecial 3, 3) := by decide +kernel
theorem d_1_4 : decode (g_m 1).2.1 4 = .ok (.aload_n 0, 1) := by decide +kernel
theorem d_1_5 : decode (g_m 1).2.1 5 = .ok (.iload_n 1, 1) := by decide +kernel
theorem d_1_6 : decode (g_m 1).2.1 6 = .ok (.putfield 9, 3) := by decide +kernel
theorem d_1_9 : decode (g_m 1).2.1 9 = .ok (.aload_n 0, 1) := by decide +kernel
theorem d_1_10 : decode (g_m 1).2.1 10 = .ok (.bipush 100, 2) := by decide +kernel
theorem d_1_12 : decode (g_m 1).2.1 12 = .ok (.newarray .boolean, 2) := by decide +kernel
theorem d_1_14 : decode (g_m 1).2.1 14 = .ok (.putfield 15, 3) := by decide +kernel
theorem d_1_17 : decode (g_m 1).2.1 17 = .ok (.aload_n 0, 1) := by decide +kernel
theorem d_1_18 : decode (g_m 1).2.1 18 = .ok (.bipush 100, 2) := by decide +kernel
theorem d_1_20 : decode (g_m 1).2.1 20 = .ok (.newarray .boolean, 2) := by decide +kernel
theorem d_1_22 : decode (g_m 1).2.1 22 = .ok (.putfield 19, 3) := by decide +kernel
theorem d_1_25 : decode (g_m 1).2.1 25 = .ok (.aload_n 0, 1) := by decide +kernel
theorem d_1_26 : decode (g_m 1).2.1 26 = .ok (.bipush 101, 2) := by decide +kernel
theorem d_1_28 : decode (g_m 1).2.1 28 = .ok (.iload_n 1, 1) := by decide +kernel
theorem d_1_29 : decode (g_m 1).2.1 29 = .ok (.imul, 1) := by decide +kernel
theorem d_1_30 : decode (g_m 1).2.1 30 = .ok (.newarray .int, 2) := by decide +kernel
theorem d_1_32 : decode (g_m 1).2.1 32 = .ok (.putfield 22, 3) := by decide +kernel
theorem d_1_35 : decode (g_m 1).2.1 35 = .ok (.aload_n 0, 1) := by decide +kernel
theorem d_1_36 : decode (g_m 1).2.1 36 = .ok (.iconst 0, 1) := by decide +kernel
theorem d_1_37 : decode (g_m 1).2.1 37 = .ok (.putfield 26, 3) := by decide +kernel
theorem d_1_40 : decode (g_m 1).2.1 40 = .ok (.aload_n 0, 1) := by decide +kernel
theorem d_1_41 : decode (g_m 1).2.1 41 = .ok (.iconst 0, 1) := by decide +kernel
theorem d_1_42 : decode (g_m 1).2.1 42 = .ok (.putfield 29, 3) := by decide +kernel
theorem d_1_45 : decode (g_m 1).2.1 45 = .ok (.return_, 1) := by decide +kernel
theorem d_5_0 : decode (g_m 5).2.1 0 = .ok (.bipush 100, 2) := by decide +kernel
theorem d_5_2 : decode (g_m 5).2.1 2 = .ok (.aload_n 0, 1) := by decide +kernel
theorem d_5_3 : decode (g_m 5).2.1 3 = .ok (.getfield 9, 3) := by decide +kernel
theorem d_5_6 : decode (g_m 5).2.1 6 = .ok (.imul, 1) := by decide +kernel
theorem d_5_7 : decode (g_m 5).2.1 7 = .ok (.iload_n 1, 1) := by decide +kernel
theorem d_5_8 : decode (g_m 5).2.1 8 = .ok (.iadd, 1) := by decide +kernel
theorem d_5_9 : decode (g_m 5).2.1 9 = .ok (.istore_n 3, 1) := by decide +kernel
theorem d_5_10 : decode (g_m 5).2.1 10 = .ok (.aload_n 0, 1) := by decide +kernel
theorem d_5_11 : decode (g_m 5).2.1 11 = .ok (.getfield 22, 3) := by decide +kernel
theorem d_5_14 : decode (g_m 5).2.1 14 = .ok (.iload_n 3, 1) := by decide +kernel
theorem d_5_15 : decode (g_m 5).2.1 15 = .ok (.iaload, 1) := by decide +kernel
theorem d_5_16 : decode (g_m 5).2.1 16 = .ok (.istore 4, 2) := by decide +kernel
theorem d_5_18 : decode (g_m 5).2.1 18 = .ok (.aload_n 0, 1) := by decide +kernel
theorem d_5_19 : decode (g_m 5).2.1 19 = .ok (.getfield 22, 3) := by decide +kernel
theorem d_5_22 : decode (g_m 5).2.1 22 = .ok (.iload_n 3, 1) := by decide +kernel
theorem d_5_23 : decode (g_m 5).2.1 23 = .ok (.iload_n 2, 1) := by decide +kernel
theorem d_5_24 : decode (g_m 5).2.1 24 = .ok (.iastore, 1) := by decide +kernel
theorem d_5_25 : decode (g_m 5).2.1 25 = .ok (.iload 4, 2) := by decide +kernel
theorem d_5_27 : decode (g_m 5).2.1 27 = .ok (.ireturn, 1) := by decide +kernel
theorem d_7_0 : decode (g_m 7).2.1 0 = .ok (.aload_n 0, 1) := by decide +kernel
theorem d_7_1 : decode (g_m 7).2.1 1 = .ok (.getfield 26, 3) := by decide +kernel
theorem d_7_4 : decode (g_m 7).2.1 4 = .ok (.istore_n 1, 1) := by decide +kernel
theorem d_7_5 : decode (g_m 7).2.1 5 = .ok (.aload_n 0, 1) := by decide +kernel
theorem d_7_6 : decode (g_m 7).2.1 6 = .ok (.bipush 100, 2) := by decide +kernel
theorem d_7_8 : decode (g_m 7).2.1 8 = .ok (.iload_n 1, 1) := by decide +kernel
theorem d_7_9 : decode (g_m 7).2.1 9 = .ok (.invokevirtual 36, 3) := by decide +kernel
theorem d_7_12 : decode (g_m 7).2.1 12 = .ok (.aload_n 0, 1) := by decide +kernel
theorem d_7_13 : decode (g_m 7).2.1 13 = .ok (.getfield 15, 3) := by decide +kernel
theorem d_7_16 : decode (g_m 7).2.1 16 = .ok (.iload_n 1, 1) := by decide +kernel
theorem d_7_17 : decode (g_m 7).2.1 17 = .ok (.iconst 0, 1) := by decide +kernel
theorem d_7_18 : decode (g_m 7).2.1 18 = .ok (.bastore, 1) := by decide +kernel
theorem d_7_19 : decode (g_m 7).2.1 19 = .ok (.aload_n 0, 1) := by decide +kernel
theorem d_7_20 : decode (g_m 7).2.1 20 = .ok (.getfield 19, 3) := by decide +kernel
theorem d_7_23 : decode (g_m 7).2.1 23 = .ok (.iload_n 1, 1) := by decide +kernel
theorem d_7_24 : decode (g_m 7).2.1 24 = .ok (.iconst 0, 1) := by decide +kernel
theorem d_7_25 : decode (g_m 7).2.1 25 = .ok (.bastore, 1) := by decide +kernel
theorem d_7_26 : decode (g_m 7).2.1 26 = .ok (.aload_n 0, 1) := by decide +kernel
theorem d_7_27 : decode (g_m 7).2.1 27 = .ok (.dup, 1) := by decide +kernel
theorem d_7_28 : decode (g_m 7).2.1 28 = .ok (.getfield 26, 3) := by decide +kernel
theorem d_7_31 : decode (g_m 7).2.1 31 = .ok (.iconst 1, 1) := by decide +kernel
theorem d_7_32 : decode (g_m 7).2.1 32 = .ok (.iadd, 1) := by decide +kernel
theorem d_7_33 : decode (g_m 7).2.1 33 = .ok (.putfield 26, 3) := by decide +kernel
theorem d_7_36 : decode (g_m 7).2.1 36 = .ok (.iload_n 1, 1) := by decide +kernel
theorem d_7_37 : decode (g_m 7).2.1 37 = .ok (.ireturn, 1) := by decide +kernel
theorem d_8_0 : decode (g_m 8).2.1 0 = .ok (.aload_n 0, 1) := by decide +kernel
theorem d_8_1 : decode (g_m 8).2.1 1 = .ok (.getfield 22, 3) := by decide +kernel
theorem d_8_4 : decode (g_m 8).2.1 4 = .ok (.iload_n 1, 1) := by decide +kernel
theorem d_8_5 : decode (g_m 8).2.1 5 = .ok (.aload_n 0, 1) := by decide +kernel
theorem d_8_6 : decode (g_m 8).2.1 6 = .ok (.getfield 9, 3) := by decide +kernel
theorem d_8_9 : decode (g_m 8).2.1 9 = .ok (.imul, 1) := by decide +kernel
theorem d_8_10 : decode (g_m 8).2.1 10 = .ok (.aload_n 0, 1) := by decide +kernel
theorem d_8_11 : decode (g_m 8).2.1 11 = .ok (.getfield 22, 3) := by decide +kernel
theorem d_8_14 : decode (g_m 8).2.1 14 = .ok (.iload_n 2, 1) := by decide +kernel
theorem d_8_15 : decode (g_m 8).2.1 15 = .ok (.aload_n 0, 1) := by decide +kernel
theorem d_8_16 : decode (g_m 8).2.1 16 = .ok (.getfield 9, 3) := by decide +kernel
theorem d_8_19 : decode (g_m 8).2.1 19 = .ok (.imul, 1) := by decide +kernel
theorem d_8_20 : decode (g_m 8).2.1 20 = .ok (.aload_n 0, 1) := by decide +kernel
theorem d_8_21 : decode (g_m 8).2.1 21 = .ok (.getfield 9, 3) := by decide +kernel
theorem d_8_24 : decode (g_m 8).2.1 24 = .ok (.invokestatic 40, 3) := by decide +kernel
theorem d_8_27 : decode (g_m 8).2.1 27 = .ok (.return_, 1) := by decide +kernel
theorem d_16_0 : decode (g_m 16).2.1 0 = .ok (.iload_n 1, 1) := by decide +kernel
theorem d_16_1 : decode (g_m 16).2.1 1 = .ok (.ifCond .lt (15), 3) := by decide +kernel
theorem d_16_4 : decode (g_m 16).2.1 4 = .ok (.iload_n 1, 1) := by decide +kernel
theorem d_16_5 : decode (g_m 16).2.1 5 = .ok (.aload_n 0, 1) := by decide +kernel
theorem d_16_6 : decode (g_m 16).2.1 6 = .ok (.getfield 26, 3) := by decide +kernel
theorem d_16_9 : decode (g_m 16).2.1 9 = .ok (.if_icmp .ge (7), 3) := by decide +kernel
theorem d_16_12 : decode (g_m 16).2.1 12 = .ok (.iconst 1, 1) := by decide +kernel
theorem d_16_13 : decode (g_m 16).2.1 13 = .ok (.goto (4), 3) := by decide +kernel
theorem d_16_16 : decode (g_m 16).2.1 16 = .ok (.iconst 0, 1) := by decide +kernel
theorem d_16_17 : decode (g_m 16).2.1 17 = .ok (.ireturn, 1) := by decide +kernel
theorem d_17_0 : decode (g_m 17).2.1 0 = .ok (.iconst 0, 1) := by decide +kernel
theorem d_17_1 : decode (g_m 17).2.1 1 = .ok (.istore 4, 2) := by decide +kernel
theorem d_17_3 : decode (g_m 17).2.1 3 = .ok (.iconst 0, 1) := by decide +kernel
theorem d_17_4 : decode (g_m 17).2.1 4 = .ok (.istore 5, 2) := by decide +kernel
theorem d_17_6 : decode (g_m 17).2.1 6 = .ok (.iload 5, 2) := by decide +kernel
theorem d_17_8 : decode (g_m 17).2.1 8 = .ok (.aload_n 0, 1) := by decide +kernel
theorem d_17_9 : decode (g_m 17).2.1 9 = .ok (.getfield 9, 3) := by decide +kernel
theorem d_17_12 : decode (g_m 17).2.1 12 = .ok (.if_icmp .ge (117), 3) := by decide +kernel
theorem d_17_15 : decode (g_m 17).2.1 15 = .ok (.aload_n 0, 1) := by decide +kernel
theorem d_17_16 : decode (g_m 17).2.1 16 = .ok (.getfield 22, 3) := by decide +kernel
theorem d_17_19 : decode (g_m 17).2.1 19 = .ok (.iload_n 1, 1) := by decide +kernel
theorem d_17_20 : decode (g_m 17).2.1 20 = .ok (.aload_n 0, 1) := by decide +kernel
theorem d_17_21 : decode (g_m 17).2.1 21 = .ok (.getfield 9, 3) := by decide +kernel
theorem d_17_24 : decode (g_m 17).2.1 24 = .ok (.imul, 1) := by decide +kernel
theorem d_17_25 : decode (g_m 17).2.1 25 = .ok (.iload 5, 2) := by decide +kernel
theorem d_17_27 : decode (g_m 17).2.1 27 = .ok (.iadd, 1) := by decide +kernel
theorem d_17_28 : decode (g_m 17).2.1 28 = .ok (.iaload, 1) := by decide +kernel
theorem d_17_29 : decode (g_m 17).2.1 29 = .ok (.iload_n 3, 1) := by decide +kernel
theorem d_17_30 : decode (g_m 17).2.1 30 = .ok (.imul, 1) := by decide +kernel
theorem d_17_31 : decode (g_m 17).2.1 31 = .ok (.bipush 100, 2) := by decide +kernel
theorem d_17_33 : decode (g_m 17).2.1 33 = .ok (.idiv, 1) := by decide +kernel
theorem d_17_34 : decode (g_m 17).2.1 34 = .ok (.istore 6, 2) := by decide +kernel
theorem d_17_36 : decode (g_m 17).2.1 36 = .ok (.aload_n 0, 1) := by decide +kernel
theorem d_17_37 : decode (g_m 17).2.1 37 = .ok (.getfield 22, 3) := by decide +kernel
theorem d_17_40 : decode (g_m 17).2.1 40 = .ok (.iload_n 2, 1) := by decide +kernel
theorem d_17_41 : decode (g_m 17).2.1 41 = .ok (.aload_n 0, 1) := by decide +kernel
theorem d_17_42 : decode (g_m 17).2.1 42 = .ok (.getfield 9, 3) := by decide +kernel
theorem d_17_45 : decode (g_m 17).2.1 45 = .ok (.imul, 1) := by decide +kernel
theorem d_17_46 : decode (g_m 17).2.1 46 = .ok (.iload 5, 2) := by decide +kernel
theorem d_17_48 : decode (g_m 17).2.1 48 = .ok (.iadd, 1) := by decide +kernel
theorem d_17_49 : decode (g_m 17).2.1 49 = .ok (.iaload, 1) := by decide +kernel
theorem d_17_50 : decode (g_m 17).2.1 50 = .ok (.iload_n 3, 1) := by decide +kernel
theorem d_17_51 : decode (g_m 17).2.1 51 = .ok (.imul, 1) := by decide +kernel
theorem d_17_52 : decode (g_m 17).2.1 52 = .ok (.bipush 100, 2) := by decide +kernel
theorem d_17_54 : decode (g_m 17).2.1 54 = .ok (.idiv, 1) := by decide +kernel
theorem d_17_55 : decode (g_m 17).2.1 55 = .ok (.istore 7, 2) := by decide +kernel
theorem d_17_57 : decode (g_m 17).2.1 57 = .ok (.iload 6, 2) := by decide +kernel
theorem d_17_59 : decode (g_m 17).2.1 59 = .ok (.iload 7, 2) := by decide +kernel
theorem d_17_61 : decode (g_m 17).2.1 61 = .ok (.isub, 1) := by decide +kernel
theorem d_17_62 : decode (g_m 17).2.1 62 = .ok (.istore 8, 2) := by decide +kernel
theorem d_17_64 : decode (g_m 17).2.1 64 = .ok (.aload_n 0, 1) := by decide +kernel
theorem d_17_65 : decode (g_m 17).2.1 65 = .ok (.getfield 29, 3) := by decide +kernel
theorem d_17_68 : decode (g_m 17).2.1 68 = .ok (.ifCond .ne (16), 3) := by decide +kernel
theorem d_17_71 : decode (g_m 17).2.1 71 = .ok (.iload 4, 2) := by decide +kernel
theorem d_17_73 : decode (g_m 17).2.1 73 = .ok (.iload 8, 2) := by decide +kernel
theorem d_17_75 : decode (g_m 17).2.1 75 = .ok (.iload 8, 2) := by decide +kernel
theorem d_17_77 : decode (g_m 17).2.1 77 = .ok (.imul, 1) := by decide +kernel
theorem d_17_78 : decode (g_m 17).2.1 78 = .ok (.iadd, 1) := by decide +kernel
theorem d_17_79 : decode (g_m 17).2.1 79 = .ok (.istore 4, 2) := by decide +kernel
theorem d_17_81 : decode (g_m 17).2.1 81 = .ok (.goto (42), 3) := by decide +kernel
theorem d_17_84 : decode (g_m 17).2.1 84 = .ok (.aload_n 0, 1) := by decide +kernel
theorem d_17_85 : decode (g_m 17).2.1 85 = .ok (.getfield 29, 3) := by decide +kernel
theorem d_17_88 : decode (g_m 17).2.1 88 = .ok (.iconst 1, 1) := by decide +kernel
theorem d_17_89 : decode (g_m 17).2.1 89 = .ok (.if_icmp .ne (16), 3) := by decide +kernel
theorem d_17_92 : decode (g_m 17).2.1 92 = .ok (.iload 4, 2) := by decide +kernel
theorem d_17_94 : decode (g_m 17).2.1 94 = .ok (.iload 6, 2) := by decide +kernel
theorem d_17_96 : decode (g_m 17).2.1 96 = .ok (.iload 7, 2) := by decide +kernel
theorem d_17_98 : decode (g_m 17).2.1 98 = .ok (.imul, 1) := by decide +kernel
theorem d_17_99 : decode (g_m 17).2.1 99 = .ok (.iadd, 1) := by decide +kernel
theorem d_17_100 : decode (g_m 17).2.1 100 = .ok (.istore 4, 2) := by decide +kernel
theorem d_17_102 : decode (g_m 17).2.1 102 = .ok (.goto (21), 3) := by decide +kernel
theorem d_17_105 : decode (g_m 17).2.1 105 = .ok (.iload 4, 2) := by decide +kernel
theorem d_17_107 : decode (g_m 17).2.1 107 = .ok (.iload 8, 2) := by decide +kernel
theorem d_17_109 : decode (g_m 17).2.1 109 = .ok (.ifCond .ge (9), 3) := by decide +kernel
theorem d_17_112 : decode (g_m 17).2.1 112 = .ok (.iload 8, 2) := by decide +kernel
theorem d_17_114 : decode (g_m 17).2.1 114 = .ok (.ineg, 1) := by decide +kernel
theorem d_17_115 : decode (g_m 17).2.1 115 = .ok (.goto (5), 3) := by decide +kernel
theorem d_17_118 : decode (g_m 17).2.1 118 = .ok (.iload 8, 2) := by decide +kernel
theorem d_17_120 : decode (g_m 17).2.1 120 = .ok (.iadd, 1) := by decide +kernel
theorem d_17_121 : decode (g_m 17).2.1 121 = .ok (.istore 4, 2) := by decide +kernel
theorem d_17_123 : decode (g_m 17).2.1 123 = .ok (.iinc 5 1, 3) := by decide +kernel
theorem d_17_126 : decode (g_m 17).2.1 126 = .ok (.goto (-120), 3) := by decide +kernel
theorem d_17_129 : decode (g_m 17).2.1 129 = .ok (.aload_n 0, 1) := by decide +kernel
theorem d_17_130 : decode (g_m 17).2.1 130 = .ok (.getfield 29, 3) := by decide +kernel
theorem d_17_133 : decode (g_m 17).2.1 133 = .ok (.iconst 1, 1) := by decide +kernel
theorem d_17_134 : decode (g_m 17).2.1 134 = .ok (.if_icmp .ne (18), 3) := by decide +kernel
theorem d_17_137 : decode (g_m 17).2.1 137 = .ok (.bipush 100, 2) := by decide +kernel
theorem d_17_139 : decode (g_m 17).2.1 139 = .ok (.iload_n 3, 1) := by decide +kernel
theorem d_17_140 : decode (g_m 17).2.1 140 = .ok (.imul, 1) := by decide +kernel
theorem d_17_141 : decode (g_m 17).2.1 141 = .ok (.aload_n 0, 1) := by decide +kernel
theorem d_17_142 : decode (g_m 17).2.1 142 = .ok (.getfield 9, 3) := by decide +kernel
theorem d_17_145 : decode (g_m 17).2.1 145 = .ok (.imul, 1) := by decide +kernel
theorem d_17_146 : decode (g_m 17).2.1 146 = .ok (.iload 4, 2) := by decide +kernel
theorem d_17_148 : decode (g_m 17).2.1 148 = .ok (.isub, 1) := by decide +kernel
theorem d_17_149 : decode (g_m 17).2.1 149 = .ok (.goto (5), 3) := by decide +kernel
theorem d_17_152 : decode (g_m 17).2.1 152 = .ok (.iload 4, 2) := by decide +kernel
theorem d_17_154 : decode (g_m 17).2.1 154 = .ok (.ireturn, 1) := by decide +kernel
theorem d_37_0 : decode (g_m 37).2.1 0 = .ok (.iconst 0, 1) := by decide +kernel
theorem d_37_1 : decode (g_m 37).2.1 1 = .ok (.istore_n 1, 1) := by decide +kernel
theorem d_37_2 : decode (g_m 37).2.1 2 = .ok (.iconst 0, 1) := by decide +kernel
theorem d_37_3 : decode (g_m 37).2.1 3 = .ok (.istore_n 2, 1) := by decide +kernel
theorem d_37_4 : decode (g_m 37).2.1 4 = .ok (.iload_n 2, 1) := by decide +kernel
theorem d_37_5 : decode (g_m 37).2.1 5 = .ok (.aload_n 0, 1) := by decide +kernel
theorem d_37_6 : decode (g_m 37).2.1 6 = .ok (.getfield 26, 3) := by decide +kernel
theorem d_37_9 : decode (g_m 37).2.1 9 = .ok (.if_icmp .ge (46), 3) := by decide +kernel
theorem d_37_12 : decode (g_m 37).2.1 12 = .ok (.aload_n 0, 1) := by decide +kernel
theorem d_37_13 : decode (g_m 37).2.1 13 = .ok (.getfield 15, 3) := by decide +kernel
theorem d_37_16 : decode (g_m 37).2.1 16 = .ok (.iload_n 2, 1) := by decide +kernel
theorem d_37_17 : decode (g_m 37).2.1 17 = .ok (.baload, 1) := by decide +kernel
theorem d_37_18 : decode (g_m 37).2.1 18 = .ok (.ifCond .ne (31), 3) := by decide +kernel
theorem d_37_21 : decode (g_m 37).2.1 21 = .ok (.aload_n 0, 1) := by decide +kernel
theorem d_37_22 : decode (g_m 37).2.1 22 = .ok (.iload_n 2, 1) := by decide +kernel
theorem d_37_23 : decode (g_m 37).2.1 23 = .ok (.iload_n 1, 1) := by decide +kernel
theorem d_37_24 : decode (g_m 37).2.1 24 = .ok (.invokevirtual 36, 3) := by decide +kernel
theorem d_37_27 : decode (g_m 37).2.1 27 = .ok (.aload_n 0, 1) := by decide +kernel
theorem d_37_28 : decode (g_m 37).2.1 28 = .ok (.getfield 19, 3) := by decide +kernel
theorem d_37_31 : decode (g_m 37).2.1 31 = .ok (.iload_n 1, 1) := by decide +kernel
theorem d_37_32 : decode (g_m 37).2.1 32 = .ok (.aload_n 0, 1) := by decide +kernel
theorem d_37_33 : decode (g_m 37).2.1 33 = .ok (.getfield 19, 3) := by decide +kernel
theorem d_37_36 : decode (g_m 37).2.1 36 = .ok (.iload_n 2, 1) := by decide +kernel
theorem d_37_37 : decode (g_m 37).2.1 37 = .ok (.baload, 1) := by decide +kernel
theorem d_37_38 : decode (g_m 37).2.1 38 = .ok (.bastore, 1) := by decide +kernel
theorem d_37_39 : decode (g_m 37).2.1 39 = .ok (.aload_n 0, 1) := by decide +kernel
theorem d_37_40 : decode (g_m 37).2.1 40 = .ok (.getfield 15, 3) := by decide +kernel
theorem d_37_43 : decode (g_m 37).2.1 43 = .ok (.iload_n 1, 1) := by decide +kernel
theorem d_37_44 : decode (g_m 37).2.1 44 = .ok (.iconst 0, 1) := by decide +kernel
theorem d_37_45 : decode (g_m 37).2.1 45 = .ok (.bastore, 1) := by decide +kernel
theorem d_37_46 : decode (g_m 37).2.1 46 = .ok (.iinc 1 1, 3) := by decide +kernel
theorem d_37_49 : decode (g_m 37).2.1 49 = .ok (.iinc 2 1, 3) := by decide +kernel
theorem d_37_52 : decode (g_m 37).2.1 52 = .ok (.goto (-48), 3) := by decide +kernel
theorem d_37_55 : decode (g_m 37).2.1 55 = .ok (.aload_n 0, 1) := by decide +kernel
theorem d_37_56 : decode (g_m 37).2.1 56 = .ok (.getfield 26, 3) := by decide +kernel
theorem d_37_59 : decode (g_m 37).2.1 59 = .ok (.iload_n 1, 1) := by decide +kernel
theorem d_37_60 : decode (g_m 37).2.1 60 = .ok (.isub, 1) := by decide +kernel
theorem d_37_61 : decode (g_m 37).2.1 61 = .ok (.istore_n 2, 1) := by decide +kernel
theorem d_37_62 : decode (g_m 37).2.1 62 = .ok (.aload_n 0, 1) := by decide +kernel
theorem d_37_63 : decode (g_m 37).2.1 63 = .ok (.iload_n 1, 1) := by decide +kernel
theorem d_37_64 : decode (g_m 37).2.1 64 = .ok (.putfield 26, 3) := by decide +kernel
theorem d_37_67 : decode (g_m 37).2.1 67 = .ok (.iload_n 2, 1) := by decide +kernel
theorem d_37_68 : decode (g_m 37).2.1 68 = .ok (.ireturn, 1) := by decide +kernel
theorem d_42_0 : decode (g_m 42).2.1 0 = .ok (.aload_n 0, 1) := by decide +kernel
theorem d_42_1 : decode (g_m 42).2.1 1 = .ok (.iload_n 1, 1) := by decide +kernel
theorem d_42_2 : decode (g_m 42).2.1 2 = .ok (.invokevirtual 32, 3) := by decide +kernel
theorem d_42_5 : decode (g_m 42).2.1 5 = .ok (.ifCond .eq (25), 3) := by decide +kernel
theorem d_42_8 : decode (g_m 42).2.1 8 = .ok (.aload_n 0, 1) := by decide +kernel
theorem d_42_9 : decode (g_m 42).2.1 9 = .ok (.getfield 15, 3) := by decide +kernel
theorem d_42_12 : decode (g_m 42).2.1 12 = .ok (.iload_n 1, 1) := by decide +kernel
theorem d_42_13 : decode (g_m 42).2.1 13 = .ok (.baload, 1) := by decide +kernel
theorem d_42_14 : decode (g_m 42).2.1 14 = .ok (.ifCond .ne (16), 3) := by decide +kernel
theorem d_42_17 : decode (g_m 42).2.1 17 = .ok (.aload_n 0, 1) := by decide +kernel
theorem d_42_18 : decode (g_m 42).2.1 18 = .ok (.getfield 19, 3) := by decide +kernel
theorem d_42_21 : decode (g_m 42).2.1 21 = .ok (.iload_n 1, 1) := by decide +kernel
theorem d_42_22 : decode (g_m 42).2.1 22 = .ok (.baload, 1) := by decide +kernel
theorem d_42_23 : decode (g_m 42).2.1 23 = .ok (.ifCond .ne (7), 3) := by decide +kernel
theorem d_42_26 : decode (g_m 42).2.1 26 = .ok (.iconst 1, 1) := by decide +kernel
theorem d_42_27 : decode (g_m 42).2.1 27 = .ok (.goto (4), 3) := by decide +kernel
theorem d_42_30 : decode (g_m 42).2.1 30 = .ok (.iconst 0, 1) := by decide +kernel
theorem d_42_31 : decode (g_m 42).2.1 31 = .ok (.ireturn, 1) := by decide +kernel
theorem d_61_0 : decode (g_m 61).2.1 0 = .ok (.iconst 0, 1) := by decide +kernel
theorem d_61_1 : decode (g_m 61).2.1 1 = .ok (.istore_n 2, 1) := by decide +kernel
theorem d_61_2 : decode (g_m 61).2.1 2 = .ok (.iconst 0, 1) := by decide +kernel
theorem d_61_3 : decode (g_m 61).2.1 3 = .ok (.istore_n 3, 1) := by decide +kernel
theorem d_61_4 : decode (g_m 61).2.1 4 = .ok (.iload_n 3, 1) := by decide +kernel
theorem d_61_5 : decode (g_m 61).2.1 5 = .ok (.aload_n 0, 1) := by decide +kernel
theorem d_61_6 : decode (g_m 61).2.1 6 = .ok (.getfield 26, 3) := by decide +kernel
theorem d_61_9 : decode (g_m 61).2.1 9 = .ok (.if_icmp .ge (29), 3) := by decide +kernel
theorem d_61_12 : decode (g_m 61).2.1 12 = .ok (.iload_n 3, 1) := by decide +kernel
theorem d_61_13 : decode (g_m 61).2.1 13 = .ok (.aload_n 1, 1) := by decide +kernel
theorem d_61_14 : decode (g_m 61).2.1 14 = .ok (.arraylength, 1) := by decide +kernel
theorem d_61_15 : decode (g_m 61).2.1 15 = .ok (.if_icmp .ge (23), 3) := by decide +kernel
theorem d_61_18 : decode (g_m 61).2.1 18 = .ok (.iload_n 2, 1) := by decide +kernel
theorem d_61_19 : decode (g_m 61).2.1 19 = .ok (.aload_n 1, 1) := by decide +kernel
theorem d_61_20 : decode (g_m 61).2.1 20 = .ok (.iload_n 3, 1) := by decide +kernel
theorem d_61_21 : decode (g_m 61).2.1 21 = .ok (.baload, 1) := by decide +kernel
theorem d_61_22 : decode (g_m 61).2.1 22 = .ok (.ifCond .eq (7), 3) := by decide +kernel
theorem d_61_25 : decode (g_m 61).2.1 25 = .ok (.iconst 1, 1) := by decide +kernel
theorem d_61_26 : decode (g_m 61).2.1 26 = .ok (.goto (4), 3) := by decide +kernel
theorem d_61_29 : decode (g_m 61).2.1 29 = .ok (.iconst 0, 1) := by decide +kernel
theorem d_61_30 : decode (g_m 61).2.1 30 = .ok (.iadd, 1) := by decide +kernel
theorem d_61_31 : decode (g_m 61).2.1 31 = .ok (.istore_n 2, 1) := by decide +kernel
theorem d_61_32 : decode (g_m 61).2.1 32 = .ok (.iinc 3 1, 3) := by decide +kernel
theorem d_61_35 : decode (g_m 61).2.1 35 = .ok (.goto (-31), 3) := by decide +kernel
theorem d_61_38 : decode (g_m 61).2.1 38 = .ok (.iload_n 2, 1) := by decide +kernel
theorem d_61_39 : decode (g_m 61).2.1 39 = .ok (.ireturn, 1) := by decide +kernel
theorem d_62_0 : decode (g_m 62).2.1 0 = .ok (.iconst 0, 1) := by decide +kernel
theorem d_62_1 : decode (g_m 62).2.1 1 = .ok (.istore_n 1, 1) := by decide +kernel
theorem d_62_2 : decode (g_m 62).2.1 2 = .ok (.iconst 0, 1) := by decide +kernel
theorem d_62_3 : decode (g_m 62).2.1 3 = .ok (.istore_n 2, 1) := by decide +kernel
theorem d_62_4 : decode (g_m 62).2.1 4 = .ok (.iload_n 2, 1) := by decide +kernel
theorem d_62_5 : decode (g_m 62).2.1 5 = .ok (.aload_n 0, 1) := by decide +kernel
theorem d_62_6 : decode (g_m 62).2.1 6 = .ok (.getfield 26, 3) := by decide +kernel
theorem d_62_9 : decode (g_m 62).2.1 9 = .ok (.if_icmp .ge (25), 3) := by decide +kernel
theorem d_62_12 : decode (g_m 62).2.1 12 = .ok (.iload_n 1, 1) := by decide +kernel
theorem d_62_13 : decode (g_m 62).2.1 13 = .ok (.aload_n 0, 1) := by decide +kernel
theorem d_62_14 : decode (g_m 62).2.1 14 = .ok (.iload_n 2, 1) := by decide +kernel
theorem d_62_15 : decode (g_m 62).2.1 15 = .ok (.invokevirtual 46, 3) := by decide +kernel
theorem d_62_18 : decode (g_m 62).2.1 18 = .ok (.ifCond .eq (7), 3) := by decide +kernel
theorem d_62_21 : decode (g_m 62).2.1 21 = .ok (.iconst 1, 1) := by decide +kernel
theorem d_62_22 : decode (g_m 62).2.1 22 = .ok (.goto (4), 3) := by decide +kernel
theorem d_62_25 : decode (g_m 62).2.1 25 = .ok (.iconst 0, 1) := by decide +kernel
theorem d_62_26 : decode (g_m 62).2.1 26 = .ok (.iadd, 1) := by decide +kernel
theorem d_62_27 : decode (g_m 62).2.1 27 = .ok (.istore_n 1, 1) := by decide +kernel
theorem d_62_28 : decode (g_m 62).2.1 28 = .ok (.iinc 2 1, 3) := by decide +kernel
theorem d_62_31 : decode (g_m 62).2.1 31 = .ok (.goto (-27), 3) := by decide +kernel
theorem d_62_34 : decode (g_m 62).2.1 34 = .ok (.iload_n 1, 1) := by decide +kernel
theorem d_62_35 : decode (g_m 62).2.1 35 = .ok (.ireturn, 1) := by decide +kernel
