theorem d_64_0 : decode (g_m 64).2.1 0 = .ok (.aload_n 0, 1) := by decide +kernel
theorem d_64_1 : decode (g_m 64).2.1 1 = .ok (.invokespecial 7, 3) := by decide +kernel
theorem d_64_4 : decode (g_m 64).2.1 4 = .ok (.aload_n 0, 1) := by decide +kernel
theorem d_64_5 : decode (g_m 64).2.1 5 = .ok (.iconst 4, 1) := by decide +kernel
theorem d_64_6 : decode (g_m 64).2.1 6 = .ok (.putfield 13, 3) := by decide +kernel
theorem d_64_9 : decode (g_m 64).2.1 9 = .ok (.aload_n 0, 1) := by decide +kernel
theorem d_64_10 : decode (g_m 64).2.1 10 = .ok (.iconst 1, 1) := by decide +kernel
theorem d_64_11 : decode (g_m 64).2.1 11 = .ok (.putfield 16, 3) := by decide +kernel
theorem d_64_14 : decode (g_m 64).2.1 14 = .ok (.aload_n 0, 1) := by decide +kernel
theorem d_64_15 : decode (g_m 64).2.1 15 = .ok (.sipush 808, 3) := by decide +kernel
theorem d_64_18 : decode (g_m 64).2.1 18 = .ok (.newarray .int, 2) := by decide +kernel
theorem d_64_20 : decode (g_m 64).2.1 20 = .ok (.putfield 19, 3) := by decide +kernel
theorem d_64_23 : decode (g_m 64).2.1 23 = .ok (.aload_n 0, 1) := by decide +kernel
theorem d_64_24 : decode (g_m 64).2.1 24 = .ok (.bipush 100, 2) := by decide +kernel
theorem d_64_26 : decode (g_m 64).2.1 26 = .ok (.newarray .boolean, 2) := by decide +kernel
theorem d_64_28 : decode (g_m 64).2.1 28 = .ok (.putfield 23, 3) := by decide +kernel
theorem d_64_31 : decode (g_m 64).2.1 31 = .ok (.aload_n 0, 1) := by decide +kernel
theorem d_64_32 : decode (g_m 64).2.1 32 = .ok (.bipush 100, 2) := by decide +kernel
theorem d_64_34 : decode (g_m 64).2.1 34 = .ok (.newarray .boolean, 2) := by decide +kernel
theorem d_64_36 : decode (g_m 64).2.1 36 = .ok (.putfield 27, 3) := by decide +kernel
theorem d_64_39 : decode (g_m 64).2.1 39 = .ok (.aload_n 0, 1) := by decide +kernel
theorem d_64_40 : decode (g_m 64).2.1 40 = .ok (.bipush 100, 2) := by decide +kernel
theorem d_64_42 : decode (g_m 64).2.1 42 = .ok (.newarray .int, 2) := by decide +kernel
theorem d_64_44 : decode (g_m 64).2.1 44 = .ok (.putfield 30, 3) := by decide +kernel
theorem d_64_47 : decode (g_m 64).2.1 47 = .ok (.aload_n 0, 1) := by decide +kernel
theorem d_64_48 : decode (g_m 64).2.1 48 = .ok (.bipush 100, 2) := by decide +kernel
theorem d_64_50 : decode (g_m 64).2.1 50 = .ok (.newarray .int, 2) := by decide +kernel
theorem d_64_52 : decode (g_m 64).2.1 52 = .ok (.putfield 33, 3) := by decide +kernel
theorem d_64_55 : decode (g_m 64).2.1 55 = .ok (.aload_n 0, 1) := by decide +kernel
theorem d_64_56 : decode (g_m 64).2.1 56 = .ok (.ldc 36, 2) := by decide +kernel
theorem d_64_58 : decode (g_m 64).2.1 58 = .ok (.newarray .boolean, 2) := by decide +kernel
theorem d_64_60 : decode (g_m 64).2.1 60 = .ok (.putfield 37, 3) := by decide +kernel
theorem d_64_63 : decode (g_m 64).2.1 63 = .ok (.aload_n 0, 1) := by decide +kernel
theorem d_64_64 : decode (g_m 64).2.1 64 = .ok (.iconst (-1), 1) := by decide +kernel
theorem d_64_65 : decode (g_m 64).2.1 65 = .ok (.putfield 40, 3) := by decide +kernel
theorem d_64_68 : decode (g_m 64).2.1 68 = .ok (.aload_n 0, 1) := by decide +kernel
theorem d_64_69 : decode (g_m 64).2.1 69 = .ok (.sipush 10100, 3) := by decide +kernel
theorem d_64_72 : decode (g_m 64).2.1 72 = .ok (.newarray .int, 2) := by decide +kernel
theorem d_64_74 : decode (g_m 64).2.1 74 = .ok (.putfield 43, 3) := by decide +kernel
theorem d_64_77 : decode (g_m 64).2.1 77 = .ok (.aload_n 0, 1) := by decide +kernel
theorem d_64_78 : decode (g_m 64).2.1 78 = .ok (.bipush 100, 2) := by decide +kernel
theorem d_64_80 : decode (g_m 64).2.1 80 = .ok (.newarray .boolean, 2) := by decide +kernel
theorem d_64_82 : decode (g_m 64).2.1 82 = .ok (.putfield 46, 3) := by decide +kernel
theorem d_64_85 : decode (g_m 64).2.1 85 = .ok (.aload_n 0, 1) := by decide +kernel
theorem d_64_86 : decode (g_m 64).2.1 86 = .ok (.bipush 100, 2) := by decide +kernel
theorem d_64_88 : decode (g_m 64).2.1 88 = .ok (.newarray .boolean, 2) := by decide +kernel
theorem d_64_90 : decode (g_m 64).2.1 90 = .ok (.putfield 49, 3) := by decide +kernel
theorem d_64_93 : decode (g_m 64).2.1 93 = .ok (.aload_n 0, 1) := by decide +kernel
theorem d_64_94 : decode (g_m 64).2.1 94 = .ok (.bipush 100, 2) := by decide +kernel
theorem d_64_96 : decode (g_m 64).2.1 96 = .ok (.newarray .boolean, 2) := by decide +kernel
theorem d_64_98 : decode (g_m 64).2.1 98 = .ok (.putfield 52, 3) := by decide +kernel
theorem d_64_101 : decode (g_m 64).2.1 101 = .ok (.aload_n 0, 1) := by decide +kernel
theorem d_64_102 : decode (g_m 64).2.1 102 = .ok (.bipush 100, 2) := by decide +kernel
theorem d_64_104 : decode (g_m 64).2.1 104 = .ok (.newarray .boolean, 2) := by decide +kernel
theorem d_64_106 : decode (g_m 64).2.1 106 = .ok (.putfield 55, 3) := by decide +kernel
theorem d_64_109 : decode (g_m 64).2.1 109 = .ok (.aload_n 0, 1) := by decide +kernel
theorem d_64_110 : decode (g_m 64).2.1 110 = .ok (.bipush 100, 2) := by decide +kernel
theorem d_64_112 : decode (g_m 64).2.1 112 = .ok (.newarray .boolean, 2) := by decide +kernel
theorem d_64_114 : decode (g_m 64).2.1 114 = .ok (.putfield 58, 3) := by decide +kernel
theorem d_64_117 : decode (g_m 64).2.1 117 = .ok (.aload_n 0, 1) := by decide +kernel
theorem d_64_118 : decode (g_m 64).2.1 118 = .ok (.bipush 100, 2) := by decide +kernel
theorem d_64_120 : decode (g_m 64).2.1 120 = .ok (.newarray .boolean, 2) := by decide +kernel
theorem d_64_122 : decode (g_m 64).2.1 122 = .ok (.putfield 61, 3) := by decide +kernel
theorem d_64_125 : decode (g_m 64).2.1 125 = .ok (.aload_n 0, 1) := by decide +kernel
theorem d_64_126 : decode (g_m 64).2.1 126 = .ok (.bipush 100, 2) := by decide +kernel
theorem d_64_128 : decode (g_m 64).2.1 128 = .ok (.newarray .int, 2) := by decide +kernel
theorem d_64_130 : decode (g_m 64).2.1 130 = .ok (.putfield 64, 3) := by decide +kernel
theorem d_64_133 : decode (g_m 64).2.1 133 = .ok (.aload_n 0, 1) := by decide +kernel
theorem d_64_134 : decode (g_m 64).2.1 134 = .ok (.bipush 100, 2) := by decide +kernel
theorem d_64_136 : decode (g_m 64).2.1 136 = .ok (.newarray .boolean, 2) := by decide +kernel
theorem d_64_138 : decode (g_m 64).2.1 138 = .ok (.putfield 67, 3) := by decide +kernel
theorem d_64_141 : decode (g_m 64).2.1 141 = .ok (.aload_n 0, 1) := by decide +kernel
theorem d_64_142 : decode (g_m 64).2.1 142 = .ok (.iconst 0, 1) := by decide +kernel
theorem d_64_143 : decode (g_m 64).2.1 143 = .ok (.putfield 1, 3) := by decide +kernel
theorem d_64_146 : decode (g_m 64).2.1 146 = .ok (.aload_n 0, 1) := by decide +kernel
theorem d_64_147 : decode (g_m 64).2.1 147 = .ok (.iload_n 1, 1) := by decide +kernel
theorem d_64_148 : decode (g_m 64).2.1 148 = .ok (.iconst 1, 1) := by decide +kernel
theorem d_64_149 : decode (g_m 64).2.1 149 = .ok (.if_icmp .ge (7), 3) := by decide +kernel
theorem d_64_152 : decode (g_m 64).2.1 152 = .ok (.iconst 1, 1) := by decide +kernel
theorem d_64_153 : decode (g_m 64).2.1 153 = .ok (.goto (15), 3) := by decide +kernel
theorem d_64_156 : decode (g_m 64).2.1 156 = .ok (.iload_n 1, 1) := by decide +kernel
theorem d_64_157 : decode (g_m 64).2.1 157 = .ok (.bipush 8, 2) := by decide +kernel
theorem d_64_159 : decode (g_m 64).2.1 159 = .ok (.if_icmp .le (8), 3) := by decide +kernel
theorem d_64_162 : decode (g_m 64).2.1 162 = .ok (.bipush 8, 2) := by decide +kernel
theorem d_64_164 : decode (g_m 64).2.1 164 = .ok (.goto (4), 3) := by decide +kernel
theorem d_64_167 : decode (g_m 64).2.1 167 = .ok (.iload_n 1, 1) := by decide +kernel
theorem d_64_168 : decode (g_m 64).2.1 168 = .ok (.putfield 70, 3) := by decide +kernel
theorem d_64_171 : decode (g_m 64).2.1 171 = .ok (.aload_n 0, 1) := by decide +kernel
theorem d_64_172 : decode (g_m 64).2.1 172 = .ok (.iload_n 2, 1) := by decide +kernel
theorem d_64_173 : decode (g_m 64).2.1 173 = .ok (.putfield 73, 3) := by decide +kernel
theorem d_64_176 : decode (g_m 64).2.1 176 = .ok (.return_, 1) := by decide +kernel
theorem d_65_0 : decode (g_m 65).2.1 0 = .ok (.aload_n 0, 1) := by decide +kernel
theorem d_65_1 : decode (g_m 65).2.1 1 = .ok (.iconst 0, 1) := by decide +kernel
theorem d_65_2 : decode (g_m 65).2.1 2 = .ok (.putfield 1, 3) := by decide +kernel
theorem d_65_5 : decode (g_m 65).2.1 5 = .ok (.iload_n 1, 1) := by decide +kernel
theorem d_65_6 : decode (g_m 65).2.1 6 = .ok (.i2l, 1) := by decide +kernel
theorem d_65_7 : decode (g_m 65).2.1 7 = .ok (.lconst 0, 1) := by decide +kernel
theorem d_65_8 : decode (g_m 65).2.1 8 = .ok (.aload_n 0, 1) := by decide +kernel
theorem d_65_9 : decode (g_m 65).2.1 9 = .ok (.getfield 70, 3) := by decide +kernel
theorem d_65_12 : decode (g_m 65).2.1 12 = .ok (.iconst 1, 1) := by decide +kernel
theorem d_65_13 : decode (g_m 65).2.1 13 = .ok (.isub, 1) := by decide +kernel
theorem d_65_14 : decode (g_m 65).2.1 14 = .ok (.i2l, 1) := by decide +kernel
theorem d_65_15 : decode (g_m 65).2.1 15 = .ok (.invokestatic 79, 3) := by decide +kernel
theorem d_65_18 : decode (g_m 65).2.1 18 = .ok (.ifCond .eq (17), 3) := by decide +kernel
theorem d_65_21 : decode (g_m 65).2.1 21 = .ok (.iload_n 2, 1) := by decide +kernel
theorem d_65_22 : decode (g_m 65).2.1 22 = .ok (.i2l, 1) := by decide +kernel
theorem d_65_23 : decode (g_m 65).2.1 23 = .ok (.ldc2_w 153, 3) := by decide +kernel
theorem d_65_26 : decode (g_m 65).2.1 26 = .ok (.ldc2_w 155, 3) := by decide +kernel
theorem d_65_29 : decode (g_m 65).2.1 29 = .ok (.invokestatic 79, 3) := by decide +kernel
theorem d_65_32 : decode (g_m 65).2.1 32 = .ok (.ifCond .ne (7), 3) := by decide +kernel
theorem d_65_35 : decode (g_m 65).2.1 35 = .ok (.sipush (-1000), 3) := by decide +kernel
theorem d_65_38 : decode (g_m 65).2.1 38 = .ok (.ireturn, 1) := by decide +kernel
theorem d_65_39 : decode (g_m 65).2.1 39 = .ok (.aload_n 0, 1) := by decide +kernel
theorem d_65_40 : decode (g_m 65).2.1 40 = .ok (.getfield 19, 3) := by decide +kernel
theorem d_65_43 : decode (g_m 65).2.1 43 = .ok (.sipush 800, 3) := by decide +kernel
theorem d_65_46 : decode (g_m 65).2.1 46 = .ok (.iload_n 1, 1) := by decide +kernel
theorem d_65_47 : decode (g_m 65).2.1 47 = .ok (.iadd, 1) := by decide +kernel
theorem d_65_48 : decode (g_m 65).2.1 48 = .ok (.iaload, 1) := by decide +kernel
theorem d_65_49 : decode (g_m 65).2.1 49 = .ok (.istore_n 3, 1) := by decide +kernel
theorem d_65_50 : decode (g_m 65).2.1 50 = .ok (.aload_n 0, 1) := by decide +kernel
theorem d_65_51 : decode (g_m 65).2.1 51 = .ok (.getfield 19, 3) := by decide +kernel
theorem d_65_54 : decode (g_m 65).2.1 54 = .ok (.sipush 800, 3) := by decide +kernel
theorem d_65_57 : decode (g_m 65).2.1 57 = .ok (.iload_n 1, 1) := by decide +kernel
theorem d_65_58 : decode (g_m 65).2.1 58 = .ok (.iadd, 1) := by decide +kernel
theorem d_65_59 : decode (g_m 65).2.1 59 = .ok (.iload_n 2, 1) := by decide +kernel
theorem d_65_60 : decode (g_m 65).2.1 60 = .ok (.iastore, 1) := by decide +kernel
theorem d_65_61 : decode (g_m 65).2.1 61 = .ok (.iload_n 3, 1) := by decide +kernel
theorem d_65_62 : decode (g_m 65).2.1 62 = .ok (.ireturn, 1) := by decide +kernel
theorem d_66_0 : decode (g_m 66).2.1 0 = .ok (.lload_n 0, 1) := by decide +kernel
theorem d_66_1 : decode (g_m 66).2.1 1 = .ok (.lload_n 2, 1) := by decide +kernel
theorem d_66_2 : decode (g_m 66).2.1 2 = .ok (.lcmp, 1) := by decide +kernel
theorem d_66_3 : decode (g_m 66).2.1 3 = .ok (.ifCond .lt (14), 3) := by decide +kernel
theorem d_66_6 : decode (g_m 66).2.1 6 = .ok (.lload_n 0, 1) := by decide +kernel
theorem d_66_7 : decode (g_m 66).2.1 7 = .ok (.lload 4, 2) := by decide +kernel
theorem d_66_9 : decode (g_m 66).2.1 9 = .ok (.lcmp, 1) := by decide +kernel
theorem d_66_10 : decode (g_m 66).2.1 10 = .ok (.ifCond .gt (7), 3) := by decide +kernel
theorem d_66_13 : decode (g_m 66).2.1 13 = .ok (.iconst 1, 1) := by decide +kernel
theorem d_66_14 : decode (g_m 66).2.1 14 = .ok (.goto (4), 3) := by decide +kernel
theorem d_66_17 : decode (g_m 66).2.1 17 = .ok (.iconst 0, 1) := by decide +kernel
theorem d_66_18 : decode (g_m 66).2.1 18 = .ok (.ireturn, 1) := by decide +kernel
theorem d_67_0 : decode (g_m 67).2.1 0 = .ok (.aload_n 0, 1) := by decide +kernel
theorem d_67_1 : decode (g_m 67).2.1 1 = .ok (.iconst 0, 1) := by decide +kernel
theorem d_67_2 : decode (g_m 67).2.1 2 = .ok (.putfield 1, 3) := by decide +kernel
theorem d_67_5 : decode (g_m 67).2.1 5 = .ok (.aload_n 0, 1) := by decide +kernel
theorem d_67_6 : decode (g_m 67).2.1 6 = .ok (.getfield 76, 3) := by decide +kernel
theorem d_67_9 : decode (g_m 67).2.1 9 = .ok (.bipush 100, 2) := by decide +kernel
theorem d_67_11 : decode (g_m 67).2.1 11 = .ok (.if_icmp .ne (6), 3) := by decide +kernel
theorem d_67_14 : decode (g_m 67).2.1 14 = .ok (.bipush (-3), 2) := by decide +kernel
theorem d_67_16 : decode (g_m 67).2.1 16 = .ok (.ireturn, 1) := by decide +kernel
theorem d_67_17 : decode (g_m 67).2.1 17 = .ok (.aload_n 0, 1) := by decide +kernel
theorem d_67_18 : decode (g_m 67).2.1 18 = .ok (.bipush 100, 2) := by decide +kernel
theorem d_67_20 : decode (g_m 67).2.1 20 = .ok (.aload_n 0, 1) := by decide +kernel
theorem d_67_21 : decode (g_m 67).2.1 21 = .ok (.getfield 76, 3) := by decide +kernel
theorem d_67_24 : decode (g_m 67).2.1 24 = .ok (.invokevirtual 157, 3) := by decide +kernel
theorem d_67_27 : decode (g_m 67).2.1 27 = .ok (.aload_n 0, 1) := by decide +kernel
theorem d_67_28 : decode (g_m 67).2.1 28 = .ok (.getfield 23, 3) := by decide +kernel
theorem d_67_31 : decode (g_m 67).2.1 31 = .ok (.aload_n 0, 1) := by decide +kernel
theorem d_67_32 : decode (g_m 67).2.1 32 = .ok (.getfield 76, 3) := by decide +kernel
theorem d_67_35 : decode (g_m 67).2.1 35 = .ok (.iconst 0, 1) := by decide +kernel
theorem d_67_36 : decode (g_m 67).2.1 36 = .ok (.bastore, 1) := by decide +kernel
theorem d_67_37 : decode (g_m 67).2.1 37 = .ok (.aload_n 0, 1) := by decide +kernel
theorem d_67_38 : decode (g_m 67).2.1 38 = .ok (.getfield 27, 3) := by decide +kernel
theorem d_67_41 : decode (g_m 67).2.1 41 = .ok (.aload_n 0, 1) := by decide +kernel
theorem d_67_42 : decode (g_m 67).2.1 42 = .ok (.getfield 76, 3) := by decide +kernel
theorem d_67_45 : decode (g_m 67).2.1 45 = .ok (.iconst 0, 1) := by decide +kernel
theorem d_67_46 : decode (g_m 67).2.1 46 = .ok (.bastore, 1) := by decide +kernel
theorem d_67_47 : decode (g_m 67).2.1 47 = .ok (.aload_n 0, 1) := by decide +kernel
theorem d_67_48 : decode (g_m 67).2.1 48 = .ok (.dup, 1) := by decide +kernel
theorem d_67_49 : decode (g_m 67).2.1 49 = .ok (.getfield 76, 3) := by decide +kernel
theorem d_67_52 : decode (g_m 67).2.1 52 = .ok (.iconst 1, 1) := by decide +kernel
theorem d_67_53 : decode (g_m 67).2.1 53 = .ok (.iadd, 1) := by decide +kernel
theorem d_67_54 : decode (g_m 67).2.1 54 = .ok (.putfield 76, 3) := by decide +kernel
theorem d_67_57 : decode (g_m 67).2.1 57 = .ok (.aload_n 0, 1) := by decide +kernel
theorem d_67_58 : decode (g_m 67).2.1 58 = .ok (.iconst 1, 1) := by decide +kernel
theorem d_67_59 : decode (g_m 67).2.1 59 = .ok (.putfield 139, 3) := by decide +kernel
theorem d_67_62 : decode (g_m 67).2.1 62 = .ok (.aload_n 0, 1) := by decide +kernel
theorem d_67_63 : decode (g_m 67).2.1 63 = .ok (.getfield 76, 3) := by decide +kernel
theorem d_67_66 : decode (g_m 67).2.1 66 = .ok (.iconst 1, 1) := by decide +kernel
theorem d_67_67 : decode (g_m 67).2.1 67 = .ok (.isub, 1) := by decide +kernel
theorem d_67_68 : decode (g_m 67).2.1 68 = .ok (.ireturn, 1) := by decide +kernel
theorem d_68_0 : decode (g_m 68).2.1 0 = .ok (.iconst 0, 1) := by decide +kernel
theorem d_68_1 : decode (g_m 68).2.1 1 = .ok (.istore_n 3, 1) := by decide +kernel
theorem d_68_2 : decode (g_m 68).2.1 2 = .ok (.iload_n 3, 1) := by decide +kernel
theorem d_68_3 : decode (g_m 68).2.1 3 = .ok (.bipush 8, 2) := by decide +kernel
theorem d_68_5 : decode (g_m 68).2.1 5 = .ok (.if_icmp .ge (31), 3) := by decide +kernel
theorem d_68_8 : decode (g_m 68).2.1 8 = .ok (.aload_n 0, 1) := by decide +kernel
theorem d_68_9 : decode (g_m 68).2.1 9 = .ok (.getfield 19, 3) := by decide +kernel
theorem d_68_12 : decode (g_m 68).2.1 12 = .ok (.bipush 8, 2) := by decide +kernel
theorem d_68_14 : decode (g_m 68).2.1 14 = .ok (.iload_n 2, 1) := by decide +kernel
theorem d_68_15 : decode (g_m 68).2.1 15 = .ok (.imul, 1) := by decide +kernel
theorem d_68_16 : decode (g_m 68).2.1 16 = .ok (.iload_n 3, 1) := by decide +kernel
theorem d_68_17 : decode (g_m 68).2.1 17 = .ok (.iadd, 1) := by decide +kernel
theorem d_68_18 : decode (g_m 68).2.1 18 = .ok (.aload_n 0, 1) := by decide +kernel
theorem d_68_19 : decode (g_m 68).2.1 19 = .ok (.getfield 19, 3) := by decide +kernel
theorem d_68_22 : decode (g_m 68).2.1 22 = .ok (.bipush 8, 2) := by decide +kernel
theorem d_68_24 : decode (g_m 68).2.1 24 = .ok (.iload_n 1, 1) := by decide +kernel
theorem d_68_25 : decode (g_m 68).2.1 25 = .ok (.imul, 1) := by decide +kernel
theorem d_68_26 : decode (g_m 68).2.1 26 = .ok (.iload_n 3, 1) := by decide +kernel
theorem d_68_27 : decode (g_m 68).2.1 27 = .ok (.iadd, 1) := by decide +kernel
theorem d_68_28 : decode (g_m 68).2.1 28 = .ok (.iaload, 1) := by decide +kernel
theorem d_68_29 : decode (g_m 68).2.1 29 = .ok (.iastore, 1) := by decide +kernel
theorem d_68_30 : decode (g_m 68).2.1 30 = .ok (.iinc 3 1, 3) := by decide +kernel
theorem d_68_33 : decode (g_m 68).2.1 33 = .ok (.goto (-31), 3) := by decide +kernel
theorem d_68_36 : decode (g_m 68).2.1 36 = .ok (.return_, 1) := by decide +kernel
theorem d_69_0 : decode (g_m 69).2.1 0 = .ok (.aload_n 0, 1) := by decide +kernel
theorem d_69_1 : decode (g_m 69).2.1 1 = .ok (.iconst 0, 1) := by decide +kernel
theorem d_69_2 : decode (g_m 69).2.1 2 = .ok (.putfield 1, 3) := by decide +kernel
theorem d_69_5 : decode (g_m 69).2.1 5 = .ok (.aload_n 0, 1) := by decide +kernel
theorem d_69_6 : decode (g_m 69).2.1 6 = .ok (.iload_n 1, 1) := by decide +kernel
theorem d_69_7 : decode (g_m 69).2.1 7 = .ok (.invokevirtual 160, 3) := by decide +kernel
theorem d_69_10 : decode (g_m 69).2.1 10 = .ok (.ifCond .eq (5), 3) := by decide +kernel
theorem d_69_13 : decode (g_m 69).2.1 13 = .ok (.iconst (-1), 1) := by decide +kernel
theorem d_69_14 : decode (g_m 69).2.1 14 = .ok (.ireturn, 1) := by decide +kernel
theorem d_69_15 : decode (g_m 69).2.1 15 = .ok (.aload_n 0, 1) := by decide +kernel
theorem d_69_16 : decode (g_m 69).2.1 16 = .ok (.iload_n 1, 1) := by decide +kernel
theorem d_69_17 : decode (g_m 69).2.1 17 = .ok (.bipush 100, 2) := by decide +kernel
theorem d_69_19 : decode (g_m 69).2.1 19 = .ok (.invokevirtual 157, 3) := by decide +kernel
theorem d_69_22 : decode (g_m 69).2.1 22 = .ok (.iconst 1, 1) := by decide +kernel
theorem d_69_23 : decode (g_m 69).2.1 23 = .ok (.ireturn, 1) := by decide +kernel
theorem d_70_0 : decode (g_m 70).2.1 0 = .ok (.iload_n 1, 1) := by decide +kernel
theorem d_70_1 : decode (g_m 70).2.1 1 = .ok (.i2l, 1) := by decide +kernel
theorem d_70_2 : decode (g_m 70).2.1 2 = .ok (.lconst 0, 1) := by decide +kernel
theorem d_70_3 : decode (g_m 70).2.1 3 = .ok (.aload_n 0, 1) := by decide +kernel
theorem d_70_4 : decode (g_m 70).2.1 4 = .ok (.getfield 76, 3) := by decide +kernel
theorem d_70_7 : decode (g_m 70).2.1 7 = .ok (.iconst 1, 1) := by decide +kernel
theorem d_70_8 : decode (g_m 70).2.1 8 = .ok (.isub, 1) := by decide +kernel
theorem d_70_9 : decode (g_m 70).2.1 9 = .ok (.i2l, 1) := by decide +kernel
theorem d_70_10 : decode (g_m 70).2.1 10 = .ok (.invokestatic 79, 3) := by decide +kernel
theorem d_70_13 : decode (g_m 70).2.1 13 = .ok (.ifCond .ne (7), 3) := by decide +kernel
theorem d_70_16 : decode (g_m 70).2.1 16 = .ok (.iconst 1, 1) := by decide +kernel
theorem d_70_17 : decode (g_m 70).2.1 17 = .ok (.goto (4), 3) := by decide +kernel
theorem d_70_20 : decode (g_m 70).2.1 20 = .ok (.iconst 0, 1) := by decide +kernel
theorem d_70_21 : decode (g_m 70).2.1 21 = .ok (.ireturn, 1) := by decide +kernel
theorem d_71_0 : decode (g_m 71).2.1 0 = .ok (.aload_n 0, 1) := by decide +kernel
theorem d_71_1 : decode (g_m 71).2.1 1 = .ok (.iconst 0, 1) := by decide +kernel
theorem d_71_2 : decode (g_m 71).2.1 2 = .ok (.putfield 1, 3) := by decide +kernel
theorem d_71_5 : decode (g_m 71).2.1 5 = .ok (.aload_n 0, 1) := by decide +kernel
theorem d_71_6 : decode (g_m 71).2.1 6 = .ok (.iload_n 1, 1) := by decide +kernel
theorem d_71_7 : decode (g_m 71).2.1 7 = .ok (.invokevirtual 160, 3) := by decide +kernel
theorem d_71_10 : decode (g_m 71).2.1 10 = .ok (.ifCond .eq (5), 3) := by decide +kernel
theorem d_71_13 : decode (g_m 71).2.1 13 = .ok (.iconst (-1), 1) := by decide +kernel
theorem d_71_14 : decode (g_m 71).2.1 14 = .ok (.ireturn, 1) := by decide +kernel
theorem d_71_15 : decode (g_m 71).2.1 15 = .ok (.aload_n 0, 1) := by decide +kernel
theorem d_71_16 : decode (g_m 71).2.1 16 = .ok (.getfield 27, 3) := by decide +kernel
theorem d_71_19 : decode (g_m 71).2.1 19 = .ok (.iload_n 1, 1) := by decide +kernel
theorem d_71_20 : decode (g_m 71).2.1 20 = .ok (.baload, 1) := by decide +kernel
theorem d_71_21 : decode (g_m 71).2.1 21 = .ok (.istore_n 2, 1) := by decide +kernel
theorem d_71_22 : decode (g_m 71).2.1 22 = .ok (.aload_n 0, 1) := by decide +kernel
theorem d_71_23 : decode (g_m 71).2.1 23 = .ok (.getfield 27, 3) := by decide +kernel
theorem d_71_26 : decode (g_m 71).2.1 26 = .ok (.iload_n 1, 1) := by decide +kernel
theorem d_71_27 : decode (g_m 71).2.1 27 = .ok (.iconst 1, 1) := by decide +kernel
theorem d_71_28 : decode (g_m 71).2.1 28 = .ok (.bastore, 1) := by decide +kernel
theorem d_71_29 : decode (g_m 71).2.1 29 = .ok (.iload_n 2, 1) := by decide +kernel
theorem d_71_30 : decode (g_m 71).2.1 30 = .ok (.ifCond .eq (7), 3) := by decide +kernel
theorem d_71_33 : decode (g_m 71).2.1 33 = .ok (.iconst 0, 1) := by decide +kernel
theorem d_71_34 : decode (g_m 71).2.1 34 = .ok (.goto (4), 3) := by decide +kernel
theorem d_71_37 : decode (g_m 71).2.1 37 = .ok (.iconst 1, 1) := by decide +kernel
theorem d_71_38 : decode (g_m 71).2.1 38 = .ok (.ireturn, 1) := by decide +kernel
theorem d_72_0 : decode (g_m 72).2.1 0 = .ok (.aload_n 0, 1) := by decide +kernel
theorem d_72_1 : decode (g_m 72).2.1 1 = .ok (.iconst 0, 1) := by decide +kernel
theorem d_72_2 : decode (g_m 72).2.1 2 = .ok (.putfield 1, 3) := by decide +kernel
theorem d_72_5 : decode (g_m 72).2.1 5 = .ok (.aload_n 0, 1) := by decide +kernel
theorem d_72_6 : decode (g_m 72).2.1 6 = .ok (.iload_n 1, 1) := by decide +kernel
theorem d_72_7 : decode (g_m 72).2.1 7 = .ok (.invokevirtual 160, 3) := by decide +kernel
theorem d_72_10 : decode (g_m 72).2.1 10 = .ok (.ifCond .eq (5), 3) := by decide +kernel
theorem d_72_13 : decode (g_m 72).2.1 13 = .ok (.iconst (-1), 1) := by decide +kernel
theorem d_72_14 : decode (g_m 72).2.1 14 = .ok (.ireturn, 1) := by decide +kernel
theorem d_72_15 : decode (g_m 72).2.1 15 = .ok (.aload_n 0, 1) := by decide +kernel
theorem d_72_16 : decode (g_m 72).2.1 16 = .ok (.getfield 23, 3) := by decide +kernel
theorem d_72_19 : decode (g_m 72).2.1 19 = .ok (.iload_n 1, 1) := by decide +kernel
theorem d_72_20 : decode (g_m 72).2.1 20 = .ok (.baload, 1) := by decide +kernel
theorem d_72_21 : decode (g_m 72).2.1 21 = .ok (.istore_n 3, 1) := by decide +kernel
theorem d_72_22 : decode (g_m 72).2.1 22 = .ok (.aload_n 0, 1) := by decide +kernel
theorem d_72_23 : decode (g_m 72).2.1 23 = .ok (.getfield 23, 3) := by decide +kernel
theorem d_72_26 : decode (g_m 72).2.1 26 = .ok (.iload_n 1, 1) := by decide +kernel
theorem d_72_27 : decode (g_m 72).2.1 27 = .ok (.iload_n 2, 1) := by decide +kernel
theorem d_72_28 : decode (g_m 72).2.1 28 = .ok (.bastore, 1) := by decide +kernel
theorem d_72_29 : decode (g_m 72).2.1 29 = .ok (.iload_n 3, 1) := by decide +kernel
theorem d_72_30 : decode (g_m 72).2.1 30 = .ok (.ifCond .eq (7), 3) := by decide +kernel
theorem d_72_33 : decode (g_m 72).2.1 33 = .ok (.iconst 1, 1) := by decide +kernel
theorem d_72_34 : decode (g_m 72).2.1 34 = .ok (.goto (4), 3) := by decide +kernel
theorem d_72_37 : decode (g_m 72).2.1 37 = .ok (.iconst 0, 1) := by decide +kernel
theorem d_72_38 : decode (g_m 72).2.1 38 = .ok (.ireturn, 1) := by decide +kernel
theorem d_73_0 : decode (g_m 73).2.1 0 = .ok (.aload_n 0, 1) := by decide +kernel
theorem d_73_1 : decode (g_m 73).2.1 1 = .ok (.iconst 0, 1) := by decide +kernel
theorem d_73_2 : decode (g_m 73).2.1 2 = .ok (.putfield 1, 3) := by decide +kernel
theorem d_73_5 : decode (g_m 73).2.1 5 = .ok (.iconst 0, 1) := by decide +kernel
theorem d_73_6 : decode (g_m 73).2.1 6 = .ok (.istore_n 1, 1) := by decide +kernel
theorem d_73_7 : decode (g_m 73).2.1 7 = .ok (.iconst 0, 1) := by decide +kernel
theorem d_73_8 : decode (g_m 73).2.1 8 = .ok (.istore_n 2, 1) := by decide +kernel
theorem d_73_9 : decode (g_m 73).2.1 9 = .ok (.iload_n 2, 1) := by decide +kernel
theorem d_73_10 : decode (g_m 73).2.1 10 = .ok (.aload_n 0, 1) := by decide +kernel
theorem d_73_11 : decode (g_m 73).2.1 11 = .ok (.getfield 76, 3) := by decide +kernel
theorem d_73_14 : decode (g_m 73).2.1 14 = .ok (.if_icmp .ge (39), 3) := by decide +kernel
theorem d_73_17 : decode (g_m 73).2.1 17 = .ok (.aload_n 0, 1) := by decide +kernel
theorem d_73_18 : decode (g_m 73).2.1 18 = .ok (.getfield 27, 3) := by decide +kernel
theorem d_73_21 : decode (g_m 73).2.1 21 = .ok (.iload_n 2, 1) := by decide +kernel
theorem d_73_22 : decode (g_m 73).2.1 22 = .ok (.baload, 1) := by decide +kernel
theorem d_73_23 : decode (g_m 73).2.1 23 = .ok (.ifCond .ne (24), 3) := by decide +kernel
theorem d_73_26 : decode (g_m 73).2.1 26 = .ok (.aload_n 0, 1) := by decide +kernel
theorem d_73_27 : decode (g_m 73).2.1 27 = .ok (.iload_n 2, 1) := by decide +kernel
theorem d_73_28 : decode (g_m 73).2.1 28 = .ok (.iload_n 1, 1) := by decide +kernel
theorem d_73_29 : decode (g_m 73).2.1 29 = .ok (.invokevirtual 157, 3) := by decide +kernel
theorem d_73_32 : decode (g_m 73).2.1 32 = .ok (.aload_n 0, 1) := by decide +kernel
theorem d_73_33 : decode (g_m 73).2.1 33 = .ok (.getfield 23, 3) := by decide +kernel
theorem d_73_36 : decode (g_m 73).2.1 36 = .ok (.iload_n 1, 1) := by decide +kernel
theorem d_73_37 : decode (g_m 73).2.1 37 = .ok (.aload_n 0, 1) := by decide +kernel
theorem d_73_38 : decode (g_m 73).2.1 38 = .ok (.getfield 23, 3) := by decide +kernel
theorem d_73_41 : decode (g_m 73).2.1 41 = .ok (.iload_n 2, 1) := by decide +kernel
theorem d_73_42 : decode (g_m 73).2.1 42 = .ok (.baload, 1) := by decide +kernel
theorem d_73_43 : decode (g_m 73).2.1 43 = .ok (.bastore, 1) := by decide +kernel
theorem d_73_44 : decode (g_m 73).2.1 44 = .ok (.iinc 1 1, 3) := by decide +kernel
theorem d_73_47 : decode (g_m 73).2.1 47 = .ok (.iinc 2 1, 3) := by decide +kernel
theorem d_73_50 : decode (g_m 73).2.1 50 = .ok (.goto (-41), 3) := by decide +kernel
theorem d_73_53 : decode (g_m 73).2.1 53 = .ok (.aload_n 0, 1) := by decide +kernel
theorem d_73_54 : decode (g_m 73).2.1 54 = .ok (.getfield 76, 3) := by decide +kernel
theorem d_73_57 : decode (g_m 73).2.1 57 = .ok (.iload_n 1, 1) := by decide +kernel
theorem d_73_58 : decode (g_m 73).2.1 58 = .ok (.isub, 1) := by decide +kernel
theorem d_73_59 : decode (g_m 73).2.1 59 = .ok (.istore_n 2, 1) := by decide +kernel
theorem d_73_60 : decode (g_m 73).2.1 60 = .ok (.aload_n 0, 1) := by decide +kernel
theorem d_73_61 : decode (g_m 73).2.1 61 = .ok (.iload_n 1, 1) := by decide +kernel
theorem d_73_62 : decode (g_m 73).2.1 62 = .ok (.putfield 76, 3) := by decide +kernel
theorem d_73_65 : decode (g_m 73).2.1 65 = .ok (.iconst 0, 1) := by decide +kernel
theorem d_73_66 : decode (g_m 73).2.1 66 = .ok (.istore_n 3, 1) := by decide +kernel
theorem d_73_67 : decode (g_m 73).2.1 67 = .ok (.iload_n 3, 1) := by decide +kernel
theorem d_73_68 : decode (g_m 73).2.1 68 = .ok (.bipush 100, 2) := by decide +kernel
theorem d_73_70 : decode (g_m 73).2.1 70 = .ok (.if_icmp .ge (16), 3) := by decide +kernel
theorem d_73_73 : decode (g_m 73).2.1 73 = .ok (.aload_n 0, 1) := by decide +kernel
theorem d_73_74 : decode (g_m 73).2.1 74 = .ok (.getfield 27, 3) := by decide +kernel
theorem d_73_77 : decode (g_m 73).2.1 77 = .ok (.iload_n 3, 1) := by decide +kernel
theorem d_73_78 : decode (g_m 73).2.1 78 = .ok (.iconst 0, 1) := by decide +kernel
theorem d_73_79 : decode (g_m 73).2.1 79 = .ok (.bastore, 1) := by decide +kernel
theorem d_73_80 : decode (g_m 73).2.1 80 = .ok (.iinc 3 1, 3) := by decide +kernel
theorem d_73_83 : decode (g_m 73).2.1 83 = .ok (.goto (-16), 3) := by decide +kernel
theorem d_73_86 : decode (g_m 73).2.1 86 = .ok (.aload_n 0, 1) := by decide +kernel
theorem d_73_87 : decode (g_m 73).2.1 87 = .ok (.iconst 0, 1) := by decide +kernel
theorem d_73_88 : decode (g_m 73).2.1 88 = .ok (.putfield 164, 3) := by decide +kernel
theorem d_73_91 : decode (g_m 73).2.1 91 = .ok (.aload_n 0, 1) := by decide +kernel
theorem d_73_92 : decode (g_m 73).2.1 92 = .ok (.iconst 1, 1) := by decide +kernel
theorem d_73_93 : decode (g_m 73).2.1 93 = .ok (.putfield 139, 3) := by decide +kernel
theorem d_73_96 : decode (g_m 73).2.1 96 = .ok (.iload_n 2, 1) := by decide +kernel
theorem d_73_97 : decode (g_m 73).2.1 97 = .ok (.ireturn, 1) := by decide +kernel
theorem d_74_0 : decode (g_m 74).2.1 0 = .ok (.aload_n 0, 1) := by decide +kernel
theorem d_74_1 : decode (g_m 74).2.1 1 = .ok (.iconst 0, 1) := by decide +kernel
theorem d_74_2 : decode (g_m 74).2.1 2 = .ok (.putfield 1, 3) := by decide +kernel
theorem d_74_5 : decode (g_m 74).2.1 5 = .ok (.iload_n 1, 1) := by decide +kernel
theorem d_74_6 : decode (g_m 74).2.1 6 = .ok (.i2l, 1) := by decide +kernel
theorem d_74_7 : decode (g_m 74).2.1 7 = .ok (.lconst 0, 1) := by decide +kernel
theorem d_74_8 : decode (g_m 74).2.1 8 = .ok (.ldc2_w 167, 3) := by decide +kernel
theorem d_74_11 : decode (g_m 74).2.1 11 = .ok (.invokestatic 79, 3) := by decide +kernel
theorem d_74_14 : decode (g_m 74).2.1 14 = .ok (.ifCond .eq (45), 3) := by decide +kernel
theorem d_74_17 : decode (g_m 74).2.1 17 = .ok (.iload_n 2, 1) := by decide +kernel
theorem d_74_18 : decode (g_m 74).2.1 18 = .ok (.i2l, 1) := by decide +kernel
theorem d_74_19 : decode (g_m 74).2.1 19 = .ok (.iload_n 1, 1) := by decide +kernel
theorem d_74_20 : decode (g_m 74).2.1 20 = .ok (.iconst 1, 1) := by decide +kernel
theorem d_74_21 : decode (g_m 74).2.1 21 = .ok (.if_icmp .ne (9), 3) := by decide +kernel
theorem d_74_24 : decode (g_m 74).2.1 24 = .ok (.ldc2_w 167, 3) := by decide +kernel
theorem d_74_27 : decode (g_m 74).2.1 27 = .ok (.goto (4), 3) := by decide +kernel
theorem d_74_30 : decode (g_m 74).2.1 30 = .ok (.lconst 0, 1) := by decide +kernel
theorem d_74_31 : decode (g_m 74).2.1 31 = .ok (.iload_n 1, 1) := by decide +kernel
theorem d_74_32 : decode (g_m 74).2.1 32 = .ok (.ifCond .ne (9), 3) := by decide +kernel
theorem d_74_35 : decode (g_m 74).2.1 35 = .ok (.ldc2_w 167, 3) := by decide +kernel
theorem d_74_38 : decode (g_m 74).2.1 38 = .ok (.goto (15), 3) := by decide +kernel
theorem d_74_41 : decode (g_m 74).2.1 41 = .ok (.iload_n 1, 1) := by decide +kernel
theorem d_74_42 : decode (g_m 74).2.1 42 = .ok (.iconst 1, 1) := by decide +kernel
theorem d_74_43 : decode (g_m 74).2.1 43 = .ok (.if_icmp .ne (9), 3) := by decide +kernel
theorem d_74_46 : decode (g_m 74).2.1 46 = .ok (.ldc2_w 169, 3) := by decide +kernel
theorem d_74_49 : decode (g_m 74).2.1 49 = .ok (.goto (4), 3) := by decide +kernel
theorem d_74_52 : decode (g_m 74).2.1 52 = .ok (.lconst 1, 1) := by decide +kernel
theorem d_74_53 : decode (g_m 74).2.1 53 = .ok (.invokestatic 79, 3) := by decide +kernel
theorem d_74_56 : decode (g_m 74).2.1 56 = .ok (.ifCond .ne (5), 3) := by decide +kernel
theorem d_74_59 : decode (g_m 74).2.1 59 = .ok (.iconst (-1), 1) := by decide +kernel
theorem d_74_60 : decode (g_m 74).2.1 60 = .ok (.ireturn, 1) := by decide +kernel
theorem d_74_61 : decode (g_m 74).2.1 61 = .ok (.iload_n 1, 1) := by decide +kernel
theorem d_74_62 : decode (g_m 74).2.1 62 = .ok (.ifCond .ne (10), 3) := by decide +kernel
theorem d_74_65 : decode (g_m 74).2.1 65 = .ok (.aload_n 0, 1) := by decide +kernel
theorem d_74_66 : decode (g_m 74).2.1 66 = .ok (.getfield 83, 3) := by decide +kernel
theorem d_74_69 : decode (g_m 74).2.1 69 = .ok (.goto (19), 3) := by decide +kernel
theorem d_74_72 : decode (g_m 74).2.1 72 = .ok (.iload_n 1, 1) := by decide +kernel
theorem d_74_73 : decode (g_m 74).2.1 73 = .ok (.iconst 1, 1) := by decide +kernel
theorem d_74_74 : decode (g_m 74).2.1 74 = .ok (.if_icmp .ne (10), 3) := by decide +kernel
theorem d_74_77 : decode (g_m 74).2.1 77 = .ok (.aload_n 0, 1) := by decide +kernel
theorem d_74_78 : decode (g_m 74).2.1 78 = .ok (.getfield 13, 3) := by decide +kernel
theorem d_74_81 : decode (g_m 74).2.1 81 = .ok (.goto (7), 3) := by decide +kernel
theorem d_74_84 : decode (g_m 74).2.1 84 = .ok (.aload_n 0, 1) := by decide +kernel
theorem d_74_85 : decode (g_m 74).2.1 85 = .ok (.getfield 16, 3) := by decide +kernel
theorem d_74_88 : decode (g_m 74).2.1 88 = .ok (.istore_n 3, 1) := by decide +kernel
theorem d_74_89 : decode (g_m 74).2.1 89 = .ok (.aload_n 0, 1) := by decide +kernel
theorem d_74_90 : decode (g_m 74).2.1 90 = .ok (.iload_n 1, 1) := by decide +kernel
theorem d_74_91 : decode (g_m 74).2.1 91 = .ok (.ifCond .ne (7), 3) := by decide +kernel
theorem d_74_94 : decode (g_m 74).2.1 94 = .ok (.iload_n 2, 1) := by decide +kernel
theorem d_74_95 : decode (g_m 74).2.1 95 = .ok (.goto (7), 3) := by decide +kernel
theorem d_74_98 : decode (g_m 74).2.1 98 = .ok (.aload_n 0, 1) := by decide +kernel
theorem d_74_99 : decode (g_m 74).2.1 99 = .ok (.getfield 83, 3) := by decide +kernel
theorem d_74_102 : decode (g_m 74).2.1 102 = .ok (.putfield 83, 3) := by decide +kernel
theorem d_74_105 : decode (g_m 74).2.1 105 = .ok (.aload_n 0, 1) := by decide +kernel
theorem d_74_106 : decode (g_m 74).2.1 106 = .ok (.iload_n 1, 1) := by decide +kernel
theorem d_74_107 : decode (g_m 74).2.1 107 = .ok (.iconst 1, 1) := by decide +kernel
theorem d_74_108 : decode (g_m 74).2.1 108 = .ok (.if_icmp .ne (7), 3) := by decide +kernel
theorem d_74_111 : decode (g_m 74).2.1 111 = .ok (.iload_n 2, 1) := by decide +kernel
theorem d_74_112 : decode (g_m 74).2.1 112 = .ok (.goto (7), 3) := by decide +kernel
theorem d_74_115 : decode (g_m 74).2.1 115 = .ok (.aload_n 0, 1) := by decide +kernel
theorem d_74_116 : decode (g_m 74).2.1 116 = .ok (.getfield 13, 3) := by decide +kernel
theorem d_74_119 : decode (g_m 74).2.1 119 = .ok (.putfield 13, 3) := by decide +kernel
theorem d_74_122 : decode (g_m 74).2.1 122 = .ok (.aload_n 0, 1) := by decide +kernel
theorem d_74_123 : decode (g_m 74).2.1 123 = .ok (.iload_n 1, 1) := by decide +kernel
theorem d_74_124 : decode (g_m 74).2.1 124 = .ok (.iconst 2, 1) := by decide +kernel
theorem d_74_125 : decode (g_m 74).2.1 125 = .ok (.if_icmp .ne (7), 3) := by decide +kernel
theorem d_74_128 : decode (g_m 74).2.1 128 = .ok (.iload_n 2, 1) := by decide +kernel
theorem d_74_129 : decode (g_m 74).2.1 129 = .ok (.goto (7), 3) := by decide +kernel
theorem d_74_132 : decode (g_m 74).2.1 132 = .ok (.aload_n 0, 1) := by decide +kernel
theorem d_74_133 : decode (g_m 74).2.1 133 = .ok (.getfield 16, 3) := by decide +kernel
theorem d_74_136 : decode (g_m 74).2.1 136 = .ok (.putfield 16, 3) := by decide +kernel
theorem d_74_139 : decode (g_m 74).2.1 139 = .ok (.aload_n 0, 1) := by decide +kernel
theorem d_74_140 : decode (g_m 74).2.1 140 = .ok (.iconst 1, 1) := by decide +kernel
theorem d_74_141 : decode (g_m 74).2.1 141 = .ok (.putfield 139, 3) := by decide +kernel
theorem d_74_144 : decode (g_m 74).2.1 144 = .ok (.iload_n 3, 1) := by decide +kernel
theorem d_74_145 : decode (g_m 74).2.1 145 = .ok (.ireturn, 1) := by decide +kernel
theorem d_75_0 : decode (g_m 75).2.1 0 = .ok (.aload_n 0, 1) := by decide +kernel
theorem d_75_1 : decode (g_m 75).2.1 1 = .ok (.iconst 0, 1) := by decide +kernel
theorem d_75_2 : decode (g_m 75).2.1 2 = .ok (.putfield 1, 3) := by decide +kernel
theorem d_75_5 : decode (g_m 75).2.1 5 = .ok (.iload_n 1, 1) := by decide +kernel
theorem d_75_6 : decode (g_m 75).2.1 6 = .ok (.i2l, 1) := by decide +kernel
theorem d_75_7 : decode (g_m 75).2.1 7 = .ok (.lconst 1, 1) := by decide +kernel
theorem d_75_8 : decode (g_m 75).2.1 8 = .ok (.ldc2_w 155, 3) := by decide +kernel
theorem d_75_11 : decode (g_m 75).2.1 11 = .ok (.invokestatic 79, 3) := by decide +kernel
theorem d_75_14 : decode (g_m 75).2.1 14 = .ok (.ifCond .ne (5), 3) := by decide +kernel
theorem d_75_17 : decode (g_m 75).2.1 17 = .ok (.iconst (-1), 1) := by decide +kernel
theorem d_75_18 : decode (g_m 75).2.1 18 = .ok (.ireturn, 1) := by decide +kernel
theorem d_75_19 : decode (g_m 75).2.1 19 = .ok (.aload_n 0, 1) := by decide +kernel
theorem d_75_20 : decode (g_m 75).2.1 20 = .ok (.iload_n 1, 1) := by decide +kernel
theorem d_75_21 : decode (g_m 75).2.1 21 = .ok (.invokevirtual 183, 3) := by decide +kernel
theorem d_75_24 : decode (g_m 75).2.1 24 = .ok (.aload_n 0, 1) := by decide +kernel
theorem d_75_25 : decode (g_m 75).2.1 25 = .ok (.invokevirtual 186, 3) := by decide +kernel
theorem d_75_28 : decode (g_m 75).2.1 28 = .ok (.ireturn, 1) := by decide +kernel
theorem d_76_0 : decode (g_m 76).2.1 0 = .ok (.iconst 0, 1) := by decide +kernel
theorem d_76_1 : decode (g_m 76).2.1 1 = .ok (.istore_n 2, 1) := by decide +kernel
theorem d_76_2 : decode (g_m 76).2.1 2 = .ok (.iload_n 2, 1) := by decide +kernel
theorem d_76_3 : decode (g_m 76).2.1 3 = .ok (.aload_n 0, 1) := by decide +kernel
theorem d_76_4 : decode (g_m 76).2.1 4 = .ok (.getfield 76, 3) := by decide +kernel
theorem d_76_7 : decode (g_m 76).2.1 7 = .ok (.if_icmp .ge (20), 3) := by decide +kernel
theorem d_76_10 : decode (g_m 76).2.1 10 = .ok (.aload_n 0, 1) := by decide +kernel
theorem d_76_11 : decode (g_m 76).2.1 11 = .ok (.getfield 61, 3) := by decide +kernel
theorem d_76_14 : decode (g_m 76).2.1 14 = .ok (.iload_n 2, 1) := by decide +kernel
theorem d_76_15 : decode (g_m 76).2.1 15 = .ok (.aload_n 0, 1) := by decide +kernel
theorem d_76_16 : decode (g_m 76).2.1 16 = .ok (.iload_n 2, 1) := by decide +kernel
theorem d_76_17 : decode (g_m 76).2.1 17 = .ok (.invokevirtual 174, 3) := by decide +kernel
theorem d_76_20 : decode (g_m 76).2.1 20 = .ok (.bastore, 1) := by decide +kernel
theorem d_76_21 : decode (g_m 76).2.1 21 = .ok (.iinc 2 1, 3) := by decide +kernel
theorem d_76_24 : decode (g_m 76).2.1 24 = .ok (.goto (-22), 3) := by decide +kernel
theorem d_76_27 : decode (g_m 76).2.1 27 = .ok (.aload_n 0, 1) := by decide +kernel
theorem d_76_28 : decode (g_m 76).2.1 28 = .ok (.bipush 100, 2) := by decide +kernel
theorem d_76_30 : decode (g_m 76).2.1 30 = .ok (.bipush 100, 2) := by decide +kernel
theorem d_76_32 : decode (g_m 76).2.1 32 = .ok (.invokevirtual 146, 3) := by decide +kernel
theorem d_76_35 : decode (g_m 76).2.1 35 = .ok (.aload_n 0, 1) := by decide +kernel
theorem d_76_36 : decode (g_m 76).2.1 36 = .ok (.iload_n 1, 1) := by decide +kernel
theorem d_76_37 : decode (g_m 76).2.1 37 = .ok (.invokevirtual 177, 3) := by decide +kernel
theorem d_76_40 : decode (g_m 76).2.1 40 = .ok (.return_, 1) := by decide +kernel
theorem d_77_0 : decode (g_m 77).2.1 0 = .ok (.aload_n 0, 1) := by decide +kernel
theorem d_77_1 : decode (g_m 77).2.1 1 = .ok (.getfield 23, 3) := by decide +kernel
theorem d_77_4 : decode (g_m 77).2.1 4 = .ok (.iload_n 1, 1) := by decide +kernel
theorem d_77_5 : decode (g_m 77).2.1 5 = .ok (.baload, 1) := by decide +kernel
theorem d_77_6 : decode (g_m 77).2.1 6 = .ok (.ifCond .ne (16), 3) := by decide +kernel
theorem d_77_9 : decode (g_m 77).2.1 9 = .ok (.aload_n 0, 1) := by decide +kernel
theorem d_77_10 : decode (g_m 77).2.1 10 = .ok (.getfield 27, 3) := by decide +kernel
theorem d_77_13 : decode (g_m 77).2.1 13 = .ok (.iload_n 1, 1) := by decide +kernel
theorem d_77_14 : decode (g_m 77).2.1 14 = .ok (.baload, 1) := by decide +kernel
theorem d_77_15 : decode (g_m 77).2.1 15 = .ok (.ifCond .ne (7), 3) := by decide +kernel
theorem d_77_18 : decode (g_m 77).2.1 18 = .ok (.iconst 1, 1) := by decide +kernel
theorem d_77_19 : decode (g_m 77).2.1 19 = .ok (.goto (4), 3) := by decide +kernel
theorem d_77_22 : decode (g_m 77).2.1 22 = .ok (.iconst 0, 1) := by decide +kernel
theorem d_77_23 : decode (g_m 77).2.1 23 = .ok (.ireturn, 1) := by decide +kernel
theorem d_78_0 : decode (g_m 78).2.1 0 = .ok (.iconst 0, 1) := by decide +kernel
theorem d_78_1 : decode (g_m 78).2.1 1 = .ok (.istore_n 3, 1) := by decide +kernel
theorem d_78_2 : decode (g_m 78).2.1 2 = .ok (.iload_n 3, 1) := by decide +kernel
theorem d_78_3 : decode (g_m 78).2.1 3 = .ok (.aload_n 0, 1) := by decide +kernel
theorem d_78_4 : decode (g_m 78).2.1 4 = .ok (.getfield 76, 3) := by decide +kernel
theorem d_78_7 : decode (g_m 78).2.1 7 = .ok (.if_icmp .ge (27), 3) := by decide +kernel
theorem d_78_10 : decode (g_m 78).2.1 10 = .ok (.aload_n 0, 1) := by decide +kernel
theorem d_78_11 : decode (g_m 78).2.1 11 = .ok (.getfield 43, 3) := by decide +kernel
theorem d_78_14 : decode (g_m 78).2.1 14 = .ok (.bipush 100, 2) := by decide +kernel
theorem d_78_16 : decode (g_m 78).2.1 16 = .ok (.iload_n 1, 1) := by decide +kernel
theorem d_78_17 : decode (g_m 78).2.1 17 = .ok (.imul, 1) := by decide +kernel
theorem d_78_18 : decode (g_m 78).2.1 18 = .ok (.iload_n 3, 1) := by decide +kernel
theorem d_78_19 : decode (g_m 78).2.1 19 = .ok (.iadd, 1) := by decide +kernel
theorem d_78_20 : decode (g_m 78).2.1 20 = .ok (.aload_n 0, 1) := by decide +kernel
theorem d_78_21 : decode (g_m 78).2.1 21 = .ok (.iload_n 1, 1) := by decide +kernel
theorem d_78_22 : decode (g_m 78).2.1 22 = .ok (.iload_n 3, 1) := by decide +kernel
theorem d_78_23 : decode (g_m 78).2.1 23 = .ok (.iload_n 2, 1) := by decide +kernel
theorem d_78_24 : decode (g_m 78).2.1 24 = .ok (.invokevirtual 90, 3) := by decide +kernel
theorem d_78_27 : decode (g_m 78).2.1 27 = .ok (.iastore, 1) := by decide +kernel
theorem d_78_28 : decode (g_m 78).2.1 28 = .ok (.iinc 3 1, 3) := by decide +kernel
theorem d_78_31 : decode (g_m 78).2.1 31 = .ok (.goto (-29), 3) := by decide +kernel
theorem d_78_34 : decode (g_m 78).2.1 34 = .ok (.return_, 1) := by decide +kernel
theorem d_79_0 : decode (g_m 79).2.1 0 = .ok (.aload_n 0, 1) := by decide +kernel
theorem d_79_1 : decode (g_m 79).2.1 1 = .ok (.getfield 83, 3) := by decide +kernel
theorem d_79_4 : decode (g_m 79).2.1 4 = .ok (.iconst 1, 1) := by decide +kernel
theorem d_79_5 : decode (g_m 79).2.1 5 = .ok (.if_icmp .ne (15), 3) := by decide +kernel
theorem d_79_8 : decode (g_m 79).2.1 8 = .ok (.bipush 100, 2) := by decide +kernel
theorem d_79_10 : decode (g_m 79).2.1 10 = .ok (.iload_n 3, 1) := by decide +kernel
theorem d_79_11 : decode (g_m 79).2.1 11 = .ok (.imul, 1) := by decide +kernel
theorem d_79_12 : decode (g_m 79).2.1 12 = .ok (.aload_n 0, 1) := by decide +kernel
theorem d_79_13 : decode (g_m 79).2.1 13 = .ok (.getfield 70, 3) := by decide +kernel
theorem d_79_16 : decode (g_m 79).2.1 16 = .ok (.imul, 1) := by decide +kernel
theorem d_79_17 : decode (g_m 79).2.1 17 = .ok (.goto (4), 3) := by decide +kernel
theorem d_79_20 : decode (g_m 79).2.1 20 = .ok (.iconst 0, 1) := by decide +kernel
theorem d_79_21 : decode (g_m 79).2.1 21 = .ok (.istore 4, 2) := by decide +kernel
theorem d_79_23 : decode (g_m 79).2.1 23 = .ok (.iconst 0, 1) := by decide +kernel
theorem d_79_24 : decode (g_m 79).2.1 24 = .ok (.istore 5, 2) := by decide +kernel
theorem d_79_26 : decode (g_m 79).2.1 26 = .ok (.iload 5, 2) := by decide +kernel
theorem d_79_28 : decode (g_m 79).2.1 28 = .ok (.aload_n 0, 1) := by decide +kernel
theorem d_79_29 : decode (g_m 79).2.1 29 = .ok (.getfield 70, 3) := by decide +kernel
theorem d_79_32 : decode (g_m 79).2.1 32 = .ok (.if_icmp .ge (103), 3) := by decide +kernel
theorem d_79_35 : decode (g_m 79).2.1 35 = .ok (.aload_n 0, 1) := by decide +kernel
theorem d_79_36 : decode (g_m 79).2.1 36 = .ok (.getfield 19, 3) := by decide +kernel
theorem d_79_39 : decode (g_m 79).2.1 39 = .ok (.bipush 8, 2) := by decide +kernel
theorem d_79_41 : decode (g_m 79).2.1 41 = .ok (.iload_n 1, 1) := by decide +kernel
theorem d_79_42 : decode (g_m 79).2.1 42 = .ok (.imul, 1) := by decide +kernel
theorem d_79_43 : decode (g_m 79).2.1 43 = .ok (.iload 5, 2) := by decide +kernel
theorem d_79_45 : decode (g_m 79).2.1 45 = .ok (.iadd, 1) := by decide +kernel
theorem d_79_46 : decode (g_m 79).2.1 46 = .ok (.iaload, 1) := by decide +kernel
theorem d_79_47 : decode (g_m 79).2.1 47 = .ok (.iload_n 3, 1) := by decide +kernel
theorem d_79_48 : decode (g_m 79).2.1 48 = .ok (.imul, 1) := by decide +kernel
theorem d_79_49 : decode (g_m 79).2.1 49 = .ok (.bipush 100, 2) := by decide +kernel
theorem d_79_51 : decode (g_m 79).2.1 51 = .ok (.idiv, 1) := by decide +kernel
theorem d_79_52 : decode (g_m 79).2.1 52 = .ok (.istore 6, 2) := by decide +kernel
theorem d_79_54 : decode (g_m 79).2.1 54 = .ok (.aload_n 0, 1) := by decide +kernel
theorem d_79_55 : decode (g_m 79).2.1 55 = .ok (.getfield 19, 3) := by decide +kernel
theorem d_79_58 : decode (g_m 79).2.1 58 = .ok (.bipush 8, 2) := by decide +kernel
theorem d_79_60 : decode (g_m 79).2.1 60 = .ok (.iload_n 2, 1) := by decide +kernel
theorem d_79_61 : decode (g_m 79).2.1 61 = .ok (.imul, 1) := by decide +kernel
theorem d_79_62 : decode (g_m 79).2.1 62 = .ok (.iload 5, 2) := by decide +kernel
theorem d_79_64 : decode (g_m 79).2.1 64 = .ok (.iadd, 1) := by decide +kernel
theorem d_79_65 : decode (g_m 79).2.1 65 = .ok (.iaload, 1) := by decide +kernel
theorem d_79_66 : decode (g_m 79).2.1 66 = .ok (.iload_n 3, 1) := by decide +kernel
theorem d_79_67 : decode (g_m 79).2.1 67 = .ok (.imul, 1) := by decide +kernel
theorem d_79_68 : decode (g_m 79).2.1 68 = .ok (.bipush 100, 2) := by decide +kernel
theorem d_79_70 : decode (g_m 79).2.1 70 = .ok (.idiv, 1) := by decide +kernel
theorem d_79_71 : decode (g_m 79).2.1 71 = .ok (.istore 7, 2) := by decide +kernel
theorem d_79_73 : decode (g_m 79).2.1 73 = .ok (.aload_n 0, 1) := by decide +kernel
theorem d_79_74 : decode (g_m 79).2.1 74 = .ok (.getfield 83, 3) := by decide +kernel
theorem d_79_77 : decode (g_m 79).2.1 77 = .ok (.ifCond .ne (20), 3) := by decide +kernel
theorem d_79_80 : decode (g_m 79).2.1 80 = .ok (.iload 4, 2) := by decide +kernel
theorem d_79_82 : decode (g_m 79).2.1 82 = .ok (.iload 6, 2) := by decide +kernel
theorem d_79_84 : decode (g_m 79).2.1 84 = .ok (.iload 7, 2) := by decide +kernel
theorem d_79_86 : decode (g_m 79).2.1 86 = .ok (.isub, 1) := by decide +kernel
theorem d_79_87 : decode (g_m 79).2.1 87 = .ok (.iload 6, 2) := by decide +kernel
theorem d_79_89 : decode (g_m 79).2.1 89 = .ok (.iload 7, 2) := by decide +kernel
theorem d_79_91 : decode (g_m 79).2.1 91 = .ok (.isub, 1) := by decide +kernel
theorem d_79_92 : decode (g_m 79).2.1 92 = .ok (.imul, 1) := by decide +kernel
theorem d_79_93 : decode (g_m 79).2.1 93 = .ok (.iadd, 1) := by decide +kernel
theorem d_79_94 : decode (g_m 79).2.1 94 = .ok (.goto (33), 3) := by decide +kernel
theorem d_79_97 : decode (g_m 79).2.1 97 = .ok (.aload_n 0, 1) := by decide +kernel
theorem d_79_98 : decode (g_m 79).2.1 98 = .ok (.getfield 83, 3) := by decide +kernel
theorem d_79_101 : decode (g_m 79).2.1 101 = .ok (.iconst 1, 1) := by decide +kernel
theorem d_79_102 : decode (g_m 79).2.1 102 = .ok (.if_icmp .ne (14), 3) := by decide +kernel
theorem d_79_105 : decode (g_m 79).2.1 105 = .ok (.iload 4, 2) := by decide +kernel
theorem d_79_107 : decode (g_m 79).2.1 107 = .ok (.iload 6, 2) := by decide +kernel
theorem d_79_109 : decode (g_m 79).2.1 109 = .ok (.iload 7, 2) := by decide +kernel
theorem d_79_111 : decode (g_m 79).2.1 111 = .ok (.imul, 1) := by decide +kernel
theorem d_79_112 : decode (g_m 79).2.1 112 = .ok (.isub, 1) := by decide +kernel
theorem d_79_113 : decode (g_m 79).2.1 113 = .ok (.goto (14), 3) := by decide +kernel
theorem d_79_116 : decode (g_m 79).2.1 116 = .ok (.iload 4, 2) := by decide +kernel
theorem d_79_118 : decode (g_m 79).2.1 118 = .ok (.iload 6, 2) := by decide +kernel
theorem d_79_120 : decode (g_m 79).2.1 120 = .ok (.iload 7, 2) := by decide +kernel
theorem d_79_122 : decode (g_m 79).2.1 122 = .ok (.isub, 1) := by decide +kernel
theorem d_79_123 : decode (g_m 79).2.1 123 = .ok (.invokestatic 86, 3) := by decide +kernel
theorem d_79_126 : decode (g_m 79).2.1 126 = .ok (.iadd, 1) := by decide +kernel
theorem d_79_127 : decode (g_m 79).2.1 127 = .ok (.istore 4, 2) := by decide +kernel
theorem d_79_129 : decode (g_m 79).2.1 129 = .ok (.iinc 5 1, 3) := by decide +kernel
theorem d_79_132 : decode (g_m 79).2.1 132 = .ok (.goto (-106), 3) := by decide +kernel
theorem d_79_135 : decode (g_m 79).2.1 135 = .ok (.iload 4, 2) := by decide +kernel
theorem d_79_137 : decode (g_m 79).2.1 137 = .ok (.ireturn, 1) := by decide +kernel
theorem d_80_0 : decode (g_m 80).2.1 0 = .ok (.iload_n 0, 1) := by decide +kernel
theorem d_80_1 : decode (g_m 80).2.1 1 = .ok (.ifCond .ge (8), 3) := by decide +kernel
theorem d_80_4 : decode (g_m 80).2.1 4 = .ok (.iload_n 0, 1) := by decide +kernel
theorem d_80_5 : decode (g_m 80).2.1 5 = .ok (.ineg, 1) := by decide +kernel
theorem d_80_6 : decode (g_m 80).2.1 6 = .ok (.goto (4), 3) := by decide +kernel
theorem d_80_9 : decode (g_m 80).2.1 9 = .ok (.iload_n 0, 1) := by decide +kernel
theorem d_80_10 : decode (g_m 80).2.1 10 = .ok (.ireturn, 1) := by decide +kernel
theorem d_81_0 : decode (g_m 81).2.1 0 = .ok (.aload_n 0, 1) := by decide +kernel
theorem d_81_1 : decode (g_m 81).2.1 1 = .ok (.iconst 0, 1) := by decide +kernel
theorem d_81_2 : decode (g_m 81).2.1 2 = .ok (.putfield 171, 3) := by decide +kernel
theorem d_81_5 : decode (g_m 81).2.1 5 = .ok (.aload_n 0, 1) := by decide +kernel
theorem d_81_6 : decode (g_m 81).2.1 6 = .ok (.aload_n 0, 1) := by decide +kernel
theorem d_81_7 : decode (g_m 81).2.1 7 = .ok (.getfield 61, 3) := by decide +kernel
theorem d_81_10 : decode (g_m 81).2.1 10 = .ok (.bipush 100, 2) := by decide +kernel
theorem d_81_12 : decode (g_m 81).2.1 12 = .ok (.iconst 1, 1) := by decide +kernel
theorem d_81_13 : decode (g_m 81).2.1 13 = .ok (.invokevirtual 109, 3) := by decide +kernel
theorem d_81_16 : decode (g_m 81).2.1 16 = .ok (.istore_n 2, 1) := by decide +kernel
theorem d_81_17 : decode (g_m 81).2.1 17 = .ok (.iload_n 2, 1) := by decide +kernel
theorem d_81_18 : decode (g_m 81).2.1 18 = .ok (.ifCond .lt (53), 3) := by decide +kernel
theorem d_81_21 : decode (g_m 81).2.1 21 = .ok (.aload_n 0, 1) := by decide +kernel
theorem d_81_22 : decode (g_m 81).2.1 22 = .ok (.getfield 171, 3) := by decide +kernel
theorem d_81_25 : decode (g_m 81).2.1 25 = .ok (.iload_n 1, 1) := by decide +kernel
theorem d_81_26 : decode (g_m 81).2.1 26 = .ok (.if_icmp .ge (45), 3) := by decide +kernel
theorem d_81_29 : decode (g_m 81).2.1 29 = .ok (.aload_n 0, 1) := by decide +kernel
theorem d_81_30 : decode (g_m 81).2.1 30 = .ok (.getfield 61, 3) := by decide +kernel
theorem d_81_33 : decode (g_m 81).2.1 33 = .ok (.iload_n 2, 1) := by decide +kernel
theorem d_81_34 : decode (g_m 81).2.1 34 = .ok (.iconst 0, 1) := by decide +kernel
theorem d_81_35 : decode (g_m 81).2.1 35 = .ok (.bastore, 1) := by decide +kernel
theorem d_81_36 : decode (g_m 81).2.1 36 = .ok (.aload_n 0, 1) := by decide +kernel
theorem d_81_37 : decode (g_m 81).2.1 37 = .ok (.getfield 64, 3) := by decide +kernel
theorem d_81_40 : decode (g_m 81).2.1 40 = .ok (.aload_n 0, 1) := by decide +kernel
theorem d_81_41 : decode (g_m 81).2.1 41 = .ok (.getfield 171, 3) := by decide +kernel
theorem d_81_44 : decode (g_m 81).2.1 44 = .ok (.iload_n 2, 1) := by decide +kernel
theorem d_81_45 : decode (g_m 81).2.1 45 = .ok (.iastore, 1) := by decide +kernel
theorem d_81_46 : decode (g_m 81).2.1 46 = .ok (.aload_n 0, 1) := by decide +kernel
theorem d_81_47 : decode (g_m 81).2.1 47 = .ok (.dup, 1) := by decide +kernel
theorem d_81_48 : decode (g_m 81).2.1 48 = .ok (.getfield 171, 3) := by decide +kernel
theorem d_81_51 : decode (g_m 81).2.1 51 = .ok (.iconst 1, 1) := by decide +kernel
theorem d_81_52 : decode (g_m 81).2.1 52 = .ok (.iadd, 1) := by decide +kernel
theorem d_81_53 : decode (g_m 81).2.1 53 = .ok (.putfield 171, 3) := by decide +kernel
theorem d_81_56 : decode (g_m 81).2.1 56 = .ok (.aload_n 0, 1) := by decide +kernel
theorem d_81_57 : decode (g_m 81).2.1 57 = .ok (.aload_n 0, 1) := by decide +kernel
theorem d_81_58 : decode (g_m 81).2.1 58 = .ok (.getfield 61, 3) := by decide +kernel
theorem d_81_61 : decode (g_m 81).2.1 61 = .ok (.bipush 100, 2) := by decide +kernel
theorem d_81_63 : decode (g_m 81).2.1 63 = .ok (.iconst 1, 1) := by decide +kernel
theorem d_81_64 : decode (g_m 81).2.1 64 = .ok (.invokevirtual 109, 3) := by decide +kernel
theorem d_81_67 : decode (g_m 81).2.1 67 = .ok (.istore_n 2, 1) := by decide +kernel
theorem d_81_68 : decode (g_m 81).2.1 68 = .ok (.goto (-51), 3) := by decide +kernel
theorem d_81_71 : decode (g_m 81).2.1 71 = .ok (.return_, 1) := by decide +kernel
theorem d_82_0 : decode (g_m 82).2.1 0 = .ok (.iconst (-1), 1) := by decide +kernel
theorem d_82_1 : decode (g_m 82).2.1 1 = .ok (.istore 4, 2) := by decide +kernel
theorem d_82_3 : decode (g_m 82).2.1 3 = .ok (.iconst 0, 1) := by decide +kernel
theorem d_82_4 : decode (g_m 82).2.1 4 = .ok (.istore 5, 2) := by decide +kernel
theorem d_82_6 : decode (g_m 82).2.1 6 = .ok (.iload 5, 2) := by decide +kernel
theorem d_82_8 : decode (g_m 82).2.1 8 = .ok (.aload_n 0, 1) := by decide +kernel
theorem d_82_9 : decode (g_m 82).2.1 9 = .ok (.getfield 76, 3) := by decide +kernel
theorem d_82_12 : decode (g_m 82).2.1 12 = .ok (.if_icmp .ge (38), 3) := by decide +kernel
theorem d_82_15 : decode (g_m 82).2.1 15 = .ok (.aload_n 1, 1) := by decide +kernel
theorem d_82_16 : decode (g_m 82).2.1 16 = .ok (.iload 5, 2) := by decide +kernel
theorem d_82_18 : decode (g_m 82).2.1 18 = .ok (.baload, 1) := by decide +kernel
theorem d_82_19 : decode (g_m 82).2.1 19 = .ok (.ifCond .eq (25), 3) := by decide +kernel
theorem d_82_22 : decode (g_m 82).2.1 22 = .ok (.iload 4, 2) := by decide +kernel
theorem d_82_24 : decode (g_m 82).2.1 24 = .ok (.ifCond .lt (16), 3) := by decide +kernel
theorem d_82_27 : decode (g_m 82).2.1 27 = .ok (.aload_n 0, 1) := by decide +kernel
theorem d_82_28 : decode (g_m 82).2.1 28 = .ok (.iload_n 2, 1) := by decide +kernel
theorem d_82_29 : decode (g_m 82).2.1 29 = .ok (.iload 5, 2) := by decide +kernel
theorem d_82_31 : decode (g_m 82).2.1 31 = .ok (.iload 4, 2) := by decide +kernel
theorem d_82_33 : decode (g_m 82).2.1 33 = .ok (.invokevirtual 100, 3) := by decide +kernel
theorem d_82_36 : decode (g_m 82).2.1 36 = .ok (.iload_n 3, 1) := by decide +kernel
theorem d_82_37 : decode (g_m 82).2.1 37 = .ok (.if_icmp .ne (7), 3) := by decide +kernel
theorem d_82_40 : decode (g_m 82).2.1 40 = .ok (.iload 5, 2) := by decide +kernel
theorem d_82_42 : decode (g_m 82).2.1 42 = .ok (.istore 4, 2) := by decide +kernel
theorem d_82_44 : decode (g_m 82).2.1 44 = .ok (.iinc 5 1, 3) := by decide +kernel
theorem d_82_47 : decode (g_m 82).2.1 47 = .ok (.goto (-41), 3) := by decide +kernel
theorem d_82_50 : decode (g_m 82).2.1 50 = .ok (.iload 4, 2) := by decide +kernel
theorem d_82_52 : decode (g_m 82).2.1 52 = .ok (.ireturn, 1) := by decide +kernel
theorem d_83_0 : decode (g_m 83).2.1 0 = .ok (.aload_n 0, 1) := by decide +kernel
theorem d_83_1 : decode (g_m 83).2.1 1 = .ok (.getfield 43, 3) := by decide +kernel
theorem d_83_4 : decode (g_m 83).2.1 4 = .ok (.bipush 100, 2) := by decide +kernel
theorem d_83_6 : decode (g_m 83).2.1 6 = .ok (.iload_n 1, 1) := by decide +kernel
theorem d_83_7 : decode (g_m 83).2.1 7 = .ok (.imul, 1) := by decide +kernel
theorem d_83_8 : decode (g_m 83).2.1 8 = .ok (.iload_n 2, 1) := by decide +kernel
theorem d_83_9 : decode (g_m 83).2.1 9 = .ok (.iadd, 1) := by decide +kernel
theorem d_83_10 : decode (g_m 83).2.1 10 = .ok (.iaload, 1) := by decide +kernel
theorem d_83_11 : decode (g_m 83).2.1 11 = .ok (.istore 4, 2) := by decide +kernel
theorem d_83_13 : decode (g_m 83).2.1 13 = .ok (.aload_n 0, 1) := by decide +kernel
theorem d_83_14 : decode (g_m 83).2.1 14 = .ok (.getfield 43, 3) := by decide +kernel
theorem d_83_17 : decode (g_m 83).2.1 17 = .ok (.bipush 100, 2) := by decide +kernel
theorem d_83_19 : decode (g_m 83).2.1 19 = .ok (.iload_n 1, 1) := by decide +kernel
theorem d_83_20 : decode (g_m 83).2.1 20 = .ok (.imul, 1) := by decide +kernel
theorem d_83_21 : decode (g_m 83).2.1 21 = .ok (.iload_n 3, 1) := by decide +kernel
theorem d_83_22 : decode (g_m 83).2.1 22 = .ok (.iadd, 1) := by decide +kernel
theorem d_83_23 : decode (g_m 83).2.1 23 = .ok (.iaload, 1) := by decide +kernel
theorem d_83_24 : decode (g_m 83).2.1 24 = .ok (.istore 5, 2) := by decide +kernel
theorem d_83_26 : decode (g_m 83).2.1 26 = .ok (.iload 4, 2) := by decide +kernel
theorem d_83_28 : decode (g_m 83).2.1 28 = .ok (.iload 5, 2) := by decide +kernel
theorem d_83_30 : decode (g_m 83).2.1 30 = .ok (.if_icmp .lt (15), 3) := by decide +kernel
theorem d_83_33 : decode (g_m 83).2.1 33 = .ok (.iload 4, 2) := by decide +kernel
theorem d_83_35 : decode (g_m 83).2.1 35 = .ok (.iload 5, 2) := by decide +kernel
theorem d_83_37 : decode (g_m 83).2.1 37 = .ok (.if_icmp .ne (12), 3) := by decide +kernel
theorem d_83_40 : decode (g_m 83).2.1 40 = .ok (.iload_n 2, 1) := by decide +kernel
theorem d_83_41 : decode (g_m 83).2.1 41 = .ok (.iload_n 3, 1) := by decide +kernel
theorem d_83_42 : decode (g_m 83).2.1 42 = .ok (.if_icmp .ge (7), 3) := by decide +kernel
theorem d_83_45 : decode (g_m 83).2.1 45 = .ok (.iconst 1, 1) := by decide +kernel
theorem d_83_46 : decode (g_m 83).2.1 46 = .ok (.goto (4), 3) := by decide +kernel
theorem d_83_49 : decode (g_m 83).2.1 49 = .ok (.iconst 0, 1) := by decide +kernel
theorem d_83_50 : decode (g_m 83).2.1 50 = .ok (.ireturn, 1) := by decide +kernel
theorem d_84_0 : decode (g_m 84).2.1 0 = .ok (.aload_n 0, 1) := by decide +kernel
theorem d_84_1 : decode (g_m 84).2.1 1 = .ok (.aload_n 0, 1) := by decide +kernel
theorem d_84_2 : decode (g_m 84).2.1 2 = .ok (.getfield 171, 3) := by decide +kernel
theorem d_84_5 : decode (g_m 84).2.1 5 = .ok (.putfield 164, 3) := by decide +kernel
theorem d_84_8 : decode (g_m 84).2.1 8 = .ok (.iconst 0, 1) := by decide +kernel
theorem d_84_9 : decode (g_m 84).2.1 9 = .ok (.istore_n 1, 1) := by decide +kernel
theorem d_84_10 : decode (g_m 84).2.1 10 = .ok (.iload_n 1, 1) := by decide +kernel
theorem d_84_11 : decode (g_m 84).2.1 11 = .ok (.aload_n 0, 1) := by decide +kernel
theorem d_84_12 : decode (g_m 84).2.1 12 = .ok (.getfield 171, 3) := by decide +kernel
theorem d_84_15 : decode (g_m 84).2.1 15 = .ok (.if_icmp .ge (21), 3) := by decide +kernel
theorem d_84_18 : decode (g_m 84).2.1 18 = .ok (.aload_n 0, 1) := by decide +kernel
theorem d_84_19 : decode (g_m 84).2.1 19 = .ok (.getfield 30, 3) := by decide +kernel
theorem d_84_22 : decode (g_m 84).2.1 22 = .ok (.iload_n 1, 1) := by decide +kernel
theorem d_84_23 : decode (g_m 84).2.1 23 = .ok (.aload_n 0, 1) := by decide +kernel
theorem d_84_24 : decode (g_m 84).2.1 24 = .ok (.getfield 64, 3) := by decide +kernel
theorem d_84_27 : decode (g_m 84).2.1 27 = .ok (.iload_n 1, 1) := by decide +kernel
theorem d_84_28 : decode (g_m 84).2.1 28 = .ok (.iaload, 1) := by decide +kernel
theorem d_84_29 : decode (g_m 84).2.1 29 = .ok (.iastore, 1) := by decide +kernel
theorem d_84_30 : decode (g_m 84).2.1 30 = .ok (.iinc 1 1, 3) := by decide +kernel
theorem d_84_33 : decode (g_m 84).2.1 33 = .ok (.goto (-23), 3) := by decide +kernel
theorem d_84_36 : decode (g_m 84).2.1 36 = .ok (.aload_n 0, 1) := by decide +kernel
theorem d_84_37 : decode (g_m 84).2.1 37 = .ok (.getfield 164, 3) := by decide +kernel
theorem d_84_40 : decode (g_m 84).2.1 40 = .ok (.ireturn, 1) := by decide +kernel
theorem d_85_0 : decode (g_m 85).2.1 0 = .ok (.aload_n 0, 1) := by decide +kernel
theorem d_85_1 : decode (g_m 85).2.1 1 = .ok (.iconst 0, 1) := by decide +kernel
theorem d_85_2 : decode (g_m 85).2.1 2 = .ok (.putfield 1, 3) := by decide +kernel
theorem d_85_5 : decode (g_m 85).2.1 5 = .ok (.iload_n 1, 1) := by decide +kernel
theorem d_85_6 : decode (g_m 85).2.1 6 = .ok (.i2l, 1) := by decide +kernel
theorem d_85_7 : decode (g_m 85).2.1 7 = .ok (.lconst 1, 1) := by decide +kernel
theorem d_85_8 : decode (g_m 85).2.1 8 = .ok (.ldc2_w 190, 3) := by decide +kernel
theorem d_85_11 : decode (g_m 85).2.1 11 = .ok (.invokestatic 79, 3) := by decide +kernel
theorem d_85_14 : decode (g_m 85).2.1 14 = .ok (.ifCond .eq (16), 3) := by decide +kernel
theorem d_85_17 : decode (g_m 85).2.1 17 = .ok (.iload_n 2, 1) := by decide +kernel
theorem d_85_18 : decode (g_m 85).2.1 18 = .ok (.i2l, 1) := by decide +kernel
theorem d_85_19 : decode (g_m 85).2.1 19 = .ok (.iload_n 1, 1) := by decide +kernel
theorem d_85_20 : decode (g_m 85).2.1 20 = .ok (.i2l, 1) := by decide +kernel
theorem d_85_21 : decode (g_m 85).2.1 21 = .ok (.ldc2_w 190, 3) := by decide +kernel
theorem d_85_24 : decode (g_m 85).2.1 24 = .ok (.invokestatic 79, 3) := by decide +kernel
theorem d_85_27 : decode (g_m 85).2.1 27 = .ok (.ifCond .ne (5), 3) := by decide +kernel
theorem d_85_30 : decode (g_m 85).2.1 30 = .ok (.iconst (-1), 1) := by decide +kernel
theorem d_85_31 : decode (g_m 85).2.1 31 = .ok (.ireturn, 1) := by decide +kernel
theorem d_85_32 : decode (g_m 85).2.1 32 = .ok (.aload_n 0, 1) := by decide +kernel
theorem d_85_33 : decode (g_m 85).2.1 33 = .ok (.iload_n 1, 1) := by decide +kernel
theorem d_85_34 : decode (g_m 85).2.1 34 = .ok (.iload_n 2, 1) := by decide +kernel
theorem d_85_35 : decode (g_m 85).2.1 35 = .ok (.invokevirtual 192, 3) := by decide +kernel
theorem d_85_38 : decode (g_m 85).2.1 38 = .ok (.aload_n 0, 1) := by decide +kernel
theorem d_85_39 : decode (g_m 85).2.1 39 = .ok (.invokevirtual 186, 3) := by decide +kernel
theorem d_85_42 : decode (g_m 85).2.1 42 = .ok (.ireturn, 1) := by decide +kernel
theorem d_86_0 : decode (g_m 86).2.1 0 = .ok (.aload_n 0, 1) := by decide +kernel
theorem d_86_1 : decode (g_m 86).2.1 1 = .ok (.invokevirtual 180, 3) := by decide +kernel
theorem d_86_4 : decode (g_m 86).2.1 4 = .ok (.aload_n 0, 1) := by decide +kernel
theorem d_86_5 : decode (g_m 86).2.1 5 = .ok (.iconst 0, 1) := by decide +kernel
theorem d_86_6 : decode (g_m 86).2.1 6 = .ok (.putfield 106, 3) := by decide +kernel
theorem d_86_9 : decode (g_m 86).2.1 9 = .ok (.aload_n 0, 1) := by decide +kernel
theorem d_86_10 : decode (g_m 86).2.1 10 = .ok (.iconst 0, 1) := by decide +kernel
theorem d_86_11 : decode (g_m 86).2.1 11 = .ok (.putfield 171, 3) := by decide +kernel
theorem d_86_14 : decode (g_m 86).2.1 14 = .ok (.aload_n 0, 1) := by decide +kernel
theorem d_86_15 : decode (g_m 86).2.1 15 = .ok (.getfield 76, 3) := by decide +kernel
theorem d_86_18 : decode (g_m 86).2.1 18 = .ok (.ifCond .ne (4), 3) := by decide +kernel
theorem d_86_21 : decode (g_m 86).2.1 21 = .ok (.return_, 1) := by decide +kernel
theorem d_86_22 : decode (g_m 86).2.1 22 = .ok (.aload_n 0, 1) := by decide +kernel
theorem d_86_23 : decode (g_m 86).2.1 23 = .ok (.bipush 100, 2) := by decide +kernel
theorem d_86_25 : decode (g_m 86).2.1 25 = .ok (.bipush 100, 2) := by decide +kernel
theorem d_86_27 : decode (g_m 86).2.1 27 = .ok (.invokevirtual 146, 3) := by decide +kernel
theorem d_86_30 : decode (g_m 86).2.1 30 = .ok (.aload_n 0, 1) := by decide +kernel
theorem d_86_31 : decode (g_m 86).2.1 31 = .ok (.getfield 40, 3) := by decide +kernel
theorem d_86_34 : decode (g_m 86).2.1 34 = .ok (.istore_n 3, 1) := by decide +kernel
theorem d_86_35 : decode (g_m 86).2.1 35 = .ok (.aload_n 0, 1) := by decide +kernel
theorem d_86_36 : decode (g_m 86).2.1 36 = .ok (.getfield 33, 3) := by decide +kernel
theorem d_86_39 : decode (g_m 86).2.1 39 = .ok (.aload_n 0, 1) := by decide +kernel
theorem d_86_40 : decode (g_m 86).2.1 40 = .ok (.getfield 40, 3) := by decide +kernel
theorem d_86_43 : decode (g_m 86).2.1 43 = .ok (.iaload, 1) := by decide +kernel
theorem d_86_44 : decode (g_m 86).2.1 44 = .ok (.istore 4, 2) := by decide +kernel
theorem d_86_46 : decode (g_m 86).2.1 46 = .ok (.iload 4, 2) := by decide +kernel
theorem d_86_48 : decode (g_m 86).2.1 48 = .ok (.ifCond .le (31), 3) := by decide +kernel
theorem d_86_51 : decode (g_m 86).2.1 51 = .ok (.aload_n 0, 1) := by decide +kernel
theorem d_86_52 : decode (g_m 86).2.1 52 = .ok (.iload 4, 2) := by decide +kernel
theorem d_86_54 : decode (g_m 86).2.1 54 = .ok (.iload_n 3, 1) := by decide +kernel
theorem d_86_55 : decode (g_m 86).2.1 55 = .ok (.bipush 100, 2) := by decide +kernel
theorem d_86_57 : decode (g_m 86).2.1 57 = .ok (.iconst 1, 1) := by decide +kernel
theorem d_86_58 : decode (g_m 86).2.1 58 = .ok (.invokevirtual 132, 3) := by decide +kernel
theorem d_86_61 : decode (g_m 86).2.1 61 = .ok (.aload_n 0, 1) := by decide +kernel
theorem d_86_62 : decode (g_m 86).2.1 62 = .ok (.aload_n 0, 1) := by decide +kernel
theorem d_86_63 : decode (g_m 86).2.1 63 = .ok (.getfield 52, 3) := by decide +kernel
theorem d_86_66 : decode (g_m 86).2.1 66 = .ok (.bipush 100, 2) := by decide +kernel
theorem d_86_68 : decode (g_m 86).2.1 68 = .ok (.iconst 1, 1) := by decide +kernel
theorem d_86_69 : decode (g_m 86).2.1 69 = .ok (.invokevirtual 109, 3) := by decide +kernel
theorem d_86_72 : decode (g_m 86).2.1 72 = .ok (.istore_n 3, 1) := by decide +kernel
theorem d_86_73 : decode (g_m 86).2.1 73 = .ok (.iinc 4 (-1), 3) := by decide +kernel
theorem d_86_76 : decode (g_m 86).2.1 76 = .ok (.goto (-30), 3) := by decide +kernel
theorem d_86_79 : decode (g_m 86).2.1 79 = .ok (.aload_n 0, 1) := by decide +kernel
theorem d_86_80 : decode (g_m 86).2.1 80 = .ok (.iconst 0, 1) := by decide +kernel
theorem d_86_81 : decode (g_m 86).2.1 81 = .ok (.iload_n 3, 1) := by decide +kernel
theorem d_86_82 : decode (g_m 86).2.1 82 = .ok (.bipush 100, 2) := by decide +kernel
theorem d_86_84 : decode (g_m 86).2.1 84 = .ok (.iload_n 2, 1) := by decide +kernel
theorem d_86_85 : decode (g_m 86).2.1 85 = .ok (.invokevirtual 132, 3) := by decide +kernel
theorem d_86_88 : decode (g_m 86).2.1 88 = .ok (.iconst 0, 1) := by decide +kernel
theorem d_86_89 : decode (g_m 86).2.1 89 = .ok (.istore 4, 2) := by decide +kernel
theorem d_86_91 : decode (g_m 86).2.1 91 = .ok (.iload 4, 2) := by decide +kernel
theorem d_86_93 : decode (g_m 86).2.1 93 = .ok (.aload_n 0, 1) := by decide +kernel
theorem d_86_94 : decode (g_m 86).2.1 94 = .ok (.getfield 76, 3) := by decide +kernel
theorem d_86_97 : decode (g_m 86).2.1 97 = .ok (.if_icmp .ge (40), 3) := by decide +kernel
theorem d_86_100 : decode (g_m 86).2.1 100 = .ok (.aload_n 0, 1) := by decide +kernel
theorem d_86_101 : decode (g_m 86).2.1 101 = .ok (.getfield 61, 3) := by decide +kernel
theorem d_86_104 : decode (g_m 86).2.1 104 = .ok (.iload 4, 2) := by decide +kernel
theorem d_86_106 : decode (g_m 86).2.1 106 = .ok (.aload_n 0, 1) := by decide +kernel
theorem d_86_107 : decode (g_m 86).2.1 107 = .ok (.getfield 52, 3) := by decide +kernel
theorem d_86_110 : decode (g_m 86).2.1 110 = .ok (.iload 4, 2) := by decide +kernel
theorem d_86_112 : decode (g_m 86).2.1 112 = .ok (.baload, 1) := by decide +kernel
theorem d_86_113 : decode (g_m 86).2.1 113 = .ok (.ifCond .eq (16), 3) := by decide +kernel
theorem d_86_116 : decode (g_m 86).2.1 116 = .ok (.aload_n 0, 1) := by decide +kernel
theorem d_86_117 : decode (g_m 86).2.1 117 = .ok (.iload 4, 2) := by decide +kernel
theorem d_86_119 : decode (g_m 86).2.1 119 = .ok (.invokevirtual 174, 3) := by decide +kernel
theorem d_86_122 : decode (g_m 86).2.1 122 = .ok (.ifCond .eq (7), 3) := by decide +kernel
theorem d_86_125 : decode (g_m 86).2.1 125 = .ok (.iconst 1, 1) := by decide +kernel
theorem d_86_126 : decode (g_m 86).2.1 126 = .ok (.goto (4), 3) := by decide +kernel
theorem d_86_129 : decode (g_m 86).2.1 129 = .ok (.iconst 0, 1) := by decide +kernel
theorem d_86_130 : decode (g_m 86).2.1 130 = .ok (.bastore, 1) := by decide +kernel
theorem d_86_131 : decode (g_m 86).2.1 131 = .ok (.iinc 4 1, 3) := by decide +kernel
theorem d_86_134 : decode (g_m 86).2.1 134 = .ok (.goto (-43), 3) := by decide +kernel
theorem d_86_137 : decode (g_m 86).2.1 137 = .ok (.aload_n 0, 1) := by decide +kernel
theorem d_86_138 : decode (g_m 86).2.1 138 = .ok (.iload_n 1, 1) := by decide +kernel
theorem d_86_139 : decode (g_m 86).2.1 139 = .ok (.invokevirtual 177, 3) := by decide +kernel
theorem d_86_142 : decode (g_m 86).2.1 142 = .ok (.return_, 1) := by decide +kernel
theorem d_87_0 : decode (g_m 87).2.1 0 = .ok (.aload_n 0, 1) := by decide +kernel
theorem d_87_1 : decode (g_m 87).2.1 1 = .ok (.getfield 139, 3) := by decide +kernel
theorem d_87_4 : decode (g_m 87).2.1 4 = .ok (.ifCond .ne (4), 3) := by decide +kernel
theorem d_87_7 : decode (g_m 87).2.1 7 = .ok (.return_, 1) := by decide +kernel
theorem d_87_8 : decode (g_m 87).2.1 8 = .ok (.aload_n 0, 1) := by decide +kernel
theorem d_87_9 : decode (g_m 87).2.1 9 = .ok (.iconst 0, 1) := by decide +kernel
theorem d_87_10 : decode (g_m 87).2.1 10 = .ok (.putfield 139, 3) := by decide +kernel
theorem d_87_13 : decode (g_m 87).2.1 13 = .ok (.aload_n 0, 1) := by decide +kernel
theorem d_87_14 : decode (g_m 87).2.1 14 = .ok (.getfield 106, 3) := by decide +kernel
theorem d_87_17 : decode (g_m 87).2.1 17 = .ok (.istore_n 1, 1) := by decide +kernel
theorem d_87_18 : decode (g_m 87).2.1 18 = .ok (.aload_n 0, 1) := by decide +kernel
theorem d_87_19 : decode (g_m 87).2.1 19 = .ok (.iconst (-1), 1) := by decide +kernel
theorem d_87_20 : decode (g_m 87).2.1 20 = .ok (.putfield 40, 3) := by decide +kernel
theorem d_87_23 : decode (g_m 87).2.1 23 = .ok (.iconst 0, 1) := by decide +kernel
theorem d_87_24 : decode (g_m 87).2.1 24 = .ok (.istore_n 2, 1) := by decide +kernel
theorem d_87_25 : decode (g_m 87).2.1 25 = .ok (.iload_n 2, 1) := by decide +kernel
theorem d_87_26 : decode (g_m 87).2.1 26 = .ok (.ldc 36, 2) := by decide +kernel
theorem d_87_28 : decode (g_m 87).2.1 28 = .ok (.if_icmp .ge (16), 3) := by decide +kernel
theorem d_87_31 : decode (g_m 87).2.1 31 = .ok (.aload_n 0, 1) := by decide +kernel
theorem d_87_32 : decode (g_m 87).2.1 32 = .ok (.getfield 37, 3) := by decide +kernel
theorem d_87_35 : decode (g_m 87).2.1 35 = .ok (.iload_n 2, 1) := by decide +kernel
theorem d_87_36 : decode (g_m 87).2.1 36 = .ok (.iconst 0, 1) := by decide +kernel
theorem d_87_37 : decode (g_m 87).2.1 37 = .ok (.bastore, 1) := by decide +kernel
theorem d_87_38 : decode (g_m 87).2.1 38 = .ok (.iinc 2 1, 3) := by decide +kernel
theorem d_87_41 : decode (g_m 87).2.1 41 = .ok (.goto (-16), 3) := by decide +kernel
theorem d_87_44 : decode (g_m 87).2.1 44 = .ok (.iconst 0, 1) := by decide +kernel
theorem d_87_45 : decode (g_m 87).2.1 45 = .ok (.istore_n 2, 1) := by decide +kernel
theorem d_87_46 : decode (g_m 87).2.1 46 = .ok (.iload_n 2, 1) := by decide +kernel
theorem d_87_47 : decode (g_m 87).2.1 47 = .ok (.aload_n 0, 1) := by decide +kernel
theorem d_87_48 : decode (g_m 87).2.1 48 = .ok (.getfield 76, 3) := by decide +kernel
theorem d_87_51 : decode (g_m 87).2.1 51 = .ok (.if_icmp .ge (30), 3) := by decide +kernel
theorem d_87_54 : decode (g_m 87).2.1 54 = .ok (.aload_n 0, 1) := by decide +kernel
theorem d_87_55 : decode (g_m 87).2.1 55 = .ok (.getfield 33, 3) := by decide +kernel
theorem d_87_58 : decode (g_m 87).2.1 58 = .ok (.iload_n 2, 1) := by decide +kernel
theorem d_87_59 : decode (g_m 87).2.1 59 = .ok (.iload_n 2, 1) := by decide +kernel
theorem d_87_60 : decode (g_m 87).2.1 60 = .ok (.aload_n 0, 1) := by decide +kernel
theorem d_87_61 : decode (g_m 87).2.1 61 = .ok (.getfield 73, 3) := by decide +kernel
theorem d_87_64 : decode (g_m 87).2.1 64 = .ok (.invokestatic 143, 3) := by decide +kernel
theorem d_87_67 : decode (g_m 87).2.1 67 = .ok (.iastore, 1) := by decide +kernel
theorem d_87_68 : decode (g_m 87).2.1 68 = .ok (.aload_n 0, 1) := by decide +kernel
theorem d_87_69 : decode (g_m 87).2.1 69 = .ok (.iload_n 2, 1) := by decide +kernel
theorem d_87_70 : decode (g_m 87).2.1 70 = .ok (.bipush 100, 2) := by decide +kernel
theorem d_87_72 : decode (g_m 87).2.1 72 = .ok (.invokevirtual 146, 3) := by decide +kernel
theorem d_87_75 : decode (g_m 87).2.1 75 = .ok (.iinc 2 1, 3) := by decide +kernel
theorem d_87_78 : decode (g_m 87).2.1 78 = .ok (.goto (-32), 3) := by decide +kernel
theorem d_87_81 : decode (g_m 87).2.1 81 = .ok (.iconst 0, 1) := by decide +kernel
theorem d_87_82 : decode (g_m 87).2.1 82 = .ok (.istore_n 2, 1) := by decide +kernel
theorem d_87_83 : decode (g_m 87).2.1 83 = .ok (.iload_n 2, 1) := by decide +kernel
theorem d_87_84 : decode (g_m 87).2.1 84 = .ok (.aload_n 0, 1) := by decide +kernel
theorem d_87_85 : decode (g_m 87).2.1 85 = .ok (.getfield 76, 3) := by decide +kernel
theorem d_87_88 : decode (g_m 87).2.1 88 = .ok (.if_icmp .ge (14), 3) := by decide +kernel
theorem d_87_91 : decode (g_m 87).2.1 91 = .ok (.aload_n 0, 1) := by decide +kernel
theorem d_87_92 : decode (g_m 87).2.1 92 = .ok (.iload_n 2, 1) := by decide +kernel
theorem d_87_93 : decode (g_m 87).2.1 93 = .ok (.invokevirtual 149, 3) := by decide +kernel
theorem d_87_96 : decode (g_m 87).2.1 96 = .ok (.iinc 2 1, 3) := by decide +kernel
theorem d_87_99 : decode (g_m 87).2.1 99 = .ok (.goto (-16), 3) := by decide +kernel
theorem d_87_102 : decode (g_m 87).2.1 102 = .ok (.aload_n 0, 1) := by decide +kernel
theorem d_87_103 : decode (g_m 87).2.1 103 = .ok (.iload_n 1, 1) := by decide +kernel
theorem d_87_104 : decode (g_m 87).2.1 104 = .ok (.putfield 106, 3) := by decide +kernel
theorem d_87_107 : decode (g_m 87).2.1 107 = .ok (.return_, 1) := by decide +kernel
theorem d_88_0 : decode (g_m 88).2.1 0 = .ok (.iload_n 1, 1) := by decide +kernel
theorem d_88_1 : decode (g_m 88).2.1 1 = .ok (.iload_n 0, 1) := by decide +kernel
theorem d_88_2 : decode (g_m 88).2.1 2 = .ok (.ixor, 1) := by decide +kernel
theorem d_88_3 : decode (g_m 88).2.1 3 = .ok (.ldc 94, 2) := by decide +kernel
theorem d_88_5 : decode (g_m 88).2.1 5 = .ok (.imul, 1) := by decide +kernel
theorem d_88_6 : decode (g_m 88).2.1 6 = .ok (.istore_n 2, 1) := by decide +kernel
theorem d_88_7 : decode (g_m 88).2.1 7 = .ok (.iload_n 2, 1) := by decide +kernel
theorem d_88_8 : decode (g_m 88).2.1 8 = .ok (.iload_n 2, 1) := by decide +kernel
theorem d_88_9 : decode (g_m 88).2.1 9 = .ok (.bipush 16, 2) := by decide +kernel
theorem d_88_11 : decode (g_m 88).2.1 11 = .ok (.iushr, 1) := by decide +kernel
theorem d_88_12 : decode (g_m 88).2.1 12 = .ok (.ixor, 1) := by decide +kernel
theorem d_88_13 : decode (g_m 88).2.1 13 = .ok (.ldc 95, 2) := by decide +kernel
theorem d_88_15 : decode (g_m 88).2.1 15 = .ok (.imul, 1) := by decide +kernel
theorem d_88_16 : decode (g_m 88).2.1 16 = .ok (.istore_n 2, 1) := by decide +kernel
theorem d_88_17 : decode (g_m 88).2.1 17 = .ok (.iload_n 2, 1) := by decide +kernel
theorem d_88_18 : decode (g_m 88).2.1 18 = .ok (.iload_n 2, 1) := by decide +kernel
theorem d_88_19 : decode (g_m 88).2.1 19 = .ok (.bipush 13, 2) := by decide +kernel
theorem d_88_21 : decode (g_m 88).2.1 21 = .ok (.iushr, 1) := by decide +kernel
theorem d_88_22 : decode (g_m 88).2.1 22 = .ok (.ixor, 1) := by decide +kernel
theorem d_88_23 : decode (g_m 88).2.1 23 = .ok (.istore_n 2, 1) := by decide +kernel
theorem d_88_24 : decode (g_m 88).2.1 24 = .ok (.iconst 0, 1) := by decide +kernel
theorem d_88_25 : decode (g_m 88).2.1 25 = .ok (.istore_n 3, 1) := by decide +kernel
theorem d_88_26 : decode (g_m 88).2.1 26 = .ok (.iload_n 3, 1) := by decide +kernel
theorem d_88_27 : decode (g_m 88).2.1 27 = .ok (.bipush 32, 2) := by decide +kernel
theorem d_88_29 : decode (g_m 88).2.1 29 = .ok (.if_icmp .ge (17), 3) := by decide +kernel
theorem d_88_32 : decode (g_m 88).2.1 32 = .ok (.iload_n 2, 1) := by decide +kernel
theorem d_88_33 : decode (g_m 88).2.1 33 = .ok (.iload_n 3, 1) := by decide +kernel
theorem d_88_34 : decode (g_m 88).2.1 34 = .ok (.iushr, 1) := by decide +kernel
theorem d_88_35 : decode (g_m 88).2.1 35 = .ok (.iconst 1, 1) := by decide +kernel
theorem d_88_36 : decode (g_m 88).2.1 36 = .ok (.iand, 1) := by decide +kernel
theorem d_88_37 : decode (g_m 88).2.1 37 = .ok (.ifCond .ne (9), 3) := by decide +kernel
theorem d_88_40 : decode (g_m 88).2.1 40 = .ok (.iinc 3 1, 3) := by decide +kernel
theorem d_88_43 : decode (g_m 88).2.1 43 = .ok (.goto (-17), 3) := by decide +kernel
theorem d_88_46 : decode (g_m 88).2.1 46 = .ok (.iload_n 3, 1) := by decide +kernel
theorem d_88_47 : decode (g_m 88).2.1 47 = .ok (.iconst 2, 1) := by decide +kernel
theorem d_88_48 : decode (g_m 88).2.1 48 = .ok (.idiv, 1) := by decide +kernel
theorem d_88_49 : decode (g_m 88).2.1 49 = .ok (.iconst 4, 1) := by decide +kernel
theorem d_88_50 : decode (g_m 88).2.1 50 = .ok (.if_icmp .le (7), 3) := by decide +kernel
theorem d_88_53 : decode (g_m 88).2.1 53 = .ok (.iconst 4, 1) := by decide +kernel
theorem d_88_54 : decode (g_m 88).2.1 54 = .ok (.goto (6), 3) := by decide +kernel
theorem d_88_57 : decode (g_m 88).2.1 57 = .ok (.iload_n 3, 1) := by decide +kernel
theorem d_88_58 : decode (g_m 88).2.1 58 = .ok (.iconst 2, 1) := by decide +kernel
theorem d_88_59 : decode (g_m 88).2.1 59 = .ok (.idiv, 1) := by decide +kernel
theorem d_88_60 : decode (g_m 88).2.1 60 = .ok (.ireturn, 1) := by decide +kernel
theorem d_89_0 : decode (g_m 89).2.1 0 = .ok (.aload_n 0, 1) := by decide +kernel
theorem d_89_1 : decode (g_m 89).2.1 1 = .ok (.getfield 40, 3) := by decide +kernel
theorem d_89_4 : decode (g_m 89).2.1 4 = .ok (.ifCond .ge (9), 3) := by decide +kernel
theorem d_89_7 : decode (g_m 89).2.1 7 = .ok (.aload_n 0, 1) := by decide +kernel
theorem d_89_8 : decode (g_m 89).2.1 8 = .ok (.iload_n 1, 1) := by decide +kernel
theorem d_89_9 : decode (g_m 89).2.1 9 = .ok (.putfield 40, 3) := by decide +kernel
theorem d_89_12 : decode (g_m 89).2.1 12 = .ok (.return_, 1) := by decide +kernel
theorem d_89_13 : decode (g_m 89).2.1 13 = .ok (.aload_n 0, 1) := by decide +kernel
theorem d_89_14 : decode (g_m 89).2.1 14 = .ok (.getfield 40, 3) := by decide +kernel
theorem d_89_17 : decode (g_m 89).2.1 17 = .ok (.istore_n 2, 1) := by decide +kernel
theorem d_89_18 : decode (g_m 89).2.1 18 = .ok (.aload_n 0, 1) := by decide +kernel
theorem d_89_19 : decode (g_m 89).2.1 19 = .ok (.getfield 33, 3) := by decide +kernel
theorem d_89_22 : decode (g_m 89).2.1 22 = .ok (.aload_n 0, 1) := by decide +kernel
theorem d_89_23 : decode (g_m 89).2.1 23 = .ok (.getfield 40, 3) := by decide +kernel
theorem d_89_26 : decode (g_m 89).2.1 26 = .ok (.iaload, 1) := by decide +kernel
theorem d_89_27 : decode (g_m 89).2.1 27 = .ok (.istore_n 3, 1) := by decide +kernel
theorem d_89_28 : decode (g_m 89).2.1 28 = .ok (.iload_n 3, 1) := by decide +kernel
theorem d_89_29 : decode (g_m 89).2.1 29 = .ok (.ifCond .lt (67), 3) := by decide +kernel
theorem d_89_32 : decode (g_m 89).2.1 32 = .ok (.iload_n 3, 1) := by decide +kernel
theorem d_89_33 : decode (g_m 89).2.1 33 = .ok (.aload_n 0, 1) := by decide +kernel
theorem d_89_34 : decode (g_m 89).2.1 34 = .ok (.getfield 33, 3) := by decide +kernel
theorem d_89_37 : decode (g_m 89).2.1 37 = .ok (.iload_n 1, 1) := by decide +kernel
theorem d_89_38 : decode (g_m 89).2.1 38 = .ok (.iaload, 1) := by decide +kernel
theorem d_89_39 : decode (g_m 89).2.1 39 = .ok (.if_icmp .le (25), 3) := by decide +kernel
theorem d_89_42 : decode (g_m 89).2.1 42 = .ok (.aload_n 0, 1) := by decide +kernel
theorem d_89_43 : decode (g_m 89).2.1 43 = .ok (.iload_n 3, 1) := by decide +kernel
theorem d_89_44 : decode (g_m 89).2.1 44 = .ok (.iload_n 2, 1) := by decide +kernel
theorem d_89_45 : decode (g_m 89).2.1 45 = .ok (.iload_n 1, 1) := by decide +kernel
theorem d_89_46 : decode (g_m 89).2.1 46 = .ok (.iconst 1, 1) := by decide +kernel
theorem d_89_47 : decode (g_m 89).2.1 47 = .ok (.invokevirtual 132, 3) := by decide +kernel
theorem d_89_50 : decode (g_m 89).2.1 50 = .ok (.aload_n 0, 1) := by decide +kernel
theorem d_89_51 : decode (g_m 89).2.1 51 = .ok (.aload_n 0, 1) := by decide +kernel
theorem d_89_52 : decode (g_m 89).2.1 52 = .ok (.getfield 52, 3) := by decide +kernel
theorem d_89_55 : decode (g_m 89).2.1 55 = .ok (.iload_n 1, 1) := by decide +kernel
theorem d_89_56 : decode (g_m 89).2.1 56 = .ok (.iconst 1, 1) := by decide +kernel
theorem d_89_57 : decode (g_m 89).2.1 57 = .ok (.invokevirtual 109, 3) := by decide +kernel
theorem d_89_60 : decode (g_m 89).2.1 60 = .ok (.istore_n 2, 1) := by decide +kernel
theorem d_89_61 : decode (g_m 89).2.1 61 = .ok (.goto (29), 3) := by decide +kernel
theorem d_89_64 : decode (g_m 89).2.1 64 = .ok (.aload_n 0, 1) := by decide +kernel
theorem d_89_65 : decode (g_m 89).2.1 65 = .ok (.iload_n 3, 1) := by decide +kernel
theorem d_89_66 : decode (g_m 89).2.1 66 = .ok (.iload_n 2, 1) := by decide +kernel
theorem d_89_67 : decode (g_m 89).2.1 67 = .ok (.iload_n 1, 1) := by decide +kernel
theorem d_89_68 : decode (g_m 89).2.1 68 = .ok (.bipush 12, 2) := by decide +kernel
theorem d_89_70 : decode (g_m 89).2.1 70 = .ok (.invokevirtual 132, 3) := by decide +kernel
theorem d_89_73 : decode (g_m 89).2.1 73 = .ok (.aload_n 0, 1) := by decide +kernel
theorem d_89_74 : decode (g_m 89).2.1 74 = .ok (.aload_n 0, 1) := by decide +kernel
theorem d_89_75 : decode (g_m 89).2.1 75 = .ok (.getfield 52, 3) := by decide +kernel
theorem d_89_78 : decode (g_m 89).2.1 78 = .ok (.iload_n 1, 1) := by decide +kernel
theorem d_89_79 : decode (g_m 89).2.1 79 = .ok (.iconst 1, 1) := by decide +kernel
theorem d_89_80 : decode (g_m 89).2.1 80 = .ok (.invokevirtual 109, 3) := by decide +kernel
theorem d_89_83 : decode (g_m 89).2.1 83 = .ok (.istore_n 2, 1) := by decide +kernel
theorem d_89_84 : decode (g_m 89).2.1 84 = .ok (.aload_n 0, 1) := by decide +kernel
theorem d_89_85 : decode (g_m 89).2.1 85 = .ok (.iload_n 3, 1) := by decide +kernel
theorem d_89_86 : decode (g_m 89).2.1 86 = .ok (.iload_n 1, 1) := by decide +kernel
theorem d_89_87 : decode (g_m 89).2.1 87 = .ok (.invokevirtual 136, 3) := by decide +kernel
theorem d_89_90 : decode (g_m 89).2.1 90 = .ok (.iinc 3 (-1), 3) := by decide +kernel
theorem d_89_93 : decode (g_m 89).2.1 93 = .ok (.goto (-65), 3) := by decide +kernel
theorem d_89_96 : decode (g_m 89).2.1 96 = .ok (.aload_n 0, 1) := by decide +kernel
theorem d_89_97 : decode (g_m 89).2.1 97 = .ok (.aload_n 0, 1) := by decide +kernel
theorem d_89_98 : decode (g_m 89).2.1 98 = .ok (.getfield 33, 3) := by decide +kernel
theorem d_89_101 : decode (g_m 89).2.1 101 = .ok (.iload_n 1, 1) := by decide +kernel
theorem d_89_102 : decode (g_m 89).2.1 102 = .ok (.iaload, 1) := by decide +kernel
theorem d_89_103 : decode (g_m 89).2.1 103 = .ok (.aload_n 0, 1) := by decide +kernel
theorem d_89_104 : decode (g_m 89).2.1 104 = .ok (.getfield 33, 3) := by decide +kernel
theorem d_89_107 : decode (g_m 89).2.1 107 = .ok (.aload_n 0, 1) := by decide +kernel
theorem d_89_108 : decode (g_m 89).2.1 108 = .ok (.getfield 40, 3) := by decide +kernel
theorem d_89_111 : decode (g_m 89).2.1 111 = .ok (.iaload, 1) := by decide +kernel
theorem d_89_112 : decode (g_m 89).2.1 112 = .ok (.if_icmp .le (7), 3) := by decide +kernel
theorem d_89_115 : decode (g_m 89).2.1 115 = .ok (.iload_n 1, 1) := by decide +kernel
theorem d_89_116 : decode (g_m 89).2.1 116 = .ok (.goto (7), 3) := by decide +kernel
theorem d_89_119 : decode (g_m 89).2.1 119 = .ok (.aload_n 0, 1) := by decide +kernel
theorem d_89_120 : decode (g_m 89).2.1 120 = .ok (.getfield 40, 3) := by decide +kernel
theorem d_89_123 : decode (g_m 89).2.1 123 = .ok (.putfield 40, 3) := by decide +kernel
theorem d_89_126 : decode (g_m 89).2.1 126 = .ok (.return_, 1) := by decide +kernel
theorem d_90_0 : decode (g_m 90).2.1 0 = .ok (.iconst 0, 1) := by decide +kernel
theorem d_90_1 : decode (g_m 90).2.1 1 = .ok (.istore 5, 2) := by decide +kernel
theorem d_90_3 : decode (g_m 90).2.1 3 = .ok (.iload 5, 2) := by decide +kernel
theorem d_90_5 : decode (g_m 90).2.1 5 = .ok (.bipush 100, 2) := by decide +kernel
theorem d_90_7 : decode (g_m 90).2.1 7 = .ok (.if_icmp .ge (63), 3) := by decide +kernel
theorem d_90_10 : decode (g_m 90).2.1 10 = .ok (.aload_n 0, 1) := by decide +kernel
theorem d_90_11 : decode (g_m 90).2.1 11 = .ok (.getfield 46, 3) := by decide +kernel
theorem d_90_14 : decode (g_m 90).2.1 14 = .ok (.iload 5, 2) := by decide +kernel
theorem d_90_16 : decode (g_m 90).2.1 16 = .ok (.iload 5, 2) := by decide +kernel
theorem d_90_18 : decode (g_m 90).2.1 18 = .ok (.iload_n 2, 1) := by decide +kernel
theorem d_90_19 : decode (g_m 90).2.1 19 = .ok (.if_icmp .ne (7), 3) := by decide +kernel
theorem d_90_22 : decode (g_m 90).2.1 22 = .ok (.iconst 1, 1) := by decide +kernel
theorem d_90_23 : decode (g_m 90).2.1 23 = .ok (.goto (4), 3) := by decide +kernel
theorem d_90_26 : decode (g_m 90).2.1 26 = .ok (.iconst 0, 1) := by decide +kernel
theorem d_90_27 : decode (g_m 90).2.1 27 = .ok (.bastore, 1) := by decide +kernel
theorem d_90_28 : decode (g_m 90).2.1 28 = .ok (.aload_n 0, 1) := by decide +kernel
theorem d_90_29 : decode (g_m 90).2.1 29 = .ok (.getfield 49, 3) := by decide +kernel
theorem d_90_32 : decode (g_m 90).2.1 32 = .ok (.iload 5, 2) := by decide +kernel
theorem d_90_34 : decode (g_m 90).2.1 34 = .ok (.iload 5, 2) := by decide +kernel
theorem d_90_36 : decode (g_m 90).2.1 36 = .ok (.iload_n 2, 1) := by decide +kernel
theorem d_90_37 : decode (g_m 90).2.1 37 = .ok (.if_icmp .ne (7), 3) := by decide +kernel
theorem d_90_40 : decode (g_m 90).2.1 40 = .ok (.iconst 1, 1) := by decide +kernel
theorem d_90_41 : decode (g_m 90).2.1 41 = .ok (.goto (4), 3) := by decide +kernel
theorem d_90_44 : decode (g_m 90).2.1 44 = .ok (.iconst 0, 1) := by decide +kernel
theorem d_90_45 : decode (g_m 90).2.1 45 = .ok (.bastore, 1) := by decide +kernel
theorem d_90_46 : decode (g_m 90).2.1 46 = .ok (.aload_n 0, 1) := by decide +kernel
theorem d_90_47 : decode (g_m 90).2.1 47 = .ok (.getfield 52, 3) := by decide +kernel
theorem d_90_50 : decode (g_m 90).2.1 50 = .ok (.iload 5, 2) := by decide +kernel
theorem d_90_52 : decode (g_m 90).2.1 52 = .ok (.iload 5, 2) := by decide +kernel
theorem d_90_54 : decode (g_m 90).2.1 54 = .ok (.iload_n 2, 1) := by decide +kernel
theorem d_90_55 : decode (g_m 90).2.1 55 = .ok (.if_icmp .ne (7), 3) := by decide +kernel
theorem d_90_58 : decode (g_m 90).2.1 58 = .ok (.iconst 1, 1) := by decide +kernel
theorem d_90_59 : decode (g_m 90).2.1 59 = .ok (.goto (4), 3) := by decide +kernel
theorem d_90_62 : decode (g_m 90).2.1 62 = .ok (.iconst 0, 1) := by decide +kernel
theorem d_90_63 : decode (g_m 90).2.1 63 = .ok (.bastore, 1) := by decide +kernel
theorem d_90_64 : decode (g_m 90).2.1 64 = .ok (.iinc 5 1, 3) := by decide +kernel
theorem d_90_67 : decode (g_m 90).2.1 67 = .ok (.goto (-64), 3) := by decide +kernel
theorem d_90_70 : decode (g_m 90).2.1 70 = .ok (.aload_n 0, 1) := by decide +kernel
theorem d_90_71 : decode (g_m 90).2.1 71 = .ok (.iconst 1, 1) := by decide +kernel
theorem d_90_72 : decode (g_m 90).2.1 72 = .ok (.putfield 103, 3) := by decide +kernel
theorem d_90_75 : decode (g_m 90).2.1 75 = .ok (.aload_n 0, 1) := by decide +kernel
theorem d_90_76 : decode (g_m 90).2.1 76 = .ok (.dup, 1) := by decide +kernel
theorem d_90_77 : decode (g_m 90).2.1 77 = .ok (.getfield 106, 3) := by decide +kernel
theorem d_90_80 : decode (g_m 90).2.1 80 = .ok (.iconst 1, 1) := by decide +kernel
theorem d_90_81 : decode (g_m 90).2.1 81 = .ok (.iadd, 1) := by decide +kernel
theorem d_90_82 : decode (g_m 90).2.1 82 = .ok (.putfield 106, 3) := by decide +kernel
theorem d_90_85 : decode (g_m 90).2.1 85 = .ok (.aload_n 0, 1) := by decide +kernel
theorem d_90_86 : decode (g_m 90).2.1 86 = .ok (.aload_n 0, 1) := by decide +kernel
theorem d_90_87 : decode (g_m 90).2.1 87 = .ok (.getfield 49, 3) := by decide +kernel
theorem d_90_90 : decode (g_m 90).2.1 90 = .ok (.iload_n 3, 1) := by decide +kernel
theorem d_90_91 : decode (g_m 90).2.1 91 = .ok (.iconst 1, 1) := by decide +kernel
theorem d_90_92 : decode (g_m 90).2.1 92 = .ok (.invokevirtual 109, 3) := by decide +kernel
theorem d_90_95 : decode (g_m 90).2.1 95 = .ok (.istore 5, 2) := by decide +kernel
theorem d_90_97 : decode (g_m 90).2.1 97 = .ok (.iload 5, 2) := by decide +kernel
theorem d_90_99 : decode (g_m 90).2.1 99 = .ok (.ifCond .lt (129), 3) := by decide +kernel
theorem d_90_102 : decode (g_m 90).2.1 102 = .ok (.aload_n 0, 1) := by decide +kernel
theorem d_90_103 : decode (g_m 90).2.1 103 = .ok (.getfield 49, 3) := by decide +kernel
theorem d_90_106 : decode (g_m 90).2.1 106 = .ok (.iload 5, 2) := by decide +kernel
theorem d_90_108 : decode (g_m 90).2.1 108 = .ok (.iconst 0, 1) := by decide +kernel
theorem d_90_109 : decode (g_m 90).2.1 109 = .ok (.bastore, 1) := by decide +kernel
theorem d_90_110 : decode (g_m 90).2.1 110 = .ok (.aload_n 0, 1) := by decide +kernel
theorem d_90_111 : decode (g_m 90).2.1 111 = .ok (.getfield 103, 3) := by decide +kernel
theorem d_90_114 : decode (g_m 90).2.1 114 = .ok (.iload 4, 2) := by decide +kernel
theorem d_90_116 : decode (g_m 90).2.1 116 = .ok (.if_icmp .ne (24), 3) := by decide +kernel
theorem d_90_119 : decode (g_m 90).2.1 119 = .ok (.aload_n 0, 1) := by decide +kernel
theorem d_90_120 : decode (g_m 90).2.1 120 = .ok (.iload_n 3, 1) := by decide +kernel
theorem d_90_121 : decode (g_m 90).2.1 121 = .ok (.aload_n 0, 1) := by decide +kernel
theorem d_90_122 : decode (g_m 90).2.1 122 = .ok (.aload_n 0, 1) := by decide +kernel
theorem d_90_123 : decode (g_m 90).2.1 123 = .ok (.getfield 52, 3) := by decide +kernel
theorem d_90_126 : decode (g_m 90).2.1 126 = .ok (.iload_n 3, 1) := by decide +kernel
theorem d_90_127 : decode (g_m 90).2.1 127 = .ok (.iconst 0, 1) := by decide +kernel
theorem d_90_128 : decode (g_m 90).2.1 128 = .ok (.invokevirtual 109, 3) := by decide +kernel
theorem d_90_131 : decode (g_m 90).2.1 131 = .ok (.iload 5, 2) := by decide +kernel
theorem d_90_133 : decode (g_m 90).2.1 133 = .ok (.invokevirtual 100, 3) := by decide +kernel
theorem d_90_136 : decode (g_m 90).2.1 136 = .ok (.ifCond .eq (4), 3) := by decide +kernel
theorem d_90_139 : decode (g_m 90).2.1 139 = .ok (.return_, 1) := by decide +kernel
theorem d_90_140 : decode (g_m 90).2.1 140 = .ok (.aload_n 0, 1) := by decide +kernel
theorem d_90_141 : decode (g_m 90).2.1 141 = .ok (.iload_n 1, 1) := by decide +kernel
theorem d_90_142 : decode (g_m 90).2.1 142 = .ok (.iload 5, 2) := by decide +kernel
theorem d_90_144 : decode (g_m 90).2.1 144 = .ok (.invokevirtual 113, 3) := by decide +kernel
theorem d_90_147 : decode (g_m 90).2.1 147 = .ok (.istore 6, 2) := by decide +kernel
theorem d_90_149 : decode (g_m 90).2.1 149 = .ok (.iconst 0, 1) := by decide +kernel
theorem d_90_150 : decode (g_m 90).2.1 150 = .ok (.istore 7, 2) := by decide +kernel
theorem d_90_152 : decode (g_m 90).2.1 152 = .ok (.iload 7, 2) := by decide +kernel
theorem d_90_154 : decode (g_m 90).2.1 154 = .ok (.iload 6, 2) := by decide +kernel
theorem d_90_156 : decode (g_m 90).2.1 156 = .ok (.if_icmp .ge (57), 3) := by decide +kernel
theorem d_90_159 : decode (g_m 90).2.1 159 = .ok (.aload_n 0, 1) := by decide +kernel
theorem d_90_160 : decode (g_m 90).2.1 160 = .ok (.iload_n 1, 1) := by decide +kernel
theorem d_90_161 : decode (g_m 90).2.1 161 = .ok (.iload 5, 2) := by decide +kernel
theorem d_90_163 : decode (g_m 90).2.1 163 = .ok (.iload 7, 2) := by decide +kernel
theorem d_90_165 : decode (g_m 90).2.1 165 = .ok (.invokevirtual 117, 3) := by decide +kernel
theorem d_90_168 : decode (g_m 90).2.1 168 = .ok (.istore 8, 2) := by decide +kernel
theorem d_90_170 : decode (g_m 90).2.1 170 = .ok (.aload_n 0, 1) := by decide +kernel
theorem d_90_171 : decode (g_m 90).2.1 171 = .ok (.getfield 46, 3) := by decide +kernel
theorem d_90_174 : decode (g_m 90).2.1 174 = .ok (.iload 8, 2) := by decide +kernel
theorem d_90_176 : decode (g_m 90).2.1 176 = .ok (.baload, 1) := by decide +kernel
theorem d_90_177 : decode (g_m 90).2.1 177 = .ok (.ifCond .ne (30), 3) := by decide +kernel
theorem d_90_180 : decode (g_m 90).2.1 180 = .ok (.aload_n 0, 1) := by decide +kernel
theorem d_90_181 : decode (g_m 90).2.1 181 = .ok (.getfield 46, 3) := by decide +kernel
theorem d_90_184 : decode (g_m 90).2.1 184 = .ok (.iload 8, 2) := by decide +kernel
theorem d_90_186 : decode (g_m 90).2.1 186 = .ok (.iconst 1, 1) := by decide +kernel
theorem d_90_187 : decode (g_m 90).2.1 187 = .ok (.bastore, 1) := by decide +kernel
theorem d_90_188 : decode (g_m 90).2.1 188 = .ok (.aload_n 0, 1) := by decide +kernel
theorem d_90_189 : decode (g_m 90).2.1 189 = .ok (.dup, 1) := by decide +kernel
theorem d_90_190 : decode (g_m 90).2.1 190 = .ok (.getfield 106, 3) := by decide +kernel
theorem d_90_193 : decode (g_m 90).2.1 193 = .ok (.iconst 1, 1) := by decide +kernel
theorem d_90_194 : decode (g_m 90).2.1 194 = .ok (.iadd, 1) := by decide +kernel
theorem d_90_195 : decode (g_m 90).2.1 195 = .ok (.putfield 106, 3) := by decide +kernel
theorem d_90_198 : decode (g_m 90).2.1 198 = .ok (.aload_n 0, 1) := by decide +kernel
theorem d_90_199 : decode (g_m 90).2.1 199 = .ok (.iload 8, 2) := by decide +kernel
theorem d_90_201 : decode (g_m 90).2.1 201 = .ok (.iload_n 3, 1) := by decide +kernel
theorem d_90_202 : decode (g_m 90).2.1 202 = .ok (.iload 4, 2) := by decide +kernel
theorem d_90_204 : decode (g_m 90).2.1 204 = .ok (.invokevirtual 120, 3) := by decide +kernel
theorem d_90_207 : decode (g_m 90).2.1 207 = .ok (.iinc 7 1, 3) := by decide +kernel
theorem d_90_210 : decode (g_m 90).2.1 210 = .ok (.goto (-58), 3) := by decide +kernel
theorem d_90_213 : decode (g_m 90).2.1 213 = .ok (.aload_n 0, 1) := by decide +kernel
theorem d_90_214 : decode (g_m 90).2.1 214 = .ok (.aload_n 0, 1) := by decide +kernel
theorem d_90_215 : decode (g_m 90).2.1 215 = .ok (.getfield 49, 3) := by decide +kernel
theorem d_90_218 : decode (g_m 90).2.1 218 = .ok (.iload_n 3, 1) := by decide +kernel
theorem d_90_219 : decode (g_m 90).2.1 219 = .ok (.iconst 1, 1) := by decide +kernel
theorem d_90_220 : decode (g_m 90).2.1 220 = .ok (.invokevirtual 109, 3) := by decide +kernel
theorem d_90_223 : decode (g_m 90).2.1 223 = .ok (.istore 5, 2) := by decide +kernel
theorem d_90_225 : decode (g_m 90).2.1 225 = .ok (.goto (-128), 3) := by decide +kernel
theorem d_90_228 : decode (g_m 90).2.1 228 = .ok (.return_, 1) := by decide +kernel
theorem d_91_0 : decode (g_m 91).2.1 0 = .ok (.iconst 0, 1) := by decide +kernel
theorem d_91_1 : decode (g_m 91).2.1 1 = .ok (.istore_n 3, 1) := by decide +kernel
theorem d_91_2 : decode (g_m 91).2.1 2 = .ok (.iconst 0, 1) := by decide +kernel
theorem d_91_3 : decode (g_m 91).2.1 3 = .ok (.istore 4, 2) := by decide +kernel
theorem d_91_5 : decode (g_m 91).2.1 5 = .ok (.iload 4, 2) := by decide +kernel
theorem d_91_7 : decode (g_m 91).2.1 7 = .ok (.aload_n 0, 1) := by decide +kernel
theorem d_91_8 : decode (g_m 91).2.1 8 = .ok (.getfield 76, 3) := by decide +kernel
theorem d_91_11 : decode (g_m 91).2.1 11 = .ok (.if_icmp .ge (28), 3) := by decide +kernel
theorem d_91_14 : decode (g_m 91).2.1 14 = .ok (.aload_n 0, 1) := by decide +kernel
theorem d_91_15 : decode (g_m 91).2.1 15 = .ok (.iload_n 1, 1) := by decide +kernel
theorem d_91_16 : decode (g_m 91).2.1 16 = .ok (.iload_n 2, 1) := by decide +kernel
theorem d_91_17 : decode (g_m 91).2.1 17 = .ok (.iload 4, 2) := by decide +kernel
theorem d_91_19 : decode (g_m 91).2.1 19 = .ok (.invokevirtual 96, 3) := by decide +kernel
theorem d_91_22 : decode (g_m 91).2.1 22 = .ok (.ifCond .eq (9), 3) := by decide +kernel
theorem d_91_25 : decode (g_m 91).2.1 25 = .ok (.iload_n 3, 1) := by decide +kernel
theorem d_91_26 : decode (g_m 91).2.1 26 = .ok (.iconst 1, 1) := by decide +kernel
theorem d_91_27 : decode (g_m 91).2.1 27 = .ok (.iadd, 1) := by decide +kernel
theorem d_91_28 : decode (g_m 91).2.1 28 = .ok (.goto (4), 3) := by decide +kernel
theorem d_91_31 : decode (g_m 91).2.1 31 = .ok (.iload_n 3, 1) := by decide +kernel
theorem d_91_32 : decode (g_m 91).2.1 32 = .ok (.istore_n 3, 1) := by decide +kernel
theorem d_91_33 : decode (g_m 91).2.1 33 = .ok (.iinc 4 1, 3) := by decide +kernel
theorem d_91_36 : decode (g_m 91).2.1 36 = .ok (.goto (-31), 3) := by decide +kernel
theorem d_91_39 : decode (g_m 91).2.1 39 = .ok (.iload_n 3, 1) := by decide +kernel
theorem d_91_40 : decode (g_m 91).2.1 40 = .ok (.ireturn, 1) := by decide +kernel
theorem d_92_0 : decode (g_m 92).2.1 0 = .ok (.aload_n 0, 1) := by decide +kernel
theorem d_92_1 : decode (g_m 92).2.1 1 = .ok (.getfield 37, 3) := by decide +kernel
theorem d_92_4 : decode (g_m 92).2.1 4 = .ok (.sipush 10000, 3) := by decide +kernel
theorem d_92_7 : decode (g_m 92).2.1 7 = .ok (.iload_n 1, 1) := by decide +kernel
theorem d_92_8 : decode (g_m 92).2.1 8 = .ok (.imul, 1) := by decide +kernel
theorem d_92_9 : decode (g_m 92).2.1 9 = .ok (.bipush 100, 2) := by decide +kernel
theorem d_92_11 : decode (g_m 92).2.1 11 = .ok (.iload_n 2, 1) := by decide +kernel
theorem d_92_12 : decode (g_m 92).2.1 12 = .ok (.imul, 1) := by decide +kernel
theorem d_92_13 : decode (g_m 92).2.1 13 = .ok (.iadd, 1) := by decide +kernel
theorem d_92_14 : decode (g_m 92).2.1 14 = .ok (.iload_n 3, 1) := by decide +kernel
theorem d_92_15 : decode (g_m 92).2.1 15 = .ok (.iadd, 1) := by decide +kernel
theorem d_92_16 : decode (g_m 92).2.1 16 = .ok (.baload, 1) := by decide +kernel
theorem d_92_17 : decode (g_m 92).2.1 17 = .ok (.ireturn, 1) := by decide +kernel
theorem d_93_0 : decode (g_m 93).2.1 0 = .ok (.iconst 0, 1) := by decide +kernel
theorem d_93_1 : decode (g_m 93).2.1 1 = .ok (.istore 4, 2) := by decide +kernel
theorem d_93_3 : decode (g_m 93).2.1 3 = .ok (.iload 4, 2) := by decide +kernel
theorem d_93_5 : decode (g_m 93).2.1 5 = .ok (.aload_n 0, 1) := by decide +kernel
theorem d_93_6 : decode (g_m 93).2.1 6 = .ok (.getfield 76, 3) := by decide +kernel
theorem d_93_9 : decode (g_m 93).2.1 9 = .ok (.if_icmp .ge (84), 3) := by decide +kernel
theorem d_93_12 : decode (g_m 93).2.1 12 = .ok (.aload_n 0, 1) := by decide +kernel
theorem d_93_13 : decode (g_m 93).2.1 13 = .ok (.iload_n 1, 1) := by decide +kernel
theorem d_93_14 : decode (g_m 93).2.1 14 = .ok (.iload_n 2, 1) := by decide +kernel
theorem d_93_15 : decode (g_m 93).2.1 15 = .ok (.iload 4, 2) := by decide +kernel
theorem d_93_17 : decode (g_m 93).2.1 17 = .ok (.invokevirtual 96, 3) := by decide +kernel
theorem d_93_20 : decode (g_m 93).2.1 20 = .ok (.ifCond .eq (67), 3) := by decide +kernel
theorem d_93_23 : decode (g_m 93).2.1 23 = .ok (.iconst 0, 1) := by decide +kernel
theorem d_93_24 : decode (g_m 93).2.1 24 = .ok (.istore 5, 2) := by decide +kernel
theorem d_93_26 : decode (g_m 93).2.1 26 = .ok (.iconst 0, 1) := by decide +kernel
theorem d_93_27 : decode (g_m 93).2.1 27 = .ok (.istore 6, 2) := by decide +kernel
theorem d_93_29 : decode (g_m 93).2.1 29 = .ok (.iload 6, 2) := by decide +kernel
theorem d_93_31 : decode (g_m 93).2.1 31 = .ok (.aload_n 0, 1) := by decide +kernel
theorem d_93_32 : decode (g_m 93).2.1 32 = .ok (.getfield 76, 3) := by decide +kernel
theorem d_93_35 : decode (g_m 93).2.1 35 = .ok (.if_icmp .ge (43), 3) := by decide +kernel
theorem d_93_38 : decode (g_m 93).2.1 38 = .ok (.aload_n 0, 1) := by decide +kernel
theorem d_93_39 : decode (g_m 93).2.1 39 = .ok (.iload_n 1, 1) := by decide +kernel
theorem d_93_40 : decode (g_m 93).2.1 40 = .ok (.iload_n 2, 1) := by decide +kernel
theorem d_93_41 : decode (g_m 93).2.1 41 = .ok (.iload 6, 2) := by decide +kernel
theorem d_93_43 : decode (g_m 93).2.1 43 = .ok (.invokevirtual 96, 3) := by decide +kernel
theorem d_93_46 : decode (g_m 93).2.1 46 = .ok (.ifCond .eq (22), 3) := by decide +kernel
theorem d_93_49 : decode (g_m 93).2.1 49 = .ok (.aload_n 0, 1) := by decide +kernel
theorem d_93_50 : decode (g_m 93).2.1 50 = .ok (.iload_n 2, 1) := by decide +kernel
theorem d_93_51 : decode (g_m 93).2.1 51 = .ok (.iload 6, 2) := by decide +kernel
theorem d_93_53 : decode (g_m 93).2.1 53 = .ok (.iload 4, 2) := by decide +kernel
theorem d_93_55 : decode (g_m 93).2.1 55 = .ok (.invokevirtual 100, 3) := by decide +kernel
theorem d_93_58 : decode (g_m 93).2.1 58 = .ok (.ifCond .eq (10), 3) := by decide +kernel
theorem d_93_61 : decode (g_m 93).2.1 61 = .ok (.iload 5, 2) := by decide +kernel
theorem d_93_63 : decode (g_m 93).2.1 63 = .ok (.iconst 1, 1) := by decide +kernel
theorem d_93_64 : decode (g_m 93).2.1 64 = .ok (.iadd, 1) := by decide +kernel
theorem d_93_65 : decode (g_m 93).2.1 65 = .ok (.goto (5), 3) := by decide +kernel
theorem d_93_68 : decode (g_m 93).2.1 68 = .ok (.iload 5, 2) := by decide +kernel
theorem d_93_70 : decode (g_m 93).2.1 70 = .ok (.istore 5, 2) := by decide +kernel
theorem d_93_72 : decode (g_m 93).2.1 72 = .ok (.iinc 6 1, 3) := by decide +kernel
theorem d_93_75 : decode (g_m 93).2.1 75 = .ok (.goto (-46), 3) := by decide +kernel
theorem d_93_78 : decode (g_m 93).2.1 78 = .ok (.iload 5, 2) := by decide +kernel
theorem d_93_80 : decode (g_m 93).2.1 80 = .ok (.iload_n 3, 1) := by decide +kernel
theorem d_93_81 : decode (g_m 93).2.1 81 = .ok (.if_icmp .ne (6), 3) := by decide +kernel
theorem d_93_84 : decode (g_m 93).2.1 84 = .ok (.iload 4, 2) := by decide +kernel
theorem d_93_86 : decode (g_m 93).2.1 86 = .ok (.ireturn, 1) := by decide +kernel
theorem d_93_87 : decode (g_m 93).2.1 87 = .ok (.iinc 4 1, 3) := by decide +kernel
theorem d_93_90 : decode (g_m 93).2.1 90 = .ok (.goto (-87), 3) := by decide +kernel
theorem d_93_93 : decode (g_m 93).2.1 93 = .ok (.bipush (-2), 2) := by decide +kernel
theorem d_93_95 : decode (g_m 93).2.1 95 = .ok (.ireturn, 1) := by decide +kernel
theorem d_94_0 : decode (g_m 94).2.1 0 = .ok (.aload_n 0, 1) := by decide +kernel
theorem d_94_1 : decode (g_m 94).2.1 1 = .ok (.getfield 103, 3) := by decide +kernel
theorem d_94_4 : decode (g_m 94).2.1 4 = .ok (.iload_n 3, 1) := by decide +kernel
theorem d_94_5 : decode (g_m 94).2.1 5 = .ok (.if_icmp .lt (22), 3) := by decide +kernel
theorem d_94_8 : decode (g_m 94).2.1 8 = .ok (.aload_n 0, 1) := by decide +kernel
theorem d_94_9 : decode (g_m 94).2.1 9 = .ok (.iload_n 2, 1) := by decide +kernel
theorem d_94_10 : decode (g_m 94).2.1 10 = .ok (.iload_n 1, 1) := by decide +kernel
theorem d_94_11 : decode (g_m 94).2.1 11 = .ok (.aload_n 0, 1) := by decide +kernel
theorem d_94_12 : decode (g_m 94).2.1 12 = .ok (.aload_n 0, 1) := by decide +kernel
theorem d_94_13 : decode (g_m 94).2.1 13 = .ok (.getfield 52, 3) := by decide +kernel
theorem d_94_16 : decode (g_m 94).2.1 16 = .ok (.iload_n 2, 1) := by decide +kernel
theorem d_94_17 : decode (g_m 94).2.1 17 = .ok (.iconst 0, 1) := by decide +kernel
theorem d_94_18 : decode (g_m 94).2.1 18 = .ok (.invokevirtual 109, 3) := by decide +kernel
theorem d_94_21 : decode (g_m 94).2.1 21 = .ok (.invokevirtual 100, 3) := by decide +kernel
theorem d_94_24 : decode (g_m 94).2.1 24 = .ok (.ifCond .eq (61), 3) := by decide +kernel
theorem d_94_27 : decode (g_m 94).2.1 27 = .ok (.aload_n 0, 1) := by decide +kernel
theorem d_94_28 : decode (g_m 94).2.1 28 = .ok (.getfield 52, 3) := by decide +kernel
theorem d_94_31 : decode (g_m 94).2.1 31 = .ok (.iload_n 1, 1) := by decide +kernel
theorem d_94_32 : decode (g_m 94).2.1 32 = .ok (.iconst 1, 1) := by decide +kernel
theorem d_94_33 : decode (g_m 94).2.1 33 = .ok (.bastore, 1) := by decide +kernel
theorem d_94_34 : decode (g_m 94).2.1 34 = .ok (.aload_n 0, 1) := by decide +kernel
theorem d_94_35 : decode (g_m 94).2.1 35 = .ok (.getfield 49, 3) := by decide +kernel
theorem d_94_38 : decode (g_m 94).2.1 38 = .ok (.iload_n 1, 1) := by decide +kernel
theorem d_94_39 : decode (g_m 94).2.1 39 = .ok (.iconst 1, 1) := by decide +kernel
theorem d_94_40 : decode (g_m 94).2.1 40 = .ok (.bastore, 1) := by decide +kernel
theorem d_94_41 : decode (g_m 94).2.1 41 = .ok (.aload_n 0, 1) := by decide +kernel
theorem d_94_42 : decode (g_m 94).2.1 42 = .ok (.dup, 1) := by decide +kernel
theorem d_94_43 : decode (g_m 94).2.1 43 = .ok (.getfield 103, 3) := by decide +kernel
theorem d_94_46 : decode (g_m 94).2.1 46 = .ok (.iconst 1, 1) := by decide +kernel
theorem d_94_47 : decode (g_m 94).2.1 47 = .ok (.iadd, 1) := by decide +kernel
theorem d_94_48 : decode (g_m 94).2.1 48 = .ok (.putfield 103, 3) := by decide +kernel
theorem d_94_51 : decode (g_m 94).2.1 51 = .ok (.aload_n 0, 1) := by decide +kernel
theorem d_94_52 : decode (g_m 94).2.1 52 = .ok (.getfield 103, 3) := by decide +kernel
theorem d_94_55 : decode (g_m 94).2.1 55 = .ok (.iload_n 3, 1) := by decide +kernel
theorem d_94_56 : decode (g_m 94).2.1 56 = .ok (.if_icmp .le (29), 3) := by decide +kernel
theorem d_94_59 : decode (g_m 94).2.1 59 = .ok (.aload_n 0, 1) := by decide +kernel
theorem d_94_60 : decode (g_m 94).2.1 60 = .ok (.getfield 52, 3) := by decide +kernel
theorem d_94_63 : decode (g_m 94).2.1 63 = .ok (.aload_n 0, 1) := by decide +kernel
theorem d_94_64 : decode (g_m 94).2.1 64 = .ok (.aload_n 0, 1) := by decide +kernel
theorem d_94_65 : decode (g_m 94).2.1 65 = .ok (.getfield 52, 3) := by decide +kernel
theorem d_94_68 : decode (g_m 94).2.1 68 = .ok (.iload_n 2, 1) := by decide +kernel
theorem d_94_69 : decode (g_m 94).2.1 69 = .ok (.iconst 0, 1) := by decide +kernel
theorem d_94_70 : decode (g_m 94).2.1 70 = .ok (.invokevirtual 109, 3) := by decide +kernel
theorem d_94_73 : decode (g_m 94).2.1 73 = .ok (.iconst 0, 1) := by decide +kernel
theorem d_94_74 : decode (g_m 94).2.1 74 = .ok (.bastore, 1) := by decide +kernel
theorem d_94_75 : decode (g_m 94).2.1 75 = .ok (.aload_n 0, 1) := by decide +kernel
theorem d_94_76 : decode (g_m 94).2.1 76 = .ok (.dup, 1) := by decide +kernel
theorem d_94_77 : decode (g_m 94).2.1 77 = .ok (.getfield 103, 3) := by decide +kernel
theorem d_94_80 : decode (g_m 94).2.1 80 = .ok (.iconst 1, 1) := by decide +kernel
theorem d_94_81 : decode (g_m 94).2.1 81 = .ok (.isub, 1) := by decide +kernel
theorem d_94_82 : decode (g_m 94).2.1 82 = .ok (.putfield 103, 3) := by decide +kernel
theorem d_94_85 : decode (g_m 94).2.1 85 = .ok (.return_, 1) := by decide +kernel
theorem d_95_0 : decode (g_m 95).2.1 0 = .ok (.iload_n 1, 1) := by decide +kernel
theorem d_95_1 : decode (g_m 95).2.1 1 = .ok (.ifCond .ne (12), 3) := by decide +kernel
theorem d_95_4 : decode (g_m 95).2.1 4 = .ok (.iconst 2, 1) := by decide +kernel
theorem d_95_5 : decode (g_m 95).2.1 5 = .ok (.aload_n 0, 1) := by decide +kernel
theorem d_95_6 : decode (g_m 95).2.1 6 = .ok (.getfield 13, 3) := by decide +kernel
theorem d_95_9 : decode (g_m 95).2.1 9 = .ok (.imul, 1) := by decide +kernel
theorem d_95_10 : decode (g_m 95).2.1 10 = .ok (.goto (7), 3) := by decide +kernel
theorem d_95_13 : decode (g_m 95).2.1 13 = .ok (.aload_n 0, 1) := by decide +kernel
theorem d_95_14 : decode (g_m 95).2.1 14 = .ok (.getfield 13, 3) := by decide +kernel
theorem d_95_17 : decode (g_m 95).2.1 17 = .ok (.istore_n 3, 1) := by decide +kernel
theorem d_95_18 : decode (g_m 95).2.1 18 = .ok (.iconst 0, 1) := by decide +kernel
theorem d_95_19 : decode (g_m 95).2.1 19 = .ok (.istore 4, 2) := by decide +kernel
theorem d_95_21 : decode (g_m 95).2.1 21 = .ok (.iload 4, 2) := by decide +kernel
theorem d_95_23 : decode (g_m 95).2.1 23 = .ok (.bipush 100, 2) := by decide +kernel
theorem d_95_25 : decode (g_m 95).2.1 25 = .ok (.if_icmp .ge (23), 3) := by decide +kernel
theorem d_95_28 : decode (g_m 95).2.1 28 = .ok (.aload_n 0, 1) := by decide +kernel
theorem d_95_29 : decode (g_m 95).2.1 29 = .ok (.getfield 55, 3) := by decide +kernel
theorem d_95_32 : decode (g_m 95).2.1 32 = .ok (.iload 4, 2) := by decide +kernel
theorem d_95_34 : decode (g_m 95).2.1 34 = .ok (.aload_n 0, 1) := by decide +kernel
theorem d_95_35 : decode (g_m 95).2.1 35 = .ok (.getfield 52, 3) := by decide +kernel
theorem d_95_38 : decode (g_m 95).2.1 38 = .ok (.iload 4, 2) := by decide +kernel
theorem d_95_40 : decode (g_m 95).2.1 40 = .ok (.baload, 1) := by decide +kernel
theorem d_95_41 : decode (g_m 95).2.1 41 = .ok (.bastore, 1) := by decide +kernel
theorem d_95_42 : decode (g_m 95).2.1 42 = .ok (.iinc 4 1, 3) := by decide +kernel
theorem d_95_45 : decode (g_m 95).2.1 45 = .ok (.goto (-24), 3) := by decide +kernel
theorem d_95_48 : decode (g_m 95).2.1 48 = .ok (.aload_n 0, 1) := by decide +kernel
theorem d_95_49 : decode (g_m 95).2.1 49 = .ok (.iload_n 2, 1) := by decide +kernel
theorem d_95_50 : decode (g_m 95).2.1 50 = .ok (.iload_n 3, 1) := by decide +kernel
theorem d_95_51 : decode (g_m 95).2.1 51 = .ok (.invokevirtual 124, 3) := by decide +kernel
theorem d_95_54 : decode (g_m 95).2.1 54 = .ok (.iconst 0, 1) := by decide +kernel
theorem d_95_55 : decode (g_m 95).2.1 55 = .ok (.istore 4, 2) := by decide +kernel
theorem d_95_57 : decode (g_m 95).2.1 57 = .ok (.iload 4, 2) := by decide +kernel
theorem d_95_59 : decode (g_m 95).2.1 59 = .ok (.aload_n 0, 1) := by decide +kernel
theorem d_95_60 : decode (g_m 95).2.1 60 = .ok (.getfield 76, 3) := by decide +kernel
theorem d_95_63 : decode (g_m 95).2.1 63 = .ok (.if_icmp .ge (24), 3) := by decide +kernel
theorem d_95_66 : decode (g_m 95).2.1 66 = .ok (.aload_n 0, 1) := by decide +kernel
theorem d_95_67 : decode (g_m 95).2.1 67 = .ok (.iload_n 1, 1) := by decide +kernel
theorem d_95_68 : decode (g_m 95).2.1 68 = .ok (.iload_n 2, 1) := by decide +kernel
theorem d_95_69 : decode (g_m 95).2.1 69 = .ok (.iload 4, 2) := by decide +kernel
theorem d_95_71 : decode (g_m 95).2.1 71 = .ok (.aload_n 0, 1) := by decide +kernel
theorem d_95_72 : decode (g_m 95).2.1 72 = .ok (.getfield 58, 3) := by decide +kernel
theorem d_95_75 : decode (g_m 95).2.1 75 = .ok (.iload 4, 2) := by decide +kernel
theorem d_95_77 : decode (g_m 95).2.1 77 = .ok (.baload, 1) := by decide +kernel
theorem d_95_78 : decode (g_m 95).2.1 78 = .ok (.invokevirtual 128, 3) := by decide +kernel
theorem d_95_81 : decode (g_m 95).2.1 81 = .ok (.iinc 4 1, 3) := by decide +kernel
theorem d_95_84 : decode (g_m 95).2.1 84 = .ok (.goto (-27), 3) := by decide +kernel
theorem d_95_87 : decode (g_m 95).2.1 87 = .ok (.iconst 0, 1) := by decide +kernel
theorem d_95_88 : decode (g_m 95).2.1 88 = .ok (.istore 4, 2) := by decide +kernel
theorem d_95_90 : decode (g_m 95).2.1 90 = .ok (.iload 4, 2) := by decide +kernel
theorem d_95_92 : decode (g_m 95).2.1 92 = .ok (.aload_n 0, 1) := by decide +kernel
theorem d_95_93 : decode (g_m 95).2.1 93 = .ok (.getfield 76, 3) := by decide +kernel
theorem d_95_96 : decode (g_m 95).2.1 96 = .ok (.if_icmp .ge (115), 3) := by decide +kernel
theorem d_95_99 : decode (g_m 95).2.1 99 = .ok (.aload_n 0, 1) := by decide +kernel
theorem d_95_100 : decode (g_m 95).2.1 100 = .ok (.iload_n 1, 1) := by decide +kernel
theorem d_95_101 : decode (g_m 95).2.1 101 = .ok (.iload_n 2, 1) := by decide +kernel
theorem d_95_102 : decode (g_m 95).2.1 102 = .ok (.iload 4, 2) := by decide +kernel
theorem d_95_104 : decode (g_m 95).2.1 104 = .ok (.invokevirtual 96, 3) := by decide +kernel
theorem d_95_107 : decode (g_m 95).2.1 107 = .ok (.ifCond .eq (98), 3) := by decide +kernel
theorem d_95_110 : decode (g_m 95).2.1 110 = .ok (.aload_n 0, 1) := by decide +kernel
theorem d_95_111 : decode (g_m 95).2.1 111 = .ok (.iload_n 1, 1) := by decide +kernel
theorem d_95_112 : decode (g_m 95).2.1 112 = .ok (.iload 4, 2) := by decide +kernel
theorem d_95_114 : decode (g_m 95).2.1 114 = .ok (.iload_n 2, 1) := by decide +kernel
theorem d_95_115 : decode (g_m 95).2.1 115 = .ok (.iconst 1, 1) := by decide +kernel
theorem d_95_116 : decode (g_m 95).2.1 116 = .ok (.invokevirtual 128, 3) := by decide +kernel
theorem d_95_119 : decode (g_m 95).2.1 119 = .ok (.aload_n 0, 1) := by decide +kernel
theorem d_95_120 : decode (g_m 95).2.1 120 = .ok (.iload_n 1, 1) := by decide +kernel
theorem d_95_121 : decode (g_m 95).2.1 121 = .ok (.iload 4, 2) := by decide +kernel
theorem d_95_123 : decode (g_m 95).2.1 123 = .ok (.invokevirtual 113, 3) := by decide +kernel
theorem d_95_126 : decode (g_m 95).2.1 126 = .ok (.iload_n 3, 1) := by decide +kernel
theorem d_95_127 : decode (g_m 95).2.1 127 = .ok (.if_icmp .le (78), 3) := by decide +kernel
theorem d_95_130 : decode (g_m 95).2.1 130 = .ok (.iconst 0, 1) := by decide +kernel
theorem d_95_131 : decode (g_m 95).2.1 131 = .ok (.istore 5, 2) := by decide +kernel
theorem d_95_133 : decode (g_m 95).2.1 133 = .ok (.iload 5, 2) := by decide +kernel
theorem d_95_135 : decode (g_m 95).2.1 135 = .ok (.aload_n 0, 1) := by decide +kernel
theorem d_95_136 : decode (g_m 95).2.1 136 = .ok (.getfield 76, 3) := by decide +kernel
theorem d_95_139 : decode (g_m 95).2.1 139 = .ok (.if_icmp .ge (25), 3) := by decide +kernel
theorem d_95_142 : decode (g_m 95).2.1 142 = .ok (.aload_n 0, 1) := by decide +kernel
theorem d_95_143 : decode (g_m 95).2.1 143 = .ok (.getfield 55, 3) := by decide +kernel
theorem d_95_146 : decode (g_m 95).2.1 146 = .ok (.iload 5, 2) := by decide +kernel
theorem d_95_148 : decode (g_m 95).2.1 148 = .ok (.aload_n 0, 1) := by decide +kernel
theorem d_95_149 : decode (g_m 95).2.1 149 = .ok (.iload_n 1, 1) := by decide +kernel
theorem d_95_150 : decode (g_m 95).2.1 150 = .ok (.iload 4, 2) := by decide +kernel
theorem d_95_152 : decode (g_m 95).2.1 152 = .ok (.iload 5, 2) := by decide +kernel
theorem d_95_154 : decode (g_m 95).2.1 154 = .ok (.invokevirtual 96, 3) := by decide +kernel
theorem d_95_157 : decode (g_m 95).2.1 157 = .ok (.bastore, 1) := by decide +kernel
theorem d_95_158 : decode (g_m 95).2.1 158 = .ok (.iinc 5 1, 3) := by decide +kernel
theorem d_95_161 : decode (g_m 95).2.1 161 = .ok (.goto (-28), 3) := by decide +kernel
theorem d_95_164 : decode (g_m 95).2.1 164 = .ok (.aload_n 0, 1) := by decide +kernel
theorem d_95_165 : decode (g_m 95).2.1 165 = .ok (.iload 4, 2) := by decide +kernel
theorem d_95_167 : decode (g_m 95).2.1 167 = .ok (.iload_n 3, 1) := by decide +kernel
theorem d_95_168 : decode (g_m 95).2.1 168 = .ok (.invokevirtual 124, 3) := by decide +kernel
theorem d_95_171 : decode (g_m 95).2.1 171 = .ok (.iconst 0, 1) := by decide +kernel
theorem d_95_172 : decode (g_m 95).2.1 172 = .ok (.istore 5, 2) := by decide +kernel
theorem d_95_174 : decode (g_m 95).2.1 174 = .ok (.iload 5, 2) := by decide +kernel
theorem d_95_176 : decode (g_m 95).2.1 176 = .ok (.aload_n 0, 1) := by decide +kernel
theorem d_95_177 : decode (g_m 95).2.1 177 = .ok (.getfield 76, 3) := by decide +kernel
theorem d_95_180 : decode (g_m 95).2.1 180 = .ok (.if_icmp .ge (25), 3) := by decide +kernel
theorem d_95_183 : decode (g_m 95).2.1 183 = .ok (.aload_n 0, 1) := by decide +kernel
theorem d_95_184 : decode (g_m 95).2.1 184 = .ok (.iload_n 1, 1) := by decide +kernel
theorem d_95_185 : decode (g_m 95).2.1 185 = .ok (.iload 4, 2) := by decide +kernel
theorem d_95_187 : decode (g_m 95).2.1 187 = .ok (.iload 5, 2) := by decide +kernel
theorem d_95_189 : decode (g_m 95).2.1 189 = .ok (.aload_n 0, 1) := by decide +kernel
theorem d_95_190 : decode (g_m 95).2.1 190 = .ok (.getfield 58, 3) := by decide +kernel
theorem d_95_193 : decode (g_m 95).2.1 193 = .ok (.iload 5, 2) := by decide +kernel
theorem d_95_195 : decode (g_m 95).2.1 195 = .ok (.baload, 1) := by decide +kernel
theorem d_95_196 : decode (g_m 95).2.1 196 = .ok (.invokevirtual 128, 3) := by decide +kernel
theorem d_95_199 : decode (g_m 95).2.1 199 = .ok (.iinc 5 1, 3) := by decide +kernel
theorem d_95_202 : decode (g_m 95).2.1 202 = .ok (.goto (-28), 3) := by decide +kernel
theorem d_95_205 : decode (g_m 95).2.1 205 = .ok (.iinc 4 1, 3) := by decide +kernel
theorem d_95_208 : decode (g_m 95).2.1 208 = .ok (.goto (-118), 3) := by decide +kernel
theorem d_95_211 : decode (g_m 95).2.1 211 = .ok (.return_, 1) := by decide +kernel
theorem d_96_0 : decode (g_m 96).2.1 0 = .ok (.iconst 0, 1) := by decide +kernel
theorem d_96_1 : decode (g_m 96).2.1 1 = .ok (.istore_n 3, 1) := by decide +kernel
theorem d_96_2 : decode (g_m 96).2.1 2 = .ok (.iload_n 3, 1) := by decide +kernel
theorem d_96_3 : decode (g_m 96).2.1 3 = .ok (.bipush 100, 2) := by decide +kernel
theorem d_96_5 : decode (g_m 96).2.1 5 = .ok (.if_icmp .ge (16), 3) := by decide +kernel
theorem d_96_8 : decode (g_m 96).2.1 8 = .ok (.aload_n 0, 1) := by decide +kernel
theorem d_96_9 : decode (g_m 96).2.1 9 = .ok (.getfield 58, 3) := by decide +kernel
theorem d_96_12 : decode (g_m 96).2.1 12 = .ok (.iload_n 3, 1) := by decide +kernel
theorem d_96_13 : decode (g_m 96).2.1 13 = .ok (.iconst 0, 1) := by decide +kernel
theorem d_96_14 : decode (g_m 96).2.1 14 = .ok (.bastore, 1) := by decide +kernel
theorem d_96_15 : decode (g_m 96).2.1 15 = .ok (.iinc 3 1, 3) := by decide +kernel
theorem d_96_18 : decode (g_m 96).2.1 18 = .ok (.goto (-16), 3) := by decide +kernel
theorem d_96_21 : decode (g_m 96).2.1 21 = .ok (.iconst 0, 1) := by decide +kernel
theorem d_96_22 : decode (g_m 96).2.1 22 = .ok (.istore_n 3, 1) := by decide +kernel
theorem d_96_23 : decode (g_m 96).2.1 23 = .ok (.aload_n 0, 1) := by decide +kernel
theorem d_96_24 : decode (g_m 96).2.1 24 = .ok (.aload_n 0, 1) := by decide +kernel
theorem d_96_25 : decode (g_m 96).2.1 25 = .ok (.getfield 55, 3) := by decide +kernel
theorem d_96_28 : decode (g_m 96).2.1 28 = .ok (.iload_n 1, 1) := by decide +kernel
theorem d_96_29 : decode (g_m 96).2.1 29 = .ok (.iconst 1, 1) := by decide +kernel
theorem d_96_30 : decode (g_m 96).2.1 30 = .ok (.invokevirtual 109, 3) := by decide +kernel
theorem d_96_33 : decode (g_m 96).2.1 33 = .ok (.istore 4, 2) := by decide +kernel
theorem d_96_35 : decode (g_m 96).2.1 35 = .ok (.iload 4, 2) := by decide +kernel
theorem d_96_37 : decode (g_m 96).2.1 37 = .ok (.ifCond .lt (136), 3) := by decide +kernel
theorem d_96_40 : decode (g_m 96).2.1 40 = .ok (.aload_n 0, 1) := by decide +kernel
theorem d_96_41 : decode (g_m 96).2.1 41 = .ok (.getfield 55, 3) := by decide +kernel
theorem d_96_44 : decode (g_m 96).2.1 44 = .ok (.iload 4, 2) := by decide +kernel
theorem d_96_46 : decode (g_m 96).2.1 46 = .ok (.iconst 0, 1) := by decide +kernel
theorem d_96_47 : decode (g_m 96).2.1 47 = .ok (.bastore, 1) := by decide +kernel
theorem d_96_48 : decode (g_m 96).2.1 48 = .ok (.iload_n 3, 1) := by decide +kernel
theorem d_96_49 : decode (g_m 96).2.1 49 = .ok (.iload_n 2, 1) := by decide +kernel
theorem d_96_50 : decode (g_m 96).2.1 50 = .ok (.if_icmp .ge (7), 3) := by decide +kernel
theorem d_96_53 : decode (g_m 96).2.1 53 = .ok (.iconst 1, 1) := by decide +kernel
theorem d_96_54 : decode (g_m 96).2.1 54 = .ok (.goto (4), 3) := by decide +kernel
theorem d_96_57 : decode (g_m 96).2.1 57 = .ok (.iconst 0, 1) := by decide +kernel
theorem d_96_58 : decode (g_m 96).2.1 58 = .ok (.istore 5, 2) := by decide +kernel
theorem d_96_60 : decode (g_m 96).2.1 60 = .ok (.iconst 0, 1) := by decide +kernel
theorem d_96_61 : decode (g_m 96).2.1 61 = .ok (.istore 6, 2) := by decide +kernel
theorem d_96_63 : decode (g_m 96).2.1 63 = .ok (.iload 6, 2) := by decide +kernel
theorem d_96_65 : decode (g_m 96).2.1 65 = .ok (.aload_n 0, 1) := by decide +kernel
theorem d_96_66 : decode (g_m 96).2.1 66 = .ok (.getfield 76, 3) := by decide +kernel
theorem d_96_69 : decode (g_m 96).2.1 69 = .ok (.if_icmp .ge (67), 3) := by decide +kernel
theorem d_96_72 : decode (g_m 96).2.1 72 = .ok (.aload_n 0, 1) := by decide +kernel
theorem d_96_73 : decode (g_m 96).2.1 73 = .ok (.getfield 16, 3) := by decide +kernel
theorem d_96_76 : decode (g_m 96).2.1 76 = .ok (.iconst 1, 1) := by decide +kernel
theorem d_96_77 : decode (g_m 96).2.1 77 = .ok (.if_icmp .ne (59), 3) := by decide +kernel
theorem d_96_80 : decode (g_m 96).2.1 80 = .ok (.iload 5, 2) := by decide +kernel
theorem d_96_82 : decode (g_m 96).2.1 82 = .ok (.ifCond .eq (45), 3) := by decide +kernel
theorem d_96_85 : decode (g_m 96).2.1 85 = .ok (.aload_n 0, 1) := by decide +kernel
theorem d_96_86 : decode (g_m 96).2.1 86 = .ok (.getfield 58, 3) := by decide +kernel
theorem d_96_89 : decode (g_m 96).2.1 89 = .ok (.iload 6, 2) := by decide +kernel
theorem d_96_91 : decode (g_m 96).2.1 91 = .ok (.baload, 1) := by decide +kernel
theorem d_96_92 : decode (g_m 96).2.1 92 = .ok (.ifCond .eq (31), 3) := by decide +kernel
theorem d_96_95 : decode (g_m 96).2.1 95 = .ok (.aload_n 0, 1) := by decide +kernel
theorem d_96_96 : decode (g_m 96).2.1 96 = .ok (.getfield 43, 3) := by decide +kernel
theorem d_96_99 : decode (g_m 96).2.1 99 = .ok (.bipush 100, 2) := by decide +kernel
theorem d_96_101 : decode (g_m 96).2.1 101 = .ok (.iload 4, 2) := by decide +kernel
theorem d_96_103 : decode (g_m 96).2.1 103 = .ok (.imul, 1) := by decide +kernel
theorem d_96_104 : decode (g_m 96).2.1 104 = .ok (.iload_n 1, 1) := by decide +kernel
theorem d_96_105 : decode (g_m 96).2.1 105 = .ok (.iadd, 1) := by decide +kernel
theorem d_96_106 : decode (g_m 96).2.1 106 = .ok (.iaload, 1) := by decide +kernel
theorem d_96_107 : decode (g_m 96).2.1 107 = .ok (.aload_n 0, 1) := by decide +kernel
theorem d_96_108 : decode (g_m 96).2.1 108 = .ok (.getfield 43, 3) := by decide +kernel
theorem d_96_111 : decode (g_m 96).2.1 111 = .ok (.bipush 100, 2) := by decide +kernel
theorem d_96_113 : decode (g_m 96).2.1 113 = .ok (.iload 4, 2) := by decide +kernel
theorem d_96_115 : decode (g_m 96).2.1 115 = .ok (.imul, 1) := by decide +kernel
theorem d_96_116 : decode (g_m 96).2.1 116 = .ok (.iload 6, 2) := by decide +kernel
theorem d_96_118 : decode (g_m 96).2.1 118 = .ok (.iadd, 1) := by decide +kernel
theorem d_96_119 : decode (g_m 96).2.1 119 = .ok (.iaload, 1) := by decide +kernel
theorem d_96_120 : decode (g_m 96).2.1 120 = .ok (.if_icmp .ge (7), 3) := by decide +kernel
theorem d_96_123 : decode (g_m 96).2.1 123 = .ok (.iconst 1, 1) := by decide +kernel
theorem d_96_124 : decode (g_m 96).2.1 124 = .ok (.goto (4), 3) := by decide +kernel
theorem d_96_127 : decode (g_m 96).2.1 127 = .ok (.iconst 0, 1) := by decide +kernel
theorem d_96_128 : decode (g_m 96).2.1 128 = .ok (.istore 5, 2) := by decide +kernel
theorem d_96_130 : decode (g_m 96).2.1 130 = .ok (.iinc 6 1, 3) := by decide +kernel
theorem d_96_133 : decode (g_m 96).2.1 133 = .ok (.goto (-70), 3) := by decide +kernel
theorem d_96_136 : decode (g_m 96).2.1 136 = .ok (.aload_n 0, 1) := by decide +kernel
theorem d_96_137 : decode (g_m 96).2.1 137 = .ok (.getfield 58, 3) := by decide +kernel
theorem d_96_140 : decode (g_m 96).2.1 140 = .ok (.iload 4, 2) := by decide +kernel
theorem d_96_142 : decode (g_m 96).2.1 142 = .ok (.iload 5, 2) := by decide +kernel
theorem d_96_144 : decode (g_m 96).2.1 144 = .ok (.bastore, 1) := by decide +kernel
theorem d_96_145 : decode (g_m 96).2.1 145 = .ok (.iload 5, 2) := by decide +kernel
theorem d_96_147 : decode (g_m 96).2.1 147 = .ok (.ifCond .eq (9), 3) := by decide +kernel
theorem d_96_150 : decode (g_m 96).2.1 150 = .ok (.iload_n 3, 1) := by decide +kernel
theorem d_96_151 : decode (g_m 96).2.1 151 = .ok (.iconst 1, 1) := by decide +kernel
theorem d_96_152 : decode (g_m 96).2.1 152 = .ok (.iadd, 1) := by decide +kernel
theorem d_96_153 : decode (g_m 96).2.1 153 = .ok (.goto (4), 3) := by decide +kernel
theorem d_96_156 : decode (g_m 96).2.1 156 = .ok (.iload_n 3, 1) := by decide +kernel
theorem d_96_157 : decode (g_m 96).2.1 157 = .ok (.istore_n 3, 1) := by decide +kernel
theorem d_96_158 : decode (g_m 96).2.1 158 = .ok (.aload_n 0, 1) := by decide +kernel
theorem d_96_159 : decode (g_m 96).2.1 159 = .ok (.aload_n 0, 1) := by decide +kernel
theorem d_96_160 : decode (g_m 96).2.1 160 = .ok (.getfield 55, 3) := by decide +kernel
theorem d_96_163 : decode (g_m 96).2.1 163 = .ok (.iload_n 1, 1) := by decide +kernel
theorem d_96_164 : decode (g_m 96).2.1 164 = .ok (.iconst 1, 1) := by decide +kernel
theorem d_96_165 : decode (g_m 96).2.1 165 = .ok (.invokevirtual 109, 3) := by decide +kernel
theorem d_96_168 : decode (g_m 96).2.1 168 = .ok (.istore 4, 2) := by decide +kernel
theorem d_96_170 : decode (g_m 96).2.1 170 = .ok (.goto (-135), 3) := by decide +kernel
theorem d_96_173 : decode (g_m 96).2.1 173 = .ok (.return_, 1) := by decide +kernel
theorem d_97_0 : decode (g_m 97).2.1 0 = .ok (.aload_n 0, 1) := by decide +kernel
theorem d_97_1 : decode (g_m 97).2.1 1 = .ok (.getfield 37, 3) := by decide +kernel
theorem d_97_4 : decode (g_m 97).2.1 4 = .ok (.sipush 10000, 3) := by decide +kernel
theorem d_97_7 : decode (g_m 97).2.1 7 = .ok (.iload_n 1, 1) := by decide +kernel
theorem d_97_8 : decode (g_m 97).2.1 8 = .ok (.imul, 1) := by decide +kernel
theorem d_97_9 : decode (g_m 97).2.1 9 = .ok (.bipush 100, 2) := by decide +kernel
theorem d_97_11 : decode (g_m 97).2.1 11 = .ok (.iload_n 2, 1) := by decide +kernel
theorem d_97_12 : decode (g_m 97).2.1 12 = .ok (.imul, 1) := by decide +kernel
theorem d_97_13 : decode (g_m 97).2.1 13 = .ok (.iadd, 1) := by decide +kernel
theorem d_97_14 : decode (g_m 97).2.1 14 = .ok (.iload_n 3, 1) := by decide +kernel
theorem d_97_15 : decode (g_m 97).2.1 15 = .ok (.iadd, 1) := by decide +kernel
theorem d_97_16 : decode (g_m 97).2.1 16 = .ok (.iload 4, 2) := by decide +kernel
theorem d_97_18 : decode (g_m 97).2.1 18 = .ok (.bastore, 1) := by decide +kernel
theorem d_97_19 : decode (g_m 97).2.1 19 = .ok (.return_, 1) := by decide +kernel
theorem d_98_0 : decode (g_m 98).2.1 0 = .ok (.aload_n 0, 1) := by decide +kernel
theorem d_98_1 : decode (g_m 98).2.1 1 = .ok (.iconst 0, 1) := by decide +kernel
theorem d_98_2 : decode (g_m 98).2.1 2 = .ok (.putfield 1, 3) := by decide +kernel
theorem d_98_5 : decode (g_m 98).2.1 5 = .ok (.iload_n 1, 1) := by decide +kernel
theorem d_98_6 : decode (g_m 98).2.1 6 = .ok (.i2l, 1) := by decide +kernel
theorem d_98_7 : decode (g_m 98).2.1 7 = .ok (.lconst 1, 1) := by decide +kernel
theorem d_98_8 : decode (g_m 98).2.1 8 = .ok (.ldc2_w 155, 3) := by decide +kernel
theorem d_98_11 : decode (g_m 98).2.1 11 = .ok (.invokestatic 79, 3) := by decide +kernel
theorem d_98_14 : decode (g_m 98).2.1 14 = .ok (.ifCond .eq (28), 3) := by decide +kernel
theorem d_98_17 : decode (g_m 98).2.1 17 = .ok (.iload_n 2, 1) := by decide +kernel
theorem d_98_18 : decode (g_m 98).2.1 18 = .ok (.i2l, 1) := by decide +kernel
theorem d_98_19 : decode (g_m 98).2.1 19 = .ok (.iload_n 1, 1) := by decide +kernel
theorem d_98_20 : decode (g_m 98).2.1 20 = .ok (.i2l, 1) := by decide +kernel
theorem d_98_21 : decode (g_m 98).2.1 21 = .ok (.ldc2_w 155, 3) := by decide +kernel
theorem d_98_24 : decode (g_m 98).2.1 24 = .ok (.invokestatic 79, 3) := by decide +kernel
theorem d_98_27 : decode (g_m 98).2.1 27 = .ok (.ifCond .eq (15), 3) := by decide +kernel
theorem d_98_30 : decode (g_m 98).2.1 30 = .ok (.iload_n 3, 1) := by decide +kernel
theorem d_98_31 : decode (g_m 98).2.1 31 = .ok (.i2l, 1) := by decide +kernel
theorem d_98_32 : decode (g_m 98).2.1 32 = .ok (.lconst 1, 1) := by decide +kernel
theorem d_98_33 : decode (g_m 98).2.1 33 = .ok (.ldc2_w 155, 3) := by decide +kernel
theorem d_98_36 : decode (g_m 98).2.1 36 = .ok (.invokestatic 79, 3) := by decide +kernel
theorem d_98_39 : decode (g_m 98).2.1 39 = .ok (.ifCond .ne (5), 3) := by decide +kernel
theorem d_98_42 : decode (g_m 98).2.1 42 = .ok (.iconst (-1), 1) := by decide +kernel
theorem d_98_43 : decode (g_m 98).2.1 43 = .ok (.ireturn, 1) := by decide +kernel
theorem d_98_44 : decode (g_m 98).2.1 44 = .ok (.iconst 0, 1) := by decide +kernel
theorem d_98_45 : decode (g_m 98).2.1 45 = .ok (.istore 4, 2) := by decide +kernel
theorem d_98_47 : decode (g_m 98).2.1 47 = .ok (.iload 4, 2) := by decide +kernel
theorem d_98_49 : decode (g_m 98).2.1 49 = .ok (.aload_n 0, 1) := by decide +kernel
theorem d_98_50 : decode (g_m 98).2.1 50 = .ok (.getfield 76, 3) := by decide +kernel
theorem d_98_53 : decode (g_m 98).2.1 53 = .ok (.if_icmp .ge (22), 3) := by decide +kernel
theorem d_98_56 : decode (g_m 98).2.1 56 = .ok (.aload_n 0, 1) := by decide +kernel
theorem d_98_57 : decode (g_m 98).2.1 57 = .ok (.getfield 61, 3) := by decide +kernel
theorem d_98_60 : decode (g_m 98).2.1 60 = .ok (.iload 4, 2) := by decide +kernel
theorem d_98_62 : decode (g_m 98).2.1 62 = .ok (.aload_n 0, 1) := by decide +kernel
theorem d_98_63 : decode (g_m 98).2.1 63 = .ok (.iload 4, 2) := by decide +kernel
theorem d_98_65 : decode (g_m 98).2.1 65 = .ok (.invokevirtual 174, 3) := by decide +kernel
theorem d_98_68 : decode (g_m 98).2.1 68 = .ok (.bastore, 1) := by decide +kernel
theorem d_98_69 : decode (g_m 98).2.1 69 = .ok (.iinc 4 1, 3) := by decide +kernel
theorem d_98_72 : decode (g_m 98).2.1 72 = .ok (.goto (-25), 3) := by decide +kernel
theorem d_98_75 : decode (g_m 98).2.1 75 = .ok (.aload_n 0, 1) := by decide +kernel
theorem d_98_76 : decode (g_m 98).2.1 76 = .ok (.bipush 100, 2) := by decide +kernel
theorem d_98_78 : decode (g_m 98).2.1 78 = .ok (.iload_n 3, 1) := by decide +kernel
theorem d_98_79 : decode (g_m 98).2.1 79 = .ok (.invokevirtual 146, 3) := by decide +kernel
theorem d_98_82 : decode (g_m 98).2.1 82 = .ok (.aload_n 0, 1) := by decide +kernel
theorem d_98_83 : decode (g_m 98).2.1 83 = .ok (.iload_n 2, 1) := by decide +kernel
theorem d_98_84 : decode (g_m 98).2.1 84 = .ok (.invokevirtual 177, 3) := by decide +kernel
theorem d_98_87 : decode (g_m 98).2.1 87 = .ok (.iconst 0, 1) := by decide +kernel
theorem d_98_88 : decode (g_m 98).2.1 88 = .ok (.istore 4, 2) := by decide +kernel
theorem d_98_90 : decode (g_m 98).2.1 90 = .ok (.iload 4, 2) := by decide +kernel
theorem d_98_92 : decode (g_m 98).2.1 92 = .ok (.aload_n 0, 1) := by decide +kernel
theorem d_98_93 : decode (g_m 98).2.1 93 = .ok (.getfield 76, 3) := by decide +kernel
theorem d_98_96 : decode (g_m 98).2.1 96 = .ok (.if_icmp .ge (17), 3) := by decide +kernel
theorem d_98_99 : decode (g_m 98).2.1 99 = .ok (.aload_n 0, 1) := by decide +kernel
theorem d_98_100 : decode (g_m 98).2.1 100 = .ok (.getfield 61, 3) := by decide +kernel
theorem d_98_103 : decode (g_m 98).2.1 103 = .ok (.iload 4, 2) := by decide +kernel
theorem d_98_105 : decode (g_m 98).2.1 105 = .ok (.iconst 0, 1) := by decide +kernel
theorem d_98_106 : decode (g_m 98).2.1 106 = .ok (.bastore, 1) := by decide +kernel
theorem d_98_107 : decode (g_m 98).2.1 107 = .ok (.iinc 4 1, 3) := by decide +kernel
theorem d_98_110 : decode (g_m 98).2.1 110 = .ok (.goto (-20), 3) := by decide +kernel
theorem d_98_113 : decode (g_m 98).2.1 113 = .ok (.iconst 0, 1) := by decide +kernel
theorem d_98_114 : decode (g_m 98).2.1 114 = .ok (.istore 4, 2) := by decide +kernel
theorem d_98_116 : decode (g_m 98).2.1 116 = .ok (.iload 4, 2) := by decide +kernel
theorem d_98_118 : decode (g_m 98).2.1 118 = .ok (.aload_n 0, 1) := by decide +kernel
theorem d_98_119 : decode (g_m 98).2.1 119 = .ok (.getfield 171, 3) := by decide +kernel
theorem d_98_122 : decode (g_m 98).2.1 122 = .ok (.if_icmp .ge (22), 3) := by decide +kernel
theorem d_98_125 : decode (g_m 98).2.1 125 = .ok (.aload_n 0, 1) := by decide +kernel
theorem d_98_126 : decode (g_m 98).2.1 126 = .ok (.getfield 61, 3) := by decide +kernel
theorem d_98_129 : decode (g_m 98).2.1 129 = .ok (.aload_n 0, 1) := by decide +kernel
theorem d_98_130 : decode (g_m 98).2.1 130 = .ok (.getfield 64, 3) := by decide +kernel
theorem d_98_133 : decode (g_m 98).2.1 133 = .ok (.iload 4, 2) := by decide +kernel
theorem d_98_135 : decode (g_m 98).2.1 135 = .ok (.iaload, 1) := by decide +kernel
theorem d_98_136 : decode (g_m 98).2.1 136 = .ok (.iconst 1, 1) := by decide +kernel
theorem d_98_137 : decode (g_m 98).2.1 137 = .ok (.bastore, 1) := by decide +kernel
theorem d_98_138 : decode (g_m 98).2.1 138 = .ok (.iinc 4 1, 3) := by decide +kernel
theorem d_98_141 : decode (g_m 98).2.1 141 = .ok (.goto (-25), 3) := by decide +kernel
theorem d_98_144 : decode (g_m 98).2.1 144 = .ok (.aload_n 0, 1) := by decide +kernel
theorem d_98_145 : decode (g_m 98).2.1 145 = .ok (.bipush 100, 2) := by decide +kernel
theorem d_98_147 : decode (g_m 98).2.1 147 = .ok (.bipush 100, 2) := by decide +kernel
theorem d_98_149 : decode (g_m 98).2.1 149 = .ok (.invokevirtual 146, 3) := by decide +kernel
theorem d_98_152 : decode (g_m 98).2.1 152 = .ok (.aload_n 0, 1) := by decide +kernel
theorem d_98_153 : decode (g_m 98).2.1 153 = .ok (.iload_n 1, 1) := by decide +kernel
theorem d_98_154 : decode (g_m 98).2.1 154 = .ok (.invokevirtual 177, 3) := by decide +kernel
theorem d_98_157 : decode (g_m 98).2.1 157 = .ok (.aload_n 0, 1) := by decide +kernel
theorem d_98_158 : decode (g_m 98).2.1 158 = .ok (.invokevirtual 186, 3) := by decide +kernel
theorem d_98_161 : decode (g_m 98).2.1 161 = .ok (.ireturn, 1) := by decide +kernel
theorem d_99_0 : decode (g_m 99).2.1 0 = .ok (.aload_n 0, 1) := by decide +kernel
theorem d_99_1 : decode (g_m 99).2.1 1 = .ok (.iconst 0, 1) := by decide +kernel
theorem d_99_2 : decode (g_m 99).2.1 2 = .ok (.putfield 1, 3) := by decide +kernel
theorem d_99_5 : decode (g_m 99).2.1 5 = .ok (.iload_n 1, 1) := by decide +kernel
theorem d_99_6 : decode (g_m 99).2.1 6 = .ok (.i2l, 1) := by decide +kernel
theorem d_99_7 : decode (g_m 99).2.1 7 = .ok (.lconst 1, 1) := by decide +kernel
theorem d_99_8 : decode (g_m 99).2.1 8 = .ok (.ldc2_w 190, 3) := by decide +kernel
theorem d_99_11 : decode (g_m 99).2.1 11 = .ok (.invokestatic 79, 3) := by decide +kernel
theorem d_99_14 : decode (g_m 99).2.1 14 = .ok (.ifCond .eq (16), 3) := by decide +kernel
theorem d_99_17 : decode (g_m 99).2.1 17 = .ok (.iload_n 2, 1) := by decide +kernel
theorem d_99_18 : decode (g_m 99).2.1 18 = .ok (.i2l, 1) := by decide +kernel
theorem d_99_19 : decode (g_m 99).2.1 19 = .ok (.iload_n 1, 1) := by decide +kernel
theorem d_99_20 : decode (g_m 99).2.1 20 = .ok (.i2l, 1) := by decide +kernel
theorem d_99_21 : decode (g_m 99).2.1 21 = .ok (.ldc2_w 190, 3) := by decide +kernel
theorem d_99_24 : decode (g_m 99).2.1 24 = .ok (.invokestatic 79, 3) := by decide +kernel
theorem d_99_27 : decode (g_m 99).2.1 27 = .ok (.ifCond .ne (5), 3) := by decide +kernel
theorem d_99_30 : decode (g_m 99).2.1 30 = .ok (.iconst (-1), 1) := by decide +kernel
theorem d_99_31 : decode (g_m 99).2.1 31 = .ok (.ireturn, 1) := by decide +kernel
theorem d_99_32 : decode (g_m 99).2.1 32 = .ok (.aload_n 0, 1) := by decide +kernel
theorem d_99_33 : decode (g_m 99).2.1 33 = .ok (.iload_n 1, 1) := by decide +kernel
theorem d_99_34 : decode (g_m 99).2.1 34 = .ok (.iload_n 2, 1) := by decide +kernel
theorem d_99_35 : decode (g_m 99).2.1 35 = .ok (.invokevirtual 192, 3) := by decide +kernel
theorem d_99_38 : decode (g_m 99).2.1 38 = .ok (.iconst 0, 1) := by decide +kernel
theorem d_99_39 : decode (g_m 99).2.1 39 = .ok (.istore_n 3, 1) := by decide +kernel
theorem d_99_40 : decode (g_m 99).2.1 40 = .ok (.iload_n 3, 1) := by decide +kernel
theorem d_99_41 : decode (g_m 99).2.1 41 = .ok (.bipush 100, 2) := by decide +kernel
theorem d_99_43 : decode (g_m 99).2.1 43 = .ok (.if_icmp .ge (16), 3) := by decide +kernel
theorem d_99_46 : decode (g_m 99).2.1 46 = .ok (.aload_n 0, 1) := by decide +kernel
theorem d_99_47 : decode (g_m 99).2.1 47 = .ok (.getfield 67, 3) := by decide +kernel
theorem d_99_50 : decode (g_m 99).2.1 50 = .ok (.iload_n 3, 1) := by decide +kernel
theorem d_99_51 : decode (g_m 99).2.1 51 = .ok (.iconst 0, 1) := by decide +kernel
theorem d_99_52 : decode (g_m 99).2.1 52 = .ok (.bastore, 1) := by decide +kernel
theorem d_99_53 : decode (g_m 99).2.1 53 = .ok (.iinc 3 1, 3) := by decide +kernel
theorem d_99_56 : decode (g_m 99).2.1 56 = .ok (.goto (-16), 3) := by decide +kernel
theorem d_99_59 : decode (g_m 99).2.1 59 = .ok (.iconst 0, 1) := by decide +kernel
theorem d_99_60 : decode (g_m 99).2.1 60 = .ok (.istore_n 3, 1) := by decide +kernel
theorem d_99_61 : decode (g_m 99).2.1 61 = .ok (.iload_n 3, 1) := by decide +kernel
theorem d_99_62 : decode (g_m 99).2.1 62 = .ok (.aload_n 0, 1) := by decide +kernel
theorem d_99_63 : decode (g_m 99).2.1 63 = .ok (.getfield 171, 3) := by decide +kernel
theorem d_99_66 : decode (g_m 99).2.1 66 = .ok (.if_icmp .ge (21), 3) := by decide +kernel
theorem d_99_69 : decode (g_m 99).2.1 69 = .ok (.aload_n 0, 1) := by decide +kernel
theorem d_99_70 : decode (g_m 99).2.1 70 = .ok (.getfield 67, 3) := by decide +kernel
theorem d_99_73 : decode (g_m 99).2.1 73 = .ok (.aload_n 0, 1) := by decide +kernel
theorem d_99_74 : decode (g_m 99).2.1 74 = .ok (.getfield 64, 3) := by decide +kernel
theorem d_99_77 : decode (g_m 99).2.1 77 = .ok (.iload_n 3, 1) := by decide +kernel
theorem d_99_78 : decode (g_m 99).2.1 78 = .ok (.iaload, 1) := by decide +kernel
theorem d_99_79 : decode (g_m 99).2.1 79 = .ok (.iconst 1, 1) := by decide +kernel
theorem d_99_80 : decode (g_m 99).2.1 80 = .ok (.bastore, 1) := by decide +kernel
theorem d_99_81 : decode (g_m 99).2.1 81 = .ok (.iinc 3 1, 3) := by decide +kernel
theorem d_99_84 : decode (g_m 99).2.1 84 = .ok (.goto (-23), 3) := by decide +kernel
theorem d_99_87 : decode (g_m 99).2.1 87 = .ok (.aload_n 0, 1) := by decide +kernel
theorem d_99_88 : decode (g_m 99).2.1 88 = .ok (.iload_n 1, 1) := by decide +kernel
theorem d_99_89 : decode (g_m 99).2.1 89 = .ok (.invokevirtual 183, 3) := by decide +kernel
theorem d_99_92 : decode (g_m 99).2.1 92 = .ok (.iconst 0, 1) := by decide +kernel
theorem d_99_93 : decode (g_m 99).2.1 93 = .ok (.istore_n 3, 1) := by decide +kernel
theorem d_99_94 : decode (g_m 99).2.1 94 = .ok (.iconst 0, 1) := by decide +kernel
theorem d_99_95 : decode (g_m 99).2.1 95 = .ok (.istore 4, 2) := by decide +kernel
theorem d_99_97 : decode (g_m 99).2.1 97 = .ok (.iload 4, 2) := by decide +kernel
theorem d_99_99 : decode (g_m 99).2.1 99 = .ok (.aload_n 0, 1) := by decide +kernel
theorem d_99_100 : decode (g_m 99).2.1 100 = .ok (.getfield 171, 3) := by decide +kernel
theorem d_99_103 : decode (g_m 99).2.1 103 = .ok (.if_icmp .ge (32), 3) := by decide +kernel
theorem d_99_106 : decode (g_m 99).2.1 106 = .ok (.aload_n 0, 1) := by decide +kernel
theorem d_99_107 : decode (g_m 99).2.1 107 = .ok (.getfield 67, 3) := by decide +kernel
theorem d_99_110 : decode (g_m 99).2.1 110 = .ok (.aload_n 0, 1) := by decide +kernel
theorem d_99_111 : decode (g_m 99).2.1 111 = .ok (.getfield 64, 3) := by decide +kernel
theorem d_99_114 : decode (g_m 99).2.1 114 = .ok (.iload 4, 2) := by decide +kernel
theorem d_99_116 : decode (g_m 99).2.1 116 = .ok (.iaload, 1) := by decide +kernel
theorem d_99_117 : decode (g_m 99).2.1 117 = .ok (.baload, 1) := by decide +kernel
theorem d_99_118 : decode (g_m 99).2.1 118 = .ok (.ifCond .eq (9), 3) := by decide +kernel
theorem d_99_121 : decode (g_m 99).2.1 121 = .ok (.iload_n 3, 1) := by decide +kernel
theorem d_99_122 : decode (g_m 99).2.1 122 = .ok (.iconst 1, 1) := by decide +kernel
theorem d_99_123 : decode (g_m 99).2.1 123 = .ok (.iadd, 1) := by decide +kernel
theorem d_99_124 : decode (g_m 99).2.1 124 = .ok (.goto (4), 3) := by decide +kernel
theorem d_99_127 : decode (g_m 99).2.1 127 = .ok (.iload_n 3, 1) := by decide +kernel
theorem d_99_128 : decode (g_m 99).2.1 128 = .ok (.istore_n 3, 1) := by decide +kernel
theorem d_99_129 : decode (g_m 99).2.1 129 = .ok (.iinc 4 1, 3) := by decide +kernel
theorem d_99_132 : decode (g_m 99).2.1 132 = .ok (.goto (-35), 3) := by decide +kernel
theorem d_99_135 : decode (g_m 99).2.1 135 = .ok (.iload_n 3, 1) := by decide +kernel
theorem d_99_136 : decode (g_m 99).2.1 136 = .ok (.ireturn, 1) := by decide +kernel
theorem d_100_0 : decode (g_m 100).2.1 0 = .ok (.aload_n 0, 1) := by decide +kernel
theorem d_100_1 : decode (g_m 100).2.1 1 = .ok (.iconst 0, 1) := by decide +kernel
theorem d_100_2 : decode (g_m 100).2.1 2 = .ok (.putfield 1, 3) := by decide +kernel
theorem d_100_5 : decode (g_m 100).2.1 5 = .ok (.iload_n 1, 1) := by decide +kernel
theorem d_100_6 : decode (g_m 100).2.1 6 = .ok (.i2l, 1) := by decide +kernel
theorem d_100_7 : decode (g_m 100).2.1 7 = .ok (.lconst 0, 1) := by decide +kernel
theorem d_100_8 : decode (g_m 100).2.1 8 = .ok (.aload_n 0, 1) := by decide +kernel
theorem d_100_9 : decode (g_m 100).2.1 9 = .ok (.getfield 164, 3) := by decide +kernel
theorem d_100_12 : decode (g_m 100).2.1 12 = .ok (.iconst 1, 1) := by decide +kernel
theorem d_100_13 : decode (g_m 100).2.1 13 = .ok (.isub, 1) := by decide +kernel
theorem d_100_14 : decode (g_m 100).2.1 14 = .ok (.i2l, 1) := by decide +kernel
theorem d_100_15 : decode (g_m 100).2.1 15 = .ok (.invokestatic 79, 3) := by decide +kernel
theorem d_100_18 : decode (g_m 100).2.1 18 = .ok (.ifCond .eq (12), 3) := by decide +kernel
theorem d_100_21 : decode (g_m 100).2.1 21 = .ok (.aload_n 0, 1) := by decide +kernel
theorem d_100_22 : decode (g_m 100).2.1 22 = .ok (.getfield 30, 3) := by decide +kernel
theorem d_100_25 : decode (g_m 100).2.1 25 = .ok (.iload_n 1, 1) := by decide +kernel
theorem d_100_26 : decode (g_m 100).2.1 26 = .ok (.iaload, 1) := by decide +kernel
theorem d_100_27 : decode (g_m 100).2.1 27 = .ok (.goto (4), 3) := by decide +kernel
theorem d_100_30 : decode (g_m 100).2.1 30 = .ok (.iconst (-1), 1) := by decide +kernel
theorem d_100_31 : decode (g_m 100).2.1 31 = .ok (.ireturn, 1) := by decide +kernel
theorem d_101_0 : decode (g_m 101).2.1 0 = .ok (.aload_n 0, 1) := by decide +kernel
theorem d_101_1 : decode (g_m 101).2.1 1 = .ok (.iconst 0, 1) := by decide +kernel
theorem d_101_2 : decode (g_m 101).2.1 2 = .ok (.putfield 1, 3) := by decide +kernel
theorem d_101_5 : decode (g_m 101).2.1 5 = .ok (.aload_n 0, 1) := by decide +kernel
theorem d_101_6 : decode (g_m 101).2.1 6 = .ok (.iload_n 1, 1) := by decide +kernel
theorem d_101_7 : decode (g_m 101).2.1 7 = .ok (.invokevirtual 160, 3) := by decide +kernel
theorem d_101_10 : decode (g_m 101).2.1 10 = .ok (.ifCond .eq (7), 3) := by decide +kernel
theorem d_101_13 : decode (g_m 101).2.1 13 = .ok (.iconst (-1), 1) := by decide +kernel
theorem d_101_14 : decode (g_m 101).2.1 14 = .ok (.goto (12), 3) := by decide +kernel
theorem d_101_17 : decode (g_m 101).2.1 17 = .ok (.aload_n 0, 1) := by decide +kernel
theorem d_101_18 : decode (g_m 101).2.1 18 = .ok (.bipush 100, 2) := by decide +kernel
theorem d_101_20 : decode (g_m 101).2.1 20 = .ok (.iload_n 1, 1) := by decide +kernel
theorem d_101_21 : decode (g_m 101).2.1 21 = .ok (.bipush 100, 2) := by decide +kernel
theorem d_101_23 : decode (g_m 101).2.1 23 = .ok (.invokevirtual 90, 3) := by decide +kernel
theorem d_101_26 : decode (g_m 101).2.1 26 = .ok (.ireturn, 1) := by decide +kernel
theorem d_102_0 : decode (g_m 102).2.1 0 = .ok (.aload_n 0, 1) := by decide +kernel
theorem d_102_1 : decode (g_m 102).2.1 1 = .ok (.iconst 0, 1) := by decide +kernel
theorem d_102_2 : decode (g_m 102).2.1 2 = .ok (.putfield 1, 3) := by decide +kernel
theorem d_102_5 : decode (g_m 102).2.1 5 = .ok (.aload_n 0, 1) := by decide +kernel
theorem d_102_6 : decode (g_m 102).2.1 6 = .ok (.iload_n 1, 1) := by decide +kernel
theorem d_102_7 : decode (g_m 102).2.1 7 = .ok (.invokevirtual 160, 3) := by decide +kernel
theorem d_102_10 : decode (g_m 102).2.1 10 = .ok (.ifCond .ne (11), 3) := by decide +kernel
theorem d_102_13 : decode (g_m 102).2.1 13 = .ok (.aload_n 0, 1) := by decide +kernel
theorem d_102_14 : decode (g_m 102).2.1 14 = .ok (.iload_n 2, 1) := by decide +kernel
theorem d_102_15 : decode (g_m 102).2.1 15 = .ok (.invokevirtual 160, 3) := by decide +kernel
theorem d_102_18 : decode (g_m 102).2.1 18 = .ok (.ifCond .eq (7), 3) := by decide +kernel
theorem d_102_21 : decode (g_m 102).2.1 21 = .ok (.iconst (-1), 1) := by decide +kernel
theorem d_102_22 : decode (g_m 102).2.1 22 = .ok (.goto (11), 3) := by decide +kernel
theorem d_102_25 : decode (g_m 102).2.1 25 = .ok (.aload_n 0, 1) := by decide +kernel
theorem d_102_26 : decode (g_m 102).2.1 26 = .ok (.iload_n 1, 1) := by decide +kernel
theorem d_102_27 : decode (g_m 102).2.1 27 = .ok (.iload_n 2, 1) := by decide +kernel
theorem d_102_28 : decode (g_m 102).2.1 28 = .ok (.bipush 100, 2) := by decide +kernel
theorem d_102_30 : decode (g_m 102).2.1 30 = .ok (.invokevirtual 90, 3) := by decide +kernel
theorem d_102_33 : decode (g_m 102).2.1 33 = .ok (.ireturn, 1) := by decide +kernel
theorem d_103_0 : decode (g_m 103).2.1 0 = .ok (.aload_n 0, 1) := by decide +kernel
theorem d_103_1 : decode (g_m 103).2.1 1 = .ok (.iconst 0, 1) := by decide +kernel
theorem d_103_2 : decode (g_m 103).2.1 2 = .ok (.putfield 1, 3) := by decide +kernel
theorem d_103_5 : decode (g_m 103).2.1 5 = .ok (.aload_n 0, 1) := by decide +kernel
theorem d_103_6 : decode (g_m 103).2.1 6 = .ok (.getfield 106, 3) := by decide +kernel
theorem d_103_9 : decode (g_m 103).2.1 9 = .ok (.ireturn, 1) := by decide +kernel
theorem d_104_0 : decode (g_m 104).2.1 0 = .ok (.aload_n 0, 1) := by decide +kernel
theorem d_104_1 : decode (g_m 104).2.1 1 = .ok (.iconst 0, 1) := by decide +kernel
theorem d_104_2 : decode (g_m 104).2.1 2 = .ok (.putfield 1, 3) := by decide +kernel
theorem d_104_5 : decode (g_m 104).2.1 5 = .ok (.aload_n 0, 1) := by decide +kernel
theorem d_104_6 : decode (g_m 104).2.1 6 = .ok (.iload_n 1, 1) := by decide +kernel
theorem d_104_7 : decode (g_m 104).2.1 7 = .ok (.invokevirtual 160, 3) := by decide +kernel
theorem d_104_10 : decode (g_m 104).2.1 10 = .ok (.ifCond .eq (7), 3) := by decide +kernel
theorem d_104_13 : decode (g_m 104).2.1 13 = .ok (.iconst (-1), 1) := by decide +kernel
theorem d_104_14 : decode (g_m 104).2.1 14 = .ok (.goto (11), 3) := by decide +kernel
theorem d_104_17 : decode (g_m 104).2.1 17 = .ok (.iload_n 1, 1) := by decide +kernel
theorem d_104_18 : decode (g_m 104).2.1 18 = .ok (.aload_n 0, 1) := by decide +kernel
theorem d_104_19 : decode (g_m 104).2.1 19 = .ok (.getfield 73, 3) := by decide +kernel
theorem d_104_22 : decode (g_m 104).2.1 22 = .ok (.invokestatic 143, 3) := by decide +kernel
theorem d_104_25 : decode (g_m 104).2.1 25 = .ok (.ireturn, 1) := by decide +kernel
theorem d_105_0 : decode (g_m 105).2.1 0 = .ok (.aload_n 0, 1) := by decide +kernel
theorem d_105_1 : decode (g_m 105).2.1 1 = .ok (.iconst 0, 1) := by decide +kernel
theorem d_105_2 : decode (g_m 105).2.1 2 = .ok (.putfield 1, 3) := by decide +kernel
theorem d_105_5 : decode (g_m 105).2.1 5 = .ok (.aload_n 0, 1) := by decide +kernel
theorem d_105_6 : decode (g_m 105).2.1 6 = .ok (.invokevirtual 180, 3) := by decide +kernel
theorem d_105_9 : decode (g_m 105).2.1 9 = .ok (.aload_n 0, 1) := by decide +kernel
theorem d_105_10 : decode (g_m 105).2.1 10 = .ok (.getfield 76, 3) := by decide +kernel
theorem d_105_13 : decode (g_m 105).2.1 13 = .ok (.ifCond .ne (8), 3) := by decide +kernel
theorem d_105_16 : decode (g_m 105).2.1 16 = .ok (.bipush (-2), 2) := by decide +kernel
theorem d_105_18 : decode (g_m 105).2.1 18 = .ok (.goto (7), 3) := by decide +kernel
theorem d_105_21 : decode (g_m 105).2.1 21 = .ok (.aload_n 0, 1) := by decide +kernel
theorem d_105_22 : decode (g_m 105).2.1 22 = .ok (.getfield 40, 3) := by decide +kernel
theorem d_105_25 : decode (g_m 105).2.1 25 = .ok (.ireturn, 1) := by decide +kernel
theorem d_106_0 : decode (g_m 106).2.1 0 = .ok (.aload_n 0, 1) := by decide +kernel
theorem d_106_1 : decode (g_m 106).2.1 1 = .ok (.iconst 0, 1) := by decide +kernel
theorem d_106_2 : decode (g_m 106).2.1 2 = .ok (.putfield 1, 3) := by decide +kernel
theorem d_106_5 : decode (g_m 106).2.1 5 = .ok (.aload_n 0, 1) := by decide +kernel
theorem d_106_6 : decode (g_m 106).2.1 6 = .ok (.invokevirtual 180, 3) := by decide +kernel
theorem d_106_9 : decode (g_m 106).2.1 9 = .ok (.aload_n 0, 1) := by decide +kernel
theorem d_106_10 : decode (g_m 106).2.1 10 = .ok (.iload_n 1, 1) := by decide +kernel
theorem d_106_11 : decode (g_m 106).2.1 11 = .ok (.invokevirtual 160, 3) := by decide +kernel
theorem d_106_14 : decode (g_m 106).2.1 14 = .ok (.ifCond .ne (39), 3) := by decide +kernel
theorem d_106_17 : decode (g_m 106).2.1 17 = .ok (.iload_n 2, 1) := by decide +kernel
theorem d_106_18 : decode (g_m 106).2.1 18 = .ok (.i2l, 1) := by decide +kernel
theorem d_106_19 : decode (g_m 106).2.1 19 = .ok (.lconst 0, 1) := by decide +kernel
theorem d_106_20 : decode (g_m 106).2.1 20 = .ok (.aload_n 0, 1) := by decide +kernel
theorem d_106_21 : decode (g_m 106).2.1 21 = .ok (.getfield 33, 3) := by decide +kernel
theorem d_106_24 : decode (g_m 106).2.1 24 = .ok (.iload_n 1, 1) := by decide +kernel
theorem d_106_25 : decode (g_m 106).2.1 25 = .ok (.iaload, 1) := by decide +kernel
theorem d_106_26 : decode (g_m 106).2.1 26 = .ok (.i2l, 1) := by decide +kernel
theorem d_106_27 : decode (g_m 106).2.1 27 = .ok (.invokestatic 79, 3) := by decide +kernel
theorem d_106_30 : decode (g_m 106).2.1 30 = .ok (.ifCond .eq (23), 3) := by decide +kernel
theorem d_106_33 : decode (g_m 106).2.1 33 = .ok (.iload_n 3, 1) := by decide +kernel
theorem d_106_34 : decode (g_m 106).2.1 34 = .ok (.i2l, 1) := by decide +kernel
theorem d_106_35 : decode (g_m 106).2.1 35 = .ok (.ldc2_w 195, 3) := by decide +kernel
theorem d_106_38 : decode (g_m 106).2.1 38 = .ok (.aload_n 0, 1) := by decide +kernel
theorem d_106_39 : decode (g_m 106).2.1 39 = .ok (.iload_n 2, 1) := by decide +kernel
theorem d_106_40 : decode (g_m 106).2.1 40 = .ok (.iload_n 1, 1) := by decide +kernel
theorem d_106_41 : decode (g_m 106).2.1 41 = .ok (.invokevirtual 113, 3) := by decide +kernel
theorem d_106_44 : decode (g_m 106).2.1 44 = .ok (.iconst 1, 1) := by decide +kernel
theorem d_106_45 : decode (g_m 106).2.1 45 = .ok (.isub, 1) := by decide +kernel
theorem d_106_46 : decode (g_m 106).2.1 46 = .ok (.i2l, 1) := by decide +kernel
theorem d_106_47 : decode (g_m 106).2.1 47 = .ok (.invokestatic 79, 3) := by decide +kernel
theorem d_106_50 : decode (g_m 106).2.1 50 = .ok (.ifCond .ne (5), 3) := by decide +kernel
theorem d_106_53 : decode (g_m 106).2.1 53 = .ok (.iconst (-1), 1) := by decide +kernel
theorem d_106_54 : decode (g_m 106).2.1 54 = .ok (.ireturn, 1) := by decide +kernel
theorem d_106_55 : decode (g_m 106).2.1 55 = .ok (.iload_n 3, 1) := by decide +kernel
theorem d_106_56 : decode (g_m 106).2.1 56 = .ok (.ifCond .ge (12), 3) := by decide +kernel
theorem d_106_59 : decode (g_m 106).2.1 59 = .ok (.aload_n 0, 1) := by decide +kernel
theorem d_106_60 : decode (g_m 106).2.1 60 = .ok (.iload_n 2, 1) := by decide +kernel
theorem d_106_61 : decode (g_m 106).2.1 61 = .ok (.iload_n 1, 1) := by decide +kernel
theorem d_106_62 : decode (g_m 106).2.1 62 = .ok (.invokevirtual 113, 3) := by decide +kernel
theorem d_106_65 : decode (g_m 106).2.1 65 = .ok (.goto (10), 3) := by decide +kernel
theorem d_106_68 : decode (g_m 106).2.1 68 = .ok (.aload_n 0, 1) := by decide +kernel
theorem d_106_69 : decode (g_m 106).2.1 69 = .ok (.iload_n 2, 1) := by decide +kernel
theorem d_106_70 : decode (g_m 106).2.1 70 = .ok (.iload_n 1, 1) := by decide +kernel
theorem d_106_71 : decode (g_m 106).2.1 71 = .ok (.iload_n 3, 1) := by decide +kernel
theorem d_106_72 : decode (g_m 106).2.1 72 = .ok (.invokevirtual 117, 3) := by decide +kernel
theorem d_106_75 : decode (g_m 106).2.1 75 = .ok (.ireturn, 1) := by decide +kernel
theorem d_107_0 : decode (g_m 107).2.1 0 = .ok (.aload_n 0, 1) := by decide +kernel
theorem d_107_1 : decode (g_m 107).2.1 1 = .ok (.iconst 0, 1) := by decide +kernel
theorem d_107_2 : decode (g_m 107).2.1 2 = .ok (.putfield 1, 3) := by decide +kernel
theorem d_107_5 : decode (g_m 107).2.1 5 = .ok (.aload_n 0, 1) := by decide +kernel
theorem d_107_6 : decode (g_m 107).2.1 6 = .ok (.invokevirtual 180, 3) := by decide +kernel
theorem d_107_9 : decode (g_m 107).2.1 9 = .ok (.aload_n 0, 1) := by decide +kernel
theorem d_107_10 : decode (g_m 107).2.1 10 = .ok (.getfield 76, 3) := by decide +kernel
theorem d_107_13 : decode (g_m 107).2.1 13 = .ok (.ifCond .ne (5), 3) := by decide +kernel
theorem d_107_16 : decode (g_m 107).2.1 16 = .ok (.iconst 0, 1) := by decide +kernel
theorem d_107_17 : decode (g_m 107).2.1 17 = .ok (.ireturn, 1) := by decide +kernel
theorem d_107_18 : decode (g_m 107).2.1 18 = .ok (.iconst 0, 1) := by decide +kernel
theorem d_107_19 : decode (g_m 107).2.1 19 = .ok (.istore_n 1, 1) := by decide +kernel
theorem d_107_20 : decode (g_m 107).2.1 20 = .ok (.iload_n 1, 1) := by decide +kernel
theorem d_107_21 : decode (g_m 107).2.1 21 = .ok (.bipush 100, 2) := by decide +kernel
theorem d_107_23 : decode (g_m 107).2.1 23 = .ok (.if_icmp .ge (28), 3) := by decide +kernel
theorem d_107_26 : decode (g_m 107).2.1 26 = .ok (.aload_n 0, 1) := by decide +kernel
theorem d_107_27 : decode (g_m 107).2.1 27 = .ok (.getfield 46, 3) := by decide +kernel
theorem d_107_30 : decode (g_m 107).2.1 30 = .ok (.iload_n 1, 1) := by decide +kernel
theorem d_107_31 : decode (g_m 107).2.1 31 = .ok (.iload_n 1, 1) := by decide +kernel
theorem d_107_32 : decode (g_m 107).2.1 32 = .ok (.aload_n 0, 1) := by decide +kernel
theorem d_107_33 : decode (g_m 107).2.1 33 = .ok (.getfield 40, 3) := by decide +kernel
theorem d_107_36 : decode (g_m 107).2.1 36 = .ok (.if_icmp .ne (7), 3) := by decide +kernel
theorem d_107_39 : decode (g_m 107).2.1 39 = .ok (.iconst 1, 1) := by decide +kernel
theorem d_107_40 : decode (g_m 107).2.1 40 = .ok (.goto (4), 3) := by decide +kernel
theorem d_107_43 : decode (g_m 107).2.1 43 = .ok (.iconst 0, 1) := by decide +kernel
theorem d_107_44 : decode (g_m 107).2.1 44 = .ok (.bastore, 1) := by decide +kernel
theorem d_107_45 : decode (g_m 107).2.1 45 = .ok (.iinc 1 1, 3) := by decide +kernel
theorem d_107_48 : decode (g_m 107).2.1 48 = .ok (.goto (-28), 3) := by decide +kernel
theorem d_107_51 : decode (g_m 107).2.1 51 = .ok (.iconst 1, 1) := by decide +kernel
theorem d_107_52 : decode (g_m 107).2.1 52 = .ok (.istore_n 1, 1) := by decide +kernel
theorem d_107_53 : decode (g_m 107).2.1 53 = .ok (.iconst 1, 1) := by decide +kernel
theorem d_107_54 : decode (g_m 107).2.1 54 = .ok (.istore_n 2, 1) := by decide +kernel
theorem d_107_55 : decode (g_m 107).2.1 55 = .ok (.iload_n 2, 1) := by decide +kernel
theorem d_107_56 : decode (g_m 107).2.1 56 = .ok (.ifCond .eq (85), 3) := by decide +kernel
theorem d_107_59 : decode (g_m 107).2.1 59 = .ok (.iconst 0, 1) := by decide +kernel
theorem d_107_60 : decode (g_m 107).2.1 60 = .ok (.istore_n 2, 1) := by decide +kernel
theorem d_107_61 : decode (g_m 107).2.1 61 = .ok (.iconst 0, 1) := by decide +kernel
theorem d_107_62 : decode (g_m 107).2.1 62 = .ok (.istore_n 3, 1) := by decide +kernel
theorem d_107_63 : decode (g_m 107).2.1 63 = .ok (.iload_n 3, 1) := by decide +kernel
theorem d_107_64 : decode (g_m 107).2.1 64 = .ok (.aload_n 0, 1) := by decide +kernel
theorem d_107_65 : decode (g_m 107).2.1 65 = .ok (.getfield 76, 3) := by decide +kernel
theorem d_107_68 : decode (g_m 107).2.1 68 = .ok (.if_icmp .ge (70), 3) := by decide +kernel
theorem d_107_71 : decode (g_m 107).2.1 71 = .ok (.iconst 0, 1) := by decide +kernel
theorem d_107_72 : decode (g_m 107).2.1 72 = .ok (.istore 4, 2) := by decide +kernel
theorem d_107_74 : decode (g_m 107).2.1 74 = .ok (.iload 4, 2) := by decide +kernel
theorem d_107_76 : decode (g_m 107).2.1 76 = .ok (.aload_n 0, 1) := by decide +kernel
theorem d_107_77 : decode (g_m 107).2.1 77 = .ok (.getfield 76, 3) := by decide +kernel
theorem d_107_80 : decode (g_m 107).2.1 80 = .ok (.if_icmp .ge (52), 3) := by decide +kernel
theorem d_107_83 : decode (g_m 107).2.1 83 = .ok (.aload_n 0, 1) := by decide +kernel
theorem d_107_84 : decode (g_m 107).2.1 84 = .ok (.getfield 46, 3) := by decide +kernel
theorem d_107_87 : decode (g_m 107).2.1 87 = .ok (.iload_n 3, 1) := by decide +kernel
theorem d_107_88 : decode (g_m 107).2.1 88 = .ok (.baload, 1) := by decide +kernel
theorem d_107_89 : decode (g_m 107).2.1 89 = .ok (.ifCond .eq (43), 3) := by decide +kernel
theorem d_107_92 : decode (g_m 107).2.1 92 = .ok (.aload_n 0, 1) := by decide +kernel
theorem d_107_93 : decode (g_m 107).2.1 93 = .ok (.getfield 46, 3) := by decide +kernel
theorem d_107_96 : decode (g_m 107).2.1 96 = .ok (.iload 4, 2) := by decide +kernel
theorem d_107_98 : decode (g_m 107).2.1 98 = .ok (.baload, 1) := by decide +kernel
theorem d_107_99 : decode (g_m 107).2.1 99 = .ok (.ifCond .ne (27), 3) := by decide +kernel
theorem d_107_102 : decode (g_m 107).2.1 102 = .ok (.aload_n 0, 1) := by decide +kernel
theorem d_107_103 : decode (g_m 107).2.1 103 = .ok (.iconst 0, 1) := by decide +kernel
theorem d_107_104 : decode (g_m 107).2.1 104 = .ok (.iload_n 3, 1) := by decide +kernel
theorem d_107_105 : decode (g_m 107).2.1 105 = .ok (.iload 4, 2) := by decide +kernel
theorem d_107_107 : decode (g_m 107).2.1 107 = .ok (.invokevirtual 96, 3) := by decide +kernel
theorem d_107_110 : decode (g_m 107).2.1 110 = .ok (.ifCond .eq (16), 3) := by decide +kernel
theorem d_107_113 : decode (g_m 107).2.1 113 = .ok (.aload_n 0, 1) := by decide +kernel
theorem d_107_114 : decode (g_m 107).2.1 114 = .ok (.getfield 46, 3) := by decide +kernel
theorem d_107_117 : decode (g_m 107).2.1 117 = .ok (.iload 4, 2) := by decide +kernel
theorem d_107_119 : decode (g_m 107).2.1 119 = .ok (.iconst 1, 1) := by decide +kernel
theorem d_107_120 : decode (g_m 107).2.1 120 = .ok (.bastore, 1) := by decide +kernel
theorem d_107_121 : decode (g_m 107).2.1 121 = .ok (.iinc 1 1, 3) := by decide +kernel
theorem d_107_124 : decode (g_m 107).2.1 124 = .ok (.iconst 1, 1) := by decide +kernel
theorem d_107_125 : decode (g_m 107).2.1 125 = .ok (.istore_n 2, 1) := by decide +kernel
theorem d_107_126 : decode (g_m 107).2.1 126 = .ok (.iinc 4 1, 3) := by decide +kernel
theorem d_107_129 : decode (g_m 107).2.1 129 = .ok (.goto (-55), 3) := by decide +kernel
theorem d_107_132 : decode (g_m 107).2.1 132 = .ok (.iinc 3 1, 3) := by decide +kernel
theorem d_107_135 : decode (g_m 107).2.1 135 = .ok (.goto (-72), 3) := by decide +kernel
theorem d_107_138 : decode (g_m 107).2.1 138 = .ok (.goto (-83), 3) := by decide +kernel
theorem d_107_141 : decode (g_m 107).2.1 141 = .ok (.iload_n 1, 1) := by decide +kernel
theorem d_107_142 : decode (g_m 107).2.1 142 = .ok (.ireturn, 1) := by decide +kernel
theorem d_108_0 : decode (g_m 108).2.1 0 = .ok (.aload_n 0, 1) := by decide +kernel
theorem d_108_1 : decode (g_m 108).2.1 1 = .ok (.iconst 0, 1) := by decide +kernel
theorem d_108_2 : decode (g_m 108).2.1 2 = .ok (.putfield 1, 3) := by decide +kernel
theorem d_108_5 : decode (g_m 108).2.1 5 = .ok (.iconst 0, 1) := by decide +kernel
theorem d_108_6 : decode (g_m 108).2.1 6 = .ok (.istore_n 2, 1) := by decide +kernel
theorem d_108_7 : decode (g_m 108).2.1 7 = .ok (.iconst 0, 1) := by decide +kernel
theorem d_108_8 : decode (g_m 108).2.1 8 = .ok (.istore_n 3, 1) := by decide +kernel
theorem d_108_9 : decode (g_m 108).2.1 9 = .ok (.iconst 0, 1) := by decide +kernel
theorem d_108_10 : decode (g_m 108).2.1 10 = .ok (.istore 4, 2) := by decide +kernel
theorem d_108_12 : decode (g_m 108).2.1 12 = .ok (.iconst 0, 1) := by decide +kernel
theorem d_108_13 : decode (g_m 108).2.1 13 = .ok (.istore 5, 2) := by decide +kernel
theorem d_108_15 : decode (g_m 108).2.1 15 = .ok (.iload 5, 2) := by decide +kernel
theorem d_108_17 : decode (g_m 108).2.1 17 = .ok (.aload_n 0, 1) := by decide +kernel
theorem d_108_18 : decode (g_m 108).2.1 18 = .ok (.getfield 76, 3) := by decide +kernel
theorem d_108_21 : decode (g_m 108).2.1 21 = .ok (.if_icmp .ge (65), 3) := by decide +kernel
theorem d_108_24 : decode (g_m 108).2.1 24 = .ok (.aload_n 0, 1) := by decide +kernel
theorem d_108_25 : decode (g_m 108).2.1 25 = .ok (.getfield 27, 3) := by decide +kernel
theorem d_108_28 : decode (g_m 108).2.1 28 = .ok (.iload 5, 2) := by decide +kernel
theorem d_108_30 : decode (g_m 108).2.1 30 = .ok (.baload, 1) := by decide +kernel
theorem d_108_31 : decode (g_m 108).2.1 31 = .ok (.ifCond .eq (9), 3) := by decide +kernel
theorem d_108_34 : decode (g_m 108).2.1 34 = .ok (.iload_n 2, 1) := by decide +kernel
theorem d_108_35 : decode (g_m 108).2.1 35 = .ok (.iconst 1, 1) := by decide +kernel
theorem d_108_36 : decode (g_m 108).2.1 36 = .ok (.iadd, 1) := by decide +kernel
theorem d_108_37 : decode (g_m 108).2.1 37 = .ok (.goto (4), 3) := by decide +kernel
theorem d_108_40 : decode (g_m 108).2.1 40 = .ok (.iload_n 2, 1) := by decide +kernel
theorem d_108_41 : decode (g_m 108).2.1 41 = .ok (.istore_n 2, 1) := by decide +kernel
theorem d_108_42 : decode (g_m 108).2.1 42 = .ok (.aload_n 0, 1) := by decide +kernel
theorem d_108_43 : decode (g_m 108).2.1 43 = .ok (.getfield 23, 3) := by decide +kernel
theorem d_108_46 : decode (g_m 108).2.1 46 = .ok (.iload 5, 2) := by decide +kernel
theorem d_108_48 : decode (g_m 108).2.1 48 = .ok (.baload, 1) := by decide +kernel
theorem d_108_49 : decode (g_m 108).2.1 49 = .ok (.ifCond .eq (9), 3) := by decide +kernel
theorem d_108_52 : decode (g_m 108).2.1 52 = .ok (.iload_n 3, 1) := by decide +kernel
theorem d_108_53 : decode (g_m 108).2.1 53 = .ok (.iconst 1, 1) := by decide +kernel
theorem d_108_54 : decode (g_m 108).2.1 54 = .ok (.iadd, 1) := by decide +kernel
theorem d_108_55 : decode (g_m 108).2.1 55 = .ok (.goto (4), 3) := by decide +kernel
theorem d_108_58 : decode (g_m 108).2.1 58 = .ok (.iload_n 3, 1) := by decide +kernel
theorem d_108_59 : decode (g_m 108).2.1 59 = .ok (.istore_n 3, 1) := by decide +kernel
theorem d_108_60 : decode (g_m 108).2.1 60 = .ok (.aload_n 0, 1) := by decide +kernel
theorem d_108_61 : decode (g_m 108).2.1 61 = .ok (.iload 5, 2) := by decide +kernel
theorem d_108_63 : decode (g_m 108).2.1 63 = .ok (.invokevirtual 174, 3) := by decide +kernel
theorem d_108_66 : decode (g_m 108).2.1 66 = .ok (.ifCond .eq (10), 3) := by decide +kernel
theorem d_108_69 : decode (g_m 108).2.1 69 = .ok (.iload 4, 2) := by decide +kernel
theorem d_108_71 : decode (g_m 108).2.1 71 = .ok (.iconst 1, 1) := by decide +kernel
theorem d_108_72 : decode (g_m 108).2.1 72 = .ok (.iadd, 1) := by decide +kernel
theorem d_108_73 : decode (g_m 108).2.1 73 = .ok (.goto (5), 3) := by decide +kernel
theorem d_108_76 : decode (g_m 108).2.1 76 = .ok (.iload 4, 2) := by decide +kernel
theorem d_108_78 : decode (g_m 108).2.1 78 = .ok (.istore 4, 2) := by decide +kernel
theorem d_108_80 : decode (g_m 108).2.1 80 = .ok (.iinc 5 1, 3) := by decide +kernel
theorem d_108_83 : decode (g_m 108).2.1 83 = .ok (.goto (-68), 3) := by decide +kernel
theorem d_108_86 : decode (g_m 108).2.1 86 = .ok (.iload_n 1, 1) := by decide +kernel
theorem d_108_87 : decode (g_m 108).2.1 87 = .ok (.tableswitch 86 0 8 #[49, 54, 56, 58, 61, 66, 71, 76, 81], 49) := by decide +kernel
theorem d_108_136 : decode (g_m 108).2.1 136 = .ok (.aload_n 0, 1) := by decide +kernel
theorem d_108_137 : decode (g_m 108).2.1 137 = .ok (.getfield 76, 3) := by decide +kernel
theorem d_108_140 : decode (g_m 108).2.1 140 = .ok (.ireturn, 1) := by decide +kernel
theorem d_108_141 : decode (g_m 108).2.1 141 = .ok (.iload_n 2, 1) := by decide +kernel
theorem d_108_142 : decode (g_m 108).2.1 142 = .ok (.ireturn, 1) := by decide +kernel
theorem d_108_143 : decode (g_m 108).2.1 143 = .ok (.iload_n 3, 1) := by decide +kernel
theorem d_108_144 : decode (g_m 108).2.1 144 = .ok (.ireturn, 1) := by decide +kernel
theorem d_108_145 : decode (g_m 108).2.1 145 = .ok (.iload 4, 2) := by decide +kernel
theorem d_108_147 : decode (g_m 108).2.1 147 = .ok (.ireturn, 1) := by decide +kernel
theorem d_108_148 : decode (g_m 108).2.1 148 = .ok (.aload_n 0, 1) := by decide +kernel
theorem d_108_149 : decode (g_m 108).2.1 149 = .ok (.getfield 70, 3) := by decide +kernel
theorem d_108_152 : decode (g_m 108).2.1 152 = .ok (.ireturn, 1) := by decide +kernel
theorem d_108_153 : decode (g_m 108).2.1 153 = .ok (.aload_n 0, 1) := by decide +kernel
theorem d_108_154 : decode (g_m 108).2.1 154 = .ok (.getfield 83, 3) := by decide +kernel
theorem d_108_157 : decode (g_m 108).2.1 157 = .ok (.ireturn, 1) := by decide +kernel
theorem d_108_158 : decode (g_m 108).2.1 158 = .ok (.aload_n 0, 1) := by decide +kernel
theorem d_108_159 : decode (g_m 108).2.1 159 = .ok (.getfield 13, 3) := by decide +kernel
theorem d_108_162 : decode (g_m 108).2.1 162 = .ok (.ireturn, 1) := by decide +kernel
theorem d_108_163 : decode (g_m 108).2.1 163 = .ok (.aload_n 0, 1) := by decide +kernel
theorem d_108_164 : decode (g_m 108).2.1 164 = .ok (.getfield 16, 3) := by decide +kernel
theorem d_108_167 : decode (g_m 108).2.1 167 = .ok (.ireturn, 1) := by decide +kernel
theorem d_108_168 : decode (g_m 108).2.1 168 = .ok (.aload_n 0, 1) := by decide +kernel
theorem d_108_169 : decode (g_m 108).2.1 169 = .ok (.getfield 164, 3) := by decide +kernel
theorem d_108_172 : decode (g_m 108).2.1 172 = .ok (.ireturn, 1) := by decide +kernel
theorem d_108_173 : decode (g_m 108).2.1 173 = .ok (.iconst (-1), 1) := by decide +kernel
theorem d_108_174 : decode (g_m 108).2.1 174 = .ok (.ireturn, 1) := by decide +kernel
