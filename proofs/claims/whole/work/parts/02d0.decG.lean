theorem d_2_0 : decode (g_m 2).2.1 0 = .ok (.aload_n 0, 1) := by decide +kernel
theorem d_2_1 : decode (g_m 2).2.1 1 = .ok (.invokespecial 5, 3) := by decide +kernel
theorem d_2_4 : decode (g_m 2).2.1 4 = .ok (.aload_n 0, 1) := by decide +kernel
theorem d_2_5 : decode (g_m 2).2.1 5 = .ok (.aload_n 1, 1) := by decide +kernel
theorem d_2_6 : decode (g_m 2).2.1 6 = .ok (.putfield 11, 3) := by decide +kernel
theorem d_2_9 : decode (g_m 2).2.1 9 = .ok (.aload_n 0, 1) := by decide +kernel
theorem d_2_10 : decode (g_m 2).2.1 10 = .ok (.iload_n 2, 1) := by decide +kernel
theorem d_2_11 : decode (g_m 2).2.1 11 = .ok (.putfield 15, 3) := by decide +kernel
theorem d_2_14 : decode (g_m 2).2.1 14 = .ok (.aload_n 0, 1) := by decide +kernel
theorem d_2_15 : decode (g_m 2).2.1 15 = .ok (.bipush (-2), 2) := by decide +kernel
theorem d_2_17 : decode (g_m 2).2.1 17 = .ok (.putfield 19, 3) := by decide +kernel
theorem d_2_20 : decode (g_m 2).2.1 20 = .ok (.aload_n 0, 1) := by decide +kernel
theorem d_2_21 : decode (g_m 2).2.1 21 = .ok (.iconst 4, 1) := by decide +kernel
theorem d_2_22 : decode (g_m 2).2.1 22 = .ok (.putfield 22, 3) := by decide +kernel
theorem d_2_25 : decode (g_m 2).2.1 25 = .ok (.aload_n 0, 1) := by decide +kernel
theorem d_2_26 : decode (g_m 2).2.1 26 = .ok (.iconst 1, 1) := by decide +kernel
theorem d_2_27 : decode (g_m 2).2.1 27 = .ok (.putfield 25, 3) := by decide +kernel
theorem d_2_30 : decode (g_m 2).2.1 30 = .ok (.aload_n 0, 1) := by decide +kernel
theorem d_2_31 : decode (g_m 2).2.1 31 = .ok (.iconst 0, 1) := by decide +kernel
theorem d_2_32 : decode (g_m 2).2.1 32 = .ok (.putfield 29, 3) := by decide +kernel
theorem d_2_35 : decode (g_m 2).2.1 35 = .ok (.aload_n 0, 1) := by decide +kernel
theorem d_2_36 : decode (g_m 2).2.1 36 = .ok (.sipush 3600, 3) := by decide +kernel
theorem d_2_39 : decode (g_m 2).2.1 39 = .ok (.newarray .int, 2) := by decide +kernel
theorem d_2_41 : decode (g_m 2).2.1 41 = .ok (.putfield 32, 3) := by decide +kernel
theorem d_2_44 : decode (g_m 2).2.1 44 = .ok (.aload_n 0, 1) := by decide +kernel
theorem d_2_45 : decode (g_m 2).2.1 45 = .ok (.sipush 500, 3) := by decide +kernel
theorem d_2_48 : decode (g_m 2).2.1 48 = .ok (.newarray .int, 2) := by decide +kernel
theorem d_2_50 : decode (g_m 2).2.1 50 = .ok (.putfield 36, 3) := by decide +kernel
theorem d_2_53 : decode (g_m 2).2.1 53 = .ok (.aload_n 0, 1) := by decide +kernel
theorem d_2_54 : decode (g_m 2).2.1 54 = .ok (.bipush 100, 2) := by decide +kernel
theorem d_2_56 : decode (g_m 2).2.1 56 = .ok (.newarray .boolean, 2) := by decide +kernel
theorem d_2_58 : decode (g_m 2).2.1 58 = .ok (.putfield 39, 3) := by decide +kernel
theorem d_2_61 : decode (g_m 2).2.1 61 = .ok (.aload_n 0, 1) := by decide +kernel
theorem d_2_62 : decode (g_m 2).2.1 62 = .ok (.bipush 100, 2) := by decide +kernel
theorem d_2_64 : decode (g_m 2).2.1 64 = .ok (.newarray .int, 2) := by decide +kernel
theorem d_2_66 : decode (g_m 2).2.1 66 = .ok (.putfield 43, 3) := by decide +kernel
theorem d_2_69 : decode (g_m 2).2.1 69 = .ok (.aload_n 0, 1) := by decide +kernel
theorem d_2_70 : decode (g_m 2).2.1 70 = .ok (.new 46, 3) := by decide +kernel
theorem d_2_73 : decode (g_m 2).2.1 73 = .ok (.dup, 1) := by decide +kernel
theorem d_2_74 : decode (g_m 2).2.1 74 = .ok (.bipush 61, 2) := by decide +kernel
theorem d_2_76 : decode (g_m 2).2.1 76 = .ok (.invokespecial 48, 3) := by decide +kernel
theorem d_2_79 : decode (g_m 2).2.1 79 = .ok (.putfield 51, 3) := by decide +kernel
theorem d_2_82 : decode (g_m 2).2.1 82 = .ok (.aload_n 0, 1) := by decide +kernel
theorem d_2_83 : decode (g_m 2).2.1 83 = .ok (.new 46, 3) := by decide +kernel
theorem d_2_86 : decode (g_m 2).2.1 86 = .ok (.dup, 1) := by decide +kernel
theorem d_2_87 : decode (g_m 2).2.1 87 = .ok (.bipush 100, 2) := by decide +kernel
theorem d_2_89 : decode (g_m 2).2.1 89 = .ok (.invokespecial 48, 3) := by decide +kernel
theorem d_2_92 : decode (g_m 2).2.1 92 = .ok (.putfield 55, 3) := by decide +kernel
theorem d_2_95 : decode (g_m 2).2.1 95 = .ok (.aload_n 0, 1) := by decide +kernel
theorem d_2_96 : decode (g_m 2).2.1 96 = .ok (.new 46, 3) := by decide +kernel
theorem d_2_99 : decode (g_m 2).2.1 99 = .ok (.dup, 1) := by decide +kernel
theorem d_2_100 : decode (g_m 2).2.1 100 = .ok (.bipush 13, 2) := by decide +kernel
theorem d_2_102 : decode (g_m 2).2.1 102 = .ok (.invokespecial 48, 3) := by decide +kernel
theorem d_2_105 : decode (g_m 2).2.1 105 = .ok (.putfield 58, 3) := by decide +kernel
theorem d_2_108 : decode (g_m 2).2.1 108 = .ok (.return_, 1) := by decide +kernel
theorem d_9_0 : decode (g_m 9).2.1 0 = .ok (.aload_n 0, 1) := by decide +kernel
theorem d_9_1 : decode (g_m 9).2.1 1 = .ok (.getfield 19, 3) := by decide +kernel
theorem d_9_4 : decode (g_m 9).2.1 4 = .ok (.bipush (-2), 2) := by decide +kernel
theorem d_9_6 : decode (g_m 9).2.1 6 = .ok (.if_icmp .ne (9), 3) := by decide +kernel
theorem d_9_9 : decode (g_m 9).2.1 9 = .ok (.aload_n 0, 1) := by decide +kernel
theorem d_9_10 : decode (g_m 9).2.1 10 = .ok (.iload_n 1, 1) := by decide +kernel
theorem d_9_11 : decode (g_m 9).2.1 11 = .ok (.putfield 19, 3) := by decide +kernel
theorem d_9_14 : decode (g_m 9).2.1 14 = .ok (.return_, 1) := by decide +kernel
theorem d_9_15 : decode (g_m 9).2.1 15 = .ok (.aload_n 0, 1) := by decide +kernel
theorem d_9_16 : decode (g_m 9).2.1 16 = .ok (.iload_n 1, 1) := by decide +kernel
theorem d_9_17 : decode (g_m 9).2.1 17 = .ok (.invokevirtual 75, 3) := by decide +kernel
theorem d_9_20 : decode (g_m 9).2.1 20 = .ok (.istore_n 2, 1) := by decide +kernel
theorem d_9_21 : decode (g_m 9).2.1 21 = .ok (.aload_n 0, 1) := by decide +kernel
theorem d_9_22 : decode (g_m 9).2.1 22 = .ok (.aload_n 0, 1) := by decide +kernel
theorem d_9_23 : decode (g_m 9).2.1 23 = .ok (.getfield 19, 3) := by decide +kernel
theorem d_9_26 : decode (g_m 9).2.1 26 = .ok (.invokevirtual 75, 3) := by decide +kernel
theorem d_9_29 : decode (g_m 9).2.1 29 = .ok (.istore_n 3, 1) := by decide +kernel
theorem d_9_30 : decode (g_m 9).2.1 30 = .ok (.aload_n 0, 1) := by decide +kernel
theorem d_9_31 : decode (g_m 9).2.1 31 = .ok (.iload_n 3, 1) := by decide +kernel
theorem d_9_32 : decode (g_m 9).2.1 32 = .ok (.iload_n 2, 1) := by decide +kernel
theorem d_9_33 : decode (g_m 9).2.1 33 = .ok (.iload_n 1, 1) := by decide +kernel
theorem d_9_34 : decode (g_m 9).2.1 34 = .ok (.invokevirtual 79, 3) := by decide +kernel
theorem d_9_37 : decode (g_m 9).2.1 37 = .ok (.istore 4, 2) := by decide +kernel
theorem d_9_39 : decode (g_m 9).2.1 39 = .ok (.iload_n 2, 1) := by decide +kernel
theorem d_9_40 : decode (g_m 9).2.1 40 = .ok (.iload_n 3, 1) := by decide +kernel
theorem d_9_41 : decode (g_m 9).2.1 41 = .ok (.invokestatic 83, 3) := by decide +kernel
theorem d_9_44 : decode (g_m 9).2.1 44 = .ok (.istore 5, 2) := by decide +kernel
theorem d_9_46 : decode (g_m 9).2.1 46 = .ok (.iload 5, 2) := by decide +kernel
theorem d_9_48 : decode (g_m 9).2.1 48 = .ok (.ifCond .lt (20), 3) := by decide +kernel
theorem d_9_51 : decode (g_m 9).2.1 51 = .ok (.aload_n 0, 1) := by decide +kernel
theorem d_9_52 : decode (g_m 9).2.1 52 = .ok (.iload_n 1, 1) := by decide +kernel
theorem d_9_53 : decode (g_m 9).2.1 53 = .ok (.iload 5, 2) := by decide +kernel
theorem d_9_55 : decode (g_m 9).2.1 55 = .ok (.iload 4, 2) := by decide +kernel
theorem d_9_57 : decode (g_m 9).2.1 57 = .ok (.invokevirtual 88, 3) := by decide +kernel
theorem d_9_60 : decode (g_m 9).2.1 60 = .ok (.istore 4, 2) := by decide +kernel
theorem d_9_62 : decode (g_m 9).2.1 62 = .ok (.iinc 5 (-1), 3) := by decide +kernel
theorem d_9_65 : decode (g_m 9).2.1 65 = .ok (.goto (-19), 3) := by decide +kernel
theorem d_9_68 : decode (g_m 9).2.1 68 = .ok (.iload_n 2, 1) := by decide +kernel
theorem d_9_69 : decode (g_m 9).2.1 69 = .ok (.iload_n 3, 1) := by decide +kernel
theorem d_9_70 : decode (g_m 9).2.1 70 = .ok (.if_icmp .le (8), 3) := by decide +kernel
theorem d_9_73 : decode (g_m 9).2.1 73 = .ok (.aload_n 0, 1) := by decide +kernel
theorem d_9_74 : decode (g_m 9).2.1 74 = .ok (.iload_n 1, 1) := by decide +kernel
theorem d_9_75 : decode (g_m 9).2.1 75 = .ok (.putfield 19, 3) := by decide +kernel
theorem d_9_78 : decode (g_m 9).2.1 78 = .ok (.return_, 1) := by decide +kernel
theorem d_10_0 : decode (g_m 10).2.1 0 = .ok (.aload_n 0, 1) := by decide +kernel
theorem d_10_1 : decode (g_m 10).2.1 1 = .ok (.getfield 15, 3) := by decide +kernel
theorem d_10_4 : decode (g_m 10).2.1 4 = .ok (.iload_n 1, 1) := by decide +kernel
theorem d_10_5 : decode (g_m 10).2.1 5 = .ok (.ixor, 1) := by decide +kernel
theorem d_10_6 : decode (g_m 10).2.1 6 = .ok (.ldc 61, 2) := by decide +kernel
theorem d_10_8 : decode (g_m 10).2.1 8 = .ok (.imul, 1) := by decide +kernel
theorem d_10_9 : decode (g_m 10).2.1 9 = .ok (.istore_n 2, 1) := by decide +kernel
theorem d_10_10 : decode (g_m 10).2.1 10 = .ok (.iload_n 2, 1) := by decide +kernel
theorem d_10_11 : decode (g_m 10).2.1 11 = .ok (.iload_n 2, 1) := by decide +kernel
theorem d_10_12 : decode (g_m 10).2.1 12 = .ok (.bipush 16, 2) := by decide +kernel
theorem d_10_14 : decode (g_m 10).2.1 14 = .ok (.iushr, 1) := by decide +kernel
theorem d_10_15 : decode (g_m 10).2.1 15 = .ok (.ixor, 1) := by decide +kernel
theorem d_10_16 : decode (g_m 10).2.1 16 = .ok (.istore_n 2, 1) := by decide +kernel
theorem d_10_17 : decode (g_m 10).2.1 17 = .ok (.iload_n 2, 1) := by decide +kernel
theorem d_10_18 : decode (g_m 10).2.1 18 = .ok (.ldc 62, 2) := by decide +kernel
theorem d_10_20 : decode (g_m 10).2.1 20 = .ok (.imul, 1) := by decide +kernel
theorem d_10_21 : decode (g_m 10).2.1 21 = .ok (.istore_n 2, 1) := by decide +kernel
theorem d_10_22 : decode (g_m 10).2.1 22 = .ok (.iload_n 2, 1) := by decide +kernel
theorem d_10_23 : decode (g_m 10).2.1 23 = .ok (.iload_n 2, 1) := by decide +kernel
theorem d_10_24 : decode (g_m 10).2.1 24 = .ok (.bipush 13, 2) := by decide +kernel
theorem d_10_26 : decode (g_m 10).2.1 26 = .ok (.iushr, 1) := by decide +kernel
theorem d_10_27 : decode (g_m 10).2.1 27 = .ok (.ixor, 1) := by decide +kernel
theorem d_10_28 : decode (g_m 10).2.1 28 = .ok (.istore_n 2, 1) := by decide +kernel
theorem d_10_29 : decode (g_m 10).2.1 29 = .ok (.iconst 0, 1) := by decide +kernel
theorem d_10_30 : decode (g_m 10).2.1 30 = .ok (.istore_n 3, 1) := by decide +kernel
theorem d_10_31 : decode (g_m 10).2.1 31 = .ok (.iload_n 3, 1) := by decide +kernel
theorem d_10_32 : decode (g_m 10).2.1 32 = .ok (.iconst 4, 1) := by decide +kernel
theorem d_10_33 : decode (g_m 10).2.1 33 = .ok (.if_icmp .ge (19), 3) := by decide +kernel
theorem d_10_36 : decode (g_m 10).2.1 36 = .ok (.iload_n 2, 1) := by decide +kernel
theorem d_10_37 : decode (g_m 10).2.1 37 = .ok (.iconst 3, 1) := by decide +kernel
theorem d_10_38 : decode (g_m 10).2.1 38 = .ok (.iand, 1) := by decide +kernel
theorem d_10_39 : decode (g_m 10).2.1 39 = .ok (.ifCond .ne (13), 3) := by decide +kernel
theorem d_10_42 : decode (g_m 10).2.1 42 = .ok (.iload_n 2, 1) := by decide +kernel
theorem d_10_43 : decode (g_m 10).2.1 43 = .ok (.iconst 2, 1) := by decide +kernel
theorem d_10_44 : decode (g_m 10).2.1 44 = .ok (.iushr, 1) := by decide +kernel
theorem d_10_45 : decode (g_m 10).2.1 45 = .ok (.istore_n 2, 1) := by decide +kernel
theorem d_10_46 : decode (g_m 10).2.1 46 = .ok (.iinc 3 1, 3) := by decide +kernel
theorem d_10_49 : decode (g_m 10).2.1 49 = .ok (.goto (-18), 3) := by decide +kernel
theorem d_10_52 : decode (g_m 10).2.1 52 = .ok (.iload_n 3, 1) := by decide +kernel
theorem d_10_53 : decode (g_m 10).2.1 53 = .ok (.ireturn, 1) := by decide +kernel
theorem d_11_0 : decode (g_m 11).2.1 0 = .ok (.aload_n 0, 1) := by decide +kernel
theorem d_11_1 : decode (g_m 11).2.1 1 = .ok (.getfield 19, 3) := by decide +kernel
theorem d_11_4 : decode (g_m 11).2.1 4 = .ok (.istore 4, 2) := by decide +kernel
theorem d_11_6 : decode (g_m 11).2.1 6 = .ok (.iload_n 1, 1) := by decide +kernel
theorem d_11_7 : decode (g_m 11).2.1 7 = .ok (.istore 5, 2) := by decide +kernel
theorem d_11_9 : decode (g_m 11).2.1 9 = .ok (.iload 5, 2) := by decide +kernel
theorem d_11_11 : decode (g_m 11).2.1 11 = .ok (.iload_n 2, 1) := by decide +kernel
theorem d_11_12 : decode (g_m 11).2.1 12 = .ok (.if_icmp .le (29), 3) := by decide +kernel
theorem d_11_15 : decode (g_m 11).2.1 15 = .ok (.aload_n 0, 1) := by decide +kernel
theorem d_11_16 : decode (g_m 11).2.1 16 = .ok (.iload 4, 2) := by decide +kernel
theorem d_11_18 : decode (g_m 11).2.1 18 = .ok (.iload 5, 2) := by decide +kernel
theorem d_11_20 : decode (g_m 11).2.1 20 = .ok (.iconst 1, 1) := by decide +kernel
theorem d_11_21 : decode (g_m 11).2.1 21 = .ok (.iload_n 3, 1) := by decide +kernel
theorem d_11_22 : decode (g_m 11).2.1 22 = .ok (.invokevirtual 94, 3) := by decide +kernel
theorem d_11_25 : decode (g_m 11).2.1 25 = .ok (.aload_n 0, 1) := by decide +kernel
theorem d_11_26 : decode (g_m 11).2.1 26 = .ok (.getfield 51, 3) := by decide +kernel
theorem d_11_29 : decode (g_m 11).2.1 29 = .ok (.iconst 0, 1) := by decide +kernel
theorem d_11_30 : decode (g_m 11).2.1 30 = .ok (.invokevirtual 110, 3) := by decide +kernel
theorem d_11_33 : decode (g_m 11).2.1 33 = .ok (.istore 4, 2) := by decide +kernel
theorem d_11_35 : decode (g_m 11).2.1 35 = .ok (.iinc 5 (-1), 3) := by decide +kernel
theorem d_11_38 : decode (g_m 11).2.1 38 = .ok (.goto (-29), 3) := by decide +kernel
theorem d_11_41 : decode (g_m 11).2.1 41 = .ok (.iload 4, 2) := by decide +kernel
theorem d_11_43 : decode (g_m 11).2.1 43 = .ok (.ireturn, 1) := by decide +kernel
theorem d_12_0 : decode (g_m 12).2.1 0 = .ok (.aload_n 0, 1) := by decide +kernel
theorem d_12_1 : decode (g_m 12).2.1 1 = .ok (.invokevirtual 98, 3) := by decide +kernel
theorem d_12_4 : decode (g_m 12).2.1 4 = .ok (.aload_n 0, 1) := by decide +kernel
theorem d_12_5 : decode (g_m 12).2.1 5 = .ok (.getfield 51, 3) := by decide +kernel
theorem d_12_8 : decode (g_m 12).2.1 8 = .ok (.invokevirtual 91, 3) := by decide +kernel
theorem d_12_11 : decode (g_m 12).2.1 11 = .ok (.aload_n 0, 1) := by decide +kernel
theorem d_12_12 : decode (g_m 12).2.1 12 = .ok (.getfield 55, 3) := by decide +kernel
theorem d_12_15 : decode (g_m 12).2.1 15 = .ok (.invokevirtual 91, 3) := by decide +kernel
theorem d_12_18 : decode (g_m 12).2.1 18 = .ok (.aload_n 0, 1) := by decide +kernel
theorem d_12_19 : decode (g_m 12).2.1 19 = .ok (.iload_n 1, 1) := by decide +kernel
theorem d_12_20 : decode (g_m 12).2.1 20 = .ok (.iload_n 3, 1) := by decide +kernel
theorem d_12_21 : decode (g_m 12).2.1 21 = .ok (.iload 4, 2) := by decide +kernel
theorem d_12_23 : decode (g_m 12).2.1 23 = .ok (.invokevirtual 147, 3) := by decide +kernel
theorem d_12_26 : decode (g_m 12).2.1 26 = .ok (.iconst 0, 1) := by decide +kernel
theorem d_12_27 : decode (g_m 12).2.1 27 = .ok (.istore 5, 2) := by decide +kernel
theorem d_12_29 : decode (g_m 12).2.1 29 = .ok (.iload 5, 2) := by decide +kernel
theorem d_12_31 : decode (g_m 12).2.1 31 = .ok (.bipush 100, 2) := by decide +kernel
theorem d_12_33 : decode (g_m 12).2.1 33 = .ok (.if_icmp .ge (115), 3) := by decide +kernel
theorem d_12_36 : decode (g_m 12).2.1 36 = .ok (.aload_n 0, 1) := by decide +kernel
theorem d_12_37 : decode (g_m 12).2.1 37 = .ok (.getfield 55, 3) := by decide +kernel
theorem d_12_40 : decode (g_m 12).2.1 40 = .ok (.getfield 135, 3) := by decide +kernel
theorem d_12_43 : decode (g_m 12).2.1 43 = .ok (.ifCond .le (105), 3) := by decide +kernel
theorem d_12_46 : decode (g_m 12).2.1 46 = .ok (.aload_n 0, 1) := by decide +kernel
theorem d_12_47 : decode (g_m 12).2.1 47 = .ok (.getfield 55, 3) := by decide +kernel
theorem d_12_50 : decode (g_m 12).2.1 50 = .ok (.iconst 0, 1) := by decide +kernel
theorem d_12_51 : decode (g_m 12).2.1 51 = .ok (.invokevirtual 110, 3) := by decide +kernel
theorem d_12_54 : decode (g_m 12).2.1 54 = .ok (.istore 6, 2) := by decide +kernel
theorem d_12_56 : decode (g_m 12).2.1 56 = .ok (.aload_n 0, 1) := by decide +kernel
theorem d_12_57 : decode (g_m 12).2.1 57 = .ok (.getfield 55, 3) := by decide +kernel
theorem d_12_60 : decode (g_m 12).2.1 60 = .ok (.iconst 0, 1) := by decide +kernel
theorem d_12_61 : decode (g_m 12).2.1 61 = .ok (.invokevirtual 138, 3) := by decide +kernel
theorem d_12_64 : decode (g_m 12).2.1 64 = .ok (.istore 7, 2) := by decide +kernel
theorem d_12_66 : decode (g_m 12).2.1 66 = .ok (.aload_n 0, 1) := by decide +kernel
theorem d_12_67 : decode (g_m 12).2.1 67 = .ok (.getfield 55, 3) := by decide +kernel
theorem d_12_70 : decode (g_m 12).2.1 70 = .ok (.invokevirtual 150, 3) := by decide +kernel
theorem d_12_73 : decode (g_m 12).2.1 73 = .ok (.aload_n 0, 1) := by decide +kernel
theorem d_12_74 : decode (g_m 12).2.1 74 = .ok (.getfield 51, 3) := by decide +kernel
theorem d_12_77 : decode (g_m 12).2.1 77 = .ok (.getfield 135, 3) := by decide +kernel
theorem d_12_80 : decode (g_m 12).2.1 80 = .ok (.iload_n 3, 1) := by decide +kernel
theorem d_12_81 : decode (g_m 12).2.1 81 = .ok (.if_icmp .lt (20), 3) := by decide +kernel
theorem d_12_84 : decode (g_m 12).2.1 84 = .ok (.aload_n 0, 1) := by decide +kernel
theorem d_12_85 : decode (g_m 12).2.1 85 = .ok (.getfield 51, 3) := by decide +kernel
theorem d_12_88 : decode (g_m 12).2.1 88 = .ok (.iload 6, 2) := by decide +kernel
theorem d_12_90 : decode (g_m 12).2.1 90 = .ok (.iload 7, 2) := by decide +kernel
theorem d_12_92 : decode (g_m 12).2.1 92 = .ok (.invokevirtual 153, 3) := by decide +kernel
theorem d_12_95 : decode (g_m 12).2.1 95 = .ok (.ifCond .eq (6), 3) := by decide +kernel
theorem d_12_98 : decode (g_m 12).2.1 98 = .ok (.goto (50), 3) := by decide +kernel
theorem d_12_101 : decode (g_m 12).2.1 101 = .ok (.aload_n 0, 1) := by decide +kernel
theorem d_12_102 : decode (g_m 12).2.1 102 = .ok (.iload 6, 2) := by decide +kernel
theorem d_12_104 : decode (g_m 12).2.1 104 = .ok (.iload_n 2, 1) := by decide +kernel
theorem d_12_105 : decode (g_m 12).2.1 105 = .ok (.invokevirtual 104, 3) := by decide +kernel
theorem d_12_108 : decode (g_m 12).2.1 108 = .ok (.istore 8, 2) := by decide +kernel
theorem d_12_110 : decode (g_m 12).2.1 110 = .ok (.iconst 0, 1) := by decide +kernel
theorem d_12_111 : decode (g_m 12).2.1 111 = .ok (.istore 9, 2) := by decide +kernel
theorem d_12_113 : decode (g_m 12).2.1 113 = .ok (.iload 9, 2) := by decide +kernel
theorem d_12_115 : decode (g_m 12).2.1 115 = .ok (.iload 8, 2) := by decide +kernel
theorem d_12_117 : decode (g_m 12).2.1 117 = .ok (.if_icmp .ge (25), 3) := by decide +kernel
theorem d_12_120 : decode (g_m 12).2.1 120 = .ok (.aload_n 0, 1) := by decide +kernel
theorem d_12_121 : decode (g_m 12).2.1 121 = .ok (.aload_n 0, 1) := by decide +kernel
theorem d_12_122 : decode (g_m 12).2.1 122 = .ok (.iload 6, 2) := by decide +kernel
theorem d_12_124 : decode (g_m 12).2.1 124 = .ok (.iload_n 2, 1) := by decide +kernel
theorem d_12_125 : decode (g_m 12).2.1 125 = .ok (.iload 9, 2) := by decide +kernel
theorem d_12_127 : decode (g_m 12).2.1 127 = .ok (.invokevirtual 107, 3) := by decide +kernel
theorem d_12_130 : decode (g_m 12).2.1 130 = .ok (.iload_n 3, 1) := by decide +kernel
theorem d_12_131 : decode (g_m 12).2.1 131 = .ok (.iload 4, 2) := by decide +kernel
theorem d_12_133 : decode (g_m 12).2.1 133 = .ok (.invokevirtual 147, 3) := by decide +kernel
theorem d_12_136 : decode (g_m 12).2.1 136 = .ok (.iinc 9 1, 3) := by decide +kernel
theorem d_12_139 : decode (g_m 12).2.1 139 = .ok (.goto (-26), 3) := by decide +kernel
theorem d_12_142 : decode (g_m 12).2.1 142 = .ok (.iinc 5 1, 3) := by decide +kernel
theorem d_12_145 : decode (g_m 12).2.1 145 = .ok (.goto (-116), 3) := by decide +kernel
theorem d_12_148 : decode (g_m 12).2.1 148 = .ok (.return_, 1) := by decide +kernel
theorem d_13_0 : decode (g_m 13).2.1 0 = .ok (.iconst 0, 1) := by decide +kernel
theorem d_13_1 : decode (g_m 13).2.1 1 = .ok (.istore_n 1, 1) := by decide +kernel
theorem d_13_2 : decode (g_m 13).2.1 2 = .ok (.iload_n 1, 1) := by decide +kernel
theorem d_13_3 : decode (g_m 13).2.1 3 = .ok (.aload_n 0, 1) := by decide +kernel
theorem d_13_4 : decode (g_m 13).2.1 4 = .ok (.getfield 39, 3) := by decide +kernel
theorem d_13_7 : decode (g_m 13).2.1 7 = .ok (.arraylength, 1) := by decide +kernel
theorem d_13_8 : decode (g_m 13).2.1 8 = .ok (.if_icmp .ge (16), 3) := by decide +kernel
theorem d_13_11 : decode (g_m 13).2.1 11 = .ok (.aload_n 0, 1) := by decide +kernel
theorem d_13_12 : decode (g_m 13).2.1 12 = .ok (.getfield 39, 3) := by decide +kernel
theorem d_13_15 : decode (g_m 13).2.1 15 = .ok (.iload_n 1, 1) := by decide +kernel
theorem d_13_16 : decode (g_m 13).2.1 16 = .ok (.iconst 0, 1) := by decide +kernel
theorem d_13_17 : decode (g_m 13).2.1 17 = .ok (.bastore, 1) := by decide +kernel
theorem d_13_18 : decode (g_m 13).2.1 18 = .ok (.iinc 1 1, 3) := by decide +kernel
theorem d_13_21 : decode (g_m 13).2.1 21 = .ok (.goto (-19), 3) := by decide +kernel
theorem d_13_24 : decode (g_m 13).2.1 24 = .ok (.return_, 1) := by decide +kernel
theorem d_15_0 : decode (g_m 15).2.1 0 = .ok (.aload_n 0, 1) := by decide +kernel
theorem d_15_1 : decode (g_m 15).2.1 1 = .ok (.getfield 11, 3) := by decide +kernel
theorem d_15_4 : decode (g_m 15).2.1 4 = .ok (.iload_n 1, 1) := by decide +kernel
theorem d_15_5 : decode (g_m 15).2.1 5 = .ok (.invokevirtual 157, 3) := by decide +kernel
theorem d_15_8 : decode (g_m 15).2.1 8 = .ok (.ifCond .eq (12), 3) := by decide +kernel
theorem d_15_11 : decode (g_m 15).2.1 11 = .ok (.aload_n 0, 1) := by decide +kernel
theorem d_15_12 : decode (g_m 15).2.1 12 = .ok (.getfield 39, 3) := by decide +kernel
theorem d_15_15 : decode (g_m 15).2.1 15 = .ok (.iload_n 1, 1) := by decide +kernel
theorem d_15_16 : decode (g_m 15).2.1 16 = .ok (.baload, 1) := by decide +kernel
theorem d_15_17 : decode (g_m 15).2.1 17 = .ok (.ifCond .eq (4), 3) := by decide +kernel
theorem d_15_20 : decode (g_m 15).2.1 20 = .ok (.return_, 1) := by decide +kernel
theorem d_15_21 : decode (g_m 15).2.1 21 = .ok (.aload_n 0, 1) := by decide +kernel
theorem d_15_22 : decode (g_m 15).2.1 22 = .ok (.getfield 39, 3) := by decide +kernel
theorem d_15_25 : decode (g_m 15).2.1 25 = .ok (.iload_n 1, 1) := by decide +kernel
theorem d_15_26 : decode (g_m 15).2.1 26 = .ok (.iconst 1, 1) := by decide +kernel
theorem d_15_27 : decode (g_m 15).2.1 27 = .ok (.bastore, 1) := by decide +kernel
theorem d_15_28 : decode (g_m 15).2.1 28 = .ok (.aload_n 0, 1) := by decide +kernel
theorem d_15_29 : decode (g_m 15).2.1 29 = .ok (.dup, 1) := by decide +kernel
theorem d_15_30 : decode (g_m 15).2.1 30 = .ok (.getfield 29, 3) := by decide +kernel
theorem d_15_33 : decode (g_m 15).2.1 33 = .ok (.iconst 1, 1) := by decide +kernel
theorem d_15_34 : decode (g_m 15).2.1 34 = .ok (.iadd, 1) := by decide +kernel
theorem d_15_35 : decode (g_m 15).2.1 35 = .ok (.putfield 29, 3) := by decide +kernel
theorem d_15_38 : decode (g_m 15).2.1 38 = .ok (.aload_n 0, 1) := by decide +kernel
theorem d_15_39 : decode (g_m 15).2.1 39 = .ok (.getfield 11, 3) := by decide +kernel
theorem d_15_42 : decode (g_m 15).2.1 42 = .ok (.iload_n 3, 1) := by decide +kernel
theorem d_15_43 : decode (g_m 15).2.1 43 = .ok (.iload_n 1, 1) := by decide +kernel
theorem d_15_44 : decode (g_m 15).2.1 44 = .ok (.bipush 100, 2) := by decide +kernel
theorem d_15_46 : decode (g_m 15).2.1 46 = .ok (.invokevirtual 128, 3) := by decide +kernel
theorem d_15_49 : decode (g_m 15).2.1 49 = .ok (.istore 4, 2) := by decide +kernel
theorem d_15_51 : decode (g_m 15).2.1 51 = .ok (.aload_n 0, 1) := by decide +kernel
theorem d_15_52 : decode (g_m 15).2.1 52 = .ok (.getfield 51, 3) := by decide +kernel
theorem d_15_55 : decode (g_m 15).2.1 55 = .ok (.getfield 135, 3) := by decide +kernel
theorem d_15_58 : decode (g_m 15).2.1 58 = .ok (.iload_n 2, 1) := by decide +kernel
theorem d_15_59 : decode (g_m 15).2.1 59 = .ok (.if_icmp .lt (16), 3) := by decide +kernel
theorem d_15_62 : decode (g_m 15).2.1 62 = .ok (.aload_n 0, 1) := by decide +kernel
theorem d_15_63 : decode (g_m 15).2.1 63 = .ok (.getfield 51, 3) := by decide +kernel
theorem d_15_66 : decode (g_m 15).2.1 66 = .ok (.iload_n 1, 1) := by decide +kernel
theorem d_15_67 : decode (g_m 15).2.1 67 = .ok (.iload 4, 2) := by decide +kernel
theorem d_15_69 : decode (g_m 15).2.1 69 = .ok (.invokevirtual 153, 3) := by decide +kernel
theorem d_15_72 : decode (g_m 15).2.1 72 = .ok (.ifCond .ne (31), 3) := by decide +kernel
theorem d_15_75 : decode (g_m 15).2.1 75 = .ok (.aload_n 0, 1) := by decide +kernel
theorem d_15_76 : decode (g_m 15).2.1 76 = .ok (.getfield 51, 3) := by decide +kernel
theorem d_15_79 : decode (g_m 15).2.1 79 = .ok (.iload_n 1, 1) := by decide +kernel
theorem d_15_80 : decode (g_m 15).2.1 80 = .ok (.iload 4, 2) := by decide +kernel
theorem d_15_82 : decode (g_m 15).2.1 82 = .ok (.invokevirtual 131, 3) := by decide +kernel
theorem d_15_85 : decode (g_m 15).2.1 85 = .ok (.aload_n 0, 1) := by decide +kernel
theorem d_15_86 : decode (g_m 15).2.1 86 = .ok (.getfield 51, 3) := by decide +kernel
theorem d_15_89 : decode (g_m 15).2.1 89 = .ok (.iload_n 2, 1) := by decide +kernel
theorem d_15_90 : decode (g_m 15).2.1 90 = .ok (.invokevirtual 144, 3) := by decide +kernel
theorem d_15_93 : decode (g_m 15).2.1 93 = .ok (.aload_n 0, 1) := by decide +kernel
theorem d_15_94 : decode (g_m 15).2.1 94 = .ok (.getfield 55, 3) := by decide +kernel
theorem d_15_97 : decode (g_m 15).2.1 97 = .ok (.iload_n 1, 1) := by decide +kernel
theorem d_15_98 : decode (g_m 15).2.1 98 = .ok (.iload 4, 2) := by decide +kernel
theorem d_15_100 : decode (g_m 15).2.1 100 = .ok (.invokevirtual 131, 3) := by decide +kernel
theorem d_15_103 : decode (g_m 15).2.1 103 = .ok (.return_, 1) := by decide +kernel
theorem d_24_0 : decode (g_m 24).2.1 0 = .ok (.aload_n 0, 1) := by decide +kernel
theorem d_24_1 : decode (g_m 24).2.1 1 = .ok (.getfield 36, 3) := by decide +kernel
theorem d_24_4 : decode (g_m 24).2.1 4 = .ok (.iload_n 1, 1) := by decide +kernel
theorem d_24_5 : decode (g_m 24).2.1 5 = .ok (.iconst 5, 1) := by decide +kernel
theorem d_24_6 : decode (g_m 24).2.1 6 = .ok (.imul, 1) := by decide +kernel
theorem d_24_7 : decode (g_m 24).2.1 7 = .ok (.iload_n 2, 1) := by decide +kernel
theorem d_24_8 : decode (g_m 24).2.1 8 = .ok (.iadd, 1) := by decide +kernel
theorem d_24_9 : decode (g_m 24).2.1 9 = .ok (.iaload, 1) := by decide +kernel
theorem d_24_10 : decode (g_m 24).2.1 10 = .ok (.ireturn, 1) := by decide +kernel
theorem d_25_0 : decode (g_m 25).2.1 0 = .ok (.aload_n 0, 1) := by decide +kernel
theorem d_25_1 : decode (g_m 25).2.1 1 = .ok (.getfield 32, 3) := by decide +kernel
theorem d_25_4 : decode (g_m 25).2.1 4 = .ok (.iload_n 1, 1) := by decide +kernel
theorem d_25_5 : decode (g_m 25).2.1 5 = .ok (.iload_n 2, 1) := by decide +kernel
theorem d_25_6 : decode (g_m 25).2.1 6 = .ok (.invokestatic 63, 3) := by decide +kernel
theorem d_25_9 : decode (g_m 25).2.1 9 = .ok (.iload_n 3, 1) := by decide +kernel
theorem d_25_10 : decode (g_m 25).2.1 10 = .ok (.iadd, 1) := by decide +kernel
theorem d_25_11 : decode (g_m 25).2.1 11 = .ok (.iaload, 1) := by decide +kernel
theorem d_25_12 : decode (g_m 25).2.1 12 = .ok (.ireturn, 1) := by decide +kernel
theorem d_26_0 : decode (g_m 26).2.1 0 = .ok (.iload_n 0, 1) := by decide +kernel
theorem d_26_1 : decode (g_m 26).2.1 1 = .ok (.bipush 36, 2) := by decide +kernel
theorem d_26_3 : decode (g_m 26).2.1 3 = .ok (.imul, 1) := by decide +kernel
theorem d_26_4 : decode (g_m 26).2.1 4 = .ok (.istore_n 2, 1) := by decide +kernel
theorem d_26_5 : decode (g_m 26).2.1 5 = .ok (.iload_n 1, 1) := by decide +kernel
theorem d_26_6 : decode (g_m 26).2.1 6 = .ok (.ifCond .ne (7), 3) := by decide +kernel
theorem d_26_9 : decode (g_m 26).2.1 9 = .ok (.iload_n 2, 1) := by decide +kernel
theorem d_26_10 : decode (g_m 26).2.1 10 = .ok (.goto (14), 3) := by decide +kernel
theorem d_26_13 : decode (g_m 26).2.1 13 = .ok (.iload_n 2, 1) := by decide +kernel
theorem d_26_14 : decode (g_m 26).2.1 14 = .ok (.bipush 12, 2) := by decide +kernel
theorem d_26_16 : decode (g_m 26).2.1 16 = .ok (.iadd, 1) := by decide +kernel
theorem d_26_17 : decode (g_m 26).2.1 17 = .ok (.iload_n 1, 1) := by decide +kernel
theorem d_26_18 : decode (g_m 26).2.1 18 = .ok (.iconst 1, 1) := by decide +kernel
theorem d_26_19 : decode (g_m 26).2.1 19 = .ok (.isub, 1) := by decide +kernel
theorem d_26_20 : decode (g_m 26).2.1 20 = .ok (.bipush 6, 2) := by decide +kernel
theorem d_26_22 : decode (g_m 26).2.1 22 = .ok (.imul, 1) := by decide +kernel
theorem d_26_23 : decode (g_m 26).2.1 23 = .ok (.iadd, 1) := by decide +kernel
theorem d_26_24 : decode (g_m 26).2.1 24 = .ok (.ireturn, 1) := by decide +kernel
theorem d_27_0 : decode (g_m 27).2.1 0 = .ok (.aload_n 0, 1) := by decide +kernel
theorem d_27_1 : decode (g_m 27).2.1 1 = .ok (.iload_n 3, 1) := by decide +kernel
theorem d_27_2 : decode (g_m 27).2.1 2 = .ok (.iload_n 2, 1) := by decide +kernel
theorem d_27_3 : decode (g_m 27).2.1 3 = .ok (.bipush 12, 2) := by decide +kernel
theorem d_27_5 : decode (g_m 27).2.1 5 = .ok (.iload_n 1, 1) := by decide +kernel
theorem d_27_6 : decode (g_m 27).2.1 6 = .ok (.invokevirtual 94, 3) := by decide +kernel
theorem d_27_9 : decode (g_m 27).2.1 9 = .ok (.aload_n 0, 1) := by decide +kernel
theorem d_27_10 : decode (g_m 27).2.1 10 = .ok (.getfield 51, 3) := by decide +kernel
theorem d_27_13 : decode (g_m 27).2.1 13 = .ok (.iconst 0, 1) := by decide +kernel
theorem d_27_14 : decode (g_m 27).2.1 14 = .ok (.invokevirtual 110, 3) := by decide +kernel
theorem d_27_17 : decode (g_m 27).2.1 17 = .ok (.istore 4, 2) := by decide +kernel
theorem d_27_19 : decode (g_m 27).2.1 19 = .ok (.aload_n 0, 1) := by decide +kernel
theorem d_27_20 : decode (g_m 27).2.1 20 = .ok (.aload_n 0, 1) := by decide +kernel
theorem d_27_21 : decode (g_m 27).2.1 21 = .ok (.getfield 51, 3) := by decide +kernel
theorem d_27_24 : decode (g_m 27).2.1 24 = .ok (.aload_n 0, 1) := by decide +kernel
theorem d_27_25 : decode (g_m 27).2.1 25 = .ok (.iload_n 2, 1) := by decide +kernel
theorem d_27_26 : decode (g_m 27).2.1 26 = .ok (.invokevirtual 113, 3) := by decide +kernel
theorem d_27_29 : decode (g_m 27).2.1 29 = .ok (.invokevirtual 116, 3) := by decide +kernel
theorem d_27_32 : decode (g_m 27).2.1 32 = .ok (.aload_n 0, 1) := by decide +kernel
theorem d_27_33 : decode (g_m 27).2.1 33 = .ok (.iload_n 1, 1) := by decide +kernel
theorem d_27_34 : decode (g_m 27).2.1 34 = .ok (.iload_n 2, 1) := by decide +kernel
theorem d_27_35 : decode (g_m 27).2.1 35 = .ok (.aload_n 0, 1) := by decide +kernel
theorem d_27_36 : decode (g_m 27).2.1 36 = .ok (.getfield 51, 3) := by decide +kernel
theorem d_27_39 : decode (g_m 27).2.1 39 = .ok (.invokevirtual 120, 3) := by decide +kernel
theorem d_27_42 : decode (g_m 27).2.1 42 = .ok (.aload_n 0, 1) := by decide +kernel
theorem d_27_43 : decode (g_m 27).2.1 43 = .ok (.iload_n 1, 1) := by decide +kernel
theorem d_27_44 : decode (g_m 27).2.1 44 = .ok (.iload_n 2, 1) := by decide +kernel
theorem d_27_45 : decode (g_m 27).2.1 45 = .ok (.invokevirtual 104, 3) := by decide +kernel
theorem d_27_48 : decode (g_m 27).2.1 48 = .ok (.istore 5, 2) := by decide +kernel
theorem d_27_50 : decode (g_m 27).2.1 50 = .ok (.iconst 0, 1) := by decide +kernel
theorem d_27_51 : decode (g_m 27).2.1 51 = .ok (.istore 6, 2) := by decide +kernel
theorem d_27_53 : decode (g_m 27).2.1 53 = .ok (.iload 6, 2) := by decide +kernel
theorem d_27_55 : decode (g_m 27).2.1 55 = .ok (.iload 5, 2) := by decide +kernel
theorem d_27_57 : decode (g_m 27).2.1 57 = .ok (.if_icmp .ge (23), 3) := by decide +kernel
theorem d_27_60 : decode (g_m 27).2.1 60 = .ok (.aload_n 0, 1) := by decide +kernel
theorem d_27_61 : decode (g_m 27).2.1 61 = .ok (.aload_n 0, 1) := by decide +kernel
theorem d_27_62 : decode (g_m 27).2.1 62 = .ok (.iload_n 1, 1) := by decide +kernel
theorem d_27_63 : decode (g_m 27).2.1 63 = .ok (.iload_n 2, 1) := by decide +kernel
theorem d_27_64 : decode (g_m 27).2.1 64 = .ok (.iload 6, 2) := by decide +kernel
theorem d_27_66 : decode (g_m 27).2.1 66 = .ok (.invokevirtual 107, 3) := by decide +kernel
theorem d_27_69 : decode (g_m 27).2.1 69 = .ok (.iload_n 2, 1) := by decide +kernel
theorem d_27_70 : decode (g_m 27).2.1 70 = .ok (.iload_n 1, 1) := by decide +kernel
theorem d_27_71 : decode (g_m 27).2.1 71 = .ok (.invokevirtual 124, 3) := by decide +kernel
theorem d_27_74 : decode (g_m 27).2.1 74 = .ok (.iinc 6 1, 3) := by decide +kernel
theorem d_27_77 : decode (g_m 27).2.1 77 = .ok (.goto (-24), 3) := by decide +kernel
theorem d_27_80 : decode (g_m 27).2.1 80 = .ok (.iload 4, 2) := by decide +kernel
theorem d_27_82 : decode (g_m 27).2.1 82 = .ok (.ireturn, 1) := by decide +kernel
theorem d_28_0 : decode (g_m 28).2.1 0 = .ok (.iload_n 1, 1) := by decide +kernel
theorem d_28_1 : decode (g_m 28).2.1 1 = .ok (.ifCond .ne (12), 3) := by decide +kernel
theorem d_28_4 : decode (g_m 28).2.1 4 = .ok (.iconst 2, 1) := by decide +kernel
theorem d_28_5 : decode (g_m 28).2.1 5 = .ok (.aload_n 0, 1) := by decide +kernel
theorem d_28_6 : decode (g_m 28).2.1 6 = .ok (.getfield 22, 3) := by decide +kernel
theorem d_28_9 : decode (g_m 28).2.1 9 = .ok (.imul, 1) := by decide +kernel
theorem d_28_10 : decode (g_m 28).2.1 10 = .ok (.goto (7), 3) := by decide +kernel
theorem d_28_13 : decode (g_m 28).2.1 13 = .ok (.aload_n 0, 1) := by decide +kernel
theorem d_28_14 : decode (g_m 28).2.1 14 = .ok (.getfield 22, 3) := by decide +kernel
theorem d_28_17 : decode (g_m 28).2.1 17 = .ok (.ireturn, 1) := by decide +kernel
theorem d_29_0 : decode (g_m 29).2.1 0 = .ok (.iconst 0, 1) := by decide +kernel
theorem d_29_1 : decode (g_m 29).2.1 1 = .ok (.istore_n 3, 1) := by decide +kernel
theorem d_29_2 : decode (g_m 29).2.1 2 = .ok (.iconst 0, 1) := by decide +kernel
theorem d_29_3 : decode (g_m 29).2.1 3 = .ok (.istore 4, 2) := by decide +kernel
theorem d_29_5 : decode (g_m 29).2.1 5 = .ok (.iload 4, 2) := by decide +kernel
theorem d_29_7 : decode (g_m 29).2.1 7 = .ok (.aload_n 1, 1) := by decide +kernel
theorem d_29_8 : decode (g_m 29).2.1 8 = .ok (.getfield 135, 3) := by decide +kernel
theorem d_29_11 : decode (g_m 29).2.1 11 = .ok (.if_icmp .ge (96), 3) := by decide +kernel
theorem d_29_14 : decode (g_m 29).2.1 14 = .ok (.iload_n 3, 1) := by decide +kernel
theorem d_29_15 : decode (g_m 29).2.1 15 = .ok (.iload_n 2, 1) := by decide +kernel
theorem d_29_16 : decode (g_m 29).2.1 16 = .ok (.if_icmp .ge (91), 3) := by decide +kernel
theorem d_29_19 : decode (g_m 29).2.1 19 = .ok (.iconst 1, 1) := by decide +kernel
theorem d_29_20 : decode (g_m 29).2.1 20 = .ok (.istore 5, 2) := by decide +kernel
theorem d_29_22 : decode (g_m 29).2.1 22 = .ok (.iconst 0, 1) := by decide +kernel
theorem d_29_23 : decode (g_m 29).2.1 23 = .ok (.istore 6, 2) := by decide +kernel
theorem d_29_25 : decode (g_m 29).2.1 25 = .ok (.aload_n 0, 1) := by decide +kernel
theorem d_29_26 : decode (g_m 29).2.1 26 = .ok (.getfield 25, 3) := by decide +kernel
theorem d_29_29 : decode (g_m 29).2.1 29 = .ok (.ifCond .eq (57), 3) := by decide +kernel
theorem d_29_32 : decode (g_m 29).2.1 32 = .ok (.iload 5, 2) := by decide +kernel
theorem d_29_34 : decode (g_m 29).2.1 34 = .ok (.ifCond .eq (52), 3) := by decide +kernel
theorem d_29_37 : decode (g_m 29).2.1 37 = .ok (.iload 6, 2) := by decide +kernel
theorem d_29_39 : decode (g_m 29).2.1 39 = .ok (.iload_n 3, 1) := by decide +kernel
theorem d_29_40 : decode (g_m 29).2.1 40 = .ok (.if_icmp .ge (46), 3) := by decide +kernel
theorem d_29_43 : decode (g_m 29).2.1 43 = .ok (.aload_n 1, 1) := by decide +kernel
theorem d_29_44 : decode (g_m 29).2.1 44 = .ok (.iload 4, 2) := by decide +kernel
theorem d_29_46 : decode (g_m 29).2.1 46 = .ok (.invokevirtual 138, 3) := by decide +kernel
theorem d_29_49 : decode (g_m 29).2.1 49 = .ok (.aload_n 0, 1) := by decide +kernel
theorem d_29_50 : decode (g_m 29).2.1 50 = .ok (.getfield 11, 3) := by decide +kernel
theorem d_29_53 : decode (g_m 29).2.1 53 = .ok (.aload_n 1, 1) := by decide +kernel
theorem d_29_54 : decode (g_m 29).2.1 54 = .ok (.iload 4, 2) := by decide +kernel
theorem d_29_56 : decode (g_m 29).2.1 56 = .ok (.invokevirtual 110, 3) := by decide +kernel
theorem d_29_59 : decode (g_m 29).2.1 59 = .ok (.aload_n 1, 1) := by decide +kernel
theorem d_29_60 : decode (g_m 29).2.1 60 = .ok (.iload 6, 2) := by decide +kernel
theorem d_29_62 : decode (g_m 29).2.1 62 = .ok (.invokevirtual 110, 3) := by decide +kernel
theorem d_29_65 : decode (g_m 29).2.1 65 = .ok (.bipush 100, 2) := by decide +kernel
theorem d_29_67 : decode (g_m 29).2.1 67 = .ok (.invokevirtual 128, 3) := by decide +kernel
theorem d_29_70 : decode (g_m 29).2.1 70 = .ok (.if_icmp .ge (7), 3) := by decide +kernel
theorem d_29_73 : decode (g_m 29).2.1 73 = .ok (.iconst 1, 1) := by decide +kernel
theorem d_29_74 : decode (g_m 29).2.1 74 = .ok (.goto (4), 3) := by decide +kernel
theorem d_29_77 : decode (g_m 29).2.1 77 = .ok (.iconst 0, 1) := by decide +kernel
theorem d_29_78 : decode (g_m 29).2.1 78 = .ok (.istore 5, 2) := by decide +kernel
theorem d_29_80 : decode (g_m 29).2.1 80 = .ok (.iinc 6 1, 3) := by decide +kernel
theorem d_29_83 : decode (g_m 29).2.1 83 = .ok (.goto (-58), 3) := by decide +kernel
theorem d_29_86 : decode (g_m 29).2.1 86 = .ok (.iload 5, 2) := by decide +kernel
theorem d_29_88 : decode (g_m 29).2.1 88 = .ok (.ifCond .eq (13), 3) := by decide +kernel
theorem d_29_91 : decode (g_m 29).2.1 91 = .ok (.aload_n 1, 1) := by decide +kernel
theorem d_29_92 : decode (g_m 29).2.1 92 = .ok (.iload 4, 2) := by decide +kernel
theorem d_29_94 : decode (g_m 29).2.1 94 = .ok (.iload_n 3, 1) := by decide +kernel
theorem d_29_95 : decode (g_m 29).2.1 95 = .ok (.invokevirtual 141, 3) := by decide +kernel
theorem d_29_98 : decode (g_m 29).2.1 98 = .ok (.iinc 3 1, 3) := by decide +kernel
theorem d_29_101 : decode (g_m 29).2.1 101 = .ok (.iinc 4 1, 3) := by decide +kernel
theorem d_29_104 : decode (g_m 29).2.1 104 = .ok (.goto (-99), 3) := by decide +kernel
theorem d_29_107 : decode (g_m 29).2.1 107 = .ok (.aload_n 1, 1) := by decide +kernel
theorem d_29_108 : decode (g_m 29).2.1 108 = .ok (.iload_n 3, 1) := by decide +kernel
theorem d_29_109 : decode (g_m 29).2.1 109 = .ok (.invokevirtual 144, 3) := by decide +kernel
theorem d_29_112 : decode (g_m 29).2.1 112 = .ok (.return_, 1) := by decide +kernel
theorem d_31_0 : decode (g_m 31).2.1 0 = .ok (.iload_n 1, 1) := by decide +kernel
theorem d_31_1 : decode (g_m 31).2.1 1 = .ok (.iload_n 2, 1) := by decide +kernel
theorem d_31_2 : decode (g_m 31).2.1 2 = .ok (.invokestatic 63, 3) := by decide +kernel
theorem d_31_5 : decode (g_m 31).2.1 5 = .ok (.istore 4, 2) := by decide +kernel
theorem d_31_7 : decode (g_m 31).2.1 7 = .ok (.aload_n 3, 1) := by decide +kernel
theorem d_31_8 : decode (g_m 31).2.1 8 = .ok (.getfield 135, 3) := by decide +kernel
theorem d_31_11 : decode (g_m 31).2.1 11 = .ok (.aload_n 0, 1) := by decide +kernel
theorem d_31_12 : decode (g_m 31).2.1 12 = .ok (.iload_n 2, 1) := by decide +kernel
theorem d_31_13 : decode (g_m 31).2.1 13 = .ok (.invokevirtual 113, 3) := by decide +kernel
theorem d_31_16 : decode (g_m 31).2.1 16 = .ok (.invokestatic 83, 3) := by decide +kernel
theorem d_31_19 : decode (g_m 31).2.1 19 = .ok (.istore 5, 2) := by decide +kernel
theorem d_31_21 : decode (g_m 31).2.1 21 = .ok (.iconst 0, 1) := by decide +kernel
theorem d_31_22 : decode (g_m 31).2.1 22 = .ok (.istore 6, 2) := by decide +kernel
theorem d_31_24 : decode (g_m 31).2.1 24 = .ok (.iload 6, 2) := by decide +kernel
theorem d_31_26 : decode (g_m 31).2.1 26 = .ok (.iload 5, 2) := by decide +kernel
theorem d_31_28 : decode (g_m 31).2.1 28 = .ok (.if_icmp .ge (25), 3) := by decide +kernel
theorem d_31_31 : decode (g_m 31).2.1 31 = .ok (.aload_n 0, 1) := by decide +kernel
theorem d_31_32 : decode (g_m 31).2.1 32 = .ok (.getfield 32, 3) := by decide +kernel
theorem d_31_35 : decode (g_m 31).2.1 35 = .ok (.iload 4, 2) := by decide +kernel
theorem d_31_37 : decode (g_m 31).2.1 37 = .ok (.iload 6, 2) := by decide +kernel
theorem d_31_39 : decode (g_m 31).2.1 39 = .ok (.iadd, 1) := by decide +kernel
theorem d_31_40 : decode (g_m 31).2.1 40 = .ok (.aload_n 3, 1) := by decide +kernel
theorem d_31_41 : decode (g_m 31).2.1 41 = .ok (.iload 6, 2) := by decide +kernel
theorem d_31_43 : decode (g_m 31).2.1 43 = .ok (.invokevirtual 110, 3) := by decide +kernel
theorem d_31_46 : decode (g_m 31).2.1 46 = .ok (.iastore, 1) := by decide +kernel
theorem d_31_47 : decode (g_m 31).2.1 47 = .ok (.iinc 6 1, 3) := by decide +kernel
theorem d_31_50 : decode (g_m 31).2.1 50 = .ok (.goto (-26), 3) := by decide +kernel
theorem d_31_53 : decode (g_m 31).2.1 53 = .ok (.aload_n 0, 1) := by decide +kernel
theorem d_31_54 : decode (g_m 31).2.1 54 = .ok (.getfield 36, 3) := by decide +kernel
theorem d_31_57 : decode (g_m 31).2.1 57 = .ok (.iload_n 1, 1) := by decide +kernel
theorem d_31_58 : decode (g_m 31).2.1 58 = .ok (.iconst 5, 1) := by decide +kernel
theorem d_31_59 : decode (g_m 31).2.1 59 = .ok (.imul, 1) := by decide +kernel
theorem d_31_60 : decode (g_m 31).2.1 60 = .ok (.iload_n 2, 1) := by decide +kernel
theorem d_31_61 : decode (g_m 31).2.1 61 = .ok (.iadd, 1) := by decide +kernel
theorem d_31_62 : decode (g_m 31).2.1 62 = .ok (.iload 5, 2) := by decide +kernel
theorem d_31_64 : decode (g_m 31).2.1 64 = .ok (.iastore, 1) := by decide +kernel
theorem d_31_65 : decode (g_m 31).2.1 65 = .ok (.return_, 1) := by decide +kernel
theorem d_32_0 : decode (g_m 32).2.1 0 = .ok (.aload_n 0, 1) := by decide +kernel
theorem d_32_1 : decode (g_m 32).2.1 1 = .ok (.getfield 58, 3) := by decide +kernel
theorem d_32_4 : decode (g_m 32).2.1 4 = .ok (.invokevirtual 91, 3) := by decide +kernel
theorem d_32_7 : decode (g_m 32).2.1 7 = .ok (.aload_n 0, 1) := by decide +kernel
theorem d_32_8 : decode (g_m 32).2.1 8 = .ok (.iload_n 1, 1) := by decide +kernel
theorem d_32_9 : decode (g_m 32).2.1 9 = .ok (.iload_n 2, 1) := by decide +kernel
theorem d_32_10 : decode (g_m 32).2.1 10 = .ok (.invokevirtual 104, 3) := by decide +kernel
theorem d_32_13 : decode (g_m 32).2.1 13 = .ok (.istore 4, 2) := by decide +kernel
theorem d_32_15 : decode (g_m 32).2.1 15 = .ok (.iconst 0, 1) := by decide +kernel
theorem d_32_16 : decode (g_m 32).2.1 16 = .ok (.istore 5, 2) := by decide +kernel
theorem d_32_18 : decode (g_m 32).2.1 18 = .ok (.iload 5, 2) := by decide +kernel
theorem d_32_20 : decode (g_m 32).2.1 20 = .ok (.iload 4, 2) := by decide +kernel
theorem d_32_22 : decode (g_m 32).2.1 22 = .ok (.if_icmp .ge (40), 3) := by decide +kernel
theorem d_32_25 : decode (g_m 32).2.1 25 = .ok (.aload_n 0, 1) := by decide +kernel
theorem d_32_26 : decode (g_m 32).2.1 26 = .ok (.iload_n 1, 1) := by decide +kernel
theorem d_32_27 : decode (g_m 32).2.1 27 = .ok (.iload_n 2, 1) := by decide +kernel
theorem d_32_28 : decode (g_m 32).2.1 28 = .ok (.iload 5, 2) := by decide +kernel
theorem d_32_30 : decode (g_m 32).2.1 30 = .ok (.invokevirtual 107, 3) := by decide +kernel
theorem d_32_33 : decode (g_m 32).2.1 33 = .ok (.istore 6, 2) := by decide +kernel
theorem d_32_35 : decode (g_m 32).2.1 35 = .ok (.aload_n 0, 1) := by decide +kernel
theorem d_32_36 : decode (g_m 32).2.1 36 = .ok (.getfield 58, 3) := by decide +kernel
theorem d_32_39 : decode (g_m 32).2.1 39 = .ok (.iload 6, 2) := by decide +kernel
theorem d_32_41 : decode (g_m 32).2.1 41 = .ok (.aload_n 0, 1) := by decide +kernel
theorem d_32_42 : decode (g_m 32).2.1 42 = .ok (.getfield 11, 3) := by decide +kernel
theorem d_32_45 : decode (g_m 32).2.1 45 = .ok (.iload_n 1, 1) := by decide +kernel
theorem d_32_46 : decode (g_m 32).2.1 46 = .ok (.iload 6, 2) := by decide +kernel
theorem d_32_48 : decode (g_m 32).2.1 48 = .ok (.bipush 100, 2) := by decide +kernel
theorem d_32_50 : decode (g_m 32).2.1 50 = .ok (.invokevirtual 128, 3) := by decide +kernel
theorem d_32_53 : decode (g_m 32).2.1 53 = .ok (.invokevirtual 131, 3) := by decide +kernel
theorem d_32_56 : decode (g_m 32).2.1 56 = .ok (.iinc 5 1, 3) := by decide +kernel
theorem d_32_59 : decode (g_m 32).2.1 59 = .ok (.goto (-41), 3) := by decide +kernel
theorem d_32_62 : decode (g_m 32).2.1 62 = .ok (.aload_n 0, 1) := by decide +kernel
theorem d_32_63 : decode (g_m 32).2.1 63 = .ok (.getfield 58, 3) := by decide +kernel
theorem d_32_66 : decode (g_m 32).2.1 66 = .ok (.iload_n 3, 1) := by decide +kernel
theorem d_32_67 : decode (g_m 32).2.1 67 = .ok (.aload_n 0, 1) := by decide +kernel
theorem d_32_68 : decode (g_m 32).2.1 68 = .ok (.getfield 11, 3) := by decide +kernel
theorem d_32_71 : decode (g_m 32).2.1 71 = .ok (.iload_n 1, 1) := by decide +kernel
theorem d_32_72 : decode (g_m 32).2.1 72 = .ok (.iload_n 3, 1) := by decide +kernel
theorem d_32_73 : decode (g_m 32).2.1 73 = .ok (.bipush 100, 2) := by decide +kernel
theorem d_32_75 : decode (g_m 32).2.1 75 = .ok (.invokevirtual 128, 3) := by decide +kernel
theorem d_32_78 : decode (g_m 32).2.1 78 = .ok (.invokevirtual 131, 3) := by decide +kernel
theorem d_32_81 : decode (g_m 32).2.1 81 = .ok (.aload_n 0, 1) := by decide +kernel
theorem d_32_82 : decode (g_m 32).2.1 82 = .ok (.getfield 58, 3) := by decide +kernel
theorem d_32_85 : decode (g_m 32).2.1 85 = .ok (.getfield 135, 3) := by decide +kernel
theorem d_32_88 : decode (g_m 32).2.1 88 = .ok (.aload_n 0, 1) := by decide +kernel
theorem d_32_89 : decode (g_m 32).2.1 89 = .ok (.iload_n 2, 1) := by decide +kernel
theorem d_32_90 : decode (g_m 32).2.1 90 = .ok (.invokevirtual 113, 3) := by decide +kernel
theorem d_32_93 : decode (g_m 32).2.1 93 = .ok (.if_icmp .le (16), 3) := by decide +kernel
theorem d_32_96 : decode (g_m 32).2.1 96 = .ok (.aload_n 0, 1) := by decide +kernel
theorem d_32_97 : decode (g_m 32).2.1 97 = .ok (.aload_n 0, 1) := by decide +kernel
theorem d_32_98 : decode (g_m 32).2.1 98 = .ok (.getfield 58, 3) := by decide +kernel
theorem d_32_101 : decode (g_m 32).2.1 101 = .ok (.aload_n 0, 1) := by decide +kernel
theorem d_32_102 : decode (g_m 32).2.1 102 = .ok (.iload_n 2, 1) := by decide +kernel
theorem d_32_103 : decode (g_m 32).2.1 103 = .ok (.invokevirtual 113, 3) := by decide +kernel
theorem d_32_106 : decode (g_m 32).2.1 106 = .ok (.invokevirtual 116, 3) := by decide +kernel
theorem d_32_109 : decode (g_m 32).2.1 109 = .ok (.aload_n 0, 1) := by decide +kernel
theorem d_32_110 : decode (g_m 32).2.1 110 = .ok (.iload_n 1, 1) := by decide +kernel
theorem d_32_111 : decode (g_m 32).2.1 111 = .ok (.iload_n 2, 1) := by decide +kernel
theorem d_32_112 : decode (g_m 32).2.1 112 = .ok (.aload_n 0, 1) := by decide +kernel
theorem d_32_113 : decode (g_m 32).2.1 113 = .ok (.getfield 58, 3) := by decide +kernel
theorem d_32_116 : decode (g_m 32).2.1 116 = .ok (.invokevirtual 120, 3) := by decide +kernel
theorem d_32_119 : decode (g_m 32).2.1 119 = .ok (.return_, 1) := by decide +kernel
theorem d_38_0 : decode (g_m 38).2.1 0 = .ok (.aload_n 0, 1) := by decide +kernel
theorem d_38_1 : decode (g_m 38).2.1 1 = .ok (.bipush (-2), 2) := by decide +kernel
theorem d_38_3 : decode (g_m 38).2.1 3 = .ok (.putfield 19, 3) := by decide +kernel
theorem d_38_6 : decode (g_m 38).2.1 6 = .ok (.iconst 0, 1) := by decide +kernel
theorem d_38_7 : decode (g_m 38).2.1 7 = .ok (.istore_n 1, 1) := by decide +kernel
theorem d_38_8 : decode (g_m 38).2.1 8 = .ok (.iload_n 1, 1) := by decide +kernel
theorem d_38_9 : decode (g_m 38).2.1 9 = .ok (.aload_n 0, 1) := by decide +kernel
theorem d_38_10 : decode (g_m 38).2.1 10 = .ok (.getfield 36, 3) := by decide +kernel
theorem d_38_13 : decode (g_m 38).2.1 13 = .ok (.arraylength, 1) := by decide +kernel
theorem d_38_14 : decode (g_m 38).2.1 14 = .ok (.if_icmp .ge (16), 3) := by decide +kernel
theorem d_38_17 : decode (g_m 38).2.1 17 = .ok (.aload_n 0, 1) := by decide +kernel
theorem d_38_18 : decode (g_m 38).2.1 18 = .ok (.getfield 36, 3) := by decide +kernel
theorem d_38_21 : decode (g_m 38).2.1 21 = .ok (.iload_n 1, 1) := by decide +kernel
theorem d_38_22 : decode (g_m 38).2.1 22 = .ok (.iconst 0, 1) := by decide +kernel
theorem d_38_23 : decode (g_m 38).2.1 23 = .ok (.iastore, 1) := by decide +kernel
theorem d_38_24 : decode (g_m 38).2.1 24 = .ok (.iinc 1 1, 3) := by decide +kernel
theorem d_38_27 : decode (g_m 38).2.1 27 = .ok (.goto (-19), 3) := by decide +kernel
theorem d_38_30 : decode (g_m 38).2.1 30 = .ok (.iconst 0, 1) := by decide +kernel
theorem d_38_31 : decode (g_m 38).2.1 31 = .ok (.istore_n 1, 1) := by decide +kernel
theorem d_38_32 : decode (g_m 38).2.1 32 = .ok (.iload_n 1, 1) := by decide +kernel
theorem d_38_33 : decode (g_m 38).2.1 33 = .ok (.aload_n 0, 1) := by decide +kernel
theorem d_38_34 : decode (g_m 38).2.1 34 = .ok (.getfield 11, 3) := by decide +kernel
theorem d_38_37 : decode (g_m 38).2.1 37 = .ok (.getfield 67, 3) := by decide +kernel
theorem d_38_40 : decode (g_m 38).2.1 40 = .ok (.if_icmp .ge (14), 3) := by decide +kernel
theorem d_38_43 : decode (g_m 38).2.1 43 = .ok (.aload_n 0, 1) := by decide +kernel
theorem d_38_44 : decode (g_m 38).2.1 44 = .ok (.iload_n 1, 1) := by decide +kernel
theorem d_38_45 : decode (g_m 38).2.1 45 = .ok (.invokevirtual 72, 3) := by decide +kernel
theorem d_38_48 : decode (g_m 38).2.1 48 = .ok (.iinc 1 1, 3) := by decide +kernel
theorem d_38_51 : decode (g_m 38).2.1 51 = .ok (.goto (-19), 3) := by decide +kernel
theorem d_38_54 : decode (g_m 38).2.1 54 = .ok (.return_, 1) := by decide +kernel
theorem d_46_0 : decode (g_m 46).2.1 0 = .ok (.aload_n 0, 1) := by decide +kernel
theorem d_46_1 : decode (g_m 46).2.1 1 = .ok (.iconst 0, 1) := by decide +kernel
theorem d_46_2 : decode (g_m 46).2.1 2 = .ok (.putfield 29, 3) := by decide +kernel
theorem d_46_5 : decode (g_m 46).2.1 5 = .ok (.aload_n 0, 1) := by decide +kernel
theorem d_46_6 : decode (g_m 46).2.1 6 = .ok (.getfield 51, 3) := by decide +kernel
theorem d_46_9 : decode (g_m 46).2.1 9 = .ok (.invokevirtual 91, 3) := by decide +kernel
theorem d_46_12 : decode (g_m 46).2.1 12 = .ok (.aload_n 0, 1) := by decide +kernel
theorem d_46_13 : decode (g_m 46).2.1 13 = .ok (.getfield 19, 3) := by decide +kernel
theorem d_46_16 : decode (g_m 46).2.1 16 = .ok (.bipush (-2), 2) := by decide +kernel
theorem d_46_18 : decode (g_m 46).2.1 18 = .ok (.if_icmp .eq (28), 3) := by decide +kernel
theorem d_46_21 : decode (g_m 46).2.1 21 = .ok (.aload_n 0, 1) := by decide +kernel
theorem d_46_22 : decode (g_m 46).2.1 22 = .ok (.aload_n 0, 1) := by decide +kernel
theorem d_46_23 : decode (g_m 46).2.1 23 = .ok (.aload_n 0, 1) := by decide +kernel
theorem d_46_24 : decode (g_m 46).2.1 24 = .ok (.getfield 19, 3) := by decide +kernel
theorem d_46_27 : decode (g_m 46).2.1 27 = .ok (.invokevirtual 75, 3) := by decide +kernel
theorem d_46_30 : decode (g_m 46).2.1 30 = .ok (.iconst 0, 1) := by decide +kernel
theorem d_46_31 : decode (g_m 46).2.1 31 = .ok (.bipush 100, 2) := by decide +kernel
theorem d_46_33 : decode (g_m 46).2.1 33 = .ok (.invokevirtual 79, 3) := by decide +kernel
theorem d_46_36 : decode (g_m 46).2.1 36 = .ok (.istore_n 2, 1) := by decide +kernel
theorem d_46_37 : decode (g_m 46).2.1 37 = .ok (.aload_n 0, 1) := by decide +kernel
theorem d_46_38 : decode (g_m 46).2.1 38 = .ok (.iload_n 2, 1) := by decide +kernel
theorem d_46_39 : decode (g_m 46).2.1 39 = .ok (.iconst 0, 1) := by decide +kernel
theorem d_46_40 : decode (g_m 46).2.1 40 = .ok (.iload_n 1, 1) := by decide +kernel
theorem d_46_41 : decode (g_m 46).2.1 41 = .ok (.bipush 100, 2) := by decide +kernel
theorem d_46_43 : decode (g_m 46).2.1 43 = .ok (.invokevirtual 94, 3) := by decide +kernel
theorem d_46_46 : decode (g_m 46).2.1 46 = .ok (.return_, 1) := by decide +kernel
theorem d_58_0 : decode (g_m 58).2.1 0 = .ok (.aload_n 0, 1) := by decide +kernel
theorem d_58_1 : decode (g_m 58).2.1 1 = .ok (.getfield 19, 3) := by decide +kernel
theorem d_58_4 : decode (g_m 58).2.1 4 = .ok (.bipush (-2), 2) := by decide +kernel
theorem d_58_6 : decode (g_m 58).2.1 6 = .ok (.if_icmp .ne (5), 3) := by decide +kernel
theorem d_58_9 : decode (g_m 58).2.1 9 = .ok (.iconst 0, 1) := by decide +kernel
theorem d_58_10 : decode (g_m 58).2.1 10 = .ok (.ireturn, 1) := by decide +kernel
theorem d_58_11 : decode (g_m 58).2.1 11 = .ok (.aload_n 0, 1) := by decide +kernel
theorem d_58_12 : decode (g_m 58).2.1 12 = .ok (.invokevirtual 98, 3) := by decide +kernel
theorem d_58_15 : decode (g_m 58).2.1 15 = .ok (.aload_n 0, 1) := by decide +kernel
theorem d_58_16 : decode (g_m 58).2.1 16 = .ok (.getfield 39, 3) := by decide +kernel
theorem d_58_19 : decode (g_m 58).2.1 19 = .ok (.aload_n 0, 1) := by decide +kernel
theorem d_58_20 : decode (g_m 58).2.1 20 = .ok (.getfield 19, 3) := by decide +kernel
theorem d_58_23 : decode (g_m 58).2.1 23 = .ok (.iconst 1, 1) := by decide +kernel
theorem d_58_24 : decode (g_m 58).2.1 24 = .ok (.bastore, 1) := by decide +kernel
theorem d_58_25 : decode (g_m 58).2.1 25 = .ok (.aload_n 0, 1) := by decide +kernel
theorem d_58_26 : decode (g_m 58).2.1 26 = .ok (.getfield 43, 3) := by decide +kernel
theorem d_58_29 : decode (g_m 58).2.1 29 = .ok (.iconst 0, 1) := by decide +kernel
theorem d_58_30 : decode (g_m 58).2.1 30 = .ok (.aload_n 0, 1) := by decide +kernel
theorem d_58_31 : decode (g_m 58).2.1 31 = .ok (.getfield 19, 3) := by decide +kernel
theorem d_58_34 : decode (g_m 58).2.1 34 = .ok (.iastore, 1) := by decide +kernel
theorem d_58_35 : decode (g_m 58).2.1 35 = .ok (.iconst 1, 1) := by decide +kernel
theorem d_58_36 : decode (g_m 58).2.1 36 = .ok (.istore_n 1, 1) := by decide +kernel
theorem d_58_37 : decode (g_m 58).2.1 37 = .ok (.iconst 0, 1) := by decide +kernel
theorem d_58_38 : decode (g_m 58).2.1 38 = .ok (.istore_n 2, 1) := by decide +kernel
theorem d_58_39 : decode (g_m 58).2.1 39 = .ok (.iload_n 2, 1) := by decide +kernel
theorem d_58_40 : decode (g_m 58).2.1 40 = .ok (.iload_n 1, 1) := by decide +kernel
theorem d_58_41 : decode (g_m 58).2.1 41 = .ok (.if_icmp .ge (30), 3) := by decide +kernel
theorem d_58_44 : decode (g_m 58).2.1 44 = .ok (.iload_n 2, 1) := by decide +kernel
theorem d_58_45 : decode (g_m 58).2.1 45 = .ok (.aload_n 0, 1) := by decide +kernel
theorem d_58_46 : decode (g_m 58).2.1 46 = .ok (.getfield 43, 3) := by decide +kernel
theorem d_58_49 : decode (g_m 58).2.1 49 = .ok (.arraylength, 1) := by decide +kernel
theorem d_58_50 : decode (g_m 58).2.1 50 = .ok (.if_icmp .ge (21), 3) := by decide +kernel
theorem d_58_53 : decode (g_m 58).2.1 53 = .ok (.aload_n 0, 1) := by decide +kernel
theorem d_58_54 : decode (g_m 58).2.1 54 = .ok (.aload_n 0, 1) := by decide +kernel
theorem d_58_55 : decode (g_m 58).2.1 55 = .ok (.getfield 43, 3) := by decide +kernel
theorem d_58_58 : decode (g_m 58).2.1 58 = .ok (.iload_n 2, 1) := by decide +kernel
theorem d_58_59 : decode (g_m 58).2.1 59 = .ok (.iaload, 1) := by decide +kernel
theorem d_58_60 : decode (g_m 58).2.1 60 = .ok (.iload_n 1, 1) := by decide +kernel
theorem d_58_61 : decode (g_m 58).2.1 61 = .ok (.invokevirtual 101, 3) := by decide +kernel
theorem d_58_64 : decode (g_m 58).2.1 64 = .ok (.istore_n 1, 1) := by decide +kernel
theorem d_58_65 : decode (g_m 58).2.1 65 = .ok (.iinc 2 1, 3) := by decide +kernel
theorem d_58_68 : decode (g_m 58).2.1 68 = .ok (.goto (-29), 3) := by decide +kernel
theorem d_58_71 : decode (g_m 58).2.1 71 = .ok (.iload_n 1, 1) := by decide +kernel
theorem d_58_72 : decode (g_m 58).2.1 72 = .ok (.ireturn, 1) := by decide +kernel
theorem d_59_0 : decode (g_m 59).2.1 0 = .ok (.iload_n 2, 1) := by decide +kernel
theorem d_59_1 : decode (g_m 59).2.1 1 = .ok (.istore_n 3, 1) := by decide +kernel
theorem d_59_2 : decode (g_m 59).2.1 2 = .ok (.aload_n 0, 1) := by decide +kernel
theorem d_59_3 : decode (g_m 59).2.1 3 = .ok (.iload_n 1, 1) := by decide +kernel
theorem d_59_4 : decode (g_m 59).2.1 4 = .ok (.iconst 0, 1) := by decide +kernel
theorem d_59_5 : decode (g_m 59).2.1 5 = .ok (.invokevirtual 104, 3) := by decide +kernel
theorem d_59_8 : decode (g_m 59).2.1 8 = .ok (.istore 4, 2) := by decide +kernel
theorem d_59_10 : decode (g_m 59).2.1 10 = .ok (.iconst 0, 1) := by decide +kernel
theorem d_59_11 : decode (g_m 59).2.1 11 = .ok (.istore 5, 2) := by decide +kernel
theorem d_59_13 : decode (g_m 59).2.1 13 = .ok (.iload 5, 2) := by decide +kernel
theorem d_59_15 : decode (g_m 59).2.1 15 = .ok (.iload 4, 2) := by decide +kernel
theorem d_59_17 : decode (g_m 59).2.1 17 = .ok (.if_icmp .ge (57), 3) := by decide +kernel
theorem d_59_20 : decode (g_m 59).2.1 20 = .ok (.aload_n 0, 1) := by decide +kernel
theorem d_59_21 : decode (g_m 59).2.1 21 = .ok (.iload_n 1, 1) := by decide +kernel
theorem d_59_22 : decode (g_m 59).2.1 22 = .ok (.iconst 0, 1) := by decide +kernel
theorem d_59_23 : decode (g_m 59).2.1 23 = .ok (.iload 5, 2) := by decide +kernel
theorem d_59_25 : decode (g_m 59).2.1 25 = .ok (.invokevirtual 107, 3) := by decide +kernel
theorem d_59_28 : decode (g_m 59).2.1 28 = .ok (.istore 6, 2) := by decide +kernel
theorem d_59_30 : decode (g_m 59).2.1 30 = .ok (.aload_n 0, 1) := by decide +kernel
theorem d_59_31 : decode (g_m 59).2.1 31 = .ok (.getfield 39, 3) := by decide +kernel
theorem d_59_34 : decode (g_m 59).2.1 34 = .ok (.iload 6, 2) := by decide +kernel
theorem d_59_36 : decode (g_m 59).2.1 36 = .ok (.baload, 1) := by decide +kernel
theorem d_59_37 : decode (g_m 59).2.1 37 = .ok (.ifCond .ne (31), 3) := by decide +kernel
theorem d_59_40 : decode (g_m 59).2.1 40 = .ok (.iload_n 3, 1) := by decide +kernel
theorem d_59_41 : decode (g_m 59).2.1 41 = .ok (.aload_n 0, 1) := by decide +kernel
theorem d_59_42 : decode (g_m 59).2.1 42 = .ok (.getfield 43, 3) := by decide +kernel
theorem d_59_45 : decode (g_m 59).2.1 45 = .ok (.arraylength, 1) := by decide +kernel
theorem d_59_46 : decode (g_m 59).2.1 46 = .ok (.if_icmp .ge (22), 3) := by decide +kernel
theorem d_59_49 : decode (g_m 59).2.1 49 = .ok (.aload_n 0, 1) := by decide +kernel
theorem d_59_50 : decode (g_m 59).2.1 50 = .ok (.getfield 39, 3) := by decide +kernel
theorem d_59_53 : decode (g_m 59).2.1 53 = .ok (.iload 6, 2) := by decide +kernel
theorem d_59_55 : decode (g_m 59).2.1 55 = .ok (.iconst 1, 1) := by decide +kernel
theorem d_59_56 : decode (g_m 59).2.1 56 = .ok (.bastore, 1) := by decide +kernel
theorem d_59_57 : decode (g_m 59).2.1 57 = .ok (.aload_n 0, 1) := by decide +kernel
theorem d_59_58 : decode (g_m 59).2.1 58 = .ok (.getfield 43, 3) := by decide +kernel
theorem d_59_61 : decode (g_m 59).2.1 61 = .ok (.iload_n 3, 1) := by decide +kernel
theorem d_59_62 : decode (g_m 59).2.1 62 = .ok (.iload 6, 2) := by decide +kernel
theorem d_59_64 : decode (g_m 59).2.1 64 = .ok (.iastore, 1) := by decide +kernel
theorem d_59_65 : decode (g_m 59).2.1 65 = .ok (.iinc 3 1, 3) := by decide +kernel
theorem d_59_68 : decode (g_m 59).2.1 68 = .ok (.iinc 5 1, 3) := by decide +kernel
theorem d_59_71 : decode (g_m 59).2.1 71 = .ok (.goto (-58), 3) := by decide +kernel
theorem d_59_74 : decode (g_m 59).2.1 74 = .ok (.iload_n 3, 1) := by decide +kernel
theorem d_59_75 : decode (g_m 59).2.1 75 = .ok (.ireturn, 1) := by decide +kernel
