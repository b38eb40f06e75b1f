theorem d_3_0 : decode (g_m 3).2.1 0 = .ok (.aload_n 0, 1) := by decide +kernel
theorem d_3_1 : decode (g_m 3).2.1 1 = .ok (.invokespecial 3, 3) := by decide +kernel
theorem d_3_4 : decode (g_m 3).2.1 4 = .ok (.aload_n 0, 1) := by decide +kernel
theorem d_3_5 : decode (g_m 3).2.1 5 = .ok (.iconst 1, 1) := by decide +kernel
theorem d_3_6 : decode (g_m 3).2.1 6 = .ok (.iload_n 1, 1) := by decide +kernel
theorem d_3_7 : decode (g_m 3).2.1 7 = .ok (.invokestatic 9, 3) := by decide +kernel
theorem d_3_10 : decode (g_m 3).2.1 10 = .ok (.newarray .int, 2) := by decide +kernel
theorem d_3_12 : decode (g_m 3).2.1 12 = .ok (.putfield 15, 3) := by decide +kernel
theorem d_3_15 : decode (g_m 3).2.1 15 = .ok (.aload_n 0, 1) := by decide +kernel
theorem d_3_16 : decode (g_m 3).2.1 16 = .ok (.iconst 0, 1) := by decide +kernel
theorem d_3_17 : decode (g_m 3).2.1 17 = .ok (.putfield 21, 3) := by decide +kernel
theorem d_3_20 : decode (g_m 3).2.1 20 = .ok (.return_, 1) := by decide +kernel
theorem d_14_0 : decode (g_m 14).2.1 0 = .ok (.aload_n 0, 1) := by decide +kernel
theorem d_14_1 : decode (g_m 14).2.1 1 = .ok (.iconst 0, 1) := by decide +kernel
theorem d_14_2 : decode (g_m 14).2.1 2 = .ok (.putfield 21, 3) := by decide +kernel
theorem d_14_5 : decode (g_m 14).2.1 5 = .ok (.return_, 1) := by decide +kernel
theorem d_18_0 : decode (g_m 18).2.1 0 = .ok (.aload_n 0, 1) := by decide +kernel
theorem d_18_1 : decode (g_m 18).2.1 1 = .ok (.getfield 21, 3) := by decide +kernel
theorem d_18_4 : decode (g_m 18).2.1 4 = .ok (.ifCond .le (27), 3) := by decide +kernel
theorem d_18_7 : decode (g_m 18).2.1 7 = .ok (.aload_n 0, 1) := by decide +kernel
theorem d_18_8 : decode (g_m 18).2.1 8 = .ok (.getfield 15, 3) := by decide +kernel
theorem d_18_11 : decode (g_m 18).2.1 11 = .ok (.aload_n 0, 1) := by decide +kernel
theorem d_18_12 : decode (g_m 18).2.1 12 = .ok (.getfield 21, 3) := by decide +kernel
theorem d_18_15 : decode (g_m 18).2.1 15 = .ok (.iconst 1, 1) := by decide +kernel
theorem d_18_16 : decode (g_m 18).2.1 16 = .ok (.isub, 1) := by decide +kernel
theorem d_18_17 : decode (g_m 18).2.1 17 = .ok (.iaload, 1) := by decide +kernel
theorem d_18_18 : decode (g_m 18).2.1 18 = .ok (.iload_n 2, 1) := by decide +kernel
theorem d_18_19 : decode (g_m 18).2.1 19 = .ok (.bipush 100, 2) := by decide +kernel
theorem d_18_21 : decode (g_m 18).2.1 21 = .ok (.imul, 1) := by decide +kernel
theorem d_18_22 : decode (g_m 18).2.1 22 = .ok (.iload_n 1, 1) := by decide +kernel
theorem d_18_23 : decode (g_m 18).2.1 23 = .ok (.iadd, 1) := by decide +kernel
theorem d_18_24 : decode (g_m 18).2.1 24 = .ok (.if_icmp .ge (7), 3) := by decide +kernel
theorem d_18_27 : decode (g_m 18).2.1 27 = .ok (.iconst 1, 1) := by decide +kernel
theorem d_18_28 : decode (g_m 18).2.1 28 = .ok (.goto (4), 3) := by decide +kernel
theorem d_18_31 : decode (g_m 18).2.1 31 = .ok (.iconst 0, 1) := by decide +kernel
theorem d_18_32 : decode (g_m 18).2.1 32 = .ok (.ireturn, 1) := by decide +kernel
theorem d_19_0 : decode (g_m 19).2.1 0 = .ok (.aload_n 0, 1) := by decide +kernel
theorem d_19_1 : decode (g_m 19).2.1 1 = .ok (.getfield 21, 3) := by decide +kernel
theorem d_19_4 : decode (g_m 19).2.1 4 = .ok (.aload_n 0, 1) := by decide +kernel
theorem d_19_5 : decode (g_m 19).2.1 5 = .ok (.getfield 15, 3) := by decide +kernel
theorem d_19_8 : decode (g_m 19).2.1 8 = .ok (.arraylength, 1) := by decide +kernel
theorem d_19_9 : decode (g_m 19).2.1 9 = .ok (.if_icmp .lt (4), 3) := by decide +kernel
theorem d_19_12 : decode (g_m 19).2.1 12 = .ok (.return_, 1) := by decide +kernel
theorem d_19_13 : decode (g_m 19).2.1 13 = .ok (.iload_n 2, 1) := by decide +kernel
theorem d_19_14 : decode (g_m 19).2.1 14 = .ok (.bipush 100, 2) := by decide +kernel
theorem d_19_16 : decode (g_m 19).2.1 16 = .ok (.imul, 1) := by decide +kernel
theorem d_19_17 : decode (g_m 19).2.1 17 = .ok (.iload_n 1, 1) := by decide +kernel
theorem d_19_18 : decode (g_m 19).2.1 18 = .ok (.iadd, 1) := by decide +kernel
theorem d_19_19 : decode (g_m 19).2.1 19 = .ok (.istore_n 3, 1) := by decide +kernel
theorem d_19_20 : decode (g_m 19).2.1 20 = .ok (.aload_n 0, 1) := by decide +kernel
theorem d_19_21 : decode (g_m 19).2.1 21 = .ok (.getfield 21, 3) := by decide +kernel
theorem d_19_24 : decode (g_m 19).2.1 24 = .ok (.istore 4, 2) := by decide +kernel
theorem d_19_26 : decode (g_m 19).2.1 26 = .ok (.iload 4, 2) := by decide +kernel
theorem d_19_28 : decode (g_m 19).2.1 28 = .ok (.ifCond .le (38), 3) := by decide +kernel
theorem d_19_31 : decode (g_m 19).2.1 31 = .ok (.aload_n 0, 1) := by decide +kernel
theorem d_19_32 : decode (g_m 19).2.1 32 = .ok (.getfield 15, 3) := by decide +kernel
theorem d_19_35 : decode (g_m 19).2.1 35 = .ok (.iload 4, 2) := by decide +kernel
theorem d_19_37 : decode (g_m 19).2.1 37 = .ok (.iconst 1, 1) := by decide +kernel
theorem d_19_38 : decode (g_m 19).2.1 38 = .ok (.isub, 1) := by decide +kernel
theorem d_19_39 : decode (g_m 19).2.1 39 = .ok (.iaload, 1) := by decide +kernel
theorem d_19_40 : decode (g_m 19).2.1 40 = .ok (.iload_n 3, 1) := by decide +kernel
theorem d_19_41 : decode (g_m 19).2.1 41 = .ok (.if_icmp .le (25), 3) := by decide +kernel
theorem d_19_44 : decode (g_m 19).2.1 44 = .ok (.aload_n 0, 1) := by decide +kernel
theorem d_19_45 : decode (g_m 19).2.1 45 = .ok (.getfield 15, 3) := by decide +kernel
theorem d_19_48 : decode (g_m 19).2.1 48 = .ok (.iload 4, 2) := by decide +kernel
theorem d_19_50 : decode (g_m 19).2.1 50 = .ok (.aload_n 0, 1) := by decide +kernel
theorem d_19_51 : decode (g_m 19).2.1 51 = .ok (.getfield 15, 3) := by decide +kernel
theorem d_19_54 : decode (g_m 19).2.1 54 = .ok (.iload 4, 2) := by decide +kernel
theorem d_19_56 : decode (g_m 19).2.1 56 = .ok (.iconst 1, 1) := by decide +kernel
theorem d_19_57 : decode (g_m 19).2.1 57 = .ok (.isub, 1) := by decide +kernel
theorem d_19_58 : decode (g_m 19).2.1 58 = .ok (.iaload, 1) := by decide +kernel
theorem d_19_59 : decode (g_m 19).2.1 59 = .ok (.iastore, 1) := by decide +kernel
theorem d_19_60 : decode (g_m 19).2.1 60 = .ok (.iinc 4 (-1), 3) := by decide +kernel
theorem d_19_63 : decode (g_m 19).2.1 63 = .ok (.goto (-37), 3) := by decide +kernel
theorem d_19_66 : decode (g_m 19).2.1 66 = .ok (.aload_n 0, 1) := by decide +kernel
theorem d_19_67 : decode (g_m 19).2.1 67 = .ok (.getfield 15, 3) := by decide +kernel
theorem d_19_70 : decode (g_m 19).2.1 70 = .ok (.iload 4, 2) := by decide +kernel
theorem d_19_72 : decode (g_m 19).2.1 72 = .ok (.iload_n 3, 1) := by decide +kernel
theorem d_19_73 : decode (g_m 19).2.1 73 = .ok (.iastore, 1) := by decide +kernel
theorem d_19_74 : decode (g_m 19).2.1 74 = .ok (.aload_n 0, 1) := by decide +kernel
theorem d_19_75 : decode (g_m 19).2.1 75 = .ok (.dup, 1) := by decide +kernel
theorem d_19_76 : decode (g_m 19).2.1 76 = .ok (.getfield 21, 3) := by decide +kernel
theorem d_19_79 : decode (g_m 19).2.1 79 = .ok (.iconst 1, 1) := by decide +kernel
theorem d_19_80 : decode (g_m 19).2.1 80 = .ok (.iadd, 1) := by decide +kernel
theorem d_19_81 : decode (g_m 19).2.1 81 = .ok (.putfield 21, 3) := by decide +kernel
theorem d_19_84 : decode (g_m 19).2.1 84 = .ok (.return_, 1) := by decide +kernel
theorem d_20_0 : decode (g_m 20).2.1 0 = .ok (.aload_n 0, 1) := by decide +kernel
theorem d_20_1 : decode (g_m 20).2.1 1 = .ok (.iconst 0, 1) := by decide +kernel
theorem d_20_2 : decode (g_m 20).2.1 2 = .ok (.aload_n 0, 1) := by decide +kernel
theorem d_20_3 : decode (g_m 20).2.1 3 = .ok (.getfield 21, 3) := by decide +kernel
theorem d_20_6 : decode (g_m 20).2.1 6 = .ok (.iload_n 1, 1) := by decide +kernel
theorem d_20_7 : decode (g_m 20).2.1 7 = .ok (.invokestatic 31, 3) := by decide +kernel
theorem d_20_10 : decode (g_m 20).2.1 10 = .ok (.invokestatic 9, 3) := by decide +kernel
theorem d_20_13 : decode (g_m 20).2.1 13 = .ok (.putfield 21, 3) := by decide +kernel
theorem d_20_16 : decode (g_m 20).2.1 16 = .ok (.return_, 1) := by decide +kernel
theorem d_21_0 : decode (g_m 21).2.1 0 = .ok (.iload_n 1, 1) := by decide +kernel
theorem d_21_1 : decode (g_m 21).2.1 1 = .ok (.ifCond .lt (23), 3) := by decide +kernel
theorem d_21_4 : decode (g_m 21).2.1 4 = .ok (.iload_n 1, 1) := by decide +kernel
theorem d_21_5 : decode (g_m 21).2.1 5 = .ok (.aload_n 0, 1) := by decide +kernel
theorem d_21_6 : decode (g_m 21).2.1 6 = .ok (.getfield 21, 3) := by decide +kernel
theorem d_21_9 : decode (g_m 21).2.1 9 = .ok (.if_icmp .ge (15), 3) := by decide +kernel
theorem d_21_12 : decode (g_m 21).2.1 12 = .ok (.aload_n 0, 1) := by decide +kernel
theorem d_21_13 : decode (g_m 21).2.1 13 = .ok (.getfield 15, 3) := by decide +kernel
theorem d_21_16 : decode (g_m 21).2.1 16 = .ok (.iload_n 1, 1) := by decide +kernel
theorem d_21_17 : decode (g_m 21).2.1 17 = .ok (.iaload, 1) := by decide +kernel
theorem d_21_18 : decode (g_m 21).2.1 18 = .ok (.bipush 100, 2) := by decide +kernel
theorem d_21_20 : decode (g_m 21).2.1 20 = .ok (.irem, 1) := by decide +kernel
theorem d_21_21 : decode (g_m 21).2.1 21 = .ok (.goto (4), 3) := by decide +kernel
theorem d_21_24 : decode (g_m 21).2.1 24 = .ok (.iconst (-1), 1) := by decide +kernel
theorem d_21_25 : decode (g_m 21).2.1 25 = .ok (.ireturn, 1) := by decide +kernel
theorem d_22_0 : decode (g_m 22).2.1 0 = .ok (.iload_n 1, 1) := by decide +kernel
theorem d_22_1 : decode (g_m 22).2.1 1 = .ok (.ifCond .lt (23), 3) := by decide +kernel
theorem d_22_4 : decode (g_m 22).2.1 4 = .ok (.iload_n 1, 1) := by decide +kernel
theorem d_22_5 : decode (g_m 22).2.1 5 = .ok (.aload_n 0, 1) := by decide +kernel
theorem d_22_6 : decode (g_m 22).2.1 6 = .ok (.getfield 21, 3) := by decide +kernel
theorem d_22_9 : decode (g_m 22).2.1 9 = .ok (.if_icmp .ge (15), 3) := by decide +kernel
theorem d_22_12 : decode (g_m 22).2.1 12 = .ok (.aload_n 0, 1) := by decide +kernel
theorem d_22_13 : decode (g_m 22).2.1 13 = .ok (.getfield 15, 3) := by decide +kernel
theorem d_22_16 : decode (g_m 22).2.1 16 = .ok (.iload_n 1, 1) := by decide +kernel
theorem d_22_17 : decode (g_m 22).2.1 17 = .ok (.iaload, 1) := by decide +kernel
theorem d_22_18 : decode (g_m 22).2.1 18 = .ok (.bipush 100, 2) := by decide +kernel
theorem d_22_20 : decode (g_m 22).2.1 20 = .ok (.idiv, 1) := by decide +kernel
theorem d_22_21 : decode (g_m 22).2.1 21 = .ok (.goto (4), 3) := by decide +kernel
theorem d_22_24 : decode (g_m 22).2.1 24 = .ok (.iconst (-1), 1) := by decide +kernel
theorem d_22_25 : decode (g_m 22).2.1 25 = .ok (.ireturn, 1) := by decide +kernel
theorem d_23_0 : decode (g_m 23).2.1 0 = .ok (.aload_n 0, 1) := by decide +kernel
theorem d_23_1 : decode (g_m 23).2.1 1 = .ok (.getfield 21, 3) := by decide +kernel
theorem d_23_4 : decode (g_m 23).2.1 4 = .ok (.ifCond .le (30), 3) := by decide +kernel
theorem d_23_7 : decode (g_m 23).2.1 7 = .ok (.aload_n 0, 1) := by decide +kernel
theorem d_23_8 : decode (g_m 23).2.1 8 = .ok (.dup, 1) := by decide +kernel
theorem d_23_9 : decode (g_m 23).2.1 9 = .ok (.getfield 21, 3) := by decide +kernel
theorem d_23_12 : decode (g_m 23).2.1 12 = .ok (.iconst 1, 1) := by decide +kernel
theorem d_23_13 : decode (g_m 23).2.1 13 = .ok (.isub, 1) := by decide +kernel
theorem d_23_14 : decode (g_m 23).2.1 14 = .ok (.putfield 21, 3) := by decide +kernel
theorem d_23_17 : decode (g_m 23).2.1 17 = .ok (.aload_n 0, 1) := by decide +kernel
theorem d_23_18 : decode (g_m 23).2.1 18 = .ok (.getfield 15, 3) := by decide +kernel
theorem d_23_21 : decode (g_m 23).2.1 21 = .ok (.iconst 1, 1) := by decide +kernel
theorem d_23_22 : decode (g_m 23).2.1 22 = .ok (.aload_n 0, 1) := by decide +kernel
theorem d_23_23 : decode (g_m 23).2.1 23 = .ok (.getfield 15, 3) := by decide +kernel
theorem d_23_26 : decode (g_m 23).2.1 26 = .ok (.iconst 0, 1) := by decide +kernel
theorem d_23_27 : decode (g_m 23).2.1 27 = .ok (.aload_n 0, 1) := by decide +kernel
theorem d_23_28 : decode (g_m 23).2.1 28 = .ok (.getfield 21, 3) := by decide +kernel
theorem d_23_31 : decode (g_m 23).2.1 31 = .ok (.invokestatic 25, 3) := by decide +kernel
theorem d_23_34 : decode (g_m 23).2.1 34 = .ok (.return_, 1) := by decide +kernel
theorem d_30_0 : decode (g_m 30).2.1 0 = .ok (.iload_n 2, 1) := by decide +kernel
theorem d_30_1 : decode (g_m 30).2.1 1 = .ok (.ifCond .lt (28), 3) := by decide +kernel
theorem d_30_4 : decode (g_m 30).2.1 4 = .ok (.iload_n 2, 1) := by decide +kernel
theorem d_30_5 : decode (g_m 30).2.1 5 = .ok (.iload_n 1, 1) := by decide +kernel
theorem d_30_6 : decode (g_m 30).2.1 6 = .ok (.if_icmp .gt (23), 3) := by decide +kernel
theorem d_30_9 : decode (g_m 30).2.1 9 = .ok (.iload_n 1, 1) := by decide +kernel
theorem d_30_10 : decode (g_m 30).2.1 10 = .ok (.aload_n 0, 1) := by decide +kernel
theorem d_30_11 : decode (g_m 30).2.1 11 = .ok (.getfield 21, 3) := by decide +kernel
theorem d_30_14 : decode (g_m 30).2.1 14 = .ok (.if_icmp .ge (15), 3) := by decide +kernel
theorem d_30_17 : decode (g_m 30).2.1 17 = .ok (.aload_n 0, 1) := by decide +kernel
theorem d_30_18 : decode (g_m 30).2.1 18 = .ok (.getfield 15, 3) := by decide +kernel
theorem d_30_21 : decode (g_m 30).2.1 21 = .ok (.iload_n 2, 1) := by decide +kernel
theorem d_30_22 : decode (g_m 30).2.1 22 = .ok (.aload_n 0, 1) := by decide +kernel
theorem d_30_23 : decode (g_m 30).2.1 23 = .ok (.getfield 15, 3) := by decide +kernel
theorem d_30_26 : decode (g_m 30).2.1 26 = .ok (.iload_n 1, 1) := by decide +kernel
theorem d_30_27 : decode (g_m 30).2.1 27 = .ok (.iaload, 1) := by decide +kernel
theorem d_30_28 : decode (g_m 30).2.1 28 = .ok (.iastore, 1) := by decide +kernel
theorem d_30_29 : decode (g_m 30).2.1 29 = .ok (.return_, 1) := by decide +kernel
theorem d_49_0 : decode (g_m 49).2.1 0 = .ok (.iconst 0, 1) := by decide +kernel
theorem d_49_1 : decode (g_m 49).2.1 1 = .ok (.istore_n 2, 1) := by decide +kernel
theorem d_49_2 : decode (g_m 49).2.1 2 = .ok (.iload_n 2, 1) := by decide +kernel
theorem d_49_3 : decode (g_m 49).2.1 3 = .ok (.aload_n 0, 1) := by decide +kernel
theorem d_49_4 : decode (g_m 49).2.1 4 = .ok (.getfield 21, 3) := by decide +kernel
theorem d_49_7 : decode (g_m 49).2.1 7 = .ok (.if_icmp .ge (24), 3) := by decide +kernel
theorem d_49_10 : decode (g_m 49).2.1 10 = .ok (.aload_n 0, 1) := by decide +kernel
theorem d_49_11 : decode (g_m 49).2.1 11 = .ok (.getfield 15, 3) := by decide +kernel
theorem d_49_14 : decode (g_m 49).2.1 14 = .ok (.iload_n 2, 1) := by decide +kernel
theorem d_49_15 : decode (g_m 49).2.1 15 = .ok (.iaload, 1) := by decide +kernel
theorem d_49_16 : decode (g_m 49).2.1 16 = .ok (.bipush 100, 2) := by decide +kernel
theorem d_49_18 : decode (g_m 49).2.1 18 = .ok (.irem, 1) := by decide +kernel
theorem d_49_19 : decode (g_m 49).2.1 19 = .ok (.iload_n 1, 1) := by decide +kernel
theorem d_49_20 : decode (g_m 49).2.1 20 = .ok (.if_icmp .ne (5), 3) := by decide +kernel
theorem d_49_23 : decode (g_m 49).2.1 23 = .ok (.iconst 1, 1) := by decide +kernel
theorem d_49_24 : decode (g_m 49).2.1 24 = .ok (.ireturn, 1) := by decide +kernel
theorem d_49_25 : decode (g_m 49).2.1 25 = .ok (.iinc 2 1, 3) := by decide +kernel
theorem d_49_28 : decode (g_m 49).2.1 28 = .ok (.goto (-26), 3) := by decide +kernel
theorem d_49_31 : decode (g_m 49).2.1 31 = .ok (.iconst 0, 1) := by decide +kernel
theorem d_49_32 : decode (g_m 49).2.1 32 = .ok (.ireturn, 1) := by decide +kernel
