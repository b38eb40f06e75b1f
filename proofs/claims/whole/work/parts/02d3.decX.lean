theorem d_0_0 : decode (g_m 0).2.1 0 = .ok (.aload_n 0, 1) := by decide +kernel
theorem d_0_1 : decode (g_m 0).2.1 1 = .ok (.invokespecial 3, 3) := by decide +kernel
theorem d_0_4 : decode (g_m 0).2.1 4 = .ok (.aload_n 0, 1) := by decide +kernel
theorem d_0_5 : decode (g_m 0).2.1 5 = .ok (.new 9, 3) := by decide +kernel
theorem d_0_8 : decode (g_m 0).2.1 8 = .ok (.dup, 1) := by decide +kernel
theorem d_0_9 : decode (g_m 0).2.1 9 = .ok (.iconst 1, 1) := by decide +kernel
theorem d_0_10 : decode (g_m 0).2.1 10 = .ok (.bipush 8, 2) := by decide +kernel
theorem d_0_12 : decode (g_m 0).2.1 12 = .ok (.iload_n 1, 1) := by decide +kernel
theorem d_0_13 : decode (g_m 0).2.1 13 = .ok (.invokestatic 11, 3) := by decide +kernel
theorem d_0_16 : decode (g_m 0).2.1 16 = .ok (.invokestatic 17, 3) := by decide +kernel
theorem d_0_19 : decode (g_m 0).2.1 19 = .ok (.invokespecial 20, 3) := by decide +kernel
theorem d_0_22 : decode (g_m 0).2.1 22 = .ok (.putfield 23, 3) := by decide +kernel
theorem d_0_25 : decode (g_m 0).2.1 25 = .ok (.aload_n 0, 1) := by decide +kernel
theorem d_0_26 : decode (g_m 0).2.1 26 = .ok (.new 27, 3) := by decide +kernel
theorem d_0_29 : decode (g_m 0).2.1 29 = .ok (.dup, 1) := by decide +kernel
theorem d_0_30 : decode (g_m 0).2.1 30 = .ok (.aload_n 0, 1) := by decide +kernel
theorem d_0_31 : decode (g_m 0).2.1 31 = .ok (.getfield 23, 3) := by decide +kernel
theorem d_0_34 : decode (g_m 0).2.1 34 = .ok (.iload_n 2, 1) := by decide +kernel
theorem d_0_35 : decode (g_m 0).2.1 35 = .ok (.invokespecial 29, 3) := by decide +kernel
theorem d_0_38 : decode (g_m 0).2.1 38 = .ok (.putfield 32, 3) := by decide +kernel
theorem d_0_41 : decode (g_m 0).2.1 41 = .ok (.aload_n 0, 1) := by decide +kernel
theorem d_0_42 : decode (g_m 0).2.1 42 = .ok (.new 36, 3) := by decide +kernel
theorem d_0_45 : decode (g_m 0).2.1 45 = .ok (.dup, 1) := by decide +kernel
theorem d_0_46 : decode (g_m 0).2.1 46 = .ok (.bipush 100, 2) := by decide +kernel
theorem d_0_48 : decode (g_m 0).2.1 48 = .ok (.invokespecial 38, 3) := by decide +kernel
theorem d_0_51 : decode (g_m 0).2.1 51 = .ok (.putfield 39, 3) := by decide +kernel
theorem d_0_54 : decode (g_m 0).2.1 54 = .ok (.aload_n 0, 1) := by decide +kernel
theorem d_0_55 : decode (g_m 0).2.1 55 = .ok (.new 36, 3) := by decide +kernel
theorem d_0_58 : decode (g_m 0).2.1 58 = .ok (.dup, 1) := by decide +kernel
theorem d_0_59 : decode (g_m 0).2.1 59 = .ok (.bipush 100, 2) := by decide +kernel
theorem d_0_61 : decode (g_m 0).2.1 61 = .ok (.invokespecial 38, 3) := by decide +kernel
theorem d_0_64 : decode (g_m 0).2.1 64 = .ok (.putfield 43, 3) := by decide +kernel
theorem d_0_67 : decode (g_m 0).2.1 67 = .ok (.aload_n 0, 1) := by decide +kernel
theorem d_0_68 : decode (g_m 0).2.1 68 = .ok (.new 36, 3) := by decide +kernel
theorem d_0_71 : decode (g_m 0).2.1 71 = .ok (.dup, 1) := by decide +kernel
theorem d_0_72 : decode (g_m 0).2.1 72 = .ok (.bipush 100, 2) := by decide +kernel
theorem d_0_74 : decode (g_m 0).2.1 74 = .ok (.invokespecial 38, 3) := by decide +kernel
theorem d_0_77 : decode (g_m 0).2.1 77 = .ok (.putfield 46, 3) := by decide +kernel
theorem d_0_80 : decode (g_m 0).2.1 80 = .ok (.aload_n 0, 1) := by decide +kernel
theorem d_0_81 : decode (g_m 0).2.1 81 = .ok (.iconst 0, 1) := by decide +kernel
theorem d_0_82 : decode (g_m 0).2.1 82 = .ok (.putfield 49, 3) := by decide +kernel
theorem d_0_85 : decode (g_m 0).2.1 85 = .ok (.return_, 1) := by decide +kernel
theorem d_4_0 : decode (g_m 4).2.1 0 = .ok (.iload_n 1, 1) := by decide +kernel
theorem d_4_1 : decode (g_m 4).2.1 1 = .ok (.ifCond .lt (26), 3) := by decide +kernel
theorem d_4_4 : decode (g_m 4).2.1 4 = .ok (.iload_n 1, 1) := by decide +kernel
theorem d_4_5 : decode (g_m 4).2.1 5 = .ok (.aload_n 0, 1) := by decide +kernel
theorem d_4_6 : decode (g_m 4).2.1 6 = .ok (.getfield 23, 3) := by decide +kernel
theorem d_4_9 : decode (g_m 4).2.1 9 = .ok (.getfield 53, 3) := by decide +kernel
theorem d_4_12 : decode (g_m 4).2.1 12 = .ok (.if_icmp .ge (15), 3) := by decide +kernel
theorem d_4_15 : decode (g_m 4).2.1 15 = .ok (.iload_n 2, 1) := by decide +kernel
theorem d_4_16 : decode (g_m 4).2.1 16 = .ok (.bipush (-100), 2) := by decide +kernel
theorem d_4_18 : decode (g_m 4).2.1 18 = .ok (.if_icmp .lt (9), 3) := by decide +kernel
theorem d_4_21 : decode (g_m 4).2.1 21 = .ok (.iload_n 2, 1) := by decide +kernel
theorem d_4_22 : decode (g_m 4).2.1 22 = .ok (.bipush 100, 2) := by decide +kernel
theorem d_4_24 : decode (g_m 4).2.1 24 = .ok (.if_icmp .le (7), 3) := by decide +kernel
theorem d_4_27 : decode (g_m 4).2.1 27 = .ok (.sipush (-1000), 3) := by decide +kernel
theorem d_4_30 : decode (g_m 4).2.1 30 = .ok (.ireturn, 1) := by decide +kernel
theorem d_4_31 : decode (g_m 4).2.1 31 = .ok (.aload_n 0, 1) := by decide +kernel
theorem d_4_32 : decode (g_m 4).2.1 32 = .ok (.getfield 23, 3) := by decide +kernel
theorem d_4_35 : decode (g_m 4).2.1 35 = .ok (.iload_n 1, 1) := by decide +kernel
theorem d_4_36 : decode (g_m 4).2.1 36 = .ok (.iload_n 2, 1) := by decide +kernel
theorem d_4_37 : decode (g_m 4).2.1 37 = .ok (.invokevirtual 56, 3) := by decide +kernel
theorem d_4_40 : decode (g_m 4).2.1 40 = .ok (.ireturn, 1) := by decide +kernel
theorem d_6_0 : decode (g_m 6).2.1 0 = .ok (.aload_n 0, 1) := by decide +kernel
theorem d_6_1 : decode (g_m 6).2.1 1 = .ok (.getfield 23, 3) := by decide +kernel
theorem d_6_4 : decode (g_m 6).2.1 4 = .ok (.getfield 59, 3) := by decide +kernel
theorem d_6_7 : decode (g_m 6).2.1 7 = .ok (.bipush 100, 2) := by decide +kernel
theorem d_6_9 : decode (g_m 6).2.1 9 = .ok (.if_icmp .lt (6), 3) := by decide +kernel
theorem d_6_12 : decode (g_m 6).2.1 12 = .ok (.bipush (-3), 2) := by decide +kernel
theorem d_6_14 : decode (g_m 6).2.1 14 = .ok (.ireturn, 1) := by decide +kernel
theorem d_6_15 : decode (g_m 6).2.1 15 = .ok (.aload_n 0, 1) := by decide +kernel
theorem d_6_16 : decode (g_m 6).2.1 16 = .ok (.getfield 23, 3) := by decide +kernel
theorem d_6_19 : decode (g_m 6).2.1 19 = .ok (.invokevirtual 62, 3) := by decide +kernel
theorem d_6_22 : decode (g_m 6).2.1 22 = .ok (.istore_n 1, 1) := by decide +kernel
theorem d_6_23 : decode (g_m 6).2.1 23 = .ok (.aload_n 0, 1) := by decide +kernel
theorem d_6_24 : decode (g_m 6).2.1 24 = .ok (.getfield 32, 3) := by decide +kernel
theorem d_6_27 : decode (g_m 6).2.1 27 = .ok (.iload_n 1, 1) := by decide +kernel
theorem d_6_28 : decode (g_m 6).2.1 28 = .ok (.invokevirtual 66, 3) := by decide +kernel
theorem d_6_31 : decode (g_m 6).2.1 31 = .ok (.iload_n 1, 1) := by decide +kernel
theorem d_6_32 : decode (g_m 6).2.1 32 = .ok (.ireturn, 1) := by decide +kernel
theorem d_33_0 : decode (g_m 33).2.1 0 = .ok (.aload_n 0, 1) := by decide +kernel
theorem d_33_1 : decode (g_m 33).2.1 1 = .ok (.getfield 23, 3) := by decide +kernel
theorem d_33_4 : decode (g_m 33).2.1 4 = .ok (.iload_n 1, 1) := by decide +kernel
theorem d_33_5 : decode (g_m 33).2.1 5 = .ok (.invokevirtual 69, 3) := by decide +kernel
theorem d_33_8 : decode (g_m 33).2.1 8 = .ok (.ifCond .ne (5), 3) := by decide +kernel
theorem d_33_11 : decode (g_m 33).2.1 11 = .ok (.iconst (-1), 1) := by decide +kernel
theorem d_33_12 : decode (g_m 33).2.1 12 = .ok (.ireturn, 1) := by decide +kernel
theorem d_33_13 : decode (g_m 33).2.1 13 = .ok (.aload_n 0, 1) := by decide +kernel
theorem d_33_14 : decode (g_m 33).2.1 14 = .ok (.getfield 23, 3) := by decide +kernel
theorem d_33_17 : decode (g_m 33).2.1 17 = .ok (.iload_n 1, 1) := by decide +kernel
theorem d_33_18 : decode (g_m 33).2.1 18 = .ok (.bipush 100, 2) := by decide +kernel
theorem d_33_20 : decode (g_m 33).2.1 20 = .ok (.invokevirtual 73, 3) := by decide +kernel
theorem d_33_23 : decode (g_m 33).2.1 23 = .ok (.iconst 1, 1) := by decide +kernel
theorem d_33_24 : decode (g_m 33).2.1 24 = .ok (.ireturn, 1) := by decide +kernel
theorem d_34_0 : decode (g_m 34).2.1 0 = .ok (.aload_n 0, 1) := by decide +kernel
theorem d_34_1 : decode (g_m 34).2.1 1 = .ok (.getfield 23, 3) := by decide +kernel
theorem d_34_4 : decode (g_m 34).2.1 4 = .ok (.iload_n 1, 1) := by decide +kernel
theorem d_34_5 : decode (g_m 34).2.1 5 = .ok (.invokevirtual 69, 3) := by decide +kernel
theorem d_34_8 : decode (g_m 34).2.1 8 = .ok (.ifCond .ne (5), 3) := by decide +kernel
theorem d_34_11 : decode (g_m 34).2.1 11 = .ok (.iconst (-1), 1) := by decide +kernel
theorem d_34_12 : decode (g_m 34).2.1 12 = .ok (.ireturn, 1) := by decide +kernel
theorem d_34_13 : decode (g_m 34).2.1 13 = .ok (.aload_n 0, 1) := by decide +kernel
theorem d_34_14 : decode (g_m 34).2.1 14 = .ok (.getfield 23, 3) := by decide +kernel
theorem d_34_17 : decode (g_m 34).2.1 17 = .ok (.getfield 77, 3) := by decide +kernel
theorem d_34_20 : decode (g_m 34).2.1 20 = .ok (.iload_n 1, 1) := by decide +kernel
theorem d_34_21 : decode (g_m 34).2.1 21 = .ok (.baload, 1) := by decide +kernel
theorem d_34_22 : decode (g_m 34).2.1 22 = .ok (.istore_n 2, 1) := by decide +kernel
theorem d_34_23 : decode (g_m 34).2.1 23 = .ok (.aload_n 0, 1) := by decide +kernel
theorem d_34_24 : decode (g_m 34).2.1 24 = .ok (.getfield 23, 3) := by decide +kernel
theorem d_34_27 : decode (g_m 34).2.1 27 = .ok (.getfield 77, 3) := by decide +kernel
theorem d_34_30 : decode (g_m 34).2.1 30 = .ok (.iload_n 1, 1) := by decide +kernel
theorem d_34_31 : decode (g_m 34).2.1 31 = .ok (.iconst 1, 1) := by decide +kernel
theorem d_34_32 : decode (g_m 34).2.1 32 = .ok (.bastore, 1) := by decide +kernel
theorem d_34_33 : decode (g_m 34).2.1 33 = .ok (.iload_n 2, 1) := by decide +kernel
theorem d_34_34 : decode (g_m 34).2.1 34 = .ok (.ifCond .eq (7), 3) := by decide +kernel
theorem d_34_37 : decode (g_m 34).2.1 37 = .ok (.iconst 0, 1) := by decide +kernel
theorem d_34_38 : decode (g_m 34).2.1 38 = .ok (.goto (4), 3) := by decide +kernel
theorem d_34_41 : decode (g_m 34).2.1 41 = .ok (.iconst 1, 1) := by decide +kernel
theorem d_34_42 : decode (g_m 34).2.1 42 = .ok (.ireturn, 1) := by decide +kernel
theorem d_35_0 : decode (g_m 35).2.1 0 = .ok (.aload_n 0, 1) := by decide +kernel
theorem d_35_1 : decode (g_m 35).2.1 1 = .ok (.getfield 23, 3) := by decide +kernel
theorem d_35_4 : decode (g_m 35).2.1 4 = .ok (.iload_n 1, 1) := by decide +kernel
theorem d_35_5 : decode (g_m 35).2.1 5 = .ok (.invokevirtual 69, 3) := by decide +kernel
theorem d_35_8 : decode (g_m 35).2.1 8 = .ok (.ifCond .ne (5), 3) := by decide +kernel
theorem d_35_11 : decode (g_m 35).2.1 11 = .ok (.iconst (-1), 1) := by decide +kernel
theorem d_35_12 : decode (g_m 35).2.1 12 = .ok (.ireturn, 1) := by decide +kernel
theorem d_35_13 : decode (g_m 35).2.1 13 = .ok (.aload_n 0, 1) := by decide +kernel
theorem d_35_14 : decode (g_m 35).2.1 14 = .ok (.getfield 23, 3) := by decide +kernel
theorem d_35_17 : decode (g_m 35).2.1 17 = .ok (.getfield 81, 3) := by decide +kernel
theorem d_35_20 : decode (g_m 35).2.1 20 = .ok (.iload_n 1, 1) := by decide +kernel
theorem d_35_21 : decode (g_m 35).2.1 21 = .ok (.baload, 1) := by decide +kernel
theorem d_35_22 : decode (g_m 35).2.1 22 = .ok (.istore_n 3, 1) := by decide +kernel
theorem d_35_23 : decode (g_m 35).2.1 23 = .ok (.aload_n 0, 1) := by decide +kernel
theorem d_35_24 : decode (g_m 35).2.1 24 = .ok (.getfield 23, 3) := by decide +kernel
theorem d_35_27 : decode (g_m 35).2.1 27 = .ok (.getfield 81, 3) := by decide +kernel
theorem d_35_30 : decode (g_m 35).2.1 30 = .ok (.iload_n 1, 1) := by decide +kernel
theorem d_35_31 : decode (g_m 35).2.1 31 = .ok (.iload_n 2, 1) := by decide +kernel
theorem d_35_32 : decode (g_m 35).2.1 32 = .ok (.bastore, 1) := by decide +kernel
theorem d_35_33 : decode (g_m 35).2.1 33 = .ok (.iload_n 3, 1) := by decide +kernel
theorem d_35_34 : decode (g_m 35).2.1 34 = .ok (.ifCond .eq (7), 3) := by decide +kernel
theorem d_35_37 : decode (g_m 35).2.1 37 = .ok (.iconst 1, 1) := by decide +kernel
theorem d_35_38 : decode (g_m 35).2.1 38 = .ok (.goto (4), 3) := by decide +kernel
theorem d_35_41 : decode (g_m 35).2.1 41 = .ok (.iconst 0, 1) := by decide +kernel
theorem d_35_42 : decode (g_m 35).2.1 42 = .ok (.ireturn, 1) := by decide +kernel
theorem d_36_0 : decode (g_m 36).2.1 0 = .ok (.aload_n 0, 1) := by decide +kernel
theorem d_36_1 : decode (g_m 36).2.1 1 = .ok (.getfield 23, 3) := by decide +kernel
theorem d_36_4 : decode (g_m 36).2.1 4 = .ok (.invokevirtual 84, 3) := by decide +kernel
theorem d_36_7 : decode (g_m 36).2.1 7 = .ok (.istore_n 1, 1) := by decide +kernel
theorem d_36_8 : decode (g_m 36).2.1 8 = .ok (.aload_n 0, 1) := by decide +kernel
theorem d_36_9 : decode (g_m 36).2.1 9 = .ok (.getfield 39, 3) := by decide +kernel
theorem d_36_12 : decode (g_m 36).2.1 12 = .ok (.invokevirtual 87, 3) := by decide +kernel
theorem d_36_15 : decode (g_m 36).2.1 15 = .ok (.aload_n 0, 1) := by decide +kernel
theorem d_36_16 : decode (g_m 36).2.1 16 = .ok (.getfield 32, 3) := by decide +kernel
theorem d_36_19 : decode (g_m 36).2.1 19 = .ok (.invokevirtual 90, 3) := by decide +kernel
theorem d_36_22 : decode (g_m 36).2.1 22 = .ok (.iload_n 1, 1) := by decide +kernel
theorem d_36_23 : decode (g_m 36).2.1 23 = .ok (.ireturn, 1) := by decide +kernel
theorem d_39_0 : decode (g_m 39).2.1 0 = .ok (.iconst (-1), 1) := by decide +kernel
theorem d_39_1 : decode (g_m 39).2.1 1 = .ok (.istore_n 3, 1) := by decide +kernel
theorem d_39_2 : decode (g_m 39).2.1 2 = .ok (.iload_n 1, 1) := by decide +kernel
theorem d_39_3 : decode (g_m 39).2.1 3 = .ok (.ifCond .ne (31), 3) := by decide +kernel
theorem d_39_6 : decode (g_m 39).2.1 6 = .ok (.iload_n 2, 1) := by decide +kernel
theorem d_39_7 : decode (g_m 39).2.1 7 = .ok (.ifCond .lt (27), 3) := by decide +kernel
theorem d_39_10 : decode (g_m 39).2.1 10 = .ok (.iload_n 2, 1) := by decide +kernel
theorem d_39_11 : decode (g_m 39).2.1 11 = .ok (.iconst 2, 1) := by decide +kernel
theorem d_39_12 : decode (g_m 39).2.1 12 = .ok (.if_icmp .gt (22), 3) := by decide +kernel
theorem d_39_15 : decode (g_m 39).2.1 15 = .ok (.aload_n 0, 1) := by decide +kernel
theorem d_39_16 : decode (g_m 39).2.1 16 = .ok (.getfield 23, 3) := by decide +kernel
theorem d_39_19 : decode (g_m 39).2.1 19 = .ok (.getfield 93, 3) := by decide +kernel
theorem d_39_22 : decode (g_m 39).2.1 22 = .ok (.istore_n 3, 1) := by decide +kernel
theorem d_39_23 : decode (g_m 39).2.1 23 = .ok (.aload_n 0, 1) := by decide +kernel
theorem d_39_24 : decode (g_m 39).2.1 24 = .ok (.getfield 23, 3) := by decide +kernel
theorem d_39_27 : decode (g_m 39).2.1 27 = .ok (.iload_n 2, 1) := by decide +kernel
theorem d_39_28 : decode (g_m 39).2.1 28 = .ok (.putfield 93, 3) := by decide +kernel
theorem d_39_31 : decode (g_m 39).2.1 31 = .ok (.goto (85), 3) := by decide +kernel
theorem d_39_34 : decode (g_m 39).2.1 34 = .ok (.iload_n 1, 1) := by decide +kernel
theorem d_39_35 : decode (g_m 39).2.1 35 = .ok (.iconst 1, 1) := by decide +kernel
theorem d_39_36 : decode (g_m 39).2.1 36 = .ok (.if_icmp .ne (33), 3) := by decide +kernel
theorem d_39_39 : decode (g_m 39).2.1 39 = .ok (.iload_n 2, 1) := by decide +kernel
theorem d_39_40 : decode (g_m 39).2.1 40 = .ok (.iconst 2, 1) := by decide +kernel
theorem d_39_41 : decode (g_m 39).2.1 41 = .ok (.if_icmp .lt (28), 3) := by decide +kernel
theorem d_39_44 : decode (g_m 39).2.1 44 = .ok (.iload_n 2, 1) := by decide +kernel
theorem d_39_45 : decode (g_m 39).2.1 45 = .ok (.bipush 6, 2) := by decide +kernel
theorem d_39_47 : decode (g_m 39).2.1 47 = .ok (.if_icmp .gt (22), 3) := by decide +kernel
theorem d_39_50 : decode (g_m 39).2.1 50 = .ok (.aload_n 0, 1) := by decide +kernel
theorem d_39_51 : decode (g_m 39).2.1 51 = .ok (.getfield 32, 3) := by decide +kernel
theorem d_39_54 : decode (g_m 39).2.1 54 = .ok (.getfield 96, 3) := by decide +kernel
theorem d_39_57 : decode (g_m 39).2.1 57 = .ok (.istore_n 3, 1) := by decide +kernel
theorem d_39_58 : decode (g_m 39).2.1 58 = .ok (.aload_n 0, 1) := by decide +kernel
theorem d_39_59 : decode (g_m 39).2.1 59 = .ok (.getfield 32, 3) := by decide +kernel
theorem d_39_62 : decode (g_m 39).2.1 62 = .ok (.iload_n 2, 1) := by decide +kernel
theorem d_39_63 : decode (g_m 39).2.1 63 = .ok (.putfield 96, 3) := by decide +kernel
theorem d_39_66 : decode (g_m 39).2.1 66 = .ok (.goto (50), 3) := by decide +kernel
theorem d_39_69 : decode (g_m 39).2.1 69 = .ok (.iload_n 1, 1) := by decide +kernel
theorem d_39_70 : decode (g_m 39).2.1 70 = .ok (.iconst 2, 1) := by decide +kernel
theorem d_39_71 : decode (g_m 39).2.1 71 = .ok (.if_icmp .ne (45), 3) := by decide +kernel
theorem d_39_74 : decode (g_m 39).2.1 74 = .ok (.iload_n 2, 1) := by decide +kernel
theorem d_39_75 : decode (g_m 39).2.1 75 = .ok (.ifCond .eq (8), 3) := by decide +kernel
theorem d_39_78 : decode (g_m 39).2.1 78 = .ok (.iload_n 2, 1) := by decide +kernel
theorem d_39_79 : decode (g_m 39).2.1 79 = .ok (.iconst 1, 1) := by decide +kernel
theorem d_39_80 : decode (g_m 39).2.1 80 = .ok (.if_icmp .ne (36), 3) := by decide +kernel
theorem d_39_83 : decode (g_m 39).2.1 83 = .ok (.aload_n 0, 1) := by decide +kernel
theorem d_39_84 : decode (g_m 39).2.1 84 = .ok (.getfield 32, 3) := by decide +kernel
theorem d_39_87 : decode (g_m 39).2.1 87 = .ok (.getfield 99, 3) := by decide +kernel
theorem d_39_90 : decode (g_m 39).2.1 90 = .ok (.ifCond .eq (7), 3) := by decide +kernel
theorem d_39_93 : decode (g_m 39).2.1 93 = .ok (.iconst 1, 1) := by decide +kernel
theorem d_39_94 : decode (g_m 39).2.1 94 = .ok (.goto (4), 3) := by decide +kernel
theorem d_39_97 : decode (g_m 39).2.1 97 = .ok (.iconst 0, 1) := by decide +kernel
theorem d_39_98 : decode (g_m 39).2.1 98 = .ok (.istore_n 3, 1) := by decide +kernel
theorem d_39_99 : decode (g_m 39).2.1 99 = .ok (.aload_n 0, 1) := by decide +kernel
theorem d_39_100 : decode (g_m 39).2.1 100 = .ok (.getfield 32, 3) := by decide +kernel
theorem d_39_103 : decode (g_m 39).2.1 103 = .ok (.iload_n 2, 1) := by decide +kernel
theorem d_39_104 : decode (g_m 39).2.1 104 = .ok (.iconst 1, 1) := by decide +kernel
theorem d_39_105 : decode (g_m 39).2.1 105 = .ok (.if_icmp .ne (7), 3) := by decide +kernel
theorem d_39_108 : decode (g_m 39).2.1 108 = .ok (.iconst 1, 1) := by decide +kernel
theorem d_39_109 : decode (g_m 39).2.1 109 = .ok (.goto (4), 3) := by decide +kernel
theorem d_39_112 : decode (g_m 39).2.1 112 = .ok (.iconst 0, 1) := by decide +kernel
theorem d_39_113 : decode (g_m 39).2.1 113 = .ok (.putfield 99, 3) := by decide +kernel
theorem d_39_116 : decode (g_m 39).2.1 116 = .ok (.iload_n 3, 1) := by decide +kernel
theorem d_39_117 : decode (g_m 39).2.1 117 = .ok (.iconst (-1), 1) := by decide +kernel
theorem d_39_118 : decode (g_m 39).2.1 118 = .ok (.if_icmp .eq (10), 3) := by decide +kernel
theorem d_39_121 : decode (g_m 39).2.1 121 = .ok (.aload_n 0, 1) := by decide +kernel
theorem d_39_122 : decode (g_m 39).2.1 122 = .ok (.getfield 32, 3) := by decide +kernel
theorem d_39_125 : decode (g_m 39).2.1 125 = .ok (.invokevirtual 90, 3) := by decide +kernel
theorem d_39_128 : decode (g_m 39).2.1 128 = .ok (.iload_n 3, 1) := by decide +kernel
theorem d_39_129 : decode (g_m 39).2.1 129 = .ok (.ireturn, 1) := by decide +kernel
theorem d_40_0 : decode (g_m 40).2.1 0 = .ok (.iload_n 1, 1) := by decide +kernel
theorem d_40_1 : decode (g_m 40).2.1 1 = .ok (.iconst 1, 1) := by decide +kernel
theorem d_40_2 : decode (g_m 40).2.1 2 = .ok (.if_icmp .lt (9), 3) := by decide +kernel
theorem d_40_5 : decode (g_m 40).2.1 5 = .ok (.iload_n 1, 1) := by decide +kernel
theorem d_40_6 : decode (g_m 40).2.1 6 = .ok (.bipush 100, 2) := by decide +kernel
theorem d_40_8 : decode (g_m 40).2.1 8 = .ok (.if_icmp .le (5), 3) := by decide +kernel
theorem d_40_11 : decode (g_m 40).2.1 11 = .ok (.iconst (-1), 1) := by decide +kernel
theorem d_40_12 : decode (g_m 40).2.1 12 = .ok (.ireturn, 1) := by decide +kernel
theorem d_40_13 : decode (g_m 40).2.1 13 = .ok (.aload_n 0, 1) := by decide +kernel
theorem d_40_14 : decode (g_m 40).2.1 14 = .ok (.aload_n 0, 1) := by decide +kernel
theorem d_40_15 : decode (g_m 40).2.1 15 = .ok (.getfield 39, 3) := by decide +kernel
theorem d_40_18 : decode (g_m 40).2.1 18 = .ok (.bipush 100, 2) := by decide +kernel
theorem d_40_20 : decode (g_m 40).2.1 20 = .ok (.invokevirtual 103, 3) := by decide +kernel
theorem d_40_23 : decode (g_m 40).2.1 23 = .ok (.aload_n 0, 1) := by decide +kernel
theorem d_40_24 : decode (g_m 40).2.1 24 = .ok (.getfield 39, 3) := by decide +kernel
theorem d_40_27 : decode (g_m 40).2.1 27 = .ok (.iload_n 1, 1) := by decide +kernel
theorem d_40_28 : decode (g_m 40).2.1 28 = .ok (.invokevirtual 107, 3) := by decide +kernel
theorem d_40_31 : decode (g_m 40).2.1 31 = .ok (.aload_n 0, 1) := by decide +kernel
theorem d_40_32 : decode (g_m 40).2.1 32 = .ok (.getfield 39, 3) := by decide +kernel
theorem d_40_35 : decode (g_m 40).2.1 35 = .ok (.getfield 110, 3) := by decide +kernel
theorem d_40_38 : decode (g_m 40).2.1 38 = .ok (.ireturn, 1) := by decide +kernel
theorem d_41_0 : decode (g_m 41).2.1 0 = .ok (.aload_n 1, 1) := by decide +kernel
theorem d_41_1 : decode (g_m 41).2.1 1 = .ok (.invokevirtual 87, 3) := by decide +kernel
theorem d_41_4 : decode (g_m 41).2.1 4 = .ok (.iconst 0, 1) := by decide +kernel
theorem d_41_5 : decode (g_m 41).2.1 5 = .ok (.istore_n 3, 1) := by decide +kernel
theorem d_41_6 : decode (g_m 41).2.1 6 = .ok (.iload_n 3, 1) := by decide +kernel
theorem d_41_7 : decode (g_m 41).2.1 7 = .ok (.aload_n 0, 1) := by decide +kernel
theorem d_41_8 : decode (g_m 41).2.1 8 = .ok (.getfield 23, 3) := by decide +kernel
theorem d_41_11 : decode (g_m 41).2.1 11 = .ok (.getfield 59, 3) := by decide +kernel
theorem d_41_14 : decode (g_m 41).2.1 14 = .ok (.if_icmp .ge (36), 3) := by decide +kernel
theorem d_41_17 : decode (g_m 41).2.1 17 = .ok (.aload_n 0, 1) := by decide +kernel
theorem d_41_18 : decode (g_m 41).2.1 18 = .ok (.getfield 23, 3) := by decide +kernel
theorem d_41_21 : decode (g_m 41).2.1 21 = .ok (.iload_n 3, 1) := by decide +kernel
theorem d_41_22 : decode (g_m 41).2.1 22 = .ok (.invokevirtual 156, 3) := by decide +kernel
theorem d_41_25 : decode (g_m 41).2.1 25 = .ok (.ifCond .eq (19), 3) := by decide +kernel
theorem d_41_28 : decode (g_m 41).2.1 28 = .ok (.aload_n 1, 1) := by decide +kernel
theorem d_41_29 : decode (g_m 41).2.1 29 = .ok (.iload_n 3, 1) := by decide +kernel
theorem d_41_30 : decode (g_m 41).2.1 30 = .ok (.aload_n 0, 1) := by decide +kernel
theorem d_41_31 : decode (g_m 41).2.1 31 = .ok (.getfield 23, 3) := by decide +kernel
theorem d_41_34 : decode (g_m 41).2.1 34 = .ok (.bipush 100, 2) := by decide +kernel
theorem d_41_36 : decode (g_m 41).2.1 36 = .ok (.iload_n 3, 1) := by decide +kernel
theorem d_41_37 : decode (g_m 41).2.1 37 = .ok (.iload_n 2, 1) := by decide +kernel
theorem d_41_38 : decode (g_m 41).2.1 38 = .ok (.invokevirtual 124, 3) := by decide +kernel
theorem d_41_41 : decode (g_m 41).2.1 41 = .ok (.invokevirtual 128, 3) := by decide +kernel
theorem d_41_44 : decode (g_m 41).2.1 44 = .ok (.iinc 3 1, 3) := by decide +kernel
theorem d_41_47 : decode (g_m 41).2.1 47 = .ok (.goto (-41), 3) := by decide +kernel
theorem d_41_50 : decode (g_m 41).2.1 50 = .ok (.return_, 1) := by decide +kernel
theorem d_43_0 : decode (g_m 43).2.1 0 = .ok (.iload_n 1, 1) := by decide +kernel
theorem d_43_1 : decode (g_m 43).2.1 1 = .ok (.iload_n 2, 1) := by decide +kernel
theorem d_43_2 : decode (g_m 43).2.1 2 = .ok (.invokestatic 113, 3) := by decide +kernel
theorem d_43_5 : decode (g_m 43).2.1 5 = .ok (.ifCond .ne (5), 3) := by decide +kernel
theorem d_43_8 : decode (g_m 43).2.1 8 = .ok (.iconst (-1), 1) := by decide +kernel
theorem d_43_9 : decode (g_m 43).2.1 9 = .ok (.ireturn, 1) := by decide +kernel
theorem d_43_10 : decode (g_m 43).2.1 10 = .ok (.aload_n 0, 1) := by decide +kernel
theorem d_43_11 : decode (g_m 43).2.1 11 = .ok (.aload_n 0, 1) := by decide +kernel
theorem d_43_12 : decode (g_m 43).2.1 12 = .ok (.getfield 39, 3) := by decide +kernel
theorem d_43_15 : decode (g_m 43).2.1 15 = .ok (.iload_n 2, 1) := by decide +kernel
theorem d_43_16 : decode (g_m 43).2.1 16 = .ok (.invokevirtual 117, 3) := by decide +kernel
theorem d_43_19 : decode (g_m 43).2.1 19 = .ok (.aload_n 0, 1) := by decide +kernel
theorem d_43_20 : decode (g_m 43).2.1 20 = .ok (.getfield 39, 3) := by decide +kernel
theorem d_43_23 : decode (g_m 43).2.1 23 = .ok (.iload_n 1, 1) := by decide +kernel
theorem d_43_24 : decode (g_m 43).2.1 24 = .ok (.invokevirtual 107, 3) := by decide +kernel
theorem d_43_27 : decode (g_m 43).2.1 27 = .ok (.aload_n 0, 1) := by decide +kernel
theorem d_43_28 : decode (g_m 43).2.1 28 = .ok (.getfield 39, 3) := by decide +kernel
theorem d_43_31 : decode (g_m 43).2.1 31 = .ok (.getfield 110, 3) := by decide +kernel
theorem d_43_34 : decode (g_m 43).2.1 34 = .ok (.ireturn, 1) := by decide +kernel
theorem d_44_0 : decode (g_m 44).2.1 0 = .ok (.iload_n 0, 1) := by decide +kernel
theorem d_44_1 : decode (g_m 44).2.1 1 = .ok (.iconst 1, 1) := by decide +kernel
theorem d_44_2 : decode (g_m 44).2.1 2 = .ok (.if_icmp .lt (18), 3) := by decide +kernel
theorem d_44_5 : decode (g_m 44).2.1 5 = .ok (.iload_n 1, 1) := by decide +kernel
theorem d_44_6 : decode (g_m 44).2.1 6 = .ok (.iload_n 0, 1) := by decide +kernel
theorem d_44_7 : decode (g_m 44).2.1 7 = .ok (.if_icmp .lt (13), 3) := by decide +kernel
theorem d_44_10 : decode (g_m 44).2.1 10 = .ok (.iload_n 1, 1) := by decide +kernel
theorem d_44_11 : decode (g_m 44).2.1 11 = .ok (.bipush 60, 2) := by decide +kernel
theorem d_44_13 : decode (g_m 44).2.1 13 = .ok (.if_icmp .gt (7), 3) := by decide +kernel
theorem d_44_16 : decode (g_m 44).2.1 16 = .ok (.iconst 1, 1) := by decide +kernel
theorem d_44_17 : decode (g_m 44).2.1 17 = .ok (.goto (4), 3) := by decide +kernel
theorem d_44_20 : decode (g_m 44).2.1 20 = .ok (.iconst 0, 1) := by decide +kernel
theorem d_44_21 : decode (g_m 44).2.1 21 = .ok (.ireturn, 1) := by decide +kernel
theorem d_45_0 : decode (g_m 45).2.1 0 = .ok (.aload_n 0, 1) := by decide +kernel
theorem d_45_1 : decode (g_m 45).2.1 1 = .ok (.getfield 32, 3) := by decide +kernel
theorem d_45_4 : decode (g_m 45).2.1 4 = .ok (.iload_n 2, 1) := by decide +kernel
theorem d_45_5 : decode (g_m 45).2.1 5 = .ok (.invokevirtual 159, 3) := by decide +kernel
theorem d_45_8 : decode (g_m 45).2.1 8 = .ok (.aload_n 0, 1) := by decide +kernel
theorem d_45_9 : decode (g_m 45).2.1 9 = .ok (.aload_n 0, 1) := by decide +kernel
theorem d_45_10 : decode (g_m 45).2.1 10 = .ok (.getfield 32, 3) := by decide +kernel
theorem d_45_13 : decode (g_m 45).2.1 13 = .ok (.getfield 162, 3) := by decide +kernel
theorem d_45_16 : decode (g_m 45).2.1 16 = .ok (.putfield 49, 3) := by decide +kernel
theorem d_45_19 : decode (g_m 45).2.1 19 = .ok (.aload_n 1, 1) := by decide +kernel
theorem d_45_20 : decode (g_m 45).2.1 20 = .ok (.invokevirtual 87, 3) := by decide +kernel
theorem d_45_23 : decode (g_m 45).2.1 23 = .ok (.iconst 0, 1) := by decide +kernel
theorem d_45_24 : decode (g_m 45).2.1 24 = .ok (.istore_n 3, 1) := by decide +kernel
theorem d_45_25 : decode (g_m 45).2.1 25 = .ok (.iload_n 3, 1) := by decide +kernel
theorem d_45_26 : decode (g_m 45).2.1 26 = .ok (.aload_n 0, 1) := by decide +kernel
theorem d_45_27 : decode (g_m 45).2.1 27 = .ok (.getfield 32, 3) := by decide +kernel
theorem d_45_30 : decode (g_m 45).2.1 30 = .ok (.getfield 165, 3) := by decide +kernel
theorem d_45_33 : decode (g_m 45).2.1 33 = .ok (.getfield 110, 3) := by decide +kernel
theorem d_45_36 : decode (g_m 45).2.1 36 = .ok (.if_icmp .ge (51), 3) := by decide +kernel
theorem d_45_39 : decode (g_m 45).2.1 39 = .ok (.aload_n 0, 1) := by decide +kernel
theorem d_45_40 : decode (g_m 45).2.1 40 = .ok (.getfield 32, 3) := by decide +kernel
theorem d_45_43 : decode (g_m 45).2.1 43 = .ok (.getfield 165, 3) := by decide +kernel
theorem d_45_46 : decode (g_m 45).2.1 46 = .ok (.iload_n 3, 1) := by decide +kernel
theorem d_45_47 : decode (g_m 45).2.1 47 = .ok (.invokevirtual 120, 3) := by decide +kernel
theorem d_45_50 : decode (g_m 45).2.1 50 = .ok (.istore 4, 2) := by decide +kernel
theorem d_45_52 : decode (g_m 45).2.1 52 = .ok (.aload_n 0, 1) := by decide +kernel
theorem d_45_53 : decode (g_m 45).2.1 53 = .ok (.getfield 23, 3) := by decide +kernel
theorem d_45_56 : decode (g_m 45).2.1 56 = .ok (.iload 4, 2) := by decide +kernel
theorem d_45_58 : decode (g_m 45).2.1 58 = .ok (.invokevirtual 156, 3) := by decide +kernel
theorem d_45_61 : decode (g_m 45).2.1 61 = .ok (.ifCond .eq (20), 3) := by decide +kernel
theorem d_45_64 : decode (g_m 45).2.1 64 = .ok (.aload_n 1, 1) := by decide +kernel
theorem d_45_65 : decode (g_m 45).2.1 65 = .ok (.iload 4, 2) := by decide +kernel
theorem d_45_67 : decode (g_m 45).2.1 67 = .ok (.aload_n 0, 1) := by decide +kernel
theorem d_45_68 : decode (g_m 45).2.1 68 = .ok (.getfield 32, 3) := by decide +kernel
theorem d_45_71 : decode (g_m 45).2.1 71 = .ok (.getfield 165, 3) := by decide +kernel
theorem d_45_74 : decode (g_m 45).2.1 74 = .ok (.iload_n 3, 1) := by decide +kernel
theorem d_45_75 : decode (g_m 45).2.1 75 = .ok (.invokevirtual 168, 3) := by decide +kernel
theorem d_45_78 : decode (g_m 45).2.1 78 = .ok (.invokevirtual 128, 3) := by decide +kernel
theorem d_45_81 : decode (g_m 45).2.1 81 = .ok (.iinc 3 1, 3) := by decide +kernel
theorem d_45_84 : decode (g_m 45).2.1 84 = .ok (.goto (-59), 3) := by decide +kernel
theorem d_45_87 : decode (g_m 45).2.1 87 = .ok (.return_, 1) := by decide +kernel
theorem d_47_0 : decode (g_m 47).2.1 0 = .ok (.iload_n 1, 1) := by decide +kernel
theorem d_47_1 : decode (g_m 47).2.1 1 = .ok (.iconst 1, 1) := by decide +kernel
theorem d_47_2 : decode (g_m 47).2.1 2 = .ok (.if_icmp .lt (25), 3) := by decide +kernel
theorem d_47_5 : decode (g_m 47).2.1 5 = .ok (.iload_n 2, 1) := by decide +kernel
theorem d_47_6 : decode (g_m 47).2.1 6 = .ok (.iload_n 1, 1) := by decide +kernel
theorem d_47_7 : decode (g_m 47).2.1 7 = .ok (.if_icmp .lt (20), 3) := by decide +kernel
theorem d_47_10 : decode (g_m 47).2.1 10 = .ok (.iload_n 2, 1) := by decide +kernel
theorem d_47_11 : decode (g_m 47).2.1 11 = .ok (.bipush 100, 2) := by decide +kernel
theorem d_47_13 : decode (g_m 47).2.1 13 = .ok (.if_icmp .gt (14), 3) := by decide +kernel
theorem d_47_16 : decode (g_m 47).2.1 16 = .ok (.iload_n 3, 1) := by decide +kernel
theorem d_47_17 : decode (g_m 47).2.1 17 = .ok (.iconst 1, 1) := by decide +kernel
theorem d_47_18 : decode (g_m 47).2.1 18 = .ok (.if_icmp .lt (9), 3) := by decide +kernel
theorem d_47_21 : decode (g_m 47).2.1 21 = .ok (.iload_n 3, 1) := by decide +kernel
theorem d_47_22 : decode (g_m 47).2.1 22 = .ok (.bipush 100, 2) := by decide +kernel
theorem d_47_24 : decode (g_m 47).2.1 24 = .ok (.if_icmp .le (5), 3) := by decide +kernel
theorem d_47_27 : decode (g_m 47).2.1 27 = .ok (.iconst (-1), 1) := by decide +kernel
theorem d_47_28 : decode (g_m 47).2.1 28 = .ok (.ireturn, 1) := by decide +kernel
theorem d_47_29 : decode (g_m 47).2.1 29 = .ok (.aload_n 0, 1) := by decide +kernel
theorem d_47_30 : decode (g_m 47).2.1 30 = .ok (.aload_n 0, 1) := by decide +kernel
theorem d_47_31 : decode (g_m 47).2.1 31 = .ok (.getfield 43, 3) := by decide +kernel
theorem d_47_34 : decode (g_m 47).2.1 34 = .ok (.iload_n 3, 1) := by decide +kernel
theorem d_47_35 : decode (g_m 47).2.1 35 = .ok (.invokevirtual 103, 3) := by decide +kernel
theorem d_47_38 : decode (g_m 47).2.1 38 = .ok (.aload_n 0, 1) := by decide +kernel
theorem d_47_39 : decode (g_m 47).2.1 39 = .ok (.getfield 43, 3) := by decide +kernel
theorem d_47_42 : decode (g_m 47).2.1 42 = .ok (.iload_n 2, 1) := by decide +kernel
theorem d_47_43 : decode (g_m 47).2.1 43 = .ok (.invokevirtual 107, 3) := by decide +kernel
theorem d_47_46 : decode (g_m 47).2.1 46 = .ok (.aload_n 0, 1) := by decide +kernel
theorem d_47_47 : decode (g_m 47).2.1 47 = .ok (.getfield 39, 3) := by decide +kernel
theorem d_47_50 : decode (g_m 47).2.1 50 = .ok (.invokevirtual 87, 3) := by decide +kernel
theorem d_47_53 : decode (g_m 47).2.1 53 = .ok (.iconst 0, 1) := by decide +kernel
theorem d_47_54 : decode (g_m 47).2.1 54 = .ok (.istore 4, 2) := by decide +kernel
theorem d_47_56 : decode (g_m 47).2.1 56 = .ok (.iload 4, 2) := by decide +kernel
theorem d_47_58 : decode (g_m 47).2.1 58 = .ok (.aload_n 0, 1) := by decide +kernel
theorem d_47_59 : decode (g_m 47).2.1 59 = .ok (.getfield 43, 3) := by decide +kernel
theorem d_47_62 : decode (g_m 47).2.1 62 = .ok (.getfield 110, 3) := by decide +kernel
theorem d_47_65 : decode (g_m 47).2.1 65 = .ok (.if_icmp .ge (42), 3) := by decide +kernel
theorem d_47_68 : decode (g_m 47).2.1 68 = .ok (.aload_n 0, 1) := by decide +kernel
theorem d_47_69 : decode (g_m 47).2.1 69 = .ok (.getfield 43, 3) := by decide +kernel
theorem d_47_72 : decode (g_m 47).2.1 72 = .ok (.iload 4, 2) := by decide +kernel
theorem d_47_74 : decode (g_m 47).2.1 74 = .ok (.invokevirtual 120, 3) := by decide +kernel
theorem d_47_77 : decode (g_m 47).2.1 77 = .ok (.istore 5, 2) := by decide +kernel
theorem d_47_79 : decode (g_m 47).2.1 79 = .ok (.aload_n 0, 1) := by decide +kernel
theorem d_47_80 : decode (g_m 47).2.1 80 = .ok (.getfield 39, 3) := by decide +kernel
theorem d_47_83 : decode (g_m 47).2.1 83 = .ok (.iload 5, 2) := by decide +kernel
theorem d_47_85 : decode (g_m 47).2.1 85 = .ok (.aload_n 0, 1) := by decide +kernel
theorem d_47_86 : decode (g_m 47).2.1 86 = .ok (.getfield 23, 3) := by decide +kernel
theorem d_47_89 : decode (g_m 47).2.1 89 = .ok (.bipush 100, 2) := by decide +kernel
theorem d_47_91 : decode (g_m 47).2.1 91 = .ok (.iload 5, 2) := by decide +kernel
theorem d_47_93 : decode (g_m 47).2.1 93 = .ok (.bipush 100, 2) := by decide +kernel
theorem d_47_95 : decode (g_m 47).2.1 95 = .ok (.invokevirtual 124, 3) := by decide +kernel
theorem d_47_98 : decode (g_m 47).2.1 98 = .ok (.invokevirtual 128, 3) := by decide +kernel
theorem d_47_101 : decode (g_m 47).2.1 101 = .ok (.iinc 4 1, 3) := by decide +kernel
theorem d_47_104 : decode (g_m 47).2.1 104 = .ok (.goto (-48), 3) := by decide +kernel
theorem d_47_107 : decode (g_m 47).2.1 107 = .ok (.aload_n 0, 1) := by decide +kernel
theorem d_47_108 : decode (g_m 47).2.1 108 = .ok (.getfield 39, 3) := by decide +kernel
theorem d_47_111 : decode (g_m 47).2.1 111 = .ok (.iload_n 1, 1) := by decide +kernel
theorem d_47_112 : decode (g_m 47).2.1 112 = .ok (.invokevirtual 107, 3) := by decide +kernel
theorem d_47_115 : decode (g_m 47).2.1 115 = .ok (.aload_n 0, 1) := by decide +kernel
theorem d_47_116 : decode (g_m 47).2.1 116 = .ok (.getfield 39, 3) := by decide +kernel
theorem d_47_119 : decode (g_m 47).2.1 119 = .ok (.getfield 110, 3) := by decide +kernel
theorem d_47_122 : decode (g_m 47).2.1 122 = .ok (.ireturn, 1) := by decide +kernel
theorem d_48_0 : decode (g_m 48).2.1 0 = .ok (.iload_n 1, 1) := by decide +kernel
theorem d_48_1 : decode (g_m 48).2.1 1 = .ok (.iload_n 2, 1) := by decide +kernel
theorem d_48_2 : decode (g_m 48).2.1 2 = .ok (.invokestatic 113, 3) := by decide +kernel
theorem d_48_5 : decode (g_m 48).2.1 5 = .ok (.ifCond .ne (5), 3) := by decide +kernel
theorem d_48_8 : decode (g_m 48).2.1 8 = .ok (.iconst (-1), 1) := by decide +kernel
theorem d_48_9 : decode (g_m 48).2.1 9 = .ok (.ireturn, 1) := by decide +kernel
theorem d_48_10 : decode (g_m 48).2.1 10 = .ok (.aload_n 0, 1) := by decide +kernel
theorem d_48_11 : decode (g_m 48).2.1 11 = .ok (.aload_n 0, 1) := by decide +kernel
theorem d_48_12 : decode (g_m 48).2.1 12 = .ok (.getfield 43, 3) := by decide +kernel
theorem d_48_15 : decode (g_m 48).2.1 15 = .ok (.bipush 100, 2) := by decide +kernel
theorem d_48_17 : decode (g_m 48).2.1 17 = .ok (.invokevirtual 103, 3) := by decide +kernel
theorem d_48_20 : decode (g_m 48).2.1 20 = .ok (.aload_n 0, 1) := by decide +kernel
theorem d_48_21 : decode (g_m 48).2.1 21 = .ok (.getfield 43, 3) := by decide +kernel
theorem d_48_24 : decode (g_m 48).2.1 24 = .ok (.iload_n 1, 1) := by decide +kernel
theorem d_48_25 : decode (g_m 48).2.1 25 = .ok (.invokevirtual 107, 3) := by decide +kernel
theorem d_48_28 : decode (g_m 48).2.1 28 = .ok (.aload_n 0, 1) := by decide +kernel
theorem d_48_29 : decode (g_m 48).2.1 29 = .ok (.aload_n 0, 1) := by decide +kernel
theorem d_48_30 : decode (g_m 48).2.1 30 = .ok (.getfield 46, 3) := by decide +kernel
theorem d_48_33 : decode (g_m 48).2.1 33 = .ok (.iload_n 2, 1) := by decide +kernel
theorem d_48_34 : decode (g_m 48).2.1 34 = .ok (.invokevirtual 117, 3) := by decide +kernel
theorem d_48_37 : decode (g_m 48).2.1 37 = .ok (.aload_n 0, 1) := by decide +kernel
theorem d_48_38 : decode (g_m 48).2.1 38 = .ok (.getfield 46, 3) := by decide +kernel
theorem d_48_41 : decode (g_m 48).2.1 41 = .ok (.iload_n 1, 1) := by decide +kernel
theorem d_48_42 : decode (g_m 48).2.1 42 = .ok (.invokevirtual 107, 3) := by decide +kernel
theorem d_48_45 : decode (g_m 48).2.1 45 = .ok (.iconst 0, 1) := by decide +kernel
theorem d_48_46 : decode (g_m 48).2.1 46 = .ok (.istore_n 3, 1) := by decide +kernel
theorem d_48_47 : decode (g_m 48).2.1 47 = .ok (.iconst 0, 1) := by decide +kernel
theorem d_48_48 : decode (g_m 48).2.1 48 = .ok (.istore 4, 2) := by decide +kernel
theorem d_48_50 : decode (g_m 48).2.1 50 = .ok (.iload 4, 2) := by decide +kernel
theorem d_48_52 : decode (g_m 48).2.1 52 = .ok (.aload_n 0, 1) := by decide +kernel
theorem d_48_53 : decode (g_m 48).2.1 53 = .ok (.getfield 46, 3) := by decide +kernel
theorem d_48_56 : decode (g_m 48).2.1 56 = .ok (.getfield 110, 3) := by decide +kernel
theorem d_48_59 : decode (g_m 48).2.1 59 = .ok (.if_icmp .ge (31), 3) := by decide +kernel
theorem d_48_62 : decode (g_m 48).2.1 62 = .ok (.aload_n 0, 1) := by decide +kernel
theorem d_48_63 : decode (g_m 48).2.1 63 = .ok (.getfield 43, 3) := by decide +kernel
theorem d_48_66 : decode (g_m 48).2.1 66 = .ok (.aload_n 0, 1) := by decide +kernel
theorem d_48_67 : decode (g_m 48).2.1 67 = .ok (.getfield 46, 3) := by decide +kernel
theorem d_48_70 : decode (g_m 48).2.1 70 = .ok (.iload 4, 2) := by decide +kernel
theorem d_48_72 : decode (g_m 48).2.1 72 = .ok (.invokevirtual 120, 3) := by decide +kernel
theorem d_48_75 : decode (g_m 48).2.1 75 = .ok (.invokevirtual 131, 3) := by decide +kernel
theorem d_48_78 : decode (g_m 48).2.1 78 = .ok (.ifCond .eq (6), 3) := by decide +kernel
theorem d_48_81 : decode (g_m 48).2.1 81 = .ok (.iinc 3 1, 3) := by decide +kernel
theorem d_48_84 : decode (g_m 48).2.1 84 = .ok (.iinc 4 1, 3) := by decide +kernel
theorem d_48_87 : decode (g_m 48).2.1 87 = .ok (.goto (-37), 3) := by decide +kernel
theorem d_48_90 : decode (g_m 48).2.1 90 = .ok (.iload_n 3, 1) := by decide +kernel
theorem d_48_91 : decode (g_m 48).2.1 91 = .ok (.ireturn, 1) := by decide +kernel
theorem d_50_0 : decode (g_m 50).2.1 0 = .ok (.aload_n 0, 1) := by decide +kernel
theorem d_50_1 : decode (g_m 50).2.1 1 = .ok (.getfield 39, 3) := by decide +kernel
theorem d_50_4 : decode (g_m 50).2.1 4 = .ok (.iload_n 1, 1) := by decide +kernel
theorem d_50_5 : decode (g_m 50).2.1 5 = .ok (.invokevirtual 120, 3) := by decide +kernel
theorem d_50_8 : decode (g_m 50).2.1 8 = .ok (.ireturn, 1) := by decide +kernel
theorem d_51_0 : decode (g_m 51).2.1 0 = .ok (.aload_n 0, 1) := by decide +kernel
theorem d_51_1 : decode (g_m 51).2.1 1 = .ok (.getfield 23, 3) := by decide +kernel
theorem d_51_4 : decode (g_m 51).2.1 4 = .ok (.iload_n 1, 1) := by decide +kernel
theorem d_51_5 : decode (g_m 51).2.1 5 = .ok (.invokevirtual 69, 3) := by decide +kernel
theorem d_51_8 : decode (g_m 51).2.1 8 = .ok (.ifCond .eq (18), 3) := by decide +kernel
theorem d_51_11 : decode (g_m 51).2.1 11 = .ok (.aload_n 0, 1) := by decide +kernel
theorem d_51_12 : decode (g_m 51).2.1 12 = .ok (.getfield 23, 3) := by decide +kernel
theorem d_51_15 : decode (g_m 51).2.1 15 = .ok (.bipush 100, 2) := by decide +kernel
theorem d_51_17 : decode (g_m 51).2.1 17 = .ok (.iload_n 1, 1) := by decide +kernel
theorem d_51_18 : decode (g_m 51).2.1 18 = .ok (.bipush 100, 2) := by decide +kernel
theorem d_51_20 : decode (g_m 51).2.1 20 = .ok (.invokevirtual 124, 3) := by decide +kernel
theorem d_51_23 : decode (g_m 51).2.1 23 = .ok (.goto (4), 3) := by decide +kernel
theorem d_51_26 : decode (g_m 51).2.1 26 = .ok (.iconst (-1), 1) := by decide +kernel
theorem d_51_27 : decode (g_m 51).2.1 27 = .ok (.ireturn, 1) := by decide +kernel
theorem d_52_0 : decode (g_m 52).2.1 0 = .ok (.aload_n 0, 1) := by decide +kernel
theorem d_52_1 : decode (g_m 52).2.1 1 = .ok (.getfield 23, 3) := by decide +kernel
theorem d_52_4 : decode (g_m 52).2.1 4 = .ok (.iload_n 1, 1) := by decide +kernel
theorem d_52_5 : decode (g_m 52).2.1 5 = .ok (.invokevirtual 69, 3) := by decide +kernel
theorem d_52_8 : decode (g_m 52).2.1 8 = .ok (.ifCond .eq (28), 3) := by decide +kernel
theorem d_52_11 : decode (g_m 52).2.1 11 = .ok (.aload_n 0, 1) := by decide +kernel
theorem d_52_12 : decode (g_m 52).2.1 12 = .ok (.getfield 23, 3) := by decide +kernel
theorem d_52_15 : decode (g_m 52).2.1 15 = .ok (.iload_n 2, 1) := by decide +kernel
theorem d_52_16 : decode (g_m 52).2.1 16 = .ok (.invokevirtual 69, 3) := by decide +kernel
theorem d_52_19 : decode (g_m 52).2.1 19 = .ok (.ifCond .eq (17), 3) := by decide +kernel
theorem d_52_22 : decode (g_m 52).2.1 22 = .ok (.aload_n 0, 1) := by decide +kernel
theorem d_52_23 : decode (g_m 52).2.1 23 = .ok (.getfield 23, 3) := by decide +kernel
theorem d_52_26 : decode (g_m 52).2.1 26 = .ok (.iload_n 1, 1) := by decide +kernel
theorem d_52_27 : decode (g_m 52).2.1 27 = .ok (.iload_n 2, 1) := by decide +kernel
theorem d_52_28 : decode (g_m 52).2.1 28 = .ok (.bipush 100, 2) := by decide +kernel
theorem d_52_30 : decode (g_m 52).2.1 30 = .ok (.invokevirtual 124, 3) := by decide +kernel
theorem d_52_33 : decode (g_m 52).2.1 33 = .ok (.goto (4), 3) := by decide +kernel
theorem d_52_36 : decode (g_m 52).2.1 36 = .ok (.iconst (-1), 1) := by decide +kernel
theorem d_52_37 : decode (g_m 52).2.1 37 = .ok (.ireturn, 1) := by decide +kernel
theorem d_53_0 : decode (g_m 53).2.1 0 = .ok (.aload_n 0, 1) := by decide +kernel
theorem d_53_1 : decode (g_m 53).2.1 1 = .ok (.getfield 49, 3) := by decide +kernel
theorem d_53_4 : decode (g_m 53).2.1 4 = .ok (.ireturn, 1) := by decide +kernel
theorem d_54_0 : decode (g_m 54).2.1 0 = .ok (.aload_n 0, 1) := by decide +kernel
theorem d_54_1 : decode (g_m 54).2.1 1 = .ok (.getfield 23, 3) := by decide +kernel
theorem d_54_4 : decode (g_m 54).2.1 4 = .ok (.iload_n 1, 1) := by decide +kernel
theorem d_54_5 : decode (g_m 54).2.1 5 = .ok (.invokevirtual 69, 3) := by decide +kernel
theorem d_54_8 : decode (g_m 54).2.1 8 = .ok (.ifCond .eq (14), 3) := by decide +kernel
theorem d_54_11 : decode (g_m 54).2.1 11 = .ok (.aload_n 0, 1) := by decide +kernel
theorem d_54_12 : decode (g_m 54).2.1 12 = .ok (.getfield 32, 3) := by decide +kernel
theorem d_54_15 : decode (g_m 54).2.1 15 = .ok (.iload_n 1, 1) := by decide +kernel
theorem d_54_16 : decode (g_m 54).2.1 16 = .ok (.invokevirtual 134, 3) := by decide +kernel
theorem d_54_19 : decode (g_m 54).2.1 19 = .ok (.goto (4), 3) := by decide +kernel
theorem d_54_22 : decode (g_m 54).2.1 22 = .ok (.iconst (-1), 1) := by decide +kernel
theorem d_54_23 : decode (g_m 54).2.1 23 = .ok (.ireturn, 1) := by decide +kernel
theorem d_55_0 : decode (g_m 55).2.1 0 = .ok (.aload_n 0, 1) := by decide +kernel
theorem d_55_1 : decode (g_m 55).2.1 1 = .ok (.getfield 32, 3) := by decide +kernel
theorem d_55_4 : decode (g_m 55).2.1 4 = .ok (.getfield 137, 3) := by decide +kernel
theorem d_55_7 : decode (g_m 55).2.1 7 = .ok (.ireturn, 1) := by decide +kernel
theorem d_56_0 : decode (g_m 56).2.1 0 = .ok (.aload_n 0, 1) := by decide +kernel
theorem d_56_1 : decode (g_m 56).2.1 1 = .ok (.getfield 23, 3) := by decide +kernel
theorem d_56_4 : decode (g_m 56).2.1 4 = .ok (.iload_n 1, 1) := by decide +kernel
theorem d_56_5 : decode (g_m 56).2.1 5 = .ok (.invokevirtual 69, 3) := by decide +kernel
theorem d_56_8 : decode (g_m 56).2.1 8 = .ok (.ifCond .eq (19), 3) := by decide +kernel
theorem d_56_11 : decode (g_m 56).2.1 11 = .ok (.iload_n 2, 1) := by decide +kernel
theorem d_56_12 : decode (g_m 56).2.1 12 = .ok (.ifCond .lt (15), 3) := by decide +kernel
theorem d_56_15 : decode (g_m 56).2.1 15 = .ok (.iload_n 2, 1) := by decide +kernel
theorem d_56_16 : decode (g_m 56).2.1 16 = .ok (.aload_n 0, 1) := by decide +kernel
theorem d_56_17 : decode (g_m 56).2.1 17 = .ok (.getfield 32, 3) := by decide +kernel
theorem d_56_20 : decode (g_m 56).2.1 20 = .ok (.iload_n 1, 1) := by decide +kernel
theorem d_56_21 : decode (g_m 56).2.1 21 = .ok (.invokevirtual 134, 3) := by decide +kernel
theorem d_56_24 : decode (g_m 56).2.1 24 = .ok (.if_icmp .le (5), 3) := by decide +kernel
theorem d_56_27 : decode (g_m 56).2.1 27 = .ok (.iconst (-1), 1) := by decide +kernel
theorem d_56_28 : decode (g_m 56).2.1 28 = .ok (.ireturn, 1) := by decide +kernel
theorem d_56_29 : decode (g_m 56).2.1 29 = .ok (.aload_n 0, 1) := by decide +kernel
theorem d_56_30 : decode (g_m 56).2.1 30 = .ok (.getfield 32, 3) := by decide +kernel
theorem d_56_33 : decode (g_m 56).2.1 33 = .ok (.iload_n 1, 1) := by decide +kernel
theorem d_56_34 : decode (g_m 56).2.1 34 = .ok (.iload_n 2, 1) := by decide +kernel
theorem d_56_35 : decode (g_m 56).2.1 35 = .ok (.invokevirtual 140, 3) := by decide +kernel
theorem d_56_38 : decode (g_m 56).2.1 38 = .ok (.istore 4, 2) := by decide +kernel
theorem d_56_40 : decode (g_m 56).2.1 40 = .ok (.iload_n 3, 1) := by decide +kernel
theorem d_56_41 : decode (g_m 56).2.1 41 = .ok (.iconst (-1), 1) := by decide +kernel
theorem d_56_42 : decode (g_m 56).2.1 42 = .ok (.if_icmp .ne (6), 3) := by decide +kernel
theorem d_56_45 : decode (g_m 56).2.1 45 = .ok (.iload 4, 2) := by decide +kernel
theorem d_56_47 : decode (g_m 56).2.1 47 = .ok (.ireturn, 1) := by decide +kernel
theorem d_56_48 : decode (g_m 56).2.1 48 = .ok (.iload_n 3, 1) := by decide +kernel
theorem d_56_49 : decode (g_m 56).2.1 49 = .ok (.ifCond .lt (22), 3) := by decide +kernel
theorem d_56_52 : decode (g_m 56).2.1 52 = .ok (.iload_n 3, 1) := by decide +kernel
theorem d_56_53 : decode (g_m 56).2.1 53 = .ok (.iload 4, 2) := by decide +kernel
theorem d_56_55 : decode (g_m 56).2.1 55 = .ok (.if_icmp .ge (16), 3) := by decide +kernel
theorem d_56_58 : decode (g_m 56).2.1 58 = .ok (.aload_n 0, 1) := by decide +kernel
theorem d_56_59 : decode (g_m 56).2.1 59 = .ok (.getfield 32, 3) := by decide +kernel
theorem d_56_62 : decode (g_m 56).2.1 62 = .ok (.iload_n 1, 1) := by decide +kernel
theorem d_56_63 : decode (g_m 56).2.1 63 = .ok (.iload_n 2, 1) := by decide +kernel
theorem d_56_64 : decode (g_m 56).2.1 64 = .ok (.iload_n 3, 1) := by decide +kernel
theorem d_56_65 : decode (g_m 56).2.1 65 = .ok (.invokevirtual 143, 3) := by decide +kernel
theorem d_56_68 : decode (g_m 56).2.1 68 = .ok (.goto (4), 3) := by decide +kernel
theorem d_56_71 : decode (g_m 56).2.1 71 = .ok (.iconst (-1), 1) := by decide +kernel
theorem d_56_72 : decode (g_m 56).2.1 72 = .ok (.ireturn, 1) := by decide +kernel
theorem d_57_0 : decode (g_m 57).2.1 0 = .ok (.aload_n 0, 1) := by decide +kernel
theorem d_57_1 : decode (g_m 57).2.1 1 = .ok (.getfield 32, 3) := by decide +kernel
theorem d_57_4 : decode (g_m 57).2.1 4 = .ok (.invokevirtual 146, 3) := by decide +kernel
theorem d_57_7 : decode (g_m 57).2.1 7 = .ok (.ireturn, 1) := by decide +kernel
theorem d_60_0 : decode (g_m 60).2.1 0 = .ok (.iload_n 1, 1) := by decide +kernel
theorem d_60_1 : decode (g_m 60).2.1 1 = .ok (.tableswitch 145 0 8 #[51, 59, 74, 89, 97, 105, 113, 121, 137], 51) := by decide +kernel
theorem d_60_52 : decode (g_m 60).2.1 52 = .ok (.aload_n 0, 1) := by decide +kernel
theorem d_60_53 : decode (g_m 60).2.1 53 = .ok (.getfield 23, 3) := by decide +kernel
theorem d_60_56 : decode (g_m 60).2.1 56 = .ok (.getfield 59, 3) := by decide +kernel
theorem d_60_59 : decode (g_m 60).2.1 59 = .ok (.ireturn, 1) := by decide +kernel
theorem d_60_60 : decode (g_m 60).2.1 60 = .ok (.aload_n 0, 1) := by decide +kernel
theorem d_60_61 : decode (g_m 60).2.1 61 = .ok (.getfield 23, 3) := by decide +kernel
theorem d_60_64 : decode (g_m 60).2.1 64 = .ok (.aload_n 0, 1) := by decide +kernel
theorem d_60_65 : decode (g_m 60).2.1 65 = .ok (.getfield 23, 3) := by decide +kernel
theorem d_60_68 : decode (g_m 60).2.1 68 = .ok (.getfield 77, 3) := by decide +kernel
theorem d_60_71 : decode (g_m 60).2.1 71 = .ok (.invokevirtual 149, 3) := by decide +kernel
theorem d_60_74 : decode (g_m 60).2.1 74 = .ok (.ireturn, 1) := by decide +kernel
theorem d_60_75 : decode (g_m 60).2.1 75 = .ok (.aload_n 0, 1) := by decide +kernel
theorem d_60_76 : decode (g_m 60).2.1 76 = .ok (.getfield 23, 3) := by decide +kernel
theorem d_60_79 : decode (g_m 60).2.1 79 = .ok (.aload_n 0, 1) := by decide +kernel
theorem d_60_80 : decode (g_m 60).2.1 80 = .ok (.getfield 23, 3) := by decide +kernel
theorem d_60_83 : decode (g_m 60).2.1 83 = .ok (.getfield 81, 3) := by decide +kernel
theorem d_60_86 : decode (g_m 60).2.1 86 = .ok (.invokevirtual 149, 3) := by decide +kernel
theorem d_60_89 : decode (g_m 60).2.1 89 = .ok (.ireturn, 1) := by decide +kernel
theorem d_60_90 : decode (g_m 60).2.1 90 = .ok (.aload_n 0, 1) := by decide +kernel
theorem d_60_91 : decode (g_m 60).2.1 91 = .ok (.getfield 23, 3) := by decide +kernel
theorem d_60_94 : decode (g_m 60).2.1 94 = .ok (.invokevirtual 153, 3) := by decide +kernel
theorem d_60_97 : decode (g_m 60).2.1 97 = .ok (.ireturn, 1) := by decide +kernel
theorem d_60_98 : decode (g_m 60).2.1 98 = .ok (.aload_n 0, 1) := by decide +kernel
theorem d_60_99 : decode (g_m 60).2.1 99 = .ok (.getfield 23, 3) := by decide +kernel
theorem d_60_102 : decode (g_m 60).2.1 102 = .ok (.getfield 53, 3) := by decide +kernel
theorem d_60_105 : decode (g_m 60).2.1 105 = .ok (.ireturn, 1) := by decide +kernel
theorem d_60_106 : decode (g_m 60).2.1 106 = .ok (.aload_n 0, 1) := by decide +kernel
theorem d_60_107 : decode (g_m 60).2.1 107 = .ok (.getfield 23, 3) := by decide +kernel
theorem d_60_110 : decode (g_m 60).2.1 110 = .ok (.getfield 93, 3) := by decide +kernel
theorem d_60_113 : decode (g_m 60).2.1 113 = .ok (.ireturn, 1) := by decide +kernel
theorem d_60_114 : decode (g_m 60).2.1 114 = .ok (.aload_n 0, 1) := by decide +kernel
theorem d_60_115 : decode (g_m 60).2.1 115 = .ok (.getfield 32, 3) := by decide +kernel
theorem d_60_118 : decode (g_m 60).2.1 118 = .ok (.getfield 96, 3) := by decide +kernel
theorem d_60_121 : decode (g_m 60).2.1 121 = .ok (.ireturn, 1) := by decide +kernel
theorem d_60_122 : decode (g_m 60).2.1 122 = .ok (.aload_n 0, 1) := by decide +kernel
theorem d_60_123 : decode (g_m 60).2.1 123 = .ok (.getfield 32, 3) := by decide +kernel
theorem d_60_126 : decode (g_m 60).2.1 126 = .ok (.getfield 99, 3) := by decide +kernel
theorem d_60_129 : decode (g_m 60).2.1 129 = .ok (.ifCond .eq (7), 3) := by decide +kernel
theorem d_60_132 : decode (g_m 60).2.1 132 = .ok (.iconst 1, 1) := by decide +kernel
theorem d_60_133 : decode (g_m 60).2.1 133 = .ok (.goto (4), 3) := by decide +kernel
theorem d_60_136 : decode (g_m 60).2.1 136 = .ok (.iconst 0, 1) := by decide +kernel
theorem d_60_137 : decode (g_m 60).2.1 137 = .ok (.ireturn, 1) := by decide +kernel
theorem d_60_138 : decode (g_m 60).2.1 138 = .ok (.aload_n 0, 1) := by decide +kernel
theorem d_60_139 : decode (g_m 60).2.1 139 = .ok (.getfield 39, 3) := by decide +kernel
theorem d_60_142 : decode (g_m 60).2.1 142 = .ok (.getfield 110, 3) := by decide +kernel
theorem d_60_145 : decode (g_m 60).2.1 145 = .ok (.ireturn, 1) := by decide +kernel
theorem d_60_146 : decode (g_m 60).2.1 146 = .ok (.iconst (-1), 1) := by decide +kernel
theorem d_60_147 : decode (g_m 60).2.1 147 = .ok (.ireturn, 1) := by decide +kernel
