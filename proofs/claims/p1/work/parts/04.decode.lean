theorem dX0_init_0 : decode cX0_init 0 = .ok (.aload_n 0, 1) := by decide +kernel
theorem dX0_init_1 : decode cX0_init 1 = .ok (.invokespecial 3, 3) := by decide +kernel
theorem dX0_init_4 : decode cX0_init 4 = .ok (.aload_n 0, 1) := by decide +kernel
theorem dX0_init_5 : decode cX0_init 5 = .ok (.bipush 6, 2) := by decide +kernel
theorem dX0_init_7 : decode cX0_init 7 = .ok (.newarray .int, 2) := by decide +kernel
theorem dX0_init_9 : decode cX0_init 9 = .ok (.putfield 9, 3) := by decide +kernel
theorem dX0_init_12 : decode cX0_init 12 = .ok (.aload_n 0, 1) := by decide +kernel
theorem dX0_init_13 : decode cX0_init 13 = .ok (.bipush 36, 2) := by decide +kernel
theorem dX0_init_15 : decode cX0_init 15 = .ok (.newarray .int, 2) := by decide +kernel
theorem dX0_init_17 : decode cX0_init 17 = .ok (.putfield 15, 3) := by decide +kernel
theorem dX0_init_20 : decode cX0_init 20 = .ok (.aload_n 0, 1) := by decide +kernel
theorem dX0_init_21 : decode cX0_init 21 = .ok (.bipush 20, 2) := by decide +kernel
theorem dX0_init_23 : decode cX0_init 23 = .ok (.newarray .int, 2) := by decide +kernel
theorem dX0_init_25 : decode cX0_init 25 = .ok (.putfield 18, 3) := by decide +kernel
theorem dX0_init_28 : decode cX0_init 28 = .ok (.aload_n 0, 1) := by decide +kernel
theorem dX0_init_29 : decode cX0_init 29 = .ok (.bipush 20, 2) := by decide +kernel
theorem dX0_init_31 : decode cX0_init 31 = .ok (.newarray .int, 2) := by decide +kernel
theorem dX0_init_33 : decode cX0_init 33 = .ok (.putfield 21, 3) := by decide +kernel
theorem dX0_init_36 : decode cX0_init 36 = .ok (.aload_n 0, 1) := by decide +kernel
theorem dX0_init_37 : decode cX0_init 37 = .ok (.bipush 20, 2) := by decide +kernel
theorem dX0_init_39 : decode cX0_init 39 = .ok (.newarray .int, 2) := by decide +kernel
theorem dX0_init_41 : decode cX0_init 41 = .ok (.putfield 24, 3) := by decide +kernel
theorem dX0_init_44 : decode cX0_init 44 = .ok (.aload_n 0, 1) := by decide +kernel
theorem dX0_init_45 : decode cX0_init 45 = .ok (.bipush 20, 2) := by decide +kernel
theorem dX0_init_47 : decode cX0_init 47 = .ok (.newarray .int, 2) := by decide +kernel
theorem dX0_init_49 : decode cX0_init 49 = .ok (.putfield 27, 3) := by decide +kernel
theorem dX0_init_52 : decode cX0_init 52 = .ok (.aload_n 0, 1) := by decide +kernel
theorem dX0_init_53 : decode cX0_init 53 = .ok (.bipush 20, 2) := by decide +kernel
theorem dX0_init_55 : decode cX0_init 55 = .ok (.newarray .int, 2) := by decide +kernel
theorem dX0_init_57 : decode cX0_init 57 = .ok (.putfield 30, 3) := by decide +kernel
theorem dX0_init_60 : decode cX0_init 60 = .ok (.aload_n 0, 1) := by decide +kernel
theorem dX0_init_61 : decode cX0_init 61 = .ok (.bipush 12, 2) := by decide +kernel
theorem dX0_init_63 : decode cX0_init 63 = .ok (.newarray .int, 2) := by decide +kernel
theorem dX0_init_65 : decode cX0_init 65 = .ok (.putfield 33, 3) := by decide +kernel
theorem dX0_init_68 : decode cX0_init 68 = .ok (.aload_n 0, 1) := by decide +kernel
theorem dX0_init_69 : decode cX0_init 69 = .ok (.bipush 12, 2) := by decide +kernel
theorem dX0_init_71 : decode cX0_init 71 = .ok (.newarray .int, 2) := by decide +kernel
theorem dX0_init_73 : decode cX0_init 73 = .ok (.putfield 36, 3) := by decide +kernel
theorem dX0_init_76 : decode cX0_init 76 = .ok (.aload_n 0, 1) := by decide +kernel
theorem dX0_init_77 : decode cX0_init 77 = .ok (.bipush 12, 2) := by decide +kernel
theorem dX0_init_79 : decode cX0_init 79 = .ok (.newarray .int, 2) := by decide +kernel
theorem dX0_init_81 : decode cX0_init 81 = .ok (.putfield 39, 3) := by decide +kernel
theorem dX0_init_84 : decode cX0_init 84 = .ok (.aload_n 0, 1) := by decide +kernel
theorem dX0_init_85 : decode cX0_init 85 = .ok (.bipush 12, 2) := by decide +kernel
theorem dX0_init_87 : decode cX0_init 87 = .ok (.newarray .int, 2) := by decide +kernel
theorem dX0_init_89 : decode cX0_init 89 = .ok (.putfield 42, 3) := by decide +kernel
theorem dX0_init_92 : decode cX0_init 92 = .ok (.aload_n 0, 1) := by decide +kernel
theorem dX0_init_93 : decode cX0_init 93 = .ok (.sipush 360, 3) := by decide +kernel
theorem dX0_init_96 : decode cX0_init 96 = .ok (.newarray .int, 2) := by decide +kernel
theorem dX0_init_98 : decode cX0_init 98 = .ok (.putfield 45, 3) := by decide +kernel
theorem dX0_init_101 : decode cX0_init 101 = .ok (.return_, 1) := by decide +kernel
theorem dX1_init_0 : decode cX1_init 0 = .ok (.aload_n 0, 1) := by decide +kernel
theorem dX1_init_1 : decode cX1_init 1 = .ok (.invokespecial 1, 3) := by decide +kernel
theorem dX1_init_4 : decode cX1_init 4 = .ok (.aload_n 0, 1) := by decide +kernel
theorem dX1_init_5 : decode cX1_init 5 = .ok (.new 7, 3) := by decide +kernel
theorem dX1_init_8 : decode cX1_init 8 = .ok (.dup, 1) := by decide +kernel
theorem dX1_init_9 : decode cX1_init 9 = .ok (.invokespecial 9, 3) := by decide +kernel
theorem dX1_init_12 : decode cX1_init 12 = .ok (.putfield 10, 3) := by decide +kernel
theorem dX1_init_15 : decode cX1_init 15 = .ok (.aload_n 0, 1) := by decide +kernel
theorem dX1_init_16 : decode cX1_init 16 = .ok (.new 16, 3) := by decide +kernel
theorem dX1_init_19 : decode cX1_init 19 = .ok (.dup, 1) := by decide +kernel
theorem dX1_init_20 : decode cX1_init 20 = .ok (.invokespecial 18, 3) := by decide +kernel
theorem dX1_init_23 : decode cX1_init 23 = .ok (.putfield 19, 3) := by decide +kernel
theorem dX1_init_26 : decode cX1_init 26 = .ok (.aload_n 0, 1) := by decide +kernel
theorem dX1_init_27 : decode cX1_init 27 = .ok (.new 23, 3) := by decide +kernel
theorem dX1_init_30 : decode cX1_init 30 = .ok (.dup, 1) := by decide +kernel
theorem dX1_init_31 : decode cX1_init 31 = .ok (.invokespecial 25, 3) := by decide +kernel
theorem dX1_init_34 : decode cX1_init 34 = .ok (.putfield 26, 3) := by decide +kernel
theorem dX1_init_37 : decode cX1_init 37 = .ok (.return_, 1) := by decide +kernel
theorem dX2_init_0 : decode cX2_init 0 = .ok (.aload_n 0, 1) := by decide +kernel
theorem dX2_init_1 : decode cX2_init 1 = .ok (.invokespecial 3, 3) := by decide +kernel
theorem dX2_init_4 : decode cX2_init 4 = .ok (.aload_n 0, 1) := by decide +kernel
theorem dX2_init_5 : decode cX2_init 5 = .ok (.bipush 6, 2) := by decide +kernel
theorem dX2_init_7 : decode cX2_init 7 = .ok (.newarray .int, 2) := by decide +kernel
theorem dX2_init_9 : decode cX2_init 9 = .ok (.putfield 9, 3) := by decide +kernel
theorem dX2_init_12 : decode cX2_init 12 = .ok (.aload_n 0, 1) := by decide +kernel
theorem dX2_init_13 : decode cX2_init 13 = .ok (.bipush 9, 2) := by decide +kernel
theorem dX2_init_15 : decode cX2_init 15 = .ok (.newarray .int, 2) := by decide +kernel
theorem dX2_init_17 : decode cX2_init 17 = .ok (.putfield 15, 3) := by decide +kernel
theorem dX2_init_20 : decode cX2_init 20 = .ok (.aload_n 0, 1) := by decide +kernel
theorem dX2_init_21 : decode cX2_init 21 = .ok (.iconst 4, 1) := by decide +kernel
theorem dX2_init_22 : decode cX2_init 22 = .ok (.newarray .int, 2) := by decide +kernel
theorem dX2_init_24 : decode cX2_init 24 = .ok (.putfield 18, 3) := by decide +kernel
theorem dX2_init_27 : decode cX2_init 27 = .ok (.aload_n 0, 1) := by decide +kernel
theorem dX2_init_28 : decode cX2_init 28 = .ok (.bipush 12, 2) := by decide +kernel
theorem dX2_init_30 : decode cX2_init 30 = .ok (.newarray .int, 2) := by decide +kernel
theorem dX2_init_32 : decode cX2_init 32 = .ok (.putfield 21, 3) := by decide +kernel
theorem dX2_init_35 : decode cX2_init 35 = .ok (.aload_n 0, 1) := by decide +kernel
theorem dX2_init_36 : decode cX2_init 36 = .ok (.bipush 12, 2) := by decide +kernel
theorem dX2_init_38 : decode cX2_init 38 = .ok (.newarray .int, 2) := by decide +kernel
theorem dX2_init_40 : decode cX2_init 40 = .ok (.putfield 24, 3) := by decide +kernel
theorem dX2_init_43 : decode cX2_init 43 = .ok (.aload_n 0, 1) := by decide +kernel
theorem dX2_init_44 : decode cX2_init 44 = .ok (.bipush 12, 2) := by decide +kernel
theorem dX2_init_46 : decode cX2_init 46 = .ok (.newarray .int, 2) := by decide +kernel
theorem dX2_init_48 : decode cX2_init 48 = .ok (.putfield 27, 3) := by decide +kernel
theorem dX2_init_51 : decode cX2_init 51 = .ok (.aload_n 0, 1) := by decide +kernel
theorem dX2_init_52 : decode cX2_init 52 = .ok (.bipush 12, 2) := by decide +kernel
theorem dX2_init_54 : decode cX2_init 54 = .ok (.newarray .int, 2) := by decide +kernel
theorem dX2_init_56 : decode cX2_init 56 = .ok (.putfield 30, 3) := by decide +kernel
theorem dX2_init_59 : decode cX2_init 59 = .ok (.return_, 1) := by decide +kernel
theorem dX3_init_0 : decode cX3_init 0 = .ok (.aload_n 0, 1) := by decide +kernel
theorem dX3_init_1 : decode cX3_init 1 = .ok (.invokespecial 3, 3) := by decide +kernel
theorem dX3_init_4 : decode cX3_init 4 = .ok (.aload_n 0, 1) := by decide +kernel
theorem dX3_init_5 : decode cX3_init 5 = .ok (.new 9, 3) := by decide +kernel
theorem dX3_init_8 : decode cX3_init 8 = .ok (.dup, 1) := by decide +kernel
theorem dX3_init_9 : decode cX3_init 9 = .ok (.invokespecial 11, 3) := by decide +kernel
theorem dX3_init_12 : decode cX3_init 12 = .ok (.putfield 12, 3) := by decide +kernel
theorem dX3_init_15 : decode cX3_init 15 = .ok (.aload_n 0, 1) := by decide +kernel
theorem dX3_init_16 : decode cX3_init 16 = .ok (.aload_n 1, 1) := by decide +kernel
theorem dX3_init_17 : decode cX3_init 17 = .ok (.putfield 18, 3) := by decide +kernel
theorem dX3_init_20 : decode cX3_init 20 = .ok (.return_, 1) := by decide +kernel
theorem dX4_init_0 : decode cX4_init 0 = .ok (.aload_n 0, 1) := by decide +kernel
theorem dX4_init_1 : decode cX4_init 1 = .ok (.invokespecial 3, 3) := by decide +kernel
theorem dX4_init_4 : decode cX4_init 4 = .ok (.aload_n 0, 1) := by decide +kernel
theorem dX4_init_5 : decode cX4_init 5 = .ok (.sipush 400, 3) := by decide +kernel
theorem dX4_init_8 : decode cX4_init 8 = .ok (.newarray .int, 2) := by decide +kernel
theorem dX4_init_10 : decode cX4_init 10 = .ok (.putfield 9, 3) := by decide +kernel
theorem dX4_init_13 : decode cX4_init 13 = .ok (.aload_n 0, 1) := by decide +kernel
theorem dX4_init_14 : decode cX4_init 14 = .ok (.bipush 60, 2) := by decide +kernel
theorem dX4_init_16 : decode cX4_init 16 = .ok (.newarray .long, 2) := by decide +kernel
theorem dX4_init_18 : decode cX4_init 18 = .ok (.putfield 15, 3) := by decide +kernel
theorem dX4_init_21 : decode cX4_init 21 = .ok (.return_, 1) := by decide +kernel
theorem dX5_init_0 : decode cX5_init 0 = .ok (.aload_n 0, 1) := by decide +kernel
theorem dX5_init_1 : decode cX5_init 1 = .ok (.invokespecial 3, 3) := by decide +kernel
theorem dX5_init_4 : decode cX5_init 4 = .ok (.aload_n 0, 1) := by decide +kernel
theorem dX5_init_5 : decode cX5_init 5 = .ok (.aload_n 1, 1) := by decide +kernel
theorem dX5_init_6 : decode cX5_init 6 = .ok (.putfield 9, 3) := by decide +kernel
theorem dX5_init_9 : decode cX5_init 9 = .ok (.return_, 1) := by decide +kernel
theorem dX6_init_0 : decode cX6_init 0 = .ok (.aload_n 0, 1) := by decide +kernel
theorem dX6_init_1 : decode cX6_init 1 = .ok (.invokespecial 3, 3) := by decide +kernel
theorem dX6_init_4 : decode cX6_init 4 = .ok (.aload_n 0, 1) := by decide +kernel
theorem dX6_init_5 : decode cX6_init 5 = .ok (.iconst (-1), 1) := by decide +kernel
theorem dX6_init_6 : decode cX6_init 6 = .ok (.putfield 9, 3) := by decide +kernel
theorem dX6_init_9 : decode cX6_init 9 = .ok (.aload_n 0, 1) := by decide +kernel
theorem dX6_init_10 : decode cX6_init 10 = .ok (.bipush 6, 2) := by decide +kernel
theorem dX6_init_12 : decode cX6_init 12 = .ok (.newarray .int, 2) := by decide +kernel
theorem dX6_init_14 : decode cX6_init 14 = .ok (.putfield 15, 3) := by decide +kernel
theorem dX6_init_17 : decode cX6_init 17 = .ok (.aload_n 0, 1) := by decide +kernel
theorem dX6_init_18 : decode cX6_init 18 = .ok (.bipush 9, 2) := by decide +kernel
theorem dX6_init_20 : decode cX6_init 20 = .ok (.newarray .int, 2) := by decide +kernel
theorem dX6_init_22 : decode cX6_init 22 = .ok (.putfield 19, 3) := by decide +kernel
theorem dX6_init_25 : decode cX6_init 25 = .ok (.aload_n 0, 1) := by decide +kernel
theorem dX6_init_26 : decode cX6_init 26 = .ok (.bipush 12, 2) := by decide +kernel
theorem dX6_init_28 : decode cX6_init 28 = .ok (.newarray .int, 2) := by decide +kernel
theorem dX6_init_30 : decode cX6_init 30 = .ok (.putfield 22, 3) := by decide +kernel
theorem dX6_init_33 : decode cX6_init 33 = .ok (.aload_n 0, 1) := by decide +kernel
theorem dX6_init_34 : decode cX6_init 34 = .ok (.bipush 12, 2) := by decide +kernel
theorem dX6_init_36 : decode cX6_init 36 = .ok (.newarray .int, 2) := by decide +kernel
theorem dX6_init_38 : decode cX6_init 38 = .ok (.putfield 25, 3) := by decide +kernel
theorem dX6_init_41 : decode cX6_init 41 = .ok (.aload_n 0, 1) := by decide +kernel
theorem dX6_init_42 : decode cX6_init 42 = .ok (.bipush 12, 2) := by decide +kernel
theorem dX6_init_44 : decode cX6_init 44 = .ok (.newarray .int, 2) := by decide +kernel
theorem dX6_init_46 : decode cX6_init 46 = .ok (.putfield 28, 3) := by decide +kernel
theorem dX6_init_49 : decode cX6_init 49 = .ok (.aload_n 0, 1) := by decide +kernel
theorem dX6_init_50 : decode cX6_init 50 = .ok (.bipush 12, 2) := by decide +kernel
theorem dX6_init_52 : decode cX6_init 52 = .ok (.newarray .int, 2) := by decide +kernel
theorem dX6_init_54 : decode cX6_init 54 = .ok (.putfield 31, 3) := by decide +kernel
theorem dX6_init_57 : decode cX6_init 57 = .ok (.aload_n 0, 1) := by decide +kernel
theorem dX6_init_58 : decode cX6_init 58 = .ok (.bipush 12, 2) := by decide +kernel
theorem dX6_init_60 : decode cX6_init 60 = .ok (.newarray .int, 2) := by decide +kernel
theorem dX6_init_62 : decode cX6_init 62 = .ok (.putfield 34, 3) := by decide +kernel
theorem dX6_init_65 : decode cX6_init 65 = .ok (.aload_n 0, 1) := by decide +kernel
theorem dX6_init_66 : decode cX6_init 66 = .ok (.bipush 12, 2) := by decide +kernel
theorem dX6_init_68 : decode cX6_init 68 = .ok (.newarray .int, 2) := by decide +kernel
theorem dX6_init_70 : decode cX6_init 70 = .ok (.putfield 37, 3) := by decide +kernel
theorem dX6_init_73 : decode cX6_init 73 = .ok (.aload_n 0, 1) := by decide +kernel
theorem dX6_init_74 : decode cX6_init 74 = .ok (.bipush 72, 2) := by decide +kernel
theorem dX6_init_76 : decode cX6_init 76 = .ok (.newarray .int, 2) := by decide +kernel
theorem dX6_init_78 : decode cX6_init 78 = .ok (.putfield 40, 3) := by decide +kernel
theorem dX6_init_81 : decode cX6_init 81 = .ok (.return_, 1) := by decide +kernel
theorem dX6_logsBetween_0 : decode cX6_logsBetween 0 = .ok (.iconst 0, 1) := by decide +kernel
theorem dX6_logsBetween_1 : decode cX6_logsBetween 1 = .ok (.istore_n 3, 1) := by decide +kernel
theorem dX6_logsBetween_2 : decode cX6_logsBetween 2 = .ok (.iconst 0, 1) := by decide +kernel
theorem dX6_logsBetween_3 : decode cX6_logsBetween 3 = .ok (.istore 4, 2) := by decide +kernel
theorem dX6_logsBetween_5 : decode cX6_logsBetween 5 = .ok (.iload 4, 2) := by decide +kernel
theorem dX6_logsBetween_7 : decode cX6_logsBetween 7 = .ok (.aload_n 0, 1) := by decide +kernel
theorem dX6_logsBetween_8 : decode cX6_logsBetween 8 = .ok (.getfield 60, 3) := by decide +kernel
theorem dX6_logsBetween_11 : decode cX6_logsBetween 11 = .ok (.if_icmp .ge 34, 3) := by decide +kernel
theorem dX6_logsBetween_45 : decode cX6_logsBetween 45 = .ok (.iload_n 3, 1) := by decide +kernel
theorem dX6_logsBetween_46 : decode cX6_logsBetween 46 = .ok (.ireturn, 1) := by decide +kernel
theorem dX6_jamsInAll_0 : decode cX6_jamsInAll 0 = .ok (.iconst 0, 1) := by decide +kernel
theorem dX6_jamsInAll_1 : decode cX6_jamsInAll 1 = .ok (.istore_n 1, 1) := by decide +kernel
theorem dX6_jamsInAll_2 : decode cX6_jamsInAll 2 = .ok (.iconst 0, 1) := by decide +kernel
theorem dX6_jamsInAll_3 : decode cX6_jamsInAll 3 = .ok (.istore_n 2, 1) := by decide +kernel
theorem dX6_jamsInAll_4 : decode cX6_jamsInAll 4 = .ok (.iload_n 2, 1) := by decide +kernel
theorem dX6_jamsInAll_5 : decode cX6_jamsInAll 5 = .ok (.aload_n 0, 1) := by decide +kernel
theorem dX6_jamsInAll_6 : decode cX6_jamsInAll 6 = .ok (.getfield 60, 3) := by decide +kernel
theorem dX6_jamsInAll_9 : decode cX6_jamsInAll 9 = .ok (.if_icmp .ge 18, 3) := by decide +kernel
theorem dX6_jamsInAll_27 : decode cX6_jamsInAll 27 = .ok (.iload_n 1, 1) := by decide +kernel
theorem dX6_jamsInAll_28 : decode cX6_jamsInAll 28 = .ok (.ireturn, 1) := by decide +kernel
theorem dX7_init_0 : decode cX7_init 0 = .ok (.aload_n 0, 1) := by decide +kernel
theorem dX7_init_1 : decode cX7_init 1 = .ok (.invokespecial 3, 3) := by decide +kernel
theorem dX7_init_4 : decode cX7_init 4 = .ok (.aload_n 0, 1) := by decide +kernel
theorem dX7_init_5 : decode cX7_init 5 = .ok (.sipush 400, 3) := by decide +kernel
theorem dX7_init_8 : decode cX7_init 8 = .ok (.newarray .int, 2) := by decide +kernel
theorem dX7_init_10 : decode cX7_init 10 = .ok (.putfield 9, 3) := by decide +kernel
theorem dX7_init_13 : decode cX7_init 13 = .ok (.return_, 1) := by decide +kernel
theorem dX8_init_0 : decode cX8_init 0 = .ok (.aload_n 0, 1) := by decide +kernel
theorem dX8_init_1 : decode cX8_init 1 = .ok (.invokespecial 3, 3) := by decide +kernel
theorem dX8_init_4 : decode cX8_init 4 = .ok (.aload_n 0, 1) := by decide +kernel
theorem dX8_init_5 : decode cX8_init 5 = .ok (.new 9, 3) := by decide +kernel
theorem dX8_init_8 : decode cX8_init 8 = .ok (.dup, 1) := by decide +kernel
theorem dX8_init_9 : decode cX8_init 9 = .ok (.invokespecial 11, 3) := by decide +kernel
theorem dX8_init_12 : decode cX8_init 12 = .ok (.putfield 12, 3) := by decide +kernel
theorem dX8_init_15 : decode cX8_init 15 = .ok (.aload_n 0, 1) := by decide +kernel
theorem dX8_init_16 : decode cX8_init 16 = .ok (.new 18, 3) := by decide +kernel
theorem dX8_init_19 : decode cX8_init 19 = .ok (.dup, 1) := by decide +kernel
theorem dX8_init_20 : decode cX8_init 20 = .ok (.invokespecial 20, 3) := by decide +kernel
theorem dX8_init_23 : decode cX8_init 23 = .ok (.putfield 21, 3) := by decide +kernel
theorem dX8_init_26 : decode cX8_init 26 = .ok (.aload_n 0, 1) := by decide +kernel
theorem dX8_init_27 : decode cX8_init 27 = .ok (.bipush 6, 2) := by decide +kernel
theorem dX8_init_29 : decode cX8_init 29 = .ok (.newarray .int, 2) := by decide +kernel
theorem dX8_init_31 : decode cX8_init 31 = .ok (.putfield 25, 3) := by decide +kernel
theorem dX8_init_34 : decode cX8_init 34 = .ok (.aload_n 0, 1) := by decide +kernel
theorem dX8_init_35 : decode cX8_init 35 = .ok (.bipush 13, 2) := by decide +kernel
theorem dX8_init_37 : decode cX8_init 37 = .ok (.newarray .long, 2) := by decide +kernel
theorem dX8_init_39 : decode cX8_init 39 = .ok (.putfield 29, 3) := by decide +kernel
theorem dX8_init_42 : decode cX8_init 42 = .ok (.aload_n 0, 1) := by decide +kernel
theorem dX8_init_43 : decode cX8_init 43 = .ok (.bipush 12, 2) := by decide +kernel
theorem dX8_init_45 : decode cX8_init 45 = .ok (.newarray .int, 2) := by decide +kernel
theorem dX8_init_47 : decode cX8_init 47 = .ok (.putfield 33, 3) := by decide +kernel
theorem dX8_init_50 : decode cX8_init 50 = .ok (.aload_n 0, 1) := by decide +kernel
theorem dX8_init_51 : decode cX8_init 51 = .ok (.bipush 12, 2) := by decide +kernel
theorem dX8_init_53 : decode cX8_init 53 = .ok (.newarray .long, 2) := by decide +kernel
theorem dX8_init_55 : decode cX8_init 55 = .ok (.putfield 36, 3) := by decide +kernel
theorem dX8_init_58 : decode cX8_init 58 = .ok (.aload_n 0, 1) := by decide +kernel
theorem dX8_init_59 : decode cX8_init 59 = .ok (.aload_n 1, 1) := by decide +kernel
theorem dX8_init_60 : decode cX8_init 60 = .ok (.putfield 39, 3) := by decide +kernel
theorem dX8_init_63 : decode cX8_init 63 = .ok (.aload_n 0, 1) := by decide +kernel
theorem dX8_init_64 : decode cX8_init 64 = .ok (.aload_n 2, 1) := by decide +kernel
theorem dX8_init_65 : decode cX8_init 65 = .ok (.putfield 43, 3) := by decide +kernel
theorem dX8_init_68 : decode cX8_init 68 = .ok (.return_, 1) := by decide +kernel
theorem dX9_init_0 : decode cX9_init 0 = .ok (.aload_n 0, 1) := by decide +kernel
theorem dX9_init_1 : decode cX9_init 1 = .ok (.invokespecial 1, 3) := by decide +kernel
theorem dX9_init_4 : decode cX9_init 4 = .ok (.aload_n 0, 1) := by decide +kernel
theorem dX9_init_5 : decode cX9_init 5 = .ok (.new 7, 3) := by decide +kernel
theorem dX9_init_8 : decode cX9_init 8 = .ok (.dup, 1) := by decide +kernel
theorem dX9_init_9 : decode cX9_init 9 = .ok (.invokespecial 9, 3) := by decide +kernel
theorem dX9_init_12 : decode cX9_init 12 = .ok (.putfield 10, 3) := by decide +kernel
theorem dX9_init_15 : decode cX9_init 15 = .ok (.aload_n 0, 1) := by decide +kernel
theorem dX9_init_16 : decode cX9_init 16 = .ok (.new 16, 3) := by decide +kernel
theorem dX9_init_19 : decode cX9_init 19 = .ok (.dup, 1) := by decide +kernel
theorem dX9_init_20 : decode cX9_init 20 = .ok (.aload_n 0, 1) := by decide +kernel
theorem dX9_init_21 : decode cX9_init 21 = .ok (.getfield 10, 3) := by decide +kernel
theorem dX9_init_24 : decode cX9_init 24 = .ok (.invokespecial 18, 3) := by decide +kernel
theorem dX9_init_27 : decode cX9_init 27 = .ok (.putfield 21, 3) := by decide +kernel
theorem dX9_init_30 : decode cX9_init 30 = .ok (.aload_n 0, 1) := by decide +kernel
theorem dX9_init_31 : decode cX9_init 31 = .ok (.new 25, 3) := by decide +kernel
theorem dX9_init_34 : decode cX9_init 34 = .ok (.dup, 1) := by decide +kernel
theorem dX9_init_35 : decode cX9_init 35 = .ok (.aload_n 0, 1) := by decide +kernel
theorem dX9_init_36 : decode cX9_init 36 = .ok (.getfield 10, 3) := by decide +kernel
theorem dX9_init_39 : decode cX9_init 39 = .ok (.invokespecial 27, 3) := by decide +kernel
theorem dX9_init_42 : decode cX9_init 42 = .ok (.putfield 28, 3) := by decide +kernel
theorem dX9_init_45 : decode cX9_init 45 = .ok (.aload_n 0, 1) := by decide +kernel
theorem dX9_init_46 : decode cX9_init 46 = .ok (.bipush 6, 2) := by decide +kernel
theorem dX9_init_48 : decode cX9_init 48 = .ok (.anewarray 32, 3) := by decide +kernel
theorem dX9_init_51 : decode cX9_init 51 = .ok (.putfield 34, 3) := by decide +kernel
theorem dX9_init_54 : decode cX9_init 54 = .ok (.iconst 0, 1) := by decide +kernel
theorem dX9_init_55 : decode cX9_init 55 = .ok (.istore_n 1, 1) := by decide +kernel
theorem dX9_init_56 : decode cX9_init 56 = .ok (.iload_n 1, 1) := by decide +kernel
theorem dX9_init_57 : decode cX9_init 57 = .ok (.bipush 6, 2) := by decide +kernel
theorem dX9_init_59 : decode cX9_init 59 = .ok (.if_icmp .ge 22, 3) := by decide +kernel
theorem dX9_init_62 : decode cX9_init 62 = .ok (.aload_n 0, 1) := by decide +kernel
theorem dX9_init_63 : decode cX9_init 63 = .ok (.getfield 34, 3) := by decide +kernel
theorem dX9_init_66 : decode cX9_init 66 = .ok (.iload_n 1, 1) := by decide +kernel
theorem dX9_init_67 : decode cX9_init 67 = .ok (.new 32, 3) := by decide +kernel
theorem dX9_init_70 : decode cX9_init 70 = .ok (.dup, 1) := by decide +kernel
theorem dX9_init_71 : decode cX9_init 71 = .ok (.invokespecial 38, 3) := by decide +kernel
theorem dX9_init_74 : decode cX9_init 74 = .ok (.aastore, 1) := by decide +kernel
theorem dX9_init_75 : decode cX9_init 75 = .ok (.iinc 1 1, 3) := by decide +kernel
theorem dX9_init_78 : decode cX9_init 78 = .ok (.goto (-22), 3) := by decide +kernel
theorem dX9_init_81 : decode cX9_init 81 = .ok (.aload_n 0, 1) := by decide +kernel
theorem dX9_init_82 : decode cX9_init 82 = .ok (.new 39, 3) := by decide +kernel
theorem dX9_init_85 : decode cX9_init 85 = .ok (.dup, 1) := by decide +kernel
theorem dX9_init_86 : decode cX9_init 86 = .ok (.new 41, 3) := by decide +kernel
theorem dX9_init_89 : decode cX9_init 89 = .ok (.dup, 1) := by decide +kernel
theorem dX9_init_90 : decode cX9_init 90 = .ok (.invokespecial 43, 3) := by decide +kernel
theorem dX9_init_93 : decode cX9_init 93 = .ok (.aload_n 0, 1) := by decide +kernel
theorem dX9_init_94 : decode cX9_init 94 = .ok (.getfield 34, 3) := by decide +kernel
theorem dX9_init_97 : decode cX9_init 97 = .ok (.invokespecial 44, 3) := by decide +kernel
theorem dX9_init_100 : decode cX9_init 100 = .ok (.putfield 47, 3) := by decide +kernel
theorem dX9_init_103 : decode cX9_init 103 = .ok (.aload_n 0, 1) := by decide +kernel
theorem dX9_init_104 : decode cX9_init 104 = .ok (.new 39, 3) := by decide +kernel
theorem dX9_init_107 : decode cX9_init 107 = .ok (.dup, 1) := by decide +kernel
theorem dX9_init_108 : decode cX9_init 108 = .ok (.aload_n 0, 1) := by decide +kernel
theorem dX9_init_109 : decode cX9_init 109 = .ok (.getfield 47, 3) := by decide +kernel
theorem dX9_init_112 : decode cX9_init 112 = .ok (.getfield 51, 3) := by decide +kernel
theorem dX9_init_115 : decode cX9_init 115 = .ok (.aload_n 0, 1) := by decide +kernel
theorem dX9_init_116 : decode cX9_init 116 = .ok (.getfield 34, 3) := by decide +kernel
theorem dX9_init_119 : decode cX9_init 119 = .ok (.invokespecial 44, 3) := by decide +kernel
theorem dX9_init_122 : decode cX9_init 122 = .ok (.putfield 55, 3) := by decide +kernel
theorem dX9_init_125 : decode cX9_init 125 = .ok (.aload_n 0, 1) := by decide +kernel
theorem dX9_init_126 : decode cX9_init 126 = .ok (.iconst 4, 1) := by decide +kernel
theorem dX9_init_127 : decode cX9_init 127 = .ok (.anewarray 58, 3) := by decide +kernel
theorem dX9_init_130 : decode cX9_init 130 = .ok (.putfield 60, 3) := by decide +kernel
theorem dX9_init_133 : decode cX9_init 133 = .ok (.iconst 0, 1) := by decide +kernel
theorem dX9_init_134 : decode cX9_init 134 = .ok (.istore_n 1, 1) := by decide +kernel
theorem dX9_init_135 : decode cX9_init 135 = .ok (.iload_n 1, 1) := by decide +kernel
theorem dX9_init_136 : decode cX9_init 136 = .ok (.iconst 4, 1) := by decide +kernel
theorem dX9_init_137 : decode cX9_init 137 = .ok (.if_icmp .ge 22, 3) := by decide +kernel
theorem dX9_init_140 : decode cX9_init 140 = .ok (.aload_n 0, 1) := by decide +kernel
theorem dX9_init_141 : decode cX9_init 141 = .ok (.getfield 60, 3) := by decide +kernel
theorem dX9_init_144 : decode cX9_init 144 = .ok (.iload_n 1, 1) := by decide +kernel
theorem dX9_init_145 : decode cX9_init 145 = .ok (.new 58, 3) := by decide +kernel
theorem dX9_init_148 : decode cX9_init 148 = .ok (.dup, 1) := by decide +kernel
theorem dX9_init_149 : decode cX9_init 149 = .ok (.invokespecial 64, 3) := by decide +kernel
theorem dX9_init_152 : decode cX9_init 152 = .ok (.aastore, 1) := by decide +kernel
theorem dX9_init_153 : decode cX9_init 153 = .ok (.iinc 1 1, 3) := by decide +kernel
theorem dX9_init_156 : decode cX9_init 156 = .ok (.goto (-21), 3) := by decide +kernel
theorem dX9_init_159 : decode cX9_init 159 = .ok (.aload_n 0, 1) := by decide +kernel
theorem dX9_init_160 : decode cX9_init 160 = .ok (.bipush 6, 2) := by decide +kernel
theorem dX9_init_162 : decode cX9_init 162 = .ok (.newarray .int, 2) := by decide +kernel
theorem dX9_init_164 : decode cX9_init 164 = .ok (.putfield 65, 3) := by decide +kernel
theorem dX9_init_167 : decode cX9_init 167 = .ok (.aload_n 0, 1) := by decide +kernel
theorem dX9_init_168 : decode cX9_init 168 = .ok (.bipush 6, 2) := by decide +kernel
theorem dX9_init_170 : decode cX9_init 170 = .ok (.newarray .int, 2) := by decide +kernel
theorem dX9_init_172 : decode cX9_init 172 = .ok (.putfield 69, 3) := by decide +kernel
theorem dX9_init_175 : decode cX9_init 175 = .ok (.aload_n 0, 1) := by decide +kernel
theorem dX9_init_176 : decode cX9_init 176 = .ok (.bipush 6, 2) := by decide +kernel
theorem dX9_init_178 : decode cX9_init 178 = .ok (.newarray .int, 2) := by decide +kernel
theorem dX9_init_180 : decode cX9_init 180 = .ok (.putfield 72, 3) := by decide +kernel
theorem dX9_init_183 : decode cX9_init 183 = .ok (.aload_n 0, 1) := by decide +kernel
theorem dX9_init_184 : decode cX9_init 184 = .ok (.bipush 64, 2) := by decide +kernel
theorem dX9_init_186 : decode cX9_init 186 = .ok (.newarray .int, 2) := by decide +kernel
theorem dX9_init_188 : decode cX9_init 188 = .ok (.putfield 75, 3) := by decide +kernel
theorem dX9_init_191 : decode cX9_init 191 = .ok (.return_, 1) := by decide +kernel
theorem dX9_end_0 : decode cX9_end 0 = .ok (.iload_n 1, 1) := by decide +kernel
theorem dX9_end_1 : decode cX9_end 1 = .ok (.ifCond .lt 14, 3) := by decide +kernel
theorem dX9_end_4 : decode cX9_end 4 = .ok (.iload_n 1, 1) := by decide +kernel
theorem dX9_end_5 : decode cX9_end 5 = .ok (.aload_n 0, 1) := by decide +kernel
theorem dX9_end_6 : decode cX9_end 6 = .ok (.getfield 10, 3) := by decide +kernel
theorem dX9_end_9 : decode cX9_end 9 = .ok (.getfield 78, 3) := by decide +kernel
theorem dX9_end_12 : decode cX9_end 12 = .ok (.if_icmp .le 5, 3) := by decide +kernel
theorem dX9_end_15 : decode cX9_end 15 = .ok (.iconst (-1), 1) := by decide +kernel
theorem dX9_end_16 : decode cX9_end 16 = .ok (.ireturn, 1) := by decide +kernel
theorem dX9_end_17 : decode cX9_end 17 = .ok (.aload_n 0, 1) := by decide +kernel
theorem dX9_end_18 : decode cX9_end 18 = .ok (.getfield 10, 3) := by decide +kernel
theorem dX9_end_21 : decode cX9_end 21 = .ok (.iload_n 1, 1) := by decide +kernel
theorem dX9_end_22 : decode cX9_end 22 = .ok (.putfield 78, 3) := by decide +kernel
theorem dX9_end_25 : decode cX9_end 25 = .ok (.iload_n 1, 1) := by decide +kernel
theorem dX9_end_26 : decode cX9_end 26 = .ok (.ireturn, 1) := by decide +kernel
theorem dX9_force_0 : decode cX9_force 0 = .ok (.aload_n 0, 1) := by decide +kernel
theorem dX9_force_1 : decode cX9_force 1 = .ok (.invokevirtual 126, 3) := by decide +kernel
theorem dX9_force_4 : decode cX9_force 4 = .ok (.ifCond .eq 11, 3) := by decide +kernel
theorem dX9_force_15 : decode cX9_force 15 = .ok (.bipush (-2), 2) := by decide +kernel
theorem dX9_force_17 : decode cX9_force 17 = .ok (.ireturn, 1) := by decide +kernel
theorem dX9_bind_0 : decode cX9_bind 0 = .ok (.aload_n 0, 1) := by decide +kernel
theorem dX9_bind_1 : decode cX9_bind 1 = .ok (.iload_n 1, 1) := by decide +kernel
theorem dX9_bind_2 : decode cX9_bind 2 = .ok (.invokevirtual 136, 3) := by decide +kernel
theorem dX9_bind_5 : decode cX9_bind 5 = .ok (.ifCond .eq 11, 3) := by decide +kernel
theorem dX9_bind_16 : decode cX9_bind 16 = .ok (.bipush (-2), 2) := by decide +kernel
theorem dX9_bind_18 : decode cX9_bind 18 = .ok (.ireturn, 1) := by decide +kernel
theorem dX9_law_0 : decode cX9_law 0 = .ok (.aload_n 0, 1) := by decide +kernel
theorem dX9_law_1 : decode cX9_law 1 = .ok (.invokevirtual 126, 3) := by decide +kernel
theorem dX9_law_4 : decode cX9_law 4 = .ok (.ifCond .eq 12, 3) := by decide +kernel
theorem dX9_law_16 : decode cX9_law 16 = .ok (.bipush (-2), 2) := by decide +kernel
theorem dX9_law_18 : decode cX9_law 18 = .ok (.ireturn, 1) := by decide +kernel
theorem dX9_bend_0 : decode cX9_bend 0 = .ok (.aload_n 0, 1) := by decide +kernel
theorem dX9_bend_1 : decode cX9_bend 1 = .ok (.iload_n 1, 1) := by decide +kernel
theorem dX9_bend_2 : decode cX9_bend 2 = .ok (.invokevirtual 151, 3) := by decide +kernel
theorem dX9_bend_5 : decode cX9_bend 5 = .ok (.ifCond .ne 5, 3) := by decide +kernel
theorem dX9_bend_8 : decode cX9_bend 8 = .ok (.iconst (-1), 1) := by decide +kernel
theorem dX9_bend_9 : decode cX9_bend 9 = .ok (.ireturn, 1) := by decide +kernel
theorem dX9_village_0 : decode cX9_village 0 = .ok (.aload_n 0, 1) := by decide +kernel
theorem dX9_village_1 : decode cX9_village 1 = .ok (.iload_n 1, 1) := by decide +kernel
theorem dX9_village_2 : decode cX9_village 2 = .ok (.invokevirtual 136, 3) := by decide +kernel
theorem dX9_village_5 : decode cX9_village 5 = .ok (.ifCond .ne 6, 3) := by decide +kernel
theorem dX9_village_8 : decode cX9_village 8 = .ok (.ldc 167, 2) := by decide +kernel
theorem dX9_village_10 : decode cX9_village 10 = .ok (.ireturn, 1) := by decide +kernel
theorem dX9_log_0 : decode cX9_log 0 = .ok (.aload_n 0, 1) := by decide +kernel
theorem dX9_log_1 : decode cX9_log 1 = .ok (.iload_n 1, 1) := by decide +kernel
theorem dX9_log_2 : decode cX9_log 2 = .ok (.invokevirtual 180, 3) := by decide +kernel
theorem dX9_log_5 : decode cX9_log 5 = .ok (.ifCond .ne 6, 3) := by decide +kernel
theorem dX9_log_8 : decode cX9_log 8 = .ok (.bipush (-2), 2) := by decide +kernel
theorem dX9_log_10 : decode cX9_log 10 = .ok (.ireturn, 1) := by decide +kernel
theorem dX9_notch_0 : decode cX9_notch 0 = .ok (.aload_n 0, 1) := by decide +kernel
theorem dX9_notch_1 : decode cX9_notch 1 = .ok (.iload_n 1, 1) := by decide +kernel
theorem dX9_notch_2 : decode cX9_notch 2 = .ok (.invokevirtual 180, 3) := by decide +kernel
theorem dX9_notch_5 : decode cX9_notch 5 = .ok (.ifCond .ne 6, 3) := by decide +kernel
theorem dX9_notch_8 : decode cX9_notch 8 = .ok (.bipush (-2), 2) := by decide +kernel
theorem dX9_notch_10 : decode cX9_notch 10 = .ok (.ireturn, 1) := by decide +kernel
theorem dX9_cut_0 : decode cX9_cut 0 = .ok (.aload_n 0, 1) := by decide +kernel
theorem dX9_cut_1 : decode cX9_cut 1 = .ok (.iload_n 1, 1) := by decide +kernel
theorem dX9_cut_2 : decode cX9_cut 2 = .ok (.invokevirtual 180, 3) := by decide +kernel
theorem dX9_cut_5 : decode cX9_cut 5 = .ok (.ifCond .eq 23, 3) := by decide +kernel
theorem dX9_cut_28 : decode cX9_cut 28 = .ok (.bipush (-2), 2) := by decide +kernel
theorem dX9_cut_30 : decode cX9_cut 30 = .ok (.ireturn, 1) := by decide +kernel
theorem dX9_cutOver_0 : decode cX9_cutOver 0 = .ok (.aload_n 0, 1) := by decide +kernel
theorem dX9_cutOver_1 : decode cX9_cutOver 1 = .ok (.iload_n 1, 1) := by decide +kernel
theorem dX9_cutOver_2 : decode cX9_cutOver 2 = .ok (.invokevirtual 180, 3) := by decide +kernel
theorem dX9_cutOver_5 : decode cX9_cutOver 5 = .ok (.ifCond .eq 23, 3) := by decide +kernel
theorem dX9_cutOver_28 : decode cX9_cutOver 28 = .ok (.bipush (-2), 2) := by decide +kernel
theorem dX9_cutOver_30 : decode cX9_cutOver 30 = .ok (.ireturn, 1) := by decide +kernel
theorem dX9_undo_0 : decode cX9_undo 0 = .ok (.aload_n 0, 1) := by decide +kernel
theorem dX9_undo_1 : decode cX9_undo 1 = .ok (.getfield 47, 3) := by decide +kernel
theorem dX9_undo_4 : decode cX9_undo 4 = .ok (.getfield 109, 3) := by decide +kernel
theorem dX9_undo_7 : decode cX9_undo 7 = .ok (.astore_n 1, 1) := by decide +kernel
theorem dX9_undo_8 : decode cX9_undo 8 = .ok (.aload_n 1, 1) := by decide +kernel
theorem dX9_undo_9 : decode cX9_undo 9 = .ok (.getfield 235, 3) := by decide +kernel
theorem dX9_undo_12 : decode cX9_undo 12 = .ok (.iconst 1, 1) := by decide +kernel
theorem dX9_undo_13 : decode cX9_undo 13 = .ok (.isub, 1) := by decide +kernel
theorem dX9_undo_14 : decode cX9_undo 14 = .ok (.istore_n 2, 1) := by decide +kernel
theorem dX9_undo_15 : decode cX9_undo 15 = .ok (.iload_n 2, 1) := by decide +kernel
theorem dX9_undo_16 : decode cX9_undo 16 = .ok (.ifCond .ge 6, 3) := by decide +kernel
theorem dX9_undo_19 : decode cX9_undo 19 = .ok (.bipush (-2), 2) := by decide +kernel
theorem dX9_undo_21 : decode cX9_undo 21 = .ok (.ireturn, 1) := by decide +kernel
theorem dX9_launch_0 : decode cX9_launch 0 = .ok (.aload_n 0, 1) := by decide +kernel
theorem dX9_launch_1 : decode cX9_launch 1 = .ok (.iload_n 1, 1) := by decide +kernel
theorem dX9_launch_2 : decode cX9_launch 2 = .ok (.invokevirtual 180, 3) := by decide +kernel
theorem dX9_launch_5 : decode cX9_launch 5 = .ok (.ifCond .eq 17, 3) := by decide +kernel
theorem dX9_launch_22 : decode cX9_launch 22 = .ok (.bipush (-2), 2) := by decide +kernel
theorem dX9_launch_24 : decode cX9_launch 24 = .ok (.ireturn, 1) := by decide +kernel
theorem dX9_land_0 : decode cX9_land 0 = .ok (.aload_n 0, 1) := by decide +kernel
theorem dX9_land_1 : decode cX9_land 1 = .ok (.iload_n 1, 1) := by decide +kernel
theorem dX9_land_2 : decode cX9_land 2 = .ok (.invokevirtual 180, 3) := by decide +kernel
theorem dX9_land_5 : decode cX9_land 5 = .ok (.ifCond .eq 38, 3) := by decide +kernel
theorem dX9_land_43 : decode cX9_land 43 = .ok (.iconst 0, 1) := by decide +kernel
theorem dX9_land_44 : decode cX9_land 44 = .ok (.ireturn, 1) := by decide +kernel
theorem dX9_burn_0 : decode cX9_burn 0 = .ok (.aload_n 0, 1) := by decide +kernel
theorem dX9_burn_1 : decode cX9_burn 1 = .ok (.iload_n 1, 1) := by decide +kernel
theorem dX9_burn_2 : decode cX9_burn 2 = .ok (.invokevirtual 180, 3) := by decide +kernel
theorem dX9_burn_5 : decode cX9_burn 5 = .ok (.ifCond .eq 17, 3) := by decide +kernel
theorem dX9_burn_22 : decode cX9_burn 22 = .ok (.bipush (-2), 2) := by decide +kernel
theorem dX9_burn_24 : decode cX9_burn 24 = .ok (.ireturn, 1) := by decide +kernel
theorem dX9_saw_0 : decode cX9_saw 0 = .ok (.aload_n 0, 1) := by decide +kernel
theorem dX9_saw_1 : decode cX9_saw 1 = .ok (.iload_n 1, 1) := by decide +kernel
theorem dX9_saw_2 : decode cX9_saw 2 = .ok (.invokevirtual 180, 3) := by decide +kernel
theorem dX9_saw_5 : decode cX9_saw 5 = .ok (.ifCond .eq 38, 3) := by decide +kernel
theorem dX9_saw_43 : decode cX9_saw 43 = .ok (.bipush (-2), 2) := by decide +kernel
theorem dX9_saw_45 : decode cX9_saw 45 = .ok (.ireturn, 1) := by decide +kernel
theorem dX9_ahead_0 : decode cX9_ahead 0 = .ok (.aload_n 0, 1) := by decide +kernel
theorem dX9_ahead_1 : decode cX9_ahead 1 = .ok (.iload_n 1, 1) := by decide +kernel
theorem dX9_ahead_2 : decode cX9_ahead 2 = .ok (.invokevirtual 180, 3) := by decide +kernel
theorem dX9_ahead_5 : decode cX9_ahead 5 = .ok (.ifCond .eq 11, 3) := by decide +kernel
theorem dX9_ahead_16 : decode cX9_ahead 16 = .ok (.bipush (-2), 2) := by decide +kernel
theorem dX9_ahead_18 : decode cX9_ahead 18 = .ok (.ireturn, 1) := by decide +kernel
theorem dX9_dam_0 : decode cX9_dam 0 = .ok (.aload_n 0, 1) := by decide +kernel
theorem dX9_dam_1 : decode cX9_dam 1 = .ok (.iload_n 1, 1) := by decide +kernel
theorem dX9_dam_2 : decode cX9_dam 2 = .ok (.invokevirtual 151, 3) := by decide +kernel
theorem dX9_dam_5 : decode cX9_dam 5 = .ok (.ifCond .eq 19, 3) := by decide +kernel
theorem dX9_dam_24 : decode cX9_dam 24 = .ok (.bipush (-2), 2) := by decide +kernel
theorem dX9_dam_26 : decode cX9_dam 26 = .ok (.ireturn, 1) := by decide +kernel
theorem dX9_appeal_0 : decode cX9_appeal 0 = .ok (.aload_n 0, 1) := by decide +kernel
theorem dX9_appeal_1 : decode cX9_appeal 1 = .ok (.iload_n 1, 1) := by decide +kernel
theorem dX9_appeal_2 : decode cX9_appeal 2 = .ok (.invokevirtual 151, 3) := by decide +kernel
theorem dX9_appeal_5 : decode cX9_appeal 5 = .ok (.ifCond .eq 19, 3) := by decide +kernel
theorem dX9_appeal_24 : decode cX9_appeal 24 = .ok (.bipush (-2), 2) := by decide +kernel
theorem dX9_appeal_26 : decode cX9_appeal 26 = .ok (.ireturn, 1) := by decide +kernel
theorem dX9_votes_0 : decode cX9_votes 0 = .ok (.aload_n 0, 1) := by decide +kernel
theorem dX9_votes_1 : decode cX9_votes 1 = .ok (.iload_n 1, 1) := by decide +kernel
theorem dX9_votes_2 : decode cX9_votes 2 = .ok (.invokevirtual 151, 3) := by decide +kernel
theorem dX9_votes_5 : decode cX9_votes 5 = .ok (.ifCond .eq 12, 3) := by decide +kernel
theorem dX9_votes_17 : decode cX9_votes 17 = .ok (.iconst (-1), 1) := by decide +kernel
theorem dX9_votes_18 : decode cX9_votes 18 = .ok (.ireturn, 1) := by decide +kernel
theorem dX9_flood_0 : decode cX9_flood 0 = .ok (.aload_n 0, 1) := by decide +kernel
theorem dX9_flood_1 : decode cX9_flood 1 = .ok (.invokevirtual 126, 3) := by decide +kernel
theorem dX9_flood_4 : decode cX9_flood 4 = .ok (.ifCond .eq 13, 3) := by decide +kernel
theorem dX9_flood_17 : decode cX9_flood 17 = .ok (.bipush (-2), 2) := by decide +kernel
theorem dX9_flood_19 : decode cX9_flood 19 = .ok (.ireturn, 1) := by decide +kernel
theorem dX9_elected_0 : decode cX9_elected 0 = .ok (.aload_n 0, 1) := by decide +kernel
theorem dX9_elected_1 : decode cX9_elected 1 = .ok (.iload_n 1, 1) := by decide +kernel
theorem dX9_elected_2 : decode cX9_elected 2 = .ok (.invokevirtual 180, 3) := by decide +kernel
theorem dX9_elected_5 : decode cX9_elected 5 = .ok (.ifCond .ne 5, 3) := by decide +kernel
theorem dX9_elected_8 : decode cX9_elected 8 = .ok (.iconst (-1), 1) := by decide +kernel
theorem dX9_elected_9 : decode cX9_elected 9 = .ok (.ireturn, 1) := by decide +kernel
theorem dX9_wedding_0 : decode cX9_wedding 0 = .ok (.aload_n 0, 1) := by decide +kernel
theorem dX9_wedding_1 : decode cX9_wedding 1 = .ok (.getfield 47, 3) := by decide +kernel
theorem dX9_wedding_4 : decode cX9_wedding 4 = .ok (.getfield 109, 3) := by decide +kernel
theorem dX9_wedding_7 : decode cX9_wedding 7 = .ok (.astore_n 2, 1) := by decide +kernel
theorem dX9_wedding_8 : decode cX9_wedding 8 = .ok (.aload_n 0, 1) := by decide +kernel
theorem dX9_wedding_9 : decode cX9_wedding 9 = .ok (.iload_n 1, 1) := by decide +kernel
theorem dX9_wedding_10 : decode cX9_wedding 10 = .ok (.invokevirtual 136, 3) := by decide +kernel
theorem dX9_wedding_13 : decode cX9_wedding 13 = .ok (.ifCond .eq 12, 3) := by decide +kernel
theorem dX9_wedding_25 : decode cX9_wedding 25 = .ok (.bipush (-2), 2) := by decide +kernel
theorem dX9_wedding_27 : decode cX9_wedding 27 = .ok (.ireturn, 1) := by decide +kernel
theorem dX9_winter_0 : decode cX9_winter 0 = .ok (.aload_n 0, 1) := by decide +kernel
theorem dX9_winter_1 : decode cX9_winter 1 = .ok (.invokevirtual 126, 3) := by decide +kernel
theorem dX9_winter_4 : decode cX9_winter 4 = .ok (.ifCond .eq 14, 3) := by decide +kernel
theorem dX9_winter_18 : decode cX9_winter 18 = .ok (.bipush (-2), 2) := by decide +kernel
theorem dX9_winter_20 : decode cX9_winter 20 = .ok (.ireturn, 1) := by decide +kernel
theorem dX9_days_0 : decode cX9_days 0 = .ok (.aload_n 0, 1) := by decide +kernel
theorem dX9_days_1 : decode cX9_days 1 = .ok (.invokevirtual 126, 3) := by decide +kernel
theorem dX9_days_4 : decode cX9_days 4 = .ok (.ifCond .eq 32, 3) := by decide +kernel
theorem dX9_days_36 : decode cX9_days 36 = .ok (.bipush (-2), 2) := by decide +kernel
theorem dX9_days_38 : decode cX9_days 38 = .ok (.ireturn, 1) := by decide +kernel
theorem dX9_floats_0 : decode cX9_floats 0 = .ok (.aload_n 0, 1) := by decide +kernel
theorem dX9_floats_1 : decode cX9_floats 1 = .ok (.invokevirtual 126, 3) := by decide +kernel
theorem dX9_floats_4 : decode cX9_floats 4 = .ok (.ifCond .eq 23, 3) := by decide +kernel
theorem dX9_floats_27 : decode cX9_floats 27 = .ok (.iconst (-1), 1) := by decide +kernel
theorem dX9_floats_28 : decode cX9_floats 28 = .ok (.ireturn, 1) := by decide +kernel
theorem dX9_letAhead_0 : decode cX9_letAhead 0 = .ok (.aload_n 0, 1) := by decide +kernel
theorem dX9_letAhead_1 : decode cX9_letAhead 1 = .ok (.invokevirtual 126, 3) := by decide +kernel
theorem dX9_letAhead_4 : decode cX9_letAhead 4 = .ok (.ifCond .eq 23, 3) := by decide +kernel
theorem dX9_letAhead_27 : decode cX9_letAhead 27 = .ok (.iconst (-1), 1) := by decide +kernel
theorem dX9_letAhead_28 : decode cX9_letAhead 28 = .ok (.ireturn, 1) := by decide +kernel
theorem dX9_kin_0 : decode cX9_kin 0 = .ok (.aload_n 0, 1) := by decide +kernel
theorem dX9_kin_1 : decode cX9_kin 1 = .ok (.iload_n 1, 1) := by decide +kernel
theorem dX9_kin_2 : decode cX9_kin 2 = .ok (.invokevirtual 180, 3) := by decide +kernel
theorem dX9_kin_5 : decode cX9_kin 5 = .ok (.ifCond .eq 11, 3) := by decide +kernel
theorem dX9_kin_16 : decode cX9_kin 16 = .ok (.iconst (-1), 1) := by decide +kernel
theorem dX9_kin_17 : decode cX9_kin 17 = .ok (.ireturn, 1) := by decide +kernel
theorem dX9_kinOf_0 : decode cX9_kinOf 0 = .ok (.aload_n 0, 1) := by decide +kernel
theorem dX9_kinOf_1 : decode cX9_kinOf 1 = .ok (.iload_n 1, 1) := by decide +kernel
theorem dX9_kinOf_2 : decode cX9_kinOf 2 = .ok (.invokevirtual 180, 3) := by decide +kernel
theorem dX9_kinOf_5 : decode cX9_kinOf 5 = .ok (.ifCond .ne 5, 3) := by decide +kernel
theorem dX9_kinOf_8 : decode cX9_kinOf 8 = .ok (.iconst (-1), 1) := by decide +kernel
theorem dX9_kinOf_9 : decode cX9_kinOf 9 = .ok (.ireturn, 1) := by decide +kernel
theorem dX9_was_0 : decode cX9_was 0 = .ok (.aload_n 0, 1) := by decide +kernel
theorem dX9_was_1 : decode cX9_was 1 = .ok (.iload_n 1, 1) := by decide +kernel
theorem dX9_was_2 : decode cX9_was 2 = .ok (.invokevirtual 180, 3) := by decide +kernel
theorem dX9_was_5 : decode cX9_was 5 = .ok (.ifCond .eq 19, 3) := by decide +kernel
theorem dX9_was_24 : decode cX9_was 24 = .ok (.bipush (-2), 2) := by decide +kernel
theorem dX9_was_26 : decode cX9_was 26 = .ok (.ireturn, 1) := by decide +kernel
theorem dX9_wereAt_0 : decode cX9_wereAt 0 = .ok (.aload_n 0, 1) := by decide +kernel
theorem dX9_wereAt_1 : decode cX9_wereAt 1 = .ok (.iload_n 1, 1) := by decide +kernel
theorem dX9_wereAt_2 : decode cX9_wereAt 2 = .ok (.iload_n 2, 1) := by decide +kernel
theorem dX9_wereAt_3 : decode cX9_wereAt 3 = .ok (.iload_n 3, 1) := by decide +kernel
theorem dX9_wereAt_4 : decode cX9_wereAt 4 = .ok (.invokevirtual 341, 3) := by decide +kernel
theorem dX9_wereAt_7 : decode cX9_wereAt 7 = .ok (.ifCond .ne 5, 3) := by decide +kernel
theorem dX9_wereAt_10 : decode cX9_wereAt 10 = .ok (.iconst (-1), 1) := by decide +kernel
theorem dX9_wereAt_11 : decode cX9_wereAt 11 = .ok (.ireturn, 1) := by decide +kernel
theorem dX9_likely_0 : decode cX9_likely 0 = .ok (.aload_n 0, 1) := by decide +kernel
theorem dX9_likely_1 : decode cX9_likely 1 = .ok (.iload_n 1, 1) := by decide +kernel
theorem dX9_likely_2 : decode cX9_likely 2 = .ok (.iload_n 2, 1) := by decide +kernel
theorem dX9_likely_3 : decode cX9_likely 3 = .ok (.iload_n 3, 1) := by decide +kernel
theorem dX9_likely_4 : decode cX9_likely 4 = .ok (.invokevirtual 341, 3) := by decide +kernel
theorem dX9_likely_7 : decode cX9_likely 7 = .ok (.ifCond .eq 23, 3) := by decide +kernel
theorem dX9_likely_30 : decode cX9_likely 30 = .ok (.iconst (-1), 1) := by decide +kernel
theorem dX9_likely_31 : decode cX9_likely 31 = .ok (.ireturn, 1) := by decide +kernel
theorem dX9_areKept_0 : decode cX9_areKept 0 = .ok (.aload_n 0, 1) := by decide +kernel
theorem dX9_areKept_1 : decode cX9_areKept 1 = .ok (.iload_n 1, 1) := by decide +kernel
theorem dX9_areKept_2 : decode cX9_areKept 2 = .ok (.invokevirtual 180, 3) := by decide +kernel
theorem dX9_areKept_5 : decode cX9_areKept 5 = .ok (.ifCond .eq 28, 3) := by decide +kernel
theorem dX9_areKept_33 : decode cX9_areKept 33 = .ok (.iconst 0, 1) := by decide +kernel
theorem dX9_areKept_34 : decode cX9_areKept 34 = .ok (.ireturn, 1) := by decide +kernel
theorem dX9_sight_0 : decode cX9_sight 0 = .ok (.iload_n 1, 1) := by decide +kernel
theorem dX9_sight_1 : decode cX9_sight 1 = .ok (.iconst (-1), 1) := by decide +kernel
theorem dX9_sight_2 : decode cX9_sight 2 = .ok (.if_icmp .ne 16, 3) := by decide +kernel
theorem dX9_sight_5 : decode cX9_sight 5 = .ok (.aload_n 0, 1) := by decide +kernel
theorem dX9_sight_6 : decode cX9_sight 6 = .ok (.getfield 47, 3) := by decide +kernel
theorem dX9_sight_9 : decode cX9_sight 9 = .ok (.getfield 109, 3) := by decide +kernel
theorem dX9_sight_12 : decode cX9_sight 12 = .ok (.iconst 0, 1) := by decide +kernel
theorem dX9_sight_13 : decode cX9_sight 13 = .ok (.putfield 355, 3) := by decide +kernel
theorem dX9_sight_16 : decode cX9_sight 16 = .ok (.iconst 0, 1) := by decide +kernel
theorem dX9_sight_17 : decode cX9_sight 17 = .ok (.ireturn, 1) := by decide +kernel
theorem dX9_sight_18 : decode cX9_sight 18 = .ok (.aload_n 0, 1) := by decide +kernel
theorem dX9_sight_19 : decode cX9_sight 19 = .ok (.iload_n 1, 1) := by decide +kernel
theorem dX9_sight_20 : decode cX9_sight 20 = .ok (.invokevirtual 180, 3) := by decide +kernel
theorem dX9_sight_23 : decode cX9_sight 23 = .ok (.ifCond .eq 41, 3) := by decide +kernel
theorem dX9_sight_64 : decode cX9_sight 64 = .ok (.bipush (-2), 2) := by decide +kernel
theorem dX9_sight_66 : decode cX9_sight 66 = .ok (.ireturn, 1) := by decide +kernel
theorem dX9_parted_0 : decode cX9_parted 0 = .ok (.aload_n 0, 1) := by decide +kernel
theorem dX9_parted_1 : decode cX9_parted 1 = .ok (.iload_n 1, 1) := by decide +kernel
theorem dX9_parted_2 : decode cX9_parted 2 = .ok (.invokevirtual 180, 3) := by decide +kernel
theorem dX9_parted_5 : decode cX9_parted 5 = .ok (.ifCond .eq 22, 3) := by decide +kernel
theorem dX9_parted_27 : decode cX9_parted 27 = .ok (.iconst (-1), 1) := by decide +kernel
theorem dX9_parted_28 : decode cX9_parted 28 = .ok (.ireturn, 1) := by decide +kernel
theorem dX9_owes_0 : decode cX9_owes 0 = .ok (.aload_n 0, 1) := by decide +kernel
theorem dX9_owes_1 : decode cX9_owes 1 = .ok (.iload_n 1, 1) := by decide +kernel
theorem dX9_owes_2 : decode cX9_owes 2 = .ok (.invokevirtual 136, 3) := by decide +kernel
theorem dX9_owes_5 : decode cX9_owes 5 = .ok (.ifCond .eq 16, 3) := by decide +kernel
theorem dX9_owes_21 : decode cX9_owes 21 = .ok (.iconst (-1), 1) := by decide +kernel
theorem dX9_owes_22 : decode cX9_owes 22 = .ok (.ireturn, 1) := by decide +kernel
theorem dX9_payments_0 : decode cX9_payments 0 = .ok (.aload_n 0, 1) := by decide +kernel
theorem dX9_payments_1 : decode cX9_payments 1 = .ok (.invokevirtual 126, 3) := by decide +kernel
theorem dX9_payments_4 : decode cX9_payments 4 = .ok (.ifCond .ne 5, 3) := by decide +kernel
theorem dX9_payments_7 : decode cX9_payments 7 = .ok (.iconst (-1), 1) := by decide +kernel
theorem dX9_payments_8 : decode cX9_payments 8 = .ok (.ireturn, 1) := by decide +kernel
theorem dX9_repaid_0 : decode cX9_repaid 0 = .ok (.aload_n 0, 1) := by decide +kernel
theorem dX9_repaid_1 : decode cX9_repaid 1 = .ok (.iload_n 1, 1) := by decide +kernel
theorem dX9_repaid_2 : decode cX9_repaid 2 = .ok (.invokevirtual 136, 3) := by decide +kernel
theorem dX9_repaid_5 : decode cX9_repaid 5 = .ok (.ifCond .eq 25, 3) := by decide +kernel
theorem dX9_repaid_30 : decode cX9_repaid 30 = .ok (.iconst (-1), 1) := by decide +kernel
theorem dX9_repaid_31 : decode cX9_repaid 31 = .ok (.ireturn, 1) := by decide +kernel
theorem dX9_seed_0 : decode cX9_seed 0 = .ok (.iload_n 1, 1) := by decide +kernel
theorem dX9_seed_1 : decode cX9_seed 1 = .ok (.ifCond .ge 5, 3) := by decide +kernel
theorem dX9_seed_4 : decode cX9_seed 4 = .ok (.iconst (-1), 1) := by decide +kernel
theorem dX9_seed_5 : decode cX9_seed 5 = .ok (.ireturn, 1) := by decide +kernel
theorem dX9_seed_6 : decode cX9_seed 6 = .ok (.aload_n 0, 1) := by decide +kernel
theorem dX9_seed_7 : decode cX9_seed 7 = .ok (.getfield 47, 3) := by decide +kernel
theorem dX9_seed_10 : decode cX9_seed 10 = .ok (.getfield 109, 3) := by decide +kernel
theorem dX9_seed_13 : decode cX9_seed 13 = .ok (.getfield 387, 3) := by decide +kernel
theorem dX9_seed_16 : decode cX9_seed 16 = .ok (.istore_n 2, 1) := by decide +kernel
theorem dX9_seed_17 : decode cX9_seed 17 = .ok (.aload_n 0, 1) := by decide +kernel
theorem dX9_seed_18 : decode cX9_seed 18 = .ok (.getfield 47, 3) := by decide +kernel
theorem dX9_seed_21 : decode cX9_seed 21 = .ok (.getfield 109, 3) := by decide +kernel
theorem dX9_seed_24 : decode cX9_seed 24 = .ok (.iload_n 1, 1) := by decide +kernel
theorem dX9_seed_25 : decode cX9_seed 25 = .ok (.putfield 387, 3) := by decide +kernel
theorem dX9_seed_28 : decode cX9_seed 28 = .ok (.iload_n 2, 1) := by decide +kernel
theorem dX9_seed_29 : decode cX9_seed 29 = .ok (.ireturn, 1) := by decide +kernel
theorem dX9_drawn_0 : decode cX9_drawn 0 = .ok (.aload_n 0, 1) := by decide +kernel
theorem dX9_drawn_1 : decode cX9_drawn 1 = .ok (.invokevirtual 126, 3) := by decide +kernel
theorem dX9_drawn_4 : decode cX9_drawn 4 = .ok (.ifCond .eq 46, 3) := by decide +kernel
theorem dX9_drawn_50 : decode cX9_drawn 50 = .ok (.iconst (-1), 1) := by decide +kernel
theorem dX9_drawn_51 : decode cX9_drawn 51 = .ok (.ireturn, 1) := by decide +kernel
theorem dX9_count_0 : decode cX9_count 0 = .ok (.iload_n 1, 1) := by decide +kernel
theorem dX9_count_1 : decode cX9_count 1 = .ok (.tableswitch 200 0 11 #[63, 74, 85, 96, 107, 112, 123, 134, 145, 156, 170, 185], 63) := by decide +kernel
theorem dX9_count_64 : decode cX9_count 64 = .ok (.aload_n 0, 1) := by decide +kernel
theorem dX9_count_65 : decode cX9_count 65 = .ok (.getfield 47, 3) := by decide +kernel
theorem dX9_count_68 : decode cX9_count 68 = .ok (.getfield 51, 3) := by decide +kernel
theorem dX9_count_71 : decode cX9_count 71 = .ok (.getfield 400, 3) := by decide +kernel
theorem dX9_count_74 : decode cX9_count 74 = .ok (.ireturn, 1) := by decide +kernel
theorem dX9_count_75 : decode cX9_count 75 = .ok (.aload_n 0, 1) := by decide +kernel
theorem dX9_count_76 : decode cX9_count 76 = .ok (.getfield 47, 3) := by decide +kernel
theorem dX9_count_79 : decode cX9_count 79 = .ok (.getfield 51, 3) := by decide +kernel
theorem dX9_count_82 : decode cX9_count 82 = .ok (.getfield 378, 3) := by decide +kernel
theorem dX9_count_85 : decode cX9_count 85 = .ok (.ireturn, 1) := by decide +kernel
theorem dX9_count_86 : decode cX9_count 86 = .ok (.aload_n 0, 1) := by decide +kernel
theorem dX9_count_87 : decode cX9_count 87 = .ok (.getfield 47, 3) := by decide +kernel
theorem dX9_count_90 : decode cX9_count 90 = .ok (.getfield 51, 3) := by decide +kernel
theorem dX9_count_93 : decode cX9_count 93 = .ok (.getfield 403, 3) := by decide +kernel
theorem dX9_count_96 : decode cX9_count 96 = .ok (.ireturn, 1) := by decide +kernel
theorem dX9_count_97 : decode cX9_count 97 = .ok (.aload_n 0, 1) := by decide +kernel
theorem dX9_count_98 : decode cX9_count 98 = .ok (.getfield 47, 3) := by decide +kernel
theorem dX9_count_101 : decode cX9_count 101 = .ok (.getfield 51, 3) := by decide +kernel
theorem dX9_count_104 : decode cX9_count 104 = .ok (.getfield 117, 3) := by decide +kernel
theorem dX9_count_107 : decode cX9_count 107 = .ok (.ireturn, 1) := by decide +kernel
theorem dX9_count_108 : decode cX9_count 108 = .ok (.aload_n 0, 1) := by decide +kernel
theorem dX9_count_109 : decode cX9_count 109 = .ok (.getfield 120, 3) := by decide +kernel
theorem dX9_count_112 : decode cX9_count 112 = .ok (.ireturn, 1) := by decide +kernel
theorem dX9_count_113 : decode cX9_count 113 = .ok (.aload_n 0, 1) := by decide +kernel
theorem dX9_count_114 : decode cX9_count 114 = .ok (.getfield 47, 3) := by decide +kernel
theorem dX9_count_117 : decode cX9_count 117 = .ok (.getfield 100, 3) := by decide +kernel
theorem dX9_count_120 : decode cX9_count 120 = .ok (.getfield 133, 3) := by decide +kernel
theorem dX9_count_123 : decode cX9_count 123 = .ok (.ireturn, 1) := by decide +kernel
theorem dX9_count_124 : decode cX9_count 124 = .ok (.aload_n 0, 1) := by decide +kernel
theorem dX9_count_125 : decode cX9_count 125 = .ok (.getfield 47, 3) := by decide +kernel
theorem dX9_count_128 : decode cX9_count 128 = .ok (.getfield 100, 3) := by decide +kernel
theorem dX9_count_131 : decode cX9_count 131 = .ok (.getfield 148, 3) := by decide +kernel
theorem dX9_count_134 : decode cX9_count 134 = .ok (.ireturn, 1) := by decide +kernel
theorem dX9_count_135 : decode cX9_count 135 = .ok (.aload_n 0, 1) := by decide +kernel
theorem dX9_count_136 : decode cX9_count 136 = .ok (.getfield 47, 3) := by decide +kernel
theorem dX9_count_139 : decode cX9_count 139 = .ok (.getfield 100, 3) := by decide +kernel
theorem dX9_count_142 : decode cX9_count 142 = .ok (.getfield 297, 3) := by decide +kernel
theorem dX9_count_145 : decode cX9_count 145 = .ok (.ireturn, 1) := by decide +kernel
theorem dX9_count_146 : decode cX9_count 146 = .ok (.aload_n 0, 1) := by decide +kernel
theorem dX9_count_147 : decode cX9_count 147 = .ok (.getfield 47, 3) := by decide +kernel
theorem dX9_count_150 : decode cX9_count 150 = .ok (.getfield 100, 3) := by decide +kernel
theorem dX9_count_153 : decode cX9_count 153 = .ok (.getfield 280, 3) := by decide +kernel
theorem dX9_count_156 : decode cX9_count 156 = .ok (.ireturn, 1) := by decide +kernel
theorem dX9_count_157 : decode cX9_count 157 = .ok (.aload_n 0, 1) := by decide +kernel
theorem dX9_count_158 : decode cX9_count 158 = .ok (.getfield 47, 3) := by decide +kernel
theorem dX9_count_161 : decode cX9_count 161 = .ok (.getfield 100, 3) := by decide +kernel
theorem dX9_count_164 : decode cX9_count 164 = .ok (.iconst 0, 1) := by decide +kernel
theorem dX9_count_165 : decode cX9_count 165 = .ok (.bipush 20, 2) := by decide +kernel
theorem dX9_count_167 : decode cX9_count 167 = .ok (.invokevirtual 406, 3) := by decide +kernel
theorem dX9_count_170 : decode cX9_count 170 = .ok (.ireturn, 1) := by decide +kernel
theorem dX9_count_171 : decode cX9_count 171 = .ok (.aload_n 0, 1) := by decide +kernel
theorem dX9_count_172 : decode cX9_count 172 = .ok (.getfield 47, 3) := by decide +kernel
theorem dX9_count_175 : decode cX9_count 175 = .ok (.getfield 100, 3) := by decide +kernel
theorem dX9_count_178 : decode cX9_count 178 = .ok (.bipush 40, 2) := by decide +kernel
theorem dX9_count_180 : decode cX9_count 180 = .ok (.bipush 41, 2) := by decide +kernel
theorem dX9_count_182 : decode cX9_count 182 = .ok (.invokevirtual 406, 3) := by decide +kernel
theorem dX9_count_185 : decode cX9_count 185 = .ok (.ireturn, 1) := by decide +kernel
theorem dX9_count_186 : decode cX9_count 186 = .ok (.aload_n 0, 1) := by decide +kernel
theorem dX9_count_187 : decode cX9_count 187 = .ok (.getfield 47, 3) := by decide +kernel
theorem dX9_count_190 : decode cX9_count 190 = .ok (.getfield 100, 3) := by decide +kernel
theorem dX9_count_193 : decode cX9_count 193 = .ok (.bipush 41, 2) := by decide +kernel
theorem dX9_count_195 : decode cX9_count 195 = .ok (.bipush 42, 2) := by decide +kernel
theorem dX9_count_197 : decode cX9_count 197 = .ok (.invokevirtual 406, 3) := by decide +kernel
theorem dX9_count_200 : decode cX9_count 200 = .ok (.ireturn, 1) := by decide +kernel
theorem dX9_count_201 : decode cX9_count 201 = .ok (.aload_n 0, 1) := by decide +kernel
theorem dX9_count_202 : decode cX9_count 202 = .ok (.iload_n 1, 1) := by decide +kernel
theorem dX9_count_203 : decode cX9_count 203 = .ok (.invokevirtual 409, 3) := by decide +kernel
theorem dX9_count_206 : decode cX9_count 206 = .ok (.ireturn, 1) := by decide +kernel
theorem dX9_countKept_0 : decode cX9_countKept 0 = .ok (.iload_n 1, 1) := by decide +kernel
theorem dX9_countKept_1 : decode cX9_countKept 1 = .ok (.tableswitch 132 12 19 #[47, 58, 69, 80, 91, 102, 113, 121], 47) := by decide +kernel
theorem dX9_countKept_48 : decode cX9_countKept 48 = .ok (.aload_n 0, 1) := by decide +kernel
theorem dX9_countKept_49 : decode cX9_countKept 49 = .ok (.getfield 47, 3) := by decide +kernel
theorem dX9_countKept_52 : decode cX9_countKept 52 = .ok (.getfield 109, 3) := by decide +kernel
theorem dX9_countKept_55 : decode cX9_countKept 55 = .ok (.getfield 412, 3) := by decide +kernel
theorem dX9_countKept_58 : decode cX9_countKept 58 = .ok (.ireturn, 1) := by decide +kernel
theorem dX9_countKept_59 : decode cX9_countKept 59 = .ok (.aload_n 0, 1) := by decide +kernel
theorem dX9_countKept_60 : decode cX9_countKept 60 = .ok (.getfield 47, 3) := by decide +kernel
theorem dX9_countKept_63 : decode cX9_countKept 63 = .ok (.getfield 109, 3) := by decide +kernel
theorem dX9_countKept_66 : decode cX9_countKept 66 = .ok (.getfield 287, 3) := by decide +kernel
theorem dX9_countKept_69 : decode cX9_countKept 69 = .ok (.ireturn, 1) := by decide +kernel
theorem dX9_countKept_70 : decode cX9_countKept 70 = .ok (.aload_n 0, 1) := by decide +kernel
theorem dX9_countKept_71 : decode cX9_countKept 71 = .ok (.getfield 47, 3) := by decide +kernel
theorem dX9_countKept_74 : decode cX9_countKept 74 = .ok (.getfield 109, 3) := by decide +kernel
theorem dX9_countKept_77 : decode cX9_countKept 77 = .ok (.getfield 355, 3) := by decide +kernel
theorem dX9_countKept_80 : decode cX9_countKept 80 = .ok (.ireturn, 1) := by decide +kernel
theorem dX9_countKept_81 : decode cX9_countKept 81 = .ok (.aload_n 0, 1) := by decide +kernel
theorem dX9_countKept_82 : decode cX9_countKept 82 = .ok (.getfield 47, 3) := by decide +kernel
theorem dX9_countKept_85 : decode cX9_countKept 85 = .ok (.getfield 109, 3) := by decide +kernel
theorem dX9_countKept_88 : decode cX9_countKept 88 = .ok (.getfield 235, 3) := by decide +kernel
theorem dX9_countKept_91 : decode cX9_countKept 91 = .ok (.ireturn, 1) := by decide +kernel
theorem dX9_countKept_92 : decode cX9_countKept 92 = .ok (.aload_n 0, 1) := by decide +kernel
theorem dX9_countKept_93 : decode cX9_countKept 93 = .ok (.getfield 47, 3) := by decide +kernel
theorem dX9_countKept_96 : decode cX9_countKept 96 = .ok (.getfield 100, 3) := by decide +kernel
theorem dX9_countKept_99 : decode cX9_countKept 99 = .ok (.invokevirtual 415, 3) := by decide +kernel
theorem dX9_countKept_102 : decode cX9_countKept 102 = .ok (.ireturn, 1) := by decide +kernel
theorem dX9_countKept_103 : decode cX9_countKept 103 = .ok (.aload_n 0, 1) := by decide +kernel
theorem dX9_countKept_104 : decode cX9_countKept 104 = .ok (.getfield 47, 3) := by decide +kernel
theorem dX9_countKept_107 : decode cX9_countKept 107 = .ok (.getfield 109, 3) := by decide +kernel
theorem dX9_countKept_110 : decode cX9_countKept 110 = .ok (.getfield 387, 3) := by decide +kernel
theorem dX9_countKept_113 : decode cX9_countKept 113 = .ok (.ireturn, 1) := by decide +kernel
theorem dX9_countKept_114 : decode cX9_countKept 114 = .ok (.aload_n 0, 1) := by decide +kernel
theorem dX9_countKept_115 : decode cX9_countKept 115 = .ok (.getfield 10, 3) := by decide +kernel
theorem dX9_countKept_118 : decode cX9_countKept 118 = .ok (.getfield 78, 3) := by decide +kernel
theorem dX9_countKept_121 : decode cX9_countKept 121 = .ok (.ireturn, 1) := by decide +kernel
theorem dX9_countKept_122 : decode cX9_countKept 122 = .ok (.aload_n 0, 1) := by decide +kernel
theorem dX9_countKept_123 : decode cX9_countKept 123 = .ok (.getfield 47, 3) := by decide +kernel
theorem dX9_countKept_126 : decode cX9_countKept 126 = .ok (.getfield 51, 3) := by decide +kernel
theorem dX9_countKept_129 : decode cX9_countKept 129 = .ok (.getfield 418, 3) := by decide +kernel
theorem dX9_countKept_132 : decode cX9_countKept 132 = .ok (.ireturn, 1) := by decide +kernel
theorem dX9_countKept_133 : decode cX9_countKept 133 = .ok (.iconst (-1), 1) := by decide +kernel
theorem dX9_countKept_134 : decode cX9_countKept 134 = .ok (.ireturn, 1) := by decide +kernel
theorem dX9_hasRiver_0 : decode cX9_hasRiver 0 = .ok (.aload_n 0, 1) := by decide +kernel
theorem dX9_hasRiver_1 : decode cX9_hasRiver 1 = .ok (.getfield 47, 3) := by decide +kernel
theorem dX9_hasRiver_4 : decode cX9_hasRiver 4 = .ok (.getfield 51, 3) := by decide +kernel
theorem dX9_hasRiver_7 : decode cX9_hasRiver 7 = .ok (.getfield 400, 3) := by decide +kernel
theorem dX9_hasRiver_10 : decode cX9_hasRiver 10 = .ok (.ifCond .le 7, 3) := by decide +kernel
theorem dX9_hasRiver_17 : decode cX9_hasRiver 17 = .ok (.iconst 0, 1) := by decide +kernel
theorem dX9_hasRiver_18 : decode cX9_hasRiver 18 = .ok (.ireturn, 1) := by decide +kernel
theorem dX9_isBend_0 : decode cX9_isBend 0 = .ok (.iload_n 1, 1) := by decide +kernel
theorem dX9_isBend_1 : decode cX9_isBend 1 = .ok (.ifCond .lt 21, 3) := by decide +kernel
theorem dX9_isBend_4 : decode cX9_isBend 4 = .ok (.iload_n 1, 1) := by decide +kernel
theorem dX9_isBend_5 : decode cX9_isBend 5 = .ok (.aload_n 0, 1) := by decide +kernel
theorem dX9_isBend_6 : decode cX9_isBend 6 = .ok (.getfield 47, 3) := by decide +kernel
theorem dX9_isBend_9 : decode cX9_isBend 9 = .ok (.getfield 51, 3) := by decide +kernel
theorem dX9_isBend_12 : decode cX9_isBend 12 = .ok (.getfield 400, 3) := by decide +kernel
theorem dX9_isBend_15 : decode cX9_isBend 15 = .ok (.if_icmp .ge 7, 3) := by decide +kernel
theorem dX9_isBend_22 : decode cX9_isBend 22 = .ok (.iconst 0, 1) := by decide +kernel
theorem dX9_isBend_23 : decode cX9_isBend 23 = .ok (.ireturn, 1) := by decide +kernel
theorem dX9_isVillage_0 : decode cX9_isVillage 0 = .ok (.iload_n 1, 1) := by decide +kernel
theorem dX9_isVillage_1 : decode cX9_isVillage 1 = .ok (.ifCond .lt 21, 3) := by decide +kernel
theorem dX9_isVillage_4 : decode cX9_isVillage 4 = .ok (.iload_n 1, 1) := by decide +kernel
theorem dX9_isVillage_5 : decode cX9_isVillage 5 = .ok (.aload_n 0, 1) := by decide +kernel
theorem dX9_isVillage_6 : decode cX9_isVillage 6 = .ok (.getfield 47, 3) := by decide +kernel
theorem dX9_isVillage_9 : decode cX9_isVillage 9 = .ok (.getfield 51, 3) := by decide +kernel
theorem dX9_isVillage_12 : decode cX9_isVillage 12 = .ok (.getfield 378, 3) := by decide +kernel
theorem dX9_isVillage_15 : decode cX9_isVillage 15 = .ok (.if_icmp .ge 7, 3) := by decide +kernel
theorem dX9_isVillage_22 : decode cX9_isVillage 22 = .ok (.iconst 0, 1) := by decide +kernel
theorem dX9_isVillage_23 : decode cX9_isVillage 23 = .ok (.ireturn, 1) := by decide +kernel
theorem dX9_isLog_0 : decode cX9_isLog 0 = .ok (.iload_n 1, 1) := by decide +kernel
theorem dX9_isLog_1 : decode cX9_isLog 1 = .ok (.ifCond .lt 21, 3) := by decide +kernel
theorem dX9_isLog_4 : decode cX9_isLog 4 = .ok (.iload_n 1, 1) := by decide +kernel
theorem dX9_isLog_5 : decode cX9_isLog 5 = .ok (.aload_n 0, 1) := by decide +kernel
theorem dX9_isLog_6 : decode cX9_isLog 6 = .ok (.getfield 47, 3) := by decide +kernel
theorem dX9_isLog_9 : decode cX9_isLog 9 = .ok (.getfield 51, 3) := by decide +kernel
theorem dX9_isLog_12 : decode cX9_isLog 12 = .ok (.getfield 117, 3) := by decide +kernel
theorem dX9_isLog_15 : decode cX9_isLog 15 = .ok (.if_icmp .ge 7, 3) := by decide +kernel
theorem dX9_isLog_22 : decode cX9_isLog 22 = .ok (.iconst 0, 1) := by decide +kernel
theorem dX9_isLog_23 : decode cX9_isLog 23 = .ok (.ireturn, 1) := by decide +kernel
