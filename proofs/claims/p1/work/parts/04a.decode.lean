theorem dX0_init_0 : decode cX0_init 0 = .ok (.aload_n 0, 1) := by decide +kernel
theorem dX0_init_1 : decode cX0_init 1 = .ok (.invokespecial 3, 3) := by decide +kernel
theorem dX0_init_4 : decode cX0_init 4 = .ok (.aload_n 0, 1) := by decide +kernel
theorem dX0_init_5 : decode cX0_init 5 = .ok (.bipush 6, 2) := by decide +kernel
theorem dX0_init_7 : decode cX0_init 7 = .ok (.newarray .int, 2) := by decide +kernel
theorem dX0_init_9 : decode cX0_init 9 = .ok (.putfield 9, 3) := by decide +kernel
theorem dX0_init_12 : decode cX0_init 12 = .ok (.aload_n 0, 1) := by decide +kernel
theorem dX0_init_13 : decode cX0_init 13 = .ok (.bipush 36, 2) := by decide +kernel
theorem dX0_init_15 : decode cX0_init 15 = .ok (.newarray .int, 2) := by decide +kernel
theorem dX0_init_17 : decode cX0_init 17 = .ok (.putfield 15, 3) := by decide +kernel
theorem dX0_init_20 : decode cX0_init 20 = .ok (.aload_n 0, 1) := by decide +kernel
theorem dX0_init_21 : decode cX0_init 21 = .ok (.bipush 20, 2) := by decide +kernel
theorem dX0_init_23 : decode cX0_init 23 = .ok (.newarray .int, 2) := by decide +kernel
theorem dX0_init_25 : decode cX0_init 25 = .ok (.putfield 18, 3) := by decide +kernel
theorem dX0_init_28 : decode cX0_init 28 = .ok (.aload_n 0, 1) := by decide +kernel
theorem dX0_init_29 : decode cX0_init 29 = .ok (.bipush 20, 2) := by decide +kernel
theorem dX0_init_31 : decode cX0_init 31 = .ok (.newarray .int, 2) := by decide +kernel
theorem dX0_init_33 : decode cX0_init 33 = .ok (.putfield 21, 3) := by decide +kernel
theorem dX0_init_36 : decode cX0_init 36 = .ok (.aload_n 0, 1) := by decide +kernel
theorem dX0_init_37 : decode cX0_init 37 = .ok (.bipush 20, 2) := by decide +kernel
theorem dX0_init_39 : decode cX0_init 39 = .ok (.newarray .int, 2) := by decide +kernel
theorem dX0_init_41 : decode cX0_init 41 = .ok (.putfield 24, 3) := by decide +kernel
theorem dX0_init_44 : decode cX0_init 44 = .ok (.aload_n 0, 1) := by decide +kernel
theorem dX0_init_45 : decode cX0_init 45 = .ok (.bipush 20, 2) := by decide +kernel
theorem dX0_init_47 : decode cX0_init 47 = .ok (.newarray .int, 2) := by decide +kernel
theorem dX0_init_49 : decode cX0_init 49 = .ok (.putfield 27, 3) := by decide +kernel
theorem dX0_init_52 : decode cX0_init 52 = .ok (.aload_n 0, 1) := by decide +kernel
theorem dX0_init_53 : decode cX0_init 53 = .ok (.bipush 20, 2) := by decide +kernel
theorem dX0_init_55 : decode cX0_init 55 = .ok (.newarray .int, 2) := by decide +kernel
theorem dX0_init_57 : decode cX0_init 57 = .ok (.putfield 30, 3) := by decide +kernel
theorem dX0_init_60 : decode cX0_init 60 = .ok (.aload_n 0, 1) := by decide +kernel
theorem dX0_init_61 : decode cX0_init 61 = .ok (.bipush 12, 2) := by decide +kernel
theorem dX0_init_63 : decode cX0_init 63 = .ok (.newarray .int, 2) := by decide +kernel
theorem dX0_init_65 : decode cX0_init 65 = .ok (.putfield 33, 3) := by decide +kernel
theorem dX0_init_68 : decode cX0_init 68 = .ok (.aload_n 0, 1) := by decide +kernel
theorem dX0_init_69 : decode cX0_init 69 = .ok (.bipush 12, 2) := by decide +kernel
theorem dX0_init_71 : decode cX0_init 71 = .ok (.newarray .int, 2) := by decide +kernel
theorem dX0_init_73 : decode cX0_init 73 = .ok (.putfield 36, 3) := by decide +kernel
theorem dX0_init_76 : decode cX0_init 76 = .ok (.aload_n 0, 1) := by decide +kernel
theorem dX0_init_77 : decode cX0_init 77 = .ok (.bipush 12, 2) := by decide +kernel
theorem dX0_init_79 : decode cX0_init 79 = .ok (.newarray .int, 2) := by decide +kernel
theorem dX0_init_81 : decode cX0_init 81 = .ok (.putfield 39, 3) := by decide +kernel
theorem dX0_init_84 : decode cX0_init 84 = .ok (.aload_n 0, 1) := by decide +kernel
theorem dX0_init_85 : decode cX0_init 85 = .ok (.bipush 12, 2) := by decide +kernel
theorem dX0_init_87 : decode cX0_init 87 = .ok (.newarray .int, 2) := by decide +kernel
theorem dX0_init_89 : decode cX0_init 89 = .ok (.putfield 42, 3) := by decide +kernel
theorem dX0_init_92 : decode cX0_init 92 = .ok (.aload_n 0, 1) := by decide +kernel
theorem dX0_init_93 : decode cX0_init 93 = .ok (.sipush 360, 3) := by decide +kernel
theorem dX0_init_96 : decode cX0_init 96 = .ok (.newarray .int, 2) := by decide +kernel
theorem dX0_init_98 : decode cX0_init 98 = .ok (.putfield 45, 3) := by decide +kernel
theorem dX0_init_101 : decode cX0_init 101 = .ok (.return_, 1) := by decide +kernel
theorem dX0_copy_0 : decode cX0_copy 0 = .ok (.aload_n 0, 1) := by decide +kernel
theorem dX0_copy_1 : decode cX0_copy 1 = .ok (.aload_n 1, 1) := by decide +kernel
theorem dX0_copy_2 : decode cX0_copy 2 = .ok (.getfield 67, 3) := by decide +kernel
theorem dX0_copy_5 : decode cX0_copy 5 = .ok (.putfield 67, 3) := by decide +kernel
theorem dX0_copy_8 : decode cX0_copy 8 = .ok (.aload_n 0, 1) := by decide +kernel
theorem dX0_copy_9 : decode cX0_copy 9 = .ok (.aload_n 1, 1) := by decide +kernel
theorem dX0_copy_10 : decode cX0_copy 10 = .ok (.getfield 48, 3) := by decide +kernel
theorem dX0_copy_13 : decode cX0_copy 13 = .ok (.putfield 48, 3) := by decide +kernel
theorem dX0_copy_16 : decode cX0_copy 16 = .ok (.aload_n 1, 1) := by decide +kernel
theorem dX0_copy_17 : decode cX0_copy 17 = .ok (.getfield 9, 3) := by decide +kernel
theorem dX0_copy_20 : decode cX0_copy 20 = .ok (.aload_n 0, 1) := by decide +kernel
theorem dX0_copy_21 : decode cX0_copy 21 = .ok (.getfield 9, 3) := by decide +kernel
theorem dX0_copy_24 : decode cX0_copy 24 = .ok (.invokestatic 70, 3) := by decide +kernel
theorem dX0_copy_27 : decode cX0_copy 27 = .ok (.aload_n 1, 1) := by decide +kernel
theorem dX0_copy_28 : decode cX0_copy 28 = .ok (.getfield 15, 3) := by decide +kernel
theorem dX0_copy_31 : decode cX0_copy 31 = .ok (.aload_n 0, 1) := by decide +kernel
theorem dX0_copy_32 : decode cX0_copy 32 = .ok (.getfield 15, 3) := by decide +kernel
theorem dX0_copy_35 : decode cX0_copy 35 = .ok (.invokestatic 70, 3) := by decide +kernel
theorem dX0_copy_38 : decode cX0_copy 38 = .ok (.aload_n 0, 1) := by decide +kernel
theorem dX0_copy_39 : decode cX0_copy 39 = .ok (.aload_n 1, 1) := by decide +kernel
theorem dX0_copy_40 : decode cX0_copy 40 = .ok (.getfield 58, 3) := by decide +kernel
theorem dX0_copy_43 : decode cX0_copy 43 = .ok (.putfield 58, 3) := by decide +kernel
theorem dX0_copy_46 : decode cX0_copy 46 = .ok (.aload_n 1, 1) := by decide +kernel
theorem dX0_copy_47 : decode cX0_copy 47 = .ok (.getfield 18, 3) := by decide +kernel
theorem dX0_copy_50 : decode cX0_copy 50 = .ok (.aload_n 0, 1) := by decide +kernel
theorem dX0_copy_51 : decode cX0_copy 51 = .ok (.getfield 18, 3) := by decide +kernel
theorem dX0_copy_54 : decode cX0_copy 54 = .ok (.invokestatic 70, 3) := by decide +kernel
theorem dX0_copy_57 : decode cX0_copy 57 = .ok (.aload_n 0, 1) := by decide +kernel
theorem dX0_copy_58 : decode cX0_copy 58 = .ok (.aload_n 1, 1) := by decide +kernel
theorem dX0_copy_59 : decode cX0_copy 59 = .ok (.getfield 61, 3) := by decide +kernel
theorem dX0_copy_62 : decode cX0_copy 62 = .ok (.putfield 61, 3) := by decide +kernel
theorem dX0_copy_65 : decode cX0_copy 65 = .ok (.aload_n 1, 1) := by decide +kernel
theorem dX0_copy_66 : decode cX0_copy 66 = .ok (.getfield 21, 3) := by decide +kernel
theorem dX0_copy_69 : decode cX0_copy 69 = .ok (.aload_n 0, 1) := by decide +kernel
theorem dX0_copy_70 : decode cX0_copy 70 = .ok (.getfield 21, 3) := by decide +kernel
theorem dX0_copy_73 : decode cX0_copy 73 = .ok (.invokestatic 70, 3) := by decide +kernel
theorem dX0_copy_76 : decode cX0_copy 76 = .ok (.aload_n 1, 1) := by decide +kernel
theorem dX0_copy_77 : decode cX0_copy 77 = .ok (.getfield 24, 3) := by decide +kernel
theorem dX0_copy_80 : decode cX0_copy 80 = .ok (.aload_n 0, 1) := by decide +kernel
theorem dX0_copy_81 : decode cX0_copy 81 = .ok (.getfield 24, 3) := by decide +kernel
theorem dX0_copy_84 : decode cX0_copy 84 = .ok (.invokestatic 70, 3) := by decide +kernel
theorem dX0_copy_87 : decode cX0_copy 87 = .ok (.aload_n 1, 1) := by decide +kernel
theorem dX0_copy_88 : decode cX0_copy 88 = .ok (.getfield 27, 3) := by decide +kernel
theorem dX0_copy_91 : decode cX0_copy 91 = .ok (.aload_n 0, 1) := by decide +kernel
theorem dX0_copy_92 : decode cX0_copy 92 = .ok (.getfield 27, 3) := by decide +kernel
theorem dX0_copy_95 : decode cX0_copy 95 = .ok (.invokestatic 70, 3) := by decide +kernel
theorem dX0_copy_98 : decode cX0_copy 98 = .ok (.aload_n 1, 1) := by decide +kernel
theorem dX0_copy_99 : decode cX0_copy 99 = .ok (.getfield 30, 3) := by decide +kernel
theorem dX0_copy_102 : decode cX0_copy 102 = .ok (.aload_n 0, 1) := by decide +kernel
theorem dX0_copy_103 : decode cX0_copy 103 = .ok (.getfield 30, 3) := by decide +kernel
theorem dX0_copy_106 : decode cX0_copy 106 = .ok (.invokestatic 70, 3) := by decide +kernel
theorem dX0_copy_109 : decode cX0_copy 109 = .ok (.aload_n 0, 1) := by decide +kernel
theorem dX0_copy_110 : decode cX0_copy 110 = .ok (.aload_n 1, 1) := by decide +kernel
theorem dX0_copy_111 : decode cX0_copy 111 = .ok (.getfield 64, 3) := by decide +kernel
theorem dX0_copy_114 : decode cX0_copy 114 = .ok (.putfield 64, 3) := by decide +kernel
theorem dX0_copy_117 : decode cX0_copy 117 = .ok (.aload_n 1, 1) := by decide +kernel
theorem dX0_copy_118 : decode cX0_copy 118 = .ok (.getfield 33, 3) := by decide +kernel
theorem dX0_copy_121 : decode cX0_copy 121 = .ok (.aload_n 0, 1) := by decide +kernel
theorem dX0_copy_122 : decode cX0_copy 122 = .ok (.getfield 33, 3) := by decide +kernel
theorem dX0_copy_125 : decode cX0_copy 125 = .ok (.invokestatic 70, 3) := by decide +kernel
theorem dX0_copy_128 : decode cX0_copy 128 = .ok (.aload_n 1, 1) := by decide +kernel
theorem dX0_copy_129 : decode cX0_copy 129 = .ok (.getfield 36, 3) := by decide +kernel
theorem dX0_copy_132 : decode cX0_copy 132 = .ok (.aload_n 0, 1) := by decide +kernel
theorem dX0_copy_133 : decode cX0_copy 133 = .ok (.getfield 36, 3) := by decide +kernel
theorem dX0_copy_136 : decode cX0_copy 136 = .ok (.invokestatic 70, 3) := by decide +kernel
theorem dX0_copy_139 : decode cX0_copy 139 = .ok (.aload_n 1, 1) := by decide +kernel
theorem dX0_copy_140 : decode cX0_copy 140 = .ok (.getfield 39, 3) := by decide +kernel
theorem dX0_copy_143 : decode cX0_copy 143 = .ok (.aload_n 0, 1) := by decide +kernel
theorem dX0_copy_144 : decode cX0_copy 144 = .ok (.getfield 39, 3) := by decide +kernel
theorem dX0_copy_147 : decode cX0_copy 147 = .ok (.invokestatic 70, 3) := by decide +kernel
theorem dX0_copy_150 : decode cX0_copy 150 = .ok (.aload_n 1, 1) := by decide +kernel
theorem dX0_copy_151 : decode cX0_copy 151 = .ok (.getfield 42, 3) := by decide +kernel
theorem dX0_copy_154 : decode cX0_copy 154 = .ok (.aload_n 0, 1) := by decide +kernel
theorem dX0_copy_155 : decode cX0_copy 155 = .ok (.getfield 42, 3) := by decide +kernel
theorem dX0_copy_158 : decode cX0_copy 158 = .ok (.invokestatic 70, 3) := by decide +kernel
theorem dX0_copy_161 : decode cX0_copy 161 = .ok (.aload_n 1, 1) := by decide +kernel
theorem dX0_copy_162 : decode cX0_copy 162 = .ok (.getfield 45, 3) := by decide +kernel
theorem dX0_copy_165 : decode cX0_copy 165 = .ok (.aload_n 0, 1) := by decide +kernel
theorem dX0_copy_166 : decode cX0_copy 166 = .ok (.getfield 45, 3) := by decide +kernel
theorem dX0_copy_169 : decode cX0_copy 169 = .ok (.invokestatic 70, 3) := by decide +kernel
theorem dX0_copy_172 : decode cX0_copy 172 = .ok (.return_, 1) := by decide +kernel
theorem dX1_init_0 : decode cX1_init 0 = .ok (.aload_n 0, 1) := by decide +kernel
theorem dX1_init_1 : decode cX1_init 1 = .ok (.invokespecial 1, 3) := by decide +kernel
theorem dX1_init_4 : decode cX1_init 4 = .ok (.aload_n 0, 1) := by decide +kernel
theorem dX1_init_5 : decode cX1_init 5 = .ok (.new 7, 3) := by decide +kernel
theorem dX1_init_8 : decode cX1_init 8 = .ok (.dup, 1) := by decide +kernel
theorem dX1_init_9 : decode cX1_init 9 = .ok (.invokespecial 9, 3) := by decide +kernel
theorem dX1_init_12 : decode cX1_init 12 = .ok (.putfield 10, 3) := by decide +kernel
theorem dX1_init_15 : decode cX1_init 15 = .ok (.aload_n 0, 1) := by decide +kernel
theorem dX1_init_16 : decode cX1_init 16 = .ok (.new 16, 3) := by decide +kernel
theorem dX1_init_19 : decode cX1_init 19 = .ok (.dup, 1) := by decide +kernel
theorem dX1_init_20 : decode cX1_init 20 = .ok (.invokespecial 18, 3) := by decide +kernel
theorem dX1_init_23 : decode cX1_init 23 = .ok (.putfield 19, 3) := by decide +kernel
theorem dX1_init_26 : decode cX1_init 26 = .ok (.aload_n 0, 1) := by decide +kernel
theorem dX1_init_27 : decode cX1_init 27 = .ok (.new 23, 3) := by decide +kernel
theorem dX1_init_30 : decode cX1_init 30 = .ok (.dup, 1) := by decide +kernel
theorem dX1_init_31 : decode cX1_init 31 = .ok (.invokespecial 25, 3) := by decide +kernel
theorem dX1_init_34 : decode cX1_init 34 = .ok (.putfield 26, 3) := by decide +kernel
theorem dX1_init_37 : decode cX1_init 37 = .ok (.return_, 1) := by decide +kernel
theorem dX1_take_0 : decode cX1_take 0 = .ok (.aload_n 0, 1) := by decide +kernel
theorem dX1_take_1 : decode cX1_take 1 = .ok (.iconst 1, 1) := by decide +kernel
theorem dX1_take_2 : decode cX1_take 2 = .ok (.putfield 30, 3) := by decide +kernel
theorem dX1_take_5 : decode cX1_take 5 = .ok (.aload_n 0, 1) := by decide +kernel
theorem dX1_take_6 : decode cX1_take 6 = .ok (.getfield 10, 3) := by decide +kernel
theorem dX1_take_9 : decode cX1_take 9 = .ok (.aload_n 1, 1) := by decide +kernel
theorem dX1_take_10 : decode cX1_take 10 = .ok (.getfield 34, 3) := by decide +kernel
theorem dX1_take_13 : decode cX1_take 13 = .ok (.invokevirtual 37, 3) := by decide +kernel
theorem dX1_take_16 : decode cX1_take 16 = .ok (.aload_n 0, 1) := by decide +kernel
theorem dX1_take_17 : decode cX1_take 17 = .ok (.getfield 19, 3) := by decide +kernel
theorem dX1_take_20 : decode cX1_take 20 = .ok (.aload_n 1, 1) := by decide +kernel
theorem dX1_take_21 : decode cX1_take 21 = .ok (.getfield 41, 3) := by decide +kernel
theorem dX1_take_24 : decode cX1_take 24 = .ok (.invokevirtual 42, 3) := by decide +kernel
theorem dX1_take_27 : decode cX1_take 27 = .ok (.aload_n 0, 1) := by decide +kernel
theorem dX1_take_28 : decode cX1_take 28 = .ok (.getfield 26, 3) := by decide +kernel
theorem dX1_take_31 : decode cX1_take 31 = .ok (.aload_n 1, 1) := by decide +kernel
theorem dX1_take_32 : decode cX1_take 32 = .ok (.getfield 45, 3) := by decide +kernel
theorem dX1_take_35 : decode cX1_take 35 = .ok (.invokevirtual 46, 3) := by decide +kernel
theorem dX1_take_38 : decode cX1_take 38 = .ok (.return_, 1) := by decide +kernel
theorem dX2_init_0 : decode cX2_init 0 = .ok (.aload_n 0, 1) := by decide +kernel
theorem dX2_init_1 : decode cX2_init 1 = .ok (.invokespecial 3, 3) := by decide +kernel
theorem dX2_init_4 : decode cX2_init 4 = .ok (.aload_n 0, 1) := by decide +kernel
theorem dX2_init_5 : decode cX2_init 5 = .ok (.bipush 6, 2) := by decide +kernel
theorem dX2_init_7 : decode cX2_init 7 = .ok (.newarray .int, 2) := by decide +kernel
theorem dX2_init_9 : decode cX2_init 9 = .ok (.putfield 9, 3) := by decide +kernel
theorem dX2_init_12 : decode cX2_init 12 = .ok (.aload_n 0, 1) := by decide +kernel
theorem dX2_init_13 : decode cX2_init 13 = .ok (.bipush 9, 2) := by decide +kernel
theorem dX2_init_15 : decode cX2_init 15 = .ok (.newarray .int, 2) := by decide +kernel
theorem dX2_init_17 : decode cX2_init 17 = .ok (.putfield 15, 3) := by decide +kernel
theorem dX2_init_20 : decode cX2_init 20 = .ok (.aload_n 0, 1) := by decide +kernel
theorem dX2_init_21 : decode cX2_init 21 = .ok (.iconst 4, 1) := by decide +kernel
theorem dX2_init_22 : decode cX2_init 22 = .ok (.newarray .int, 2) := by decide +kernel
theorem dX2_init_24 : decode cX2_init 24 = .ok (.putfield 18, 3) := by decide +kernel
theorem dX2_init_27 : decode cX2_init 27 = .ok (.aload_n 0, 1) := by decide +kernel
theorem dX2_init_28 : decode cX2_init 28 = .ok (.bipush 12, 2) := by decide +kernel
theorem dX2_init_30 : decode cX2_init 30 = .ok (.newarray .int, 2) := by decide +kernel
theorem dX2_init_32 : decode cX2_init 32 = .ok (.putfield 21, 3) := by decide +kernel
theorem dX2_init_35 : decode cX2_init 35 = .ok (.aload_n 0, 1) := by decide +kernel
theorem dX2_init_36 : decode cX2_init 36 = .ok (.bipush 12, 2) := by decide +kernel
theorem dX2_init_38 : decode cX2_init 38 = .ok (.newarray .int, 2) := by decide +kernel
theorem dX2_init_40 : decode cX2_init 40 = .ok (.putfield 24, 3) := by decide +kernel
theorem dX2_init_43 : decode cX2_init 43 = .ok (.aload_n 0, 1) := by decide +kernel
theorem dX2_init_44 : decode cX2_init 44 = .ok (.bipush 12, 2) := by decide +kernel
theorem dX2_init_46 : decode cX2_init 46 = .ok (.newarray .int, 2) := by decide +kernel
theorem dX2_init_48 : decode cX2_init 48 = .ok (.putfield 27, 3) := by decide +kernel
theorem dX2_init_51 : decode cX2_init 51 = .ok (.aload_n 0, 1) := by decide +kernel
theorem dX2_init_52 : decode cX2_init 52 = .ok (.bipush 12, 2) := by decide +kernel
theorem dX2_init_54 : decode cX2_init 54 = .ok (.newarray .int, 2) := by decide +kernel
theorem dX2_init_56 : decode cX2_init 56 = .ok (.putfield 30, 3) := by decide +kernel
theorem dX2_init_59 : decode cX2_init 59 = .ok (.return_, 1) := by decide +kernel
theorem dX2_clear_0 : decode cX2_clear 0 = .ok (.aload_n 0, 1) := by decide +kernel
theorem dX2_clear_1 : decode cX2_clear 1 = .ok (.iconst 0, 1) := by decide +kernel
theorem dX2_clear_2 : decode cX2_clear 2 = .ok (.putfield 33, 3) := by decide +kernel
theorem dX2_clear_5 : decode cX2_clear 5 = .ok (.aload_n 0, 1) := by decide +kernel
theorem dX2_clear_6 : decode cX2_clear 6 = .ok (.iconst 0, 1) := by decide +kernel
theorem dX2_clear_7 : decode cX2_clear 7 = .ok (.putfield 37, 3) := by decide +kernel
theorem dX2_clear_10 : decode cX2_clear 10 = .ok (.aload_n 0, 1) := by decide +kernel
theorem dX2_clear_11 : decode cX2_clear 11 = .ok (.iconst 0, 1) := by decide +kernel
theorem dX2_clear_12 : decode cX2_clear 12 = .ok (.putfield 40, 3) := by decide +kernel
theorem dX2_clear_15 : decode cX2_clear 15 = .ok (.aload_n 0, 1) := by decide +kernel
theorem dX2_clear_16 : decode cX2_clear 16 = .ok (.iconst 0, 1) := by decide +kernel
theorem dX2_clear_17 : decode cX2_clear 17 = .ok (.putfield 43, 3) := by decide +kernel
theorem dX2_clear_20 : decode cX2_clear 20 = .ok (.aload_n 0, 1) := by decide +kernel
theorem dX2_clear_21 : decode cX2_clear 21 = .ok (.iconst 0, 1) := by decide +kernel
theorem dX2_clear_22 : decode cX2_clear 22 = .ok (.putfield 46, 3) := by decide +kernel
theorem dX2_clear_25 : decode cX2_clear 25 = .ok (.aload_n 0, 1) := by decide +kernel
theorem dX2_clear_26 : decode cX2_clear 26 = .ok (.getfield 15, 3) := by decide +kernel
theorem dX2_clear_29 : decode cX2_clear 29 = .ok (.bipush 9, 2) := by decide +kernel
theorem dX2_clear_31 : decode cX2_clear 31 = .ok (.invokestatic 49, 3) := by decide +kernel
theorem dX2_clear_34 : decode cX2_clear 34 = .ok (.return_, 1) := by decide +kernel
theorem dX2_copy_0 : decode cX2_copy 0 = .ok (.aload_n 0, 1) := by decide +kernel
theorem dX2_copy_1 : decode cX2_copy 1 = .ok (.aload_n 1, 1) := by decide +kernel
theorem dX2_copy_2 : decode cX2_copy 2 = .ok (.getfield 33, 3) := by decide +kernel
theorem dX2_copy_5 : decode cX2_copy 5 = .ok (.putfield 33, 3) := by decide +kernel
theorem dX2_copy_8 : decode cX2_copy 8 = .ok (.aload_n 0, 1) := by decide +kernel
theorem dX2_copy_9 : decode cX2_copy 9 = .ok (.aload_n 1, 1) := by decide +kernel
theorem dX2_copy_10 : decode cX2_copy 10 = .ok (.getfield 37, 3) := by decide +kernel
theorem dX2_copy_13 : decode cX2_copy 13 = .ok (.putfield 37, 3) := by decide +kernel
theorem dX2_copy_16 : decode cX2_copy 16 = .ok (.aload_n 0, 1) := by decide +kernel
theorem dX2_copy_17 : decode cX2_copy 17 = .ok (.aload_n 1, 1) := by decide +kernel
theorem dX2_copy_18 : decode cX2_copy 18 = .ok (.getfield 40, 3) := by decide +kernel
theorem dX2_copy_21 : decode cX2_copy 21 = .ok (.putfield 40, 3) := by decide +kernel
theorem dX2_copy_24 : decode cX2_copy 24 = .ok (.aload_n 0, 1) := by decide +kernel
theorem dX2_copy_25 : decode cX2_copy 25 = .ok (.aload_n 1, 1) := by decide +kernel
theorem dX2_copy_26 : decode cX2_copy 26 = .ok (.getfield 43, 3) := by decide +kernel
theorem dX2_copy_29 : decode cX2_copy 29 = .ok (.putfield 43, 3) := by decide +kernel
theorem dX2_copy_32 : decode cX2_copy 32 = .ok (.aload_n 0, 1) := by decide +kernel
theorem dX2_copy_33 : decode cX2_copy 33 = .ok (.aload_n 1, 1) := by decide +kernel
theorem dX2_copy_34 : decode cX2_copy 34 = .ok (.getfield 46, 3) := by decide +kernel
theorem dX2_copy_37 : decode cX2_copy 37 = .ok (.putfield 46, 3) := by decide +kernel
theorem dX2_copy_40 : decode cX2_copy 40 = .ok (.aload_n 1, 1) := by decide +kernel
theorem dX2_copy_41 : decode cX2_copy 41 = .ok (.getfield 9, 3) := by decide +kernel
theorem dX2_copy_44 : decode cX2_copy 44 = .ok (.aload_n 0, 1) := by decide +kernel
theorem dX2_copy_45 : decode cX2_copy 45 = .ok (.getfield 9, 3) := by decide +kernel
theorem dX2_copy_48 : decode cX2_copy 48 = .ok (.invokestatic 55, 3) := by decide +kernel
theorem dX2_copy_51 : decode cX2_copy 51 = .ok (.aload_n 1, 1) := by decide +kernel
theorem dX2_copy_52 : decode cX2_copy 52 = .ok (.getfield 15, 3) := by decide +kernel
theorem dX2_copy_55 : decode cX2_copy 55 = .ok (.aload_n 0, 1) := by decide +kernel
theorem dX2_copy_56 : decode cX2_copy 56 = .ok (.getfield 15, 3) := by decide +kernel
theorem dX2_copy_59 : decode cX2_copy 59 = .ok (.invokestatic 55, 3) := by decide +kernel
theorem dX2_copy_62 : decode cX2_copy 62 = .ok (.aload_n 1, 1) := by decide +kernel
theorem dX2_copy_63 : decode cX2_copy 63 = .ok (.getfield 18, 3) := by decide +kernel
theorem dX2_copy_66 : decode cX2_copy 66 = .ok (.aload_n 0, 1) := by decide +kernel
theorem dX2_copy_67 : decode cX2_copy 67 = .ok (.getfield 18, 3) := by decide +kernel
theorem dX2_copy_70 : decode cX2_copy 70 = .ok (.invokestatic 55, 3) := by decide +kernel
theorem dX2_copy_73 : decode cX2_copy 73 = .ok (.aload_n 1, 1) := by decide +kernel
theorem dX2_copy_74 : decode cX2_copy 74 = .ok (.getfield 21, 3) := by decide +kernel
theorem dX2_copy_77 : decode cX2_copy 77 = .ok (.aload_n 0, 1) := by decide +kernel
theorem dX2_copy_78 : decode cX2_copy 78 = .ok (.getfield 21, 3) := by decide +kernel
theorem dX2_copy_81 : decode cX2_copy 81 = .ok (.invokestatic 55, 3) := by decide +kernel
theorem dX2_copy_84 : decode cX2_copy 84 = .ok (.aload_n 1, 1) := by decide +kernel
theorem dX2_copy_85 : decode cX2_copy 85 = .ok (.getfield 24, 3) := by decide +kernel
theorem dX2_copy_88 : decode cX2_copy 88 = .ok (.aload_n 0, 1) := by decide +kernel
theorem dX2_copy_89 : decode cX2_copy 89 = .ok (.getfield 24, 3) := by decide +kernel
theorem dX2_copy_92 : decode cX2_copy 92 = .ok (.invokestatic 55, 3) := by decide +kernel
theorem dX2_copy_95 : decode cX2_copy 95 = .ok (.aload_n 1, 1) := by decide +kernel
theorem dX2_copy_96 : decode cX2_copy 96 = .ok (.getfield 27, 3) := by decide +kernel
theorem dX2_copy_99 : decode cX2_copy 99 = .ok (.aload_n 0, 1) := by decide +kernel
theorem dX2_copy_100 : decode cX2_copy 100 = .ok (.getfield 27, 3) := by decide +kernel
theorem dX2_copy_103 : decode cX2_copy 103 = .ok (.invokestatic 55, 3) := by decide +kernel
theorem dX2_copy_106 : decode cX2_copy 106 = .ok (.aload_n 1, 1) := by decide +kernel
theorem dX2_copy_107 : decode cX2_copy 107 = .ok (.getfield 30, 3) := by decide +kernel
theorem dX2_copy_110 : decode cX2_copy 110 = .ok (.aload_n 0, 1) := by decide +kernel
theorem dX2_copy_111 : decode cX2_copy 111 = .ok (.getfield 30, 3) := by decide +kernel
theorem dX2_copy_114 : decode cX2_copy 114 = .ok (.invokestatic 55, 3) := by decide +kernel
theorem dX2_copy_117 : decode cX2_copy 117 = .ok (.return_, 1) := by decide +kernel
theorem dX3_init_0 : decode cX3_init 0 = .ok (.aload_n 0, 1) := by decide +kernel
theorem dX3_init_1 : decode cX3_init 1 = .ok (.invokespecial 3, 3) := by decide +kernel
theorem dX3_init_4 : decode cX3_init 4 = .ok (.aload_n 0, 1) := by decide +kernel
theorem dX3_init_5 : decode cX3_init 5 = .ok (.new 9, 3) := by decide +kernel
theorem dX3_init_8 : decode cX3_init 8 = .ok (.dup, 1) := by decide +kernel
theorem dX3_init_9 : decode cX3_init 9 = .ok (.invokespecial 11, 3) := by decide +kernel
theorem dX3_init_12 : decode cX3_init 12 = .ok (.putfield 12, 3) := by decide +kernel
theorem dX3_init_15 : decode cX3_init 15 = .ok (.aload_n 0, 1) := by decide +kernel
theorem dX3_init_16 : decode cX3_init 16 = .ok (.aload_n 1, 1) := by decide +kernel
theorem dX3_init_17 : decode cX3_init 17 = .ok (.putfield 18, 3) := by decide +kernel
theorem dX3_init_20 : decode cX3_init 20 = .ok (.return_, 1) := by decide +kernel
theorem dX3_reads_0 : decode cX3_reads 0 = .ok (.aload_n 0, 1) := by decide +kernel
theorem dX3_reads_1 : decode cX3_reads 1 = .ok (.getfield 12, 3) := by decide +kernel
theorem dX3_reads_4 : decode cX3_reads 4 = .ok (.invokevirtual 22, 3) := by decide +kernel
theorem dX3_reads_7 : decode cX3_reads 7 = .ok (.aload_n 0, 1) := by decide +kernel
theorem dX3_reads_8 : decode cX3_reads 8 = .ok (.iconst 0, 1) := by decide +kernel
theorem dX3_reads_9 : decode cX3_reads 9 = .ok (.putfield 25, 3) := by decide +kernel
theorem dX3_reads_12 : decode cX3_reads 12 = .ok (.aload_n 0, 1) := by decide +kernel
theorem dX3_reads_13 : decode cX3_reads 13 = .ok (.getfield 18, 3) := by decide +kernel
theorem dX3_reads_16 : decode cX3_reads 16 = .ok (.invokevirtual 29, 3) := by decide +kernel
theorem dX3_reads_19 : decode cX3_reads 19 = .ok (.iconst 0, 1) := by decide +kernel
theorem dX3_reads_20 : decode cX3_reads 20 = .ok (.istore_n 1, 1) := by decide +kernel
theorem dX3_reads_21 : decode cX3_reads 21 = .ok (.iload_n 1, 1) := by decide +kernel
theorem dX3_reads_22 : decode cX3_reads 22 = .ok (.bipush 40, 2) := by decide +kernel
theorem dX3_reads_24 : decode cX3_reads 24 = .ok (.if_icmp .gt 115, 3) := by decide +kernel
theorem dX3_reads_27 : decode cX3_reads 27 = .ok (.aload_n 0, 1) := by decide +kernel
theorem dX3_reads_28 : decode cX3_reads 28 = .ok (.getfield 18, 3) := by decide +kernel
theorem dX3_reads_31 : decode cX3_reads 31 = .ok (.ldc 34, 2) := by decide +kernel
theorem dX3_reads_33 : decode cX3_reads 33 = .ok (.invokevirtual 36, 3) := by decide +kernel
theorem dX3_reads_36 : decode cX3_reads 36 = .ok (.istore_n 2, 1) := by decide +kernel
theorem dX3_reads_37 : decode cX3_reads 37 = .ok (.iload_n 2, 1) := by decide +kernel
theorem dX3_reads_38 : decode cX3_reads 38 = .ok (.iconst (-1), 1) := by decide +kernel
theorem dX3_reads_39 : decode cX3_reads 39 = .ok (.if_icmp .ne 12, 3) := by decide +kernel
theorem dX3_reads_42 : decode cX3_reads 42 = .ok (.aload_n 0, 1) := by decide +kernel
theorem dX3_reads_43 : decode cX3_reads 43 = .ok (.getfield 18, 3) := by decide +kernel
theorem dX3_reads_46 : decode cX3_reads 46 = .ok (.iconst 0, 1) := by decide +kernel
theorem dX3_reads_47 : decode cX3_reads 47 = .ok (.invokevirtual 40, 3) := by decide +kernel
theorem dX3_reads_50 : decode cX3_reads 50 = .ok (.ireturn, 1) := by decide +kernel
theorem dX4_init_0 : decode cX4_init 0 = .ok (.aload_n 0, 1) := by decide +kernel
theorem dX4_init_1 : decode cX4_init 1 = .ok (.invokespecial 3, 3) := by decide +kernel
theorem dX4_init_4 : decode cX4_init 4 = .ok (.aload_n 0, 1) := by decide +kernel
theorem dX4_init_5 : decode cX4_init 5 = .ok (.sipush 400, 3) := by decide +kernel
theorem dX4_init_8 : decode cX4_init 8 = .ok (.newarray .int, 2) := by decide +kernel
theorem dX4_init_10 : decode cX4_init 10 = .ok (.putfield 9, 3) := by decide +kernel
theorem dX4_init_13 : decode cX4_init 13 = .ok (.aload_n 0, 1) := by decide +kernel
theorem dX4_init_14 : decode cX4_init 14 = .ok (.bipush 60, 2) := by decide +kernel
theorem dX4_init_16 : decode cX4_init 16 = .ok (.newarray .long, 2) := by decide +kernel
theorem dX4_init_18 : decode cX4_init 18 = .ok (.putfield 15, 3) := by decide +kernel
theorem dX4_init_21 : decode cX4_init 21 = .ok (.return_, 1) := by decide +kernel
theorem dX4_clear_0 : decode cX4_clear 0 = .ok (.aload_n 0, 1) := by decide +kernel
theorem dX4_clear_1 : decode cX4_clear 1 = .ok (.iconst 0, 1) := by decide +kernel
theorem dX4_clear_2 : decode cX4_clear 2 = .ok (.putfield 19, 3) := by decide +kernel
theorem dX4_clear_5 : decode cX4_clear 5 = .ok (.aload_n 0, 1) := by decide +kernel
theorem dX4_clear_6 : decode cX4_clear 6 = .ok (.iconst 0, 1) := by decide +kernel
theorem dX4_clear_7 : decode cX4_clear 7 = .ok (.putfield 23, 3) := by decide +kernel
theorem dX4_clear_10 : decode cX4_clear 10 = .ok (.aload_n 0, 1) := by decide +kernel
theorem dX4_clear_11 : decode cX4_clear 11 = .ok (.iconst 0, 1) := by decide +kernel
theorem dX4_clear_12 : decode cX4_clear 12 = .ok (.putfield 26, 3) := by decide +kernel
theorem dX4_clear_15 : decode cX4_clear 15 = .ok (.return_, 1) := by decide +kernel
theorem dX5_init_0 : decode cX5_init 0 = .ok (.aload_n 0, 1) := by decide +kernel
theorem dX5_init_1 : decode cX5_init 1 = .ok (.invokespecial 3, 3) := by decide +kernel
theorem dX5_init_4 : decode cX5_init 4 = .ok (.aload_n 0, 1) := by decide +kernel
theorem dX5_init_5 : decode cX5_init 5 = .ok (.aload_n 1, 1) := by decide +kernel
theorem dX5_init_6 : decode cX5_init 6 = .ok (.putfield 9, 3) := by decide +kernel
theorem dX5_init_9 : decode cX5_init 9 = .ok (.return_, 1) := by decide +kernel
theorem dX5_reads_0 : decode cX5_reads 0 = .ok (.aload_n 1, 1) := by decide +kernel
theorem dX5_reads_1 : decode cX5_reads 1 = .ok (.invokevirtual 15, 3) := by decide +kernel
theorem dX5_reads_4 : decode cX5_reads 4 = .ok (.aload_n 0, 1) := by decide +kernel
theorem dX5_reads_5 : decode cX5_reads 5 = .ok (.iconst 0, 1) := by decide +kernel
theorem dX5_reads_6 : decode cX5_reads 6 = .ok (.putfield 20, 3) := by decide +kernel
theorem dX5_reads_9 : decode cX5_reads 9 = .ok (.aload_n 0, 1) := by decide +kernel
theorem dX5_reads_10 : decode cX5_reads 10 = .ok (.getfield 9, 3) := by decide +kernel
theorem dX5_reads_13 : decode cX5_reads 13 = .ok (.invokevirtual 24, 3) := by decide +kernel
theorem dX5_reads_16 : decode cX5_reads 16 = .ok (.iconst 0, 1) := by decide +kernel
theorem dX5_reads_17 : decode cX5_reads 17 = .ok (.istore_n 2, 1) := by decide +kernel
theorem dX5_reads_18 : decode cX5_reads 18 = .ok (.iload_n 2, 1) := by decide +kernel
theorem dX5_reads_19 : decode cX5_reads 19 = .ok (.bipush 12, 2) := by decide +kernel
theorem dX5_reads_21 : decode cX5_reads 21 = .ok (.if_icmp .gt 207, 3) := by decide +kernel
theorem dX5_reads_24 : decode cX5_reads 24 = .ok (.aload_n 0, 1) := by decide +kernel
theorem dX5_reads_25 : decode cX5_reads 25 = .ok (.getfield 9, 3) := by decide +kernel
theorem dX5_reads_28 : decode cX5_reads 28 = .ok (.ldc 29, 2) := by decide +kernel
theorem dX5_reads_30 : decode cX5_reads 30 = .ok (.invokevirtual 31, 3) := by decide +kernel
theorem dX5_reads_33 : decode cX5_reads 33 = .ok (.istore_n 3, 1) := by decide +kernel
theorem dX5_reads_34 : decode cX5_reads 34 = .ok (.iload_n 3, 1) := by decide +kernel
theorem dX5_reads_35 : decode cX5_reads 35 = .ok (.iconst (-1), 1) := by decide +kernel
theorem dX5_reads_36 : decode cX5_reads 36 = .ok (.if_icmp .ne 12, 3) := by decide +kernel
theorem dX5_reads_39 : decode cX5_reads 39 = .ok (.aload_n 0, 1) := by decide +kernel
theorem dX5_reads_40 : decode cX5_reads 40 = .ok (.getfield 9, 3) := by decide +kernel
theorem dX5_reads_43 : decode cX5_reads 43 = .ok (.iconst 0, 1) := by decide +kernel
theorem dX5_reads_44 : decode cX5_reads 44 = .ok (.invokevirtual 35, 3) := by decide +kernel
theorem dX5_reads_47 : decode cX5_reads 47 = .ok (.ireturn, 1) := by decide +kernel
theorem dX6_init_0 : decode cX6_init 0 = .ok (.aload_n 0, 1) := by decide +kernel
theorem dX6_init_1 : decode cX6_init 1 = .ok (.invokespecial 3, 3) := by decide +kernel
theorem dX6_init_4 : decode cX6_init 4 = .ok (.aload_n 0, 1) := by decide +kernel
theorem dX6_init_5 : decode cX6_init 5 = .ok (.iconst (-1), 1) := by decide +kernel
theorem dX6_init_6 : decode cX6_init 6 = .ok (.putfield 9, 3) := by decide +kernel
theorem dX6_init_9 : decode cX6_init 9 = .ok (.aload_n 0, 1) := by decide +kernel
theorem dX6_init_10 : decode cX6_init 10 = .ok (.bipush 6, 2) := by decide +kernel
theorem dX6_init_12 : decode cX6_init 12 = .ok (.newarray .int, 2) := by decide +kernel
theorem dX6_init_14 : decode cX6_init 14 = .ok (.putfield 15, 3) := by decide +kernel
theorem dX6_init_17 : decode cX6_init 17 = .ok (.aload_n 0, 1) := by decide +kernel
theorem dX6_init_18 : decode cX6_init 18 = .ok (.bipush 9, 2) := by decide +kernel
theorem dX6_init_20 : decode cX6_init 20 = .ok (.newarray .int, 2) := by decide +kernel
theorem dX6_init_22 : decode cX6_init 22 = .ok (.putfield 19, 3) := by decide +kernel
theorem dX6_init_25 : decode cX6_init 25 = .ok (.aload_n 0, 1) := by decide +kernel
theorem dX6_init_26 : decode cX6_init 26 = .ok (.bipush 12, 2) := by decide +kernel
theorem dX6_init_28 : decode cX6_init 28 = .ok (.newarray .int, 2) := by decide +kernel
theorem dX6_init_30 : decode cX6_init 30 = .ok (.putfield 22, 3) := by decide +kernel
theorem dX6_init_33 : decode cX6_init 33 = .ok (.aload_n 0, 1) := by decide +kernel
theorem dX6_init_34 : decode cX6_init 34 = .ok (.bipush 12, 2) := by decide +kernel
theorem dX6_init_36 : decode cX6_init 36 = .ok (.newarray .int, 2) := by decide +kernel
theorem dX6_init_38 : decode cX6_init 38 = .ok (.putfield 25, 3) := by decide +kernel
theorem dX6_init_41 : decode cX6_init 41 = .ok (.aload_n 0, 1) := by decide +kernel
theorem dX6_init_42 : decode cX6_init 42 = .ok (.bipush 12, 2) := by decide +kernel
theorem dX6_init_44 : decode cX6_init 44 = .ok (.newarray .int, 2) := by decide +kernel
theorem dX6_init_46 : decode cX6_init 46 = .ok (.putfield 28, 3) := by decide +kernel
theorem dX6_init_49 : decode cX6_init 49 = .ok (.aload_n 0, 1) := by decide +kernel
theorem dX6_init_50 : decode cX6_init 50 = .ok (.bipush 12, 2) := by decide +kernel
theorem dX6_init_52 : decode cX6_init 52 = .ok (.newarray .int, 2) := by decide +kernel
theorem dX6_init_54 : decode cX6_init 54 = .ok (.putfield 31, 3) := by decide +kernel
theorem dX6_init_57 : decode cX6_init 57 = .ok (.aload_n 0, 1) := by decide +kernel
theorem dX6_init_58 : decode cX6_init 58 = .ok (.bipush 12, 2) := by decide +kernel
theorem dX6_init_60 : decode cX6_init 60 = .ok (.newarray .int, 2) := by decide +kernel
theorem dX6_init_62 : decode cX6_init 62 = .ok (.putfield 34, 3) := by decide +kernel
theorem dX6_init_65 : decode cX6_init 65 = .ok (.aload_n 0, 1) := by decide +kernel
theorem dX6_init_66 : decode cX6_init 66 = .ok (.bipush 12, 2) := by decide +kernel
theorem dX6_init_68 : decode cX6_init 68 = .ok (.newarray .int, 2) := by decide +kernel
theorem dX6_init_70 : decode cX6_init 70 = .ok (.putfield 37, 3) := by decide +kernel
theorem dX6_init_73 : decode cX6_init 73 = .ok (.aload_n 0, 1) := by decide +kernel
theorem dX6_init_74 : decode cX6_init 74 = .ok (.bipush 72, 2) := by decide +kernel
theorem dX6_init_76 : decode cX6_init 76 = .ok (.newarray .int, 2) := by decide +kernel
theorem dX6_init_78 : decode cX6_init 78 = .ok (.putfield 40, 3) := by decide +kernel
theorem dX6_init_81 : decode cX6_init 81 = .ok (.return_, 1) := by decide +kernel
theorem dX6_copy_0 : decode cX6_copy 0 = .ok (.aload_n 0, 1) := by decide +kernel
theorem dX6_copy_1 : decode cX6_copy 1 = .ok (.aload_n 1, 1) := by decide +kernel
theorem dX6_copy_2 : decode cX6_copy 2 = .ok (.getfield 43, 3) := by decide +kernel
theorem dX6_copy_5 : decode cX6_copy 5 = .ok (.putfield 43, 3) := by decide +kernel
theorem dX6_copy_8 : decode cX6_copy 8 = .ok (.aload_n 0, 1) := by decide +kernel
theorem dX6_copy_9 : decode cX6_copy 9 = .ok (.aload_n 1, 1) := by decide +kernel
theorem dX6_copy_10 : decode cX6_copy 10 = .ok (.getfield 46, 3) := by decide +kernel
theorem dX6_copy_13 : decode cX6_copy 13 = .ok (.putfield 46, 3) := by decide +kernel
theorem dX6_copy_16 : decode cX6_copy 16 = .ok (.aload_n 0, 1) := by decide +kernel
theorem dX6_copy_17 : decode cX6_copy 17 = .ok (.aload_n 1, 1) := by decide +kernel
theorem dX6_copy_18 : decode cX6_copy 18 = .ok (.getfield 9, 3) := by decide +kernel
theorem dX6_copy_21 : decode cX6_copy 21 = .ok (.putfield 9, 3) := by decide +kernel
theorem dX6_copy_24 : decode cX6_copy 24 = .ok (.aload_n 0, 1) := by decide +kernel
theorem dX6_copy_25 : decode cX6_copy 25 = .ok (.aload_n 1, 1) := by decide +kernel
theorem dX6_copy_26 : decode cX6_copy 26 = .ok (.getfield 49, 3) := by decide +kernel
theorem dX6_copy_29 : decode cX6_copy 29 = .ok (.putfield 49, 3) := by decide +kernel
theorem dX6_copy_32 : decode cX6_copy 32 = .ok (.aload_n 0, 1) := by decide +kernel
theorem dX6_copy_33 : decode cX6_copy 33 = .ok (.aload_n 1, 1) := by decide +kernel
theorem dX6_copy_34 : decode cX6_copy 34 = .ok (.getfield 52, 3) := by decide +kernel
theorem dX6_copy_37 : decode cX6_copy 37 = .ok (.putfield 52, 3) := by decide +kernel
theorem dX6_copy_40 : decode cX6_copy 40 = .ok (.aload_n 0, 1) := by decide +kernel
theorem dX6_copy_41 : decode cX6_copy 41 = .ok (.aload_n 1, 1) := by decide +kernel
theorem dX6_copy_42 : decode cX6_copy 42 = .ok (.getfield 60, 3) := by decide +kernel
theorem dX6_copy_45 : decode cX6_copy 45 = .ok (.putfield 60, 3) := by decide +kernel
theorem dX6_copy_48 : decode cX6_copy 48 = .ok (.aload_n 1, 1) := by decide +kernel
theorem dX6_copy_49 : decode cX6_copy 49 = .ok (.getfield 15, 3) := by decide +kernel
theorem dX6_copy_52 : decode cX6_copy 52 = .ok (.aload_n 0, 1) := by decide +kernel
theorem dX6_copy_53 : decode cX6_copy 53 = .ok (.getfield 15, 3) := by decide +kernel
theorem dX6_copy_56 : decode cX6_copy 56 = .ok (.invokestatic 70, 3) := by decide +kernel
theorem dX6_copy_59 : decode cX6_copy 59 = .ok (.aload_n 1, 1) := by decide +kernel
theorem dX6_copy_60 : decode cX6_copy 60 = .ok (.getfield 19, 3) := by decide +kernel
theorem dX6_copy_63 : decode cX6_copy 63 = .ok (.aload_n 0, 1) := by decide +kernel
theorem dX6_copy_64 : decode cX6_copy 64 = .ok (.getfield 19, 3) := by decide +kernel
theorem dX6_copy_67 : decode cX6_copy 67 = .ok (.invokestatic 70, 3) := by decide +kernel
theorem dX6_copy_70 : decode cX6_copy 70 = .ok (.aload_n 1, 1) := by decide +kernel
theorem dX6_copy_71 : decode cX6_copy 71 = .ok (.getfield 22, 3) := by decide +kernel
theorem dX6_copy_74 : decode cX6_copy 74 = .ok (.aload_n 0, 1) := by decide +kernel
theorem dX6_copy_75 : decode cX6_copy 75 = .ok (.getfield 22, 3) := by decide +kernel
theorem dX6_copy_78 : decode cX6_copy 78 = .ok (.invokestatic 70, 3) := by decide +kernel
theorem dX6_copy_81 : decode cX6_copy 81 = .ok (.aload_n 1, 1) := by decide +kernel
theorem dX6_copy_82 : decode cX6_copy 82 = .ok (.getfield 25, 3) := by decide +kernel
theorem dX6_copy_85 : decode cX6_copy 85 = .ok (.aload_n 0, 1) := by decide +kernel
theorem dX6_copy_86 : decode cX6_copy 86 = .ok (.getfield 25, 3) := by decide +kernel
theorem dX6_copy_89 : decode cX6_copy 89 = .ok (.invokestatic 70, 3) := by decide +kernel
theorem dX6_copy_92 : decode cX6_copy 92 = .ok (.aload_n 1, 1) := by decide +kernel
theorem dX6_copy_93 : decode cX6_copy 93 = .ok (.getfield 28, 3) := by decide +kernel
theorem dX6_copy_96 : decode cX6_copy 96 = .ok (.aload_n 0, 1) := by decide +kernel
theorem dX6_copy_97 : decode cX6_copy 97 = .ok (.getfield 28, 3) := by decide +kernel
theorem dX6_copy_100 : decode cX6_copy 100 = .ok (.invokestatic 70, 3) := by decide +kernel
theorem dX6_copy_103 : decode cX6_copy 103 = .ok (.aload_n 1, 1) := by decide +kernel
theorem dX6_copy_104 : decode cX6_copy 104 = .ok (.getfield 31, 3) := by decide +kernel
theorem dX6_copy_107 : decode cX6_copy 107 = .ok (.aload_n 0, 1) := by decide +kernel
theorem dX6_copy_108 : decode cX6_copy 108 = .ok (.getfield 31, 3) := by decide +kernel
theorem dX6_copy_111 : decode cX6_copy 111 = .ok (.invokestatic 70, 3) := by decide +kernel
theorem dX6_copy_114 : decode cX6_copy 114 = .ok (.aload_n 1, 1) := by decide +kernel
theorem dX6_copy_115 : decode cX6_copy 115 = .ok (.getfield 34, 3) := by decide +kernel
theorem dX6_copy_118 : decode cX6_copy 118 = .ok (.aload_n 0, 1) := by decide +kernel
theorem dX6_copy_119 : decode cX6_copy 119 = .ok (.getfield 34, 3) := by decide +kernel
theorem dX6_copy_122 : decode cX6_copy 122 = .ok (.invokestatic 70, 3) := by decide +kernel
theorem dX6_copy_125 : decode cX6_copy 125 = .ok (.aload_n 1, 1) := by decide +kernel
theorem dX6_copy_126 : decode cX6_copy 126 = .ok (.getfield 37, 3) := by decide +kernel
theorem dX6_copy_129 : decode cX6_copy 129 = .ok (.aload_n 0, 1) := by decide +kernel
theorem dX6_copy_130 : decode cX6_copy 130 = .ok (.getfield 37, 3) := by decide +kernel
theorem dX6_copy_133 : decode cX6_copy 133 = .ok (.invokestatic 70, 3) := by decide +kernel
theorem dX6_copy_136 : decode cX6_copy 136 = .ok (.aload_n 1, 1) := by decide +kernel
theorem dX6_copy_137 : decode cX6_copy 137 = .ok (.getfield 40, 3) := by decide +kernel
theorem dX6_copy_140 : decode cX6_copy 140 = .ok (.aload_n 0, 1) := by decide +kernel
theorem dX6_copy_141 : decode cX6_copy 141 = .ok (.getfield 40, 3) := by decide +kernel
theorem dX6_copy_144 : decode cX6_copy 144 = .ok (.invokestatic 70, 3) := by decide +kernel
theorem dX6_copy_147 : decode cX6_copy 147 = .ok (.return_, 1) := by decide +kernel
theorem dX6_logsBetween_0 : decode cX6_logsBetween 0 = .ok (.iconst 0, 1) := by decide +kernel
theorem dX6_logsBetween_1 : decode cX6_logsBetween 1 = .ok (.istore_n 3, 1) := by decide +kernel
theorem dX6_logsBetween_2 : decode cX6_logsBetween 2 = .ok (.iconst 0, 1) := by decide +kernel
theorem dX6_logsBetween_3 : decode cX6_logsBetween 3 = .ok (.istore 4, 2) := by decide +kernel
theorem dX6_logsBetween_5 : decode cX6_logsBetween 5 = .ok (.iload 4, 2) := by decide +kernel
theorem dX6_logsBetween_7 : decode cX6_logsBetween 7 = .ok (.aload_n 0, 1) := by decide +kernel
theorem dX6_logsBetween_8 : decode cX6_logsBetween 8 = .ok (.getfield 60, 3) := by decide +kernel
theorem dX6_logsBetween_11 : decode cX6_logsBetween 11 = .ok (.if_icmp .ge 34, 3) := by decide +kernel
theorem dX6_logsBetween_45 : decode cX6_logsBetween 45 = .ok (.iload_n 3, 1) := by decide +kernel
theorem dX6_logsBetween_46 : decode cX6_logsBetween 46 = .ok (.ireturn, 1) := by decide +kernel
theorem dX6_jamsInAll_0 : decode cX6_jamsInAll 0 = .ok (.iconst 0, 1) := by decide +kernel
theorem dX6_jamsInAll_1 : decode cX6_jamsInAll 1 = .ok (.istore_n 1, 1) := by decide +kernel
theorem dX6_jamsInAll_2 : decode cX6_jamsInAll 2 = .ok (.iconst 0, 1) := by decide +kernel
theorem dX6_jamsInAll_3 : decode cX6_jamsInAll 3 = .ok (.istore_n 2, 1) := by decide +kernel
theorem dX6_jamsInAll_4 : decode cX6_jamsInAll 4 = .ok (.iload_n 2, 1) := by decide +kernel
theorem dX6_jamsInAll_5 : decode cX6_jamsInAll 5 = .ok (.aload_n 0, 1) := by decide +kernel
theorem dX6_jamsInAll_6 : decode cX6_jamsInAll 6 = .ok (.getfield 60, 3) := by decide +kernel
theorem dX6_jamsInAll_9 : decode cX6_jamsInAll 9 = .ok (.if_icmp .ge 18, 3) := by decide +kernel
theorem dX6_jamsInAll_27 : decode cX6_jamsInAll 27 = .ok (.iload_n 1, 1) := by decide +kernel
theorem dX6_jamsInAll_28 : decode cX6_jamsInAll 28 = .ok (.ireturn, 1) := by decide +kernel
theorem dX7_init_0 : decode cX7_init 0 = .ok (.aload_n 0, 1) := by decide +kernel
theorem dX7_init_1 : decode cX7_init 1 = .ok (.invokespecial 3, 3) := by decide +kernel
theorem dX7_init_4 : decode cX7_init 4 = .ok (.aload_n 0, 1) := by decide +kernel
theorem dX7_init_5 : decode cX7_init 5 = .ok (.sipush 400, 3) := by decide +kernel
theorem dX7_init_8 : decode cX7_init 8 = .ok (.newarray .int, 2) := by decide +kernel
theorem dX7_init_10 : decode cX7_init 10 = .ok (.putfield 9, 3) := by decide +kernel
theorem dX7_init_13 : decode cX7_init 13 = .ok (.return_, 1) := by decide +kernel
theorem dX7_append_0 : decode cX7_append 0 = .ok (.bipush 24, 2) := by decide +kernel
theorem dX7_append_2 : decode cX7_append 2 = .ok (.istore_n 2, 1) := by decide +kernel
theorem dX7_append_3 : decode cX7_append 3 = .ok (.iload_n 2, 1) := by decide +kernel
theorem dX7_append_4 : decode cX7_append 4 = .ok (.ifCond .lt 45, 3) := by decide +kernel
theorem dX7_append_7 : decode cX7_append 7 = .ok (.aload_n 0, 1) := by decide +kernel
theorem dX7_append_8 : decode cX7_append 8 = .ok (.getfield 15, 3) := by decide +kernel
theorem dX7_append_11 : decode cX7_append 11 = .ok (.sipush 400, 3) := by decide +kernel
theorem dX7_append_14 : decode cX7_append 14 = .ok (.if_icmp .ge 35, 3) := by decide +kernel
theorem dX7_append_17 : decode cX7_append 17 = .ok (.aload_n 0, 1) := by decide +kernel
theorem dX7_append_18 : decode cX7_append 18 = .ok (.getfield 9, 3) := by decide +kernel
theorem dX7_append_21 : decode cX7_append 21 = .ok (.aload_n 0, 1) := by decide +kernel
theorem dX7_append_22 : decode cX7_append 22 = .ok (.getfield 15, 3) := by decide +kernel
theorem dX7_append_25 : decode cX7_append 25 = .ok (.iload_n 1, 1) := by decide +kernel
theorem dX7_append_26 : decode cX7_append 26 = .ok (.iload_n 2, 1) := by decide +kernel
theorem dX7_append_27 : decode cX7_append 27 = .ok (.iushr, 1) := by decide +kernel
theorem dX7_append_28 : decode cX7_append 28 = .ok (.sipush 255, 3) := by decide +kernel
theorem dX7_append_31 : decode cX7_append 31 = .ok (.iand, 1) := by decide +kernel
theorem dX7_append_32 : decode cX7_append 32 = .ok (.iastore, 1) := by decide +kernel
theorem dX7_append_33 : decode cX7_append 33 = .ok (.aload_n 0, 1) := by decide +kernel
theorem dX7_append_34 : decode cX7_append 34 = .ok (.dup, 1) := by decide +kernel
theorem dX7_append_35 : decode cX7_append 35 = .ok (.getfield 15, 3) := by decide +kernel
theorem dX7_append_38 : decode cX7_append 38 = .ok (.iconst 1, 1) := by decide +kernel
theorem dX7_append_39 : decode cX7_append 39 = .ok (.iadd, 1) := by decide +kernel
theorem dX7_append_40 : decode cX7_append 40 = .ok (.putfield 15, 3) := by decide +kernel
theorem dX7_append_43 : decode cX7_append 43 = .ok (.iinc 2 (-8), 3) := by decide +kernel
theorem dX7_append_46 : decode cX7_append 46 = .ok (.goto (-43), 3) := by decide +kernel
theorem dX7_append_49 : decode cX7_append 49 = .ok (.return_, 1) := by decide +kernel
theorem dX7_rewind_0 : decode cX7_rewind 0 = .ok (.aload_n 0, 1) := by decide +kernel
theorem dX7_rewind_1 : decode cX7_rewind 1 = .ok (.iconst 0, 1) := by decide +kernel
theorem dX7_rewind_2 : decode cX7_rewind 2 = .ok (.putfield 19, 3) := by decide +kernel
theorem dX7_rewind_5 : decode cX7_rewind 5 = .ok (.aload_n 0, 1) := by decide +kernel
theorem dX7_rewind_6 : decode cX7_rewind 6 = .ok (.iconst 0, 1) := by decide +kernel
theorem dX7_rewind_7 : decode cX7_rewind 7 = .ok (.putfield 22, 3) := by decide +kernel
theorem dX7_rewind_10 : decode cX7_rewind 10 = .ok (.aload_n 0, 1) := by decide +kernel
theorem dX7_rewind_11 : decode cX7_rewind 11 = .ok (.invokevirtual 25, 3) := by decide +kernel
theorem dX7_rewind_14 : decode cX7_rewind 14 = .ok (.return_, 1) := by decide +kernel
theorem dX7_pass_0 : decode cX7_pass 0 = .ok (.aload_n 0, 1) := by decide +kernel
theorem dX7_pass_1 : decode cX7_pass 1 = .ok (.aload_n 0, 1) := by decide +kernel
theorem dX7_pass_2 : decode cX7_pass 2 = .ok (.getfield 22, 3) := by decide +kernel
theorem dX7_pass_5 : decode cX7_pass 5 = .ok (.putfield 28, 3) := by decide +kernel
theorem dX7_pass_8 : decode cX7_pass 8 = .ok (.aload_n 0, 1) := by decide +kernel
theorem dX7_pass_9 : decode cX7_pass 9 = .ok (.getfield 28, 3) := by decide +kernel
theorem dX7_pass_12 : decode cX7_pass 12 = .ok (.aload_n 0, 1) := by decide +kernel
theorem dX7_pass_13 : decode cX7_pass 13 = .ok (.getfield 15, 3) := by decide +kernel
theorem dX7_pass_16 : decode cX7_pass 16 = .ok (.if_icmp .ge 30, 3) := by decide +kernel
theorem dX7_pass_46 : decode cX7_pass 46 = .ok (.aload_n 0, 1) := by decide +kernel
theorem dX7_pass_47 : decode cX7_pass 47 = .ok (.aload_n 0, 1) := by decide +kernel
theorem dX7_pass_48 : decode cX7_pass 48 = .ok (.getfield 28, 3) := by decide +kernel
theorem dX7_pass_51 : decode cX7_pass 51 = .ok (.aload_n 0, 1) := by decide +kernel
theorem dX7_pass_52 : decode cX7_pass 52 = .ok (.getfield 15, 3) := by decide +kernel
theorem dX7_pass_55 : decode cX7_pass 55 = .ok (.if_icmp .ge 15, 3) := by decide +kernel
theorem dX7_pass_70 : decode cX7_pass 70 = .ok (.iconst (-1), 1) := by decide +kernel
theorem dX7_pass_71 : decode cX7_pass 71 = .ok (.putfield 31, 3) := by decide +kernel
theorem dX7_pass_74 : decode cX7_pass 74 = .ok (.aload_n 0, 1) := by decide +kernel
theorem dX7_pass_75 : decode cX7_pass 75 = .ok (.aload_n 0, 1) := by decide +kernel
theorem dX7_pass_76 : decode cX7_pass 76 = .ok (.getfield 28, 3) := by decide +kernel
theorem dX7_pass_79 : decode cX7_pass 79 = .ok (.aload_n 0, 1) := by decide +kernel
theorem dX7_pass_80 : decode cX7_pass 80 = .ok (.getfield 15, 3) := by decide +kernel
theorem dX7_pass_83 : decode cX7_pass 83 = .ok (.if_icmp .ge 12, 3) := by decide +kernel
theorem dX7_pass_95 : decode cX7_pass 95 = .ok (.aload_n 0, 1) := by decide +kernel
theorem dX7_pass_96 : decode cX7_pass 96 = .ok (.getfield 15, 3) := by decide +kernel
theorem dX7_pass_99 : decode cX7_pass 99 = .ok (.putfield 22, 3) := by decide +kernel
theorem dX7_pass_102 : decode cX7_pass 102 = .ok (.sipush 256, 3) := by decide +kernel
theorem dX7_pass_105 : decode cX7_pass 105 = .ok (.istore_n 1, 1) := by decide +kernel
theorem dX7_pass_106 : decode cX7_pass 106 = .ok (.sipush 256, 3) := by decide +kernel
theorem dX7_pass_109 : decode cX7_pass 109 = .ok (.istore_n 2, 1) := by decide +kernel
theorem dX7_pass_110 : decode cX7_pass 110 = .ok (.aload_n 0, 1) := by decide +kernel
theorem dX7_pass_111 : decode cX7_pass 111 = .ok (.getfield 15, 3) := by decide +kernel
theorem dX7_pass_114 : decode cX7_pass 114 = .ok (.istore_n 3, 1) := by decide +kernel
theorem dX7_pass_115 : decode cX7_pass 115 = .ok (.aload_n 0, 1) := by decide +kernel
theorem dX7_pass_116 : decode cX7_pass 116 = .ok (.getfield 31, 3) := by decide +kernel
theorem dX7_pass_119 : decode cX7_pass 119 = .ok (.bipush 60, 2) := by decide +kernel
theorem dX7_pass_121 : decode cX7_pass 121 = .ok (.if_icmp .eq 12, 3) := by decide +kernel
theorem dX7_pass_124 : decode cX7_pass 124 = .ok (.aload_n 0, 1) := by decide +kernel
theorem dX7_pass_125 : decode cX7_pass 125 = .ok (.getfield 31, 3) := by decide +kernel
theorem dX7_pass_128 : decode cX7_pass 128 = .ok (.bipush 62, 2) := by decide +kernel
theorem dX7_pass_130 : decode cX7_pass 130 = .ok (.if_icmp .ne 19, 3) := by decide +kernel
theorem dX7_pass_149 : decode cX7_pass 149 = .ok (.aload_n 0, 1) := by decide +kernel
theorem dX7_pass_150 : decode cX7_pass 150 = .ok (.getfield 31, 3) := by decide +kernel
theorem dX7_pass_153 : decode cX7_pass 153 = .ok (.bipush 97, 2) := by decide +kernel
theorem dX7_pass_155 : decode cX7_pass 155 = .ok (.if_icmp .lt 21, 3) := by decide +kernel
theorem dX7_pass_176 : decode cX7_pass 176 = .ok (.aload_n 0, 1) := by decide +kernel
theorem dX7_pass_177 : decode cX7_pass 177 = .ok (.getfield 31, 3) := by decide +kernel
theorem dX7_pass_180 : decode cX7_pass 180 = .ok (.bipush 48, 2) := by decide +kernel
theorem dX7_pass_182 : decode cX7_pass 182 = .ok (.if_icmp .lt 18, 3) := by decide +kernel
theorem dX7_pass_200 : decode cX7_pass 200 = .ok (.aload_n 0, 1) := by decide +kernel
theorem dX7_pass_201 : decode cX7_pass 201 = .ok (.getfield 22, 3) := by decide +kernel
theorem dX7_pass_204 : decode cX7_pass 204 = .ok (.aload_n 0, 1) := by decide +kernel
theorem dX7_pass_205 : decode cX7_pass 205 = .ok (.getfield 15, 3) := by decide +kernel
theorem dX7_pass_208 : decode cX7_pass 208 = .ok (.if_icmp .ge 50, 3) := by decide +kernel
theorem dX7_pass_258 : decode cX7_pass 258 = .ok (.return_, 1) := by decide +kernel
theorem dX7_fails_0 : decode cX7_fails 0 = .ok (.aload_n 0, 1) := by decide +kernel
theorem dX7_fails_1 : decode cX7_fails 1 = .ok (.iconst 1, 1) := by decide +kernel
theorem dX7_fails_2 : decode cX7_fails 2 = .ok (.bipush 8, 2) := by decide +kernel
theorem dX7_fails_4 : decode cX7_fails 4 = .ok (.aload_n 0, 1) := by decide +kernel
theorem dX7_fails_5 : decode cX7_fails 5 = .ok (.getfield 28, 3) := by decide +kernel
theorem dX7_fails_8 : decode cX7_fails 8 = .ok (.imul, 1) := by decide +kernel
theorem dX7_fails_9 : decode cX7_fails 9 = .ok (.iadd, 1) := by decide +kernel
theorem dX7_fails_10 : decode cX7_fails 10 = .ok (.iload_n 1, 1) := by decide +kernel
theorem dX7_fails_11 : decode cX7_fails 11 = .ok (.iadd, 1) := by decide +kernel
theorem dX7_fails_12 : decode cX7_fails 12 = .ok (.putfield 19, 3) := by decide +kernel
theorem dX7_fails_15 : decode cX7_fails 15 = .ok (.iconst 0, 1) := by decide +kernel
theorem dX7_fails_16 : decode cX7_fails 16 = .ok (.ireturn, 1) := by decide +kernel
theorem dX7_wordIn_0 : decode cX7_wordIn 0 = .ok (.aload_n 0, 1) := by decide +kernel
theorem dX7_wordIn_1 : decode cX7_wordIn 1 = .ok (.getfield 22, 3) := by decide +kernel
theorem dX7_wordIn_4 : decode cX7_wordIn 4 = .ok (.aload_n 0, 1) := by decide +kernel
theorem dX7_wordIn_5 : decode cX7_wordIn 5 = .ok (.getfield 28, 3) := by decide +kernel
theorem dX7_wordIn_8 : decode cX7_wordIn 8 = .ok (.isub, 1) := by decide +kernel
theorem dX7_wordIn_9 : decode cX7_wordIn 9 = .ok (.istore_n 2, 1) := by decide +kernel
theorem dX7_wordIn_10 : decode cX7_wordIn 10 = .ok (.iconst 0, 1) := by decide +kernel
theorem dX7_wordIn_11 : decode cX7_wordIn 11 = .ok (.istore_n 3, 1) := by decide +kernel
theorem dX7_wordIn_12 : decode cX7_wordIn 12 = .ok (.iconst 0, 1) := by decide +kernel
theorem dX7_wordIn_13 : decode cX7_wordIn 13 = .ok (.istore 4, 2) := by decide +kernel
theorem dX7_wordIn_15 : decode cX7_wordIn 15 = .ok (.iconst 0, 1) := by decide +kernel
theorem dX7_wordIn_16 : decode cX7_wordIn 16 = .ok (.istore 5, 2) := by decide +kernel
theorem dX7_wordIn_18 : decode cX7_wordIn 18 = .ok (.iload 5, 2) := by decide +kernel
theorem dX7_wordIn_20 : decode cX7_wordIn 20 = .ok (.aload_n 1, 1) := by decide +kernel
theorem dX7_wordIn_21 : decode cX7_wordIn 21 = .ok (.invokevirtual 34, 3) := by decide +kernel
theorem dX7_wordIn_24 : decode cX7_wordIn 24 = .ok (.if_icmp .gt 92, 3) := by decide +kernel
theorem dX7_wordIn_27 : decode cX7_wordIn 27 = .ok (.iload_n 2, 1) := by decide +kernel
theorem dX7_wordIn_28 : decode cX7_wordIn 28 = .ok (.ifCond .le 88, 3) := by decide +kernel
theorem dX7_wordIn_116 : decode cX7_wordIn 116 = .ok (.iconst (-1), 1) := by decide +kernel
theorem dX7_wordIn_117 : decode cX7_wordIn 117 = .ok (.ireturn, 1) := by decide +kernel
theorem dX8_init_0 : decode cX8_init 0 = .ok (.aload_n 0, 1) := by decide +kernel
theorem dX8_init_1 : decode cX8_init 1 = .ok (.invokespecial 3, 3) := by decide +kernel
theorem dX8_init_4 : decode cX8_init 4 = .ok (.aload_n 0, 1) := by decide +kernel
theorem dX8_init_5 : decode cX8_init 5 = .ok (.new 9, 3) := by decide +kernel
theorem dX8_init_8 : decode cX8_init 8 = .ok (.dup, 1) := by decide +kernel
theorem dX8_init_9 : decode cX8_init 9 = .ok (.invokespecial 11, 3) := by decide +kernel
theorem dX8_init_12 : decode cX8_init 12 = .ok (.putfield 12, 3) := by decide +kernel
theorem dX8_init_15 : decode cX8_init 15 = .ok (.aload_n 0, 1) := by decide +kernel
theorem dX8_init_16 : decode cX8_init 16 = .ok (.new 18, 3) := by decide +kernel
theorem dX8_init_19 : decode cX8_init 19 = .ok (.dup, 1) := by decide +kernel
theorem dX8_init_20 : decode cX8_init 20 = .ok (.invokespecial 20, 3) := by decide +kernel
theorem dX8_init_23 : decode cX8_init 23 = .ok (.putfield 21, 3) := by decide +kernel
theorem dX8_init_26 : decode cX8_init 26 = .ok (.aload_n 0, 1) := by decide +kernel
theorem dX8_init_27 : decode cX8_init 27 = .ok (.bipush 6, 2) := by decide +kernel
theorem dX8_init_29 : decode cX8_init 29 = .ok (.newarray .int, 2) := by decide +kernel
theorem dX8_init_31 : decode cX8_init 31 = .ok (.putfield 25, 3) := by decide +kernel
theorem dX8_init_34 : decode cX8_init 34 = .ok (.aload_n 0, 1) := by decide +kernel
theorem dX8_init_35 : decode cX8_init 35 = .ok (.bipush 13, 2) := by decide +kernel
theorem dX8_init_37 : decode cX8_init 37 = .ok (.newarray .long, 2) := by decide +kernel
theorem dX8_init_39 : decode cX8_init 39 = .ok (.putfield 29, 3) := by decide +kernel
theorem dX8_init_42 : decode cX8_init 42 = .ok (.aload_n 0, 1) := by decide +kernel
theorem dX8_init_43 : decode cX8_init 43 = .ok (.bipush 12, 2) := by decide +kernel
theorem dX8_init_45 : decode cX8_init 45 = .ok (.newarray .int, 2) := by decide +kernel
theorem dX8_init_47 : decode cX8_init 47 = .ok (.putfield 33, 3) := by decide +kernel
theorem dX8_init_50 : decode cX8_init 50 = .ok (.aload_n 0, 1) := by decide +kernel
theorem dX8_init_51 : decode cX8_init 51 = .ok (.bipush 12, 2) := by decide +kernel
theorem dX8_init_53 : decode cX8_init 53 = .ok (.newarray .long, 2) := by decide +kernel
theorem dX8_init_55 : decode cX8_init 55 = .ok (.putfield 36, 3) := by decide +kernel
theorem dX8_init_58 : decode cX8_init 58 = .ok (.aload_n 0, 1) := by decide +kernel
theorem dX8_init_59 : decode cX8_init 59 = .ok (.aload_n 1, 1) := by decide +kernel
theorem dX8_init_60 : decode cX8_init 60 = .ok (.putfield 39, 3) := by decide +kernel
theorem dX8_init_63 : decode cX8_init 63 = .ok (.aload_n 0, 1) := by decide +kernel
theorem dX8_init_64 : decode cX8_init 64 = .ok (.aload_n 2, 1) := by decide +kernel
theorem dX8_init_65 : decode cX8_init 65 = .ok (.putfield 43, 3) := by decide +kernel
theorem dX8_init_68 : decode cX8_init 68 = .ok (.return_, 1) := by decide +kernel
theorem dX9_init_0 : decode cX9_init 0 = .ok (.aload_n 0, 1) := by decide +kernel
theorem dX9_init_1 : decode cX9_init 1 = .ok (.invokespecial 1, 3) := by decide +kernel
theorem dX9_init_4 : decode cX9_init 4 = .ok (.aload_n 0, 1) := by decide +kernel
theorem dX9_init_5 : decode cX9_init 5 = .ok (.new 7, 3) := by decide +kernel
theorem dX9_init_8 : decode cX9_init 8 = .ok (.dup, 1) := by decide +kernel
theorem dX9_init_9 : decode cX9_init 9 = .ok (.invokespecial 9, 3) := by decide +kernel
theorem dX9_init_12 : decode cX9_init 12 = .ok (.putfield 10, 3) := by decide +kernel
theorem dX9_init_15 : decode cX9_init 15 = .ok (.aload_n 0, 1) := by decide +kernel
theorem dX9_init_16 : decode cX9_init 16 = .ok (.new 16, 3) := by decide +kernel
theorem dX9_init_19 : decode cX9_init 19 = .ok (.dup, 1) := by decide +kernel
theorem dX9_init_20 : decode cX9_init 20 = .ok (.aload_n 0, 1) := by decide +kernel
theorem dX9_init_21 : decode cX9_init 21 = .ok (.getfield 10, 3) := by decide +kernel
theorem dX9_init_24 : decode cX9_init 24 = .ok (.invokespecial 18, 3) := by decide +kernel
theorem dX9_init_27 : decode cX9_init 27 = .ok (.putfield 21, 3) := by decide +kernel
theorem dX9_init_30 : decode cX9_init 30 = .ok (.aload_n 0, 1) := by decide +kernel
theorem dX9_init_31 : decode cX9_init 31 = .ok (.new 25, 3) := by decide +kernel
theorem dX9_init_34 : decode cX9_init 34 = .ok (.dup, 1) := by decide +kernel
theorem dX9_init_35 : decode cX9_init 35 = .ok (.aload_n 0, 1) := by decide +kernel
theorem dX9_init_36 : decode cX9_init 36 = .ok (.getfield 10, 3) := by decide +kernel
theorem dX9_init_39 : decode cX9_init 39 = .ok (.invokespecial 27, 3) := by decide +kernel
theorem dX9_init_42 : decode cX9_init 42 = .ok (.putfield 28, 3) := by decide +kernel
theorem dX9_init_45 : decode cX9_init 45 = .ok (.aload_n 0, 1) := by decide +kernel
theorem dX9_init_46 : decode cX9_init 46 = .ok (.bipush 6, 2) := by decide +kernel
theorem dX9_init_48 : decode cX9_init 48 = .ok (.anewarray 32, 3) := by decide +kernel
theorem dX9_init_51 : decode cX9_init 51 = .ok (.putfield 34, 3) := by decide +kernel
theorem dX9_init_54 : decode cX9_init 54 = .ok (.iconst 0, 1) := by decide +kernel
theorem dX9_init_55 : decode cX9_init 55 = .ok (.istore_n 1, 1) := by decide +kernel
theorem dX9_init_56 : decode cX9_init 56 = .ok (.iload_n 1, 1) := by decide +kernel
theorem dX9_init_57 : decode cX9_init 57 = .ok (.bipush 6, 2) := by decide +kernel
theorem dX9_init_59 : decode cX9_init 59 = .ok (.if_icmp .ge 22, 3) := by decide +kernel
theorem dX9_init_62 : decode cX9_init 62 = .ok (.aload_n 0, 1) := by decide +kernel
theorem dX9_init_63 : decode cX9_init 63 = .ok (.getfield 34, 3) := by decide +kernel
theorem dX9_init_66 : decode cX9_init 66 = .ok (.iload_n 1, 1) := by decide +kernel
theorem dX9_init_67 : decode cX9_init 67 = .ok (.new 32, 3) := by decide +kernel
theorem dX9_init_70 : decode cX9_init 70 = .ok (.dup, 1) := by decide +kernel
theorem dX9_init_71 : decode cX9_init 71 = .ok (.invokespecial 38, 3) := by decide +kernel
theorem dX9_init_74 : decode cX9_init 74 = .ok (.aastore, 1) := by decide +kernel
theorem dX9_init_75 : decode cX9_init 75 = .ok (.iinc 1 1, 3) := by decide +kernel
theorem dX9_init_78 : decode cX9_init 78 = .ok (.goto (-22), 3) := by decide +kernel
theorem dX9_init_81 : decode cX9_init 81 = .ok (.aload_n 0, 1) := by decide +kernel
theorem dX9_init_82 : decode cX9_init 82 = .ok (.new 39, 3) := by decide +kernel
theorem dX9_init_85 : decode cX9_init 85 = .ok (.dup, 1) := by decide +kernel
theorem dX9_init_86 : decode cX9_init 86 = .ok (.new 41, 3) := by decide +kernel
theorem dX9_init_89 : decode cX9_init 89 = .ok (.dup, 1) := by decide +kernel
theorem dX9_init_90 : decode cX9_init 90 = .ok (.invokespecial 43, 3) := by decide +kernel
theorem dX9_init_93 : decode cX9_init 93 = .ok (.aload_n 0, 1) := by decide +kernel
theorem dX9_init_94 : decode cX9_init 94 = .ok (.getfield 34, 3) := by decide +kernel
theorem dX9_init_97 : decode cX9_init 97 = .ok (.invokespecial 44, 3) := by decide +kernel
theorem dX9_init_100 : decode cX9_init 100 = .ok (.putfield 47, 3) := by decide +kernel
theorem dX9_init_103 : decode cX9_init 103 = .ok (.aload_n 0, 1) := by decide +kernel
theorem dX9_init_104 : decode cX9_init 104 = .ok (.new 39, 3) := by decide +kernel
theorem dX9_init_107 : decode cX9_init 107 = .ok (.dup, 1) := by decide +kernel
theorem dX9_init_108 : decode cX9_init 108 = .ok (.aload_n 0, 1) := by decide +kernel
theorem dX9_init_109 : decode cX9_init 109 = .ok (.getfield 47, 3) := by decide +kernel
theorem dX9_init_112 : decode cX9_init 112 = .ok (.getfield 51, 3) := by decide +kernel
theorem dX9_init_115 : decode cX9_init 115 = .ok (.aload_n 0, 1) := by decide +kernel
theorem dX9_init_116 : decode cX9_init 116 = .ok (.getfield 34, 3) := by decide +kernel
theorem dX9_init_119 : decode cX9_init 119 = .ok (.invokespecial 44, 3) := by decide +kernel
theorem dX9_init_122 : decode cX9_init 122 = .ok (.putfield 55, 3) := by decide +kernel
theorem dX9_init_125 : decode cX9_init 125 = .ok (.aload_n 0, 1) := by decide +kernel
theorem dX9_init_126 : decode cX9_init 126 = .ok (.iconst 4, 1) := by decide +kernel
theorem dX9_init_127 : decode cX9_init 127 = .ok (.anewarray 58, 3) := by decide +kernel
theorem dX9_init_130 : decode cX9_init 130 = .ok (.putfield 60, 3) := by decide +kernel
theorem dX9_init_133 : decode cX9_init 133 = .ok (.iconst 0, 1) := by decide +kernel
theorem dX9_init_134 : decode cX9_init 134 = .ok (.istore_n 1, 1) := by decide +kernel
theorem dX9_init_135 : decode cX9_init 135 = .ok (.iload_n 1, 1) := by decide +kernel
theorem dX9_init_136 : decode cX9_init 136 = .ok (.iconst 4, 1) := by decide +kernel
theorem dX9_init_137 : decode cX9_init 137 = .ok (.if_icmp .ge 22, 3) := by decide +kernel
theorem dX9_init_140 : decode cX9_init 140 = .ok (.aload_n 0, 1) := by decide +kernel
theorem dX9_init_141 : decode cX9_init 141 = .ok (.getfield 60, 3) := by decide +kernel
theorem dX9_init_144 : decode cX9_init 144 = .ok (.iload_n 1, 1) := by decide +kernel
theorem dX9_init_145 : decode cX9_init 145 = .ok (.new 58, 3) := by decide +kernel
theorem dX9_init_148 : decode cX9_init 148 = .ok (.dup, 1) := by decide +kernel
theorem dX9_init_149 : decode cX9_init 149 = .ok (.invokespecial 64, 3) := by decide +kernel
theorem dX9_init_152 : decode cX9_init 152 = .ok (.aastore, 1) := by decide +kernel
theorem dX9_init_153 : decode cX9_init 153 = .ok (.iinc 1 1, 3) := by decide +kernel
theorem dX9_init_156 : decode cX9_init 156 = .ok (.goto (-21), 3) := by decide +kernel
theorem dX9_init_159 : decode cX9_init 159 = .ok (.aload_n 0, 1) := by decide +kernel
theorem dX9_init_160 : decode cX9_init 160 = .ok (.bipush 6, 2) := by decide +kernel
theorem dX9_init_162 : decode cX9_init 162 = .ok (.newarray .int, 2) := by decide +kernel
theorem dX9_init_164 : decode cX9_init 164 = .ok (.putfield 65, 3) := by decide +kernel
theorem dX9_init_167 : decode cX9_init 167 = .ok (.aload_n 0, 1) := by decide +kernel
theorem dX9_init_168 : decode cX9_init 168 = .ok (.bipush 6, 2) := by decide +kernel
theorem dX9_init_170 : decode cX9_init 170 = .ok (.newarray .int, 2) := by decide +kernel
theorem dX9_init_172 : decode cX9_init 172 = .ok (.putfield 69, 3) := by decide +kernel
theorem dX9_init_175 : decode cX9_init 175 = .ok (.aload_n 0, 1) := by decide +kernel
theorem dX9_init_176 : decode cX9_init 176 = .ok (.bipush 6, 2) := by decide +kernel
theorem dX9_init_178 : decode cX9_init 178 = .ok (.newarray .int, 2) := by decide +kernel
theorem dX9_init_180 : decode cX9_init 180 = .ok (.putfield 72, 3) := by decide +kernel
theorem dX9_init_183 : decode cX9_init 183 = .ok (.aload_n 0, 1) := by decide +kernel
theorem dX9_init_184 : decode cX9_init 184 = .ok (.bipush 64, 2) := by decide +kernel
theorem dX9_init_186 : decode cX9_init 186 = .ok (.newarray .int, 2) := by decide +kernel
theorem dX9_init_188 : decode cX9_init 188 = .ok (.putfield 75, 3) := by decide +kernel
theorem dX9_init_191 : decode cX9_init 191 = .ok (.return_, 1) := by decide +kernel
theorem dX9_feed_0 : decode cX9_feed 0 = .ok (.aload_n 0, 1) := by decide +kernel
theorem dX9_feed_1 : decode cX9_feed 1 = .ok (.getfield 10, 3) := by decide +kernel
theorem dX9_feed_4 : decode cX9_feed 4 = .ok (.getfield 78, 3) := by decide +kernel
theorem dX9_feed_7 : decode cX9_feed 7 = .ok (.bipush 20, 2) := by decide +kernel
theorem dX9_feed_9 : decode cX9_feed 9 = .ok (.iadd, 1) := by decide +kernel
theorem dX9_feed_10 : decode cX9_feed 10 = .ok (.sipush 400, 3) := by decide +kernel
theorem dX9_feed_13 : decode cX9_feed 13 = .ok (.if_icmp .le 5, 3) := by decide +kernel
theorem dX9_feed_18 : decode cX9_feed 18 = .ok (.aload_n 0, 1) := by decide +kernel
theorem dX9_feed_19 : decode cX9_feed 19 = .ok (.getfield 10, 3) := by decide +kernel
theorem dX9_feed_22 : decode cX9_feed 22 = .ok (.iload_n 1, 1) := by decide +kernel
theorem dX9_feed_23 : decode cX9_feed 23 = .ok (.invokevirtual 82, 3) := by decide +kernel
theorem dX9_feed_26 : decode cX9_feed 26 = .ok (.aload_n 0, 1) := by decide +kernel
theorem dX9_feed_27 : decode cX9_feed 27 = .ok (.getfield 10, 3) := by decide +kernel
theorem dX9_feed_30 : decode cX9_feed 30 = .ok (.iload_n 2, 1) := by decide +kernel
theorem dX9_feed_31 : decode cX9_feed 31 = .ok (.invokevirtual 82, 3) := by decide +kernel
theorem dX9_feed_34 : decode cX9_feed 34 = .ok (.aload_n 0, 1) := by decide +kernel
theorem dX9_feed_35 : decode cX9_feed 35 = .ok (.getfield 10, 3) := by decide +kernel
theorem dX9_feed_38 : decode cX9_feed 38 = .ok (.iload_n 3, 1) := by decide +kernel
theorem dX9_feed_39 : decode cX9_feed 39 = .ok (.invokevirtual 82, 3) := by decide +kernel
theorem dX9_feed_42 : decode cX9_feed 42 = .ok (.aload_n 0, 1) := by decide +kernel
theorem dX9_feed_43 : decode cX9_feed 43 = .ok (.getfield 10, 3) := by decide +kernel
theorem dX9_feed_46 : decode cX9_feed 46 = .ok (.iload 4, 2) := by decide +kernel
theorem dX9_feed_48 : decode cX9_feed 48 = .ok (.invokevirtual 82, 3) := by decide +kernel
theorem dX9_feed_51 : decode cX9_feed 51 = .ok (.aload_n 0, 1) := by decide +kernel
theorem dX9_feed_52 : decode cX9_feed 52 = .ok (.getfield 10, 3) := by decide +kernel
theorem dX9_feed_55 : decode cX9_feed 55 = .ok (.iload 5, 2) := by decide +kernel
theorem dX9_feed_57 : decode cX9_feed 57 = .ok (.invokevirtual 82, 3) := by decide +kernel
theorem dX9_feed_60 : decode cX9_feed 60 = .ok (.aload_n 0, 1) := by decide +kernel
theorem dX9_feed_61 : decode cX9_feed 61 = .ok (.getfield 10, 3) := by decide +kernel
theorem dX9_feed_64 : decode cX9_feed 64 = .ok (.getfield 78, 3) := by decide +kernel
theorem dX9_feed_67 : decode cX9_feed 67 = .ok (.ireturn, 1) := by decide +kernel
theorem dX9_end_0 : decode cX9_end 0 = .ok (.iload_n 1, 1) := by decide +kernel
theorem dX9_end_1 : decode cX9_end 1 = .ok (.ifCond .lt 14, 3) := by decide +kernel
theorem dX9_end_4 : decode cX9_end 4 = .ok (.iload_n 1, 1) := by decide +kernel
theorem dX9_end_5 : decode cX9_end 5 = .ok (.aload_n 0, 1) := by decide +kernel
theorem dX9_end_6 : decode cX9_end 6 = .ok (.getfield 10, 3) := by decide +kernel
theorem dX9_end_9 : decode cX9_end 9 = .ok (.getfield 78, 3) := by decide +kernel
theorem dX9_end_12 : decode cX9_end 12 = .ok (.if_icmp .le 5, 3) := by decide +kernel
theorem dX9_end_15 : decode cX9_end 15 = .ok (.iconst (-1), 1) := by decide +kernel
theorem dX9_end_16 : decode cX9_end 16 = .ok (.ireturn, 1) := by decide +kernel
theorem dX9_end_17 : decode cX9_end 17 = .ok (.aload_n 0, 1) := by decide +kernel
theorem dX9_end_18 : decode cX9_end 18 = .ok (.getfield 10, 3) := by decide +kernel
theorem dX9_end_21 : decode cX9_end 21 = .ok (.iload_n 1, 1) := by decide +kernel
theorem dX9_end_22 : decode cX9_end 22 = .ok (.putfield 78, 3) := by decide +kernel
theorem dX9_end_25 : decode cX9_end 25 = .ok (.iload_n 1, 1) := by decide +kernel
theorem dX9_end_26 : decode cX9_end 26 = .ok (.ireturn, 1) := by decide +kernel
theorem dX9_river_0 : decode cX9_river 0 = .ok (.aload_n 0, 1) := by decide +kernel
theorem dX9_river_1 : decode cX9_river 1 = .ok (.getfield 21, 3) := by decide +kernel
theorem dX9_river_4 : decode cX9_river 4 = .ok (.invokevirtual 86, 3) := by decide +kernel
theorem dX9_river_7 : decode cX9_river 7 = .ok (.istore_n 1, 1) := by decide +kernel
theorem dX9_river_8 : decode cX9_river 8 = .ok (.aload_n 0, 1) := by decide +kernel
theorem dX9_river_9 : decode cX9_river 9 = .ok (.getfield 10, 3) := by decide +kernel
theorem dX9_river_12 : decode cX9_river 12 = .ok (.iconst 0, 1) := by decide +kernel
theorem dX9_river_13 : decode cX9_river 13 = .ok (.putfield 78, 3) := by decide +kernel
theorem dX9_river_16 : decode cX9_river 16 = .ok (.iload_n 1, 1) := by decide +kernel
theorem dX9_river_17 : decode cX9_river 17 = .ok (.ifCond .ne 14, 3) := by decide +kernel
theorem dX9_river_20 : decode cX9_river 20 = .ok (.bipush (-2), 2) := by decide +kernel
theorem dX9_river_22 : decode cX9_river 22 = .ok (.aload_n 0, 1) := by decide +kernel
theorem dX9_river_23 : decode cX9_river 23 = .ok (.getfield 10, 3) := by decide +kernel
theorem dX9_river_26 : decode cX9_river 26 = .ok (.getfield 90, 3) := by decide +kernel
theorem dX9_river_29 : decode cX9_river 29 = .ok (.isub, 1) := by decide +kernel
theorem dX9_river_30 : decode cX9_river 30 = .ok (.ireturn, 1) := by decide +kernel
theorem dX9_rule_0 : decode cX9_rule 0 = .ok (.aload_n 0, 1) := by decide +kernel
theorem dX9_rule_1 : decode cX9_rule 1 = .ok (.getfield 120, 3) := by decide +kernel
theorem dX9_rule_4 : decode cX9_rule 4 = .ok (.bipush 6, 2) := by decide +kernel
theorem dX9_rule_6 : decode cX9_rule 6 = .ok (.if_icmp .lt 5, 3) := by decide +kernel
theorem dX9_rule_11 : decode cX9_rule 11 = .ok (.aload_n 0, 1) := by decide +kernel
theorem dX9_rule_12 : decode cX9_rule 12 = .ok (.getfield 28, 3) := by decide +kernel
theorem dX9_rule_15 : decode cX9_rule 15 = .ok (.aload_n 0, 1) := by decide +kernel
theorem dX9_rule_16 : decode cX9_rule 16 = .ok (.getfield 34, 3) := by decide +kernel
theorem dX9_rule_19 : decode cX9_rule 19 = .ok (.aload_n 0, 1) := by decide +kernel
theorem dX9_rule_20 : decode cX9_rule 20 = .ok (.getfield 120, 3) := by decide +kernel
theorem dX9_rule_23 : decode cX9_rule 23 = .ok (.aaload, 1) := by decide +kernel
theorem dX9_rule_24 : decode cX9_rule 24 = .ok (.invokevirtual 123, 3) := by decide +kernel
theorem dX9_rule_27 : decode cX9_rule 27 = .ok (.istore_n 1, 1) := by decide +kernel
theorem dX9_rule_28 : decode cX9_rule 28 = .ok (.aload_n 0, 1) := by decide +kernel
theorem dX9_rule_29 : decode cX9_rule 29 = .ok (.getfield 10, 3) := by decide +kernel
theorem dX9_rule_32 : decode cX9_rule 32 = .ok (.iconst 0, 1) := by decide +kernel
theorem dX9_rule_33 : decode cX9_rule 33 = .ok (.putfield 78, 3) := by decide +kernel
theorem dX9_rule_36 : decode cX9_rule 36 = .ok (.iload_n 1, 1) := by decide +kernel
theorem dX9_rule_37 : decode cX9_rule 37 = .ok (.ifCond .ne 14, 3) := by decide +kernel
theorem dX9_rule_40 : decode cX9_rule 40 = .ok (.bipush (-2), 2) := by decide +kernel
theorem dX9_rule_42 : decode cX9_rule 42 = .ok (.aload_n 0, 1) := by decide +kernel
theorem dX9_rule_43 : decode cX9_rule 43 = .ok (.getfield 10, 3) := by decide +kernel
theorem dX9_rule_46 : decode cX9_rule 46 = .ok (.getfield 90, 3) := by decide +kernel
theorem dX9_rule_49 : decode cX9_rule 49 = .ok (.isub, 1) := by decide +kernel
theorem dX9_rule_50 : decode cX9_rule 50 = .ok (.ireturn, 1) := by decide +kernel
theorem dX9_force_0 : decode cX9_force 0 = .ok (.aload_n 0, 1) := by decide +kernel
theorem dX9_force_1 : decode cX9_force 1 = .ok (.invokevirtual 126, 3) := by decide +kernel
theorem dX9_force_4 : decode cX9_force 4 = .ok (.ifCond .eq 11, 3) := by decide +kernel
theorem dX9_force_15 : decode cX9_force 15 = .ok (.bipush (-2), 2) := by decide +kernel
theorem dX9_force_17 : decode cX9_force 17 = .ok (.ireturn, 1) := by decide +kernel
theorem dX9_bind_0 : decode cX9_bind 0 = .ok (.aload_n 0, 1) := by decide +kernel
theorem dX9_bind_1 : decode cX9_bind 1 = .ok (.iload_n 1, 1) := by decide +kernel
theorem dX9_bind_2 : decode cX9_bind 2 = .ok (.invokevirtual 136, 3) := by decide +kernel
theorem dX9_bind_5 : decode cX9_bind 5 = .ok (.ifCond .eq 11, 3) := by decide +kernel
theorem dX9_bind_16 : decode cX9_bind 16 = .ok (.bipush (-2), 2) := by decide +kernel
theorem dX9_bind_18 : decode cX9_bind 18 = .ok (.ireturn, 1) := by decide +kernel
theorem dX9_law_0 : decode cX9_law 0 = .ok (.aload_n 0, 1) := by decide +kernel
theorem dX9_law_1 : decode cX9_law 1 = .ok (.invokevirtual 126, 3) := by decide +kernel
theorem dX9_law_4 : decode cX9_law 4 = .ok (.ifCond .eq 12, 3) := by decide +kernel
theorem dX9_law_16 : decode cX9_law 16 = .ok (.bipush (-2), 2) := by decide +kernel
theorem dX9_law_18 : decode cX9_law 18 = .ok (.ireturn, 1) := by decide +kernel
theorem dX9_bend_0 : decode cX9_bend 0 = .ok (.aload_n 0, 1) := by decide +kernel
theorem dX9_bend_1 : decode cX9_bend 1 = .ok (.iload_n 1, 1) := by decide +kernel
theorem dX9_bend_2 : decode cX9_bend 2 = .ok (.invokevirtual 151, 3) := by decide +kernel
theorem dX9_bend_5 : decode cX9_bend 5 = .ok (.ifCond .ne 5, 3) := by decide +kernel
theorem dX9_bend_8 : decode cX9_bend 8 = .ok (.iconst (-1), 1) := by decide +kernel
theorem dX9_bend_9 : decode cX9_bend 9 = .ok (.ireturn, 1) := by decide +kernel
theorem dX9_village_0 : decode cX9_village 0 = .ok (.aload_n 0, 1) := by decide +kernel
theorem dX9_village_1 : decode cX9_village 1 = .ok (.iload_n 1, 1) := by decide +kernel
theorem dX9_village_2 : decode cX9_village 2 = .ok (.invokevirtual 136, 3) := by decide +kernel
theorem dX9_village_5 : decode cX9_village 5 = .ok (.ifCond .ne 6, 3) := by decide +kernel
theorem dX9_village_8 : decode cX9_village 8 = .ok (.ldc 167, 2) := by decide +kernel
theorem dX9_village_10 : decode cX9_village 10 = .ok (.ireturn, 1) := by decide +kernel
theorem dX9_log_0 : decode cX9_log 0 = .ok (.aload_n 0, 1) := by decide +kernel
theorem dX9_log_1 : decode cX9_log 1 = .ok (.iload_n 1, 1) := by decide +kernel
theorem dX9_log_2 : decode cX9_log 2 = .ok (.invokevirtual 180, 3) := by decide +kernel
theorem dX9_log_5 : decode cX9_log 5 = .ok (.ifCond .ne 6, 3) := by decide +kernel
theorem dX9_log_8 : decode cX9_log 8 = .ok (.bipush (-2), 2) := by decide +kernel
theorem dX9_log_10 : decode cX9_log 10 = .ok (.ireturn, 1) := by decide +kernel
theorem dX9_notch_0 : decode cX9_notch 0 = .ok (.aload_n 0, 1) := by decide +kernel
theorem dX9_notch_1 : decode cX9_notch 1 = .ok (.iload_n 1, 1) := by decide +kernel
theorem dX9_notch_2 : decode cX9_notch 2 = .ok (.invokevirtual 180, 3) := by decide +kernel
theorem dX9_notch_5 : decode cX9_notch 5 = .ok (.ifCond .ne 6, 3) := by decide +kernel
theorem dX9_notch_8 : decode cX9_notch 8 = .ok (.bipush (-2), 2) := by decide +kernel
theorem dX9_notch_10 : decode cX9_notch 10 = .ok (.ireturn, 1) := by decide +kernel
theorem dX9_cut_0 : decode cX9_cut 0 = .ok (.aload_n 0, 1) := by decide +kernel
theorem dX9_cut_1 : decode cX9_cut 1 = .ok (.iload_n 1, 1) := by decide +kernel
theorem dX9_cut_2 : decode cX9_cut 2 = .ok (.invokevirtual 180, 3) := by decide +kernel
theorem dX9_cut_5 : decode cX9_cut 5 = .ok (.ifCond .eq 23, 3) := by decide +kernel
theorem dX9_cut_28 : decode cX9_cut 28 = .ok (.bipush (-2), 2) := by decide +kernel
theorem dX9_cut_30 : decode cX9_cut 30 = .ok (.ireturn, 1) := by decide +kernel
theorem dX9_cutOver_0 : decode cX9_cutOver 0 = .ok (.aload_n 0, 1) := by decide +kernel
theorem dX9_cutOver_1 : decode cX9_cutOver 1 = .ok (.iload_n 1, 1) := by decide +kernel
theorem dX9_cutOver_2 : decode cX9_cutOver 2 = .ok (.invokevirtual 180, 3) := by decide +kernel
theorem dX9_cutOver_5 : decode cX9_cutOver 5 = .ok (.ifCond .eq 23, 3) := by decide +kernel
theorem dX9_cutOver_28 : decode cX9_cutOver 28 = .ok (.bipush (-2), 2) := by decide +kernel
theorem dX9_cutOver_30 : decode cX9_cutOver 30 = .ok (.ireturn, 1) := by decide +kernel
theorem dX9_undo_0 : decode cX9_undo 0 = .ok (.aload_n 0, 1) := by decide +kernel
theorem dX9_undo_1 : decode cX9_undo 1 = .ok (.getfield 47, 3) := by decide +kernel
theorem dX9_undo_4 : decode cX9_undo 4 = .ok (.getfield 109, 3) := by decide +kernel
theorem dX9_undo_7 : decode cX9_undo 7 = .ok (.astore_n 1, 1) := by decide +kernel
theorem dX9_undo_8 : decode cX9_undo 8 = .ok (.aload_n 1, 1) := by decide +kernel
theorem dX9_undo_9 : decode cX9_undo 9 = .ok (.getfield 235, 3) := by decide +kernel
theorem dX9_undo_12 : decode cX9_undo 12 = .ok (.iconst 1, 1) := by decide +kernel
theorem dX9_undo_13 : decode cX9_undo 13 = .ok (.isub, 1) := by decide +kernel
theorem dX9_undo_14 : decode cX9_undo 14 = .ok (.istore_n 2, 1) := by decide +kernel
theorem dX9_undo_15 : decode cX9_undo 15 = .ok (.iload_n 2, 1) := by decide +kernel
theorem dX9_undo_16 : decode cX9_undo 16 = .ok (.ifCond .ge 6, 3) := by decide +kernel
theorem dX9_undo_19 : decode cX9_undo 19 = .ok (.bipush (-2), 2) := by decide +kernel
theorem dX9_undo_21 : decode cX9_undo 21 = .ok (.ireturn, 1) := by decide +kernel
theorem dX9_launch_0 : decode cX9_launch 0 = .ok (.aload_n 0, 1) := by decide +kernel
theorem dX9_launch_1 : decode cX9_launch 1 = .ok (.iload_n 1, 1) := by decide +kernel
theorem dX9_launch_2 : decode cX9_launch 2 = .ok (.invokevirtual 180, 3) := by decide +kernel
theorem dX9_launch_5 : decode cX9_launch 5 = .ok (.ifCond .eq 17, 3) := by decide +kernel
theorem dX9_launch_22 : decode cX9_launch 22 = .ok (.bipush (-2), 2) := by decide +kernel
theorem dX9_launch_24 : decode cX9_launch 24 = .ok (.ireturn, 1) := by decide +kernel
theorem dX9_land_0 : decode cX9_land 0 = .ok (.aload_n 0, 1) := by decide +kernel
theorem dX9_land_1 : decode cX9_land 1 = .ok (.iload_n 1, 1) := by decide +kernel
theorem dX9_land_2 : decode cX9_land 2 = .ok (.invokevirtual 180, 3) := by decide +kernel
theorem dX9_land_5 : decode cX9_land 5 = .ok (.ifCond .eq 38, 3) := by decide +kernel
theorem dX9_land_43 : decode cX9_land 43 = .ok (.iconst 0, 1) := by decide +kernel
theorem dX9_land_44 : decode cX9_land 44 = .ok (.ireturn, 1) := by decide +kernel
theorem dX9_burn_0 : decode cX9_burn 0 = .ok (.aload_n 0, 1) := by decide +kernel
theorem dX9_burn_1 : decode cX9_burn 1 = .ok (.iload_n 1, 1) := by decide +kernel
theorem dX9_burn_2 : decode cX9_burn 2 = .ok (.invokevirtual 180, 3) := by decide +kernel
theorem dX9_burn_5 : decode cX9_burn 5 = .ok (.ifCond .eq 17, 3) := by decide +kernel
theorem dX9_burn_22 : decode cX9_burn 22 = .ok (.bipush (-2), 2) := by decide +kernel
theorem dX9_burn_24 : decode cX9_burn 24 = .ok (.ireturn, 1) := by decide +kernel
theorem dX9_saw_0 : decode cX9_saw 0 = .ok (.aload_n 0, 1) := by decide +kernel
theorem dX9_saw_1 : decode cX9_saw 1 = .ok (.iload_n 1, 1) := by decide +kernel
theorem dX9_saw_2 : decode cX9_saw 2 = .ok (.invokevirtual 180, 3) := by decide +kernel
theorem dX9_saw_5 : decode cX9_saw 5 = .ok (.ifCond .eq 38, 3) := by decide +kernel
theorem dX9_saw_43 : decode cX9_saw 43 = .ok (.bipush (-2), 2) := by decide +kernel
theorem dX9_saw_45 : decode cX9_saw 45 = .ok (.ireturn, 1) := by decide +kernel
theorem dX9_ahead_0 : decode cX9_ahead 0 = .ok (.aload_n 0, 1) := by decide +kernel
theorem dX9_ahead_1 : decode cX9_ahead 1 = .ok (.iload_n 1, 1) := by decide +kernel
theorem dX9_ahead_2 : decode cX9_ahead 2 = .ok (.invokevirtual 180, 3) := by decide +kernel
theorem dX9_ahead_5 : decode cX9_ahead 5 = .ok (.ifCond .eq 11, 3) := by decide +kernel
theorem dX9_ahead_16 : decode cX9_ahead 16 = .ok (.bipush (-2), 2) := by decide +kernel
theorem dX9_ahead_18 : decode cX9_ahead 18 = .ok (.ireturn, 1) := by decide +kernel
theorem dX9_dam_0 : decode cX9_dam 0 = .ok (.aload_n 0, 1) := by decide +kernel
theorem dX9_dam_1 : decode cX9_dam 1 = .ok (.iload_n 1, 1) := by decide +kernel
theorem dX9_dam_2 : decode cX9_dam 2 = .ok (.invokevirtual 151, 3) := by decide +kernel
theorem dX9_dam_5 : decode cX9_dam 5 = .ok (.ifCond .eq 19, 3) := by decide +kernel
theorem dX9_dam_24 : decode cX9_dam 24 = .ok (.bipush (-2), 2) := by decide +kernel
theorem dX9_dam_26 : decode cX9_dam 26 = .ok (.ireturn, 1) := by decide +kernel
theorem dX9_appeal_0 : decode cX9_appeal 0 = .ok (.aload_n 0, 1) := by decide +kernel
theorem dX9_appeal_1 : decode cX9_appeal 1 = .ok (.iload_n 1, 1) := by decide +kernel
theorem dX9_appeal_2 : decode cX9_appeal 2 = .ok (.invokevirtual 151, 3) := by decide +kernel
theorem dX9_appeal_5 : decode cX9_appeal 5 = .ok (.ifCond .eq 19, 3) := by decide +kernel
theorem dX9_appeal_24 : decode cX9_appeal 24 = .ok (.bipush (-2), 2) := by decide +kernel
theorem dX9_appeal_26 : decode cX9_appeal 26 = .ok (.ireturn, 1) := by decide +kernel
theorem dX9_votes_0 : decode cX9_votes 0 = .ok (.aload_n 0, 1) := by decide +kernel
theorem dX9_votes_1 : decode cX9_votes 1 = .ok (.iload_n 1, 1) := by decide +kernel
theorem dX9_votes_2 : decode cX9_votes 2 = .ok (.invokevirtual 151, 3) := by decide +kernel
theorem dX9_votes_5 : decode cX9_votes 5 = .ok (.ifCond .eq 12, 3) := by decide +kernel
theorem dX9_votes_17 : decode cX9_votes 17 = .ok (.iconst (-1), 1) := by decide +kernel
theorem dX9_votes_18 : decode cX9_votes 18 = .ok (.ireturn, 1) := by decide +kernel
theorem dX9_flood_0 : decode cX9_flood 0 = .ok (.aload_n 0, 1) := by decide +kernel
theorem dX9_flood_1 : decode cX9_flood 1 = .ok (.invokevirtual 126, 3) := by decide +kernel
theorem dX9_flood_4 : decode cX9_flood 4 = .ok (.ifCond .eq 13, 3) := by decide +kernel
theorem dX9_flood_17 : decode cX9_flood 17 = .ok (.bipush (-2), 2) := by decide +kernel
theorem dX9_flood_19 : decode cX9_flood 19 = .ok (.ireturn, 1) := by decide +kernel
theorem dX9_elected_0 : decode cX9_elected 0 = .ok (.aload_n 0, 1) := by decide +kernel
theorem dX9_elected_1 : decode cX9_elected 1 = .ok (.iload_n 1, 1) := by decide +kernel
theorem dX9_elected_2 : decode cX9_elected 2 = .ok (.invokevirtual 180, 3) := by decide +kernel
theorem dX9_elected_5 : decode cX9_elected 5 = .ok (.ifCond .ne 5, 3) := by decide +kernel
theorem dX9_elected_8 : decode cX9_elected 8 = .ok (.iconst (-1), 1) := by decide +kernel
theorem dX9_elected_9 : decode cX9_elected 9 = .ok (.ireturn, 1) := by decide +kernel
theorem dX9_wedding_0 : decode cX9_wedding 0 = .ok (.aload_n 0, 1) := by decide +kernel
theorem dX9_wedding_1 : decode cX9_wedding 1 = .ok (.getfield 47, 3) := by decide +kernel
theorem dX9_wedding_4 : decode cX9_wedding 4 = .ok (.getfield 109, 3) := by decide +kernel
theorem dX9_wedding_7 : decode cX9_wedding 7 = .ok (.astore_n 2, 1) := by decide +kernel
theorem dX9_wedding_8 : decode cX9_wedding 8 = .ok (.aload_n 0, 1) := by decide +kernel
theorem dX9_wedding_9 : decode cX9_wedding 9 = .ok (.iload_n 1, 1) := by decide +kernel
theorem dX9_wedding_10 : decode cX9_wedding 10 = .ok (.invokevirtual 136, 3) := by decide +kernel
theorem dX9_wedding_13 : decode cX9_wedding 13 = .ok (.ifCond .eq 12, 3) := by decide +kernel
theorem dX9_wedding_25 : decode cX9_wedding 25 = .ok (.bipush (-2), 2) := by decide +kernel
theorem dX9_wedding_27 : decode cX9_wedding 27 = .ok (.ireturn, 1) := by decide +kernel
theorem dX9_winter_0 : decode cX9_winter 0 = .ok (.aload_n 0, 1) := by decide +kernel
theorem dX9_winter_1 : decode cX9_winter 1 = .ok (.invokevirtual 126, 3) := by decide +kernel
theorem dX9_winter_4 : decode cX9_winter 4 = .ok (.ifCond .eq 14, 3) := by decide +kernel
theorem dX9_winter_18 : decode cX9_winter 18 = .ok (.bipush (-2), 2) := by decide +kernel
theorem dX9_winter_20 : decode cX9_winter 20 = .ok (.ireturn, 1) := by decide +kernel
theorem dX9_days_0 : decode cX9_days 0 = .ok (.aload_n 0, 1) := by decide +kernel
theorem dX9_days_1 : decode cX9_days 1 = .ok (.invokevirtual 126, 3) := by decide +kernel
theorem dX9_days_4 : decode cX9_days 4 = .ok (.ifCond .eq 32, 3) := by decide +kernel
theorem dX9_days_36 : decode cX9_days 36 = .ok (.bipush (-2), 2) := by decide +kernel
theorem dX9_days_38 : decode cX9_days 38 = .ok (.ireturn, 1) := by decide +kernel
theorem dX9_floats_0 : decode cX9_floats 0 = .ok (.aload_n 0, 1) := by decide +kernel
theorem dX9_floats_1 : decode cX9_floats 1 = .ok (.invokevirtual 126, 3) := by decide +kernel
theorem dX9_floats_4 : decode cX9_floats 4 = .ok (.ifCond .eq 23, 3) := by decide +kernel
theorem dX9_floats_27 : decode cX9_floats 27 = .ok (.iconst (-1), 1) := by decide +kernel
theorem dX9_floats_28 : decode cX9_floats 28 = .ok (.ireturn, 1) := by decide +kernel
theorem dX9_letAhead_0 : decode cX9_letAhead 0 = .ok (.aload_n 0, 1) := by decide +kernel
theorem dX9_letAhead_1 : decode cX9_letAhead 1 = .ok (.invokevirtual 126, 3) := by decide +kernel
theorem dX9_letAhead_4 : decode cX9_letAhead 4 = .ok (.ifCond .eq 23, 3) := by decide +kernel
theorem dX9_letAhead_27 : decode cX9_letAhead 27 = .ok (.iconst (-1), 1) := by decide +kernel
theorem dX9_letAhead_28 : decode cX9_letAhead 28 = .ok (.ireturn, 1) := by decide +kernel
theorem dX9_kin_0 : decode cX9_kin 0 = .ok (.aload_n 0, 1) := by decide +kernel
theorem dX9_kin_1 : decode cX9_kin 1 = .ok (.iload_n 1, 1) := by decide +kernel
theorem dX9_kin_2 : decode cX9_kin 2 = .ok (.invokevirtual 180, 3) := by decide +kernel
theorem dX9_kin_5 : decode cX9_kin 5 = .ok (.ifCond .eq 11, 3) := by decide +kernel
theorem dX9_kin_16 : decode cX9_kin 16 = .ok (.iconst (-1), 1) := by decide +kernel
theorem dX9_kin_17 : decode cX9_kin 17 = .ok (.ireturn, 1) := by decide +kernel
theorem dX9_kinOf_0 : decode cX9_kinOf 0 = .ok (.aload_n 0, 1) := by decide +kernel
theorem dX9_kinOf_1 : decode cX9_kinOf 1 = .ok (.iload_n 1, 1) := by decide +kernel
theorem dX9_kinOf_2 : decode cX9_kinOf 2 = .ok (.invokevirtual 180, 3) := by decide +kernel
theorem dX9_kinOf_5 : decode cX9_kinOf 5 = .ok (.ifCond .ne 5, 3) := by decide +kernel
theorem dX9_kinOf_8 : decode cX9_kinOf 8 = .ok (.iconst (-1), 1) := by decide +kernel
theorem dX9_kinOf_9 : decode cX9_kinOf 9 = .ok (.ireturn, 1) := by decide +kernel
theorem dX9_was_0 : decode cX9_was 0 = .ok (.aload_n 0, 1) := by decide +kernel
theorem dX9_was_1 : decode cX9_was 1 = .ok (.iload_n 1, 1) := by decide +kernel
theorem dX9_was_2 : decode cX9_was 2 = .ok (.invokevirtual 180, 3) := by decide +kernel
theorem dX9_was_5 : decode cX9_was 5 = .ok (.ifCond .eq 19, 3) := by decide +kernel
theorem dX9_was_24 : decode cX9_was 24 = .ok (.bipush (-2), 2) := by decide +kernel
theorem dX9_was_26 : decode cX9_was 26 = .ok (.ireturn, 1) := by decide +kernel
theorem dX9_wereAt_0 : decode cX9_wereAt 0 = .ok (.aload_n 0, 1) := by decide +kernel
theorem dX9_wereAt_1 : decode cX9_wereAt 1 = .ok (.iload_n 1, 1) := by decide +kernel
theorem dX9_wereAt_2 : decode cX9_wereAt 2 = .ok (.iload_n 2, 1) := by decide +kernel
theorem dX9_wereAt_3 : decode cX9_wereAt 3 = .ok (.iload_n 3, 1) := by decide +kernel
theorem dX9_wereAt_4 : decode cX9_wereAt 4 = .ok (.invokevirtual 341, 3) := by decide +kernel
theorem dX9_wereAt_7 : decode cX9_wereAt 7 = .ok (.ifCond .ne 5, 3) := by decide +kernel
theorem dX9_wereAt_10 : decode cX9_wereAt 10 = .ok (.iconst (-1), 1) := by decide +kernel
theorem dX9_wereAt_11 : decode cX9_wereAt 11 = .ok (.ireturn, 1) := by decide +kernel
theorem dX9_likely_0 : decode cX9_likely 0 = .ok (.aload_n 0, 1) := by decide +kernel
theorem dX9_likely_1 : decode cX9_likely 1 = .ok (.iload_n 1, 1) := by decide +kernel
theorem dX9_likely_2 : decode cX9_likely 2 = .ok (.iload_n 2, 1) := by decide +kernel
theorem dX9_likely_3 : decode cX9_likely 3 = .ok (.iload_n 3, 1) := by decide +kernel
theorem dX9_likely_4 : decode cX9_likely 4 = .ok (.invokevirtual 341, 3) := by decide +kernel
theorem dX9_likely_7 : decode cX9_likely 7 = .ok (.ifCond .eq 23, 3) := by decide +kernel
theorem dX9_likely_30 : decode cX9_likely 30 = .ok (.iconst (-1), 1) := by decide +kernel
theorem dX9_likely_31 : decode cX9_likely 31 = .ok (.ireturn, 1) := by decide +kernel
theorem dX9_areKept_0 : decode cX9_areKept 0 = .ok (.aload_n 0, 1) := by decide +kernel
theorem dX9_areKept_1 : decode cX9_areKept 1 = .ok (.iload_n 1, 1) := by decide +kernel
theorem dX9_areKept_2 : decode cX9_areKept 2 = .ok (.invokevirtual 180, 3) := by decide +kernel
theorem dX9_areKept_5 : decode cX9_areKept 5 = .ok (.ifCond .eq 28, 3) := by decide +kernel
theorem dX9_areKept_33 : decode cX9_areKept 33 = .ok (.iconst 0, 1) := by decide +kernel
theorem dX9_areKept_34 : decode cX9_areKept 34 = .ok (.ireturn, 1) := by decide +kernel
theorem dX9_sight_0 : decode cX9_sight 0 = .ok (.iload_n 1, 1) := by decide +kernel
theorem dX9_sight_1 : decode cX9_sight 1 = .ok (.iconst (-1), 1) := by decide +kernel
theorem dX9_sight_2 : decode cX9_sight 2 = .ok (.if_icmp .ne 16, 3) := by decide +kernel
theorem dX9_sight_5 : decode cX9_sight 5 = .ok (.aload_n 0, 1) := by decide +kernel
theorem dX9_sight_6 : decode cX9_sight 6 = .ok (.getfield 47, 3) := by decide +kernel
theorem dX9_sight_9 : decode cX9_sight 9 = .ok (.getfield 109, 3) := by decide +kernel
theorem dX9_sight_12 : decode cX9_sight 12 = .ok (.iconst 0, 1) := by decide +kernel
theorem dX9_sight_13 : decode cX9_sight 13 = .ok (.putfield 355, 3) := by decide +kernel
theorem dX9_sight_16 : decode cX9_sight 16 = .ok (.iconst 0, 1) := by decide +kernel
theorem dX9_sight_17 : decode cX9_sight 17 = .ok (.ireturn, 1) := by decide +kernel
theorem dX9_sight_18 : decode cX9_sight 18 = .ok (.aload_n 0, 1) := by decide +kernel
theorem dX9_sight_19 : decode cX9_sight 19 = .ok (.iload_n 1, 1) := by decide +kernel
theorem dX9_sight_20 : decode cX9_sight 20 = .ok (.invokevirtual 180, 3) := by decide +kernel
theorem dX9_sight_23 : decode cX9_sight 23 = .ok (.ifCond .eq 41, 3) := by decide +kernel
theorem dX9_sight_64 : decode cX9_sight 64 = .ok (.bipush (-2), 2) := by decide +kernel
theorem dX9_sight_66 : decode cX9_sight 66 = .ok (.ireturn, 1) := by decide +kernel
theorem dX9_parted_0 : decode cX9_parted 0 = .ok (.aload_n 0, 1) := by decide +kernel
theorem dX9_parted_1 : decode cX9_parted 1 = .ok (.iload_n 1, 1) := by decide +kernel
theorem dX9_parted_2 : decode cX9_parted 2 = .ok (.invokevirtual 180, 3) := by decide +kernel
theorem dX9_parted_5 : decode cX9_parted 5 = .ok (.ifCond .eq 22, 3) := by decide +kernel
theorem dX9_parted_27 : decode cX9_parted 27 = .ok (.iconst (-1), 1) := by decide +kernel
theorem dX9_parted_28 : decode cX9_parted 28 = .ok (.ireturn, 1) := by decide +kernel
theorem dX9_owes_0 : decode cX9_owes 0 = .ok (.aload_n 0, 1) := by decide +kernel
theorem dX9_owes_1 : decode cX9_owes 1 = .ok (.iload_n 1, 1) := by decide +kernel
theorem dX9_owes_2 : decode cX9_owes 2 = .ok (.invokevirtual 136, 3) := by decide +kernel
theorem dX9_owes_5 : decode cX9_owes 5 = .ok (.ifCond .eq 16, 3) := by decide +kernel
theorem dX9_owes_21 : decode cX9_owes 21 = .ok (.iconst (-1), 1) := by decide +kernel
theorem dX9_owes_22 : decode cX9_owes 22 = .ok (.ireturn, 1) := by decide +kernel
theorem dX9_payments_0 : decode cX9_payments 0 = .ok (.aload_n 0, 1) := by decide +kernel
theorem dX9_payments_1 : decode cX9_payments 1 = .ok (.invokevirtual 126, 3) := by decide +kernel
theorem dX9_payments_4 : decode cX9_payments 4 = .ok (.ifCond .ne 5, 3) := by decide +kernel
theorem dX9_payments_7 : decode cX9_payments 7 = .ok (.iconst (-1), 1) := by decide +kernel
theorem dX9_payments_8 : decode cX9_payments 8 = .ok (.ireturn, 1) := by decide +kernel
theorem dX9_repaid_0 : decode cX9_repaid 0 = .ok (.aload_n 0, 1) := by decide +kernel
theorem dX9_repaid_1 : decode cX9_repaid 1 = .ok (.iload_n 1, 1) := by decide +kernel
theorem dX9_repaid_2 : decode cX9_repaid 2 = .ok (.invokevirtual 136, 3) := by decide +kernel
theorem dX9_repaid_5 : decode cX9_repaid 5 = .ok (.ifCond .eq 25, 3) := by decide +kernel
theorem dX9_repaid_30 : decode cX9_repaid 30 = .ok (.iconst (-1), 1) := by decide +kernel
theorem dX9_repaid_31 : decode cX9_repaid 31 = .ok (.ireturn, 1) := by decide +kernel
theorem dX9_seed_0 : decode cX9_seed 0 = .ok (.iload_n 1, 1) := by decide +kernel
theorem dX9_seed_1 : decode cX9_seed 1 = .ok (.ifCond .ge 5, 3) := by decide +kernel
theorem dX9_seed_4 : decode cX9_seed 4 = .ok (.iconst (-1), 1) := by decide +kernel
theorem dX9_seed_5 : decode cX9_seed 5 = .ok (.ireturn, 1) := by decide +kernel
theorem dX9_seed_6 : decode cX9_seed 6 = .ok (.aload_n 0, 1) := by decide +kernel
theorem dX9_seed_7 : decode cX9_seed 7 = .ok (.getfield 47, 3) := by decide +kernel
theorem dX9_seed_10 : decode cX9_seed 10 = .ok (.getfield 109, 3) := by decide +kernel
theorem dX9_seed_13 : decode cX9_seed 13 = .ok (.getfield 387, 3) := by decide +kernel
theorem dX9_seed_16 : decode cX9_seed 16 = .ok (.istore_n 2, 1) := by decide +kernel
theorem dX9_seed_17 : decode cX9_seed 17 = .ok (.aload_n 0, 1) := by decide +kernel
theorem dX9_seed_18 : decode cX9_seed 18 = .ok (.getfield 47, 3) := by decide +kernel
theorem dX9_seed_21 : decode cX9_seed 21 = .ok (.getfield 109, 3) := by decide +kernel
theorem dX9_seed_24 : decode cX9_seed 24 = .ok (.iload_n 1, 1) := by decide +kernel
theorem dX9_seed_25 : decode cX9_seed 25 = .ok (.putfield 387, 3) := by decide +kernel
theorem dX9_seed_28 : decode cX9_seed 28 = .ok (.iload_n 2, 1) := by decide +kernel
theorem dX9_seed_29 : decode cX9_seed 29 = .ok (.ireturn, 1) := by decide +kernel
theorem dX9_drawn_0 : decode cX9_drawn 0 = .ok (.aload_n 0, 1) := by decide +kernel
theorem dX9_drawn_1 : decode cX9_drawn 1 = .ok (.invokevirtual 126, 3) := by decide +kernel
theorem dX9_drawn_4 : decode cX9_drawn 4 = .ok (.ifCond .eq 46, 3) := by decide +kernel
theorem dX9_drawn_50 : decode cX9_drawn 50 = .ok (.iconst (-1), 1) := by decide +kernel
theorem dX9_drawn_51 : decode cX9_drawn 51 = .ok (.ireturn, 1) := by decide +kernel
theorem dX9_count_0 : decode cX9_count 0 = .ok (.iload_n 1, 1) := by decide +kernel
theorem dX9_count_1 : decode cX9_count 1 = .ok (.tableswitch 200 0 11 #[63, 74, 85, 96, 107, 112, 123, 134, 145, 156, 170, 185], 63) := by decide +kernel
theorem dX9_count_64 : decode cX9_count 64 = .ok (.aload_n 0, 1) := by decide +kernel
theorem dX9_count_65 : decode cX9_count 65 = .ok (.getfield 47, 3) := by decide +kernel
theorem dX9_count_68 : decode cX9_count 68 = .ok (.getfield 51, 3) := by decide +kernel
theorem dX9_count_71 : decode cX9_count 71 = .ok (.getfield 400, 3) := by decide +kernel
theorem dX9_count_74 : decode cX9_count 74 = .ok (.ireturn, 1) := by decide +kernel
theorem dX9_count_75 : decode cX9_count 75 = .ok (.aload_n 0, 1) := by decide +kernel
theorem dX9_count_76 : decode cX9_count 76 = .ok (.getfield 47, 3) := by decide +kernel
theorem dX9_count_79 : decode cX9_count 79 = .ok (.getfield 51, 3) := by decide +kernel
theorem dX9_count_82 : decode cX9_count 82 = .ok (.getfield 378, 3) := by decide +kernel
theorem dX9_count_85 : decode cX9_count 85 = .ok (.ireturn, 1) := by decide +kernel
theorem dX9_count_86 : decode cX9_count 86 = .ok (.aload_n 0, 1) := by decide +kernel
theorem dX9_count_87 : decode cX9_count 87 = .ok (.getfield 47, 3) := by decide +kernel
theorem dX9_count_90 : decode cX9_count 90 = .ok (.getfield 51, 3) := by decide +kernel
theorem dX9_count_93 : decode cX9_count 93 = .ok (.getfield 403, 3) := by decide +kernel
theorem dX9_count_96 : decode cX9_count 96 = .ok (.ireturn, 1) := by decide +kernel
theorem dX9_count_97 : decode cX9_count 97 = .ok (.aload_n 0, 1) := by decide +kernel
theorem dX9_count_98 : decode cX9_count 98 = .ok (.getfield 47, 3) := by decide +kernel
theorem dX9_count_101 : decode cX9_count 101 = .ok (.getfield 51, 3) := by decide +kernel
theorem dX9_count_104 : decode cX9_count 104 = .ok (.getfield 117, 3) := by decide +kernel
theorem dX9_count_107 : decode cX9_count 107 = .ok (.ireturn, 1) := by decide +kernel
theorem dX9_count_108 : decode cX9_count 108 = .ok (.aload_n 0, 1) := by decide +kernel
theorem dX9_count_109 : decode cX9_count 109 = .ok (.getfield 120, 3) := by decide +kernel
theorem dX9_count_112 : decode cX9_count 112 = .ok (.ireturn, 1) := by decide +kernel
theorem dX9_count_113 : decode cX9_count 113 = .ok (.aload_n 0, 1) := by decide +kernel
theorem dX9_count_114 : decode cX9_count 114 = .ok (.getfield 47, 3) := by decide +kernel
theorem dX9_count_117 : decode cX9_count 117 = .ok (.getfield 100, 3) := by decide +kernel
theorem dX9_count_120 : decode cX9_count 120 = .ok (.getfield 133, 3) := by decide +kernel
theorem dX9_count_123 : decode cX9_count 123 = .ok (.ireturn, 1) := by decide +kernel
theorem dX9_count_124 : decode cX9_count 124 = .ok (.aload_n 0, 1) := by decide +kernel
theorem dX9_count_125 : decode cX9_count 125 = .ok (.getfield 47, 3) := by decide +kernel
theorem dX9_count_128 : decode cX9_count 128 = .ok (.getfield 100, 3) := by decide +kernel
theorem dX9_count_131 : decode cX9_count 131 = .ok (.getfield 148, 3) := by decide +kernel
theorem dX9_count_134 : decode cX9_count 134 = .ok (.ireturn, 1) := by decide +kernel
theorem dX9_count_135 : decode cX9_count 135 = .ok (.aload_n 0, 1) := by decide +kernel
theorem dX9_count_136 : decode cX9_count 136 = .ok (.getfield 47, 3) := by decide +kernel
theorem dX9_count_139 : decode cX9_count 139 = .ok (.getfield 100, 3) := by decide +kernel
theorem dX9_count_142 : decode cX9_count 142 = .ok (.getfield 297, 3) := by decide +kernel
theorem dX9_count_145 : decode cX9_count 145 = .ok (.ireturn, 1) := by decide +kernel
theorem dX9_count_146 : decode cX9_count 146 = .ok (.aload_n 0, 1) := by decide +kernel
theorem dX9_count_147 : decode cX9_count 147 = .ok (.getfield 47, 3) := by decide +kernel
theorem dX9_count_150 : decode cX9_count 150 = .ok (.getfield 100, 3) := by decide +kernel
theorem dX9_count_153 : decode cX9_count 153 = .ok (.getfield 280, 3) := by decide +kernel
theorem dX9_count_156 : decode cX9_count 156 = .ok (.ireturn, 1) := by decide +kernel
theorem dX9_count_157 : decode cX9_count 157 = .ok (.aload_n 0, 1) := by decide +kernel
theorem dX9_count_158 : decode cX9_count 158 = .ok (.getfield 47, 3) := by decide +kernel
theorem dX9_count_161 : decode cX9_count 161 = .ok (.getfield 100, 3) := by decide +kernel
theorem dX9_count_164 : decode cX9_count 164 = .ok (.iconst 0, 1) := by decide +kernel
theorem dX9_count_165 : decode cX9_count 165 = .ok (.bipush 20, 2) := by decide +kernel
theorem dX9_count_167 : decode cX9_count 167 = .ok (.invokevirtual 406, 3) := by decide +kernel
theorem dX9_count_170 : decode cX9_count 170 = .ok (.ireturn, 1) := by decide +kernel
theorem dX9_count_171 : decode cX9_count 171 = .ok (.aload_n 0, 1) := by decide +kernel
theorem dX9_count_172 : decode cX9_count 172 = .ok (.getfield 47, 3) := by decide +kernel
theorem dX9_count_175 : decode cX9_count 175 = .ok (.getfield 100, 3) := by decide +kernel
theorem dX9_count_178 : decode cX9_count 178 = .ok (.bipush 40, 2) := by decide +kernel
theorem dX9_count_180 : decode cX9_count 180 = .ok (.bipush 41, 2) := by decide +kernel
theorem dX9_count_182 : decode cX9_count 182 = .ok (.invokevirtual 406, 3) := by decide +kernel
theorem dX9_count_185 : decode cX9_count 185 = .ok (.ireturn, 1) := by decide +kernel
theorem dX9_count_186 : decode cX9_count 186 = .ok (.aload_n 0, 1) := by decide +kernel
theorem dX9_count_187 : decode cX9_count 187 = .ok (.getfield 47, 3) := by decide +kernel
theorem dX9_count_190 : decode cX9_count 190 = .ok (.getfield 100, 3) := by decide +kernel
theorem dX9_count_193 : decode cX9_count 193 = .ok (.bipush 41, 2) := by decide +kernel
theorem dX9_count_195 : decode cX9_count 195 = .ok (.bipush 42, 2) := by decide +kernel
theorem dX9_count_197 : decode cX9_count 197 = .ok (.invokevirtual 406, 3) := by decide +kernel
theorem dX9_count_200 : decode cX9_count 200 = .ok (.ireturn, 1) := by decide +kernel
theorem dX9_count_201 : decode cX9_count 201 = .ok (.aload_n 0, 1) := by decide +kernel
theorem dX9_count_202 : decode cX9_count 202 = .ok (.iload_n 1, 1) := by decide +kernel
theorem dX9_count_203 : decode cX9_count 203 = .ok (.invokevirtual 409, 3) := by decide +kernel
theorem dX9_count_206 : decode cX9_count 206 = .ok (.ireturn, 1) := by decide +kernel
theorem dX9_countKept_0 : decode cX9_countKept 0 = .ok (.iload_n 1, 1) := by decide +kernel
theorem dX9_countKept_1 : decode cX9_countKept 1 = .ok (.tableswitch 132 12 19 #[47, 58, 69, 80, 91, 102, 113, 121], 47) := by decide +kernel
theorem dX9_countKept_48 : decode cX9_countKept 48 = .ok (.aload_n 0, 1) := by decide +kernel
theorem dX9_countKept_49 : decode cX9_countKept 49 = .ok (.getfield 47, 3) := by decide +kernel
theorem dX9_countKept_52 : decode cX9_countKept 52 = .ok (.getfield 109, 3) := by decide +kernel
theorem dX9_countKept_55 : decode cX9_countKept 55 = .ok (.getfield 412, 3) := by decide +kernel
theorem dX9_countKept_58 : decode cX9_countKept 58 = .ok (.ireturn, 1) := by decide +kernel
theorem dX9_countKept_59 : decode cX9_countKept 59 = .ok (.aload_n 0, 1) := by decide +kernel
theorem dX9_countKept_60 : decode cX9_countKept 60 = .ok (.getfield 47, 3) := by decide +kernel
theorem dX9_countKept_63 : decode cX9_countKept 63 = .ok (.getfield 109, 3) := by decide +kernel
theorem dX9_countKept_66 : decode cX9_countKept 66 = .ok (.getfield 287, 3) := by decide +kernel
theorem dX9_countKept_69 : decode cX9_countKept 69 = .ok (.ireturn, 1) := by decide +kernel
theorem dX9_countKept_70 : decode cX9_countKept 70 = .ok (.aload_n 0, 1) := by decide +kernel
theorem dX9_countKept_71 : decode cX9_countKept 71 = .ok (.getfield 47, 3) := by decide +kernel
theorem dX9_countKept_74 : decode cX9_countKept 74 = .ok (.getfield 109, 3) := by decide +kernel
theorem dX9_countKept_77 : decode cX9_countKept 77 = .ok (.getfield 355, 3) := by decide +kernel
theorem dX9_countKept_80 : decode cX9_countKept 80 = .ok (.ireturn, 1) := by decide +kernel
theorem dX9_countKept_81 : decode cX9_countKept 81 = .ok (.aload_n 0, 1) := by decide +kernel
theorem dX9_countKept_82 : decode cX9_countKept 82 = .ok (.getfield 47, 3) := by decide +kernel
theorem dX9_countKept_85 : decode cX9_countKept 85 = .ok (.getfield 109, 3) := by decide +kernel
theorem dX9_countKept_88 : decode cX9_countKept 88 = .ok (.getfield 235, 3) := by decide +kernel
theorem dX9_countKept_91 : decode cX9_countKept 91 = .ok (.ireturn, 1) := by decide +kernel
theorem dX9_countKept_92 : decode cX9_countKept 92 = .ok (.aload_n 0, 1) := by decide +kernel
theorem dX9_countKept_93 : decode cX9_countKept 93 = .ok (.getfield 47, 3) := by decide +kernel
theorem dX9_countKept_96 : decode cX9_countKept 96 = .ok (.getfield 100, 3) := by decide +kernel
theorem dX9_countKept_99 : decode cX9_countKept 99 = .ok (.invokevirtual 415, 3) := by decide +kernel
theorem dX9_countKept_102 : decode cX9_countKept 102 = .ok (.ireturn, 1) := by decide +kernel
theorem dX9_countKept_103 : decode cX9_countKept 103 = .ok (.aload_n 0, 1) := by decide +kernel
theorem dX9_countKept_104 : decode cX9_countKept 104 = .ok (.getfield 47, 3) := by decide +kernel
theorem dX9_countKept_107 : decode cX9_countKept 107 = .ok (.getfield 109, 3) := by decide +kernel
theorem dX9_countKept_110 : decode cX9_countKept 110 = .ok (.getfield 387, 3) := by decide +kernel
theorem dX9_countKept_113 : decode cX9_countKept 113 = .ok (.ireturn, 1) := by decide +kernel
theorem dX9_countKept_114 : decode cX9_countKept 114 = .ok (.aload_n 0, 1) := by decide +kernel
theorem dX9_countKept_115 : decode cX9_countKept 115 = .ok (.getfield 10, 3) := by decide +kernel
theorem dX9_countKept_118 : decode cX9_countKept 118 = .ok (.getfield 78, 3) := by decide +kernel
theorem dX9_countKept_121 : decode cX9_countKept 121 = .ok (.ireturn, 1) := by decide +kernel
theorem dX9_countKept_122 : decode cX9_countKept 122 = .ok (.aload_n 0, 1) := by decide +kernel
theorem dX9_countKept_123 : decode cX9_countKept 123 = .ok (.getfield 47, 3) := by decide +kernel
theorem dX9_countKept_126 : decode cX9_countKept 126 = .ok (.getfield 51, 3) := by decide +kernel
theorem dX9_countKept_129 : decode cX9_countKept 129 = .ok (.getfield 418, 3) := by decide +kernel
theorem dX9_countKept_132 : decode cX9_countKept 132 = .ok (.ireturn, 1) := by decide +kernel
theorem dX9_countKept_133 : decode cX9_countKept 133 = .ok (.iconst (-1), 1) := by decide +kernel
theorem dX9_countKept_134 : decode cX9_countKept 134 = .ok (.ireturn, 1) := by decide +kernel
theorem dX9_image_0 : decode cX9_image 0 = .ok (.iload_n 1, 1) := by decide +kernel
theorem dX9_image_1 : decode cX9_image 1 = .ok (.ifCond .lt 8, 3) := by decide +kernel
theorem dX9_image_4 : decode cX9_image 4 = .ok (.iload_n 1, 1) := by decide +kernel
theorem dX9_image_5 : decode cX9_image 5 = .ok (.iconst 4, 1) := by decide +kernel
theorem dX9_image_6 : decode cX9_image 6 = .ok (.if_icmp .lt 5, 3) := by decide +kernel
theorem dX9_image_9 : decode cX9_image 9 = .ok (.iconst (-1), 1) := by decide +kernel
theorem dX9_image_10 : decode cX9_image 10 = .ok (.ireturn, 1) := by decide +kernel
theorem dX9_image_11 : decode cX9_image 11 = .ok (.aload_n 0, 1) := by decide +kernel
theorem dX9_image_12 : decode cX9_image 12 = .ok (.getfield 60, 3) := by decide +kernel
theorem dX9_image_15 : decode cX9_image 15 = .ok (.iload_n 1, 1) := by decide +kernel
theorem dX9_image_16 : decode cX9_image 16 = .ok (.aaload, 1) := by decide +kernel
theorem dX9_image_17 : decode cX9_image 17 = .ok (.aload_n 0, 1) := by decide +kernel
theorem dX9_image_18 : decode cX9_image 18 = .ok (.getfield 47, 3) := by decide +kernel
theorem dX9_image_21 : decode cX9_image 21 = .ok (.invokevirtual 421, 3) := by decide +kernel
theorem dX9_image_24 : decode cX9_image 24 = .ok (.aload_n 0, 1) := by decide +kernel
theorem dX9_image_25 : decode cX9_image 25 = .ok (.getfield 47, 3) := by decide +kernel
theorem dX9_image_28 : decode cX9_image 28 = .ok (.getfield 100, 3) := by decide +kernel
theorem dX9_image_31 : decode cX9_image 31 = .ok (.getfield 297, 3) := by decide +kernel
theorem dX9_image_34 : decode cX9_image 34 = .ok (.ireturn, 1) := by decide +kernel
theorem dX9_back_0 : decode cX9_back 0 = .ok (.iload_n 1, 1) := by decide +kernel
theorem dX9_back_1 : decode cX9_back 1 = .ok (.ifCond .lt 20, 3) := by decide +kernel
theorem dX9_back_4 : decode cX9_back 4 = .ok (.iload_n 1, 1) := by decide +kernel
theorem dX9_back_5 : decode cX9_back 5 = .ok (.iconst 4, 1) := by decide +kernel
theorem dX9_back_6 : decode cX9_back 6 = .ok (.if_icmp .ge 15, 3) := by decide +kernel
theorem dX9_back_9 : decode cX9_back 9 = .ok (.aload_n 0, 1) := by decide +kernel
theorem dX9_back_10 : decode cX9_back 10 = .ok (.getfield 60, 3) := by decide +kernel
theorem dX9_back_13 : decode cX9_back 13 = .ok (.iload_n 1, 1) := by decide +kernel
theorem dX9_back_14 : decode cX9_back 14 = .ok (.aaload, 1) := by decide +kernel
theorem dX9_back_15 : decode cX9_back 15 = .ok (.getfield 424, 3) := by decide +kernel
theorem dX9_back_18 : decode cX9_back 18 = .ok (.ifCond .ne 5, 3) := by decide +kernel
theorem dX9_back_21 : decode cX9_back 21 = .ok (.iconst (-1), 1) := by decide +kernel
theorem dX9_back_22 : decode cX9_back 22 = .ok (.ireturn, 1) := by decide +kernel
theorem dX9_hasRiver_0 : decode cX9_hasRiver 0 = .ok (.aload_n 0, 1) := by decide +kernel
theorem dX9_hasRiver_1 : decode cX9_hasRiver 1 = .ok (.getfield 47, 3) := by decide +kernel
theorem dX9_hasRiver_4 : decode cX9_hasRiver 4 = .ok (.getfield 51, 3) := by decide +kernel
theorem dX9_hasRiver_7 : decode cX9_hasRiver 7 = .ok (.getfield 400, 3) := by decide +kernel
theorem dX9_hasRiver_10 : decode cX9_hasRiver 10 = .ok (.ifCond .le 7, 3) := by decide +kernel
theorem dX9_hasRiver_17 : decode cX9_hasRiver 17 = .ok (.iconst 0, 1) := by decide +kernel
theorem dX9_hasRiver_18 : decode cX9_hasRiver 18 = .ok (.ireturn, 1) := by decide +kernel
theorem dX9_isBend_0 : decode cX9_isBend 0 = .ok (.iload_n 1, 1) := by decide +kernel
theorem dX9_isBend_1 : decode cX9_isBend 1 = .ok (.ifCond .lt 21, 3) := by decide +kernel
theorem dX9_isBend_4 : decode cX9_isBend 4 = .ok (.iload_n 1, 1) := by decide +kernel
theorem dX9_isBend_5 : decode cX9_isBend 5 = .ok (.aload_n 0, 1) := by decide +kernel
theorem dX9_isBend_6 : decode cX9_isBend 6 = .ok (.getfield 47, 3) := by decide +kernel
theorem dX9_isBend_9 : decode cX9_isBend 9 = .ok (.getfield 51, 3) := by decide +kernel
theorem dX9_isBend_12 : decode cX9_isBend 12 = .ok (.getfield 400, 3) := by decide +kernel
theorem dX9_isBend_15 : decode cX9_isBend 15 = .ok (.if_icmp .ge 7, 3) := by decide +kernel
theorem dX9_isBend_22 : decode cX9_isBend 22 = .ok (.iconst 0, 1) := by decide +kernel
theorem dX9_isBend_23 : decode cX9_isBend 23 = .ok (.ireturn, 1) := by decide +kernel
theorem dX9_isVillage_0 : decode cX9_isVillage 0 = .ok (.iload_n 1, 1) := by decide +kernel
theorem dX9_isVillage_1 : decode cX9_isVillage 1 = .ok (.ifCond .lt 21, 3) := by decide +kernel
theorem dX9_isVillage_4 : decode cX9_isVillage 4 = .ok (.iload_n 1, 1) := by decide +kernel
theorem dX9_isVillage_5 : decode cX9_isVillage 5 = .ok (.aload_n 0, 1) := by decide +kernel
theorem dX9_isVillage_6 : decode cX9_isVillage 6 = .ok (.getfield 47, 3) := by decide +kernel
theorem dX9_isVillage_9 : decode cX9_isVillage 9 = .ok (.getfield 51, 3) := by decide +kernel
theorem dX9_isVillage_12 : decode cX9_isVillage 12 = .ok (.getfield 378, 3) := by decide +kernel
theorem dX9_isVillage_15 : decode cX9_isVillage 15 = .ok (.if_icmp .ge 7, 3) := by decide +kernel
theorem dX9_isVillage_22 : decode cX9_isVillage 22 = .ok (.iconst 0, 1) := by decide +kernel
theorem dX9_isVillage_23 : decode cX9_isVillage 23 = .ok (.ireturn, 1) := by decide +kernel
theorem dX9_isLog_0 : decode cX9_isLog 0 = .ok (.iload_n 1, 1) := by decide +kernel
theorem dX9_isLog_1 : decode cX9_isLog 1 = .ok (.ifCond .lt 21, 3) := by decide +kernel
theorem dX9_isLog_4 : decode cX9_isLog 4 = .ok (.iload_n 1, 1) := by decide +kernel
theorem dX9_isLog_5 : decode cX9_isLog 5 = .ok (.aload_n 0, 1) := by decide +kernel
theorem dX9_isLog_6 : decode cX9_isLog 6 = .ok (.getfield 47, 3) := by decide +kernel
theorem dX9_isLog_9 : decode cX9_isLog 9 = .ok (.getfield 51, 3) := by decide +kernel
theorem dX9_isLog_12 : decode cX9_isLog 12 = .ok (.getfield 117, 3) := by decide +kernel
theorem dX9_isLog_15 : decode cX9_isLog 15 = .ok (.if_icmp .ge 7, 3) := by decide +kernel
theorem dX9_isLog_22 : decode cX9_isLog 22 = .ok (.iconst 0, 1) := by decide +kernel
theorem dX9_isLog_23 : decode cX9_isLog 23 = .ok (.ireturn, 1) := by decide +kernel
theorem dX9_copyRow_0 : decode cX9_copyRow 0 = .ok (.aload_n 0, 1) := by decide +kernel
theorem dX9_copyRow_1 : decode cX9_copyRow 1 = .ok (.iconst 0, 1) := by decide +kernel
theorem dX9_copyRow_2 : decode cX9_copyRow 2 = .ok (.aload_n 1, 1) := by decide +kernel
theorem dX9_copyRow_3 : decode cX9_copyRow 3 = .ok (.iconst 0, 1) := by decide +kernel
theorem dX9_copyRow_4 : decode cX9_copyRow 4 = .ok (.aload_n 0, 1) := by decide +kernel
theorem dX9_copyRow_5 : decode cX9_copyRow 5 = .ok (.arraylength, 1) := by decide +kernel
theorem dX9_copyRow_6 : decode cX9_copyRow 6 = .ok (.aload_n 1, 1) := by decide +kernel
theorem dX9_copyRow_7 : decode cX9_copyRow 7 = .ok (.arraylength, 1) := by decide +kernel
theorem dX9_copyRow_8 : decode cX9_copyRow 8 = .ok (.invokestatic 370, 3) := by decide +kernel
theorem dX9_copyRow_11 : decode cX9_copyRow 11 = .ok (.invokestatic 315, 3) := by decide +kernel
theorem dX9_copyRow_14 : decode cX9_copyRow 14 = .ok (.return_, 1) := by decide +kernel
