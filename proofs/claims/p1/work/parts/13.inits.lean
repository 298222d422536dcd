theorem dX1_init_0 : decode cX1_init 0 = .ok (.aload_n 0, 1) := by decide +kernel
theorem dX1_init_1 : decode cX1_init 1 = .ok (.invokespecial 3, 3) := by decide +kernel
theorem dX1_init_4 : decode cX1_init 4 = .ok (.aload_n 0, 1) := by decide +kernel
theorem dX1_init_5 : decode cX1_init 5 = .ok (.bipush 10, 2) := by decide +kernel
theorem dX1_init_7 : decode cX1_init 7 = .ok (.newarray .int, 2) := by decide +kernel
theorem dX1_init_9 : decode cX1_init 9 = .ok (.putfield 9, 3) := by decide +kernel
theorem dX1_init_12 : decode cX1_init 12 = .ok (.aload_n 0, 1) := by decide +kernel
theorem dX1_init_13 : decode cX1_init 13 = .ok (.iconst 0, 1) := by decide +kernel
theorem dX1_init_14 : decode cX1_init 14 = .ok (.putfield 15, 3) := by decide +kernel
theorem dX1_init_17 : decode cX1_init 17 = .ok (.aload_n 0, 1) := by decide +kernel
theorem dX1_init_18 : decode cX1_init 18 = .ok (.iconst 0, 1) := by decide +kernel
theorem dX1_init_19 : decode cX1_init 19 = .ok (.putfield 19, 3) := by decide +kernel
theorem dX1_init_22 : decode cX1_init 22 = .ok (.aload_n 0, 1) := by decide +kernel
theorem dX1_init_23 : decode cX1_init 23 = .ok (.iconst 0, 1) := by decide +kernel
theorem dX1_init_24 : decode cX1_init 24 = .ok (.putfield 22, 3) := by decide +kernel
theorem dX1_init_27 : decode cX1_init 27 = .ok (.aload_n 0, 1) := by decide +kernel
theorem dX1_init_28 : decode cX1_init 28 = .ok (.iconst 0, 1) := by decide +kernel
theorem dX1_init_29 : decode cX1_init 29 = .ok (.putfield 25, 3) := by decide +kernel
theorem dX1_init_32 : decode cX1_init 32 = .ok (.aload_n 0, 1) := by decide +kernel
theorem dX1_init_33 : decode cX1_init 33 = .ok (.iconst 0, 1) := by decide +kernel
theorem dX1_init_34 : decode cX1_init 34 = .ok (.putfield 28, 3) := by decide +kernel
theorem dX1_init_37 : decode cX1_init 37 = .ok (.aload_n 0, 1) := by decide +kernel
theorem dX1_init_38 : decode cX1_init 38 = .ok (.bipush 13, 2) := by decide +kernel
theorem dX1_init_40 : decode cX1_init 40 = .ok (.putfield 31, 3) := by decide +kernel
theorem dX1_init_43 : decode cX1_init 43 = .ok (.return_, 1) := by decide +kernel
theorem dX3_init_0 : decode cX3_init 0 = .ok (.aload_n 0, 1) := by decide +kernel
theorem dX3_init_1 : decode cX3_init 1 = .ok (.invokespecial 3, 3) := by decide +kernel
theorem dX3_init_4 : decode cX3_init 4 = .ok (.aload_n 0, 1) := by decide +kernel
theorem dX3_init_5 : decode cX3_init 5 = .ok (.sipush 300, 3) := by decide +kernel
theorem dX3_init_8 : decode cX3_init 8 = .ok (.newarray .int, 2) := by decide +kernel
theorem dX3_init_10 : decode cX3_init 10 = .ok (.putfield 9, 3) := by decide +kernel
theorem dX3_init_13 : decode cX3_init 13 = .ok (.aload_n 0, 1) := by decide +kernel
theorem dX3_init_14 : decode cX3_init 14 = .ok (.iconst 4, 1) := by decide +kernel
theorem dX3_init_15 : decode cX3_init 15 = .ok (.newarray .int, 2) := by decide +kernel
theorem dX3_init_17 : decode cX3_init 17 = .ok (.putfield 15, 3) := by decide +kernel
theorem dX3_init_20 : decode cX3_init 20 = .ok (.aload_n 0, 1) := by decide +kernel
theorem dX3_init_21 : decode cX3_init 21 = .ok (.iconst 4, 1) := by decide +kernel
theorem dX3_init_22 : decode cX3_init 22 = .ok (.newarray .int, 2) := by decide +kernel
theorem dX3_init_24 : decode cX3_init 24 = .ok (.putfield 18, 3) := by decide +kernel
theorem dX3_init_27 : decode cX3_init 27 = .ok (.aload_n 0, 1) := by decide +kernel
theorem dX3_init_28 : decode cX3_init 28 = .ok (.iconst 0, 1) := by decide +kernel
theorem dX3_init_29 : decode cX3_init 29 = .ok (.putfield 21, 3) := by decide +kernel
theorem dX3_init_32 : decode cX3_init 32 = .ok (.return_, 1) := by decide +kernel
theorem dX4_init_0 : decode cX4_init 0 = .ok (.aload_n 0, 1) := by decide +kernel
theorem dX4_init_1 : decode cX4_init 1 = .ok (.invokespecial 3, 3) := by decide +kernel
theorem dX4_init_4 : decode cX4_init 4 = .ok (.aload_n 0, 1) := by decide +kernel
theorem dX4_init_5 : decode cX4_init 5 = .ok (.bipush 6, 2) := by decide +kernel
theorem dX4_init_7 : decode cX4_init 7 = .ok (.newarray .int, 2) := by decide +kernel
theorem dX4_init_9 : decode cX4_init 9 = .ok (.putfield 9, 3) := by decide +kernel
theorem dX4_init_12 : decode cX4_init 12 = .ok (.aload_n 0, 1) := by decide +kernel
theorem dX4_init_13 : decode cX4_init 13 = .ok (.bipush 6, 2) := by decide +kernel
theorem dX4_init_15 : decode cX4_init 15 = .ok (.newarray .int, 2) := by decide +kernel
theorem dX4_init_17 : decode cX4_init 17 = .ok (.putfield 15, 3) := by decide +kernel
theorem dX4_init_20 : decode cX4_init 20 = .ok (.aload_n 0, 1) := by decide +kernel
theorem dX4_init_21 : decode cX4_init 21 = .ok (.iconst 0, 1) := by decide +kernel
theorem dX4_init_22 : decode cX4_init 22 = .ok (.putfield 18, 3) := by decide +kernel
theorem dX4_init_25 : decode cX4_init 25 = .ok (.return_, 1) := by decide +kernel
theorem dX9_init_0 : decode cX9_init 0 = .ok (.aload_n 0, 1) := by decide +kernel
theorem dX9_init_1 : decode cX9_init 1 = .ok (.invokespecial 3, 3) := by decide +kernel
theorem dX9_init_4 : decode cX9_init 4 = .ok (.aload_n 0, 1) := by decide +kernel
theorem dX9_init_5 : decode cX9_init 5 = .ok (.sipush 300, 3) := by decide +kernel
theorem dX9_init_8 : decode cX9_init 8 = .ok (.newarray .int, 2) := by decide +kernel
theorem dX9_init_10 : decode cX9_init 10 = .ok (.putfield 9, 3) := by decide +kernel
theorem dX9_init_13 : decode cX9_init 13 = .ok (.aload_n 0, 1) := by decide +kernel
theorem dX9_init_14 : decode cX9_init 14 = .ok (.iconst 4, 1) := by decide +kernel
theorem dX9_init_15 : decode cX9_init 15 = .ok (.newarray .int, 2) := by decide +kernel
theorem dX9_init_17 : decode cX9_init 17 = .ok (.putfield 15, 3) := by decide +kernel
theorem dX9_init_20 : decode cX9_init 20 = .ok (.aload_n 0, 1) := by decide +kernel
theorem dX9_init_21 : decode cX9_init 21 = .ok (.iconst 4, 1) := by decide +kernel
theorem dX9_init_22 : decode cX9_init 22 = .ok (.newarray .int, 2) := by decide +kernel
theorem dX9_init_24 : decode cX9_init 24 = .ok (.putfield 18, 3) := by decide +kernel
theorem dX9_init_27 : decode cX9_init 27 = .ok (.aload_n 0, 1) := by decide +kernel
theorem dX9_init_28 : decode cX9_init 28 = .ok (.bipush 24, 2) := by decide +kernel
theorem dX9_init_30 : decode cX9_init 30 = .ok (.newarray .int, 2) := by decide +kernel
theorem dX9_init_32 : decode cX9_init 32 = .ok (.putfield 21, 3) := by decide +kernel
theorem dX9_init_35 : decode cX9_init 35 = .ok (.aload_n 0, 1) := by decide +kernel
theorem dX9_init_36 : decode cX9_init 36 = .ok (.bipush 24, 2) := by decide +kernel
theorem dX9_init_38 : decode cX9_init 38 = .ok (.newarray .int, 2) := by decide +kernel
theorem dX9_init_40 : decode cX9_init 40 = .ok (.putfield 24, 3) := by decide +kernel
theorem dX9_init_43 : decode cX9_init 43 = .ok (.aload_n 0, 1) := by decide +kernel
theorem dX9_init_44 : decode cX9_init 44 = .ok (.iconst 0, 1) := by decide +kernel
theorem dX9_init_45 : decode cX9_init 45 = .ok (.putfield 27, 3) := by decide +kernel
theorem dX9_init_48 : decode cX9_init 48 = .ok (.aload_n 0, 1) := by decide +kernel
theorem dX9_init_49 : decode cX9_init 49 = .ok (.iconst 0, 1) := by decide +kernel
theorem dX9_init_50 : decode cX9_init 50 = .ok (.putfield 31, 3) := by decide +kernel
theorem dX9_init_53 : decode cX9_init 53 = .ok (.return_, 1) := by decide +kernel
theorem dX7_init_0 : decode cX7_init 0 = .ok (.aload_n 0, 1) := by decide +kernel
theorem dX7_init_1 : decode cX7_init 1 = .ok (.invokespecial 3, 3) := by decide +kernel
theorem dX7_init_4 : decode cX7_init 4 = .ok (.aload_n 0, 1) := by decide +kernel
theorem dX7_init_5 : decode cX7_init 5 = .ok (.sipush 300, 3) := by decide +kernel
theorem dX7_init_8 : decode cX7_init 8 = .ok (.newarray .int, 2) := by decide +kernel
theorem dX7_init_10 : decode cX7_init 10 = .ok (.putfield 9, 3) := by decide +kernel
theorem dX7_init_13 : decode cX7_init 13 = .ok (.aload_n 0, 1) := by decide +kernel
theorem dX7_init_14 : decode cX7_init 14 = .ok (.sipush 301, 3) := by decide +kernel
theorem dX7_init_17 : decode cX7_init 17 = .ok (.newarray .int, 2) := by decide +kernel
theorem dX7_init_19 : decode cX7_init 19 = .ok (.putfield 15, 3) := by decide +kernel
theorem dX7_init_22 : decode cX7_init 22 = .ok (.aload_n 0, 1) := by decide +kernel
theorem dX7_init_23 : decode cX7_init 23 = .ok (.sipush 301, 3) := by decide +kernel
theorem dX7_init_26 : decode cX7_init 26 = .ok (.newarray .int, 2) := by decide +kernel
theorem dX7_init_28 : decode cX7_init 28 = .ok (.putfield 18, 3) := by decide +kernel
theorem dX7_init_31 : decode cX7_init 31 = .ok (.aload_n 0, 1) := by decide +kernel
theorem dX7_init_32 : decode cX7_init 32 = .ok (.sipush 301, 3) := by decide +kernel
theorem dX7_init_35 : decode cX7_init 35 = .ok (.newarray .int, 2) := by decide +kernel
theorem dX7_init_37 : decode cX7_init 37 = .ok (.putfield 21, 3) := by decide +kernel
theorem dX7_init_40 : decode cX7_init 40 = .ok (.aload_n 0, 1) := by decide +kernel
theorem dX7_init_41 : decode cX7_init 41 = .ok (.iconst 0, 1) := by decide +kernel
theorem dX7_init_42 : decode cX7_init 42 = .ok (.putfield 24, 3) := by decide +kernel
theorem dX7_init_45 : decode cX7_init 45 = .ok (.aload_n 0, 1) := by decide +kernel
theorem dX7_init_46 : decode cX7_init 46 = .ok (.iconst 0, 1) := by decide +kernel
theorem dX7_init_47 : decode cX7_init 47 = .ok (.putfield 28, 3) := by decide +kernel
theorem dX7_init_50 : decode cX7_init 50 = .ok (.return_, 1) := by decide +kernel
theorem dX8_init_0 : decode cX8_init 0 = .ok (.aload_n 0, 1) := by decide +kernel
theorem dX8_init_1 : decode cX8_init 1 = .ok (.invokespecial 3, 3) := by decide +kernel
theorem dX8_init_4 : decode cX8_init 4 = .ok (.aload_n 0, 1) := by decide +kernel
theorem dX8_init_5 : decode cX8_init 5 = .ok (.bipush 6, 2) := by decide +kernel
theorem dX8_init_7 : decode cX8_init 7 = .ok (.newarray .int, 2) := by decide +kernel
theorem dX8_init_9 : decode cX8_init 9 = .ok (.putfield 9, 3) := by decide +kernel
theorem dX8_init_12 : decode cX8_init 12 = .ok (.aload_n 0, 1) := by decide +kernel
theorem dX8_init_13 : decode cX8_init 13 = .ok (.bipush 6, 2) := by decide +kernel
theorem dX8_init_15 : decode cX8_init 15 = .ok (.newarray .int, 2) := by decide +kernel
theorem dX8_init_17 : decode cX8_init 17 = .ok (.putfield 15, 3) := by decide +kernel
theorem dX8_init_20 : decode cX8_init 20 = .ok (.aload_n 0, 1) := by decide +kernel
theorem dX8_init_21 : decode cX8_init 21 = .ok (.iconst 0, 1) := by decide +kernel
theorem dX8_init_22 : decode cX8_init 22 = .ok (.putfield 18, 3) := by decide +kernel
theorem dX8_init_25 : decode cX8_init 25 = .ok (.aload_n 0, 1) := by decide +kernel
theorem dX8_init_26 : decode cX8_init 26 = .ok (.iconst (-1), 1) := by decide +kernel
theorem dX8_init_27 : decode cX8_init 27 = .ok (.putfield 22, 3) := by decide +kernel
theorem dX8_init_30 : decode cX8_init 30 = .ok (.return_, 1) := by decide +kernel
theorem dX2_init_0 : decode cX2_init 0 = .ok (.aload_n 0, 1) := by decide +kernel
theorem dX2_init_1 : decode cX2_init 1 = .ok (.invokespecial 3, 3) := by decide +kernel
theorem dX2_init_4 : decode cX2_init 4 = .ok (.aload_n 0, 1) := by decide +kernel
theorem dX2_init_5 : decode cX2_init 5 = .ok (.new 9, 3) := by decide +kernel
theorem dX2_init_8 : decode cX2_init 8 = .ok (.dup, 1) := by decide +kernel
theorem dX2_init_9 : decode cX2_init 9 = .ok (.invokespecial 11, 3) := by decide +kernel
theorem dX2_init_12 : decode cX2_init 12 = .ok (.putfield 12, 3) := by decide +kernel
theorem dX2_init_15 : decode cX2_init 15 = .ok (.aload_n 0, 1) := by decide +kernel
theorem dX2_init_16 : decode cX2_init 16 = .ok (.iconst (-1), 1) := by decide +kernel
theorem dX2_init_17 : decode cX2_init 17 = .ok (.putfield 18, 3) := by decide +kernel
theorem dX2_init_20 : decode cX2_init 20 = .ok (.aload_n 0, 1) := by decide +kernel
theorem dX2_init_21 : decode cX2_init 21 = .ok (.iconst (-1), 1) := by decide +kernel
theorem dX2_init_22 : decode cX2_init 22 = .ok (.putfield 22, 3) := by decide +kernel
theorem dX2_init_25 : decode cX2_init 25 = .ok (.aload_n 0, 1) := by decide +kernel
theorem dX2_init_26 : decode cX2_init 26 = .ok (.iconst 0, 1) := by decide +kernel
theorem dX2_init_27 : decode cX2_init 27 = .ok (.putfield 25, 3) := by decide +kernel
theorem dX2_init_30 : decode cX2_init 30 = .ok (.aload_n 0, 1) := by decide +kernel
theorem dX2_init_31 : decode cX2_init 31 = .ok (.bipush 37, 2) := by decide +kernel
theorem dX2_init_33 : decode cX2_init 33 = .ok (.putfield 28, 3) := by decide +kernel
theorem dX2_init_36 : decode cX2_init 36 = .ok (.aload_n 0, 1) := by decide +kernel
theorem dX2_init_37 : decode cX2_init 37 = .ok (.iconst 0, 1) := by decide +kernel
theorem dX2_init_38 : decode cX2_init 38 = .ok (.putfield 31, 3) := by decide +kernel
theorem dX2_init_41 : decode cX2_init 41 = .ok (.aload_n 0, 1) := by decide +kernel
theorem dX2_init_42 : decode cX2_init 42 = .ok (.new 34, 3) := by decide +kernel
theorem dX2_init_45 : decode cX2_init 45 = .ok (.dup, 1) := by decide +kernel
theorem dX2_init_46 : decode cX2_init 46 = .ok (.invokespecial 36, 3) := by decide +kernel
theorem dX2_init_49 : decode cX2_init 49 = .ok (.putfield 37, 3) := by decide +kernel
theorem dX2_init_52 : decode cX2_init 52 = .ok (.return_, 1) := by decide +kernel
theorem dX12_init_0 : decode cX12_init 0 = .ok (.aload_n 0, 1) := by decide +kernel
theorem dX12_init_1 : decode cX12_init 1 = .ok (.invokespecial 1, 3) := by decide +kernel
theorem dX12_init_4 : decode cX12_init 4 = .ok (.aload_n 0, 1) := by decide +kernel
theorem dX12_init_5 : decode cX12_init 5 = .ok (.sipush 862, 3) := by decide +kernel
theorem dX12_init_8 : decode cX12_init 8 = .ok (.newarray .int, 2) := by decide +kernel
theorem dX12_init_10 : decode cX12_init 10 = .ok (.putfield 7, 3) := by decide +kernel
theorem dX12_init_13 : decode cX12_init 13 = .ok (.aload_n 0, 1) := by decide +kernel
theorem dX12_init_14 : decode cX12_init 14 = .ok (.sipush 862, 3) := by decide +kernel
theorem dX12_init_17 : decode cX12_init 17 = .ok (.newarray .int, 2) := by decide +kernel
theorem dX12_init_19 : decode cX12_init 19 = .ok (.putfield 13, 3) := by decide +kernel
theorem dX12_init_22 : decode cX12_init 22 = .ok (.aload_n 0, 1) := by decide +kernel
theorem dX12_init_23 : decode cX12_init 23 = .ok (.sipush 2720, 3) := by decide +kernel
theorem dX12_init_26 : decode cX12_init 26 = .ok (.newarray .int, 2) := by decide +kernel
theorem dX12_init_28 : decode cX12_init 28 = .ok (.putfield 16, 3) := by decide +kernel
theorem dX12_init_31 : decode cX12_init 31 = .ok (.aload_n 0, 1) := by decide +kernel
theorem dX12_init_32 : decode cX12_init 32 = .ok (.sipush 300, 3) := by decide +kernel
theorem dX12_init_35 : decode cX12_init 35 = .ok (.newarray .int, 2) := by decide +kernel
theorem dX12_init_37 : decode cX12_init 37 = .ok (.putfield 19, 3) := by decide +kernel
theorem dX12_init_40 : decode cX12_init 40 = .ok (.aload_n 0, 1) := by decide +kernel
theorem dX12_init_41 : decode cX12_init 41 = .ok (.iconst (-1), 1) := by decide +kernel
theorem dX12_init_42 : decode cX12_init 42 = .ok (.putfield 22, 3) := by decide +kernel
theorem dX12_init_45 : decode cX12_init 45 = .ok (.aload_n 0, 1) := by decide +kernel
theorem dX12_init_46 : decode cX12_init 46 = .ok (.iconst (-1), 1) := by decide +kernel
theorem dX12_init_47 : decode cX12_init 47 = .ok (.putfield 26, 3) := by decide +kernel
theorem dX12_init_50 : decode cX12_init 50 = .ok (.aload_n 0, 1) := by decide +kernel
theorem dX12_init_51 : decode cX12_init 51 = .ok (.sipush 160, 3) := by decide +kernel
theorem dX12_init_54 : decode cX12_init 54 = .ok (.newarray .int, 2) := by decide +kernel
theorem dX12_init_56 : decode cX12_init 56 = .ok (.putfield 29, 3) := by decide +kernel
theorem dX12_init_59 : decode cX12_init 59 = .ok (.aload_n 0, 1) := by decide +kernel
theorem dX12_init_60 : decode cX12_init 60 = .ok (.bipush 8, 2) := by decide +kernel
theorem dX12_init_62 : decode cX12_init 62 = .ok (.newarray .int, 2) := by decide +kernel
theorem dX12_init_64 : decode cX12_init 64 = .ok (.putfield 32, 3) := by decide +kernel
theorem dX12_init_67 : decode cX12_init 67 = .ok (.aload_n 0, 1) := by decide +kernel
theorem dX12_init_68 : decode cX12_init 68 = .ok (.sipush 330, 3) := by decide +kernel
theorem dX12_init_71 : decode cX12_init 71 = .ok (.newarray .long, 2) := by decide +kernel
theorem dX12_init_73 : decode cX12_init 73 = .ok (.putfield 35, 3) := by decide +kernel
theorem dX12_init_76 : decode cX12_init 76 = .ok (.aload_n 0, 1) := by decide +kernel
theorem dX12_init_77 : decode cX12_init 77 = .ok (.sipush 330, 3) := by decide +kernel
theorem dX12_init_80 : decode cX12_init 80 = .ok (.newarray .boolean, 2) := by decide +kernel
theorem dX12_init_82 : decode cX12_init 82 = .ok (.putfield 39, 3) := by decide +kernel
theorem dX12_init_85 : decode cX12_init 85 = .ok (.aload_n 0, 1) := by decide +kernel
theorem dX12_init_86 : decode cX12_init 86 = .ok (.bipush 7, 2) := by decide +kernel
theorem dX12_init_88 : decode cX12_init 88 = .ok (.newarray .int, 2) := by decide +kernel
theorem dX12_init_90 : decode cX12_init 90 = .ok (.putfield 43, 3) := by decide +kernel
theorem dX12_init_93 : decode cX12_init 93 = .ok (.aload_n 0, 1) := by decide +kernel
theorem dX12_init_94 : decode cX12_init 94 = .ok (.bipush 7, 2) := by decide +kernel
theorem dX12_init_96 : decode cX12_init 96 = .ok (.newarray .int, 2) := by decide +kernel
theorem dX12_init_98 : decode cX12_init 98 = .ok (.putfield 46, 3) := by decide +kernel
theorem dX12_init_101 : decode cX12_init 101 = .ok (.aload_n 0, 1) := by decide +kernel
theorem dX12_init_102 : decode cX12_init 102 = .ok (.bipush 7, 2) := by decide +kernel
theorem dX12_init_104 : decode cX12_init 104 = .ok (.newarray .int, 2) := by decide +kernel
theorem dX12_init_106 : decode cX12_init 106 = .ok (.putfield 49, 3) := by decide +kernel
theorem dX12_init_109 : decode cX12_init 109 = .ok (.aload_n 0, 1) := by decide +kernel
theorem dX12_init_110 : decode cX12_init 110 = .ok (.bipush 6, 2) := by decide +kernel
theorem dX12_init_112 : decode cX12_init 112 = .ok (.newarray .int, 2) := by decide +kernel
theorem dX12_init_114 : decode cX12_init 114 = .ok (.putfield 52, 3) := by decide +kernel
theorem dX12_init_117 : decode cX12_init 117 = .ok (.aload_n 0, 1) := by decide +kernel
theorem dX12_init_118 : decode cX12_init 118 = .ok (.sipush 1800, 3) := by decide +kernel
theorem dX12_init_121 : decode cX12_init 121 = .ok (.newarray .int, 2) := by decide +kernel
theorem dX12_init_123 : decode cX12_init 123 = .ok (.putfield 55, 3) := by decide +kernel
theorem dX12_init_126 : decode cX12_init 126 = .ok (.aload_n 0, 1) := by decide +kernel
theorem dX12_init_127 : decode cX12_init 127 = .ok (.sipush 1800, 3) := by decide +kernel
theorem dX12_init_130 : decode cX12_init 130 = .ok (.newarray .int, 2) := by decide +kernel
theorem dX12_init_132 : decode cX12_init 132 = .ok (.putfield 58, 3) := by decide +kernel
theorem dX12_init_135 : decode cX12_init 135 = .ok (.aload_n 0, 1) := by decide +kernel
theorem dX12_init_136 : decode cX12_init 136 = .ok (.sipush 300, 3) := by decide +kernel
theorem dX12_init_139 : decode cX12_init 139 = .ok (.newarray .int, 2) := by decide +kernel
theorem dX12_init_141 : decode cX12_init 141 = .ok (.putfield 61, 3) := by decide +kernel
theorem dX12_init_144 : decode cX12_init 144 = .ok (.aload_n 0, 1) := by decide +kernel
theorem dX12_init_145 : decode cX12_init 145 = .ok (.bipush 64, 2) := by decide +kernel
theorem dX12_init_147 : decode cX12_init 147 = .ok (.newarray .int, 2) := by decide +kernel
theorem dX12_init_149 : decode cX12_init 149 = .ok (.putfield 64, 3) := by decide +kernel
theorem dX12_init_152 : decode cX12_init 152 = .ok (.aload_n 0, 1) := by decide +kernel
theorem dX12_init_153 : decode cX12_init 153 = .ok (.getfield 7, 3) := by decide +kernel
theorem dX12_init_156 : decode cX12_init 156 = .ok (.bipush 7, 2) := by decide +kernel
theorem dX12_init_158 : decode cX12_init 158 = .ok (.iconst (-1), 1) := by decide +kernel
theorem dX12_init_159 : decode cX12_init 159 = .ok (.iastore, 1) := by decide +kernel
theorem dX12_init_160 : decode cX12_init 160 = .ok (.aload_n 0, 1) := by decide +kernel
theorem dX12_init_161 : decode cX12_init 161 = .ok (.getfield 7, 3) := by decide +kernel
theorem dX12_init_164 : decode cX12_init 164 = .ok (.iconst 5, 1) := by decide +kernel
theorem dX12_init_165 : decode cX12_init 165 = .ok (.bipush 13, 2) := by decide +kernel
theorem dX12_init_167 : decode cX12_init 167 = .ok (.iastore, 1) := by decide +kernel
theorem dX12_init_168 : decode cX12_init 168 = .ok (.aload_n 0, 1) := by decide +kernel
theorem dX12_init_169 : decode cX12_init 169 = .ok (.getfield 7, 3) := by decide +kernel
theorem dX12_init_172 : decode cX12_init 172 = .ok (.aload_n 0, 1) := by decide +kernel
theorem dX12_init_173 : decode cX12_init 173 = .ok (.getfield 13, 3) := by decide +kernel
theorem dX12_init_176 : decode cX12_init 176 = .ok (.invokestatic 67, 3) := by decide +kernel
theorem dX12_init_179 : decode cX12_init 179 = .ok (.return_, 1) := by decide +kernel
theorem bw_108 : Cond.instanceMethod ⟨"java/lang/Object", "<init>", "()V"⟩ ∈ BW := bw_at 108 (by decide +kernel) (by decide +kernel)
theorem bw_109 : Cond.code ⟨"java/lang/Object", "<init>", "()V"⟩ object_method_1_code 1 none ∈ BW := bw_at 109 (by decide +kernel) (by decide +kernel)
theorem bw_133 : Cond.methodLink "CountingHorses$Road" 3 ⟨"java/lang/Object", "<init>", "()V"⟩ ∈ BW := bw_at 133 (by decide +kernel) (by decide +kernel)
theorem bw_134 : Cond.fieldLink "CountingHorses$Road" 9 "CountingHorses$Road" "mud" "[I" ∈ BW := bw_at 134 (by decide +kernel) (by decide +kernel)
theorem bw_137 : Cond.fieldLink "CountingHorses$Road" 15 "CountingHorses$Road" "bridgeFrom" "[I" ∈ BW := bw_at 137 (by decide +kernel) (by decide +kernel)
theorem bw_139 : Cond.fieldLink "CountingHorses$Road" 18 "CountingHorses$Road" "bridgeTo" "[I" ∈ BW := bw_at 139 (by decide +kernel) (by decide +kernel)
theorem bw_141 : Cond.fieldLink "CountingHorses$Road" 21 "CountingHorses$Road" "bridges" "I" ∈ BW := bw_at 141 (by decide +kernel) (by decide +kernel)
theorem bw_152 : Cond.arrayClass .int ∈ BW := bw_at 152 (by decide +kernel) (by decide +kernel)
theorem bw_158 : Cond.methodLink "CountingHorses$Stable" 3 ⟨"java/lang/Object", "<init>", "()V"⟩ ∈ BW := bw_at 158 (by decide +kernel) (by decide +kernel)
theorem bw_159 : Cond.fieldLink "CountingHorses$Stable" 9 "CountingHorses$Stable" "count" "[I" ∈ BW := bw_at 159 (by decide +kernel) (by decide +kernel)
theorem bw_162 : Cond.fieldLink "CountingHorses$Stable" 15 "CountingHorses$Stable" "shoe" "[I" ∈ BW := bw_at 162 (by decide +kernel) (by decide +kernel)
theorem bw_165 : Cond.fieldLink "CountingHorses$Stable" 18 "CountingHorses$Stable" "horses" "I" ∈ BW := bw_at 165 (by decide +kernel) (by decide +kernel)
theorem bw_180 : Cond.methodLink "CountingHorses$Mail" 3 ⟨"java/lang/Object", "<init>", "()V"⟩ ∈ BW := bw_at 180 (by decide +kernel) (by decide +kernel)
theorem bw_181 : Cond.fieldLink "CountingHorses$Mail" 9 "CountingHorses$Mail" "innAt" "[I" ∈ BW := bw_at 181 (by decide +kernel) (by decide +kernel)
theorem bw_185 : Cond.fieldLink "CountingHorses$Mail" 19 "CountingHorses$Mail" "place" "I" ∈ BW := bw_at 185 (by decide +kernel) (by decide +kernel)
theorem bw_187 : Cond.fieldLink "CountingHorses$Mail" 22 "CountingHorses$Mail" "oats" "I" ∈ BW := bw_at 187 (by decide +kernel) (by decide +kernel)
theorem bw_189 : Cond.fieldLink "CountingHorses$Mail" 25 "CountingHorses$Mail" "drives" "I" ∈ BW := bw_at 189 (by decide +kernel) (by decide +kernel)
theorem bw_191 : Cond.fieldLink "CountingHorses$Mail" 28 "CountingHorses$Mail" "day" "I" ∈ BW := bw_at 191 (by decide +kernel) (by decide +kernel)
theorem bw_194 : Cond.fieldLink "CountingHorses$Mail" 31 "CountingHorses$Mail" "x" "I" ∈ BW := bw_at 194 (by decide +kernel) (by decide +kernel)
theorem bw_292 : Cond.instantiable "CountingHorses$Text" 7 ∈ BW := bw_at 292 (by decide +kernel) (by decide +kernel)
theorem bw_294 : Cond.instanceMethod ⟨"CountingHorses$Text", "<init>", "()V"⟩ ∈ BW := bw_at 294 (by decide +kernel) (by decide +kernel)
theorem bw_295 : Cond.code ⟨"CountingHorses$Text", "<init>", "()V"⟩ prog_11_method_1_code 1 none ∈ BW := bw_at 295 (by decide +kernel) (by decide +kernel)
theorem bw_296 : Cond.methodLink "CountingHorses$Text" 3 ⟨"java/lang/Object", "<init>", "()V"⟩ ∈ BW := bw_at 296 (by decide +kernel) (by decide +kernel)
theorem bw_297 : Cond.fieldLink "CountingHorses$Text" 9 "CountingHorses$Text" "code" "[I" ∈ BW := bw_at 297 (by decide +kernel) (by decide +kernel)
theorem bw_306 : Cond.fieldLink "CountingHorses$Text" 21 "CountingHorses$Text" "clauseKind" "[I" ∈ BW := bw_at 306 (by decide +kernel) (by decide +kernel)
theorem bw_308 : Cond.fieldLink "CountingHorses$Text" 24 "CountingHorses$Text" "clauseNumber" "[I" ∈ BW := bw_at 308 (by decide +kernel) (by decide +kernel)
theorem bw_388 : Cond.methodLink "CountingHorses$Reader" 3 ⟨"java/lang/Object", "<init>", "()V"⟩ ∈ BW := bw_at 388 (by decide +kernel) (by decide +kernel)
theorem bw_389 : Cond.classLink "CountingHorses$Reader" 9 "CountingHorses$Tape" ∈ BW := bw_at 389 (by decide +kernel) (by decide +kernel)
theorem bw_390 : Cond.instantiable "CountingHorses$Tape" 6 ∈ BW := bw_at 390 (by decide +kernel) (by decide +kernel)
theorem bw_392 : Cond.instanceMethod ⟨"CountingHorses$Tape", "<init>", "()V"⟩ ∈ BW := bw_at 392 (by decide +kernel) (by decide +kernel)
theorem bw_393 : Cond.code ⟨"CountingHorses$Tape", "<init>", "()V"⟩ prog_9_method_1_code 1 none ∈ BW := bw_at 393 (by decide +kernel) (by decide +kernel)
theorem bw_394 : Cond.methodLink "CountingHorses$Tape" 3 ⟨"java/lang/Object", "<init>", "()V"⟩ ∈ BW := bw_at 394 (by decide +kernel) (by decide +kernel)
theorem bw_419 : Cond.classLink "CountingHorses$Reader" 34 "CountingHorses$Text" ∈ BW := bw_at 419 (by decide +kernel) (by decide +kernel)
theorem bw_451 : Cond.methodLink "CountingHorses$Team" 3 ⟨"java/lang/Object", "<init>", "()V"⟩ ∈ BW := bw_at 451 (by decide +kernel) (by decide +kernel)
theorem bw_1015 : Cond.methodLink "CountingHorsesModel" 1 ⟨"java/lang/Object", "<init>", "()V"⟩ ∈ BW := bw_at 1015 (by decide +kernel) (by decide +kernel)
theorem bw_1033 : Cond.fieldLink "CountingHorsesModel" 29 "CountingHorsesModel" "pile" "[I" ∈ BW := bw_at 1033 (by decide +kernel) (by decide +kernel)
theorem bw_1039 : Cond.fieldLink "CountingHorsesModel" 32 "CountingHorsesModel" "named" "[I" ∈ BW := bw_at 1039 (by decide +kernel) (by decide +kernel)
theorem bw_1040 : Cond.fieldLink "CountingHorsesModel" 35 "CountingHorsesModel" "values" "[J" ∈ BW := bw_at 1040 (by decide +kernel) (by decide +kernel)
theorem bw_1041 : Cond.fieldLink "CountingHorsesModel" 39 "CountingHorsesModel" "truth" "[Z" ∈ BW := bw_at 1041 (by decide +kernel) (by decide +kernel)
theorem bw_1045 : Cond.fieldLink "CountingHorsesModel" 43 "CountingHorsesModel" "row" "[I" ∈ BW := bw_at 1045 (by decide +kernel) (by decide +kernel)
theorem bw_1046 : Cond.fieldLink "CountingHorsesModel" 46 "CountingHorsesModel" "stops" "[I" ∈ BW := bw_at 1046 (by decide +kernel) (by decide +kernel)
theorem bw_1047 : Cond.fieldLink "CountingHorsesModel" 49 "CountingHorsesModel" "oats" "[I" ∈ BW := bw_at 1047 (by decide +kernel) (by decide +kernel)
theorem bw_1048 : Cond.fieldLink "CountingHorsesModel" 52 "CountingHorsesModel" "best" "[I" ∈ BW := bw_at 1048 (by decide +kernel) (by decide +kernel)
theorem bw_1049 : Cond.fieldLink "CountingHorsesModel" 55 "CountingHorsesModel" "allStops" "[I" ∈ BW := bw_at 1049 (by decide +kernel) (by decide +kernel)
theorem bw_1050 : Cond.fieldLink "CountingHorsesModel" 58 "CountingHorsesModel" "allOats" "[I" ∈ BW := bw_at 1050 (by decide +kernel) (by decide +kernel)
theorem bw_1126 : Cond.arrayClass .long ∈ BW := bw_at 1126 (by decide +kernel) (by decide +kernel)
theorem bw_1127 : Cond.arrayClass .boolean ∈ BW := bw_at 1127 (by decide +kernel) (by decide +kernel)
set_option maxHeartbeats 4000000 in
set_option maxRecDepth 100000 in
theorem c_X1_init (l : Launch) (D : va_G) (cI cM cT : ClassId) (mA : Nat) : Cv l D (ty3 cI cM cT) yX1_init cX1_init 1 1 1 10 [.ref mA] ([(mA, .inr (1, [.null, .int 0, .int 0, .int 0, .int 0, .int 0, .int 0]))]) (fun u => ∃ (iA : Nat), u = [(mA, .inr (1, [.ref iA, .int 0, .int 0, .int 0, .int 0, .int 0, .int 13])), (iA, .inl (cI, 10, .inl (fun _ => 0)))]) := by
  refine Cv.of (by decide +kernel) (Nat.le_of_ble_eq_true rfl) ?_
  intro p e s m below meth c A ls Z hin hP hD hl
  have hx := Z.1
  have hb := Z.2.1
  have hS : va_S A s.heap s.heap [] := va_S.rf
  have hl : lv_has ls 1 [(0, .ref mA)] := hl
  skip
  refine lv_aload_n hx hb dX1_init_0 rfl (lv_at hl 0 rfl) ?_
  refine z_obj Z hl.1 bw_180 bw_108 bw_109 dX1_init_1 (Nat.le_of_ble_eq_true rfl) (Nat.le_of_ble_eq_true rfl) ?_
  refine lv_aload_n hx hb dX1_init_4 rfl (lv_at hl 0 rfl) ?_
  refine lv_bipush (v := 10) hx hb dX1_init_5 (by decide) ?_
  refine z_newi (N := 10) Z bw_152 hP hD hS 0 rfl (by decide) (by decide) (by decide) (Nat.le_of_ble_eq_true rfl) (Nat.le_of_ble_eq_true rfl) dX1_init_7 (fun q1 H hP hD hS => ?_)
  have hP : va_P D vwCl ([(mA, .inr (1, [.null, .int 0, .int 0, .int 0, .int 0, .int 0, .int 0])), (q1, .inl (cI, 10, .inl (fun _ => 0)))]) H := hP
  have hD : va_D A ([(mA, .inr (1, [.null, .int 0, .int 0, .int 0, .int 0, .int 0, .int 0])), (q1, .inl (cI, 10, .inl (fun _ => 0)))]) := hD
  refine z_putF Z i_X1 tyX1 tyX1_ok nmX1 hP hD hS 0 rfl rfl 0 (by decide) bw_181 rfl hin rfl rfl rfl (Nat.le_of_ble_eq_true rfl) dX1_init_9 (fun H locs hP hD hS => ?_)
  have hP : va_P D vwCl ([(mA, .inr (1, [.ref q1, .int 0, .int 0, .int 0, .int 0, .int 0, .int 0])), (q1, .inl (cI, 10, .inl (fun _ => 0)))]) H := hP
  have hD : va_D A ([(mA, .inr (1, [.ref q1, .int 0, .int 0, .int 0, .int 0, .int 0, .int 0])), (q1, .inl (cI, 10, .inl (fun _ => 0)))]) := hD
  refine lv_aload_n hx hb dX1_init_12 rfl (lv_at hl 0 rfl) ?_
  refine lv_iconst (v := 0) hx hb dX1_init_13 (by decide) ?_
  refine z_put Z i_X1 tyX1 tyX1_ok nmX1 hP hD hS 0 rfl rfl 1 (by decide) bw_183 rfl rfl rfl (Nat.le_of_ble_eq_true rfl) dX1_init_14 (fun H locs hP hD hS => ?_)
  have hP : va_P D vwCl ([(mA, .inr (1, [.ref q1, .int 0, .int 0, .int 0, .int 0, .int 0, .int 0])), (q1, .inl (cI, 10, .inl (fun _ => 0)))]) H := hP
  have hD : va_D A ([(mA, .inr (1, [.ref q1, .int 0, .int 0, .int 0, .int 0, .int 0, .int 0])), (q1, .inl (cI, 10, .inl (fun _ => 0)))]) := hD
  refine lv_aload_n hx hb dX1_init_17 rfl (lv_at hl 0 rfl) ?_
  refine lv_iconst (v := 0) hx hb dX1_init_18 (by decide) ?_
  refine z_put Z i_X1 tyX1 tyX1_ok nmX1 hP hD hS 0 rfl rfl 2 (by decide) bw_185 rfl rfl rfl (Nat.le_of_ble_eq_true rfl) dX1_init_19 (fun H locs hP hD hS => ?_)
  have hP : va_P D vwCl ([(mA, .inr (1, [.ref q1, .int 0, .int 0, .int 0, .int 0, .int 0, .int 0])), (q1, .inl (cI, 10, .inl (fun _ => 0)))]) H := hP
  have hD : va_D A ([(mA, .inr (1, [.ref q1, .int 0, .int 0, .int 0, .int 0, .int 0, .int 0])), (q1, .inl (cI, 10, .inl (fun _ => 0)))]) := hD
  refine lv_aload_n hx hb dX1_init_22 rfl (lv_at hl 0 rfl) ?_
  refine lv_iconst (v := 0) hx hb dX1_init_23 (by decide) ?_
  refine z_put Z i_X1 tyX1 tyX1_ok nmX1 hP hD hS 0 rfl rfl 3 (by decide) bw_187 rfl rfl rfl (Nat.le_of_ble_eq_true rfl) dX1_init_24 (fun H locs hP hD hS => ?_)
  have hP : va_P D vwCl ([(mA, .inr (1, [.ref q1, .int 0, .int 0, .int 0, .int 0, .int 0, .int 0])), (q1, .inl (cI, 10, .inl (fun _ => 0)))]) H := hP
  have hD : va_D A ([(mA, .inr (1, [.ref q1, .int 0, .int 0, .int 0, .int 0, .int 0, .int 0])), (q1, .inl (cI, 10, .inl (fun _ => 0)))]) := hD
  refine lv_aload_n hx hb dX1_init_27 rfl (lv_at hl 0 rfl) ?_
  refine lv_iconst (v := 0) hx hb dX1_init_28 (by decide) ?_
  refine z_put Z i_X1 tyX1 tyX1_ok nmX1 hP hD hS 0 rfl rfl 4 (by decide) bw_189 rfl rfl rfl (Nat.le_of_ble_eq_true rfl) dX1_init_29 (fun H locs hP hD hS => ?_)
  have hP : va_P D vwCl ([(mA, .inr (1, [.ref q1, .int 0, .int 0, .int 0, .int 0, .int 0, .int 0])), (q1, .inl (cI, 10, .inl (fun _ => 0)))]) H := hP
  have hD : va_D A ([(mA, .inr (1, [.ref q1, .int 0, .int 0, .int 0, .int 0, .int 0, .int 0])), (q1, .inl (cI, 10, .inl (fun _ => 0)))]) := hD
  refine lv_aload_n hx hb dX1_init_32 rfl (lv_at hl 0 rfl) ?_
  refine lv_iconst (v := 0) hx hb dX1_init_33 (by decide) ?_
  refine z_put Z i_X1 tyX1 tyX1_ok nmX1 hP hD hS 0 rfl rfl 5 (by decide) bw_191 rfl rfl rfl (Nat.le_of_ble_eq_true rfl) dX1_init_34 (fun H locs hP hD hS => ?_)
  have hP : va_P D vwCl ([(mA, .inr (1, [.ref q1, .int 0, .int 0, .int 0, .int 0, .int 0, .int 0])), (q1, .inl (cI, 10, .inl (fun _ => 0)))]) H := hP
  have hD : va_D A ([(mA, .inr (1, [.ref q1, .int 0, .int 0, .int 0, .int 0, .int 0, .int 0])), (q1, .inl (cI, 10, .inl (fun _ => 0)))]) := hD
  refine lv_aload_n hx hb dX1_init_37 rfl (lv_at hl 0 rfl) ?_
  refine lv_bipush (v := 13) hx hb dX1_init_38 (by decide) ?_
  refine z_put Z i_X1 tyX1 tyX1_ok nmX1 hP hD hS 0 rfl rfl 6 (by decide) bw_194 rfl rfl rfl (Nat.le_of_ble_eq_true rfl) dX1_init_40 (fun H locs hP hD hS => ?_)
  have hP : va_P D vwCl ([(mA, .inr (1, [.ref q1, .int 0, .int 0, .int 0, .int 0, .int 0, .int 13])), (q1, .inl (cI, 10, .inl (fun _ => 0)))]) H := hP
  have hD : va_D A ([(mA, .inr (1, [.ref q1, .int 0, .int 0, .int 0, .int 0, .int 0, .int 13])), (q1, .inl (cI, 10, .inl (fun _ => 0)))]) := hD
  exact z_vret Z hP hD hS (⟨q1, rfl⟩) dX1_init_43 (Nat.le_of_ble_eq_true rfl) (Nat.le_of_ble_eq_true rfl)
set_option maxHeartbeats 4000000 in
set_option maxRecDepth 100000 in
theorem c_X3_init (l : Launch) (D : va_G) (cI cM cT : ClassId) (rO : Nat) : Cv l D (ty3 cI cM cT) yX3_init cX3_init 1 1 3 308 [.ref rO] ([(rO, .inr (3, [.null, .null, .null, .int 0]))]) (fun u => ∃ (mU : Nat) (bF : Nat) (bT : Nat), u = [(rO, .inr (3, [.ref mU, .ref bF, .ref bT, .int 0])), (mU, .inl (cI, 300, .inl (fun _ => 0))), (bF, .inl (cI, 4, .inl (fun _ => 0))), (bT, .inl (cI, 4, .inl (fun _ => 0)))]) := by
  refine Cv.of (by decide +kernel) (Nat.le_of_ble_eq_true rfl) ?_
  intro p e s m below meth c A ls Z hin hP hD hl
  have hx := Z.1
  have hb := Z.2.1
  have hS : va_S A s.heap s.heap [] := va_S.rf
  have hl : lv_has ls 1 [(0, .ref rO)] := hl
  skip
  refine lv_aload_n hx hb dX3_init_0 rfl (lv_at hl 0 rfl) ?_
  refine z_obj Z hl.1 bw_133 bw_108 bw_109 dX3_init_1 (Nat.le_of_ble_eq_true rfl) (Nat.le_of_ble_eq_true rfl) ?_
  refine lv_aload_n hx hb dX3_init_4 rfl (lv_at hl 0 rfl) ?_
  refine lv_sipush (v := 300) hx hb dX3_init_5 (by decide) ?_
  refine z_newi (N := 300) Z bw_152 hP hD hS 0 rfl (by decide) (by decide) (by decide) (Nat.le_of_ble_eq_true rfl) (Nat.le_of_ble_eq_true rfl) dX3_init_8 (fun q1 H hP hD hS => ?_)
  have hP : va_P D vwCl ([(rO, .inr (3, [.null, .null, .null, .int 0])), (q1, .inl (cI, 300, .inl (fun _ => 0)))]) H := hP
  have hD : va_D A ([(rO, .inr (3, [.null, .null, .null, .int 0])), (q1, .inl (cI, 300, .inl (fun _ => 0)))]) := hD
  refine z_putF Z i_X3 tyX3 tyX3_ok nmX3 hP hD hS 0 rfl rfl 0 (by decide) bw_134 rfl hin rfl rfl rfl (Nat.le_of_ble_eq_true rfl) dX3_init_10 (fun H locs hP hD hS => ?_)
  have hP : va_P D vwCl ([(rO, .inr (3, [.ref q1, .null, .null, .int 0])), (q1, .inl (cI, 300, .inl (fun _ => 0)))]) H := hP
  have hD : va_D A ([(rO, .inr (3, [.ref q1, .null, .null, .int 0])), (q1, .inl (cI, 300, .inl (fun _ => 0)))]) := hD
  refine lv_aload_n hx hb dX3_init_13 rfl (lv_at hl 0 rfl) ?_
  refine lv_iconst (v := 4) hx hb dX3_init_14 (by decide) ?_
  refine z_newi (N := 4) Z bw_152 hP hD hS 0 rfl (by decide) (by decide) (by decide) (Nat.le_of_ble_eq_true rfl) (Nat.le_of_ble_eq_true rfl) dX3_init_15 (fun q2 H hP hD hS => ?_)
  have hP : va_P D vwCl ([(rO, .inr (3, [.ref q1, .null, .null, .int 0])), (q1, .inl (cI, 300, .inl (fun _ => 0))), (q2, .inl (cI, 4, .inl (fun _ => 0)))]) H := hP
  have hD : va_D A ([(rO, .inr (3, [.ref q1, .null, .null, .int 0])), (q1, .inl (cI, 300, .inl (fun _ => 0))), (q2, .inl (cI, 4, .inl (fun _ => 0)))]) := hD
  refine z_putF Z i_X3 tyX3 tyX3_ok nmX3 hP hD hS 0 rfl rfl 1 (by decide) bw_137 rfl hin rfl rfl rfl (Nat.le_of_ble_eq_true rfl) dX3_init_17 (fun H locs hP hD hS => ?_)
  have hP : va_P D vwCl ([(rO, .inr (3, [.ref q1, .ref q2, .null, .int 0])), (q1, .inl (cI, 300, .inl (fun _ => 0))), (q2, .inl (cI, 4, .inl (fun _ => 0)))]) H := hP
  have hD : va_D A ([(rO, .inr (3, [.ref q1, .ref q2, .null, .int 0])), (q1, .inl (cI, 300, .inl (fun _ => 0))), (q2, .inl (cI, 4, .inl (fun _ => 0)))]) := hD
  refine lv_aload_n hx hb dX3_init_20 rfl (lv_at hl 0 rfl) ?_
  refine lv_iconst (v := 4) hx hb dX3_init_21 (by decide) ?_
  refine z_newi (N := 4) Z bw_152 hP hD hS 0 rfl (by decide) (by decide) (by decide) (Nat.le_of_ble_eq_true rfl) (Nat.le_of_ble_eq_true rfl) dX3_init_22 (fun q3 H hP hD hS => ?_)
  have hP : va_P D vwCl ([(rO, .inr (3, [.ref q1, .ref q2, .null, .int 0])), (q1, .inl (cI, 300, .inl (fun _ => 0))), (q2, .inl (cI, 4, .inl (fun _ => 0))), (q3, .inl (cI, 4, .inl (fun _ => 0)))]) H := hP
  have hD : va_D A ([(rO, .inr (3, [.ref q1, .ref q2, .null, .int 0])), (q1, .inl (cI, 300, .inl (fun _ => 0))), (q2, .inl (cI, 4, .inl (fun _ => 0))), (q3, .inl (cI, 4, .inl (fun _ => 0)))]) := hD
  refine z_putF Z i_X3 tyX3 tyX3_ok nmX3 hP hD hS 0 rfl rfl 2 (by decide) bw_139 rfl hin rfl rfl rfl (Nat.le_of_ble_eq_true rfl) dX3_init_24 (fun H locs hP hD hS => ?_)
  have hP : va_P D vwCl ([(rO, .inr (3, [.ref q1, .ref q2, .ref q3, .int 0])), (q1, .inl (cI, 300, .inl (fun _ => 0))), (q2, .inl (cI, 4, .inl (fun _ => 0))), (q3, .inl (cI, 4, .inl (fun _ => 0)))]) H := hP
  have hD : va_D A ([(rO, .inr (3, [.ref q1, .ref q2, .ref q3, .int 0])), (q1, .inl (cI, 300, .inl (fun _ => 0))), (q2, .inl (cI, 4, .inl (fun _ => 0))), (q3, .inl (cI, 4, .inl (fun _ => 0)))]) := hD
  refine lv_aload_n hx hb dX3_init_27 rfl (lv_at hl 0 rfl) ?_
  refine lv_iconst (v := 0) hx hb dX3_init_28 (by decide) ?_
  refine z_put Z i_X3 tyX3 tyX3_ok nmX3 hP hD hS 0 rfl rfl 3 (by decide) bw_141 rfl rfl rfl (Nat.le_of_ble_eq_true rfl) dX3_init_29 (fun H locs hP hD hS => ?_)
  have hP : va_P D vwCl ([(rO, .inr (3, [.ref q1, .ref q2, .ref q3, .int 0])), (q1, .inl (cI, 300, .inl (fun _ => 0))), (q2, .inl (cI, 4, .inl (fun _ => 0))), (q3, .inl (cI, 4, .inl (fun _ => 0)))]) H := hP
  have hD : va_D A ([(rO, .inr (3, [.ref q1, .ref q2, .ref q3, .int 0])), (q1, .inl (cI, 300, .inl (fun _ => 0))), (q2, .inl (cI, 4, .inl (fun _ => 0))), (q3, .inl (cI, 4, .inl (fun _ => 0)))]) := hD
  exact z_vret Z hP hD hS (⟨q1, q2, q3, rfl⟩) dX3_init_32 (Nat.le_of_ble_eq_true rfl) (Nat.le_of_ble_eq_true rfl)
set_option maxHeartbeats 4000000 in
set_option maxRecDepth 100000 in
theorem c_X4_init (l : Launch) (D : va_G) (cI cM cT : ClassId) (sT : Nat) : Cv l D (ty3 cI cM cT) yX4_init cX4_init 1 1 2 12 [.ref sT] ([(sT, .inr (4, [.null, .null, .int 0]))]) (fun u => ∃ (cO : Nat) (sH : Nat), u = [(sT, .inr (4, [.ref cO, .ref sH, .int 0])), (cO, .inl (cI, 6, .inl (fun _ => 0))), (sH, .inl (cI, 6, .inl (fun _ => 0)))]) := by
  refine Cv.of (by decide +kernel) (Nat.le_of_ble_eq_true rfl) ?_
  intro p e s m below meth c A ls Z hin hP hD hl
  have hx := Z.1
  have hb := Z.2.1
  have hS : va_S A s.heap s.heap [] := va_S.rf
  have hl : lv_has ls 1 [(0, .ref sT)] := hl
  skip
  refine lv_aload_n hx hb dX4_init_0 rfl (lv_at hl 0 rfl) ?_
  refine z_obj Z hl.1 bw_158 bw_108 bw_109 dX4_init_1 (Nat.le_of_ble_eq_true rfl) (Nat.le_of_ble_eq_true rfl) ?_
  refine lv_aload_n hx hb dX4_init_4 rfl (lv_at hl 0 rfl) ?_
  refine lv_bipush (v := 6) hx hb dX4_init_5 (by decide) ?_
  refine z_newi (N := 6) Z bw_152 hP hD hS 0 rfl (by decide) (by decide) (by decide) (Nat.le_of_ble_eq_true rfl) (Nat.le_of_ble_eq_true rfl) dX4_init_7 (fun q1 H hP hD hS => ?_)
  have hP : va_P D vwCl ([(sT, .inr (4, [.null, .null, .int 0])), (q1, .inl (cI, 6, .inl (fun _ => 0)))]) H := hP
  have hD : va_D A ([(sT, .inr (4, [.null, .null, .int 0])), (q1, .inl (cI, 6, .inl (fun _ => 0)))]) := hD
  refine z_putF Z i_X4 tyX4 tyX4_ok nmX4 hP hD hS 0 rfl rfl 0 (by decide) bw_159 rfl hin rfl rfl rfl (Nat.le_of_ble_eq_true rfl) dX4_init_9 (fun H locs hP hD hS => ?_)
  have hP : va_P D vwCl ([(sT, .inr (4, [.ref q1, .null, .int 0])), (q1, .inl (cI, 6, .inl (fun _ => 0)))]) H := hP
  have hD : va_D A ([(sT, .inr (4, [.ref q1, .null, .int 0])), (q1, .inl (cI, 6, .inl (fun _ => 0)))]) := hD
  refine lv_aload_n hx hb dX4_init_12 rfl (lv_at hl 0 rfl) ?_
  refine lv_bipush (v := 6) hx hb dX4_init_13 (by decide) ?_
  refine z_newi (N := 6) Z bw_152 hP hD hS 0 rfl (by decide) (by decide) (by decide) (Nat.le_of_ble_eq_true rfl) (Nat.le_of_ble_eq_true rfl) dX4_init_15 (fun q2 H hP hD hS => ?_)
  have hP : va_P D vwCl ([(sT, .inr (4, [.ref q1, .null, .int 0])), (q1, .inl (cI, 6, .inl (fun _ => 0))), (q2, .inl (cI, 6, .inl (fun _ => 0)))]) H := hP
  have hD : va_D A ([(sT, .inr (4, [.ref q1, .null, .int 0])), (q1, .inl (cI, 6, .inl (fun _ => 0))), (q2, .inl (cI, 6, .inl (fun _ => 0)))]) := hD
  refine z_putF Z i_X4 tyX4 tyX4_ok nmX4 hP hD hS 0 rfl rfl 1 (by decide) bw_162 rfl hin rfl rfl rfl (Nat.le_of_ble_eq_true rfl) dX4_init_17 (fun H locs hP hD hS => ?_)
  have hP : va_P D vwCl ([(sT, .inr (4, [.ref q1, .ref q2, .int 0])), (q1, .inl (cI, 6, .inl (fun _ => 0))), (q2, .inl (cI, 6, .inl (fun _ => 0)))]) H := hP
  have hD : va_D A ([(sT, .inr (4, [.ref q1, .ref q2, .int 0])), (q1, .inl (cI, 6, .inl (fun _ => 0))), (q2, .inl (cI, 6, .inl (fun _ => 0)))]) := hD
  refine lv_aload_n hx hb dX4_init_20 rfl (lv_at hl 0 rfl) ?_
  refine lv_iconst (v := 0) hx hb dX4_init_21 (by decide) ?_
  refine z_put Z i_X4 tyX4 tyX4_ok nmX4 hP hD hS 0 rfl rfl 2 (by decide) bw_165 rfl rfl rfl (Nat.le_of_ble_eq_true rfl) dX4_init_22 (fun H locs hP hD hS => ?_)
  have hP : va_P D vwCl ([(sT, .inr (4, [.ref q1, .ref q2, .int 0])), (q1, .inl (cI, 6, .inl (fun _ => 0))), (q2, .inl (cI, 6, .inl (fun _ => 0)))]) H := hP
  have hD : va_D A ([(sT, .inr (4, [.ref q1, .ref q2, .int 0])), (q1, .inl (cI, 6, .inl (fun _ => 0))), (q2, .inl (cI, 6, .inl (fun _ => 0)))]) := hD
  exact z_vret Z hP hD hS (⟨q1, q2, rfl⟩) dX4_init_25 (Nat.le_of_ble_eq_true rfl) (Nat.le_of_ble_eq_true rfl)
set_option maxHeartbeats 4000000 in
set_option maxRecDepth 100000 in
theorem c_X9_init (l : Launch) (D : va_G) (cI cM cT : ClassId) (t0 : Nat) : Cv l D (ty3 cI cM cT) yX9_init cX9_init 1 1 5 356 [.ref t0] ([(t0, .inr (9, [.null, .null, .null, .null, .null, .int 0, .int 0]))]) (fun u => ∃ (cd : Nat) (lF : Nat) (lT : Nat) (cK : Nat) (cM_ : Nat), u = [(t0, .inr (9, [.ref cd, .ref lF, .ref lT, .ref cK, .ref cM_, .int 0, .int 0])), (lF, .inl (cI, 4, .inl (fun _ => 0))), (lT, .inl (cI, 4, .inl (fun _ => 0)))]) := by
  refine Cv.of (by decide +kernel) (Nat.le_of_ble_eq_true rfl) ?_
  intro p e s m below meth c A ls Z hin hP hD hl
  have hx := Z.1
  have hb := Z.2.1
  have hS : va_S A s.heap s.heap [] := va_S.rf
  have hl : lv_has ls 1 [(0, .ref t0)] := hl
  skip
  refine lv_aload_n hx hb dX9_init_0 rfl (lv_at hl 0 rfl) ?_
  refine z_obj Z hl.1 bw_296 bw_108 bw_109 dX9_init_1 (Nat.le_of_ble_eq_true rfl) (Nat.le_of_ble_eq_true rfl) ?_
  refine lv_aload_n hx hb dX9_init_4 rfl (lv_at hl 0 rfl) ?_
  refine lv_sipush (v := 300) hx hb dX9_init_5 (by decide) ?_
  refine z_newi (N := 300) Z bw_152 hP hD hS 0 rfl (by decide) (by decide) (by decide) (Nat.le_of_ble_eq_true rfl) (Nat.le_of_ble_eq_true rfl) dX9_init_8 (fun q1 H hP hD hS => ?_)
  have hP : va_P D vwCl ([(t0, .inr (9, [.null, .null, .null, .null, .null, .int 0, .int 0])), (q1, .inl (cI, 300, .inl (fun _ => 0)))]) H := hP
  have hD : va_D A ([(t0, .inr (9, [.null, .null, .null, .null, .null, .int 0, .int 0])), (q1, .inl (cI, 300, .inl (fun _ => 0)))]) := hD
  refine z_putF Z i_X9 tyX9 tyX9_ok nmX9 hP hD hS 0 rfl rfl 0 (by decide) bw_297 rfl hin rfl rfl rfl (Nat.le_of_ble_eq_true rfl) dX9_init_10 (fun H locs hP hD hS => ?_)
  have hP : va_P D vwCl ([(t0, .inr (9, [.ref q1, .null, .null, .null, .null, .int 0, .int 0])), (q1, .inl (cI, 300, .inl (fun _ => 0)))]) H := hP
  have hD : va_D A ([(t0, .inr (9, [.ref q1, .null, .null, .null, .null, .int 0, .int 0])), (q1, .inl (cI, 300, .inl (fun _ => 0)))]) := hD
  refine lv_aload_n hx hb dX9_init_13 rfl (lv_at hl 0 rfl) ?_
  refine lv_iconst (v := 4) hx hb dX9_init_14 (by decide) ?_
  refine z_newi (N := 4) Z bw_152 hP hD hS 0 rfl (by decide) (by decide) (by decide) (Nat.le_of_ble_eq_true rfl) (Nat.le_of_ble_eq_true rfl) dX9_init_15 (fun q2 H hP hD hS => ?_)
  have hP : va_P D vwCl ([(t0, .inr (9, [.ref q1, .null, .null, .null, .null, .int 0, .int 0])), (q1, .inl (cI, 300, .inl (fun _ => 0))), (q2, .inl (cI, 4, .inl (fun _ => 0)))]) H := hP
  have hD : va_D A ([(t0, .inr (9, [.ref q1, .null, .null, .null, .null, .int 0, .int 0])), (q1, .inl (cI, 300, .inl (fun _ => 0))), (q2, .inl (cI, 4, .inl (fun _ => 0)))]) := hD
  refine z_putF Z i_X9 tyX9 tyX9_ok nmX9 hP hD hS 0 rfl rfl 1 (by decide) bw_300 rfl hin rfl rfl rfl (Nat.le_of_ble_eq_true rfl) dX9_init_17 (fun H locs hP hD hS => ?_)
  have hP : va_P D vwCl ([(t0, .inr (9, [.ref q1, .ref q2, .null, .null, .null, .int 0, .int 0])), (q1, .inl (cI, 300, .inl (fun _ => 0))), (q2, .inl (cI, 4, .inl (fun _ => 0)))]) H := hP
  have hD : va_D A ([(t0, .inr (9, [.ref q1, .ref q2, .null, .null, .null, .int 0, .int 0])), (q1, .inl (cI, 300, .inl (fun _ => 0))), (q2, .inl (cI, 4, .inl (fun _ => 0)))]) := hD
  refine lv_aload_n hx hb dX9_init_20 rfl (lv_at hl 0 rfl) ?_
  refine lv_iconst (v := 4) hx hb dX9_init_21 (by decide) ?_
  refine z_newi (N := 4) Z bw_152 hP hD hS 0 rfl (by decide) (by decide) (by decide) (Nat.le_of_ble_eq_true rfl) (Nat.le_of_ble_eq_true rfl) dX9_init_22 (fun q3 H hP hD hS => ?_)
  have hP : va_P D vwCl ([(t0, .inr (9, [.ref q1, .ref q2, .null, .null, .null, .int 0, .int 0])), (q1, .inl (cI, 300, .inl (fun _ => 0))), (q2, .inl (cI, 4, .inl (fun _ => 0))), (q3, .inl (cI, 4, .inl (fun _ => 0)))]) H := hP
  have hD : va_D A ([(t0, .inr (9, [.ref q1, .ref q2, .null, .null, .null, .int 0, .int 0])), (q1, .inl (cI, 300, .inl (fun _ => 0))), (q2, .inl (cI, 4, .inl (fun _ => 0))), (q3, .inl (cI, 4, .inl (fun _ => 0)))]) := hD
  refine z_putF Z i_X9 tyX9 tyX9_ok nmX9 hP hD hS 0 rfl rfl 2 (by decide) bw_303 rfl hin rfl rfl rfl (Nat.le_of_ble_eq_true rfl) dX9_init_24 (fun H locs hP hD hS => ?_)
  have hP : va_P D vwCl ([(t0, .inr (9, [.ref q1, .ref q2, .ref q3, .null, .null, .int 0, .int 0])), (q1, .inl (cI, 300, .inl (fun _ => 0))), (q2, .inl (cI, 4, .inl (fun _ => 0))), (q3, .inl (cI, 4, .inl (fun _ => 0)))]) H := hP
  have hD : va_D A ([(t0, .inr (9, [.ref q1, .ref q2, .ref q3, .null, .null, .int 0, .int 0])), (q1, .inl (cI, 300, .inl (fun _ => 0))), (q2, .inl (cI, 4, .inl (fun _ => 0))), (q3, .inl (cI, 4, .inl (fun _ => 0)))]) := hD
  refine lv_aload_n hx hb dX9_init_27 rfl (lv_at hl 0 rfl) ?_
  refine lv_bipush (v := 24) hx hb dX9_init_28 (by decide) ?_
  refine z_newi (N := 24) Z bw_152 hP hD hS 0 rfl (by decide) (by decide) (by decide) (Nat.le_of_ble_eq_true rfl) (Nat.le_of_ble_eq_true rfl) dX9_init_30 (fun q4 H hP hD hS => ?_)
  have hP : va_P D vwCl ([(t0, .inr (9, [.ref q1, .ref q2, .ref q3, .null, .null, .int 0, .int 0])), (q1, .inl (cI, 300, .inl (fun _ => 0))), (q2, .inl (cI, 4, .inl (fun _ => 0))), (q3, .inl (cI, 4, .inl (fun _ => 0))), (q4, .inl (cI, 24, .inl (fun _ => 0)))]) H := hP
  have hD : va_D A ([(t0, .inr (9, [.ref q1, .ref q2, .ref q3, .null, .null, .int 0, .int 0])), (q1, .inl (cI, 300, .inl (fun _ => 0))), (q2, .inl (cI, 4, .inl (fun _ => 0))), (q3, .inl (cI, 4, .inl (fun _ => 0))), (q4, .inl (cI, 24, .inl (fun _ => 0)))]) := hD
  refine z_putF Z i_X9 tyX9 tyX9_ok nmX9 hP hD hS 0 rfl rfl 3 (by decide) bw_306 rfl hin rfl rfl rfl (Nat.le_of_ble_eq_true rfl) dX9_init_32 (fun H locs hP hD hS => ?_)
  have hP : va_P D vwCl ([(t0, .inr (9, [.ref q1, .ref q2, .ref q3, .ref q4, .null, .int 0, .int 0])), (q1, .inl (cI, 300, .inl (fun _ => 0))), (q2, .inl (cI, 4, .inl (fun _ => 0))), (q3, .inl (cI, 4, .inl (fun _ => 0))), (q4, .inl (cI, 24, .inl (fun _ => 0)))]) H := hP
  have hD : va_D A ([(t0, .inr (9, [.ref q1, .ref q2, .ref q3, .ref q4, .null, .int 0, .int 0])), (q1, .inl (cI, 300, .inl (fun _ => 0))), (q2, .inl (cI, 4, .inl (fun _ => 0))), (q3, .inl (cI, 4, .inl (fun _ => 0))), (q4, .inl (cI, 24, .inl (fun _ => 0)))]) := hD
  refine lv_aload_n hx hb dX9_init_35 rfl (lv_at hl 0 rfl) ?_
  refine lv_bipush (v := 24) hx hb dX9_init_36 (by decide) ?_
  refine z_newi (N := 24) Z bw_152 hP hD hS 0 rfl (by decide) (by decide) (by decide) (Nat.le_of_ble_eq_true rfl) (Nat.le_of_ble_eq_true rfl) dX9_init_38 (fun q5 H hP hD hS => ?_)
  have hP : va_P D vwCl ([(t0, .inr (9, [.ref q1, .ref q2, .ref q3, .ref q4, .null, .int 0, .int 0])), (q1, .inl (cI, 300, .inl (fun _ => 0))), (q2, .inl (cI, 4, .inl (fun _ => 0))), (q3, .inl (cI, 4, .inl (fun _ => 0))), (q4, .inl (cI, 24, .inl (fun _ => 0))), (q5, .inl (cI, 24, .inl (fun _ => 0)))]) H := hP
  have hD : va_D A ([(t0, .inr (9, [.ref q1, .ref q2, .ref q3, .ref q4, .null, .int 0, .int 0])), (q1, .inl (cI, 300, .inl (fun _ => 0))), (q2, .inl (cI, 4, .inl (fun _ => 0))), (q3, .inl (cI, 4, .inl (fun _ => 0))), (q4, .inl (cI, 24, .inl (fun _ => 0))), (q5, .inl (cI, 24, .inl (fun _ => 0)))]) := hD
  refine z_putF Z i_X9 tyX9 tyX9_ok nmX9 hP hD hS 0 rfl rfl 4 (by decide) bw_308 rfl hin rfl rfl rfl (Nat.le_of_ble_eq_true rfl) dX9_init_40 (fun H locs hP hD hS => ?_)
  have hP : va_P D vwCl ([(t0, .inr (9, [.ref q1, .ref q2, .ref q3, .ref q4, .ref q5, .int 0, .int 0])), (q1, .inl (cI, 300, .inl (fun _ => 0))), (q2, .inl (cI, 4, .inl (fun _ => 0))), (q3, .inl (cI, 4, .inl (fun _ => 0))), (q4, .inl (cI, 24, .inl (fun _ => 0))), (q5, .inl (cI, 24, .inl (fun _ => 0)))]) H := hP
  have hD : va_D A ([(t0, .inr (9, [.ref q1, .ref q2, .ref q3, .ref q4, .ref q5, .int 0, .int 0])), (q1, .inl (cI, 300, .inl (fun _ => 0))), (q2, .inl (cI, 4, .inl (fun _ => 0))), (q3, .inl (cI, 4, .inl (fun _ => 0))), (q4, .inl (cI, 24, .inl (fun _ => 0))), (q5, .inl (cI, 24, .inl (fun _ => 0)))]) := hD
  refine lv_aload_n hx hb dX9_init_43 rfl (lv_at hl 0 rfl) ?_
  refine lv_iconst (v := 0) hx hb dX9_init_44 (by decide) ?_
  refine z_put Z i_X9 tyX9 tyX9_ok nmX9 hP hD hS 0 rfl rfl 5 (by decide) bw_310 rfl rfl rfl (Nat.le_of_ble_eq_true rfl) dX9_init_45 (fun H locs hP hD hS => ?_)
  have hP : va_P D vwCl ([(t0, .inr (9, [.ref q1, .ref q2, .ref q3, .ref q4, .ref q5, .int 0, .int 0])), (q1, .inl (cI, 300, .inl (fun _ => 0))), (q2, .inl (cI, 4, .inl (fun _ => 0))), (q3, .inl (cI, 4, .inl (fun _ => 0))), (q4, .inl (cI, 24, .inl (fun _ => 0))), (q5, .inl (cI, 24, .inl (fun _ => 0)))]) H := hP
  have hD : va_D A ([(t0, .inr (9, [.ref q1, .ref q2, .ref q3, .ref q4, .ref q5, .int 0, .int 0])), (q1, .inl (cI, 300, .inl (fun _ => 0))), (q2, .inl (cI, 4, .inl (fun _ => 0))), (q3, .inl (cI, 4, .inl (fun _ => 0))), (q4, .inl (cI, 24, .inl (fun _ => 0))), (q5, .inl (cI, 24, .inl (fun _ => 0)))]) := hD
  refine lv_aload_n hx hb dX9_init_48 rfl (lv_at hl 0 rfl) ?_
  refine lv_iconst (v := 0) hx hb dX9_init_49 (by decide) ?_
  refine z_put Z i_X9 tyX9 tyX9_ok nmX9 hP hD hS 0 rfl rfl 6 (by decide) bw_312 rfl rfl rfl (Nat.le_of_ble_eq_true rfl) dX9_init_50 (fun H locs hP hD hS => ?_)
  have hP : va_P D vwCl ([(t0, .inr (9, [.ref q1, .ref q2, .ref q3, .ref q4, .ref q5, .int 0, .int 0])), (q1, .inl (cI, 300, .inl (fun _ => 0))), (q2, .inl (cI, 4, .inl (fun _ => 0))), (q3, .inl (cI, 4, .inl (fun _ => 0))), (q4, .inl (cI, 24, .inl (fun _ => 0))), (q5, .inl (cI, 24, .inl (fun _ => 0)))]) H := hP
  have hD : va_D A ([(t0, .inr (9, [.ref q1, .ref q2, .ref q3, .ref q4, .ref q5, .int 0, .int 0])), (q1, .inl (cI, 300, .inl (fun _ => 0))), (q2, .inl (cI, 4, .inl (fun _ => 0))), (q3, .inl (cI, 4, .inl (fun _ => 0))), (q4, .inl (cI, 24, .inl (fun _ => 0))), (q5, .inl (cI, 24, .inl (fun _ => 0)))]) := hD
  have hP := hP.sub2 (wc := [(t0, .inr (9, [.ref q1, .ref q2, .ref q3, .ref q4, .ref q5, .int 0, .int 0])), (q2, .inl (cI, 4, .inl (fun _ => 0))), (q3, .inl (cI, 4, .inl (fun _ => 0)))]) [0, 2, 3] rfl
  have hD := hD.sub (ws' := [(t0, .inr (9, [.ref q1, .ref q2, .ref q3, .ref q4, .ref q5, .int 0, .int 0])), (q2, .inl (cI, 4, .inl (fun _ => 0))), (q3, .inl (cI, 4, .inl (fun _ => 0)))]) [0, 2, 3] (by decide) rfl
  exact z_vret Z hP hD hS (⟨q1, q2, q3, q4, q5, rfl⟩) dX9_init_53 (Nat.le_of_ble_eq_true rfl) (Nat.le_of_ble_eq_true rfl)
set_option maxHeartbeats 4000000 in
set_option maxRecDepth 100000 in
theorem c_X7_init (l : Launch) (D : va_G) (cI cM cT : ClassId) (tP : Nat) : Cv l D (ty3 cI cM cT) yX7_init cX7_init 1 1 4 1203 [.ref tP] ([(tP, .inr (7, [.null, .null, .null, .null, .int 0, .int 0]))]) (fun u => ∃ (bY : Nat) (ki : Nat) (at_ : Nat) (nu : Nat), u = [(tP, .inr (7, [.ref bY, .ref ki, .ref at_, .ref nu, .int 0, .int 0])), (bY, .inl (cI, 300, .inl (fun _ => 0))), (ki, .inl (cI, 301, .inl (fun _ => 0))), (at_, .inl (cI, 301, .inl (fun _ => 0))), (nu, .inl (cI, 301, .inl (fun _ => 0)))]) := by
  refine Cv.of (by decide +kernel) (Nat.le_of_ble_eq_true rfl) ?_
  intro p e s m below meth c A ls Z hin hP hD hl
  have hx := Z.1
  have hb := Z.2.1
  have hS : va_S A s.heap s.heap [] := va_S.rf
  have hl : lv_has ls 1 [(0, .ref tP)] := hl
  skip
  refine lv_aload_n hx hb dX7_init_0 rfl (lv_at hl 0 rfl) ?_
  refine z_obj Z hl.1 bw_394 bw_108 bw_109 dX7_init_1 (Nat.le_of_ble_eq_true rfl) (Nat.le_of_ble_eq_true rfl) ?_
  refine lv_aload_n hx hb dX7_init_4 rfl (lv_at hl 0 rfl) ?_
  refine lv_sipush (v := 300) hx hb dX7_init_5 (by decide) ?_
  refine z_newi (N := 300) Z bw_152 hP hD hS 0 rfl (by decide) (by decide) (by decide) (Nat.le_of_ble_eq_true rfl) (Nat.le_of_ble_eq_true rfl) dX7_init_8 (fun q1 H hP hD hS => ?_)
  have hP : va_P D vwCl ([(tP, .inr (7, [.null, .null, .null, .null, .int 0, .int 0])), (q1, .inl (cI, 300, .inl (fun _ => 0)))]) H := hP
  have hD : va_D A ([(tP, .inr (7, [.null, .null, .null, .null, .int 0, .int 0])), (q1, .inl (cI, 300, .inl (fun _ => 0)))]) := hD
  refine z_putF Z i_X7 tyX7 tyX7_ok nmX7 hP hD hS 0 rfl rfl 0 (by decide) bw_395 rfl hin rfl rfl rfl (Nat.le_of_ble_eq_true rfl) dX7_init_10 (fun H locs hP hD hS => ?_)
  have hP : va_P D vwCl ([(tP, .inr (7, [.ref q1, .null, .null, .null, .int 0, .int 0])), (q1, .inl (cI, 300, .inl (fun _ => 0)))]) H := hP
  have hD : va_D A ([(tP, .inr (7, [.ref q1, .null, .null, .null, .int 0, .int 0])), (q1, .inl (cI, 300, .inl (fun _ => 0)))]) := hD
  refine lv_aload_n hx hb dX7_init_13 rfl (lv_at hl 0 rfl) ?_
  refine lv_sipush (v := 301) hx hb dX7_init_14 (by decide) ?_
  refine z_newi (N := 301) Z bw_152 hP hD hS 0 rfl (by decide) (by decide) (by decide) (Nat.le_of_ble_eq_true rfl) (Nat.le_of_ble_eq_true rfl) dX7_init_17 (fun q2 H hP hD hS => ?_)
  have hP : va_P D vwCl ([(tP, .inr (7, [.ref q1, .null, .null, .null, .int 0, .int 0])), (q1, .inl (cI, 300, .inl (fun _ => 0))), (q2, .inl (cI, 301, .inl (fun _ => 0)))]) H := hP
  have hD : va_D A ([(tP, .inr (7, [.ref q1, .null, .null, .null, .int 0, .int 0])), (q1, .inl (cI, 300, .inl (fun _ => 0))), (q2, .inl (cI, 301, .inl (fun _ => 0)))]) := hD
  refine z_putF Z i_X7 tyX7 tyX7_ok nmX7 hP hD hS 0 rfl rfl 1 (by decide) bw_396 rfl hin rfl rfl rfl (Nat.le_of_ble_eq_true rfl) dX7_init_19 (fun H locs hP hD hS => ?_)
  have hP : va_P D vwCl ([(tP, .inr (7, [.ref q1, .ref q2, .null, .null, .int 0, .int 0])), (q1, .inl (cI, 300, .inl (fun _ => 0))), (q2, .inl (cI, 301, .inl (fun _ => 0)))]) H := hP
  have hD : va_D A ([(tP, .inr (7, [.ref q1, .ref q2, .null, .null, .int 0, .int 0])), (q1, .inl (cI, 300, .inl (fun _ => 0))), (q2, .inl (cI, 301, .inl (fun _ => 0)))]) := hD
  refine lv_aload_n hx hb dX7_init_22 rfl (lv_at hl 0 rfl) ?_
  refine lv_sipush (v := 301) hx hb dX7_init_23 (by decide) ?_
  refine z_newi (N := 301) Z bw_152 hP hD hS 0 rfl (by decide) (by decide) (by decide) (Nat.le_of_ble_eq_true rfl) (Nat.le_of_ble_eq_true rfl) dX7_init_26 (fun q3 H hP hD hS => ?_)
  have hP : va_P D vwCl ([(tP, .inr (7, [.ref q1, .ref q2, .null, .null, .int 0, .int 0])), (q1, .inl (cI, 300, .inl (fun _ => 0))), (q2, .inl (cI, 301, .inl (fun _ => 0))), (q3, .inl (cI, 301, .inl (fun _ => 0)))]) H := hP
  have hD : va_D A ([(tP, .inr (7, [.ref q1, .ref q2, .null, .null, .int 0, .int 0])), (q1, .inl (cI, 300, .inl (fun _ => 0))), (q2, .inl (cI, 301, .inl (fun _ => 0))), (q3, .inl (cI, 301, .inl (fun _ => 0)))]) := hD
  refine z_putF Z i_X7 tyX7 tyX7_ok nmX7 hP hD hS 0 rfl rfl 2 (by decide) bw_398 rfl hin rfl rfl rfl (Nat.le_of_ble_eq_true rfl) dX7_init_28 (fun H locs hP hD hS => ?_)
  have hP : va_P D vwCl ([(tP, .inr (7, [.ref q1, .ref q2, .ref q3, .null, .int 0, .int 0])), (q1, .inl (cI, 300, .inl (fun _ => 0))), (q2, .inl (cI, 301, .inl (fun _ => 0))), (q3, .inl (cI, 301, .inl (fun _ => 0)))]) H := hP
  have hD : va_D A ([(tP, .inr (7, [.ref q1, .ref q2, .ref q3, .null, .int 0, .int 0])), (q1, .inl (cI, 300, .inl (fun _ => 0))), (q2, .inl (cI, 301, .inl (fun _ => 0))), (q3, .inl (cI, 301, .inl (fun _ => 0)))]) := hD
  refine lv_aload_n hx hb dX7_init_31 rfl (lv_at hl 0 rfl) ?_
  refine lv_sipush (v := 301) hx hb dX7_init_32 (by decide) ?_
  refine z_newi (N := 301) Z bw_152 hP hD hS 0 rfl (by decide) (by decide) (by decide) (Nat.le_of_ble_eq_true rfl) (Nat.le_of_ble_eq_true rfl) dX7_init_35 (fun q4 H hP hD hS => ?_)
  have hP : va_P D vwCl ([(tP, .inr (7, [.ref q1, .ref q2, .ref q3, .null, .int 0, .int 0])), (q1, .inl (cI, 300, .inl (fun _ => 0))), (q2, .inl (cI, 301, .inl (fun _ => 0))), (q3, .inl (cI, 301, .inl (fun _ => 0))), (q4, .inl (cI, 301, .inl (fun _ => 0)))]) H := hP
  have hD : va_D A ([(tP, .inr (7, [.ref q1, .ref q2, .ref q3, .null, .int 0, .int 0])), (q1, .inl (cI, 300, .inl (fun _ => 0))), (q2, .inl (cI, 301, .inl (fun _ => 0))), (q3, .inl (cI, 301, .inl (fun _ => 0))), (q4, .inl (cI, 301, .inl (fun _ => 0)))]) := hD
  refine z_putF Z i_X7 tyX7 tyX7_ok nmX7 hP hD hS 0 rfl rfl 3 (by decide) bw_400 rfl hin rfl rfl rfl (Nat.le_of_ble_eq_true rfl) dX7_init_37 (fun H locs hP hD hS => ?_)
  have hP : va_P D vwCl ([(tP, .inr (7, [.ref q1, .ref q2, .ref q3, .ref q4, .int 0, .int 0])), (q1, .inl (cI, 300, .inl (fun _ => 0))), (q2, .inl (cI, 301, .inl (fun _ => 0))), (q3, .inl (cI, 301, .inl (fun _ => 0))), (q4, .inl (cI, 301, .inl (fun _ => 0)))]) H := hP
  have hD : va_D A ([(tP, .inr (7, [.ref q1, .ref q2, .ref q3, .ref q4, .int 0, .int 0])), (q1, .inl (cI, 300, .inl (fun _ => 0))), (q2, .inl (cI, 301, .inl (fun _ => 0))), (q3, .inl (cI, 301, .inl (fun _ => 0))), (q4, .inl (cI, 301, .inl (fun _ => 0)))]) := hD
  refine lv_aload_n hx hb dX7_init_40 rfl (lv_at hl 0 rfl) ?_
  refine lv_iconst (v := 0) hx hb dX7_init_41 (by decide) ?_
  refine z_put Z i_X7 tyX7 tyX7_ok nmX7 hP hD hS 0 rfl rfl 4 (by decide) bw_402 rfl rfl rfl (Nat.le_of_ble_eq_true rfl) dX7_init_42 (fun H locs hP hD hS => ?_)
  have hP : va_P D vwCl ([(tP, .inr (7, [.ref q1, .ref q2, .ref q3, .ref q4, .int 0, .int 0])), (q1, .inl (cI, 300, .inl (fun _ => 0))), (q2, .inl (cI, 301, .inl (fun _ => 0))), (q3, .inl (cI, 301, .inl (fun _ => 0))), (q4, .inl (cI, 301, .inl (fun _ => 0)))]) H := hP
  have hD : va_D A ([(tP, .inr (7, [.ref q1, .ref q2, .ref q3, .ref q4, .int 0, .int 0])), (q1, .inl (cI, 300, .inl (fun _ => 0))), (q2, .inl (cI, 301, .inl (fun _ => 0))), (q3, .inl (cI, 301, .inl (fun _ => 0))), (q4, .inl (cI, 301, .inl (fun _ => 0)))]) := hD
  refine lv_aload_n hx hb dX7_init_45 rfl (lv_at hl 0 rfl) ?_
  refine lv_iconst (v := 0) hx hb dX7_init_46 (by decide) ?_
  refine z_put Z i_X7 tyX7 tyX7_ok nmX7 hP hD hS 0 rfl rfl 5 (by decide) bw_404 rfl rfl rfl (Nat.le_of_ble_eq_true rfl) dX7_init_47 (fun H locs hP hD hS => ?_)
  have hP : va_P D vwCl ([(tP, .inr (7, [.ref q1, .ref q2, .ref q3, .ref q4, .int 0, .int 0])), (q1, .inl (cI, 300, .inl (fun _ => 0))), (q2, .inl (cI, 301, .inl (fun _ => 0))), (q3, .inl (cI, 301, .inl (fun _ => 0))), (q4, .inl (cI, 301, .inl (fun _ => 0)))]) H := hP
  have hD : va_D A ([(tP, .inr (7, [.ref q1, .ref q2, .ref q3, .ref q4, .int 0, .int 0])), (q1, .inl (cI, 300, .inl (fun _ => 0))), (q2, .inl (cI, 301, .inl (fun _ => 0))), (q3, .inl (cI, 301, .inl (fun _ => 0))), (q4, .inl (cI, 301, .inl (fun _ => 0)))]) := hD
  exact z_vret Z hP hD hS (⟨q1, q2, q3, q4, rfl⟩) dX7_init_50 (Nat.le_of_ble_eq_true rfl) (Nat.le_of_ble_eq_true rfl)
set_option maxHeartbeats 4000000 in
set_option maxRecDepth 100000 in
theorem c_X8_init (l : Launch) (D : va_G) (cI cM cT : ClassId) (tm : Nat) : Cv l D (ty3 cI cM cT) yX8_init cX8_init 1 1 2 12 [.ref tm] ([(tm, .inr (8, [.null, .null, .int 0, .int 0]))]) (fun u => ∃ (be : Nat) (or_ : Nat), u = [(tm, .inr (8, [.ref be, .ref or_, .int 0, .int (-1)])), (be, .inl (cI, 6, .inl (fun _ => 0))), (or_, .inl (cI, 6, .inl (fun _ => 0)))]) := by
  refine Cv.of (by decide +kernel) (Nat.le_of_ble_eq_true rfl) ?_
  intro p e s m below meth c A ls Z hin hP hD hl
  have hx := Z.1
  have hb := Z.2.1
  have hS : va_S A s.heap s.heap [] := va_S.rf
  have hl : lv_has ls 1 [(0, .ref tm)] := hl
  skip
  refine lv_aload_n hx hb dX8_init_0 rfl (lv_at hl 0 rfl) ?_
  refine z_obj Z hl.1 bw_451 bw_108 bw_109 dX8_init_1 (Nat.le_of_ble_eq_true rfl) (Nat.le_of_ble_eq_true rfl) ?_
  refine lv_aload_n hx hb dX8_init_4 rfl (lv_at hl 0 rfl) ?_
  refine lv_bipush (v := 6) hx hb dX8_init_5 (by decide) ?_
  refine z_newi (N := 6) Z bw_152 hP hD hS 0 rfl (by decide) (by decide) (by decide) (Nat.le_of_ble_eq_true rfl) (Nat.le_of_ble_eq_true rfl) dX8_init_7 (fun q1 H hP hD hS => ?_)
  have hP : va_P D vwCl ([(tm, .inr (8, [.null, .null, .int 0, .int 0])), (q1, .inl (cI, 6, .inl (fun _ => 0)))]) H := hP
  have hD : va_D A ([(tm, .inr (8, [.null, .null, .int 0, .int 0])), (q1, .inl (cI, 6, .inl (fun _ => 0)))]) := hD
  refine z_putF Z i_X8 tyX8 tyX8_ok nmX8 hP hD hS 0 rfl rfl 0 (by decide) bw_452 rfl hin rfl rfl rfl (Nat.le_of_ble_eq_true rfl) dX8_init_9 (fun H locs hP hD hS => ?_)
  have hP : va_P D vwCl ([(tm, .inr (8, [.ref q1, .null, .int 0, .int 0])), (q1, .inl (cI, 6, .inl (fun _ => 0)))]) H := hP
  have hD : va_D A ([(tm, .inr (8, [.ref q1, .null, .int 0, .int 0])), (q1, .inl (cI, 6, .inl (fun _ => 0)))]) := hD
  refine lv_aload_n hx hb dX8_init_12 rfl (lv_at hl 0 rfl) ?_
  refine lv_bipush (v := 6) hx hb dX8_init_13 (by decide) ?_
  refine z_newi (N := 6) Z bw_152 hP hD hS 0 rfl (by decide) (by decide) (by decide) (Nat.le_of_ble_eq_true rfl) (Nat.le_of_ble_eq_true rfl) dX8_init_15 (fun q2 H hP hD hS => ?_)
  have hP : va_P D vwCl ([(tm, .inr (8, [.ref q1, .null, .int 0, .int 0])), (q1, .inl (cI, 6, .inl (fun _ => 0))), (q2, .inl (cI, 6, .inl (fun _ => 0)))]) H := hP
  have hD : va_D A ([(tm, .inr (8, [.ref q1, .null, .int 0, .int 0])), (q1, .inl (cI, 6, .inl (fun _ => 0))), (q2, .inl (cI, 6, .inl (fun _ => 0)))]) := hD
  refine z_putF Z i_X8 tyX8 tyX8_ok nmX8 hP hD hS 0 rfl rfl 1 (by decide) bw_454 rfl hin rfl rfl rfl (Nat.le_of_ble_eq_true rfl) dX8_init_17 (fun H locs hP hD hS => ?_)
  have hP : va_P D vwCl ([(tm, .inr (8, [.ref q1, .ref q2, .int 0, .int 0])), (q1, .inl (cI, 6, .inl (fun _ => 0))), (q2, .inl (cI, 6, .inl (fun _ => 0)))]) H := hP
  have hD : va_D A ([(tm, .inr (8, [.ref q1, .ref q2, .int 0, .int 0])), (q1, .inl (cI, 6, .inl (fun _ => 0))), (q2, .inl (cI, 6, .inl (fun _ => 0)))]) := hD
  refine lv_aload_n hx hb dX8_init_20 rfl (lv_at hl 0 rfl) ?_
  refine lv_iconst (v := 0) hx hb dX8_init_21 (by decide) ?_
  refine z_put Z i_X8 tyX8 tyX8_ok nmX8 hP hD hS 0 rfl rfl 2 (by decide) bw_455 rfl rfl rfl (Nat.le_of_ble_eq_true rfl) dX8_init_22 (fun H locs hP hD hS => ?_)
  have hP : va_P D vwCl ([(tm, .inr (8, [.ref q1, .ref q2, .int 0, .int 0])), (q1, .inl (cI, 6, .inl (fun _ => 0))), (q2, .inl (cI, 6, .inl (fun _ => 0)))]) H := hP
  have hD : va_D A ([(tm, .inr (8, [.ref q1, .ref q2, .int 0, .int 0])), (q1, .inl (cI, 6, .inl (fun _ => 0))), (q2, .inl (cI, 6, .inl (fun _ => 0)))]) := hD
  refine lv_aload_n hx hb dX8_init_25 rfl (lv_at hl 0 rfl) ?_
  refine lv_iconst (v := (-1)) hx hb dX8_init_26 (by decide) ?_
  refine z_put Z i_X8 tyX8 tyX8_ok nmX8 hP hD hS 0 rfl rfl 3 (by decide) bw_457 rfl rfl rfl (Nat.le_of_ble_eq_true rfl) dX8_init_27 (fun H locs hP hD hS => ?_)
  have hP : va_P D vwCl ([(tm, .inr (8, [.ref q1, .ref q2, .int 0, .int (-1)])), (q1, .inl (cI, 6, .inl (fun _ => 0))), (q2, .inl (cI, 6, .inl (fun _ => 0)))]) H := hP
  have hD : va_D A ([(tm, .inr (8, [.ref q1, .ref q2, .int 0, .int (-1)])), (q1, .inl (cI, 6, .inl (fun _ => 0))), (q2, .inl (cI, 6, .inl (fun _ => 0)))]) := hD
  exact z_vret Z hP hD hS (⟨q1, q2, rfl⟩) dX8_init_30 (Nat.le_of_ble_eq_true rfl) (Nat.le_of_ble_eq_true rfl)
set_option maxHeartbeats 4000000 in
set_option maxRecDepth 100000 in
theorem c_X2_init (l : Launch) (D : va_G) (cI cM cT : ClassId) (rd : Nat) : Cv l D (ty3 cI cM cT) yX2_init cX2_init 1 2 20 3000 [.ref rd] ([(rd, .inr (2, [.null, .int 0, .int 0, .int 0, .int 0, .int 0, .null]))]) (fun u => ∃ (tP : Nat) (tX : Nat) (bY : Nat) (ki : Nat) (at_ : Nat) (nu : Nat), u = [(rd, .inr (2, [.ref tP, .int (-1), .int (-1), .int 0, .int 37, .int 0, .ref tX])), (tP, .inr (7, [.ref bY, .ref ki, .ref at_, .ref nu, .int 0, .int 0])), (bY, .inl (cI, 300, .inl (fun _ => 0))), (ki, .inl (cI, 301, .inl (fun _ => 0))), (at_, .inl (cI, 301, .inl (fun _ => 0))), (nu, .inl (cI, 301, .inl (fun _ => 0)))]) := by
  refine Cv.of (by decide +kernel) (Nat.le_of_ble_eq_true rfl) ?_
  intro p e s m below meth c A ls Z hin hP hD hl
  have hx := Z.1
  have hb := Z.2.1
  have hS : va_S A s.heap s.heap [] := va_S.rf
  have hl : lv_has ls 1 [(0, .ref rd)] := hl
  skip
  refine lv_aload_n hx hb dX2_init_0 rfl (lv_at hl 0 rfl) ?_
  refine z_obj Z hl.1 bw_388 bw_108 bw_109 dX2_init_1 (Nat.le_of_ble_eq_true rfl) (Nat.le_of_ble_eq_true rfl) ?_
  refine lv_aload_n hx hb dX2_init_4 rfl (lv_at hl 0 rfl) ?_
  refine z_new Z (ci := 7) (fs := [.null, .null, .null, .null, .int 0, .int 0]) i_X7 tyX7 tyX7_ok bw_389 bw_390 bw_90 hP hD hS rfl rfl (Nat.le_of_ble_eq_true rfl) (Nat.le_of_ble_eq_true rfl) dX2_init_5 (fun q1 H hP hD hS => ?_)
  have hP : va_P D vwCl ([(rd, .inr (2, [.null, .int 0, .int 0, .int 0, .int 0, .int 0, .null])), (q1, .inr (7, [.null, .null, .null, .null, .int 0, .int 0]))]) H := hP
  have hD : va_D A ([(rd, .inr (2, [.null, .int 0, .int 0, .int 0, .int 0, .int 0, .null])), (q1, .inr (7, [.null, .null, .null, .null, .int 0, .int 0]))]) := hD
  refine lv_dup hx hb dX2_init_8 rfl ?_
  have hPc := hP.sub2 (wc := [(q1, .inr (7, [.null, .null, .null, .null, .int 0, .int 0]))]) [1] rfl
  have hDc := hD.sub (ws' := [(q1, .inr (7, [.null, .null, .null, .null, .int 0, .int 0]))]) [1] (by decide) rfl
  refine raw_IN (nA := 0) (As := []) (rest := [.ref q1, .ref rd]) Z hl.1 (c_X7_init l D cI cM cT q1) (List.mem_of_getElem? (i := 9) rfl) bw_392 bw_90 bw_393 rfl ⟨by decide +kernel, by decide +kernel, by decide +kernel⟩ rfl ⟨Nat.le_of_ble_eq_true rfl, Nat.le_of_ble_eq_true rfl⟩ hPc hDc hS rfl (Nat.le_of_ble_eq_true rfl) dX2_init_9 ⟨Nat.le_of_ble_eq_true rfl, Nat.le_of_ble_eq_true rfl⟩ (fun u2 H1 locs1 h4 hku2 hP1 hD1 hS1 => ?_)
  obtain ⟨bY_5, ki_6, at__7, nu_8, rfl⟩ := h4
  obtain ⟨hP, hD⟩ := z_join (wr := [(rd, .inr (2, [.null, .int 0, .int 0, .int 0, .int 0, .int 0, .null]))]) Z hS hP hD [1] [0] rfl (by decide) rfl (by decide) (by decide) hku2 hP1 hD1
  have hS := hS1
  clear hS1
  generalize H1 = H at hP hS ⊢
  generalize locs1 = locs at hS ⊢
  have hP : va_P D vwCl ([(rd, .inr (2, [.null, .int 0, .int 0, .int 0, .int 0, .int 0, .null])), (q1, .inr (7, [.ref bY_5, .ref ki_6, .ref at__7, .ref nu_8, .int 0, .int 0])), (bY_5, .inl (cI, 300, .inl (fun _ => 0))), (ki_6, .inl (cI, 301, .inl (fun _ => 0))), (at__7, .inl (cI, 301, .inl (fun _ => 0))), (nu_8, .inl (cI, 301, .inl (fun _ => 0)))]) H := hP
  have hD : va_D A ([(rd, .inr (2, [.null, .int 0, .int 0, .int 0, .int 0, .int 0, .null])), (q1, .inr (7, [.ref bY_5, .ref ki_6, .ref at__7, .ref nu_8, .int 0, .int 0])), (bY_5, .inl (cI, 300, .inl (fun _ => 0))), (ki_6, .inl (cI, 301, .inl (fun _ => 0))), (at__7, .inl (cI, 301, .inl (fun _ => 0))), (nu_8, .inl (cI, 301, .inl (fun _ => 0)))]) := hD
  refine z_putF Z i_X2 tyX2 tyX2_ok nmX2 hP hD hS 0 rfl rfl 0 (by decide) bw_421 rfl hin rfl rfl rfl (Nat.le_of_ble_eq_true rfl) dX2_init_12 (fun H locs hP hD hS => ?_)
  have hP : va_P D vwCl ([(rd, .inr (2, [.ref q1, .int 0, .int 0, .int 0, .int 0, .int 0, .null])), (q1, .inr (7, [.ref bY_5, .ref ki_6, .ref at__7, .ref nu_8, .int 0, .int 0])), (bY_5, .inl (cI, 300, .inl (fun _ => 0))), (ki_6, .inl (cI, 301, .inl (fun _ => 0))), (at__7, .inl (cI, 301, .inl (fun _ => 0))), (nu_8, .inl (cI, 301, .inl (fun _ => 0)))]) H := hP
  have hD : va_D A ([(rd, .inr (2, [.ref q1, .int 0, .int 0, .int 0, .int 0, .int 0, .null])), (q1, .inr (7, [.ref bY_5, .ref ki_6, .ref at__7, .ref nu_8, .int 0, .int 0])), (bY_5, .inl (cI, 300, .inl (fun _ => 0))), (ki_6, .inl (cI, 301, .inl (fun _ => 0))), (at__7, .inl (cI, 301, .inl (fun _ => 0))), (nu_8, .inl (cI, 301, .inl (fun _ => 0)))]) := hD
  refine lv_aload_n hx hb dX2_init_15 rfl (lv_at hl 0 rfl) ?_
  refine lv_iconst (v := (-1)) hx hb dX2_init_16 (by decide) ?_
  refine z_put Z i_X2 tyX2 tyX2_ok nmX2 hP hD hS 0 rfl rfl 1 (by decide) bw_423 rfl rfl rfl (Nat.le_of_ble_eq_true rfl) dX2_init_17 (fun H locs hP hD hS => ?_)
  have hP : va_P D vwCl ([(rd, .inr (2, [.ref q1, .int (-1), .int 0, .int 0, .int 0, .int 0, .null])), (q1, .inr (7, [.ref bY_5, .ref ki_6, .ref at__7, .ref nu_8, .int 0, .int 0])), (bY_5, .inl (cI, 300, .inl (fun _ => 0))), (ki_6, .inl (cI, 301, .inl (fun _ => 0))), (at__7, .inl (cI, 301, .inl (fun _ => 0))), (nu_8, .inl (cI, 301, .inl (fun _ => 0)))]) H := hP
  have hD : va_D A ([(rd, .inr (2, [.ref q1, .int (-1), .int 0, .int 0, .int 0, .int 0, .null])), (q1, .inr (7, [.ref bY_5, .ref ki_6, .ref at__7, .ref nu_8, .int 0, .int 0])), (bY_5, .inl (cI, 300, .inl (fun _ => 0))), (ki_6, .inl (cI, 301, .inl (fun _ => 0))), (at__7, .inl (cI, 301, .inl (fun _ => 0))), (nu_8, .inl (cI, 301, .inl (fun _ => 0)))]) := hD
  refine lv_aload_n hx hb dX2_init_20 rfl (lv_at hl 0 rfl) ?_
  refine lv_iconst (v := (-1)) hx hb dX2_init_21 (by decide) ?_
  refine z_put Z i_X2 tyX2 tyX2_ok nmX2 hP hD hS 0 rfl rfl 2 (by decide) bw_425 rfl rfl rfl (Nat.le_of_ble_eq_true rfl) dX2_init_22 (fun H locs hP hD hS => ?_)
  have hP : va_P D vwCl ([(rd, .inr (2, [.ref q1, .int (-1), .int (-1), .int 0, .int 0, .int 0, .null])), (q1, .inr (7, [.ref bY_5, .ref ki_6, .ref at__7, .ref nu_8, .int 0, .int 0])), (bY_5, .inl (cI, 300, .inl (fun _ => 0))), (ki_6, .inl (cI, 301, .inl (fun _ => 0))), (at__7, .inl (cI, 301, .inl (fun _ => 0))), (nu_8, .inl (cI, 301, .inl (fun _ => 0)))]) H := hP
  have hD : va_D A ([(rd, .inr (2, [.ref q1, .int (-1), .int (-1), .int 0, .int 0, .int 0, .null])), (q1, .inr (7, [.ref bY_5, .ref ki_6, .ref at__7, .ref nu_8, .int 0, .int 0])), (bY_5, .inl (cI, 300, .inl (fun _ => 0))), (ki_6, .inl (cI, 301, .inl (fun _ => 0))), (at__7, .inl (cI, 301, .inl (fun _ => 0))), (nu_8, .inl (cI, 301, .inl (fun _ => 0)))]) := hD
  refine lv_aload_n hx hb dX2_init_25 rfl (lv_at hl 0 rfl) ?_
  refine lv_iconst (v := 0) hx hb dX2_init_26 (by decide) ?_
  refine z_put Z i_X2 tyX2 tyX2_ok nmX2 hP hD hS 0 rfl rfl 3 (by decide) bw_427 rfl rfl rfl (Nat.le_of_ble_eq_true rfl) dX2_init_27 (fun H locs hP hD hS => ?_)
  have hP : va_P D vwCl ([(rd, .inr (2, [.ref q1, .int (-1), .int (-1), .int 0, .int 0, .int 0, .null])), (q1, .inr (7, [.ref bY_5, .ref ki_6, .ref at__7, .ref nu_8, .int 0, .int 0])), (bY_5, .inl (cI, 300, .inl (fun _ => 0))), (ki_6, .inl (cI, 301, .inl (fun _ => 0))), (at__7, .inl (cI, 301, .inl (fun _ => 0))), (nu_8, .inl (cI, 301, .inl (fun _ => 0)))]) H := hP
  have hD : va_D A ([(rd, .inr (2, [.ref q1, .int (-1), .int (-1), .int 0, .int 0, .int 0, .null])), (q1, .inr (7, [.ref bY_5, .ref ki_6, .ref at__7, .ref nu_8, .int 0, .int 0])), (bY_5, .inl (cI, 300, .inl (fun _ => 0))), (ki_6, .inl (cI, 301, .inl (fun _ => 0))), (at__7, .inl (cI, 301, .inl (fun _ => 0))), (nu_8, .inl (cI, 301, .inl (fun _ => 0)))]) := hD
  refine lv_aload_n hx hb dX2_init_30 rfl (lv_at hl 0 rfl) ?_
  refine lv_bipush (v := 37) hx hb dX2_init_31 (by decide) ?_
  refine z_put Z i_X2 tyX2 tyX2_ok nmX2 hP hD hS 0 rfl rfl 4 (by decide) bw_428 rfl rfl rfl (Nat.le_of_ble_eq_true rfl) dX2_init_33 (fun H locs hP hD hS => ?_)
  have hP : va_P D vwCl ([(rd, .inr (2, [.ref q1, .int (-1), .int (-1), .int 0, .int 37, .int 0, .null])), (q1, .inr (7, [.ref bY_5, .ref ki_6, .ref at__7, .ref nu_8, .int 0, .int 0])), (bY_5, .inl (cI, 300, .inl (fun _ => 0))), (ki_6, .inl (cI, 301, .inl (fun _ => 0))), (at__7, .inl (cI, 301, .inl (fun _ => 0))), (nu_8, .inl (cI, 301, .inl (fun _ => 0)))]) H := hP
  have hD : va_D A ([(rd, .inr (2, [.ref q1, .int (-1), .int (-1), .int 0, .int 37, .int 0, .null])), (q1, .inr (7, [.ref bY_5, .ref ki_6, .ref at__7, .ref nu_8, .int 0, .int 0])), (bY_5, .inl (cI, 300, .inl (fun _ => 0))), (ki_6, .inl (cI, 301, .inl (fun _ => 0))), (at__7, .inl (cI, 301, .inl (fun _ => 0))), (nu_8, .inl (cI, 301, .inl (fun _ => 0)))]) := hD
  refine lv_aload_n hx hb dX2_init_36 rfl (lv_at hl 0 rfl) ?_
  refine lv_iconst (v := 0) hx hb dX2_init_37 (by decide) ?_
  refine z_put Z i_X2 tyX2 tyX2_ok nmX2 hP hD hS 0 rfl rfl 5 (by decide) bw_429 rfl rfl rfl (Nat.le_of_ble_eq_true rfl) dX2_init_38 (fun H locs hP hD hS => ?_)
  have hP : va_P D vwCl ([(rd, .inr (2, [.ref q1, .int (-1), .int (-1), .int 0, .int 37, .int 0, .null])), (q1, .inr (7, [.ref bY_5, .ref ki_6, .ref at__7, .ref nu_8, .int 0, .int 0])), (bY_5, .inl (cI, 300, .inl (fun _ => 0))), (ki_6, .inl (cI, 301, .inl (fun _ => 0))), (at__7, .inl (cI, 301, .inl (fun _ => 0))), (nu_8, .inl (cI, 301, .inl (fun _ => 0)))]) H := hP
  have hD : va_D A ([(rd, .inr (2, [.ref q1, .int (-1), .int (-1), .int 0, .int 37, .int 0, .null])), (q1, .inr (7, [.ref bY_5, .ref ki_6, .ref at__7, .ref nu_8, .int 0, .int 0])), (bY_5, .inl (cI, 300, .inl (fun _ => 0))), (ki_6, .inl (cI, 301, .inl (fun _ => 0))), (at__7, .inl (cI, 301, .inl (fun _ => 0))), (nu_8, .inl (cI, 301, .inl (fun _ => 0)))]) := hD
  refine lv_aload_n hx hb dX2_init_41 rfl (lv_at hl 0 rfl) ?_
  refine z_new Z (ci := 9) (fs := [.null, .null, .null, .null, .null, .int 0, .int 0]) i_X9 tyX9 tyX9_ok bw_419 bw_292 bw_88 hP hD hS rfl rfl (Nat.le_of_ble_eq_true rfl) (Nat.le_of_ble_eq_true rfl) dX2_init_42 (fun q9 H hP hD hS => ?_)
  have hP : va_P D vwCl ([(rd, .inr (2, [.ref q1, .int (-1), .int (-1), .int 0, .int 37, .int 0, .null])), (q1, .inr (7, [.ref bY_5, .ref ki_6, .ref at__7, .ref nu_8, .int 0, .int 0])), (bY_5, .inl (cI, 300, .inl (fun _ => 0))), (ki_6, .inl (cI, 301, .inl (fun _ => 0))), (at__7, .inl (cI, 301, .inl (fun _ => 0))), (nu_8, .inl (cI, 301, .inl (fun _ => 0))), (q9, .inr (9, [.null, .null, .null, .null, .null, .int 0, .int 0]))]) H := hP
  have hD : va_D A ([(rd, .inr (2, [.ref q1, .int (-1), .int (-1), .int 0, .int 37, .int 0, .null])), (q1, .inr (7, [.ref bY_5, .ref ki_6, .ref at__7, .ref nu_8, .int 0, .int 0])), (bY_5, .inl (cI, 300, .inl (fun _ => 0))), (ki_6, .inl (cI, 301, .inl (fun _ => 0))), (at__7, .inl (cI, 301, .inl (fun _ => 0))), (nu_8, .inl (cI, 301, .inl (fun _ => 0))), (q9, .inr (9, [.null, .null, .null, .null, .null, .int 0, .int 0]))]) := hD
  refine lv_dup hx hb dX2_init_45 rfl ?_
  have hPc := hP.sub2 (wc := [(q9, .inr (9, [.null, .null, .null, .null, .null, .int 0, .int 0]))]) [6] rfl
  have hDc := hD.sub (ws' := [(q9, .inr (9, [.null, .null, .null, .null, .null, .int 0, .int 0]))]) [6] (by decide) rfl
  refine raw_IN (nA := 0) (As := []) (rest := [.ref q9, .ref rd]) Z hl.1 (c_X9_init l D cI cM cT q9) (List.mem_of_getElem? (i := 10) rfl) bw_294 bw_88 bw_295 rfl ⟨by decide +kernel, by decide +kernel, by decide +kernel⟩ rfl ⟨Nat.le_of_ble_eq_true rfl, Nat.le_of_ble_eq_true rfl⟩ hPc hDc hS rfl (Nat.le_of_ble_eq_true rfl) dX2_init_46 ⟨Nat.le_of_ble_eq_true rfl, Nat.le_of_ble_eq_true rfl⟩ (fun u10 H1 locs1 h12 hku10 hP1 hD1 hS1 => ?_)
  obtain ⟨cd_13, lF_14, lT_15, cK_16, cM__17, rfl⟩ := h12
  obtain ⟨hP, hD⟩ := z_join (wr := [(rd, .inr (2, [.ref q1, .int (-1), .int (-1), .int 0, .int 37, .int 0, .null])), (q1, .inr (7, [.ref bY_5, .ref ki_6, .ref at__7, .ref nu_8, .int 0, .int 0])), (bY_5, .inl (cI, 300, .inl (fun _ => 0))), (ki_6, .inl (cI, 301, .inl (fun _ => 0))), (at__7, .inl (cI, 301, .inl (fun _ => 0))), (nu_8, .inl (cI, 301, .inl (fun _ => 0)))]) Z hS hP hD [6] [0, 1, 2, 3, 4, 5] rfl (by decide) rfl (by decide) (by decide) hku10 hP1 hD1
  have hS := hS1
  clear hS1
  generalize H1 = H at hP hS ⊢
  generalize locs1 = locs at hS ⊢
  have hP : va_P D vwCl ([(rd, .inr (2, [.ref q1, .int (-1), .int (-1), .int 0, .int 37, .int 0, .null])), (q1, .inr (7, [.ref bY_5, .ref ki_6, .ref at__7, .ref nu_8, .int 0, .int 0])), (bY_5, .inl (cI, 300, .inl (fun _ => 0))), (ki_6, .inl (cI, 301, .inl (fun _ => 0))), (at__7, .inl (cI, 301, .inl (fun _ => 0))), (nu_8, .inl (cI, 301, .inl (fun _ => 0))), (q9, .inr (9, [.ref cd_13, .ref lF_14, .ref lT_15, .ref cK_16, .ref cM__17, .int 0, .int 0])), (lF_14, .inl (cI, 4, .inl (fun _ => 0))), (lT_15, .inl (cI, 4, .inl (fun _ => 0)))]) H := hP
  have hD : va_D A ([(rd, .inr (2, [.ref q1, .int (-1), .int (-1), .int 0, .int 37, .int 0, .null])), (q1, .inr (7, [.ref bY_5, .ref ki_6, .ref at__7, .ref nu_8, .int 0, .int 0])), (bY_5, .inl (cI, 300, .inl (fun _ => 0))), (ki_6, .inl (cI, 301, .inl (fun _ => 0))), (at__7, .inl (cI, 301, .inl (fun _ => 0))), (nu_8, .inl (cI, 301, .inl (fun _ => 0))), (q9, .inr (9, [.ref cd_13, .ref lF_14, .ref lT_15, .ref cK_16, .ref cM__17, .int 0, .int 0])), (lF_14, .inl (cI, 4, .inl (fun _ => 0))), (lT_15, .inl (cI, 4, .inl (fun _ => 0)))]) := hD
  refine z_put Z i_X2 tyX2 tyX2_ok nmX2 hP hD hS 0 rfl rfl 6 (by decide) bw_430 rfl rfl rfl (Nat.le_of_ble_eq_true rfl) dX2_init_49 (fun H locs hP hD hS => ?_)
  have hP : va_P D vwCl ([(rd, .inr (2, [.ref q1, .int (-1), .int (-1), .int 0, .int 37, .int 0, .ref q9])), (q1, .inr (7, [.ref bY_5, .ref ki_6, .ref at__7, .ref nu_8, .int 0, .int 0])), (bY_5, .inl (cI, 300, .inl (fun _ => 0))), (ki_6, .inl (cI, 301, .inl (fun _ => 0))), (at__7, .inl (cI, 301, .inl (fun _ => 0))), (nu_8, .inl (cI, 301, .inl (fun _ => 0))), (q9, .inr (9, [.ref cd_13, .ref lF_14, .ref lT_15, .ref cK_16, .ref cM__17, .int 0, .int 0])), (lF_14, .inl (cI, 4, .inl (fun _ => 0))), (lT_15, .inl (cI, 4, .inl (fun _ => 0)))]) H := hP
  have hD : va_D A ([(rd, .inr (2, [.ref q1, .int (-1), .int (-1), .int 0, .int 37, .int 0, .ref q9])), (q1, .inr (7, [.ref bY_5, .ref ki_6, .ref at__7, .ref nu_8, .int 0, .int 0])), (bY_5, .inl (cI, 300, .inl (fun _ => 0))), (ki_6, .inl (cI, 301, .inl (fun _ => 0))), (at__7, .inl (cI, 301, .inl (fun _ => 0))), (nu_8, .inl (cI, 301, .inl (fun _ => 0))), (q9, .inr (9, [.ref cd_13, .ref lF_14, .ref lT_15, .ref cK_16, .ref cM__17, .int 0, .int 0])), (lF_14, .inl (cI, 4, .inl (fun _ => 0))), (lT_15, .inl (cI, 4, .inl (fun _ => 0)))]) := hD
  have hP := hP.sub2 (wc := [(rd, .inr (2, [.ref q1, .int (-1), .int (-1), .int 0, .int 37, .int 0, .ref q9])), (q1, .inr (7, [.ref bY_5, .ref ki_6, .ref at__7, .ref nu_8, .int 0, .int 0])), (bY_5, .inl (cI, 300, .inl (fun _ => 0))), (ki_6, .inl (cI, 301, .inl (fun _ => 0))), (at__7, .inl (cI, 301, .inl (fun _ => 0))), (nu_8, .inl (cI, 301, .inl (fun _ => 0)))]) [0, 1, 2, 3, 4, 5] rfl
  have hD := hD.sub (ws' := [(rd, .inr (2, [.ref q1, .int (-1), .int (-1), .int 0, .int 37, .int 0, .ref q9])), (q1, .inr (7, [.ref bY_5, .ref ki_6, .ref at__7, .ref nu_8, .int 0, .int 0])), (bY_5, .inl (cI, 300, .inl (fun _ => 0))), (ki_6, .inl (cI, 301, .inl (fun _ => 0))), (at__7, .inl (cI, 301, .inl (fun _ => 0))), (nu_8, .inl (cI, 301, .inl (fun _ => 0)))]) [0, 1, 2, 3, 4, 5] (by decide) rfl
  exact z_vret Z hP hD hS (⟨q1, q9, bY_5, ki_6, at__7, nu_8, rfl⟩) dX2_init_52 (Nat.le_of_ble_eq_true rfl) (Nat.le_of_ble_eq_true rfl)
set_option maxHeartbeats 4000000 in
set_option maxRecDepth 100000 in
theorem c_X12_init (l : Launch) (D : va_G) (cI cM cT : ClassId) (q : Nat) : Cv l D (ty3 cI cM cT) yX12_init cX12_init 1 2 16 9563 [.ref q] ([(q, .inr (12, [.null, .null, .null, .null, .int 0, .int 0, .int 0, .int 0, .int 0, .int 0, .int 0, .long 0, .int 0, .int 0, .int 0, .int 0, .null, .int 0, .int 0, .int 0, .int 0, .int 0, .null, .null, .null, .int 0, .int 0, .int 0, .null, .null, .null, .null, .null, .null, .null, .null]))]) (fun u => ∃ (aA : Nat) (aI : Nat) (aT : Nat) (aP : Nat) (pI : Nat) (nM : Nat) (vA : Nat) (tR : Nat) (rW : Nat) (sP : Nat) (oA : Nat) (bS : Nat) (aS : Nat) (aO : Nat) (cS : Nat) (wY : Nat) (gi : Nat → Int32), u = [(q, .inr (12, [.ref aA, .ref aI, .ref aT, .ref aP, .int 0, .int (-1), .int (-1), .int 0, .int 0, .int 0, .int 0, .long 0, .int 0, .int 0, .int 0, .int 0, .ref pI, .int 0, .int 0, .int 0, .int 0, .int 0, .ref nM, .ref vA, .ref tR, .int 0, .int 0, .int 0, .ref rW, .ref sP, .ref oA, .ref bS, .ref aS, .ref aO, .ref cS, .ref wY])), (aA, .inl (cI, 862, .inl af0)), (aI, .inl (cI, 862, .inl gi)), (aT, .inl (cI, 2720, .inl (fun _ => 0))), (aP, .inl (cI, 300, .inl (fun _ => 0))), (cS, .inl (cI, 300, .inl (fun _ => 0))), (wY, .inl (cI, 64, .inl (fun _ => 0)))] ∧ ∀ j, j < 862 → gi j = af0 j) := by
  refine Cv.of (by decide +kernel) (Nat.le_of_ble_eq_true rfl) ?_
  intro p e s m below meth c A ls Z hin hP hD hl
  have hx := Z.1
  have hb := Z.2.1
  have hS : va_S A s.heap s.heap [] := va_S.rf
  have hl : lv_has ls 1 [(0, .ref q)] := hl
  skip
  refine lv_aload_n hx hb dX12_init_0 rfl (lv_at hl 0 rfl) ?_
  refine z_obj Z hl.1 bw_1015 bw_108 bw_109 dX12_init_1 (Nat.le_of_ble_eq_true rfl) (Nat.le_of_ble_eq_true rfl) ?_
  refine lv_aload_n hx hb dX12_init_4 rfl (lv_at hl 0 rfl) ?_
  refine lv_sipush (v := 862) hx hb dX12_init_5 (by decide) ?_
  refine z_newi (N := 862) Z bw_152 hP hD hS 0 rfl (by decide) (by decide) (by decide) (Nat.le_of_ble_eq_true rfl) (Nat.le_of_ble_eq_true rfl) dX12_init_8 (fun q1 H hP hD hS => ?_)
  have hP : va_P D vwCl ([(q, .inr (12, [.null, .null, .null, .null, .int 0, .int 0, .int 0, .int 0, .int 0, .int 0, .int 0, .long 0, .int 0, .int 0, .int 0, .int 0, .null, .int 0, .int 0, .int 0, .int 0, .int 0, .null, .null, .null, .int 0, .int 0, .int 0, .null, .null, .null, .null, .null, .null, .null, .null])), (q1, .inl (cI, 862, .inl (fun _ => 0)))]) H := hP
  have hD : va_D A ([(q, .inr (12, [.null, .null, .null, .null, .int 0, .int 0, .int 0, .int 0, .int 0, .int 0, .int 0, .long 0, .int 0, .int 0, .int 0, .int 0, .null, .int 0, .int 0, .int 0, .int 0, .int 0, .null, .null, .null, .int 0, .int 0, .int 0, .null, .null, .null, .null, .null, .null, .null, .null])), (q1, .inl (cI, 862, .inl (fun _ => 0)))]) := hD
  refine z_putF Z i_X12 tyX12 tyX12_ok nmX12 hP hD hS 0 rfl rfl 0 (by decide) bw_1019 rfl hin rfl rfl rfl (Nat.le_of_ble_eq_true rfl) dX12_init_10 (fun H locs hP hD hS => ?_)
  have hP : va_P D vwCl ([(q, .inr (12, [.ref q1, .null, .null, .null, .int 0, .int 0, .int 0, .int 0, .int 0, .int 0, .int 0, .long 0, .int 0, .int 0, .int 0, .int 0, .null, .int 0, .int 0, .int 0, .int 0, .int 0, .null, .null, .null, .int 0, .int 0, .int 0, .null, .null, .null, .null, .null, .null, .null, .null])), (q1, .inl (cI, 862, .inl (fun _ => 0)))]) H := hP
  have hD : va_D A ([(q, .inr (12, [.ref q1, .null, .null, .null, .int 0, .int 0, .int 0, .int 0, .int 0, .int 0, .int 0, .long 0, .int 0, .int 0, .int 0, .int 0, .null, .int 0, .int 0, .int 0, .int 0, .int 0, .null, .null, .null, .int 0, .int 0, .int 0, .null, .null, .null, .null, .null, .null, .null, .null])), (q1, .inl (cI, 862, .inl (fun _ => 0)))]) := hD
  refine lv_aload_n hx hb dX12_init_13 rfl (lv_at hl 0 rfl) ?_
  refine lv_sipush (v := 862) hx hb dX12_init_14 (by decide) ?_
  refine z_newi (N := 862) Z bw_152 hP hD hS 0 rfl (by decide) (by decide) (by decide) (Nat.le_of_ble_eq_true rfl) (Nat.le_of_ble_eq_true rfl) dX12_init_17 (fun q2 H hP hD hS => ?_)
  have hP : va_P D vwCl ([(q, .inr (12, [.ref q1, .null, .null, .null, .int 0, .int 0, .int 0, .int 0, .int 0, .int 0, .int 0, .long 0, .int 0, .int 0, .int 0, .int 0, .null, .int 0, .int 0, .int 0, .int 0, .int 0, .null, .null, .null, .int 0, .int 0, .int 0, .null, .null, .null, .null, .null, .null, .null, .null])), (q1, .inl (cI, 862, .inl (fun _ => 0))), (q2, .inl (cI, 862, .inl (fun _ => 0)))]) H := hP
  have hD : va_D A ([(q, .inr (12, [.ref q1, .null, .null, .null, .int 0, .int 0, .int 0, .int 0, .int 0, .int 0, .int 0, .long 0, .int 0, .int 0, .int 0, .int 0, .null, .int 0, .int 0, .int 0, .int 0, .int 0, .null, .null, .null, .int 0, .int 0, .int 0, .null, .null, .null, .null, .null, .null, .null, .null])), (q1, .inl (cI, 862, .inl (fun _ => 0))), (q2, .inl (cI, 862, .inl (fun _ => 0)))]) := hD
  refine z_putF Z i_X12 tyX12 tyX12_ok nmX12 hP hD hS 0 rfl rfl 1 (by decide) bw_1020 rfl hin rfl rfl rfl (Nat.le_of_ble_eq_true rfl) dX12_init_19 (fun H locs hP hD hS => ?_)
  have hP : va_P D vwCl ([(q, .inr (12, [.ref q1, .ref q2, .null, .null, .int 0, .int 0, .int 0, .int 0, .int 0, .int 0, .int 0, .long 0, .int 0, .int 0, .int 0, .int 0, .null, .int 0, .int 0, .int 0, .int 0, .int 0, .null, .null, .null, .int 0, .int 0, .int 0, .null, .null, .null, .null, .null, .null, .null, .null])), (q1, .inl (cI, 862, .inl (fun _ => 0))), (q2, .inl (cI, 862, .inl (fun _ => 0)))]) H := hP
  have hD : va_D A ([(q, .inr (12, [.ref q1, .ref q2, .null, .null, .int 0, .int 0, .int 0, .int 0, .int 0, .int 0, .int 0, .long 0, .int 0, .int 0, .int 0, .int 0, .null, .int 0, .int 0, .int 0, .int 0, .int 0, .null, .null, .null, .int 0, .int 0, .int 0, .null, .null, .null, .null, .null, .null, .null, .null])), (q1, .inl (cI, 862, .inl (fun _ => 0))), (q2, .inl (cI, 862, .inl (fun _ => 0)))]) := hD
  refine lv_aload_n hx hb dX12_init_22 rfl (lv_at hl 0 rfl) ?_
  refine lv_sipush (v := 2720) hx hb dX12_init_23 (by decide) ?_
  refine z_newi (N := 2720) Z bw_152 hP hD hS 0 rfl (by decide) (by decide) (by decide) (Nat.le_of_ble_eq_true rfl) (Nat.le_of_ble_eq_true rfl) dX12_init_26 (fun q3 H hP hD hS => ?_)
  have hP : va_P D vwCl ([(q, .inr (12, [.ref q1, .ref q2, .null, .null, .int 0, .int 0, .int 0, .int 0, .int 0, .int 0, .int 0, .long 0, .int 0, .int 0, .int 0, .int 0, .null, .int 0, .int 0, .int 0, .int 0, .int 0, .null, .null, .null, .int 0, .int 0, .int 0, .null, .null, .null, .null, .null, .null, .null, .null])), (q1, .inl (cI, 862, .inl (fun _ => 0))), (q2, .inl (cI, 862, .inl (fun _ => 0))), (q3, .inl (cI, 2720, .inl (fun _ => 0)))]) H := hP
  have hD : va_D A ([(q, .inr (12, [.ref q1, .ref q2, .null, .null, .int 0, .int 0, .int 0, .int 0, .int 0, .int 0, .int 0, .long 0, .int 0, .int 0, .int 0, .int 0, .null, .int 0, .int 0, .int 0, .int 0, .int 0, .null, .null, .null, .int 0, .int 0, .int 0, .null, .null, .null, .null, .null, .null, .null, .null])), (q1, .inl (cI, 862, .inl (fun _ => 0))), (q2, .inl (cI, 862, .inl (fun _ => 0))), (q3, .inl (cI, 2720, .inl (fun _ => 0)))]) := hD
  refine z_putF Z i_X12 tyX12 tyX12_ok nmX12 hP hD hS 0 rfl rfl 2 (by decide) bw_1021 rfl hin rfl rfl rfl (Nat.le_of_ble_eq_true rfl) dX12_init_28 (fun H locs hP hD hS => ?_)
  have hP : va_P D vwCl ([(q, .inr (12, [.ref q1, .ref q2, .ref q3, .null, .int 0, .int 0, .int 0, .int 0, .int 0, .int 0, .int 0, .long 0, .int 0, .int 0, .int 0, .int 0, .null, .int 0, .int 0, .int 0, .int 0, .int 0, .null, .null, .null, .int 0, .int 0, .int 0, .null, .null, .null, .null, .null, .null, .null, .null])), (q1, .inl (cI, 862, .inl (fun _ => 0))), (q2, .inl (cI, 862, .inl (fun _ => 0))), (q3, .inl (cI, 2720, .inl (fun _ => 0)))]) H := hP
  have hD : va_D A ([(q, .inr (12, [.ref q1, .ref q2, .ref q3, .null, .int 0, .int 0, .int 0, .int 0, .int 0, .int 0, .int 0, .long 0, .int 0, .int 0, .int 0, .int 0, .null, .int 0, .int 0, .int 0, .int 0, .int 0, .null, .null, .null, .int 0, .int 0, .int 0, .null, .null, .null, .null, .null, .null, .null, .null])), (q1, .inl (cI, 862, .inl (fun _ => 0))), (q2, .inl (cI, 862, .inl (fun _ => 0))), (q3, .inl (cI, 2720, .inl (fun _ => 0)))]) := hD
  refine lv_aload_n hx hb dX12_init_31 rfl (lv_at hl 0 rfl) ?_
  refine lv_sipush (v := 300) hx hb dX12_init_32 (by decide) ?_
  refine z_newi (N := 300) Z bw_152 hP hD hS 0 rfl (by decide) (by decide) (by decide) (Nat.le_of_ble_eq_true rfl) (Nat.le_of_ble_eq_true rfl) dX12_init_35 (fun q4 H hP hD hS => ?_)
  have hP : va_P D vwCl ([(q, .inr (12, [.ref q1, .ref q2, .ref q3, .null, .int 0, .int 0, .int 0, .int 0, .int 0, .int 0, .int 0, .long 0, .int 0, .int 0, .int 0, .int 0, .null, .int 0, .int 0, .int 0, .int 0, .int 0, .null, .null, .null, .int 0, .int 0, .int 0, .null, .null, .null, .null, .null, .null, .null, .null])), (q1, .inl (cI, 862, .inl (fun _ => 0))), (q2, .inl (cI, 862, .inl (fun _ => 0))), (q3, .inl (cI, 2720, .inl (fun _ => 0))), (q4, .inl (cI, 300, .inl (fun _ => 0)))]) H := hP
  have hD : va_D A ([(q, .inr (12, [.ref q1, .ref q2, .ref q3, .null, .int 0, .int 0, .int 0, .int 0, .int 0, .int 0, .int 0, .long 0, .int 0, .int 0, .int 0, .int 0, .null, .int 0, .int 0, .int 0, .int 0, .int 0, .null, .null, .null, .int 0, .int 0, .int 0, .null, .null, .null, .null, .null, .null, .null, .null])), (q1, .inl (cI, 862, .inl (fun _ => 0))), (q2, .inl (cI, 862, .inl (fun _ => 0))), (q3, .inl (cI, 2720, .inl (fun _ => 0))), (q4, .inl (cI, 300, .inl (fun _ => 0)))]) := hD
  refine z_putF Z i_X12 tyX12 tyX12_ok nmX12 hP hD hS 0 rfl rfl 3 (by decide) bw_1022 rfl hin rfl rfl rfl (Nat.le_of_ble_eq_true rfl) dX12_init_37 (fun H locs hP hD hS => ?_)
  have hP : va_P D vwCl ([(q, .inr (12, [.ref q1, .ref q2, .ref q3, .ref q4, .int 0, .int 0, .int 0, .int 0, .int 0, .int 0, .int 0, .long 0, .int 0, .int 0, .int 0, .int 0, .null, .int 0, .int 0, .int 0, .int 0, .int 0, .null, .null, .null, .int 0, .int 0, .int 0, .null, .null, .null, .null, .null, .null, .null, .null])), (q1, .inl (cI, 862, .inl (fun _ => 0))), (q2, .inl (cI, 862, .inl (fun _ => 0))), (q3, .inl (cI, 2720, .inl (fun _ => 0))), (q4, .inl (cI, 300, .inl (fun _ => 0)))]) H := hP
  have hD : va_D A ([(q, .inr (12, [.ref q1, .ref q2, .ref q3, .ref q4, .int 0, .int 0, .int 0, .int 0, .int 0, .int 0, .int 0, .long 0, .int 0, .int 0, .int 0, .int 0, .null, .int 0, .int 0, .int 0, .int 0, .int 0, .null, .null, .null, .int 0, .int 0, .int 0, .null, .null, .null, .null, .null, .null, .null, .null])), (q1, .inl (cI, 862, .inl (fun _ => 0))), (q2, .inl (cI, 862, .inl (fun _ => 0))), (q3, .inl (cI, 2720, .inl (fun _ => 0))), (q4, .inl (cI, 300, .inl (fun _ => 0)))]) := hD
  refine lv_aload_n hx hb dX12_init_40 rfl (lv_at hl 0 rfl) ?_
  refine lv_iconst (v := (-1)) hx hb dX12_init_41 (by decide) ?_
  refine z_put Z i_X12 tyX12 tyX12_ok nmX12 hP hD hS 0 rfl rfl 5 (by decide) bw_1024 rfl rfl rfl (Nat.le_of_ble_eq_true rfl) dX12_init_42 (fun H locs hP hD hS => ?_)
  have hP : va_P D vwCl ([(q, .inr (12, [.ref q1, .ref q2, .ref q3, .ref q4, .int 0, .int (-1), .int 0, .int 0, .int 0, .int 0, .int 0, .long 0, .int 0, .int 0, .int 0, .int 0, .null, .int 0, .int 0, .int 0, .int 0, .int 0, .null, .null, .null, .int 0, .int 0, .int 0, .null, .null, .null, .null, .null, .null, .null, .null])), (q1, .inl (cI, 862, .inl (fun _ => 0))), (q2, .inl (cI, 862, .inl (fun _ => 0))), (q3, .inl (cI, 2720, .inl (fun _ => 0))), (q4, .inl (cI, 300, .inl (fun _ => 0)))]) H := hP
  have hD : va_D A ([(q, .inr (12, [.ref q1, .ref q2, .ref q3, .ref q4, .int 0, .int (-1), .int 0, .int 0, .int 0, .int 0, .int 0, .long 0, .int 0, .int 0, .int 0, .int 0, .null, .int 0, .int 0, .int 0, .int 0, .int 0, .null, .null, .null, .int 0, .int 0, .int 0, .null, .null, .null, .null, .null, .null, .null, .null])), (q1, .inl (cI, 862, .inl (fun _ => 0))), (q2, .inl (cI, 862, .inl (fun _ => 0))), (q3, .inl (cI, 2720, .inl (fun _ => 0))), (q4, .inl (cI, 300, .inl (fun _ => 0)))]) := hD
  refine lv_aload_n hx hb dX12_init_45 rfl (lv_at hl 0 rfl) ?_
  refine lv_iconst (v := (-1)) hx hb dX12_init_46 (by decide) ?_
  refine z_put Z i_X12 tyX12 tyX12_ok nmX12 hP hD hS 0 rfl rfl 6 (by decide) bw_1025 rfl rfl rfl (Nat.le_of_ble_eq_true rfl) dX12_init_47 (fun H locs hP hD hS => ?_)
  have hP : va_P D vwCl ([(q, .inr (12, [.ref q1, .ref q2, .ref q3, .ref q4, .int 0, .int (-1), .int (-1), .int 0, .int 0, .int 0, .int 0, .long 0, .int 0, .int 0, .int 0, .int 0, .null, .int 0, .int 0, .int 0, .int 0, .int 0, .null, .null, .null, .int 0, .int 0, .int 0, .null, .null, .null, .null, .null, .null, .null, .null])), (q1, .inl (cI, 862, .inl (fun _ => 0))), (q2, .inl (cI, 862, .inl (fun _ => 0))), (q3, .inl (cI, 2720, .inl (fun _ => 0))), (q4, .inl (cI, 300, .inl (fun _ => 0)))]) H := hP
  have hD : va_D A ([(q, .inr (12, [.ref q1, .ref q2, .ref q3, .ref q4, .int 0, .int (-1), .int (-1), .int 0, .int 0, .int 0, .int 0, .long 0, .int 0, .int 0, .int 0, .int 0, .null, .int 0, .int 0, .int 0, .int 0, .int 0, .null, .null, .null, .int 0, .int 0, .int 0, .null, .null, .null, .null, .null, .null, .null, .null])), (q1, .inl (cI, 862, .inl (fun _ => 0))), (q2, .inl (cI, 862, .inl (fun _ => 0))), (q3, .inl (cI, 2720, .inl (fun _ => 0))), (q4, .inl (cI, 300, .inl (fun _ => 0)))]) := hD
  refine lv_aload_n hx hb dX12_init_50 rfl (lv_at hl 0 rfl) ?_
  refine lv_sipush (v := 160) hx hb dX12_init_51 (by decide) ?_
  refine z_newi (N := 160) Z bw_152 hP hD hS 0 rfl (by decide) (by decide) (by decide) (Nat.le_of_ble_eq_true rfl) (Nat.le_of_ble_eq_true rfl) dX12_init_54 (fun q5 H hP hD hS => ?_)
  have hP : va_P D vwCl ([(q, .inr (12, [.ref q1, .ref q2, .ref q3, .ref q4, .int 0, .int (-1), .int (-1), .int 0, .int 0, .int 0, .int 0, .long 0, .int 0, .int 0, .int 0, .int 0, .null, .int 0, .int 0, .int 0, .int 0, .int 0, .null, .null, .null, .int 0, .int 0, .int 0, .null, .null, .null, .null, .null, .null, .null, .null])), (q1, .inl (cI, 862, .inl (fun _ => 0))), (q2, .inl (cI, 862, .inl (fun _ => 0))), (q3, .inl (cI, 2720, .inl (fun _ => 0))), (q4, .inl (cI, 300, .inl (fun _ => 0))), (q5, .inl (cI, 160, .inl (fun _ => 0)))]) H := hP
  have hD : va_D A ([(q, .inr (12, [.ref q1, .ref q2, .ref q3, .ref q4, .int 0, .int (-1), .int (-1), .int 0, .int 0, .int 0, .int 0, .long 0, .int 0, .int 0, .int 0, .int 0, .null, .int 0, .int 0, .int 0, .int 0, .int 0, .null, .null, .null, .int 0, .int 0, .int 0, .null, .null, .null, .null, .null, .null, .null, .null])), (q1, .inl (cI, 862, .inl (fun _ => 0))), (q2, .inl (cI, 862, .inl (fun _ => 0))), (q3, .inl (cI, 2720, .inl (fun _ => 0))), (q4, .inl (cI, 300, .inl (fun _ => 0))), (q5, .inl (cI, 160, .inl (fun _ => 0)))]) := hD
  refine z_putF Z i_X12 tyX12 tyX12_ok nmX12 hP hD hS 0 rfl rfl 16 (by decide) bw_1033 rfl hin rfl rfl rfl (Nat.le_of_ble_eq_true rfl) dX12_init_56 (fun H locs hP hD hS => ?_)
  have hP : va_P D vwCl ([(q, .inr (12, [.ref q1, .ref q2, .ref q3, .ref q4, .int 0, .int (-1), .int (-1), .int 0, .int 0, .int 0, .int 0, .long 0, .int 0, .int 0, .int 0, .int 0, .ref q5, .int 0, .int 0, .int 0, .int 0, .int 0, .null, .null, .null, .int 0, .int 0, .int 0, .null, .null, .null, .null, .null, .null, .null, .null])), (q1, .inl (cI, 862, .inl (fun _ => 0))), (q2, .inl (cI, 862, .inl (fun _ => 0))), (q3, .inl (cI, 2720, .inl (fun _ => 0))), (q4, .inl (cI, 300, .inl (fun _ => 0))), (q5, .inl (cI, 160, .inl (fun _ => 0)))]) H := hP
  have hD : va_D A ([(q, .inr (12, [.ref q1, .ref q2, .ref q3, .ref q4, .int 0, .int (-1), .int (-1), .int 0, .int 0, .int 0, .int 0, .long 0, .int 0, .int 0, .int 0, .int 0, .ref q5, .int 0, .int 0, .int 0, .int 0, .int 0, .null, .null, .null, .int 0, .int 0, .int 0, .null, .null, .null, .null, .null, .null, .null, .null])), (q1, .inl (cI, 862, .inl (fun _ => 0))), (q2, .inl (cI, 862, .inl (fun _ => 0))), (q3, .inl (cI, 2720, .inl (fun _ => 0))), (q4, .inl (cI, 300, .inl (fun _ => 0))), (q5, .inl (cI, 160, .inl (fun _ => 0)))]) := hD
  refine lv_aload_n hx hb dX12_init_59 rfl (lv_at hl 0 rfl) ?_
  refine lv_bipush (v := 8) hx hb dX12_init_60 (by decide) ?_
  refine z_newi (N := 8) Z bw_152 hP hD hS 0 rfl (by decide) (by decide) (by decide) (Nat.le_of_ble_eq_true rfl) (Nat.le_of_ble_eq_true rfl) dX12_init_62 (fun q6 H hP hD hS => ?_)
  have hP : va_P D vwCl ([(q, .inr (12, [.ref q1, .ref q2, .ref q3, .ref q4, .int 0, .int (-1), .int (-1), .int 0, .int 0, .int 0, .int 0, .long 0, .int 0, .int 0, .int 0, .int 0, .ref q5, .int 0, .int 0, .int 0, .int 0, .int 0, .null, .null, .null, .int 0, .int 0, .int 0, .null, .null, .null, .null, .null, .null, .null, .null])), (q1, .inl (cI, 862, .inl (fun _ => 0))), (q2, .inl (cI, 862, .inl (fun _ => 0))), (q3, .inl (cI, 2720, .inl (fun _ => 0))), (q4, .inl (cI, 300, .inl (fun _ => 0))), (q5, .inl (cI, 160, .inl (fun _ => 0))), (q6, .inl (cI, 8, .inl (fun _ => 0)))]) H := hP
  have hD : va_D A ([(q, .inr (12, [.ref q1, .ref q2, .ref q3, .ref q4, .int 0, .int (-1), .int (-1), .int 0, .int 0, .int 0, .int 0, .long 0, .int 0, .int 0, .int 0, .int 0, .ref q5, .int 0, .int 0, .int 0, .int 0, .int 0, .null, .null, .null, .int 0, .int 0, .int 0, .null, .null, .null, .null, .null, .null, .null, .null])), (q1, .inl (cI, 862, .inl (fun _ => 0))), (q2, .inl (cI, 862, .inl (fun _ => 0))), (q3, .inl (cI, 2720, .inl (fun _ => 0))), (q4, .inl (cI, 300, .inl (fun _ => 0))), (q5, .inl (cI, 160, .inl (fun _ => 0))), (q6, .inl (cI, 8, .inl (fun _ => 0)))]) := hD
  refine z_putF Z i_X12 tyX12 tyX12_ok nmX12 hP hD hS 0 rfl rfl 22 (by decide) bw_1039 rfl hin rfl rfl rfl (Nat.le_of_ble_eq_true rfl) dX12_init_64 (fun H locs hP hD hS => ?_)
  have hP : va_P D vwCl ([(q, .inr (12, [.ref q1, .ref q2, .ref q3, .ref q4, .int 0, .int (-1), .int (-1), .int 0, .int 0, .int 0, .int 0, .long 0, .int 0, .int 0, .int 0, .int 0, .ref q5, .int 0, .int 0, .int 0, .int 0, .int 0, .ref q6, .null, .null, .int 0, .int 0, .int 0, .null, .null, .null, .null, .null, .null, .null, .null])), (q1, .inl (cI, 862, .inl (fun _ => 0))), (q2, .inl (cI, 862, .inl (fun _ => 0))), (q3, .inl (cI, 2720, .inl (fun _ => 0))), (q4, .inl (cI, 300, .inl (fun _ => 0))), (q5, .inl (cI, 160, .inl (fun _ => 0))), (q6, .inl (cI, 8, .inl (fun _ => 0)))]) H := hP
  have hD : va_D A ([(q, .inr (12, [.ref q1, .ref q2, .ref q3, .ref q4, .int 0, .int (-1), .int (-1), .int 0, .int 0, .int 0, .int 0, .long 0, .int 0, .int 0, .int 0, .int 0, .ref q5, .int 0, .int 0, .int 0, .int 0, .int 0, .ref q6, .null, .null, .int 0, .int 0, .int 0, .null, .null, .null, .null, .null, .null, .null, .null])), (q1, .inl (cI, 862, .inl (fun _ => 0))), (q2, .inl (cI, 862, .inl (fun _ => 0))), (q3, .inl (cI, 2720, .inl (fun _ => 0))), (q4, .inl (cI, 300, .inl (fun _ => 0))), (q5, .inl (cI, 160, .inl (fun _ => 0))), (q6, .inl (cI, 8, .inl (fun _ => 0)))]) := hD
  refine lv_aload_n hx hb dX12_init_67 rfl (lv_at hl 0 rfl) ?_
  refine lv_sipush (v := 330) hx hb dX12_init_68 (by decide) ?_
  refine va_newa (atype := .long) (ty := .long) (N' := 330) (a0 := (330, .inr (.inl (fun _ => 0)))) hx hb (Z.2.2.2.2.1 _ bw_1126) rfl Z.2.2.2.2.2.2.1 hP hD hS Z.2.2.2.2.2.2.2.1 (fun cA => rfl) (by decide) (by decide) (by decide) (Nat.le_of_ble_eq_true rfl) (Nat.le_of_ble_eq_true rfl) dX12_init_71 (fun q7 cA9 H hK9 hP hD hS => ?_)
  have hP : va_P D vwCl ([(q, .inr (12, [.ref q1, .ref q2, .ref q3, .ref q4, .int 0, .int (-1), .int (-1), .int 0, .int 0, .int 0, .int 0, .long 0, .int 0, .int 0, .int 0, .int 0, .ref q5, .int 0, .int 0, .int 0, .int 0, .int 0, .ref q6, .null, .null, .int 0, .int 0, .int 0, .null, .null, .null, .null, .null, .null, .null, .null])), (q1, .inl (cI, 862, .inl (fun _ => 0))), (q2, .inl (cI, 862, .inl (fun _ => 0))), (q3, .inl (cI, 2720, .inl (fun _ => 0))), (q4, .inl (cI, 300, .inl (fun _ => 0))), (q5, .inl (cI, 160, .inl (fun _ => 0))), (q6, .inl (cI, 8, .inl (fun _ => 0)))]) H := hP.sub2 [0, 1, 2, 3, 4, 5, 6] rfl
  have hD : va_D A ([(q, .inr (12, [.ref q1, .ref q2, .ref q3, .ref q4, .int 0, .int (-1), .int (-1), .int 0, .int 0, .int 0, .int 0, .long 0, .int 0, .int 0, .int 0, .int 0, .ref q5, .int 0, .int 0, .int 0, .int 0, .int 0, .ref q6, .null, .null, .int 0, .int 0, .int 0, .null, .null, .null, .null, .null, .null, .null, .null])), (q1, .inl (cI, 862, .inl (fun _ => 0))), (q2, .inl (cI, 862, .inl (fun _ => 0))), (q3, .inl (cI, 2720, .inl (fun _ => 0))), (q4, .inl (cI, 300, .inl (fun _ => 0))), (q5, .inl (cI, 160, .inl (fun _ => 0))), (q6, .inl (cI, 8, .inl (fun _ => 0)))]) := hD.sub [0, 1, 2, 3, 4, 5, 6] (by decide) rfl
  refine z_putF Z i_X12 tyX12 tyX12_ok nmX12 hP hD hS 0 rfl rfl 23 (by decide) bw_1040 rfl hin rfl rfl rfl (Nat.le_of_ble_eq_true rfl) dX12_init_73 (fun H locs hP hD hS => ?_)
  have hP : va_P D vwCl ([(q, .inr (12, [.ref q1, .ref q2, .ref q3, .ref q4, .int 0, .int (-1), .int (-1), .int 0, .int 0, .int 0, .int 0, .long 0, .int 0, .int 0, .int 0, .int 0, .ref q5, .int 0, .int 0, .int 0, .int 0, .int 0, .ref q6, .ref q7, .null, .int 0, .int 0, .int 0, .null, .null, .null, .null, .null, .null, .null, .null])), (q1, .inl (cI, 862, .inl (fun _ => 0))), (q2, .inl (cI, 862, .inl (fun _ => 0))), (q3, .inl (cI, 2720, .inl (fun _ => 0))), (q4, .inl (cI, 300, .inl (fun _ => 0))), (q5, .inl (cI, 160, .inl (fun _ => 0))), (q6, .inl (cI, 8, .inl (fun _ => 0)))]) H := hP
  have hD : va_D A ([(q, .inr (12, [.ref q1, .ref q2, .ref q3, .ref q4, .int 0, .int (-1), .int (-1), .int 0, .int 0, .int 0, .int 0, .long 0, .int 0, .int 0, .int 0, .int 0, .ref q5, .int 0, .int 0, .int 0, .int 0, .int 0, .ref q6, .ref q7, .null, .int 0, .int 0, .int 0, .null, .null, .null, .null, .null, .null, .null, .null])), (q1, .inl (cI, 862, .inl (fun _ => 0))), (q2, .inl (cI, 862, .inl (fun _ => 0))), (q3, .inl (cI, 2720, .inl (fun _ => 0))), (q4, .inl (cI, 300, .inl (fun _ => 0))), (q5, .inl (cI, 160, .inl (fun _ => 0))), (q6, .inl (cI, 8, .inl (fun _ => 0)))]) := hD
  refine lv_aload_n hx hb dX12_init_76 rfl (lv_at hl 0 rfl) ?_
  refine lv_sipush (v := 330) hx hb dX12_init_77 (by decide) ?_
  refine va_newa (atype := .boolean) (ty := .boolean) (N' := 330) (a0 := (330, .inl (fun _ => 0))) hx hb (Z.2.2.2.2.1 _ bw_1127) rfl Z.2.2.2.2.2.2.1 hP hD hS Z.2.2.2.2.2.2.2.1 (fun cA => rfl) (by decide) (by decide) (by decide) (Nat.le_of_ble_eq_true rfl) (Nat.le_of_ble_eq_true rfl) dX12_init_80 (fun q8 cA9 H hK9 hP hD hS => ?_)
  have hP : va_P D vwCl ([(q, .inr (12, [.ref q1, .ref q2, .ref q3, .ref q4, .int 0, .int (-1), .int (-1), .int 0, .int 0, .int 0, .int 0, .long 0, .int 0, .int 0, .int 0, .int 0, .ref q5, .int 0, .int 0, .int 0, .int 0, .int 0, .ref q6, .ref q7, .null, .int 0, .int 0, .int 0, .null, .null, .null, .null, .null, .null, .null, .null])), (q1, .inl (cI, 862, .inl (fun _ => 0))), (q2, .inl (cI, 862, .inl (fun _ => 0))), (q3, .inl (cI, 2720, .inl (fun _ => 0))), (q4, .inl (cI, 300, .inl (fun _ => 0))), (q5, .inl (cI, 160, .inl (fun _ => 0))), (q6, .inl (cI, 8, .inl (fun _ => 0)))]) H := hP.sub2 [0, 1, 2, 3, 4, 5, 6] rfl
  have hD : va_D A ([(q, .inr (12, [.ref q1, .ref q2, .ref q3, .ref q4, .int 0, .int (-1), .int (-1), .int 0, .int 0, .int 0, .int 0, .long 0, .int 0, .int 0, .int 0, .int 0, .ref q5, .int 0, .int 0, .int 0, .int 0, .int 0, .ref q6, .ref q7, .null, .int 0, .int 0, .int 0, .null, .null, .null, .null, .null, .null, .null, .null])), (q1, .inl (cI, 862, .inl (fun _ => 0))), (q2, .inl (cI, 862, .inl (fun _ => 0))), (q3, .inl (cI, 2720, .inl (fun _ => 0))), (q4, .inl (cI, 300, .inl (fun _ => 0))), (q5, .inl (cI, 160, .inl (fun _ => 0))), (q6, .inl (cI, 8, .inl (fun _ => 0)))]) := hD.sub [0, 1, 2, 3, 4, 5, 6] (by decide) rfl
  refine z_putF Z i_X12 tyX12 tyX12_ok nmX12 hP hD hS 0 rfl rfl 24 (by decide) bw_1041 rfl hin rfl rfl rfl (Nat.le_of_ble_eq_true rfl) dX12_init_82 (fun H locs hP hD hS => ?_)
  have hP : va_P D vwCl ([(q, .inr (12, [.ref q1, .ref q2, .ref q3, .ref q4, .int 0, .int (-1), .int (-1), .int 0, .int 0, .int 0, .int 0, .long 0, .int 0, .int 0, .int 0, .int 0, .ref q5, .int 0, .int 0, .int 0, .int 0, .int 0, .ref q6, .ref q7, .ref q8, .int 0, .int 0, .int 0, .null, .null, .null, .null, .null, .null, .null, .null])), (q1, .inl (cI, 862, .inl (fun _ => 0))), (q2, .inl (cI, 862, .inl (fun _ => 0))), (q3, .inl (cI, 2720, .inl (fun _ => 0))), (q4, .inl (cI, 300, .inl (fun _ => 0))), (q5, .inl (cI, 160, .inl (fun _ => 0))), (q6, .inl (cI, 8, .inl (fun _ => 0)))]) H := hP
  have hD : va_D A ([(q, .inr (12, [.ref q1, .ref q2, .ref q3, .ref q4, .int 0, .int (-1), .int (-1), .int 0, .int 0, .int 0, .int 0, .long 0, .int 0, .int 0, .int 0, .int 0, .ref q5, .int 0, .int 0, .int 0, .int 0, .int 0, .ref q6, .ref q7, .ref q8, .int 0, .int 0, .int 0, .null, .null, .null, .null, .null, .null, .null, .null])), (q1, .inl (cI, 862, .inl (fun _ => 0))), (q2, .inl (cI, 862, .inl (fun _ => 0))), (q3, .inl (cI, 2720, .inl (fun _ => 0))), (q4, .inl (cI, 300, .inl (fun _ => 0))), (q5, .inl (cI, 160, .inl (fun _ => 0))), (q6, .inl (cI, 8, .inl (fun _ => 0)))]) := hD
  refine lv_aload_n hx hb dX12_init_85 rfl (lv_at hl 0 rfl) ?_
  refine lv_bipush (v := 7) hx hb dX12_init_86 (by decide) ?_
  refine z_newi (N := 7) Z bw_152 hP hD hS 0 rfl (by decide) (by decide) (by decide) (Nat.le_of_ble_eq_true rfl) (Nat.le_of_ble_eq_true rfl) dX12_init_88 (fun q9 H hP hD hS => ?_)
  have hP : va_P D vwCl ([(q, .inr (12, [.ref q1, .ref q2, .ref q3, .ref q4, .int 0, .int (-1), .int (-1), .int 0, .int 0, .int 0, .int 0, .long 0, .int 0, .int 0, .int 0, .int 0, .ref q5, .int 0, .int 0, .int 0, .int 0, .int 0, .ref q6, .ref q7, .ref q8, .int 0, .int 0, .int 0, .null, .null, .null, .null, .null, .null, .null, .null])), (q1, .inl (cI, 862, .inl (fun _ => 0))), (q2, .inl (cI, 862, .inl (fun _ => 0))), (q3, .inl (cI, 2720, .inl (fun _ => 0))), (q4, .inl (cI, 300, .inl (fun _ => 0))), (q5, .inl (cI, 160, .inl (fun _ => 0))), (q6, .inl (cI, 8, .inl (fun _ => 0))), (q9, .inl (cI, 7, .inl (fun _ => 0)))]) H := hP
  have hD : va_D A ([(q, .inr (12, [.ref q1, .ref q2, .ref q3, .ref q4, .int 0, .int (-1), .int (-1), .int 0, .int 0, .int 0, .int 0, .long 0, .int 0, .int 0, .int 0, .int 0, .ref q5, .int 0, .int 0, .int 0, .int 0, .int 0, .ref q6, .ref q7, .ref q8, .int 0, .int 0, .int 0, .null, .null, .null, .null, .null, .null, .null, .null])), (q1, .inl (cI, 862, .inl (fun _ => 0))), (q2, .inl (cI, 862, .inl (fun _ => 0))), (q3, .inl (cI, 2720, .inl (fun _ => 0))), (q4, .inl (cI, 300, .inl (fun _ => 0))), (q5, .inl (cI, 160, .inl (fun _ => 0))), (q6, .inl (cI, 8, .inl (fun _ => 0))), (q9, .inl (cI, 7, .inl (fun _ => 0)))]) := hD
  refine z_putF Z i_X12 tyX12 tyX12_ok nmX12 hP hD hS 0 rfl rfl 28 (by decide) bw_1045 rfl hin rfl rfl rfl (Nat.le_of_ble_eq_true rfl) dX12_init_90 (fun H locs hP hD hS => ?_)
  have hP : va_P D vwCl ([(q, .inr (12, [.ref q1, .ref q2, .ref q3, .ref q4, .int 0, .int (-1), .int (-1), .int 0, .int 0, .int 0, .int 0, .long 0, .int 0, .int 0, .int 0, .int 0, .ref q5, .int 0, .int 0, .int 0, .int 0, .int 0, .ref q6, .ref q7, .ref q8, .int 0, .int 0, .int 0, .ref q9, .null, .null, .null, .null, .null, .null, .null])), (q1, .inl (cI, 862, .inl (fun _ => 0))), (q2, .inl (cI, 862, .inl (fun _ => 0))), (q3, .inl (cI, 2720, .inl (fun _ => 0))), (q4, .inl (cI, 300, .inl (fun _ => 0))), (q5, .inl (cI, 160, .inl (fun _ => 0))), (q6, .inl (cI, 8, .inl (fun _ => 0))), (q9, .inl (cI, 7, .inl (fun _ => 0)))]) H := hP
  have hD : va_D A ([(q, .inr (12, [.ref q1, .ref q2, .ref q3, .ref q4, .int 0, .int (-1), .int (-1), .int 0, .int 0, .int 0, .int 0, .long 0, .int 0, .int 0, .int 0, .int 0, .ref q5, .int 0, .int 0, .int 0, .int 0, .int 0, .ref q6, .ref q7, .ref q8, .int 0, .int 0, .int 0, .ref q9, .null, .null, .null, .null, .null, .null, .null])), (q1, .inl (cI, 862, .inl (fun _ => 0))), (q2, .inl (cI, 862, .inl (fun _ => 0))), (q3, .inl (cI, 2720, .inl (fun _ => 0))), (q4, .inl (cI, 300, .inl (fun _ => 0))), (q5, .inl (cI, 160, .inl (fun _ => 0))), (q6, .inl (cI, 8, .inl (fun _ => 0))), (q9, .inl (cI, 7, .inl (fun _ => 0)))]) := hD
  refine lv_aload_n hx hb dX12_init_93 rfl (lv_at hl 0 rfl) ?_
  refine lv_bipush (v := 7) hx hb dX12_init_94 (by decide) ?_
  refine z_newi (N := 7) Z bw_152 hP hD hS 0 rfl (by decide) (by decide) (by decide) (Nat.le_of_ble_eq_true rfl) (Nat.le_of_ble_eq_true rfl) dX12_init_96 (fun q10 H hP hD hS => ?_)
  have hP : va_P D vwCl ([(q, .inr (12, [.ref q1, .ref q2, .ref q3, .ref q4, .int 0, .int (-1), .int (-1), .int 0, .int 0, .int 0, .int 0, .long 0, .int 0, .int 0, .int 0, .int 0, .ref q5, .int 0, .int 0, .int 0, .int 0, .int 0, .ref q6, .ref q7, .ref q8, .int 0, .int 0, .int 0, .ref q9, .null, .null, .null, .null, .null, .null, .null])), (q1, .inl (cI, 862, .inl (fun _ => 0))), (q2, .inl (cI, 862, .inl (fun _ => 0))), (q3, .inl (cI, 2720, .inl (fun _ => 0))), (q4, .inl (cI, 300, .inl (fun _ => 0))), (q5, .inl (cI, 160, .inl (fun _ => 0))), (q6, .inl (cI, 8, .inl (fun _ => 0))), (q9, .inl (cI, 7, .inl (fun _ => 0))), (q10, .inl (cI, 7, .inl (fun _ => 0)))]) H := hP
  have hD : va_D A ([(q, .inr (12, [.ref q1, .ref q2, .ref q3, .ref q4, .int 0, .int (-1), .int (-1), .int 0, .int 0, .int 0, .int 0, .long 0, .int 0, .int 0, .int 0, .int 0, .ref q5, .int 0, .int 0, .int 0, .int 0, .int 0, .ref q6, .ref q7, .ref q8, .int 0, .int 0, .int 0, .ref q9, .null, .null, .null, .null, .null, .null, .null])), (q1, .inl (cI, 862, .inl (fun _ => 0))), (q2, .inl (cI, 862, .inl (fun _ => 0))), (q3, .inl (cI, 2720, .inl (fun _ => 0))), (q4, .inl (cI, 300, .inl (fun _ => 0))), (q5, .inl (cI, 160, .inl (fun _ => 0))), (q6, .inl (cI, 8, .inl (fun _ => 0))), (q9, .inl (cI, 7, .inl (fun _ => 0))), (q10, .inl (cI, 7, .inl (fun _ => 0)))]) := hD
  refine z_putF Z i_X12 tyX12 tyX12_ok nmX12 hP hD hS 0 rfl rfl 29 (by decide) bw_1046 rfl hin rfl rfl rfl (Nat.le_of_ble_eq_true rfl) dX12_init_98 (fun H locs hP hD hS => ?_)
  have hP : va_P D vwCl ([(q, .inr (12, [.ref q1, .ref q2, .ref q3, .ref q4, .int 0, .int (-1), .int (-1), .int 0, .int 0, .int 0, .int 0, .long 0, .int 0, .int 0, .int 0, .int 0, .ref q5, .int 0, .int 0, .int 0, .int 0, .int 0, .ref q6, .ref q7, .ref q8, .int 0, .int 0, .int 0, .ref q9, .ref q10, .null, .null, .null, .null, .null, .null])), (q1, .inl (cI, 862, .inl (fun _ => 0))), (q2, .inl (cI, 862, .inl (fun _ => 0))), (q3, .inl (cI, 2720, .inl (fun _ => 0))), (q4, .inl (cI, 300, .inl (fun _ => 0))), (q5, .inl (cI, 160, .inl (fun _ => 0))), (q6, .inl (cI, 8, .inl (fun _ => 0))), (q9, .inl (cI, 7, .inl (fun _ => 0))), (q10, .inl (cI, 7, .inl (fun _ => 0)))]) H := hP
  have hD : va_D A ([(q, .inr (12, [.ref q1, .ref q2, .ref q3, .ref q4, .int 0, .int (-1), .int (-1), .int 0, .int 0, .int 0, .int 0, .long 0, .int 0, .int 0, .int 0, .int 0, .ref q5, .int 0, .int 0, .int 0, .int 0, .int 0, .ref q6, .ref q7, .ref q8, .int 0, .int 0, .int 0, .ref q9, .ref q10, .null, .null, .null, .null, .null, .null])), (q1, .inl (cI, 862, .inl (fun _ => 0))), (q2, .inl (cI, 862, .inl (fun _ => 0))), (q3, .inl (cI, 2720, .inl (fun _ => 0))), (q4, .inl (cI, 300, .inl (fun _ => 0))), (q5, .inl (cI, 160, .inl (fun _ => 0))), (q6, .inl (cI, 8, .inl (fun _ => 0))), (q9, .inl (cI, 7, .inl (fun _ => 0))), (q10, .inl (cI, 7, .inl (fun _ => 0)))]) := hD
  refine lv_aload_n hx hb dX12_init_101 rfl (lv_at hl 0 rfl) ?_
  refine lv_bipush (v := 7) hx hb dX12_init_102 (by decide) ?_
  refine z_newi (N := 7) Z bw_152 hP hD hS 0 rfl (by decide) (by decide) (by decide) (Nat.le_of_ble_eq_true rfl) (Nat.le_of_ble_eq_true rfl) dX12_init_104 (fun q11 H hP hD hS => ?_)
  have hP : va_P D vwCl ([(q, .inr (12, [.ref q1, .ref q2, .ref q3, .ref q4, .int 0, .int (-1), .int (-1), .int 0, .int 0, .int 0, .int 0, .long 0, .int 0, .int 0, .int 0, .int 0, .ref q5, .int 0, .int 0, .int 0, .int 0, .int 0, .ref q6, .ref q7, .ref q8, .int 0, .int 0, .int 0, .ref q9, .ref q10, .null, .null, .null, .null, .null, .null])), (q1, .inl (cI, 862, .inl (fun _ => 0))), (q2, .inl (cI, 862, .inl (fun _ => 0))), (q3, .inl (cI, 2720, .inl (fun _ => 0))), (q4, .inl (cI, 300, .inl (fun _ => 0))), (q5, .inl (cI, 160, .inl (fun _ => 0))), (q6, .inl (cI, 8, .inl (fun _ => 0))), (q9, .inl (cI, 7, .inl (fun _ => 0))), (q10, .inl (cI, 7, .inl (fun _ => 0))), (q11, .inl (cI, 7, .inl (fun _ => 0)))]) H := hP
  have hD : va_D A ([(q, .inr (12, [.ref q1, .ref q2, .ref q3, .ref q4, .int 0, .int (-1), .int (-1), .int 0, .int 0, .int 0, .int 0, .long 0, .int 0, .int 0, .int 0, .int 0, .ref q5, .int 0, .int 0, .int 0, .int 0, .int 0, .ref q6, .ref q7, .ref q8, .int 0, .int 0, .int 0, .ref q9, .ref q10, .null, .null, .null, .null, .null, .null])), (q1, .inl (cI, 862, .inl (fun _ => 0))), (q2, .inl (cI, 862, .inl (fun _ => 0))), (q3, .inl (cI, 2720, .inl (fun _ => 0))), (q4, .inl (cI, 300, .inl (fun _ => 0))), (q5, .inl (cI, 160, .inl (fun _ => 0))), (q6, .inl (cI, 8, .inl (fun _ => 0))), (q9, .inl (cI, 7, .inl (fun _ => 0))), (q10, .inl (cI, 7, .inl (fun _ => 0))), (q11, .inl (cI, 7, .inl (fun _ => 0)))]) := hD
  refine z_putF Z i_X12 tyX12 tyX12_ok nmX12 hP hD hS 0 rfl rfl 30 (by decide) bw_1047 rfl hin rfl rfl rfl (Nat.le_of_ble_eq_true rfl) dX12_init_106 (fun H locs hP hD hS => ?_)
  have hP : va_P D vwCl ([(q, .inr (12, [.ref q1, .ref q2, .ref q3, .ref q4, .int 0, .int (-1), .int (-1), .int 0, .int 0, .int 0, .int 0, .long 0, .int 0, .int 0, .int 0, .int 0, .ref q5, .int 0, .int 0, .int 0, .int 0, .int 0, .ref q6, .ref q7, .ref q8, .int 0, .int 0, .int 0, .ref q9, .ref q10, .ref q11, .null, .null, .null, .null, .null])), (q1, .inl (cI, 862, .inl (fun _ => 0))), (q2, .inl (cI, 862, .inl (fun _ => 0))), (q3, .inl (cI, 2720, .inl (fun _ => 0))), (q4, .inl (cI, 300, .inl (fun _ => 0))), (q5, .inl (cI, 160, .inl (fun _ => 0))), (q6, .inl (cI, 8, .inl (fun _ => 0))), (q9, .inl (cI, 7, .inl (fun _ => 0))), (q10, .inl (cI, 7, .inl (fun _ => 0))), (q11, .inl (cI, 7, .inl (fun _ => 0)))]) H := hP
  have hD : va_D A ([(q, .inr (12, [.ref q1, .ref q2, .ref q3, .ref q4, .int 0, .int (-1), .int (-1), .int 0, .int 0, .int 0, .int 0, .long 0, .int 0, .int 0, .int 0, .int 0, .ref q5, .int 0, .int 0, .int 0, .int 0, .int 0, .ref q6, .ref q7, .ref q8, .int 0, .int 0, .int 0, .ref q9, .ref q10, .ref q11, .null, .null, .null, .null, .null])), (q1, .inl (cI, 862, .inl (fun _ => 0))), (q2, .inl (cI, 862, .inl (fun _ => 0))), (q3, .inl (cI, 2720, .inl (fun _ => 0))), (q4, .inl (cI, 300, .inl (fun _ => 0))), (q5, .inl (cI, 160, .inl (fun _ => 0))), (q6, .inl (cI, 8, .inl (fun _ => 0))), (q9, .inl (cI, 7, .inl (fun _ => 0))), (q10, .inl (cI, 7, .inl (fun _ => 0))), (q11, .inl (cI, 7, .inl (fun _ => 0)))]) := hD
  refine lv_aload_n hx hb dX12_init_109 rfl (lv_at hl 0 rfl) ?_
  refine lv_bipush (v := 6) hx hb dX12_init_110 (by decide) ?_
  refine z_newi (N := 6) Z bw_152 hP hD hS 0 rfl (by decide) (by decide) (by decide) (Nat.le_of_ble_eq_true rfl) (Nat.le_of_ble_eq_true rfl) dX12_init_112 (fun q12 H hP hD hS => ?_)
  have hP : va_P D vwCl ([(q, .inr (12, [.ref q1, .ref q2, .ref q3, .ref q4, .int 0, .int (-1), .int (-1), .int 0, .int 0, .int 0, .int 0, .long 0, .int 0, .int 0, .int 0, .int 0, .ref q5, .int 0, .int 0, .int 0, .int 0, .int 0, .ref q6, .ref q7, .ref q8, .int 0, .int 0, .int 0, .ref q9, .ref q10, .ref q11, .null, .null, .null, .null, .null])), (q1, .inl (cI, 862, .inl (fun _ => 0))), (q2, .inl (cI, 862, .inl (fun _ => 0))), (q3, .inl (cI, 2720, .inl (fun _ => 0))), (q4, .inl (cI, 300, .inl (fun _ => 0))), (q5, .inl (cI, 160, .inl (fun _ => 0))), (q6, .inl (cI, 8, .inl (fun _ => 0))), (q9, .inl (cI, 7, .inl (fun _ => 0))), (q10, .inl (cI, 7, .inl (fun _ => 0))), (q11, .inl (cI, 7, .inl (fun _ => 0))), (q12, .inl (cI, 6, .inl (fun _ => 0)))]) H := hP
  have hD : va_D A ([(q, .inr (12, [.ref q1, .ref q2, .ref q3, .ref q4, .int 0, .int (-1), .int (-1), .int 0, .int 0, .int 0, .int 0, .long 0, .int 0, .int 0, .int 0, .int 0, .ref q5, .int 0, .int 0, .int 0, .int 0, .int 0, .ref q6, .ref q7, .ref q8, .int 0, .int 0, .int 0, .ref q9, .ref q10, .ref q11, .null, .null, .null, .null, .null])), (q1, .inl (cI, 862, .inl (fun _ => 0))), (q2, .inl (cI, 862, .inl (fun _ => 0))), (q3, .inl (cI, 2720, .inl (fun _ => 0))), (q4, .inl (cI, 300, .inl (fun _ => 0))), (q5, .inl (cI, 160, .inl (fun _ => 0))), (q6, .inl (cI, 8, .inl (fun _ => 0))), (q9, .inl (cI, 7, .inl (fun _ => 0))), (q10, .inl (cI, 7, .inl (fun _ => 0))), (q11, .inl (cI, 7, .inl (fun _ => 0))), (q12, .inl (cI, 6, .inl (fun _ => 0)))]) := hD
  refine z_putF Z i_X12 tyX12 tyX12_ok nmX12 hP hD hS 0 rfl rfl 31 (by decide) bw_1048 rfl hin rfl rfl rfl (Nat.le_of_ble_eq_true rfl) dX12_init_114 (fun H locs hP hD hS => ?_)
  have hP : va_P D vwCl ([(q, .inr (12, [.ref q1, .ref q2, .ref q3, .ref q4, .int 0, .int (-1), .int (-1), .int 0, .int 0, .int 0, .int 0, .long 0, .int 0, .int 0, .int 0, .int 0, .ref q5, .int 0, .int 0, .int 0, .int 0, .int 0, .ref q6, .ref q7, .ref q8, .int 0, .int 0, .int 0, .ref q9, .ref q10, .ref q11, .ref q12, .null, .null, .null, .null])), (q1, .inl (cI, 862, .inl (fun _ => 0))), (q2, .inl (cI, 862, .inl (fun _ => 0))), (q3, .inl (cI, 2720, .inl (fun _ => 0))), (q4, .inl (cI, 300, .inl (fun _ => 0))), (q5, .inl (cI, 160, .inl (fun _ => 0))), (q6, .inl (cI, 8, .inl (fun _ => 0))), (q9, .inl (cI, 7, .inl (fun _ => 0))), (q10, .inl (cI, 7, .inl (fun _ => 0))), (q11, .inl (cI, 7, .inl (fun _ => 0))), (q12, .inl (cI, 6, .inl (fun _ => 0)))]) H := hP
  have hD : va_D A ([(q, .inr (12, [.ref q1, .ref q2, .ref q3, .ref q4, .int 0, .int (-1), .int (-1), .int 0, .int 0, .int 0, .int 0, .long 0, .int 0, .int 0, .int 0, .int 0, .ref q5, .int 0, .int 0, .int 0, .int 0, .int 0, .ref q6, .ref q7, .ref q8, .int 0, .int 0, .int 0, .ref q9, .ref q10, .ref q11, .ref q12, .null, .null, .null, .null])), (q1, .inl (cI, 862, .inl (fun _ => 0))), (q2, .inl (cI, 862, .inl (fun _ => 0))), (q3, .inl (cI, 2720, .inl (fun _ => 0))), (q4, .inl (cI, 300, .inl (fun _ => 0))), (q5, .inl (cI, 160, .inl (fun _ => 0))), (q6, .inl (cI, 8, .inl (fun _ => 0))), (q9, .inl (cI, 7, .inl (fun _ => 0))), (q10, .inl (cI, 7, .inl (fun _ => 0))), (q11, .inl (cI, 7, .inl (fun _ => 0))), (q12, .inl (cI, 6, .inl (fun _ => 0)))]) := hD
  refine lv_aload_n hx hb dX12_init_117 rfl (lv_at hl 0 rfl) ?_
  refine lv_sipush (v := 1800) hx hb dX12_init_118 (by decide) ?_
  refine z_newi (N := 1800) Z bw_152 hP hD hS 0 rfl (by decide) (by decide) (by decide) (Nat.le_of_ble_eq_true rfl) (Nat.le_of_ble_eq_true rfl) dX12_init_121 (fun q13 H hP hD hS => ?_)
  have hP : va_P D vwCl ([(q, .inr (12, [.ref q1, .ref q2, .ref q3, .ref q4, .int 0, .int (-1), .int (-1), .int 0, .int 0, .int 0, .int 0, .long 0, .int 0, .int 0, .int 0, .int 0, .ref q5, .int 0, .int 0, .int 0, .int 0, .int 0, .ref q6, .ref q7, .ref q8, .int 0, .int 0, .int 0, .ref q9, .ref q10, .ref q11, .ref q12, .null, .null, .null, .null])), (q1, .inl (cI, 862, .inl (fun _ => 0))), (q2, .inl (cI, 862, .inl (fun _ => 0))), (q3, .inl (cI, 2720, .inl (fun _ => 0))), (q4, .inl (cI, 300, .inl (fun _ => 0))), (q5, .inl (cI, 160, .inl (fun _ => 0))), (q6, .inl (cI, 8, .inl (fun _ => 0))), (q9, .inl (cI, 7, .inl (fun _ => 0))), (q10, .inl (cI, 7, .inl (fun _ => 0))), (q11, .inl (cI, 7, .inl (fun _ => 0))), (q12, .inl (cI, 6, .inl (fun _ => 0))), (q13, .inl (cI, 1800, .inl (fun _ => 0)))]) H := hP
  have hD : va_D A ([(q, .inr (12, [.ref q1, .ref q2, .ref q3, .ref q4, .int 0, .int (-1), .int (-1), .int 0, .int 0, .int 0, .int 0, .long 0, .int 0, .int 0, .int 0, .int 0, .ref q5, .int 0, .int 0, .int 0, .int 0, .int 0, .ref q6, .ref q7, .ref q8, .int 0, .int 0, .int 0, .ref q9, .ref q10, .ref q11, .ref q12, .null, .null, .null, .null])), (q1, .inl (cI, 862, .inl (fun _ => 0))), (q2, .inl (cI, 862, .inl (fun _ => 0))), (q3, .inl (cI, 2720, .inl (fun _ => 0))), (q4, .inl (cI, 300, .inl (fun _ => 0))), (q5, .inl (cI, 160, .inl (fun _ => 0))), (q6, .inl (cI, 8, .inl (fun _ => 0))), (q9, .inl (cI, 7, .inl (fun _ => 0))), (q10, .inl (cI, 7, .inl (fun _ => 0))), (q11, .inl (cI, 7, .inl (fun _ => 0))), (q12, .inl (cI, 6, .inl (fun _ => 0))), (q13, .inl (cI, 1800, .inl (fun _ => 0)))]) := hD
  refine z_putF Z i_X12 tyX12 tyX12_ok nmX12 hP hD hS 0 rfl rfl 32 (by decide) bw_1049 rfl hin rfl rfl rfl (Nat.le_of_ble_eq_true rfl) dX12_init_123 (fun H locs hP hD hS => ?_)
  have hP : va_P D vwCl ([(q, .inr (12, [.ref q1, .ref q2, .ref q3, .ref q4, .int 0, .int (-1), .int (-1), .int 0, .int 0, .int 0, .int 0, .long 0, .int 0, .int 0, .int 0, .int 0, .ref q5, .int 0, .int 0, .int 0, .int 0, .int 0, .ref q6, .ref q7, .ref q8, .int 0, .int 0, .int 0, .ref q9, .ref q10, .ref q11, .ref q12, .ref q13, .null, .null, .null])), (q1, .inl (cI, 862, .inl (fun _ => 0))), (q2, .inl (cI, 862, .inl (fun _ => 0))), (q3, .inl (cI, 2720, .inl (fun _ => 0))), (q4, .inl (cI, 300, .inl (fun _ => 0))), (q5, .inl (cI, 160, .inl (fun _ => 0))), (q6, .inl (cI, 8, .inl (fun _ => 0))), (q9, .inl (cI, 7, .inl (fun _ => 0))), (q10, .inl (cI, 7, .inl (fun _ => 0))), (q11, .inl (cI, 7, .inl (fun _ => 0))), (q12, .inl (cI, 6, .inl (fun _ => 0))), (q13, .inl (cI, 1800, .inl (fun _ => 0)))]) H := hP
  have hD : va_D A ([(q, .inr (12, [.ref q1, .ref q2, .ref q3, .ref q4, .int 0, .int (-1), .int (-1), .int 0, .int 0, .int 0, .int 0, .long 0, .int 0, .int 0, .int 0, .int 0, .ref q5, .int 0, .int 0, .int 0, .int 0, .int 0, .ref q6, .ref q7, .ref q8, .int 0, .int 0, .int 0, .ref q9, .ref q10, .ref q11, .ref q12, .ref q13, .null, .null, .null])), (q1, .inl (cI, 862, .inl (fun _ => 0))), (q2, .inl (cI, 862, .inl (fun _ => 0))), (q3, .inl (cI, 2720, .inl (fun _ => 0))), (q4, .inl (cI, 300, .inl (fun _ => 0))), (q5, .inl (cI, 160, .inl (fun _ => 0))), (q6, .inl (cI, 8, .inl (fun _ => 0))), (q9, .inl (cI, 7, .inl (fun _ => 0))), (q10, .inl (cI, 7, .inl (fun _ => 0))), (q11, .inl (cI, 7, .inl (fun _ => 0))), (q12, .inl (cI, 6, .inl (fun _ => 0))), (q13, .inl (cI, 1800, .inl (fun _ => 0)))]) := hD
  refine lv_aload_n hx hb dX12_init_126 rfl (lv_at hl 0 rfl) ?_
  refine lv_sipush (v := 1800) hx hb dX12_init_127 (by decide) ?_
  refine z_newi (N := 1800) Z bw_152 hP hD hS 0 rfl (by decide) (by decide) (by decide) (Nat.le_of_ble_eq_true rfl) (Nat.le_of_ble_eq_true rfl) dX12_init_130 (fun q14 H hP hD hS => ?_)
  have hP : va_P D vwCl ([(q, .inr (12, [.ref q1, .ref q2, .ref q3, .ref q4, .int 0, .int (-1), .int (-1), .int 0, .int 0, .int 0, .int 0, .long 0, .int 0, .int 0, .int 0, .int 0, .ref q5, .int 0, .int 0, .int 0, .int 0, .int 0, .ref q6, .ref q7, .ref q8, .int 0, .int 0, .int 0, .ref q9, .ref q10, .ref q11, .ref q12, .ref q13, .null, .null, .null])), (q1, .inl (cI, 862, .inl (fun _ => 0))), (q2, .inl (cI, 862, .inl (fun _ => 0))), (q3, .inl (cI, 2720, .inl (fun _ => 0))), (q4, .inl (cI, 300, .inl (fun _ => 0))), (q5, .inl (cI, 160, .inl (fun _ => 0))), (q6, .inl (cI, 8, .inl (fun _ => 0))), (q9, .inl (cI, 7, .inl (fun _ => 0))), (q10, .inl (cI, 7, .inl (fun _ => 0))), (q11, .inl (cI, 7, .inl (fun _ => 0))), (q12, .inl (cI, 6, .inl (fun _ => 0))), (q13, .inl (cI, 1800, .inl (fun _ => 0))), (q14, .inl (cI, 1800, .inl (fun _ => 0)))]) H := hP
  have hD : va_D A ([(q, .inr (12, [.ref q1, .ref q2, .ref q3, .ref q4, .int 0, .int (-1), .int (-1), .int 0, .int 0, .int 0, .int 0, .long 0, .int 0, .int 0, .int 0, .int 0, .ref q5, .int 0, .int 0, .int 0, .int 0, .int 0, .ref q6, .ref q7, .ref q8, .int 0, .int 0, .int 0, .ref q9, .ref q10, .ref q11, .ref q12, .ref q13, .null, .null, .null])), (q1, .inl (cI, 862, .inl (fun _ => 0))), (q2, .inl (cI, 862, .inl (fun _ => 0))), (q3, .inl (cI, 2720, .inl (fun _ => 0))), (q4, .inl (cI, 300, .inl (fun _ => 0))), (q5, .inl (cI, 160, .inl (fun _ => 0))), (q6, .inl (cI, 8, .inl (fun _ => 0))), (q9, .inl (cI, 7, .inl (fun _ => 0))), (q10, .inl (cI, 7, .inl (fun _ => 0))), (q11, .inl (cI, 7, .inl (fun _ => 0))), (q12, .inl (cI, 6, .inl (fun _ => 0))), (q13, .inl (cI, 1800, .inl (fun _ => 0))), (q14, .inl (cI, 1800, .inl (fun _ => 0)))]) := hD
  refine z_putF Z i_X12 tyX12 tyX12_ok nmX12 hP hD hS 0 rfl rfl 33 (by decide) bw_1050 rfl hin rfl rfl rfl (Nat.le_of_ble_eq_true rfl) dX12_init_132 (fun H locs hP hD hS => ?_)
  have hP : va_P D vwCl ([(q, .inr (12, [.ref q1, .ref q2, .ref q3, .ref q4, .int 0, .int (-1), .int (-1), .int 0, .int 0, .int 0, .int 0, .long 0, .int 0, .int 0, .int 0, .int 0, .ref q5, .int 0, .int 0, .int 0, .int 0, .int 0, .ref q6, .ref q7, .ref q8, .int 0, .int 0, .int 0, .ref q9, .ref q10, .ref q11, .ref q12, .ref q13, .ref q14, .null, .null])), (q1, .inl (cI, 862, .inl (fun _ => 0))), (q2, .inl (cI, 862, .inl (fun _ => 0))), (q3, .inl (cI, 2720, .inl (fun _ => 0))), (q4, .inl (cI, 300, .inl (fun _ => 0))), (q5, .inl (cI, 160, .inl (fun _ => 0))), (q6, .inl (cI, 8, .inl (fun _ => 0))), (q9, .inl (cI, 7, .inl (fun _ => 0))), (q10, .inl (cI, 7, .inl (fun _ => 0))), (q11, .inl (cI, 7, .inl (fun _ => 0))), (q12, .inl (cI, 6, .inl (fun _ => 0))), (q13, .inl (cI, 1800, .inl (fun _ => 0))), (q14, .inl (cI, 1800, .inl (fun _ => 0)))]) H := hP
  have hD : va_D A ([(q, .inr (12, [.ref q1, .ref q2, .ref q3, .ref q4, .int 0, .int (-1), .int (-1), .int 0, .int 0, .int 0, .int 0, .long 0, .int 0, .int 0, .int 0, .int 0, .ref q5, .int 0, .int 0, .int 0, .int 0, .int 0, .ref q6, .ref q7, .ref q8, .int 0, .int 0, .int 0, .ref q9, .ref q10, .ref q11, .ref q12, .ref q13, .ref q14, .null, .null])), (q1, .inl (cI, 862, .inl (fun _ => 0))), (q2, .inl (cI, 862, .inl (fun _ => 0))), (q3, .inl (cI, 2720, .inl (fun _ => 0))), (q4, .inl (cI, 300, .inl (fun _ => 0))), (q5, .inl (cI, 160, .inl (fun _ => 0))), (q6, .inl (cI, 8, .inl (fun _ => 0))), (q9, .inl (cI, 7, .inl (fun _ => 0))), (q10, .inl (cI, 7, .inl (fun _ => 0))), (q11, .inl (cI, 7, .inl (fun _ => 0))), (q12, .inl (cI, 6, .inl (fun _ => 0))), (q13, .inl (cI, 1800, .inl (fun _ => 0))), (q14, .inl (cI, 1800, .inl (fun _ => 0)))]) := hD
  refine lv_aload_n hx hb dX12_init_135 rfl (lv_at hl 0 rfl) ?_
  refine lv_sipush (v := 300) hx hb dX12_init_136 (by decide) ?_
  refine z_newi (N := 300) Z bw_152 hP hD hS 0 rfl (by decide) (by decide) (by decide) (Nat.le_of_ble_eq_true rfl) (Nat.le_of_ble_eq_true rfl) dX12_init_139 (fun q15 H hP hD hS => ?_)
  have hP : va_P D vwCl ([(q, .inr (12, [.ref q1, .ref q2, .ref q3, .ref q4, .int 0, .int (-1), .int (-1), .int 0, .int 0, .int 0, .int 0, .long 0, .int 0, .int 0, .int 0, .int 0, .ref q5, .int 0, .int 0, .int 0, .int 0, .int 0, .ref q6, .ref q7, .ref q8, .int 0, .int 0, .int 0, .ref q9, .ref q10, .ref q11, .ref q12, .ref q13, .ref q14, .null, .null])), (q1, .inl (cI, 862, .inl (fun _ => 0))), (q2, .inl (cI, 862, .inl (fun _ => 0))), (q3, .inl (cI, 2720, .inl (fun _ => 0))), (q4, .inl (cI, 300, .inl (fun _ => 0))), (q5, .inl (cI, 160, .inl (fun _ => 0))), (q6, .inl (cI, 8, .inl (fun _ => 0))), (q9, .inl (cI, 7, .inl (fun _ => 0))), (q10, .inl (cI, 7, .inl (fun _ => 0))), (q11, .inl (cI, 7, .inl (fun _ => 0))), (q12, .inl (cI, 6, .inl (fun _ => 0))), (q13, .inl (cI, 1800, .inl (fun _ => 0))), (q14, .inl (cI, 1800, .inl (fun _ => 0))), (q15, .inl (cI, 300, .inl (fun _ => 0)))]) H := hP
  have hD : va_D A ([(q, .inr (12, [.ref q1, .ref q2, .ref q3, .ref q4, .int 0, .int (-1), .int (-1), .int 0, .int 0, .int 0, .int 0, .long 0, .int 0, .int 0, .int 0, .int 0, .ref q5, .int 0, .int 0, .int 0, .int 0, .int 0, .ref q6, .ref q7, .ref q8, .int 0, .int 0, .int 0, .ref q9, .ref q10, .ref q11, .ref q12, .ref q13, .ref q14, .null, .null])), (q1, .inl (cI, 862, .inl (fun _ => 0))), (q2, .inl (cI, 862, .inl (fun _ => 0))), (q3, .inl (cI, 2720, .inl (fun _ => 0))), (q4, .inl (cI, 300, .inl (fun _ => 0))), (q5, .inl (cI, 160, .inl (fun _ => 0))), (q6, .inl (cI, 8, .inl (fun _ => 0))), (q9, .inl (cI, 7, .inl (fun _ => 0))), (q10, .inl (cI, 7, .inl (fun _ => 0))), (q11, .inl (cI, 7, .inl (fun _ => 0))), (q12, .inl (cI, 6, .inl (fun _ => 0))), (q13, .inl (cI, 1800, .inl (fun _ => 0))), (q14, .inl (cI, 1800, .inl (fun _ => 0))), (q15, .inl (cI, 300, .inl (fun _ => 0)))]) := hD
  refine z_putF Z i_X12 tyX12 tyX12_ok nmX12 hP hD hS 0 rfl rfl 34 (by decide) bw_1051 rfl hin rfl rfl rfl (Nat.le_of_ble_eq_true rfl) dX12_init_141 (fun H locs hP hD hS => ?_)
  have hP : va_P D vwCl ([(q, .inr (12, [.ref q1, .ref q2, .ref q3, .ref q4, .int 0, .int (-1), .int (-1), .int 0, .int 0, .int 0, .int 0, .long 0, .int 0, .int 0, .int 0, .int 0, .ref q5, .int 0, .int 0, .int 0, .int 0, .int 0, .ref q6, .ref q7, .ref q8, .int 0, .int 0, .int 0, .ref q9, .ref q10, .ref q11, .ref q12, .ref q13, .ref q14, .ref q15, .null])), (q1, .inl (cI, 862, .inl (fun _ => 0))), (q2, .inl (cI, 862, .inl (fun _ => 0))), (q3, .inl (cI, 2720, .inl (fun _ => 0))), (q4, .inl (cI, 300, .inl (fun _ => 0))), (q5, .inl (cI, 160, .inl (fun _ => 0))), (q6, .inl (cI, 8, .inl (fun _ => 0))), (q9, .inl (cI, 7, .inl (fun _ => 0))), (q10, .inl (cI, 7, .inl (fun _ => 0))), (q11, .inl (cI, 7, .inl (fun _ => 0))), (q12, .inl (cI, 6, .inl (fun _ => 0))), (q13, .inl (cI, 1800, .inl (fun _ => 0))), (q14, .inl (cI, 1800, .inl (fun _ => 0))), (q15, .inl (cI, 300, .inl (fun _ => 0)))]) H := hP
  have hD : va_D A ([(q, .inr (12, [.ref q1, .ref q2, .ref q3, .ref q4, .int 0, .int (-1), .int (-1), .int 0, .int 0, .int 0, .int 0, .long 0, .int 0, .int 0, .int 0, .int 0, .ref q5, .int 0, .int 0, .int 0, .int 0, .int 0, .ref q6, .ref q7, .ref q8, .int 0, .int 0, .int 0, .ref q9, .ref q10, .ref q11, .ref q12, .ref q13, .ref q14, .ref q15, .null])), (q1, .inl (cI, 862, .inl (fun _ => 0))), (q2, .inl (cI, 862, .inl (fun _ => 0))), (q3, .inl (cI, 2720, .inl (fun _ => 0))), (q4, .inl (cI, 300, .inl (fun _ => 0))), (q5, .inl (cI, 160, .inl (fun _ => 0))), (q6, .inl (cI, 8, .inl (fun _ => 0))), (q9, .inl (cI, 7, .inl (fun _ => 0))), (q10, .inl (cI, 7, .inl (fun _ => 0))), (q11, .inl (cI, 7, .inl (fun _ => 0))), (q12, .inl (cI, 6, .inl (fun _ => 0))), (q13, .inl (cI, 1800, .inl (fun _ => 0))), (q14, .inl (cI, 1800, .inl (fun _ => 0))), (q15, .inl (cI, 300, .inl (fun _ => 0)))]) := hD
  refine lv_aload_n hx hb dX12_init_144 rfl (lv_at hl 0 rfl) ?_
  refine lv_bipush (v := 64) hx hb dX12_init_145 (by decide) ?_
  refine z_newi (N := 64) Z bw_152 hP hD hS 0 rfl (by decide) (by decide) (by decide) (Nat.le_of_ble_eq_true rfl) (Nat.le_of_ble_eq_true rfl) dX12_init_147 (fun q16 H hP hD hS => ?_)
  have hP : va_P D vwCl ([(q, .inr (12, [.ref q1, .ref q2, .ref q3, .ref q4, .int 0, .int (-1), .int (-1), .int 0, .int 0, .int 0, .int 0, .long 0, .int 0, .int 0, .int 0, .int 0, .ref q5, .int 0, .int 0, .int 0, .int 0, .int 0, .ref q6, .ref q7, .ref q8, .int 0, .int 0, .int 0, .ref q9, .ref q10, .ref q11, .ref q12, .ref q13, .ref q14, .ref q15, .null])), (q1, .inl (cI, 862, .inl (fun _ => 0))), (q2, .inl (cI, 862, .inl (fun _ => 0))), (q3, .inl (cI, 2720, .inl (fun _ => 0))), (q4, .inl (cI, 300, .inl (fun _ => 0))), (q5, .inl (cI, 160, .inl (fun _ => 0))), (q6, .inl (cI, 8, .inl (fun _ => 0))), (q9, .inl (cI, 7, .inl (fun _ => 0))), (q10, .inl (cI, 7, .inl (fun _ => 0))), (q11, .inl (cI, 7, .inl (fun _ => 0))), (q12, .inl (cI, 6, .inl (fun _ => 0))), (q13, .inl (cI, 1800, .inl (fun _ => 0))), (q14, .inl (cI, 1800, .inl (fun _ => 0))), (q15, .inl (cI, 300, .inl (fun _ => 0))), (q16, .inl (cI, 64, .inl (fun _ => 0)))]) H := hP
  have hD : va_D A ([(q, .inr (12, [.ref q1, .ref q2, .ref q3, .ref q4, .int 0, .int (-1), .int (-1), .int 0, .int 0, .int 0, .int 0, .long 0, .int 0, .int 0, .int 0, .int 0, .ref q5, .int 0, .int 0, .int 0, .int 0, .int 0, .ref q6, .ref q7, .ref q8, .int 0, .int 0, .int 0, .ref q9, .ref q10, .ref q11, .ref q12, .ref q13, .ref q14, .ref q15, .null])), (q1, .inl (cI, 862, .inl (fun _ => 0))), (q2, .inl (cI, 862, .inl (fun _ => 0))), (q3, .inl (cI, 2720, .inl (fun _ => 0))), (q4, .inl (cI, 300, .inl (fun _ => 0))), (q5, .inl (cI, 160, .inl (fun _ => 0))), (q6, .inl (cI, 8, .inl (fun _ => 0))), (q9, .inl (cI, 7, .inl (fun _ => 0))), (q10, .inl (cI, 7, .inl (fun _ => 0))), (q11, .inl (cI, 7, .inl (fun _ => 0))), (q12, .inl (cI, 6, .inl (fun _ => 0))), (q13, .inl (cI, 1800, .inl (fun _ => 0))), (q14, .inl (cI, 1800, .inl (fun _ => 0))), (q15, .inl (cI, 300, .inl (fun _ => 0))), (q16, .inl (cI, 64, .inl (fun _ => 0)))]) := hD
  refine z_putF Z i_X12 tyX12 tyX12_ok nmX12 hP hD hS 0 rfl rfl 35 (by decide) bw_1052 rfl hin rfl rfl rfl (Nat.le_of_ble_eq_true rfl) dX12_init_149 (fun H locs hP hD hS => ?_)
  have hP : va_P D vwCl ([(q, .inr (12, [.ref q1, .ref q2, .ref q3, .ref q4, .int 0, .int (-1), .int (-1), .int 0, .int 0, .int 0, .int 0, .long 0, .int 0, .int 0, .int 0, .int 0, .ref q5, .int 0, .int 0, .int 0, .int 0, .int 0, .ref q6, .ref q7, .ref q8, .int 0, .int 0, .int 0, .ref q9, .ref q10, .ref q11, .ref q12, .ref q13, .ref q14, .ref q15, .ref q16])), (q1, .inl (cI, 862, .inl (fun _ => 0))), (q2, .inl (cI, 862, .inl (fun _ => 0))), (q3, .inl (cI, 2720, .inl (fun _ => 0))), (q4, .inl (cI, 300, .inl (fun _ => 0))), (q5, .inl (cI, 160, .inl (fun _ => 0))), (q6, .inl (cI, 8, .inl (fun _ => 0))), (q9, .inl (cI, 7, .inl (fun _ => 0))), (q10, .inl (cI, 7, .inl (fun _ => 0))), (q11, .inl (cI, 7, .inl (fun _ => 0))), (q12, .inl (cI, 6, .inl (fun _ => 0))), (q13, .inl (cI, 1800, .inl (fun _ => 0))), (q14, .inl (cI, 1800, .inl (fun _ => 0))), (q15, .inl (cI, 300, .inl (fun _ => 0))), (q16, .inl (cI, 64, .inl (fun _ => 0)))]) H := hP
  have hD : va_D A ([(q, .inr (12, [.ref q1, .ref q2, .ref q3, .ref q4, .int 0, .int (-1), .int (-1), .int 0, .int 0, .int 0, .int 0, .long 0, .int 0, .int 0, .int 0, .int 0, .ref q5, .int 0, .int 0, .int 0, .int 0, .int 0, .ref q6, .ref q7, .ref q8, .int 0, .int 0, .int 0, .ref q9, .ref q10, .ref q11, .ref q12, .ref q13, .ref q14, .ref q15, .ref q16])), (q1, .inl (cI, 862, .inl (fun _ => 0))), (q2, .inl (cI, 862, .inl (fun _ => 0))), (q3, .inl (cI, 2720, .inl (fun _ => 0))), (q4, .inl (cI, 300, .inl (fun _ => 0))), (q5, .inl (cI, 160, .inl (fun _ => 0))), (q6, .inl (cI, 8, .inl (fun _ => 0))), (q9, .inl (cI, 7, .inl (fun _ => 0))), (q10, .inl (cI, 7, .inl (fun _ => 0))), (q11, .inl (cI, 7, .inl (fun _ => 0))), (q12, .inl (cI, 6, .inl (fun _ => 0))), (q13, .inl (cI, 1800, .inl (fun _ => 0))), (q14, .inl (cI, 1800, .inl (fun _ => 0))), (q15, .inl (cI, 300, .inl (fun _ => 0))), (q16, .inl (cI, 64, .inl (fun _ => 0)))]) := hD
  refine lv_aload_n hx hb dX12_init_152 rfl (lv_at hl 0 rfl) ?_
  refine z_get Z i_X12 hP 0 rfl rfl 0 (by decide) bw_1019 rfl dX12_init_153 ?_
  refine lv_bipush (v := 7) hx hb dX12_init_156 (by decide) ?_
  refine lv_iconst (v := (-1)) hx hb dX12_init_158 (by decide) ?_
  refine z_iast Z hP hD hS 1 0 rfl rfl (vin (by decide)) dX12_init_159 (fun H locs hP hD hS => ?_)
  have hP : va_P D vwCl ([(q, .inr (12, [.ref q1, .ref q2, .ref q3, .ref q4, .int 0, .int (-1), .int (-1), .int 0, .int 0, .int 0, .int 0, .long 0, .int 0, .int 0, .int 0, .int 0, .ref q5, .int 0, .int 0, .int 0, .int 0, .int 0, .ref q6, .ref q7, .ref q8, .int 0, .int 0, .int 0, .ref q9, .ref q10, .ref q11, .ref q12, .ref q13, .ref q14, .ref q15, .ref q16])), (q1, .inl (cI, 862, .inl (upd (fun _ => 0) (7 : Int32).toNatClampNeg (-1)))), (q2, .inl (cI, 862, .inl (fun _ => 0))), (q3, .inl (cI, 2720, .inl (fun _ => 0))), (q4, .inl (cI, 300, .inl (fun _ => 0))), (q5, .inl (cI, 160, .inl (fun _ => 0))), (q6, .inl (cI, 8, .inl (fun _ => 0))), (q9, .inl (cI, 7, .inl (fun _ => 0))), (q10, .inl (cI, 7, .inl (fun _ => 0))), (q11, .inl (cI, 7, .inl (fun _ => 0))), (q12, .inl (cI, 6, .inl (fun _ => 0))), (q13, .inl (cI, 1800, .inl (fun _ => 0))), (q14, .inl (cI, 1800, .inl (fun _ => 0))), (q15, .inl (cI, 300, .inl (fun _ => 0))), (q16, .inl (cI, 64, .inl (fun _ => 0)))]) H := hP
  have hD : va_D A ([(q, .inr (12, [.ref q1, .ref q2, .ref q3, .ref q4, .int 0, .int (-1), .int (-1), .int 0, .int 0, .int 0, .int 0, .long 0, .int 0, .int 0, .int 0, .int 0, .ref q5, .int 0, .int 0, .int 0, .int 0, .int 0, .ref q6, .ref q7, .ref q8, .int 0, .int 0, .int 0, .ref q9, .ref q10, .ref q11, .ref q12, .ref q13, .ref q14, .ref q15, .ref q16])), (q1, .inl (cI, 862, .inl (upd (fun _ => 0) (7 : Int32).toNatClampNeg (-1)))), (q2, .inl (cI, 862, .inl (fun _ => 0))), (q3, .inl (cI, 2720, .inl (fun _ => 0))), (q4, .inl (cI, 300, .inl (fun _ => 0))), (q5, .inl (cI, 160, .inl (fun _ => 0))), (q6, .inl (cI, 8, .inl (fun _ => 0))), (q9, .inl (cI, 7, .inl (fun _ => 0))), (q10, .inl (cI, 7, .inl (fun _ => 0))), (q11, .inl (cI, 7, .inl (fun _ => 0))), (q12, .inl (cI, 6, .inl (fun _ => 0))), (q13, .inl (cI, 1800, .inl (fun _ => 0))), (q14, .inl (cI, 1800, .inl (fun _ => 0))), (q15, .inl (cI, 300, .inl (fun _ => 0))), (q16, .inl (cI, 64, .inl (fun _ => 0)))]) := hD
  refine lv_aload_n hx hb dX12_init_160 rfl (lv_at hl 0 rfl) ?_
  refine z_get Z i_X12 hP 0 rfl rfl 0 (by decide) bw_1019 rfl dX12_init_161 ?_
  refine lv_iconst (v := 5) hx hb dX12_init_164 (by decide) ?_
  refine lv_bipush (v := 13) hx hb dX12_init_165 (by decide) ?_
  refine z_iast Z hP hD hS 1 0 rfl rfl (vin (by decide)) dX12_init_167 (fun H locs hP hD hS => ?_)
  have hP : va_P D vwCl ([(q, .inr (12, [.ref q1, .ref q2, .ref q3, .ref q4, .int 0, .int (-1), .int (-1), .int 0, .int 0, .int 0, .int 0, .long 0, .int 0, .int 0, .int 0, .int 0, .ref q5, .int 0, .int 0, .int 0, .int 0, .int 0, .ref q6, .ref q7, .ref q8, .int 0, .int 0, .int 0, .ref q9, .ref q10, .ref q11, .ref q12, .ref q13, .ref q14, .ref q15, .ref q16])), (q1, .inl (cI, 862, .inl (upd (upd (fun _ => 0) (7 : Int32).toNatClampNeg (-1)) (5 : Int32).toNatClampNeg 13))), (q2, .inl (cI, 862, .inl (fun _ => 0))), (q3, .inl (cI, 2720, .inl (fun _ => 0))), (q4, .inl (cI, 300, .inl (fun _ => 0))), (q5, .inl (cI, 160, .inl (fun _ => 0))), (q6, .inl (cI, 8, .inl (fun _ => 0))), (q9, .inl (cI, 7, .inl (fun _ => 0))), (q10, .inl (cI, 7, .inl (fun _ => 0))), (q11, .inl (cI, 7, .inl (fun _ => 0))), (q12, .inl (cI, 6, .inl (fun _ => 0))), (q13, .inl (cI, 1800, .inl (fun _ => 0))), (q14, .inl (cI, 1800, .inl (fun _ => 0))), (q15, .inl (cI, 300, .inl (fun _ => 0))), (q16, .inl (cI, 64, .inl (fun _ => 0)))]) H := hP
  have hD : va_D A ([(q, .inr (12, [.ref q1, .ref q2, .ref q3, .ref q4, .int 0, .int (-1), .int (-1), .int 0, .int 0, .int 0, .int 0, .long 0, .int 0, .int 0, .int 0, .int 0, .ref q5, .int 0, .int 0, .int 0, .int 0, .int 0, .ref q6, .ref q7, .ref q8, .int 0, .int 0, .int 0, .ref q9, .ref q10, .ref q11, .ref q12, .ref q13, .ref q14, .ref q15, .ref q16])), (q1, .inl (cI, 862, .inl (upd (upd (fun _ => 0) (7 : Int32).toNatClampNeg (-1)) (5 : Int32).toNatClampNeg 13))), (q2, .inl (cI, 862, .inl (fun _ => 0))), (q3, .inl (cI, 2720, .inl (fun _ => 0))), (q4, .inl (cI, 300, .inl (fun _ => 0))), (q5, .inl (cI, 160, .inl (fun _ => 0))), (q6, .inl (cI, 8, .inl (fun _ => 0))), (q9, .inl (cI, 7, .inl (fun _ => 0))), (q10, .inl (cI, 7, .inl (fun _ => 0))), (q11, .inl (cI, 7, .inl (fun _ => 0))), (q12, .inl (cI, 6, .inl (fun _ => 0))), (q13, .inl (cI, 1800, .inl (fun _ => 0))), (q14, .inl (cI, 1800, .inl (fun _ => 0))), (q15, .inl (cI, 300, .inl (fun _ => 0))), (q16, .inl (cI, 64, .inl (fun _ => 0)))]) := hD
  refine lv_aload_n hx hb dX12_init_168 rfl (lv_at hl 0 rfl) ?_
  refine z_get Z i_X12 hP 0 rfl rfl 0 (by decide) bw_1019 rfl dX12_init_169 ?_
  refine lv_aload_n hx hb dX12_init_172 rfl (lv_at hl 0 rfl) ?_
  refine z_get Z i_X12 hP 0 rfl rfl 1 (by decide) bw_1020 rfl dX12_init_173 ?_
  have hPc := hP.sub2 (wc := [(q1, .inl (cI, 862, .inl (upd (upd (fun _ => 0) (7 : Int32).toNatClampNeg (-1)) (5 : Int32).toNatClampNeg 13))), (q2, .inl (cI, 862, .inl (fun _ => 0)))]) [1, 2] rfl
  have hDc := hD.sub (ws' := [(q1, .inl (cI, 862, .inl (upd (upd (fun _ => 0) (7 : Int32).toNatClampNeg (-1)) (5 : Int32).toNatClampNeg 13))), (q2, .inl (cI, 862, .inl (fun _ => 0)))]) [1, 2] (by decide) rfl
  refine raw_Sv (nA := 2) (As := [.ref q1, .ref q2]) (rest := []) Z hl.1 (c_X12_copy l D cI cM cT q1 q2 (upd (upd (fun _ => 0) (7 : Int32).toNatClampNeg (-1)) (5 : Int32).toNatClampNeg 13) (fun _ => 0)) (bw_S bw_1016 bw_1017 bw_92 bw_1018) ⟨by decide +kernel, by decide +kernel, by decide +kernel⟩ rfl ⟨Nat.le_of_ble_eq_true rfl, Nat.le_of_ble_eq_true rfl⟩ hPc hDc hS rfl (Nat.le_of_ble_eq_true rfl) dX12_init_176 ⟨Nat.le_of_ble_eq_true rfl, Nat.le_of_ble_eq_true rfl⟩ (fun u17 H1 locs1 h19 hku17 hP1 hD1 hS1 => ?_)
  obtain ⟨h_20, rfl, huh19_0⟩ := h19
  obtain ⟨hP, hD⟩ := z_join (wr := [(q, .inr (12, [.ref q1, .ref q2, .ref q3, .ref q4, .int 0, .int (-1), .int (-1), .int 0, .int 0, .int 0, .int 0, .long 0, .int 0, .int 0, .int 0, .int 0, .ref q5, .int 0, .int 0, .int 0, .int 0, .int 0, .ref q6, .ref q7, .ref q8, .int 0, .int 0, .int 0, .ref q9, .ref q10, .ref q11, .ref q12, .ref q13, .ref q14, .ref q15, .ref q16])), (q3, .inl (cI, 2720, .inl (fun _ => 0))), (q4, .inl (cI, 300, .inl (fun _ => 0))), (q5, .inl (cI, 160, .inl (fun _ => 0))), (q6, .inl (cI, 8, .inl (fun _ => 0))), (q9, .inl (cI, 7, .inl (fun _ => 0))), (q10, .inl (cI, 7, .inl (fun _ => 0))), (q11, .inl (cI, 7, .inl (fun _ => 0))), (q12, .inl (cI, 6, .inl (fun _ => 0))), (q13, .inl (cI, 1800, .inl (fun _ => 0))), (q14, .inl (cI, 1800, .inl (fun _ => 0))), (q15, .inl (cI, 300, .inl (fun _ => 0))), (q16, .inl (cI, 64, .inl (fun _ => 0)))]) Z hS hP hD [1, 2] [0, 3, 4, 5, 6, 7, 8, 9, 10, 11, 12, 13, 14] rfl (by decide) rfl (by decide) (by decide) hku17 hP1 hD1
  have hS := hS1
  clear hS1
  generalize H1 = H at hP hS ⊢
  generalize locs1 = locs at hS ⊢
  have hP : va_P D vwCl ([(q, .inr (12, [.ref q1, .ref q2, .ref q3, .ref q4, .int 0, .int (-1), .int (-1), .int 0, .int 0, .int 0, .int 0, .long 0, .int 0, .int 0, .int 0, .int 0, .ref q5, .int 0, .int 0, .int 0, .int 0, .int 0, .ref q6, .ref q7, .ref q8, .int 0, .int 0, .int 0, .ref q9, .ref q10, .ref q11, .ref q12, .ref q13, .ref q14, .ref q15, .ref q16])), (q3, .inl (cI, 2720, .inl (fun _ => 0))), (q4, .inl (cI, 300, .inl (fun _ => 0))), (q5, .inl (cI, 160, .inl (fun _ => 0))), (q6, .inl (cI, 8, .inl (fun _ => 0))), (q9, .inl (cI, 7, .inl (fun _ => 0))), (q10, .inl (cI, 7, .inl (fun _ => 0))), (q11, .inl (cI, 7, .inl (fun _ => 0))), (q12, .inl (cI, 6, .inl (fun _ => 0))), (q13, .inl (cI, 1800, .inl (fun _ => 0))), (q14, .inl (cI, 1800, .inl (fun _ => 0))), (q15, .inl (cI, 300, .inl (fun _ => 0))), (q16, .inl (cI, 64, .inl (fun _ => 0))), (q1, .inl (cI, 862, .inl (upd (upd (fun _ => 0) (7 : Int32).toNatClampNeg (-1)) (5 : Int32).toNatClampNeg 13))), (q2, .inl (cI, 862, .inl h_20))]) H := hP
  have hD : va_D A ([(q, .inr (12, [.ref q1, .ref q2, .ref q3, .ref q4, .int 0, .int (-1), .int (-1), .int 0, .int 0, .int 0, .int 0, .long 0, .int 0, .int 0, .int 0, .int 0, .ref q5, .int 0, .int 0, .int 0, .int 0, .int 0, .ref q6, .ref q7, .ref q8, .int 0, .int 0, .int 0, .ref q9, .ref q10, .ref q11, .ref q12, .ref q13, .ref q14, .ref q15, .ref q16])), (q3, .inl (cI, 2720, .inl (fun _ => 0))), (q4, .inl (cI, 300, .inl (fun _ => 0))), (q5, .inl (cI, 160, .inl (fun _ => 0))), (q6, .inl (cI, 8, .inl (fun _ => 0))), (q9, .inl (cI, 7, .inl (fun _ => 0))), (q10, .inl (cI, 7, .inl (fun _ => 0))), (q11, .inl (cI, 7, .inl (fun _ => 0))), (q12, .inl (cI, 6, .inl (fun _ => 0))), (q13, .inl (cI, 1800, .inl (fun _ => 0))), (q14, .inl (cI, 1800, .inl (fun _ => 0))), (q15, .inl (cI, 300, .inl (fun _ => 0))), (q16, .inl (cI, 64, .inl (fun _ => 0))), (q1, .inl (cI, 862, .inl (upd (upd (fun _ => 0) (7 : Int32).toNatClampNeg (-1)) (5 : Int32).toNatClampNeg 13))), (q2, .inl (cI, 862, .inl h_20))]) := hD
  have hP := hP.sub2 (wc := [(q, .inr (12, [.ref q1, .ref q2, .ref q3, .ref q4, .int 0, .int (-1), .int (-1), .int 0, .int 0, .int 0, .int 0, .long 0, .int 0, .int 0, .int 0, .int 0, .ref q5, .int 0, .int 0, .int 0, .int 0, .int 0, .ref q6, .ref q7, .ref q8, .int 0, .int 0, .int 0, .ref q9, .ref q10, .ref q11, .ref q12, .ref q13, .ref q14, .ref q15, .ref q16])), (q1, .inl (cI, 862, .inl (upd (upd (fun _ => 0) (7 : Int32).toNatClampNeg (-1)) (5 : Int32).toNatClampNeg 13))), (q2, .inl (cI, 862, .inl h_20)), (q3, .inl (cI, 2720, .inl (fun _ => 0))), (q4, .inl (cI, 300, .inl (fun _ => 0))), (q15, .inl (cI, 300, .inl (fun _ => 0))), (q16, .inl (cI, 64, .inl (fun _ => 0)))]) [0, 13, 14, 1, 2, 11, 12] rfl
  have hD := hD.sub (ws' := [(q, .inr (12, [.ref q1, .ref q2, .ref q3, .ref q4, .int 0, .int (-1), .int (-1), .int 0, .int 0, .int 0, .int 0, .long 0, .int 0, .int 0, .int 0, .int 0, .ref q5, .int 0, .int 0, .int 0, .int 0, .int 0, .ref q6, .ref q7, .ref q8, .int 0, .int 0, .int 0, .ref q9, .ref q10, .ref q11, .ref q12, .ref q13, .ref q14, .ref q15, .ref q16])), (q1, .inl (cI, 862, .inl (upd (upd (fun _ => 0) (7 : Int32).toNatClampNeg (-1)) (5 : Int32).toNatClampNeg 13))), (q2, .inl (cI, 862, .inl h_20)), (q3, .inl (cI, 2720, .inl (fun _ => 0))), (q4, .inl (cI, 300, .inl (fun _ => 0))), (q15, .inl (cI, 300, .inl (fun _ => 0))), (q16, .inl (cI, 64, .inl (fun _ => 0)))]) [0, 13, 14, 1, 2, 11, 12] (by decide) rfl
  exact z_vret Z hP hD hS (⟨q1, q2, q3, q4, q5, q6, q7, q8, q9, q10, q11, q12, q13, q14, q15, q16, h_20, rfl, huh19_0⟩) dX12_init_179 (Nat.le_of_ble_eq_true rfl) (Nat.le_of_ble_eq_true rfl)
