theorem dX1_init_0 : decode cX1_init 0 = .ok (.aload_n 0, 1) := by decide +kernel
theorem dX1_init_1 : decode cX1_init 1 = .ok (.invokespecial 3, 3) := by decide +kernel
theorem dX1_init_4 : decode cX1_init 4 = .ok (.aload_n 0, 1) := by decide +kernel
theorem dX1_init_5 : decode cX1_init 5 = .ok (.bipush 10, 2) := by decide +kernel
theorem dX1_init_7 : decode cX1_init 7 = .ok (.newarray .int, 2) := by decide +kernel
theorem dX1_init_9 : decode cX1_init 9 = .ok (.putfield 9, 3) := by decide +kernel
theorem dX1_init_12 : decode cX1_init 12 = .ok (.aload_n 0, 1) := by decide +kernel
theorem dX1_init_13 : decode cX1_init 13 = .ok (.iconst 0, 1) := by decide +kernel
theorem dX1_init_14 : decode cX1_init 14 = .ok (.putfield 15, 3) := by decide +kernel
theorem dX1_init_17 : decode cX1_init 17 = .ok (.aload_n 0, 1) := by decide +kernel
theorem dX1_init_18 : decode cX1_init 18 = .ok (.iconst 0, 1) := by decide +kernel
theorem dX1_init_19 : decode cX1_init 19 = .ok (.putfield 19, 3) := by decide +kernel
theorem dX1_init_22 : decode cX1_init 22 = .ok (.aload_n 0, 1) := by decide +kernel
theorem dX1_init_23 : decode cX1_init 23 = .ok (.iconst 0, 1) := by decide +kernel
theorem dX1_init_24 : decode cX1_init 24 = .ok (.putfield 22, 3) := by decide +kernel
theorem dX1_init_27 : decode cX1_init 27 = .ok (.aload_n 0, 1) := by decide +kernel
theorem dX1_init_28 : decode cX1_init 28 = .ok (.iconst 0, 1) := by decide +kernel
theorem dX1_init_29 : decode cX1_init 29 = .ok (.putfield 25, 3) := by decide +kernel
theorem dX1_init_32 : decode cX1_init 32 = .ok (.aload_n 0, 1) := by decide +kernel
theorem dX1_init_33 : decode cX1_init 33 = .ok (.iconst 0, 1) := by decide +kernel
theorem dX1_init_34 : decode cX1_init 34 = .ok (.putfield 28, 3) := by decide +kernel
theorem dX1_init_37 : decode cX1_init 37 = .ok (.aload_n 0, 1) := by decide +kernel
theorem dX1_init_38 : decode cX1_init 38 = .ok (.bipush 13, 2) := by decide +kernel
theorem dX1_init_40 : decode cX1_init 40 = .ok (.putfield 31, 3) := by decide +kernel
theorem dX1_init_43 : decode cX1_init 43 = .ok (.return_, 1) := by decide +kernel
theorem dX3_init_0 : decode cX3_init 0 = .ok (.aload_n 0, 1) := by decide +kernel
theorem dX3_init_1 : decode cX3_init 1 = .ok (.invokespecial 3, 3) := by decide +kernel
theorem dX3_init_4 : decode cX3_init 4 = .ok (.aload_n 0, 1) := by decide +kernel
theorem dX3_init_5 : decode cX3_init 5 = .ok (.sipush 300, 3) := by decide +kernel
theorem dX3_init_8 : decode cX3_init 8 = .ok (.newarray .int, 2) := by decide +kernel
theorem dX3_init_10 : decode cX3_init 10 = .ok (.putfield 9, 3) := by decide +kernel
theorem dX3_init_13 : decode cX3_init 13 = .ok (.aload_n 0, 1) := by decide +kernel
theorem dX3_init_14 : decode cX3_init 14 = .ok (.iconst 4, 1) := by decide +kernel
theorem dX3_init_15 : decode cX3_init 15 = .ok (.newarray .int, 2) := by decide +kernel
theorem dX3_init_17 : decode cX3_init 17 = .ok (.putfield 15, 3) := by decide +kernel
theorem dX3_init_20 : decode cX3_init 20 = .ok (.aload_n 0, 1) := by decide +kernel
theorem dX3_init_21 : decode cX3_init 21 = .ok (.iconst 4, 1) := by decide +kernel
theorem dX3_init_22 : decode cX3_init 22 = .ok (.newarray .int, 2) := by decide +kernel
theorem dX3_init_24 : decode cX3_init 24 = .ok (.putfield 18, 3) := by decide +kernel
theorem dX3_init_27 : decode cX3_init 27 = .ok (.aload_n 0, 1) := by decide +kernel
theorem dX3_init_28 : decode cX3_init 28 = .ok (.iconst 0, 1) := by decide +kernel
theorem dX3_init_29 : decode cX3_init 29 = .ok (.putfield 21, 3) := by decide +kernel
theorem dX3_init_32 : decode cX3_init 32 = .ok (.return_, 1) := by decide +kernel
theorem dX4_init_0 : decode cX4_init 0 = .ok (.aload_n 0, 1) := by decide +kernel
theorem dX4_init_1 : decode cX4_init 1 = .ok (.invokespecial 3, 3) := by decide +kernel
theorem dX4_init_4 : decode cX4_init 4 = .ok (.aload_n 0, 1) := by decide +kernel
theorem dX4_init_5 : decode cX4_init 5 = .ok (.bipush 6, 2) := by decide +kernel
theorem dX4_init_7 : decode cX4_init 7 = .ok (.newarray .int, 2) := by decide +kernel
theorem dX4_init_9 : decode cX4_init 9 = .ok (.putfield 9, 3) := by decide +kernel
theorem dX4_init_12 : decode cX4_init 12 = .ok (.aload_n 0, 1) := by decide +kernel
theorem dX4_init_13 : decode cX4_init 13 = .ok (.bipush 6, 2) := by decide +kernel
theorem dX4_init_15 : decode cX4_init 15 = .ok (.newarray .int, 2) := by decide +kernel
theorem dX4_init_17 : decode cX4_init 17 = .ok (.putfield 15, 3) := by decide +kernel
theorem dX4_init_20 : decode cX4_init 20 = .ok (.aload_n 0, 1) := by decide +kernel
theorem dX4_init_21 : decode cX4_init 21 = .ok (.iconst 0, 1) := by decide +kernel
theorem dX4_init_22 : decode cX4_init 22 = .ok (.putfield 18, 3) := by decide +kernel
theorem dX4_init_25 : decode cX4_init 25 = .ok (.return_, 1) := by decide +kernel
theorem dX9_init_0 : decode cX9_init 0 = .ok (.aload_n 0, 1) := by decide +kernel
theorem dX9_init_1 : decode cX9_init 1 = .ok (.invokespecial 3, 3) := by decide +kernel
theorem dX9_init_4 : decode cX9_init 4 = .ok (.aload_n 0, 1) := by decide +kernel
theorem dX9_init_5 : decode cX9_init 5 = .ok (.sipush 300, 3) := by decide +kernel
theorem dX9_init_8 : decode cX9_init 8 = .ok (.newarray .int, 2) := by decide +kernel
theorem dX9_init_10 : decode cX9_init 10 = .ok (.putfield 9, 3) := by decide +kernel
theorem dX9_init_13 : decode cX9_init 13 = .ok (.aload_n 0, 1) := by decide +kernel
theorem dX9_init_14 : decode cX9_init 14 = .ok (.iconst 4, 1) := by decide +kernel
theorem dX9_init_15 : decode cX9_init 15 = .ok (.newarray .int, 2) := by decide +kernel
theorem dX9_init_17 : decode cX9_init 17 = .ok (.putfield 15, 3) := by decide +kernel
theorem dX9_init_20 : decode cX9_init 20 = .ok (.aload_n 0, 1) := by decide +kernel
theorem dX9_init_21 : decode cX9_init 21 = .ok (.iconst 4, 1) := by decide +kernel
theorem dX9_init_22 : decode cX9_init 22 = .ok (.newarray .int, 2) := by decide +kernel
theorem dX9_init_24 : decode cX9_init 24 = .ok (.putfield 18, 3) := by decide +kernel
theorem dX9_init_27 : decode cX9_init 27 = .ok (.aload_n 0, 1) := by decide +kernel
theorem dX9_init_28 : decode cX9_init 28 = .ok (.bipush 24, 2) := by decide +kernel
theorem dX9_init_30 : decode cX9_init 30 = .ok (.newarray .int, 2) := by decide +kernel
theorem dX9_init_32 : decode cX9_init 32 = .ok (.putfield 21, 3) := by decide +kernel
theorem dX9_init_35 : decode cX9_init 35 = .ok (.aload_n 0, 1) := by decide +kernel
theorem dX9_init_36 : decode cX9_init 36 = .ok (.bipush 24, 2) := by decide +kernel
theorem dX9_init_38 : decode cX9_init 38 = .ok (.newarray .int, 2) := by decide +kernel
theorem dX9_init_40 : decode cX9_init 40 = .ok (.putfield 24, 3) := by decide +kernel
theorem dX9_init_43 : decode cX9_init 43 = .ok (.aload_n 0, 1) := by decide +kernel
theorem dX9_init_44 : decode cX9_init 44 = .ok (.iconst 0, 1) := by decide +kernel
theorem dX9_init_45 : decode cX9_init 45 = .ok (.putfield 27, 3) := by decide +kernel
theorem dX9_init_48 : decode cX9_init 48 = .ok (.aload_n 0, 1) := by decide +kernel
theorem dX9_init_49 : decode cX9_init 49 = .ok (.iconst 0, 1) := by decide +kernel
theorem dX9_init_50 : decode cX9_init 50 = .ok (.putfield 31, 3) := by decide +kernel
theorem dX9_init_53 : decode cX9_init 53 = .ok (.return_, 1) := by decide +kernel
theorem dX7_init_0 : decode cX7_init 0 = .ok (.aload_n 0, 1) := by decide +kernel
theorem dX7_init_1 : decode cX7_init 1 = .ok (.invokespecial 3, 3) := by decide +kernel
theorem dX7_init_4 : decode cX7_init 4 = .ok (.aload_n 0, 1) := by decide +kernel
theorem dX7_init_5 : decode cX7_init 5 = .ok (.sipush 300, 3) := by decide +kernel
theorem dX7_init_8 : decode cX7_init 8 = .ok (.newarray .int, 2) := by decide +kernel
theorem dX7_init_10 : decode cX7_init 10 = .ok (.putfield 9, 3) := by decide +kernel
theorem dX7_init_13 : decode cX7_init 13 = .ok (.aload_n 0, 1) := by decide +kernel
theorem dX7_init_14 : decode cX7_init 14 = .ok (.sipush 301, 3) := by decide +kernel
theorem dX7_init_17 : decode cX7_init 17 = .ok (.newarray .int, 2) := by decide +kernel
theorem dX7_init_19 : decode cX7_init 19 = .ok (.putfield 15, 3) := by decide +kernel
theorem dX7_init_22 : decode cX7_init 22 = .ok (.aload_n 0, 1) := by decide +kernel
theorem dX7_init_23 : decode cX7_init 23 = .ok (.sipush 301, 3) := by decide +kernel
theorem dX7_init_26 : decode cX7_init 26 = .ok (.newarray .int, 2) := by decide +kernel
theorem dX7_init_28 : decode cX7_init 28 = .ok (.putfield 18, 3) := by decide +kernel
theorem dX7_init_31 : decode cX7_init 31 = .ok (.aload_n 0, 1) := by decide +kernel
theorem dX7_init_32 : decode cX7_init 32 = .ok (.sipush 301, 3) := by decide +kernel
theorem dX7_init_35 : decode cX7_init 35 = .ok (.newarray .int, 2) := by decide +kernel
theorem dX7_init_37 : decode cX7_init 37 = .ok (.putfield 21, 3) := by decide +kernel
theorem dX7_init_40 : decode cX7_init 40 = .ok (.aload_n 0, 1) := by decide +kernel
theorem dX7_init_41 : decode cX7_init 41 = .ok (.iconst 0, 1) := by decide +kernel
theorem dX7_init_42 : decode cX7_init 42 = .ok (.putfield 24, 3) := by decide +kernel
theorem dX7_init_45 : decode cX7_init 45 = .ok (.aload_n 0, 1) := by decide +kernel
theorem dX7_init_46 : decode cX7_init 46 = .ok (.iconst 0, 1) := by decide +kernel
theorem dX7_init_47 : decode cX7_init 47 = .ok (.putfield 28, 3) := by decide +kernel
theorem dX7_init_50 : decode cX7_init 50 = .ok (.return_, 1) := by decide +kernel
theorem dX8_init_0 : decode cX8_init 0 = .ok (.aload_n 0, 1) := by decide +kernel
theorem dX8_init_1 : decode cX8_init 1 = .ok (.invokespecial 3, 3) := by decide +kernel
theorem dX8_init_4 : decode cX8_init 4 = .ok (.aload_n 0, 1) := by decide +kernel
theorem dX8_init_5 : decode cX8_init 5 = .ok (.bipush 6, 2) := by decide +kernel
theorem dX8_init_7 : decode cX8_init 7 = .ok (.newarray .int, 2) := by decide +kernel
theorem dX8_init_9 : decode cX8_init 9 = .ok (.putfield 9, 3) := by decide +kernel
theorem dX8_init_12 : decode cX8_init 12 = .ok (.aload_n 0, 1) := by decide +kernel
theorem dX8_init_13 : decode cX8_init 13 = .ok (.bipush 6, 2) := by decide +kernel
theorem dX8_init_15 : decode cX8_init 15 = .ok (.newarray .int, 2) := by decide +kernel
theorem dX8_init_17 : decode cX8_init 17 = .ok (.putfield 15, 3) := by decide +kernel
theorem dX8_init_20 : decode cX8_init 20 = .ok (.aload_n 0, 1) := by decide +kernel
theorem dX8_init_21 : decode cX8_init 21 = .ok (.iconst 0, 1) := by decide +kernel
theorem dX8_init_22 : decode cX8_init 22 = .ok (.putfield 18, 3) := by decide +kernel
theorem dX8_init_25 : decode cX8_init 25 = .ok (.aload_n 0, 1) := by decide +kernel
theorem dX8_init_26 : decode cX8_init 26 = .ok (.iconst (-1), 1) := by decide +kernel
theorem dX8_init_27 : decode cX8_init 27 = .ok (.putfield 22, 3) := by decide +kernel
theorem dX8_init_30 : decode cX8_init 30 = .ok (.return_, 1) := by decide +kernel
theorem dX2_init_0 : decode cX2_init 0 = .ok (.aload_n 0, 1) := by decide +kernel
theorem dX2_init_1 : decode cX2_init 1 = .ok (.invokespecial 3, 3) := by decide +kernel
theorem dX2_init_4 : decode cX2_init 4 = .ok (.aload_n 0, 1) := by decide +kernel
theorem dX2_init_5 : decode cX2_init 5 = .ok (.new 9, 3) := by decide +kernel
theorem dX2_init_8 : decode cX2_init 8 = .ok (.dup, 1) := by decide +kernel
theorem dX2_init_9 : decode cX2_init 9 = .ok (.invokespecial 11, 3) := by decide +kernel
theorem dX2_init_12 : decode cX2_init 12 = .ok (.putfield 12, 3) := by decide +kernel
theorem dX2_init_15 : decode cX2_init 15 = .ok (.aload_n 0, 1) := by decide +kernel
theorem dX2_init_16 : decode cX2_init 16 = .ok (.iconst (-1), 1) := by decide +kernel
theorem dX2_init_17 : decode cX2_init 17 = .ok (.putfield 18, 3) := by decide +kernel
theorem dX2_init_20 : decode cX2_init 20 = .ok (.aload_n 0, 1) := by decide +kernel
theorem dX2_init_21 : decode cX2_init 21 = .ok (.iconst (-1), 1) := by decide +kernel
theorem dX2_init_22 : decode cX2_init 22 = .ok (.putfield 22, 3) := by decide +kernel
theorem dX2_init_25 : decode cX2_init 25 = .ok (.aload_n 0, 1) := by decide +kernel
theorem dX2_init_26 : decode cX2_init 26 = .ok (.iconst 0, 1) := by decide +kernel
theorem dX2_init_27 : decode cX2_init 27 = .ok (.putfield 25, 3) := by decide +kernel
theorem dX2_init_30 : decode cX2_init 30 = .ok (.aload_n 0, 1) := by decide +kernel
theorem dX2_init_31 : decode cX2_init 31 = .ok (.bipush 37, 2) := by decide +kernel
theorem dX2_init_33 : decode cX2_init 33 = .ok (.putfield 28, 3) := by decide +kernel
theorem dX2_init_36 : decode cX2_init 36 = .ok (.aload_n 0, 1) := by decide +kernel
theorem dX2_init_37 : decode cX2_init 37 = .ok (.iconst 0, 1) := by decide +kernel
theorem dX2_init_38 : decode cX2_init 38 = .ok (.putfield 31, 3) := by decide +kernel
theorem dX2_init_41 : decode cX2_init 41 = .ok (.aload_n 0, 1) := by decide +kernel
theorem dX2_init_42 : decode cX2_init 42 = .ok (.new 34, 3) := by decide +kernel
theorem dX2_init_45 : decode cX2_init 45 = .ok (.dup, 1) := by decide +kernel
theorem dX2_init_46 : decode cX2_init 46 = .ok (.invokespecial 36, 3) := by decide +kernel
theorem dX2_init_49 : decode cX2_init 49 = .ok (.putfield 37, 3) := by decide +kernel
theorem dX2_init_52 : decode cX2_init 52 = .ok (.return_, 1) := by decide +kernel
theorem dX5_init_0 : decode cX5_init 0 = .ok (.aload_n 0, 1) := by decide +kernel
theorem dX5_init_1 : decode cX5_init 1 = .ok (.invokespecial 3, 3) := by decide +kernel
theorem dX5_init_4 : decode cX5_init 4 = .ok (.aload_n 0, 1) := by decide +kernel
theorem dX5_init_5 : decode cX5_init 5 = .ok (.bipush 30, 2) := by decide +kernel
theorem dX5_init_7 : decode cX5_init 7 = .ok (.anewarray 9, 3) := by decide +kernel
theorem dX5_init_10 : decode cX5_init 10 = .ok (.putfield 11, 3) := by decide +kernel
theorem dX5_init_13 : decode cX5_init 13 = .ok (.aload_n 0, 1) := by decide +kernel
theorem dX5_init_14 : decode cX5_init 14 = .ok (.iconst 0, 1) := by decide +kernel
theorem dX5_init_15 : decode cX5_init 15 = .ok (.putfield 17, 3) := by decide +kernel
theorem dX5_init_18 : decode cX5_init 18 = .ok (.aload_n 0, 1) := by decide +kernel
theorem dX5_init_19 : decode cX5_init 19 = .ok (.iconst 0, 1) := by decide +kernel
theorem dX5_init_20 : decode cX5_init 20 = .ok (.putfield 21, 3) := by decide +kernel
theorem dX5_init_23 : decode cX5_init 23 = .ok (.iconst 0, 1) := by decide +kernel
theorem dX5_init_24 : decode cX5_init 24 = .ok (.istore_n 1, 1) := by decide +kernel
theorem dX5_init_25 : decode cX5_init 25 = .ok (.iload_n 1, 1) := by decide +kernel
theorem dX5_init_26 : decode cX5_init 26 = .ok (.bipush 30, 2) := by decide +kernel
theorem dX5_init_28 : decode cX5_init 28 = .ok (.if_icmp .ge 22, 3) := by decide +kernel
theorem dX5_init_31 : decode cX5_init 31 = .ok (.aload_n 0, 1) := by decide +kernel
theorem dX5_init_32 : decode cX5_init 32 = .ok (.getfield 11, 3) := by decide +kernel
theorem dX5_init_35 : decode cX5_init 35 = .ok (.iload_n 1, 1) := by decide +kernel
theorem dX5_init_36 : decode cX5_init 36 = .ok (.new 9, 3) := by decide +kernel
theorem dX5_init_39 : decode cX5_init 39 = .ok (.dup, 1) := by decide +kernel
theorem dX5_init_40 : decode cX5_init 40 = .ok (.invokespecial 24, 3) := by decide +kernel
theorem dX5_init_43 : decode cX5_init 43 = .ok (.aastore, 1) := by decide +kernel
theorem dX5_init_44 : decode cX5_init 44 = .ok (.iinc 1 1, 3) := by decide +kernel
theorem dX5_init_47 : decode cX5_init 47 = .ok (.goto (-22), 3) := by decide +kernel
theorem dX5_init_50 : decode cX5_init 50 = .ok (.return_, 1) := by decide +kernel
theorem dX10_init_0 : decode cX10_init 0 = .ok (.aload_n 0, 1) := by decide +kernel
theorem dX10_init_1 : decode cX10_init 1 = .ok (.invokespecial 3, 3) := by decide +kernel
theorem dX10_init_4 : decode cX10_init 4 = .ok (.aload_n 0, 1) := by decide +kernel
theorem dX10_init_5 : decode cX10_init 5 = .ok (.new 9, 3) := by decide +kernel
theorem dX10_init_8 : decode cX10_init 8 = .ok (.dup, 1) := by decide +kernel
theorem dX10_init_9 : decode cX10_init 9 = .ok (.invokespecial 11, 3) := by decide +kernel
theorem dX10_init_12 : decode cX10_init 12 = .ok (.putfield 12, 3) := by decide +kernel
theorem dX10_init_15 : decode cX10_init 15 = .ok (.aload_n 0, 1) := by decide +kernel
theorem dX10_init_16 : decode cX10_init 16 = .ok (.new 18, 3) := by decide +kernel
theorem dX10_init_19 : decode cX10_init 19 = .ok (.dup, 1) := by decide +kernel
theorem dX10_init_20 : decode cX10_init 20 = .ok (.invokespecial 20, 3) := by decide +kernel
theorem dX10_init_23 : decode cX10_init 23 = .ok (.putfield 21, 3) := by decide +kernel
theorem dX10_init_26 : decode cX10_init 26 = .ok (.aload_n 0, 1) := by decide +kernel
theorem dX10_init_27 : decode cX10_init 27 = .ok (.new 25, 3) := by decide +kernel
theorem dX10_init_30 : decode cX10_init 30 = .ok (.dup, 1) := by decide +kernel
theorem dX10_init_31 : decode cX10_init 31 = .ok (.invokespecial 27, 3) := by decide +kernel
theorem dX10_init_34 : decode cX10_init 34 = .ok (.putfield 28, 3) := by decide +kernel
theorem dX10_init_37 : decode cX10_init 37 = .ok (.aload_n 0, 1) := by decide +kernel
theorem dX10_init_38 : decode cX10_init 38 = .ok (.new 32, 3) := by decide +kernel
theorem dX10_init_41 : decode cX10_init 41 = .ok (.dup, 1) := by decide +kernel
theorem dX10_init_42 : decode cX10_init 42 = .ok (.invokespecial 34, 3) := by decide +kernel
theorem dX10_init_45 : decode cX10_init 45 = .ok (.putfield 35, 3) := by decide +kernel
theorem dX10_init_48 : decode cX10_init 48 = .ok (.aload_n 0, 1) := by decide +kernel
theorem dX10_init_49 : decode cX10_init 49 = .ok (.bipush 6, 2) := by decide +kernel
theorem dX10_init_51 : decode cX10_init 51 = .ok (.newarray .int, 2) := by decide +kernel
theorem dX10_init_53 : decode cX10_init 53 = .ok (.putfield 39, 3) := by decide +kernel
theorem dX10_init_56 : decode cX10_init 56 = .ok (.aload_n 0, 1) := by decide +kernel
theorem dX10_init_57 : decode cX10_init 57 = .ok (.bipush 10, 2) := by decide +kernel
theorem dX10_init_59 : decode cX10_init 59 = .ok (.newarray .int, 2) := by decide +kernel
theorem dX10_init_61 : decode cX10_init 61 = .ok (.putfield 43, 3) := by decide +kernel
theorem dX10_init_64 : decode cX10_init 64 = .ok (.aload_n 0, 1) := by decide +kernel
theorem dX10_init_65 : decode cX10_init 65 = .ok (.bipush 10, 2) := by decide +kernel
theorem dX10_init_67 : decode cX10_init 67 = .ok (.newarray .int, 2) := by decide +kernel
theorem dX10_init_69 : decode cX10_init 69 = .ok (.putfield 46, 3) := by decide +kernel
theorem dX10_init_72 : decode cX10_init 72 = .ok (.aload_n 0, 1) := by decide +kernel
theorem dX10_init_73 : decode cX10_init 73 = .ok (.bipush 10, 2) := by decide +kernel
theorem dX10_init_75 : decode cX10_init 75 = .ok (.newarray .int, 2) := by decide +kernel
theorem dX10_init_77 : decode cX10_init 77 = .ok (.putfield 49, 3) := by decide +kernel
theorem dX10_init_80 : decode cX10_init 80 = .ok (.aload_n 0, 1) := by decide +kernel
theorem dX10_init_81 : decode cX10_init 81 = .ok (.iconst 0, 1) := by decide +kernel
theorem dX10_init_82 : decode cX10_init 82 = .ok (.putfield 52, 3) := by decide +kernel
theorem dX10_init_85 : decode cX10_init 85 = .ok (.aload_n 0, 1) := by decide +kernel
theorem dX10_init_86 : decode cX10_init 86 = .ok (.iconst 0, 1) := by decide +kernel
theorem dX10_init_87 : decode cX10_init 87 = .ok (.putfield 56, 3) := by decide +kernel
theorem dX10_init_90 : decode cX10_init 90 = .ok (.aload_n 0, 1) := by decide +kernel
theorem dX10_init_91 : decode cX10_init 91 = .ok (.iconst (-1), 1) := by decide +kernel
theorem dX10_init_92 : decode cX10_init 92 = .ok (.putfield 59, 3) := by decide +kernel
theorem dX10_init_95 : decode cX10_init 95 = .ok (.aload_n 0, 1) := by decide +kernel
theorem dX10_init_96 : decode cX10_init 96 = .ok (.iconst 0, 1) := by decide +kernel
theorem dX10_init_97 : decode cX10_init 97 = .ok (.putfield 62, 3) := by decide +kernel
theorem dX10_init_100 : decode cX10_init 100 = .ok (.aload_n 0, 1) := by decide +kernel
theorem dX10_init_101 : decode cX10_init 101 = .ok (.iconst 0, 1) := by decide +kernel
theorem dX10_init_102 : decode cX10_init 102 = .ok (.putfield 65, 3) := by decide +kernel
theorem dX10_init_105 : decode cX10_init 105 = .ok (.return_, 1) := by decide +kernel
theorem bw_108 : Cond.instanceMethod ⟨"java/lang/Object", "<init>", "()V"⟩ ∈ BW := bw_at 108 (by decide +kernel) (by decide +kernel)
theorem bw_109 : Cond.code ⟨"java/lang/Object", "<init>", "()V"⟩ object_method_1_code 1 none ∈ BW := bw_at 109 (by decide +kernel) (by decide +kernel)
theorem bw_127 : Cond.methodLink "CountingHorses$World" 3 ⟨"java/lang/Object", "<init>", "()V"⟩ ∈ BW := bw_at 127 (by decide +kernel) (by decide +kernel)
theorem bw_128 : Cond.classLink "CountingHorses$World" 9 "CountingHorses$Road" ∈ BW := bw_at 128 (by decide +kernel) (by decide +kernel)
theorem bw_129 : Cond.instantiable "CountingHorses$Road" 4 ∈ BW := bw_at 129 (by decide +kernel) (by decide +kernel)
theorem bw_131 : Cond.instanceMethod ⟨"CountingHorses$Road", "<init>", "()V"⟩ ∈ BW := bw_at 131 (by decide +kernel) (by decide +kernel)
theorem bw_132 : Cond.code ⟨"CountingHorses$Road", "<init>", "()V"⟩ prog_5_method_1_code 1 none ∈ BW := bw_at 132 (by decide +kernel) (by decide +kernel)
theorem bw_133 : Cond.methodLink "CountingHorses$Road" 3 ⟨"java/lang/Object", "<init>", "()V"⟩ ∈ BW := bw_at 133 (by decide +kernel) (by decide +kernel)
theorem bw_152 : Cond.arrayClass .int ∈ BW := bw_at 152 (by decide +kernel) (by decide +kernel)
theorem bw_153 : Cond.classLink "CountingHorses$World" 18 "CountingHorses$Stable" ∈ BW := bw_at 153 (by decide +kernel) (by decide +kernel)
theorem bw_154 : Cond.instantiable "CountingHorses$Stable" 3 ∈ BW := bw_at 154 (by decide +kernel) (by decide +kernel)
theorem bw_156 : Cond.instanceMethod ⟨"CountingHorses$Stable", "<init>", "()V"⟩ ∈ BW := bw_at 156 (by decide +kernel) (by decide +kernel)
theorem bw_157 : Cond.code ⟨"CountingHorses$Stable", "<init>", "()V"⟩ prog_6_method_1_code 1 none ∈ BW := bw_at 157 (by decide +kernel) (by decide +kernel)
theorem bw_158 : Cond.methodLink "CountingHorses$Stable" 3 ⟨"java/lang/Object", "<init>", "()V"⟩ ∈ BW := bw_at 158 (by decide +kernel) (by decide +kernel)
theorem bw_175 : Cond.classLink "CountingHorses$World" 25 "CountingHorses$Mail" ∈ BW := bw_at 175 (by decide +kernel) (by decide +kernel)
theorem bw_176 : Cond.instantiable "CountingHorses$Mail" 7 ∈ BW := bw_at 176 (by decide +kernel) (by decide +kernel)
theorem bw_178 : Cond.instanceMethod ⟨"CountingHorses$Mail", "<init>", "()V"⟩ ∈ BW := bw_at 178 (by decide +kernel) (by decide +kernel)
theorem bw_179 : Cond.code ⟨"CountingHorses$Mail", "<init>", "()V"⟩ prog_3_method_1_code 1 none ∈ BW := bw_at 179 (by decide +kernel) (by decide +kernel)
theorem bw_180 : Cond.methodLink "CountingHorses$Mail" 3 ⟨"java/lang/Object", "<init>", "()V"⟩ ∈ BW := bw_at 180 (by decide +kernel) (by decide +kernel)
theorem bw_211 : Cond.classLink "CountingHorses$World" 32 "CountingHorses$StepsBack" ∈ BW := bw_at 211 (by decide +kernel) (by decide +kernel)
theorem bw_212 : Cond.instantiable "CountingHorses$StepsBack" 3 ∈ BW := bw_at 212 (by decide +kernel) (by decide +kernel)
theorem bw_213 : Cond.methodLink "CountingHorses$World" 34 ⟨"CountingHorses$StepsBack", "<init>", "()V"⟩ ∈ BW := bw_at 213 (by decide +kernel) (by decide +kernel)
theorem bw_214 : Cond.instanceMethod ⟨"CountingHorses$StepsBack", "<init>", "()V"⟩ ∈ BW := bw_at 214 (by decide +kernel) (by decide +kernel)
theorem bw_215 : Cond.code ⟨"CountingHorses$StepsBack", "<init>", "()V"⟩ prog_7_method_1_code 2 none ∈ BW := bw_at 215 (by decide +kernel) (by decide +kernel)
theorem bw_216 : Cond.methodLink "CountingHorses$StepsBack" 3 ⟨"java/lang/Object", "<init>", "()V"⟩ ∈ BW := bw_at 216 (by decide +kernel) (by decide +kernel)
theorem bw_217 : Cond.classLink "CountingHorses$StepsBack" 9 "CountingHorses$Mail" ∈ BW := bw_at 217 (by decide +kernel) (by decide +kernel)
theorem bw_292 : Cond.instantiable "CountingHorses$Text" 7 ∈ BW := bw_at 292 (by decide +kernel) (by decide +kernel)
theorem bw_294 : Cond.instanceMethod ⟨"CountingHorses$Text", "<init>", "()V"⟩ ∈ BW := bw_at 294 (by decide +kernel) (by decide +kernel)
theorem bw_295 : Cond.code ⟨"CountingHorses$Text", "<init>", "()V"⟩ prog_11_method_1_code 1 none ∈ BW := bw_at 295 (by decide +kernel) (by decide +kernel)
theorem bw_296 : Cond.methodLink "CountingHorses$Text" 3 ⟨"java/lang/Object", "<init>", "()V"⟩ ∈ BW := bw_at 296 (by decide +kernel) (by decide +kernel)
theorem bw_388 : Cond.methodLink "CountingHorses$Reader" 3 ⟨"java/lang/Object", "<init>", "()V"⟩ ∈ BW := bw_at 388 (by decide +kernel) (by decide +kernel)
theorem bw_389 : Cond.classLink "CountingHorses$Reader" 9 "CountingHorses$Tape" ∈ BW := bw_at 389 (by decide +kernel) (by decide +kernel)
theorem bw_390 : Cond.instantiable "CountingHorses$Tape" 6 ∈ BW := bw_at 390 (by decide +kernel) (by decide +kernel)
theorem bw_392 : Cond.instanceMethod ⟨"CountingHorses$Tape", "<init>", "()V"⟩ ∈ BW := bw_at 392 (by decide +kernel) (by decide +kernel)
theorem bw_393 : Cond.code ⟨"CountingHorses$Tape", "<init>", "()V"⟩ prog_9_method_1_code 1 none ∈ BW := bw_at 393 (by decide +kernel) (by decide +kernel)
theorem bw_394 : Cond.methodLink "CountingHorses$Tape" 3 ⟨"java/lang/Object", "<init>", "()V"⟩ ∈ BW := bw_at 394 (by decide +kernel) (by decide +kernel)
theorem bw_419 : Cond.classLink "CountingHorses$Reader" 34 "CountingHorses$Text" ∈ BW := bw_at 419 (by decide +kernel) (by decide +kernel)
theorem bw_451 : Cond.methodLink "CountingHorses$Team" 3 ⟨"java/lang/Object", "<init>", "()V"⟩ ∈ BW := bw_at 451 (by decide +kernel) (by decide +kernel)
set_option maxHeartbeats 4000000 in
set_option maxRecDepth 100000 in
theorem c_X1_init (l : Launch) (D : va_G) (cI cM cT cJ cZ : ClassId) (mA : Nat) : Cv l D (ty3 cI cM cT cJ cZ) yX1_init cX1_init 1 1 1 10 [.ref mA] ([(mA, .inr (1, [.null, .int 0, .int 0, .int 0, .int 0, .int 0, .int 0]))]) (fun u => ∃ (iA : Nat), u = [(mA, .inr (1, [.ref iA, .int 0, .int 0, .int 0, .int 0, .int 0, .int 13])), (iA, .inl (cI, 10, .inl (fun _ => 0)))]) := by
  refine Cv.of (by decide +kernel) (Nat.le_of_ble_eq_true rfl) ?_
  intro p e s m below meth c A ls Z hin hP hD hl
  have hx := Z.1
  have hb := Z.2.1
  have hS : va_S A s.heap s.heap [] := va_S.rf
  have hl : lv_has ls 1 [(0, .ref mA)] := hl
  skip
  refine lv_aload_n hx hb dX1_init_0 rfl (lv_at hl 0 rfl) ?_
  refine z_obj Z hl.1 bw_180 bw_108 bw_109 dX1_init_1 (Nat.le_of_ble_eq_true rfl) (Nat.le_of_ble_eq_true rfl) ?_
  refine lv_aload_n hx hb dX1_init_4 rfl (lv_at hl 0 rfl) ?_
  refine lv_bipush (v := 10) hx hb dX1_init_5 (by decide) ?_
  refine z_newi (N := 10) Z bw_152 hP hD hS 0 rfl (by decide) (by decide) (by decide) (Nat.le_of_ble_eq_true rfl) (Nat.le_of_ble_eq_true rfl) dX1_init_7 (fun q1 H hP hD hS => ?_)
  have hP : va_P D vwCl ([(mA, .inr (1, [.null, .int 0, .int 0, .int 0, .int 0, .int 0, .int 0])), (q1, .inl (cI, 10, .inl (fun _ => 0)))]) H := hP
  have hD : va_D A ([(mA, .inr (1, [.null, .int 0, .int 0, .int 0, .int 0, .int 0, .int 0])), (q1, .inl (cI, 10, .inl (fun _ => 0)))]) := hD
  refine z_putF Z i_X1 tyX1 tyX1_ok nmX1 hP hD hS 0 rfl rfl 0 (by decide) bw_181 rfl hin rfl rfl rfl (Nat.le_of_ble_eq_true rfl) dX1_init_9 (fun H locs hP hD hS => ?_)
  have hP : va_P D vwCl ([(mA, .inr (1, [.ref q1, .int 0, .int 0, .int 0, .int 0, .int 0, .int 0])), (q1, .inl (cI, 10, .inl (fun _ => 0)))]) H := hP
  have hD : va_D A ([(mA, .inr (1, [.ref q1, .int 0, .int 0, .int 0, .int 0, .int 0, .int 0])), (q1, .inl (cI, 10, .inl (fun _ => 0)))]) := hD
  refine lv_aload_n hx hb dX1_init_12 rfl (lv_at hl 0 rfl) ?_
  refine lv_iconst (v := 0) hx hb dX1_init_13 (by decide) ?_
  refine z_put Z i_X1 tyX1 tyX1_ok nmX1 hP hD hS 0 rfl rfl 1 (by decide) bw_183 rfl rfl rfl (Nat.le_of_ble_eq_true rfl) dX1_init_14 (fun H locs hP hD hS => ?_)
  have hP : va_P D vwCl ([(mA, .inr (1, [.ref q1, .int 0, .int 0, .int 0, .int 0, .int 0, .int 0])), (q1, .inl (cI, 10, .inl (fun _ => 0)))]) H := hP
  have hD : va_D A ([(mA, .inr (1, [.ref q1, .int 0, .int 0, .int 0, .int 0, .int 0, .int 0])), (q1, .inl (cI, 10, .inl (fun _ => 0)))]) := hD
  refine lv_aload_n hx hb dX1_init_17 rfl (lv_at hl 0 rfl) ?_
  refine lv_iconst (v := 0) hx hb dX1_init_18 (by decide) ?_
  refine z_put Z i_X1 tyX1 tyX1_ok nmX1 hP hD hS 0 rfl rfl 2 (by decide) bw_185 rfl rfl rfl (Nat.le_of_ble_eq_true rfl) dX1_init_19 (fun H locs hP hD hS => ?_)
  have hP : va_P D vwCl ([(mA, .inr (1, [.ref q1, .int 0, .int 0, .int 0, .int 0, .int 0, .int 0])), (q1, .inl (cI, 10, .inl (fun _ => 0)))]) H := hP
  have hD : va_D A ([(mA, .inr (1, [.ref q1, .int 0, .int 0, .int 0, .int 0, .int 0, .int 0])), (q1, .inl (cI, 10, .inl (fun _ => 0)))]) := hD
  refine lv_aload_n hx hb dX1_init_22 rfl (lv_at hl 0 rfl) ?_
  refine lv_iconst (v := 0) hx hb dX1_init_23 (by decide) ?_
  refine z_put Z i_X1 tyX1 tyX1_ok nmX1 hP hD hS 0 rfl rfl 3 (by decide) bw_187 rfl rfl rfl (Nat.le_of_ble_eq_true rfl) dX1_init_24 (fun H locs hP hD hS => ?_)
  have hP : va_P D vwCl ([(mA, .inr (1, [.ref q1, .int 0, .int 0, .int 0, .int 0, .int 0, .int 0])), (q1, .inl (cI, 10, .inl (fun _ => 0)))]) H := hP
  have hD : va_D A ([(mA, .inr (1, [.ref q1, .int 0, .int 0, .int 0, .int 0, .int 0, .int 0])), (q1, .inl (cI, 10, .inl (fun _ => 0)))]) := hD
  refine lv_aload_n hx hb dX1_init_27 rfl (lv_at hl 0 rfl) ?_
  refine lv_iconst (v := 0) hx hb dX1_init_28 (by decide) ?_
  refine z_put Z i_X1 tyX1 tyX1_ok nmX1 hP hD hS 0 rfl rfl 4 (by decide) bw_189 rfl rfl rfl (Nat.le_of_ble_eq_true rfl) dX1_init_29 (fun H locs hP hD hS => ?_)
  have hP : va_P D vwCl ([(mA, .inr (1, [.ref q1, .int 0, .int 0, .int 0, .int 0, .int 0, .int 0])), (q1, .inl (cI, 10, .inl (fun _ => 0)))]) H := hP
  have hD : va_D A ([(mA, .inr (1, [.ref q1, .int 0, .int 0, .int 0, .int 0, .int 0, .int 0])), (q1, .inl (cI, 10, .inl (fun _ => 0)))]) := hD
  refine lv_aload_n hx hb dX1_init_32 rfl (lv_at hl 0 rfl) ?_
  refine lv_iconst (v := 0) hx hb dX1_init_33 (by decide) ?_
  refine z_put Z i_X1 tyX1 tyX1_ok nmX1 hP hD hS 0 rfl rfl 5 (by decide) bw_191 rfl rfl rfl (Nat.le_of_ble_eq_true rfl) dX1_init_34 (fun H locs hP hD hS => ?_)
  have hP : va_P D vwCl ([(mA, .inr (1, [.ref q1, .int 0, .int 0, .int 0, .int 0, .int 0, .int 0])), (q1, .inl (cI, 10, .inl (fun _ => 0)))]) H := hP
  have hD : va_D A ([(mA, .inr (1, [.ref q1, .int 0, .int 0, .int 0, .int 0, .int 0, .int 0])), (q1, .inl (cI, 10, .inl (fun _ => 0)))]) := hD
  refine lv_aload_n hx hb dX1_init_37 rfl (lv_at hl 0 rfl) ?_
  refine lv_bipush (v := 13) hx hb dX1_init_38 (by decide) ?_
  refine z_put Z i_X1 tyX1 tyX1_ok nmX1 hP hD hS 0 rfl rfl 6 (by decide) bw_194 rfl rfl rfl (Nat.le_of_ble_eq_true rfl) dX1_init_40 (fun H locs hP hD hS => ?_)
  have hP : va_P D vwCl ([(mA, .inr (1, [.ref q1, .int 0, .int 0, .int 0, .int 0, .int 0, .int 13])), (q1, .inl (cI, 10, .inl (fun _ => 0)))]) H := hP
  have hD : va_D A ([(mA, .inr (1, [.ref q1, .int 0, .int 0, .int 0, .int 0, .int 0, .int 13])), (q1, .inl (cI, 10, .inl (fun _ => 0)))]) := hD
  exact z_vret Z hP hD hS (⟨q1, rfl⟩) dX1_init_43 (Nat.le_of_ble_eq_true rfl) (Nat.le_of_ble_eq_true rfl)
set_option maxHeartbeats 4000000 in
set_option maxRecDepth 100000 in
theorem c_X3_init (l : Launch) (D : va_G) (cI cM cT cJ cZ : ClassId) (rO : Nat) : Cv l D (ty3 cI cM cT cJ cZ) yX3_init cX3_init 1 1 3 308 [.ref rO] ([(rO, .inr (3, [.null, .null, .null, .int 0]))]) (fun u => ∃ (mU : Nat) (bF : Nat) (bT : Nat), u = [(rO, .inr (3, [.ref mU, .ref bF, .ref bT, .int 0])), (mU, .inl (cI, 300, .inl (fun _ => 0))), (bF, .inl (cI, 4, .inl (fun _ => 0))), (bT, .inl (cI, 4, .inl (fun _ => 0)))]) := by
  refine Cv.of (by decide +kernel) (Nat.le_of_ble_eq_true rfl) ?_
  intro p e s m below meth c A ls Z hin hP hD hl
  have hx := Z.1
  have hb := Z.2.1
  have hS : va_S A s.heap s.heap [] := va_S.rf
  have hl : lv_has ls 1 [(0, .ref rO)] := hl
  skip
  refine lv_aload_n hx hb dX3_init_0 rfl (lv_at hl 0 rfl) ?_
  refine z_obj Z hl.1 bw_133 bw_108 bw_109 dX3_init_1 (Nat.le_of_ble_eq_true rfl) (Nat.le_of_ble_eq_true rfl) ?_
  refine lv_aload_n hx hb dX3_init_4 rfl (lv_at hl 0 rfl) ?_
  refine lv_sipush (v := 300) hx hb dX3_init_5 (by decide) ?_
  refine z_newi (N := 300) Z bw_152 hP hD hS 0 rfl (by decide) (by decide) (by decide) (Nat.le_of_ble_eq_true rfl) (Nat.le_of_ble_eq_true rfl) dX3_init_8 (fun q1 H hP hD hS => ?_)
  have hP : va_P D vwCl ([(rO, .inr (3, [.null, .null, .null, .int 0])), (q1, .inl (cI, 300, .inl (fun _ => 0)))]) H := hP
  have hD : va_D A ([(rO, .inr (3, [.null, .null, .null, .int 0])), (q1, .inl (cI, 300, .inl (fun _ => 0)))]) := hD
  refine z_putF Z i_X3 tyX3 tyX3_ok nmX3 hP hD hS 0 rfl rfl 0 (by decide) bw_134 rfl hin rfl rfl rfl (Nat.le_of_ble_eq_true rfl) dX3_init_10 (fun H locs hP hD hS => ?_)
  have hP : va_P D vwCl ([(rO, .inr (3, [.ref q1, .null, .null, .int 0])), (q1, .inl (cI, 300, .inl (fun _ => 0)))]) H := hP
  have hD : va_D A ([(rO, .inr (3, [.ref q1, .null, .null, .int 0])), (q1, .inl (cI, 300, .inl (fun _ => 0)))]) := hD
  refine lv_aload_n hx hb dX3_init_13 rfl (lv_at hl 0 rfl) ?_
  refine lv_iconst (v := 4) hx hb dX3_init_14 (by decide) ?_
  refine z_newi (N := 4) Z bw_152 hP hD hS 0 rfl (by decide) (by decide) (by decide) (Nat.le_of_ble_eq_true rfl) (Nat.le_of_ble_eq_true rfl) dX3_init_15 (fun q2 H hP hD hS => ?_)
  have hP : va_P D vwCl ([(rO, .inr (3, [.ref q1, .null, .null, .int 0])), (q1, .inl (cI, 300, .inl (fun _ => 0))), (q2, .inl (cI, 4, .inl (fun _ => 0)))]) H := hP
  have hD : va_D A ([(rO, .inr (3, [.ref q1, .null, .null, .int 0])), (q1, .inl (cI, 300, .inl (fun _ => 0))), (q2, .inl (cI, 4, .inl (fun _ => 0)))]) := hD
  refine z_putF Z i_X3 tyX3 tyX3_ok nmX3 hP hD hS 0 rfl rfl 1 (by decide) bw_137 rfl hin rfl rfl rfl (Nat.le_of_ble_eq_true rfl) dX3_init_17 (fun H locs hP hD hS => ?_)
  have hP : va_P D vwCl ([(rO, .inr (3, [.ref q1, .ref q2, .null, .int 0])), (q1, .inl (cI, 300, .inl (fun _ => 0))), (q2, .inl (cI, 4, .inl (fun _ => 0)))]) H := hP
  have hD : va_D A ([(rO, .inr (3, [.ref q1, .ref q2, .null, .int 0])), (q1, .inl (cI, 300, .inl (fun _ => 0))), (q2, .inl (cI, 4, .inl (fun _ => 0)))]) := hD
  refine lv_aload_n hx hb dX3_init_20 rfl (lv_at hl 0 rfl) ?_
  refine lv_iconst (v := 4) hx hb dX3_init_21 (by decide) ?_
  refine z_newi (N := 4) Z bw_152 hP hD hS 0 rfl (by decide) (by decide) (by decide) (Nat.le_of_ble_eq_true rfl) (Nat.le_of_ble_eq_true rfl) dX3_init_22 (fun q3 H hP hD hS => ?_)
  have hP : va_P D vwCl ([(rO, .inr (3, [.ref q1, .ref q2, .null, .int 0])), (q1, .inl (cI, 300, .inl (fun _ => 0))), (q2, .inl (cI, 4, .inl (fun _ => 0))), (q3, .inl (cI, 4, .inl (fun _ => 0)))]) H := hP
  have hD : va_D A ([(rO, .inr (3, [.ref q1, .ref q2, .null, .int 0])), (q1, .inl (cI, 300, .inl (fun _ => 0))), (q2, .inl (cI, 4, .inl (fun _ => 0))), (q3, .inl (cI, 4, .inl (fun _ => 0)))]) := hD
  refine z_putF Z i_X3 tyX3 tyX3_ok nmX3 hP hD hS 0 rfl rfl 2 (by decide) bw_139 rfl hin rfl rfl rfl (Nat.le_of_ble_eq_true rfl) dX3_init_24 (fun H locs hP hD hS => ?_)
  have hP : va_P D vwCl ([(rO, .inr (3, [.ref q1, .ref q2, .ref q3, .int 0])), (q1, .inl (cI, 300, .inl (fun _ => 0))), (q2, .inl (cI, 4, .inl (fun _ => 0))), (q3, .inl (cI, 4, .inl (fun _ => 0)))]) H := hP
  have hD : va_D A ([(rO, .inr (3, [.ref q1, .ref q2, .ref q3, .int 0])), (q1, .inl (cI, 300, .inl (fun _ => 0))), (q2, .inl (cI, 4, .inl (fun _ => 0))), (q3, .inl (cI, 4, .inl (fun _ => 0)))]) := hD
  refine lv_aload_n hx hb dX3_init_27 rfl (lv_at hl 0 rfl) ?_
  refine lv_iconst (v := 0) hx hb dX3_init_28 (by decide) ?_
  refine z_put Z i_X3 tyX3 tyX3_ok nmX3 hP hD hS 0 rfl rfl 3 (by decide) bw_141 rfl rfl rfl (Nat.le_of_ble_eq_true rfl) dX3_init_29 (fun H locs hP hD hS => ?_)
  have hP : va_P D vwCl ([(rO, .inr (3, [.ref q1, .ref q2, .ref q3, .int 0])), (q1, .inl (cI, 300, .inl (fun _ => 0))), (q2, .inl (cI, 4, .inl (fun _ => 0))), (q3, .inl (cI, 4, .inl (fun _ => 0)))]) H := hP
  have hD : va_D A ([(rO, .inr (3, [.ref q1, .ref q2, .ref q3, .int 0])), (q1, .inl (cI, 300, .inl (fun _ => 0))), (q2, .inl (cI, 4, .inl (fun _ => 0))), (q3, .inl (cI, 4, .inl (fun _ => 0)))]) := hD
  exact z_vret Z hP hD hS (⟨q1, q2, q3, rfl⟩) dX3_init_32 (Nat.le_of_ble_eq_true rfl) (Nat.le_of_ble_eq_true rfl)
set_option maxHeartbeats 4000000 in
set_option maxRecDepth 100000 in
theorem c_X4_init (l : Launch) (D : va_G) (cI cM cT cJ cZ : ClassId) (sT : Nat) : Cv l D (ty3 cI cM cT cJ cZ) yX4_init cX4_init 1 1 2 12 [.ref sT] ([(sT, .inr (4, [.null, .null, .int 0]))]) (fun u => ∃ (cO : Nat) (sH : Nat), u = [(sT, .inr (4, [.ref cO, .ref sH, .int 0])), (cO, .inl (cI, 6, .inl (fun _ => 0))), (sH, .inl (cI, 6, .inl (fun _ => 0)))]) := by
  refine Cv.of (by decide +kernel) (Nat.le_of_ble_eq_true rfl) ?_
  intro p e s m below meth c A ls Z hin hP hD hl
  have hx := Z.1
  have hb := Z.2.1
  have hS : va_S A s.heap s.heap [] := va_S.rf
  have hl : lv_has ls 1 [(0, .ref sT)] := hl
  skip
  refine lv_aload_n hx hb dX4_init_0 rfl (lv_at hl 0 rfl) ?_
  refine z_obj Z hl.1 bw_158 bw_108 bw_109 dX4_init_1 (Nat.le_of_ble_eq_true rfl) (Nat.le_of_ble_eq_true rfl) ?_
  refine lv_aload_n hx hb dX4_init_4 rfl (lv_at hl 0 rfl) ?_
  refine lv_bipush (v := 6) hx hb dX4_init_5 (by decide) ?_
  refine z_newi (N := 6) Z bw_152 hP hD hS 0 rfl (by decide) (by decide) (by decide) (Nat.le_of_ble_eq_true rfl) (Nat.le_of_ble_eq_true rfl) dX4_init_7 (fun q1 H hP hD hS => ?_)
  have hP : va_P D vwCl ([(sT, .inr (4, [.null, .null, .int 0])), (q1, .inl (cI, 6, .inl (fun _ => 0)))]) H := hP
  have hD : va_D A ([(sT, .inr (4, [.null, .null, .int 0])), (q1, .inl (cI, 6, .inl (fun _ => 0)))]) := hD
  refine z_putF Z i_X4 tyX4 tyX4_ok nmX4 hP hD hS 0 rfl rfl 0 (by decide) bw_159 rfl hin rfl rfl rfl (Nat.le_of_ble_eq_true rfl) dX4_init_9 (fun H locs hP hD hS => ?_)
  have hP : va_P D vwCl ([(sT, .inr (4, [.ref q1, .null, .int 0])), (q1, .inl (cI, 6, .inl (fun _ => 0)))]) H := hP
  have hD : va_D A ([(sT, .inr (4, [.ref q1, .null, .int 0])), (q1, .inl (cI, 6, .inl (fun _ => 0)))]) := hD
  refine lv_aload_n hx hb dX4_init_12 rfl (lv_at hl 0 rfl) ?_
  refine lv_bipush (v := 6) hx hb dX4_init_13 (by decide) ?_
  refine z_newi (N := 6) Z bw_152 hP hD hS 0 rfl (by decide) (by decide) (by decide) (Nat.le_of_ble_eq_true rfl) (Nat.le_of_ble_eq_true rfl) dX4_init_15 (fun q2 H hP hD hS => ?_)
  have hP : va_P D vwCl ([(sT, .inr (4, [.ref q1, .null, .int 0])), (q1, .inl (cI, 6, .inl (fun _ => 0))), (q2, .inl (cI, 6, .inl (fun _ => 0)))]) H := hP
  have hD : va_D A ([(sT, .inr (4, [.ref q1, .null, .int 0])), (q1, .inl (cI, 6, .inl (fun _ => 0))), (q2, .inl (cI, 6, .inl (fun _ => 0)))]) := hD
  refine z_putF Z i_X4 tyX4 tyX4_ok nmX4 hP hD hS 0 rfl rfl 1 (by decide) bw_162 rfl hin rfl rfl rfl (Nat.le_of_ble_eq_true rfl) dX4_init_17 (fun H locs hP hD hS => ?_)
  have hP : va_P D vwCl ([(sT, .inr (4, [.ref q1, .ref q2, .int 0])), (q1, .inl (cI, 6, .inl (fun _ => 0))), (q2, .inl (cI, 6, .inl (fun _ => 0)))]) H := hP
  have hD : va_D A ([(sT, .inr (4, [.ref q1, .ref q2, .int 0])), (q1, .inl (cI, 6, .inl (fun _ => 0))), (q2, .inl (cI, 6, .inl (fun _ => 0)))]) := hD
  refine lv_aload_n hx hb dX4_init_20 rfl (lv_at hl 0 rfl) ?_
  refine lv_iconst (v := 0) hx hb dX4_init_21 (by decide) ?_
  refine z_put Z i_X4 tyX4 tyX4_ok nmX4 hP hD hS 0 rfl rfl 2 (by decide) bw_165 rfl rfl rfl (Nat.le_of_ble_eq_true rfl) dX4_init_22 (fun H locs hP hD hS => ?_)
  have hP : va_P D vwCl ([(sT, .inr (4, [.ref q1, .ref q2, .int 0])), (q1, .inl (cI, 6, .inl (fun _ => 0))), (q2, .inl (cI, 6, .inl (fun _ => 0)))]) H := hP
  have hD : va_D A ([(sT, .inr (4, [.ref q1, .ref q2, .int 0])), (q1, .inl (cI, 6, .inl (fun _ => 0))), (q2, .inl (cI, 6, .inl (fun _ => 0)))]) := hD
  exact z_vret Z hP hD hS (⟨q1, q2, rfl⟩) dX4_init_25 (Nat.le_of_ble_eq_true rfl) (Nat.le_of_ble_eq_true rfl)
set_option maxHeartbeats 4000000 in
set_option maxRecDepth 100000 in
theorem c_X9_init (l : Launch) (D : va_G) (cI cM cT cJ cZ : ClassId) (t9 : Nat) : Cv l D (ty3 cI cM cT cJ cZ) yX9_init cX9_init 1 1 5 356 [.ref t9] ([(t9, .inr (9, [.null, .null, .null, .null, .null, .int 0, .int 0]))]) (fun u => ∃ (cd_t9 : Nat) (lF_t9 : Nat) (lT_t9 : Nat) (cK_t9 : Nat) (cU_t9 : Nat), u = [(t9, .inr (9, [.ref cd_t9, .ref lF_t9, .ref lT_t9, .ref cK_t9, .ref cU_t9, .int 0, .int 0])), (cd_t9, .inl (cI, 300, .inl (fun _ => 0))), (lF_t9, .inl (cI, 4, .inl (fun _ => 0))), (lT_t9, .inl (cI, 4, .inl (fun _ => 0))), (cK_t9, .inl (cI, 24, .inl (fun _ => 0))), (cU_t9, .inl (cI, 24, .inl (fun _ => 0)))]) := by
  refine Cv.of (by decide +kernel) (Nat.le_of_ble_eq_true rfl) ?_
  intro p e s m below meth c A ls Z hin hP hD hl
  have hx := Z.1
  have hb := Z.2.1
  have hS : va_S A s.heap s.heap [] := va_S.rf
  have hl : lv_has ls 1 [(0, .ref t9)] := hl
  skip
  refine lv_aload_n hx hb dX9_init_0 rfl (lv_at hl 0 rfl) ?_
  refine z_obj Z hl.1 bw_296 bw_108 bw_109 dX9_init_1 (Nat.le_of_ble_eq_true rfl) (Nat.le_of_ble_eq_true rfl) ?_
  refine lv_aload_n hx hb dX9_init_4 rfl (lv_at hl 0 rfl) ?_
  refine lv_sipush (v := 300) hx hb dX9_init_5 (by decide) ?_
  refine z_newi (N := 300) Z bw_152 hP hD hS 0 rfl (by decide) (by decide) (by decide) (Nat.le_of_ble_eq_true rfl) (Nat.le_of_ble_eq_true rfl) dX9_init_8 (fun q1 H hP hD hS => ?_)
  have hP : va_P D vwCl ([(t9, .inr (9, [.null, .null, .null, .null, .null, .int 0, .int 0])), (q1, .inl (cI, 300, .inl (fun _ => 0)))]) H := hP
  have hD : va_D A ([(t9, .inr (9, [.null, .null, .null, .null, .null, .int 0, .int 0])), (q1, .inl (cI, 300, .inl (fun _ => 0)))]) := hD
  refine z_putF Z i_X9 tyX9 tyX9_ok nmX9 hP hD hS 0 rfl rfl 0 (by decide) bw_297 rfl hin rfl rfl rfl (Nat.le_of_ble_eq_true rfl) dX9_init_10 (fun H locs hP hD hS => ?_)
  have hP : va_P D vwCl ([(t9, .inr (9, [.ref q1, .null, .null, .null, .null, .int 0, .int 0])), (q1, .inl (cI, 300, .inl (fun _ => 0)))]) H := hP
  have hD : va_D A ([(t9, .inr (9, [.ref q1, .null, .null, .null, .null, .int 0, .int 0])), (q1, .inl (cI, 300, .inl (fun _ => 0)))]) := hD
  refine lv_aload_n hx hb dX9_init_13 rfl (lv_at hl 0 rfl) ?_
  refine lv_iconst (v := 4) hx hb dX9_init_14 (by decide) ?_
  refine z_newi (N := 4) Z bw_152 hP hD hS 0 rfl (by decide) (by decide) (by decide) (Nat.le_of_ble_eq_true rfl) (Nat.le_of_ble_eq_true rfl) dX9_init_15 (fun q2 H hP hD hS => ?_)
  have hP : va_P D vwCl ([(t9, .inr (9, [.ref q1, .null, .null, .null, .null, .int 0, .int 0])), (q1, .inl (cI, 300, .inl (fun _ => 0))), (q2, .inl (cI, 4, .inl (fun _ => 0)))]) H := hP
  have hD : va_D A ([(t9, .inr (9, [.ref q1, .null, .null, .null, .null, .int 0, .int 0])), (q1, .inl (cI, 300, .inl (fun _ => 0))), (q2, .inl (cI, 4, .inl (fun _ => 0)))]) := hD
  refine z_putF Z i_X9 tyX9 tyX9_ok nmX9 hP hD hS 0 rfl rfl 1 (by decide) bw_300 rfl hin rfl rfl rfl (Nat.le_of_ble_eq_true rfl) dX9_init_17 (fun H locs hP hD hS => ?_)
  have hP : va_P D vwCl ([(t9, .inr (9, [.ref q1, .ref q2, .null, .null, .null, .int 0, .int 0])), (q1, .inl (cI, 300, .inl (fun _ => 0))), (q2, .inl (cI, 4, .inl (fun _ => 0)))]) H := hP
  have hD : va_D A ([(t9, .inr (9, [.ref q1, .ref q2, .null, .null, .null, .int 0, .int 0])), (q1, .inl (cI, 300, .inl (fun _ => 0))), (q2, .inl (cI, 4, .inl (fun _ => 0)))]) := hD
  refine lv_aload_n hx hb dX9_init_20 rfl (lv_at hl 0 rfl) ?_
  refine lv_iconst (v := 4) hx hb dX9_init_21 (by decide) ?_
  refine z_newi (N := 4) Z bw_152 hP hD hS 0 rfl (by decide) (by decide) (by decide) (Nat.le_of_ble_eq_true rfl) (Nat.le_of_ble_eq_true rfl) dX9_init_22 (fun q3 H hP hD hS => ?_)
  have hP : va_P D vwCl ([(t9, .inr (9, [.ref q1, .ref q2, .null, .null, .null, .int 0, .int 0])), (q1, .inl (cI, 300, .inl (fun _ => 0))), (q2, .inl (cI, 4, .inl (fun _ => 0))), (q3, .inl (cI, 4, .inl (fun _ => 0)))]) H := hP
  have hD : va_D A ([(t9, .inr (9, [.ref q1, .ref q2, .null, .null, .null, .int 0, .int 0])), (q1, .inl (cI, 300, .inl (fun _ => 0))), (q2, .inl (cI, 4, .inl (fun _ => 0))), (q3, .inl (cI, 4, .inl (fun _ => 0)))]) := hD
  refine z_putF Z i_X9 tyX9 tyX9_ok nmX9 hP hD hS 0 rfl rfl 2 (by decide) bw_303 rfl hin rfl rfl rfl (Nat.le_of_ble_eq_true rfl) dX9_init_24 (fun H locs hP hD hS => ?_)
  have hP : va_P D vwCl ([(t9, .inr (9, [.ref q1, .ref q2, .ref q3, .null, .null, .int 0, .int 0])), (q1, .inl (cI, 300, .inl (fun _ => 0))), (q2, .inl (cI, 4, .inl (fun _ => 0))), (q3, .inl (cI, 4, .inl (fun _ => 0)))]) H := hP
  have hD : va_D A ([(t9, .inr (9, [.ref q1, .ref q2, .ref q3, .null, .null, .int 0, .int 0])), (q1, .inl (cI, 300, .inl (fun _ => 0))), (q2, .inl (cI, 4, .inl (fun _ => 0))), (q3, .inl (cI, 4, .inl (fun _ => 0)))]) := hD
  refine lv_aload_n hx hb dX9_init_27 rfl (lv_at hl 0 rfl) ?_
  refine lv_bipush (v := 24) hx hb dX9_init_28 (by decide) ?_
  refine z_newi (N := 24) Z bw_152 hP hD hS 0 rfl (by decide) (by decide) (by decide) (Nat.le_of_ble_eq_true rfl) (Nat.le_of_ble_eq_true rfl) dX9_init_30 (fun q4 H hP hD hS => ?_)
  have hP : va_P D vwCl ([(t9, .inr (9, [.ref q1, .ref q2, .ref q3, .null, .null, .int 0, .int 0])), (q1, .inl (cI, 300, .inl (fun _ => 0))), (q2, .inl (cI, 4, .inl (fun _ => 0))), (q3, .inl (cI, 4, .inl (fun _ => 0))), (q4, .inl (cI, 24, .inl (fun _ => 0)))]) H := hP
  have hD : va_D A ([(t9, .inr (9, [.ref q1, .ref q2, .ref q3, .null, .null, .int 0, .int 0])), (q1, .inl (cI, 300, .inl (fun _ => 0))), (q2, .inl (cI, 4, .inl (fun _ => 0))), (q3, .inl (cI, 4, .inl (fun _ => 0))), (q4, .inl (cI, 24, .inl (fun _ => 0)))]) := hD
  refine z_putF Z i_X9 tyX9 tyX9_ok nmX9 hP hD hS 0 rfl rfl 3 (by decide) bw_306 rfl hin rfl rfl rfl (Nat.le_of_ble_eq_true rfl) dX9_init_32 (fun H locs hP hD hS => ?_)
  have hP : va_P D vwCl ([(t9, .inr (9, [.ref q1, .ref q2, .ref q3, .ref q4, .null, .int 0, .int 0])), (q1, .inl (cI, 300, .inl (fun _ => 0))), (q2, .inl (cI, 4, .inl (fun _ => 0))), (q3, .inl (cI, 4, .inl (fun _ => 0))), (q4, .inl (cI, 24, .inl (fun _ => 0)))]) H := hP
  have hD : va_D A ([(t9, .inr (9, [.ref q1, .ref q2, .ref q3, .ref q4, .null, .int 0, .int 0])), (q1, .inl (cI, 300, .inl (fun _ => 0))), (q2, .inl (cI, 4, .inl (fun _ => 0))), (q3, .inl (cI, 4, .inl (fun _ => 0))), (q4, .inl (cI, 24, .inl (fun _ => 0)))]) := hD
  refine lv_aload_n hx hb dX9_init_35 rfl (lv_at hl 0 rfl) ?_
  refine lv_bipush (v := 24) hx hb dX9_init_36 (by decide) ?_
  refine z_newi (N := 24) Z bw_152 hP hD hS 0 rfl (by decide) (by decide) (by decide) (Nat.le_of_ble_eq_true rfl) (Nat.le_of_ble_eq_true rfl) dX9_init_38 (fun q5 H hP hD hS => ?_)
  have hP : va_P D vwCl ([(t9, .inr (9, [.ref q1, .ref q2, .ref q3, .ref q4, .null, .int 0, .int 0])), (q1, .inl (cI, 300, .inl (fun _ => 0))), (q2, .inl (cI, 4, .inl (fun _ => 0))), (q3, .inl (cI, 4, .inl (fun _ => 0))), (q4, .inl (cI, 24, .inl (fun _ => 0))), (q5, .inl (cI, 24, .inl (fun _ => 0)))]) H := hP
  have hD : va_D A ([(t9, .inr (9, [.ref q1, .ref q2, .ref q3, .ref q4, .null, .int 0, .int 0])), (q1, .inl (cI, 300, .inl (fun _ => 0))), (q2, .inl (cI, 4, .inl (fun _ => 0))), (q3, .inl (cI, 4, .inl (fun _ => 0))), (q4, .inl (cI, 24, .inl (fun _ => 0))), (q5, .inl (cI, 24, .inl (fun _ => 0)))]) := hD
  refine z_putF Z i_X9 tyX9 tyX9_ok nmX9 hP hD hS 0 rfl rfl 4 (by decide) bw_308 rfl hin rfl rfl rfl (Nat.le_of_ble_eq_true rfl) dX9_init_40 (fun H locs hP hD hS => ?_)
  have hP : va_P D vwCl ([(t9, .inr (9, [.ref q1, .ref q2, .ref q3, .ref q4, .ref q5, .int 0, .int 0])), (q1, .inl (cI, 300, .inl (fun _ => 0))), (q2, .inl (cI, 4, .inl (fun _ => 0))), (q3, .inl (cI, 4, .inl (fun _ => 0))), (q4, .inl (cI, 24, .inl (fun _ => 0))), (q5, .inl (cI, 24, .inl (fun _ => 0)))]) H := hP
  have hD : va_D A ([(t9, .inr (9, [.ref q1, .ref q2, .ref q3, .ref q4, .ref q5, .int 0, .int 0])), (q1, .inl (cI, 300, .inl (fun _ => 0))), (q2, .inl (cI, 4, .inl (fun _ => 0))), (q3, .inl (cI, 4, .inl (fun _ => 0))), (q4, .inl (cI, 24, .inl (fun _ => 0))), (q5, .inl (cI, 24, .inl (fun _ => 0)))]) := hD
  refine lv_aload_n hx hb dX9_init_43 rfl (lv_at hl 0 rfl) ?_
  refine lv_iconst (v := 0) hx hb dX9_init_44 (by decide) ?_
  refine z_put Z i_X9 tyX9 tyX9_ok nmX9 hP hD hS 0 rfl rfl 5 (by decide) bw_310 rfl rfl rfl (Nat.le_of_ble_eq_true rfl) dX9_init_45 (fun H locs hP hD hS => ?_)
  have hP : va_P D vwCl ([(t9, .inr (9, [.ref q1, .ref q2, .ref q3, .ref q4, .ref q5, .int 0, .int 0])), (q1, .inl (cI, 300, .inl (fun _ => 0))), (q2, .inl (cI, 4, .inl (fun _ => 0))), (q3, .inl (cI, 4, .inl (fun _ => 0))), (q4, .inl (cI, 24, .inl (fun _ => 0))), (q5, .inl (cI, 24, .inl (fun _ => 0)))]) H := hP
  have hD : va_D A ([(t9, .inr (9, [.ref q1, .ref q2, .ref q3, .ref q4, .ref q5, .int 0, .int 0])), (q1, .inl (cI, 300, .inl (fun _ => 0))), (q2, .inl (cI, 4, .inl (fun _ => 0))), (q3, .inl (cI, 4, .inl (fun _ => 0))), (q4, .inl (cI, 24, .inl (fun _ => 0))), (q5, .inl (cI, 24, .inl (fun _ => 0)))]) := hD
  refine lv_aload_n hx hb dX9_init_48 rfl (lv_at hl 0 rfl) ?_
  refine lv_iconst (v := 0) hx hb dX9_init_49 (by decide) ?_
  refine z_put Z i_X9 tyX9 tyX9_ok nmX9 hP hD hS 0 rfl rfl 6 (by decide) bw_312 rfl rfl rfl (Nat.le_of_ble_eq_true rfl) dX9_init_50 (fun H locs hP hD hS => ?_)
  have hP : va_P D vwCl ([(t9, .inr (9, [.ref q1, .ref q2, .ref q3, .ref q4, .ref q5, .int 0, .int 0])), (q1, .inl (cI, 300, .inl (fun _ => 0))), (q2, .inl (cI, 4, .inl (fun _ => 0))), (q3, .inl (cI, 4, .inl (fun _ => 0))), (q4, .inl (cI, 24, .inl (fun _ => 0))), (q5, .inl (cI, 24, .inl (fun _ => 0)))]) H := hP
  have hD : va_D A ([(t9, .inr (9, [.ref q1, .ref q2, .ref q3, .ref q4, .ref q5, .int 0, .int 0])), (q1, .inl (cI, 300, .inl (fun _ => 0))), (q2, .inl (cI, 4, .inl (fun _ => 0))), (q3, .inl (cI, 4, .inl (fun _ => 0))), (q4, .inl (cI, 24, .inl (fun _ => 0))), (q5, .inl (cI, 24, .inl (fun _ => 0)))]) := hD
  exact z_vret Z hP hD hS (⟨q1, q2, q3, q4, q5, rfl⟩) dX9_init_53 (Nat.le_of_ble_eq_true rfl) (Nat.le_of_ble_eq_true rfl)
set_option maxHeartbeats 4000000 in
set_option maxRecDepth 100000 in
theorem c_X7_init (l : Launch) (D : va_G) (cI cM cT cJ cZ : ClassId) (tP : Nat) : Cv l D (ty3 cI cM cT cJ cZ) yX7_init cX7_init 1 1 4 1203 [.ref tP] ([(tP, .inr (7, [.null, .null, .null, .null, .int 0, .int 0]))]) (fun u => ∃ (bY : Nat) (ki : Nat) (a_t : Nat) (nu : Nat), u = [(tP, .inr (7, [.ref bY, .ref ki, .ref a_t, .ref nu, .int 0, .int 0])), (bY, .inl (cI, 300, .inl (fun _ => 0))), (ki, .inl (cI, 301, .inl (fun _ => 0))), (a_t, .inl (cI, 301, .inl (fun _ => 0))), (nu, .inl (cI, 301, .inl (fun _ => 0)))]) := by
  refine Cv.of (by decide +kernel) (Nat.le_of_ble_eq_true rfl) ?_
  intro p e s m below meth c A ls Z hin hP hD hl
  have hx := Z.1
  have hb := Z.2.1
  have hS : va_S A s.heap s.heap [] := va_S.rf
  have hl : lv_has ls 1 [(0, .ref tP)] := hl
  skip
  refine lv_aload_n hx hb dX7_init_0 rfl (lv_at hl 0 rfl) ?_
  refine z_obj Z hl.1 bw_394 bw_108 bw_109 dX7_init_1 (Nat.le_of_ble_eq_true rfl) (Nat.le_of_ble_eq_true rfl) ?_
  refine lv_aload_n hx hb dX7_init_4 rfl (lv_at hl 0 rfl) ?_
  refine lv_sipush (v := 300) hx hb dX7_init_5 (by decide) ?_
  refine z_newi (N := 300) Z bw_152 hP hD hS 0 rfl (by decide) (by decide) (by decide) (Nat.le_of_ble_eq_true rfl) (Nat.le_of_ble_eq_true rfl) dX7_init_8 (fun q1 H hP hD hS => ?_)
  have hP : va_P D vwCl ([(tP, .inr (7, [.null, .null, .null, .null, .int 0, .int 0])), (q1, .inl (cI, 300, .inl (fun _ => 0)))]) H := hP
  have hD : va_D A ([(tP, .inr (7, [.null, .null, .null, .null, .int 0, .int 0])), (q1, .inl (cI, 300, .inl (fun _ => 0)))]) := hD
  refine z_putF Z i_X7 tyX7 tyX7_ok nmX7 hP hD hS 0 rfl rfl 0 (by decide) bw_395 rfl hin rfl rfl rfl (Nat.le_of_ble_eq_true rfl) dX7_init_10 (fun H locs hP hD hS => ?_)
  have hP : va_P D vwCl ([(tP, .inr (7, [.ref q1, .null, .null, .null, .int 0, .int 0])), (q1, .inl (cI, 300, .inl (fun _ => 0)))]) H := hP
  have hD : va_D A ([(tP, .inr (7, [.ref q1, .null, .null, .null, .int 0, .int 0])), (q1, .inl (cI, 300, .inl (fun _ => 0)))]) := hD
  refine lv_aload_n hx hb dX7_init_13 rfl (lv_at hl 0 rfl) ?_
  refine lv_sipush (v := 301) hx hb dX7_init_14 (by decide) ?_
  refine z_newi (N := 301) Z bw_152 hP hD hS 0 rfl (by decide) (by decide) (by decide) (Nat.le_of_ble_eq_true rfl) (Nat.le_of_ble_eq_true rfl) dX7_init_17 (fun q2 H hP hD hS => ?_)
  have hP : va_P D vwCl ([(tP, .inr (7, [.ref q1, .null, .null, .null, .int 0, .int 0])), (q1, .inl (cI, 300, .inl (fun _ => 0))), (q2, .inl (cI, 301, .inl (fun _ => 0)))]) H := hP
  have hD : va_D A ([(tP, .inr (7, [.ref q1, .null, .null, .null, .int 0, .int 0])), (q1, .inl (cI, 300, .inl (fun _ => 0))), (q2, .inl (cI, 301, .inl (fun _ => 0)))]) := hD
  refine z_putF Z i_X7 tyX7 tyX7_ok nmX7 hP hD hS 0 rfl rfl 1 (by decide) bw_396 rfl hin rfl rfl rfl (Nat.le_of_ble_eq_true rfl) dX7_init_19 (fun H locs hP hD hS => ?_)
  have hP : va_P D vwCl ([(tP, .inr (7, [.ref q1, .ref q2, .null, .null, .int 0, .int 0])), (q1, .inl (cI, 300, .inl (fun _ => 0))), (q2, .inl (cI, 301, .inl (fun _ => 0)))]) H := hP
  have hD : va_D A ([(tP, .inr (7, [.ref q1, .ref q2, .null, .null, .int 0, .int 0])), (q1, .inl (cI, 300, .inl (fun _ => 0))), (q2, .inl (cI, 301, .inl (fun _ => 0)))]) := hD
  refine lv_aload_n hx hb dX7_init_22 rfl (lv_at hl 0 rfl) ?_
  refine lv_sipush (v := 301) hx hb dX7_init_23 (by decide) ?_
  refine z_newi (N := 301) Z bw_152 hP hD hS 0 rfl (by decide) (by decide) (by decide) (Nat.le_of_ble_eq_true rfl) (Nat.le_of_ble_eq_true rfl) dX7_init_26 (fun q3 H hP hD hS => ?_)
  have hP : va_P D vwCl ([(tP, .inr (7, [.ref q1, .ref q2, .null, .null, .int 0, .int 0])), (q1, .inl (cI, 300, .inl (fun _ => 0))), (q2, .inl (cI, 301, .inl (fun _ => 0))), (q3, .inl (cI, 301, .inl (fun _ => 0)))]) H := hP
  have hD : va_D A ([(tP, .inr (7, [.ref q1, .ref q2, .null, .null, .int 0, .int 0])), (q1, .inl (cI, 300, .inl (fun _ => 0))), (q2, .inl (cI, 301, .inl (fun _ => 0))), (q3, .inl (cI, 301, .inl (fun _ => 0)))]) := hD
  refine z_putF Z i_X7 tyX7 tyX7_ok nmX7 hP hD hS 0 rfl rfl 2 (by decide) bw_398 rfl hin rfl rfl rfl (Nat.le_of_ble_eq_true rfl) dX7_init_28 (fun H locs hP hD hS => ?_)
  have hP : va_P D vwCl ([(tP, .inr (7, [.ref q1, .ref q2, .ref q3, .null, .int 0, .int 0])), (q1, .inl (cI, 300, .inl (fun _ => 0))), (q2, .inl (cI, 301, .inl (fun _ => 0))), (q3, .inl (cI, 301, .inl (fun _ => 0)))]) H := hP
  have hD : va_D A ([(tP, .inr (7, [.ref q1, .ref q2, .ref q3, .null, .int 0, .int 0])), (q1, .inl (cI, 300, .inl (fun _ => 0))), (q2, .inl (cI, 301, .inl (fun _ => 0))), (q3, .inl (cI, 301, .inl (fun _ => 0)))]) := hD
  refine lv_aload_n hx hb dX7_init_31 rfl (lv_at hl 0 rfl) ?_
  refine lv_sipush (v := 301) hx hb dX7_init_32 (by decide) ?_
  refine z_newi (N := 301) Z bw_152 hP hD hS 0 rfl (by decide) (by decide) (by decide) (Nat.le_of_ble_eq_true rfl) (Nat.le_of_ble_eq_true rfl) dX7_init_35 (fun q4 H hP hD hS => ?_)
  have hP : va_P D vwCl ([(tP, .inr (7, [.ref q1, .ref q2, .ref q3, .null, .int 0, .int 0])), (q1, .inl (cI, 300, .inl (fun _ => 0))), (q2, .inl (cI, 301, .inl (fun _ => 0))), (q3, .inl (cI, 301, .inl (fun _ => 0))), (q4, .inl (cI, 301, .inl (fun _ => 0)))]) H := hP
  have hD : va_D A ([(tP, .inr (7, [.ref q1, .ref q2, .ref q3, .null, .int 0, .int 0])), (q1, .inl (cI, 300, .inl (fun _ => 0))), (q2, .inl (cI, 301, .inl (fun _ => 0))), (q3, .inl (cI, 301, .inl (fun _ => 0))), (q4, .inl (cI, 301, .inl (fun _ => 0)))]) := hD
  refine z_putF Z i_X7 tyX7 tyX7_ok nmX7 hP hD hS 0 rfl rfl 3 (by decide) bw_400 rfl hin rfl rfl rfl (Nat.le_of_ble_eq_true rfl) dX7_init_37 (fun H locs hP hD hS => ?_)
  have hP : va_P D vwCl ([(tP, .inr (7, [.ref q1, .ref q2, .ref q3, .ref q4, .int 0, .int 0])), (q1, .inl (cI, 300, .inl (fun _ => 0))), (q2, .inl (cI, 301, .inl (fun _ => 0))), (q3, .inl (cI, 301, .inl (fun _ => 0))), (q4, .inl (cI, 301, .inl (fun _ => 0)))]) H := hP
  have hD : va_D A ([(tP, .inr (7, [.ref q1, .ref q2, .ref q3, .ref q4, .int 0, .int 0])), (q1, .inl (cI, 300, .inl (fun _ => 0))), (q2, .inl (cI, 301, .inl (fun _ => 0))), (q3, .inl (cI, 301, .inl (fun _ => 0))), (q4, .inl (cI, 301, .inl (fun _ => 0)))]) := hD
  refine lv_aload_n hx hb dX7_init_40 rfl (lv_at hl 0 rfl) ?_
  refine lv_iconst (v := 0) hx hb dX7_init_41 (by decide) ?_
  refine z_put Z i_X7 tyX7 tyX7_ok nmX7 hP hD hS 0 rfl rfl 4 (by decide) bw_402 rfl rfl rfl (Nat.le_of_ble_eq_true rfl) dX7_init_42 (fun H locs hP hD hS => ?_)
  have hP : va_P D vwCl ([(tP, .inr (7, [.ref q1, .ref q2, .ref q3, .ref q4, .int 0, .int 0])), (q1, .inl (cI, 300, .inl (fun _ => 0))), (q2, .inl (cI, 301, .inl (fun _ => 0))), (q3, .inl (cI, 301, .inl (fun _ => 0))), (q4, .inl (cI, 301, .inl (fun _ => 0)))]) H := hP
  have hD : va_D A ([(tP, .inr (7, [.ref q1, .ref q2, .ref q3, .ref q4, .int 0, .int 0])), (q1, .inl (cI, 300, .inl (fun _ => 0))), (q2, .inl (cI, 301, .inl (fun _ => 0))), (q3, .inl (cI, 301, .inl (fun _ => 0))), (q4, .inl (cI, 301, .inl (fun _ => 0)))]) := hD
  refine lv_aload_n hx hb dX7_init_45 rfl (lv_at hl 0 rfl) ?_
  refine lv_iconst (v := 0) hx hb dX7_init_46 (by decide) ?_
  refine z_put Z i_X7 tyX7 tyX7_ok nmX7 hP hD hS 0 rfl rfl 5 (by decide) bw_404 rfl rfl rfl (Nat.le_of_ble_eq_true rfl) dX7_init_47 (fun H locs hP hD hS => ?_)
  have hP : va_P D vwCl ([(tP, .inr (7, [.ref q1, .ref q2, .ref q3, .ref q4, .int 0, .int 0])), (q1, .inl (cI, 300, .inl (fun _ => 0))), (q2, .inl (cI, 301, .inl (fun _ => 0))), (q3, .inl (cI, 301, .inl (fun _ => 0))), (q4, .inl (cI, 301, .inl (fun _ => 0)))]) H := hP
  have hD : va_D A ([(tP, .inr (7, [.ref q1, .ref q2, .ref q3, .ref q4, .int 0, .int 0])), (q1, .inl (cI, 300, .inl (fun _ => 0))), (q2, .inl (cI, 301, .inl (fun _ => 0))), (q3, .inl (cI, 301, .inl (fun _ => 0))), (q4, .inl (cI, 301, .inl (fun _ => 0)))]) := hD
  exact z_vret Z hP hD hS (⟨q1, q2, q3, q4, rfl⟩) dX7_init_50 (Nat.le_of_ble_eq_true rfl) (Nat.le_of_ble_eq_true rfl)
set_option maxHeartbeats 4000000 in
set_option maxRecDepth 100000 in
theorem c_X8_init (l : Launch) (D : va_G) (cI cM cT cJ cZ : ClassId) (tm : Nat) : Cv l D (ty3 cI cM cT cJ cZ) yX8_init cX8_init 1 1 2 12 [.ref tm] ([(tm, .inr (8, [.null, .null, .int 0, .int 0]))]) (fun u => ∃ (bE : Nat) (oR : Nat), u = [(tm, .inr (8, [.ref bE, .ref oR, .int 0, .int (-1)])), (bE, .inl (cI, 6, .inl (fun _ => 0))), (oR, .inl (cI, 6, .inl (fun _ => 0)))]) := by
  refine Cv.of (by decide +kernel) (Nat.le_of_ble_eq_true rfl) ?_
  intro p e s m below meth c A ls Z hin hP hD hl
  have hx := Z.1
  have hb := Z.2.1
  have hS : va_S A s.heap s.heap [] := va_S.rf
  have hl : lv_has ls 1 [(0, .ref tm)] := hl
  skip
  refine lv_aload_n hx hb dX8_init_0 rfl (lv_at hl 0 rfl) ?_
  refine z_obj Z hl.1 bw_451 bw_108 bw_109 dX8_init_1 (Nat.le_of_ble_eq_true rfl) (Nat.le_of_ble_eq_true rfl) ?_
  refine lv_aload_n hx hb dX8_init_4 rfl (lv_at hl 0 rfl) ?_
  refine lv_bipush (v := 6) hx hb dX8_init_5 (by decide) ?_
  refine z_newi (N := 6) Z bw_152 hP hD hS 0 rfl (by decide) (by decide) (by decide) (Nat.le_of_ble_eq_true rfl) (Nat.le_of_ble_eq_true rfl) dX8_init_7 (fun q1 H hP hD hS => ?_)
  have hP : va_P D vwCl ([(tm, .inr (8, [.null, .null, .int 0, .int 0])), (q1, .inl (cI, 6, .inl (fun _ => 0)))]) H := hP
  have hD : va_D A ([(tm, .inr (8, [.null, .null, .int 0, .int 0])), (q1, .inl (cI, 6, .inl (fun _ => 0)))]) := hD
  refine z_putF Z i_X8 tyX8 tyX8_ok nmX8 hP hD hS 0 rfl rfl 0 (by decide) bw_452 rfl hin rfl rfl rfl (Nat.le_of_ble_eq_true rfl) dX8_init_9 (fun H locs hP hD hS => ?_)
  have hP : va_P D vwCl ([(tm, .inr (8, [.ref q1, .null, .int 0, .int 0])), (q1, .inl (cI, 6, .inl (fun _ => 0)))]) H := hP
  have hD : va_D A ([(tm, .inr (8, [.ref q1, .null, .int 0, .int 0])), (q1, .inl (cI, 6, .inl (fun _ => 0)))]) := hD
  refine lv_aload_n hx hb dX8_init_12 rfl (lv_at hl 0 rfl) ?_
  refine lv_bipush (v := 6) hx hb dX8_init_13 (by decide) ?_
  refine z_newi (N := 6) Z bw_152 hP hD hS 0 rfl (by decide) (by decide) (by decide) (Nat.le_of_ble_eq_true rfl) (Nat.le_of_ble_eq_true rfl) dX8_init_15 (fun q2 H hP hD hS => ?_)
  have hP : va_P D vwCl ([(tm, .inr (8, [.ref q1, .null, .int 0, .int 0])), (q1, .inl (cI, 6, .inl (fun _ => 0))), (q2, .inl (cI, 6, .inl (fun _ => 0)))]) H := hP
  have hD : va_D A ([(tm, .inr (8, [.ref q1, .null, .int 0, .int 0])), (q1, .inl (cI, 6, .inl (fun _ => 0))), (q2, .inl (cI, 6, .inl (fun _ => 0)))]) := hD
  refine z_putF Z i_X8 tyX8 tyX8_ok nmX8 hP hD hS 0 rfl rfl 1 (by decide) bw_454 rfl hin rfl rfl rfl (Nat.le_of_ble_eq_true rfl) dX8_init_17 (fun H locs hP hD hS => ?_)
  have hP : va_P D vwCl ([(tm, .inr (8, [.ref q1, .ref q2, .int 0, .int 0])), (q1, .inl (cI, 6, .inl (fun _ => 0))), (q2, .inl (cI, 6, .inl (fun _ => 0)))]) H := hP
  have hD : va_D A ([(tm, .inr (8, [.ref q1, .ref q2, .int 0, .int 0])), (q1, .inl (cI, 6, .inl (fun _ => 0))), (q2, .inl (cI, 6, .inl (fun _ => 0)))]) := hD
  refine lv_aload_n hx hb dX8_init_20 rfl (lv_at hl 0 rfl) ?_
  refine lv_iconst (v := 0) hx hb dX8_init_21 (by decide) ?_
  refine z_put Z i_X8 tyX8 tyX8_ok nmX8 hP hD hS 0 rfl rfl 2 (by decide) bw_455 rfl rfl rfl (Nat.le_of_ble_eq_true rfl) dX8_init_22 (fun H locs hP hD hS => ?_)
  have hP : va_P D vwCl ([(tm, .inr (8, [.ref q1, .ref q2, .int 0, .int 0])), (q1, .inl (cI, 6, .inl (fun _ => 0))), (q2, .inl (cI, 6, .inl (fun _ => 0)))]) H := hP
  have hD : va_D A ([(tm, .inr (8, [.ref q1, .ref q2, .int 0, .int 0])), (q1, .inl (cI, 6, .inl (fun _ => 0))), (q2, .inl (cI, 6, .inl (fun _ => 0)))]) := hD
  refine lv_aload_n hx hb dX8_init_25 rfl (lv_at hl 0 rfl) ?_
  refine lv_iconst (v := (-1)) hx hb dX8_init_26 (by decide) ?_
  refine z_put Z i_X8 tyX8 tyX8_ok nmX8 hP hD hS 0 rfl rfl 3 (by decide) bw_457 rfl rfl rfl (Nat.le_of_ble_eq_true rfl) dX8_init_27 (fun H locs hP hD hS => ?_)
  have hP : va_P D vwCl ([(tm, .inr (8, [.ref q1, .ref q2, .int 0, .int (-1)])), (q1, .inl (cI, 6, .inl (fun _ => 0))), (q2, .inl (cI, 6, .inl (fun _ => 0)))]) H := hP
  have hD : va_D A ([(tm, .inr (8, [.ref q1, .ref q2, .int 0, .int (-1)])), (q1, .inl (cI, 6, .inl (fun _ => 0))), (q2, .inl (cI, 6, .inl (fun _ => 0)))]) := hD
  exact z_vret Z hP hD hS (⟨q1, q2, rfl⟩) dX8_init_30 (Nat.le_of_ble_eq_true rfl) (Nat.le_of_ble_eq_true rfl)
set_option maxHeartbeats 4000000 in
set_option maxRecDepth 100000 in
theorem c_X2_init (l : Launch) (D : va_G) (cI cM cT cJ cZ : ClassId) (rd : Nat) : Cv l D (ty3 cI cM cT cJ cZ) yX2_init cX2_init 1 2 20 3000 [.ref rd] ([(rd, .inr (2, [.null, .int 0, .int 0, .int 0, .int 0, .int 0, .null]))]) (fun u => ∃ (tP : Nat) (tX : Nat) (bY : Nat) (ki : Nat) (a_t : Nat) (nu : Nat), u = [(rd, .inr (2, [.ref tP, .int (-1), .int (-1), .int 0, .int 37, .int 0, .ref tX])), (tP, .inr (7, [.ref bY, .ref ki, .ref a_t, .ref nu, .int 0, .int 0])), (bY, .inl (cI, 300, .inl (fun _ => 0))), (ki, .inl (cI, 301, .inl (fun _ => 0))), (a_t, .inl (cI, 301, .inl (fun _ => 0))), (nu, .inl (cI, 301, .inl (fun _ => 0)))]) := by
  refine Cv.of (by decide +kernel) (Nat.le_of_ble_eq_true rfl) ?_
  intro p e s m below meth c A ls Z hin hP hD hl
  have hx := Z.1
  have hb := Z.2.1
  have hS : va_S A s.heap s.heap [] := va_S.rf
  have hl : lv_has ls 1 [(0, .ref rd)] := hl
  skip
  refine lv_aload_n hx hb dX2_init_0 rfl (lv_at hl 0 rfl) ?_
  refine z_obj Z hl.1 bw_388 bw_108 bw_109 dX2_init_1 (Nat.le_of_ble_eq_true rfl) (Nat.le_of_ble_eq_true rfl) ?_
  refine lv_aload_n hx hb dX2_init_4 rfl (lv_at hl 0 rfl) ?_
  refine z_new Z (ci := 7) (fs := [.null, .null, .null, .null, .int 0, .int 0]) i_X7 tyX7 tyX7_ok bw_389 bw_390 bw_90 hP hD hS rfl rfl (Nat.le_of_ble_eq_true rfl) (Nat.le_of_ble_eq_true rfl) dX2_init_5 (fun q1 H hP hD hS => ?_)
  have hP : va_P D vwCl ([(rd, .inr (2, [.null, .int 0, .int 0, .int 0, .int 0, .int 0, .null])), (q1, .inr (7, [.null, .null, .null, .null, .int 0, .int 0]))]) H := hP
  have hD : va_D A ([(rd, .inr (2, [.null, .int 0, .int 0, .int 0, .int 0, .int 0, .null])), (q1, .inr (7, [.null, .null, .null, .null, .int 0, .int 0]))]) := hD
  refine lv_dup hx hb dX2_init_8 rfl ?_
  have hPc := hP.sub2 (wc := [(q1, .inr (7, [.null, .null, .null, .null, .int 0, .int 0]))]) [1] rfl
  have hDc := hD.sub (ws' := [(q1, .inr (7, [.null, .null, .null, .null, .int 0, .int 0]))]) [1] (by decide) rfl
  refine raw_IN (nA := 0) (As := []) (rest := [.ref q1, .ref rd]) Z hl.1 (c_X7_init l D cI cM cT cJ cZ q1) (List.mem_of_getElem? (i := 9) rfl) bw_392 bw_90 bw_393 rfl ⟨by decide +kernel, by decide +kernel, by decide +kernel⟩ rfl ⟨Nat.le_of_ble_eq_true rfl, Nat.le_of_ble_eq_true rfl⟩ hPc hDc hS rfl (Nat.le_of_ble_eq_true rfl) dX2_init_9 ⟨Nat.le_of_ble_eq_true rfl, Nat.le_of_ble_eq_true rfl⟩ (fun u2 H1 locs1 h4 hku2 hP1 hD1 hS1 => ?_)
  obtain ⟨bY_5, ki_6, a_t_7, nu_8, rfl⟩ := h4
  obtain ⟨hP, hD⟩ := z_join (wr := [(rd, .inr (2, [.null, .int 0, .int 0, .int 0, .int 0, .int 0, .null]))]) Z hS hP hD [1] [0] rfl (by decide) rfl (by decide) (by decide) hku2 hP1 hD1
  have hS := hS1
  clear hS1
  generalize H1 = H at hP hS ⊢
  generalize locs1 = locs at hS ⊢
  have hP : va_P D vwCl ([(rd, .inr (2, [.null, .int 0, .int 0, .int 0, .int 0, .int 0, .null])), (q1, .inr (7, [.ref bY_5, .ref ki_6, .ref a_t_7, .ref nu_8, .int 0, .int 0])), (bY_5, .inl (cI, 300, .inl (fun _ => 0))), (ki_6, .inl (cI, 301, .inl (fun _ => 0))), (a_t_7, .inl (cI, 301, .inl (fun _ => 0))), (nu_8, .inl (cI, 301, .inl (fun _ => 0)))]) H := hP
  have hD : va_D A ([(rd, .inr (2, [.null, .int 0, .int 0, .int 0, .int 0, .int 0, .null])), (q1, .inr (7, [.ref bY_5, .ref ki_6, .ref a_t_7, .ref nu_8, .int 0, .int 0])), (bY_5, .inl (cI, 300, .inl (fun _ => 0))), (ki_6, .inl (cI, 301, .inl (fun _ => 0))), (a_t_7, .inl (cI, 301, .inl (fun _ => 0))), (nu_8, .inl (cI, 301, .inl (fun _ => 0)))]) := hD
  refine z_putF Z i_X2 tyX2 tyX2_ok nmX2 hP hD hS 0 rfl rfl 0 (by decide) bw_421 rfl hin rfl rfl rfl (Nat.le_of_ble_eq_true rfl) dX2_init_12 (fun H locs hP hD hS => ?_)
  have hP : va_P D vwCl ([(rd, .inr (2, [.ref q1, .int 0, .int 0, .int 0, .int 0, .int 0, .null])), (q1, .inr (7, [.ref bY_5, .ref ki_6, .ref a_t_7, .ref nu_8, .int 0, .int 0])), (bY_5, .inl (cI, 300, .inl (fun _ => 0))), (ki_6, .inl (cI, 301, .inl (fun _ => 0))), (a_t_7, .inl (cI, 301, .inl (fun _ => 0))), (nu_8, .inl (cI, 301, .inl (fun _ => 0)))]) H := hP
  have hD : va_D A ([(rd, .inr (2, [.ref q1, .int 0, .int 0, .int 0, .int 0, .int 0, .null])), (q1, .inr (7, [.ref bY_5, .ref ki_6, .ref a_t_7, .ref nu_8, .int 0, .int 0])), (bY_5, .inl (cI, 300, .inl (fun _ => 0))), (ki_6, .inl (cI, 301, .inl (fun _ => 0))), (a_t_7, .inl (cI, 301, .inl (fun _ => 0))), (nu_8, .inl (cI, 301, .inl (fun _ => 0)))]) := hD
  refine lv_aload_n hx hb dX2_init_15 rfl (lv_at hl 0 rfl) ?_
  refine lv_iconst (v := (-1)) hx hb dX2_init_16 (by decide) ?_
  refine z_put Z i_X2 tyX2 tyX2_ok nmX2 hP hD hS 0 rfl rfl 1 (by decide) bw_423 rfl rfl rfl (Nat.le_of_ble_eq_true rfl) dX2_init_17 (fun H locs hP hD hS => ?_)
  have hP : va_P D vwCl ([(rd, .inr (2, [.ref q1, .int (-1), .int 0, .int 0, .int 0, .int 0, .null])), (q1, .inr (7, [.ref bY_5, .ref ki_6, .ref a_t_7, .ref nu_8, .int 0, .int 0])), (bY_5, .inl (cI, 300, .inl (fun _ => 0))), (ki_6, .inl (cI, 301, .inl (fun _ => 0))), (a_t_7, .inl (cI, 301, .inl (fun _ => 0))), (nu_8, .inl (cI, 301, .inl (fun _ => 0)))]) H := hP
  have hD : va_D A ([(rd, .inr (2, [.ref q1, .int (-1), .int 0, .int 0, .int 0, .int 0, .null])), (q1, .inr (7, [.ref bY_5, .ref ki_6, .ref a_t_7, .ref nu_8, .int 0, .int 0])), (bY_5, .inl (cI, 300, .inl (fun _ => 0))), (ki_6, .inl (cI, 301, .inl (fun _ => 0))), (a_t_7, .inl (cI, 301, .inl (fun _ => 0))), (nu_8, .inl (cI, 301, .inl (fun _ => 0)))]) := hD
  refine lv_aload_n hx hb dX2_init_20 rfl (lv_at hl 0 rfl) ?_
  refine lv_iconst (v := (-1)) hx hb dX2_init_21 (by decide) ?_
  refine z_put Z i_X2 tyX2 tyX2_ok nmX2 hP hD hS 0 rfl rfl 2 (by decide) bw_425 rfl rfl rfl (Nat.le_of_ble_eq_true rfl) dX2_init_22 (fun H locs hP hD hS => ?_)
  have hP : va_P D vwCl ([(rd, .inr (2, [.ref q1, .int (-1), .int (-1), .int 0, .int 0, .int 0, .null])), (q1, .inr (7, [.ref bY_5, .ref ki_6, .ref a_t_7, .ref nu_8, .int 0, .int 0])), (bY_5, .inl (cI, 300, .inl (fun _ => 0))), (ki_6, .inl (cI, 301, .inl (fun _ => 0))), (a_t_7, .inl (cI, 301, .inl (fun _ => 0))), (nu_8, .inl (cI, 301, .inl (fun _ => 0)))]) H := hP
  have hD : va_D A ([(rd, .inr (2, [.ref q1, .int (-1), .int (-1), .int 0, .int 0, .int 0, .null])), (q1, .inr (7, [.ref bY_5, .ref ki_6, .ref a_t_7, .ref nu_8, .int 0, .int 0])), (bY_5, .inl (cI, 300, .inl (fun _ => 0))), (ki_6, .inl (cI, 301, .inl (fun _ => 0))), (a_t_7, .inl (cI, 301, .inl (fun _ => 0))), (nu_8, .inl (cI, 301, .inl (fun _ => 0)))]) := hD
  refine lv_aload_n hx hb dX2_init_25 rfl (lv_at hl 0 rfl) ?_
  refine lv_iconst (v := 0) hx hb dX2_init_26 (by decide) ?_
  refine z_put Z i_X2 tyX2 tyX2_ok nmX2 hP hD hS 0 rfl rfl 3 (by decide) bw_427 rfl rfl rfl (Nat.le_of_ble_eq_true rfl) dX2_init_27 (fun H locs hP hD hS => ?_)
  have hP : va_P D vwCl ([(rd, .inr (2, [.ref q1, .int (-1), .int (-1), .int 0, .int 0, .int 0, .null])), (q1, .inr (7, [.ref bY_5, .ref ki_6, .ref a_t_7, .ref nu_8, .int 0, .int 0])), (bY_5, .inl (cI, 300, .inl (fun _ => 0))), (ki_6, .inl (cI, 301, .inl (fun _ => 0))), (a_t_7, .inl (cI, 301, .inl (fun _ => 0))), (nu_8, .inl (cI, 301, .inl (fun _ => 0)))]) H := hP
  have hD : va_D A ([(rd, .inr (2, [.ref q1, .int (-1), .int (-1), .int 0, .int 0, .int 0, .null])), (q1, .inr (7, [.ref bY_5, .ref ki_6, .ref a_t_7, .ref nu_8, .int 0, .int 0])), (bY_5, .inl (cI, 300, .inl (fun _ => 0))), (ki_6, .inl (cI, 301, .inl (fun _ => 0))), (a_t_7, .inl (cI, 301, .inl (fun _ => 0))), (nu_8, .inl (cI, 301, .inl (fun _ => 0)))]) := hD
  refine lv_aload_n hx hb dX2_init_30 rfl (lv_at hl 0 rfl) ?_
  refine lv_bipush (v := 37) hx hb dX2_init_31 (by decide) ?_
  refine z_put Z i_X2 tyX2 tyX2_ok nmX2 hP hD hS 0 rfl rfl 4 (by decide) bw_428 rfl rfl rfl (Nat.le_of_ble_eq_true rfl) dX2_init_33 (fun H locs hP hD hS => ?_)
  have hP : va_P D vwCl ([(rd, .inr (2, [.ref q1, .int (-1), .int (-1), .int 0, .int 37, .int 0, .null])), (q1, .inr (7, [.ref bY_5, .ref ki_6, .ref a_t_7, .ref nu_8, .int 0, .int 0])), (bY_5, .inl (cI, 300, .inl (fun _ => 0))), (ki_6, .inl (cI, 301, .inl (fun _ => 0))), (a_t_7, .inl (cI, 301, .inl (fun _ => 0))), (nu_8, .inl (cI, 301, .inl (fun _ => 0)))]) H := hP
  have hD : va_D A ([(rd, .inr (2, [.ref q1, .int (-1), .int (-1), .int 0, .int 37, .int 0, .null])), (q1, .inr (7, [.ref bY_5, .ref ki_6, .ref a_t_7, .ref nu_8, .int 0, .int 0])), (bY_5, .inl (cI, 300, .inl (fun _ => 0))), (ki_6, .inl (cI, 301, .inl (fun _ => 0))), (a_t_7, .inl (cI, 301, .inl (fun _ => 0))), (nu_8, .inl (cI, 301, .inl (fun _ => 0)))]) := hD
  refine lv_aload_n hx hb dX2_init_36 rfl (lv_at hl 0 rfl) ?_
  refine lv_iconst (v := 0) hx hb dX2_init_37 (by decide) ?_
  refine z_put Z i_X2 tyX2 tyX2_ok nmX2 hP hD hS 0 rfl rfl 5 (by decide) bw_429 rfl rfl rfl (Nat.le_of_ble_eq_true rfl) dX2_init_38 (fun H locs hP hD hS => ?_)
  have hP : va_P D vwCl ([(rd, .inr (2, [.ref q1, .int (-1), .int (-1), .int 0, .int 37, .int 0, .null])), (q1, .inr (7, [.ref bY_5, .ref ki_6, .ref a_t_7, .ref nu_8, .int 0, .int 0])), (bY_5, .inl (cI, 300, .inl (fun _ => 0))), (ki_6, .inl (cI, 301, .inl (fun _ => 0))), (a_t_7, .inl (cI, 301, .inl (fun _ => 0))), (nu_8, .inl (cI, 301, .inl (fun _ => 0)))]) H := hP
  have hD : va_D A ([(rd, .inr (2, [.ref q1, .int (-1), .int (-1), .int 0, .int 37, .int 0, .null])), (q1, .inr (7, [.ref bY_5, .ref ki_6, .ref a_t_7, .ref nu_8, .int 0, .int 0])), (bY_5, .inl (cI, 300, .inl (fun _ => 0))), (ki_6, .inl (cI, 301, .inl (fun _ => 0))), (a_t_7, .inl (cI, 301, .inl (fun _ => 0))), (nu_8, .inl (cI, 301, .inl (fun _ => 0)))]) := hD
  refine lv_aload_n hx hb dX2_init_41 rfl (lv_at hl 0 rfl) ?_
  refine z_new Z (ci := 9) (fs := [.null, .null, .null, .null, .null, .int 0, .int 0]) i_X9 tyX9 tyX9_ok bw_419 bw_292 bw_88 hP hD hS rfl rfl (Nat.le_of_ble_eq_true rfl) (Nat.le_of_ble_eq_true rfl) dX2_init_42 (fun q9 H hP hD hS => ?_)
  have hP : va_P D vwCl ([(rd, .inr (2, [.ref q1, .int (-1), .int (-1), .int 0, .int 37, .int 0, .null])), (q1, .inr (7, [.ref bY_5, .ref ki_6, .ref a_t_7, .ref nu_8, .int 0, .int 0])), (bY_5, .inl (cI, 300, .inl (fun _ => 0))), (ki_6, .inl (cI, 301, .inl (fun _ => 0))), (a_t_7, .inl (cI, 301, .inl (fun _ => 0))), (nu_8, .inl (cI, 301, .inl (fun _ => 0))), (q9, .inr (9, [.null, .null, .null, .null, .null, .int 0, .int 0]))]) H := hP
  have hD : va_D A ([(rd, .inr (2, [.ref q1, .int (-1), .int (-1), .int 0, .int 37, .int 0, .null])), (q1, .inr (7, [.ref bY_5, .ref ki_6, .ref a_t_7, .ref nu_8, .int 0, .int 0])), (bY_5, .inl (cI, 300, .inl (fun _ => 0))), (ki_6, .inl (cI, 301, .inl (fun _ => 0))), (a_t_7, .inl (cI, 301, .inl (fun _ => 0))), (nu_8, .inl (cI, 301, .inl (fun _ => 0))), (q9, .inr (9, [.null, .null, .null, .null, .null, .int 0, .int 0]))]) := hD
  refine lv_dup hx hb dX2_init_45 rfl ?_
  have hPc := hP.sub2 (wc := [(q9, .inr (9, [.null, .null, .null, .null, .null, .int 0, .int 0]))]) [6] rfl
  have hDc := hD.sub (ws' := [(q9, .inr (9, [.null, .null, .null, .null, .null, .int 0, .int 0]))]) [6] (by decide) rfl
  refine raw_IN (nA := 0) (As := []) (rest := [.ref q9, .ref rd]) Z hl.1 (c_X9_init l D cI cM cT cJ cZ q9) (List.mem_of_getElem? (i := 10) rfl) bw_294 bw_88 bw_295 rfl ⟨by decide +kernel, by decide +kernel, by decide +kernel⟩ rfl ⟨Nat.le_of_ble_eq_true rfl, Nat.le_of_ble_eq_true rfl⟩ hPc hDc hS rfl (Nat.le_of_ble_eq_true rfl) dX2_init_46 ⟨Nat.le_of_ble_eq_true rfl, Nat.le_of_ble_eq_true rfl⟩ (fun u10 H1 locs1 h12 hku10 hP1 hD1 hS1 => ?_)
  obtain ⟨cd_t9_13, lF_t9_14, lT_t9_15, cK_t9_16, cU_t9_17, rfl⟩ := h12
  obtain ⟨hP, hD⟩ := z_join (wr := [(rd, .inr (2, [.ref q1, .int (-1), .int (-1), .int 0, .int 37, .int 0, .null])), (q1, .inr (7, [.ref bY_5, .ref ki_6, .ref a_t_7, .ref nu_8, .int 0, .int 0])), (bY_5, .inl (cI, 300, .inl (fun _ => 0))), (ki_6, .inl (cI, 301, .inl (fun _ => 0))), (a_t_7, .inl (cI, 301, .inl (fun _ => 0))), (nu_8, .inl (cI, 301, .inl (fun _ => 0)))]) Z hS hP hD [6] [0, 1, 2, 3, 4, 5] rfl (by decide +kernel) rfl (by decide +kernel) (by decide +kernel) hku10 hP1 hD1
  have hS := hS1
  clear hS1
  generalize H1 = H at hP hS ⊢
  generalize locs1 = locs at hS ⊢
  have hP : va_P D vwCl ([(rd, .inr (2, [.ref q1, .int (-1), .int (-1), .int 0, .int 37, .int 0, .null])), (q1, .inr (7, [.ref bY_5, .ref ki_6, .ref a_t_7, .ref nu_8, .int 0, .int 0])), (bY_5, .inl (cI, 300, .inl (fun _ => 0))), (ki_6, .inl (cI, 301, .inl (fun _ => 0))), (a_t_7, .inl (cI, 301, .inl (fun _ => 0))), (nu_8, .inl (cI, 301, .inl (fun _ => 0))), (q9, .inr (9, [.ref cd_t9_13, .ref lF_t9_14, .ref lT_t9_15, .ref cK_t9_16, .ref cU_t9_17, .int 0, .int 0])), (cd_t9_13, .inl (cI, 300, .inl (fun _ => 0))), (lF_t9_14, .inl (cI, 4, .inl (fun _ => 0))), (lT_t9_15, .inl (cI, 4, .inl (fun _ => 0))), (cK_t9_16, .inl (cI, 24, .inl (fun _ => 0))), (cU_t9_17, .inl (cI, 24, .inl (fun _ => 0)))]) H := hP
  have hD : va_D A ([(rd, .inr (2, [.ref q1, .int (-1), .int (-1), .int 0, .int 37, .int 0, .null])), (q1, .inr (7, [.ref bY_5, .ref ki_6, .ref a_t_7, .ref nu_8, .int 0, .int 0])), (bY_5, .inl (cI, 300, .inl (fun _ => 0))), (ki_6, .inl (cI, 301, .inl (fun _ => 0))), (a_t_7, .inl (cI, 301, .inl (fun _ => 0))), (nu_8, .inl (cI, 301, .inl (fun _ => 0))), (q9, .inr (9, [.ref cd_t9_13, .ref lF_t9_14, .ref lT_t9_15, .ref cK_t9_16, .ref cU_t9_17, .int 0, .int 0])), (cd_t9_13, .inl (cI, 300, .inl (fun _ => 0))), (lF_t9_14, .inl (cI, 4, .inl (fun _ => 0))), (lT_t9_15, .inl (cI, 4, .inl (fun _ => 0))), (cK_t9_16, .inl (cI, 24, .inl (fun _ => 0))), (cU_t9_17, .inl (cI, 24, .inl (fun _ => 0)))]) := hD
  refine z_put Z i_X2 tyX2 tyX2_ok nmX2 hP hD hS 0 rfl rfl 6 (by decide) bw_430 rfl rfl rfl (Nat.le_of_ble_eq_true rfl) dX2_init_49 (fun H locs hP hD hS => ?_)
  have hP : va_P D vwCl ([(rd, .inr (2, [.ref q1, .int (-1), .int (-1), .int 0, .int 37, .int 0, .ref q9])), (q1, .inr (7, [.ref bY_5, .ref ki_6, .ref a_t_7, .ref nu_8, .int 0, .int 0])), (bY_5, .inl (cI, 300, .inl (fun _ => 0))), (ki_6, .inl (cI, 301, .inl (fun _ => 0))), (a_t_7, .inl (cI, 301, .inl (fun _ => 0))), (nu_8, .inl (cI, 301, .inl (fun _ => 0))), (q9, .inr (9, [.ref cd_t9_13, .ref lF_t9_14, .ref lT_t9_15, .ref cK_t9_16, .ref cU_t9_17, .int 0, .int 0])), (cd_t9_13, .inl (cI, 300, .inl (fun _ => 0))), (lF_t9_14, .inl (cI, 4, .inl (fun _ => 0))), (lT_t9_15, .inl (cI, 4, .inl (fun _ => 0))), (cK_t9_16, .inl (cI, 24, .inl (fun _ => 0))), (cU_t9_17, .inl (cI, 24, .inl (fun _ => 0)))]) H := hP
  have hD : va_D A ([(rd, .inr (2, [.ref q1, .int (-1), .int (-1), .int 0, .int 37, .int 0, .ref q9])), (q1, .inr (7, [.ref bY_5, .ref ki_6, .ref a_t_7, .ref nu_8, .int 0, .int 0])), (bY_5, .inl (cI, 300, .inl (fun _ => 0))), (ki_6, .inl (cI, 301, .inl (fun _ => 0))), (a_t_7, .inl (cI, 301, .inl (fun _ => 0))), (nu_8, .inl (cI, 301, .inl (fun _ => 0))), (q9, .inr (9, [.ref cd_t9_13, .ref lF_t9_14, .ref lT_t9_15, .ref cK_t9_16, .ref cU_t9_17, .int 0, .int 0])), (cd_t9_13, .inl (cI, 300, .inl (fun _ => 0))), (lF_t9_14, .inl (cI, 4, .inl (fun _ => 0))), (lT_t9_15, .inl (cI, 4, .inl (fun _ => 0))), (cK_t9_16, .inl (cI, 24, .inl (fun _ => 0))), (cU_t9_17, .inl (cI, 24, .inl (fun _ => 0)))]) := hD
  have hP := hP.sub2 (wc := [(rd, .inr (2, [.ref q1, .int (-1), .int (-1), .int 0, .int 37, .int 0, .ref q9])), (q1, .inr (7, [.ref bY_5, .ref ki_6, .ref a_t_7, .ref nu_8, .int 0, .int 0])), (bY_5, .inl (cI, 300, .inl (fun _ => 0))), (ki_6, .inl (cI, 301, .inl (fun _ => 0))), (a_t_7, .inl (cI, 301, .inl (fun _ => 0))), (nu_8, .inl (cI, 301, .inl (fun _ => 0)))]) [0, 1, 2, 3, 4, 5] rfl
  have hD := hD.sub (ws' := [(rd, .inr (2, [.ref q1, .int (-1), .int (-1), .int 0, .int 37, .int 0, .ref q9])), (q1, .inr (7, [.ref bY_5, .ref ki_6, .ref a_t_7, .ref nu_8, .int 0, .int 0])), (bY_5, .inl (cI, 300, .inl (fun _ => 0))), (ki_6, .inl (cI, 301, .inl (fun _ => 0))), (a_t_7, .inl (cI, 301, .inl (fun _ => 0))), (nu_8, .inl (cI, 301, .inl (fun _ => 0)))]) [0, 1, 2, 3, 4, 5] (by decide +kernel) rfl
  exact z_vret Z hP hD hS (⟨q1, q9, bY_5, ki_6, a_t_7, nu_8, rfl⟩) dX2_init_52 (Nat.le_of_ble_eq_true rfl) (Nat.le_of_ble_eq_true rfl)
section ZQ
variable {p : Program} {l : Launch} {e : Env} {R : Room} {s : State} {m : MethodId} {args : Array Value} {below : List Frame} {meth : Method} {c : Code} {H : Heap} {locs : List Loc} {cells slots : Nat} {Q : State → Prop}
variable {cc : ByteArray} {pc nL index : Nat} {rt : Option FieldType} {ls : Array Slot} {rest : List Value} {D : va_G} {A : Nat → Prop} {tys : vw_Y} {ws : va_W} {own : String}
theorem z_newq (Z : Zx p s m args meth c cc nL rt own A tys D) {C : String} (hcl : Cond.classLink own index C ∈ BW) (hov : va_AO C s) (hP : va_P D vwCl ws H) (hD : va_D A ws) (hS : va_S A s.heap H locs) (t0 : Nat) {cA : ClassId} (ht : tys[t0]? = some (cA, .object C)) {n : Int32} {N : Nat} (hn : ¬ n < 0) (hN : n.toNatClampNeg = N) (hby : N * 4 ≤ 536870912) (hc : cells + 1 ≤ R.cells) (hs : slots + N ≤ R.slots) (hdg : decode cc pc = .ok (.anewarray index, 3))
    (kk : ∀ (q : Nat) (H1 : Heap), va_P D vwCl (ws ++ [(q, .inl (cA, N, .inr (.inr (.inr (.inr (fun _ => none))))))]) H1 → va_D A (ws ++ [(q, .inl (cA, N, .inr (.inr (.inr (.inr (fun _ => none))))))]) → va_S A s.heap H1 locs → W p l e R s m args below meth c H1 locs (cells + 1) (slots + N) Q (F0 m (pc + 3) ls (.ref q :: rest))) : W p l e R s m args below meth c H locs cells slots Q (F0 m pc ls (.int n :: rest)) := by
  refine va_newq Z.1 Z.2.1 Z.2.2.2.1 (Z.2.2.2.2.1 _ hcl) hov Z.2.2.2.2.2.2.1 hP hD hS Z.2.2.2.2.2.2.2.1 hn hN hby hc hs hdg (fun q cB H1 hK1 hP1 hD1 hS1 => ?_)
  obtain ⟨-, -, -, -, -, h1⟩ := (Z.2.2.2.2.2.2.1.2 t0 _ ht).2
  obtain ⟨-, -, -, -, -, h2⟩ := (hK1.2 tys.length (cB, .object C) (by simp)).2
  have e : cB = cA := Option.some.inj (h2.symm.trans h1)
  subst e
  exact kk q H1 hP1 hD1 hS1
theorem z_aast (Z : Zx p s m args meth c cc nL rt own A tys D) (hP : va_P D vwCl ws H) (hD : va_D A ws) (hS : va_S A s.heap H locs) (q0 t0 qk ci : Nat) {a : Nat} {cA : ClassId} {r : vw_C} {n v : Nat} {vs : List Value} {f : Nat → Option Nat} (ha : ws[q0]? = some (a, .inl (cA, n, .inr (.inr (.inr (.inr f)))))) (ht : tys[t0]? = some (cA, .object r.1)) (hv : ws[qk]? = some (v, .inr (ci, vs))) (hc : vwCl[ci]? = some r) {i : Int32} (hin : vp_in i n) (hdg : decode cc pc = .ok (.aastore, 1))
    (kk : ∀ (H1 : Heap) (locs1 : List Loc), va_P D vwCl (ws.set q0 (a, .inl (cA, n, .inr (.inr (.inr (.inr (va_up f i.toNatClampNeg (some v)))))))) H1 → va_D A (ws.set q0 (a, .inl (cA, n, .inr (.inr (.inr (.inr (va_up f i.toNatClampNeg (some v)))))))) → va_S A s.heap H1 locs1 → W p l e R s m args below meth c H1 locs1 cells slots Q (F0 m (pc + 1) ls rest)) : W p l e R s m args below meth c H locs cells slots Q (F0 m pc ls (.ref v :: .int i :: .ref a :: rest)) :=
  va_astq Z.1 Z.2.1 Z.2.2.2.2.2.2.1 hP hD hS q0 t0 qk ci ha ht hv hc hin hdg kk
end ZQ

set_option maxHeartbeats 4000000 in
set_option maxRecDepth 100000 in
theorem lp_X5_init {p : Program} (l : Launch) {e : Env} {s : State} {m : MethodId} {below : List Frame} {meth : Method} {c : Code} {A : Nat → Prop} (D : va_G) (cI cM cT cJ cZ : ClassId) (sB : Nat) (Z : Zx p s m ([.ref sB] : List Value).toArray meth c cX5_init 2 none yX5_init.cls A (ty3 cI cM cT cJ cZ) D) : ∀ (n0 : Nat) (i : Nat) (rG : Nat) (f : Nat → Option Nat) (PL : va_W) (h0 : i ≤ 30) (hR : RingOK cI f i PL (fun _ => True)), 30 - i < n0 → ∀ (H : Heap) (locs : List Loc) (ls : Array Slot), va_P D vwCl ([(sB, .inr (5, [.ref rG, .int 0, .int 0])), (rG, .inl (cM, 30, .inr (.inr (.inr (.inr f)))))] ++ PL) H → va_D A ([(sB, .inr (5, [.ref rG, .int 0, .int 0])), (rG, .inl (cM, 30, .inr (.inr (.inr (.inr f)))))] ++ PL) → va_S A s.heap H locs → lv_has ls 2 [(0, .ref sB), (1, .int (nI i))] → W p l e (rmv 2 61 540) s m ([.ref sB] : List Value).toArray below meth c H locs (1 + 2 * i) (30 + 17 * i) (MQ below (va_Qv (fun u => ∃ (rG : Nat) (f : Nat → Option Nat) (PL : va_W), u = [(sB, .inr (5, [.ref rG, .int 0, .int 0])), (rG, .inl (cM, 30, .inr (.inr (.inr (.inr f)))))] ++ PL ∧ RingOK cI f 30 PL (fun _ => True)) (cB D (ty3 cI cM cT cJ cZ) A) A) ([.ref sB] : List Value).toArray s 61 540 A) (F0 m 25 ls []) := by
  have hx := Z.1
  have hb := Z.2.1
  intro n0
  induction n0 with
  | zero => intro i rG f PL h0 hR hm; exact absurd hm (Nat.not_lt_zero _)
  | succ n0 ih =>
    intro i rG f PL h0 hR hm H locs ls hP hD hS hl
    have ei : (nI i).toInt = (i : Int) := nI_toInt (by omega)
    refine lv_iload_n hx hb dX5_init_25 rfl (lv_at hl 1 rfl) ?_
    refine lv_bipush (v := 30) hx hb dX5_init_26 (by decide) ?_
    refine lv_icmp_ge (tgt := 50) hx hb dX5_init_28 (by decide) (fun c1 => ?_) (fun c1 => ?_)
    · have he30 : i = 30 := by (try simp only [zlt, zle, zeq, zl_0, zl_1, zl_2, zl_3, zl_4, zl_5, zl_6, zl_7, zl_8, zl_9, zl_10, zl_11, zl_12, zl_13, zl_14, zl_15, zl_16, zl_17, zl_18, zl_19, zl_20, zl_21, zl_22, zl_23, zl_24, zl_25, zl_26, zl_27, zl_28, zl_29, zl_30, zl_31, zl_32, zl_33, zl_34, zl_35, zl_36, zl_37, zl_38, zl_39, zl_40, zl_41, zl_42, zl_43, zl_44, zl_45, zl_46, zl_47, zl_48, zl_49, zl_50, zl_51, zl_52, zl_53, zl_54, zl_55, zl_56, zl_57, zl_58, zl_59, zl_60, zl_61, zl_62, zl_63, zl_64, zl_65, zl_82, zl_99, zl_100, zl_160, zl_299, zl_300, zl_301, zl_382, zl_398, zl_399, zl_464, zl_680, zl_862, zl_999, zl_1000, zl_9999, zl_10000, zl_1000000, zl_m1, zl_m2, zl_m3, zl_m8, zl_97, zl_122, zl_90, zl_100000, zl_75, zl_28530, zl_26982, zl_101, zl_104, zl_108, zl_110, zl_111, zl_112, zl_114, zl_115, zl_116, zl_117, zl_119, zl_121] at ei h0 hm c1 ⊢); omega
      exact z_vret Z hP hD hS (⟨rG, f, PL, rfl, he30 ▸ hR⟩) dX5_init_50 (by show _ ≤ 61; omega) (by show _ ≤ 540; omega)
    · have hi30 : i < 30 := by (try simp only [zlt, zle, zeq, zl_0, zl_1, zl_2, zl_3, zl_4, zl_5, zl_6, zl_7, zl_8, zl_9, zl_10, zl_11, zl_12, zl_13, zl_14, zl_15, zl_16, zl_17, zl_18, zl_19, zl_20, zl_21, zl_22, zl_23, zl_24, zl_25, zl_26, zl_27, zl_28, zl_29, zl_30, zl_31, zl_32, zl_33, zl_34, zl_35, zl_36, zl_37, zl_38, zl_39, zl_40, zl_41, zl_42, zl_43, zl_44, zl_45, zl_46, zl_47, zl_48, zl_49, zl_50, zl_51, zl_52, zl_53, zl_54, zl_55, zl_56, zl_57, zl_58, zl_59, zl_60, zl_61, zl_62, zl_63, zl_64, zl_65, zl_82, zl_99, zl_100, zl_160, zl_299, zl_300, zl_301, zl_382, zl_398, zl_399, zl_464, zl_680, zl_862, zl_999, zl_1000, zl_9999, zl_10000, zl_1000000, zl_m1, zl_m2, zl_m3, zl_m8, zl_97, zl_122, zl_90, zl_100000, zl_75, zl_28530, zl_26982, zl_101, zl_104, zl_108, zl_110, zl_111, zl_112, zl_114, zl_115, zl_116, zl_117, zl_119, zl_121] at ei h0 hm c1 ⊢); omega
      refine lv_aload_n hx hb dX5_init_31 rfl (lv_at hl 0 rfl) ?_
      refine z_get Z i_X5 hP 0 rfl rfl 0 (by decide) bw_220 rfl dX5_init_32 ?_
      refine lv_iload_n hx hb dX5_init_35 rfl (lv_at hl 1 rfl) ?_
      refine z_new Z (ci := 1) (fs := [.null, .int 0, .int 0, .int 0, .int 0, .int 0, .int 0]) i_X1 tyX1 tyX1_ok bw_217 bw_176 bw_86 hP hD hS rfl rfl (by show _ ≤ 61; omega) (by show _ ≤ 540; omega) dX5_init_36 (fun q2 H hP hD hS => ?_)
      have hP := hP.swap
      have hD := hD.swap
      have hP : va_P D vwCl ([(sB, .inr (5, [.ref rG, .int 0, .int 0])), (rG, .inl (cM, 30, .inr (.inr (.inr (.inr f))))), (q2, .inr (1, [.null, .int 0, .int 0, .int 0, .int 0, .int 0, .int 0]))] ++ PL) H := hP
      have hD : va_D A ([(sB, .inr (5, [.ref rG, .int 0, .int 0])), (rG, .inl (cM, 30, .inr (.inr (.inr (.inr f))))), (q2, .inr (1, [.null, .int 0, .int 0, .int 0, .int 0, .int 0, .int 0]))] ++ PL) := hD
      refine lv_dup hx hb dX5_init_39 rfl ?_
      have hPc := (va_P_left hP).sub2 (wc := [(q2, .inr (1, [.null, .int 0, .int 0, .int 0, .int 0, .int 0, .int 0]))]) [2] rfl
      have hDc := (va_D_left hD).sub (ws' := [(q2, .inr (1, [.null, .int 0, .int 0, .int 0, .int 0, .int 0, .int 0]))]) [2] (by decide) rfl
      refine raw_IN (nA := 0) (As := []) (rest := [.ref q2, .int (nI i), .ref rG]) Z hl.1 (c_X1_init l D cI cM cT cJ cZ q2) (List.mem_of_getElem? (i := 5) rfl) bw_178 bw_86 bw_179 rfl ⟨by decide +kernel, by decide +kernel, by decide +kernel⟩ rfl ⟨Nat.le_of_ble_eq_true rfl, Nat.le_of_ble_eq_true rfl⟩ hPc hDc hS rfl (Nat.le_of_ble_eq_true rfl) dX5_init_40 ⟨(by show _ ≤ 61; omega), (by show _ ≤ 540; omega)⟩ (fun u3 H1 locs1 h5 hku3 hP1 hD1 hS1 => ?_)
      obtain ⟨iA_6, rfl⟩ := h5
      obtain ⟨hP, hD⟩ := z_joinQ (wr := [(sB, .inr (5, [.ref rG, .int 0, .int 0])), (rG, .inl (cM, 30, .inr (.inr (.inr (.inr f)))))]) Z hS hP hD [2] [0, 1] rfl (by decide) rfl (by decide) (by decide) hku3 hP1 hD1
      have hS := hS1
      clear hS1
      generalize H1 = H at hP hS ⊢
      generalize locs1 = locs at hS ⊢
      have hP : va_P D vwCl ([(sB, .inr (5, [.ref rG, .int 0, .int 0])), (rG, .inl (cM, 30, .inr (.inr (.inr (.inr f))))), (q2, .inr (1, [.ref iA_6, .int 0, .int 0, .int 0, .int 0, .int 0, .int 13])), (iA_6, .inl (cI, 10, .inl (fun _ => 0)))] ++ PL) H := hP
      have hD : va_D A ([(sB, .inr (5, [.ref rG, .int 0, .int 0])), (rG, .inl (cM, 30, .inr (.inr (.inr (.inr f))))), (q2, .inr (1, [.ref iA_6, .int 0, .int 0, .int 0, .int 0, .int 0, .int 13])), (iA_6, .inl (cI, 10, .inl (fun _ => 0)))] ++ PL) := hD
      refine z_aast Z hP hD hS 1 1 2 1 rfl rfl rfl rfl (vp_in_nI (by first | with_reducible assumption | ((try simp only [zlt, zle, zeq, zl_0, zl_1, zl_2, zl_3, zl_4, zl_5, zl_6, zl_7, zl_8, zl_9, zl_10, zl_11, zl_12, zl_13, zl_14, zl_15, zl_16, zl_17, zl_18, zl_19, zl_20, zl_21, zl_22, zl_23, zl_24, zl_25, zl_26, zl_27, zl_28, zl_29, zl_30, zl_31, zl_32, zl_33, zl_34, zl_35, zl_36, zl_37, zl_38, zl_39, zl_40, zl_41, zl_42, zl_43, zl_44, zl_45, zl_46, zl_47, zl_48, zl_49, zl_50, zl_51, zl_52, zl_53, zl_54, zl_55, zl_56, zl_57, zl_58, zl_59, zl_60, zl_61, zl_62, zl_63, zl_64, zl_65, zl_82, zl_99, zl_100, zl_160, zl_299, zl_300, zl_301, zl_382, zl_398, zl_399, zl_464, zl_680, zl_862, zl_999, zl_1000, zl_9999, zl_10000, zl_1000000, zl_m1, zl_m2, zl_m3, zl_m8, zl_97, zl_122, zl_90, zl_100000, zl_75, zl_28530, zl_26982, zl_101, zl_104, zl_108, zl_110, zl_111, zl_112, zl_114, zl_115, zl_116, zl_117, zl_119, zl_121] at ei h0 hm c1 ⊢); omega)) (by omega)) dX5_init_43 (fun H locs hP hD hS => ?_)
      rw [nI_clamp (by omega)] at hP hD
      have hP : va_P D vwCl ([(sB, .inr (5, [.ref rG, .int 0, .int 0])), (rG, .inl (cM, 30, .inr (.inr (.inr (.inr (va_up f i (some q2))))))), (q2, .inr (1, [.ref iA_6, .int 0, .int 0, .int 0, .int 0, .int 0, .int 13])), (iA_6, .inl (cI, 10, .inl (fun _ => 0)))] ++ PL) H := hP
      have hD : va_D A ([(sB, .inr (5, [.ref rG, .int 0, .int 0])), (rG, .inl (cM, 30, .inr (.inr (.inr (.inr (va_up f i (some q2))))))), (q2, .inr (1, [.ref iA_6, .int 0, .int 0, .int 0, .int 0, .int 0, .int 13])), (iA_6, .inl (cI, 10, .inl (fun _ => 0)))] ++ PL) := hD
      refine lv_iinc (v := (nI (i + 1))) (lv' := [(1, .int (nI (i + 1))), (0, .ref sB)]) hx hb dX5_init_44 hl (k := 1) rfl (nI_1 i) (by decide) rfl (fun ls hl => ?_)
      refine lv_goto (tgt := 25) hx hb dX5_init_47 (by decide) ?_
      have hP : va_P D vwCl ([(sB, .inr (5, [.ref rG, .int 0, .int 0])), (rG, .inl (cM, 30, .inr (.inr (.inr (.inr (va_up f i (some q2)))))))] ++ ((q2, .inr (1, [.ref iA_6, .int 0, .int 0, .int 0, .int 0, .int 0, .int 13])) :: (iA_6, .inl (cI, 10, .inl (fun _ => 0))) :: PL)) H := hP
      have hD : va_D A ([(sB, .inr (5, [.ref rG, .int 0, .int 0])), (rG, .inl (cM, 30, .inr (.inr (.inr (.inr (va_up f i (some q2)))))))] ++ ((q2, .inr (1, [.ref iA_6, .int 0, .int 0, .int 0, .int 0, .int 0, .int 13])) :: (iA_6, .inl (cI, 10, .inl (fun _ => 0))) :: PL)) := hD
      refine W.widen (k := 1 + 2 * (i + 1)) (n := 30 + 17 * (i + 1)) (by omega) (by omega) ?_
      exact ih (i + 1) rG (va_up f i (some q2)) ((q2, .inr (1, [.ref iA_6, .int 0, .int 0, .int 0, .int 0, .int 0, .int 13])) :: (iA_6, .inl (cI, 10, .inl (fun _ => 0))) :: PL) (by first | with_reducible assumption | ((try simp only [zlt, zle, zeq, zl_0, zl_1, zl_2, zl_3, zl_4, zl_5, zl_6, zl_7, zl_8, zl_9, zl_10, zl_11, zl_12, zl_13, zl_14, zl_15, zl_16, zl_17, zl_18, zl_19, zl_20, zl_21, zl_22, zl_23, zl_24, zl_25, zl_26, zl_27, zl_28, zl_29, zl_30, zl_31, zl_32, zl_33, zl_34, zl_35, zl_36, zl_37, zl_38, zl_39, zl_40, zl_41, zl_42, zl_43, zl_44, zl_45, zl_46, zl_47, zl_48, zl_49, zl_50, zl_51, zl_52, zl_53, zl_54, zl_55, zl_56, zl_57, zl_58, zl_59, zl_60, zl_61, zl_62, zl_63, zl_64, zl_65, zl_82, zl_99, zl_100, zl_160, zl_299, zl_300, zl_301, zl_382, zl_398, zl_399, zl_464, zl_680, zl_862, zl_999, zl_1000, zl_9999, zl_10000, zl_1000000, zl_m1, zl_m2, zl_m3, zl_m8, zl_97, zl_122, zl_90, zl_100000, zl_75, zl_28530, zl_26982, zl_101, zl_104, zl_108, zl_110, zl_111, zl_112, zl_114, zl_115, zl_116, zl_117, zl_119, zl_121] at ei h0 hm c1 ⊢); omega)) (ring_push ⟨⟨by decide, by decide⟩, by decide, by decide⟩ (fun j hj => ⟨by decide, by decide⟩) hR) (by first | with_reducible assumption | ((try simp only [zlt, zle, zeq, zl_0, zl_1, zl_2, zl_3, zl_4, zl_5, zl_6, zl_7, zl_8, zl_9, zl_10, zl_11, zl_12, zl_13, zl_14, zl_15, zl_16, zl_17, zl_18, zl_19, zl_20, zl_21, zl_22, zl_23, zl_24, zl_25, zl_26, zl_27, zl_28, zl_29, zl_30, zl_31, zl_32, zl_33, zl_34, zl_35, zl_36, zl_37, zl_38, zl_39, zl_40, zl_41, zl_42, zl_43, zl_44, zl_45, zl_46, zl_47, zl_48, zl_49, zl_50, zl_51, zl_52, zl_53, zl_54, zl_55, zl_56, zl_57, zl_58, zl_59, zl_60, zl_61, zl_62, zl_63, zl_64, zl_65, zl_82, zl_99, zl_100, zl_160, zl_299, zl_300, zl_301, zl_382, zl_398, zl_399, zl_464, zl_680, zl_862, zl_999, zl_1000, zl_9999, zl_10000, zl_1000000, zl_m1, zl_m2, zl_m3, zl_m8, zl_97, zl_122, zl_90, zl_100000, zl_75, zl_28530, zl_26982, zl_101, zl_104, zl_108, zl_110, zl_111, zl_112, zl_114, zl_115, zl_116, zl_117, zl_119, zl_121] at ei h0 hm c1 ⊢); omega)) _ _ _ hP hD hS (lv_sub hl [1, 0] rfl)
set_option maxHeartbeats 4000000 in
set_option maxRecDepth 100000 in
theorem c_X5_init (l : Launch) (D : va_G) (cI cM cT cJ cZ : ClassId) (sB : Nat) : Cv l D (ty3 cI cM cT cJ cZ) yX5_init cX5_init 2 2 61 540 [.ref sB] ([(sB, .inr (5, [.null, .int 0, .int 0]))]) (fun u => ∃ (rG : Nat) (f : Nat → Option Nat) (PL : va_W), u = [(sB, .inr (5, [.ref rG, .int 0, .int 0])), (rG, .inl (cM, 30, .inr (.inr (.inr (.inr f)))))] ++ PL ∧ RingOK cI f 30 PL (fun _ => True)) := by
  refine Cv.of (by decide +kernel) (Nat.le_of_ble_eq_true rfl) ?_
  intro p e s m below meth c A ls Z hin hP hD hl
  have hx := Z.1
  have hb := Z.2.1
  have hS : va_S A s.heap s.heap [] := va_S.rf
  have hl : lv_has ls 2 [(0, .ref sB)] := hl
  skip
  refine lv_aload_n hx hb dX5_init_0 rfl (lv_at hl 0 rfl) ?_
  refine z_obj Z hl.1 bw_216 bw_108 bw_109 dX5_init_1 (Nat.le_of_ble_eq_true rfl) (Nat.le_of_ble_eq_true rfl) ?_
  refine lv_aload_n hx hb dX5_init_4 rfl (lv_at hl 0 rfl) ?_
  refine lv_bipush (v := 30) hx hb dX5_init_5 (by decide) ?_
  refine z_newq (N := 30) Z bw_217 Z.2.2.2.2.2.1.1.2.1 hP hD hS 1 rfl (by decide) (by decide) (by decide) (Nat.le_of_ble_eq_true rfl) (Nat.le_of_ble_eq_true rfl) dX5_init_7 (fun q1 H hP hD hS => ?_)
  have hP : va_P D vwCl ([(sB, .inr (5, [.null, .int 0, .int 0])), (q1, .inl (cM, 30, .inr (.inr (.inr (.inr (fun _ => none))))))]) H := hP
  have hD : va_D A ([(sB, .inr (5, [.null, .int 0, .int 0])), (q1, .inl (cM, 30, .inr (.inr (.inr (.inr (fun _ => none))))))]) := hD
  refine z_putF Z i_X5 tyX5 tyX5_ok nmX5 hP hD hS 0 rfl rfl 0 (by decide) bw_220 rfl hin rfl rfl rfl (Nat.le_of_ble_eq_true rfl) dX5_init_10 (fun H locs hP hD hS => ?_)
  have hP : va_P D vwCl ([(sB, .inr (5, [.ref q1, .int 0, .int 0])), (q1, .inl (cM, 30, .inr (.inr (.inr (.inr (fun _ => none))))))]) H := hP
  have hD : va_D A ([(sB, .inr (5, [.ref q1, .int 0, .int 0])), (q1, .inl (cM, 30, .inr (.inr (.inr (.inr (fun _ => none))))))]) := hD
  refine lv_aload_n hx hb dX5_init_13 rfl (lv_at hl 0 rfl) ?_
  refine lv_iconst (v := 0) hx hb dX5_init_14 (by decide) ?_
  refine z_put Z i_X5 tyX5 tyX5_ok nmX5 hP hD hS 0 rfl rfl 1 (by decide) bw_221 rfl rfl rfl (Nat.le_of_ble_eq_true rfl) dX5_init_15 (fun H locs hP hD hS => ?_)
  have hP : va_P D vwCl ([(sB, .inr (5, [.ref q1, .int 0, .int 0])), (q1, .inl (cM, 30, .inr (.inr (.inr (.inr (fun _ => none))))))]) H := hP
  have hD : va_D A ([(sB, .inr (5, [.ref q1, .int 0, .int 0])), (q1, .inl (cM, 30, .inr (.inr (.inr (.inr (fun _ => none))))))]) := hD
  refine lv_aload_n hx hb dX5_init_18 rfl (lv_at hl 0 rfl) ?_
  refine lv_iconst (v := 0) hx hb dX5_init_19 (by decide) ?_
  refine z_put Z i_X5 tyX5 tyX5_ok nmX5 hP hD hS 0 rfl rfl 2 (by decide) bw_222 rfl rfl rfl (Nat.le_of_ble_eq_true rfl) dX5_init_20 (fun H locs hP hD hS => ?_)
  have hP : va_P D vwCl ([(sB, .inr (5, [.ref q1, .int 0, .int 0])), (q1, .inl (cM, 30, .inr (.inr (.inr (.inr (fun _ => none))))))]) H := hP
  have hD : va_D A ([(sB, .inr (5, [.ref q1, .int 0, .int 0])), (q1, .inl (cM, 30, .inr (.inr (.inr (.inr (fun _ => none))))))]) := hD
  refine lv_iconst (v := 0) hx hb dX5_init_23 (by decide) ?_
  refine lv_istore_n (lv' := [(1, .int 0), (0, .ref sB)]) hx hb dX5_init_24 rfl hl (by decide) rfl (fun ls hl => ?_)
  refine W.widen (k := 1 + 2 * 0) (n := 30 + 17 * 0) (Nat.le_of_ble_eq_true rfl) (Nat.le_of_ble_eq_true rfl) ?_
  have hP : va_P D vwCl ([(sB, .inr (5, [.ref q1, .int 0, .int 0])), (q1, .inl (cM, 30, .inr (.inr (.inr (.inr (fun _ => none))))))] ++ []) H := hP
  have hD : va_D A ([(sB, .inr (5, [.ref q1, .int 0, .int 0])), (q1, .inl (cM, 30, .inr (.inr (.inr (.inr (fun _ => none))))))] ++ []) := hD
  exact lp_X5_init l D cI cM cT cJ cZ sB Z   _ 0 q1 (fun _ => none) ([]) (Nat.zero_le _) ring_0 (Nat.lt_succ_self _) _ _ _ hP hD hS (lv_sub hl [1, 0] rfl)
set_option maxHeartbeats 4000000 in
set_option maxRecDepth 100000 in
theorem c_X10_init (l : Launch) (D : va_G) (cI cM cT cJ cZ : ClassId) (nw : Nat) : Cv l D (ty3 cI cM cT cJ cZ) yX10_init cX10_init 1 3 80 1000 [.ref nw] ([(nw, .inr (10, [.null, .null, .null, .null, .null, .null, .null, .null, .int 0, .int 0, .int 0, .int 0, .int 0]))]) (fun u => ∃ (rO : Nat) (sT : Nat) (mA : Nat) (sB : Nat) (sA : Nat) (tH : Nat) (tF : Nat) (tS : Nat) (mU : Nat) (bF : Nat) (bT : Nat) (cO : Nat) (sH : Nat) (iA : Nat) (rG : Nat) (fN : Nat → Option Nat) (PL : va_W), u = [(nw, .inr (10, [.ref rO, .ref sT, .ref mA, .ref sB, .ref sA, .ref tH, .ref tF, .ref tS, .int 0, .int 0, .int (-1), .int 0, .int 0])), (rO, .inr (3, [.ref mU, .ref bF, .ref bT, .int 0])), (mU, .inl (cI, 300, .inl (fun _ => 0))), (bF, .inl (cI, 4, .inl (fun _ => 0))), (bT, .inl (cI, 4, .inl (fun _ => 0))), (sT, .inr (4, [.ref cO, .ref sH, .int 0])), (cO, .inl (cI, 6, .inl (fun _ => 0))), (sH, .inl (cI, 6, .inl (fun _ => 0))), (mA, .inr (1, [.ref iA, .int 0, .int 0, .int 0, .int 0, .int 0, .int 13])), (iA, .inl (cI, 10, .inl (fun _ => 0))), (sB, .inr (5, [.ref rG, .int 0, .int 0])), (rG, .inl (cM, 30, .inr (.inr (.inr (.inr fN))))), (sA, .inl (cI, 6, .inl (fun _ => 0))), (tH, .inl (cI, 10, .inl (fun _ => 0))), (tF, .inl (cI, 10, .inl (fun _ => 0))), (tS, .inl (cI, 10, .inl (fun _ => 0)))] ++ PL ∧ RingOK cI fN 30 PL (fun _ => True)) := by
  refine Cv.of (by decide +kernel) (Nat.le_of_ble_eq_true rfl) ?_
  intro p e s m below meth c A ls Z hin hP hD hl
  have hx := Z.1
  have hb := Z.2.1
  have hS : va_S A s.heap s.heap [] := va_S.rf
  have hl : lv_has ls 1 [(0, .ref nw)] := hl
  skip
  refine lv_aload_n hx hb dX10_init_0 rfl (lv_at hl 0 rfl) ?_
  refine z_obj Z hl.1 bw_127 bw_108 bw_109 dX10_init_1 (Nat.le_of_ble_eq_true rfl) (Nat.le_of_ble_eq_true rfl) ?_
  refine lv_aload_n hx hb dX10_init_4 rfl (lv_at hl 0 rfl) ?_
  refine z_new Z (ci := 3) (fs := [.null, .null, .null, .int 0]) i_X3 tyX3 tyX3_ok bw_128 bw_129 bw_84 hP hD hS rfl rfl (Nat.le_of_ble_eq_true rfl) (Nat.le_of_ble_eq_true rfl) dX10_init_5 (fun q1 H hP hD hS => ?_)
  have hP : va_P D vwCl ([(nw, .inr (10, [.null, .null, .null, .null, .null, .null, .null, .null, .int 0, .int 0, .int 0, .int 0, .int 0])), (q1, .inr (3, [.null, .null, .null, .int 0]))]) H := hP
  have hD : va_D A ([(nw, .inr (10, [.null, .null, .null, .null, .null, .null, .null, .null, .int 0, .int 0, .int 0, .int 0, .int 0])), (q1, .inr (3, [.null, .null, .null, .int 0]))]) := hD
  refine lv_dup hx hb dX10_init_8 rfl ?_
  have hPc := hP.sub2 (wc := [(q1, .inr (3, [.null, .null, .null, .int 0]))]) [1] rfl
  have hDc := hD.sub (ws' := [(q1, .inr (3, [.null, .null, .null, .int 0]))]) [1] (by decide) rfl
  refine raw_IN (nA := 0) (As := []) (rest := [.ref q1, .ref nw]) Z hl.1 (c_X3_init l D cI cM cT cJ cZ q1) (List.mem_of_getElem? (i := 2) rfl) bw_131 bw_84 bw_132 rfl ⟨by decide +kernel, by decide +kernel, by decide +kernel⟩ rfl ⟨Nat.le_of_ble_eq_true rfl, Nat.le_of_ble_eq_true rfl⟩ hPc hDc hS rfl (Nat.le_of_ble_eq_true rfl) dX10_init_9 ⟨Nat.le_of_ble_eq_true rfl, Nat.le_of_ble_eq_true rfl⟩ (fun u2 H1 locs1 h4 hku2 hP1 hD1 hS1 => ?_)
  obtain ⟨mU_5, bF_6, bT_7, rfl⟩ := h4
  obtain ⟨hP, hD⟩ := z_join (wr := [(nw, .inr (10, [.null, .null, .null, .null, .null, .null, .null, .null, .int 0, .int 0, .int 0, .int 0, .int 0]))]) Z hS hP hD [1] [0] rfl (by decide) rfl (by decide) (by decide) hku2 hP1 hD1
  have hS := hS1
  clear hS1
  generalize H1 = H at hP hS ⊢
  generalize locs1 = locs at hS ⊢
  have hP : va_P D vwCl ([(nw, .inr (10, [.null, .null, .null, .null, .null, .null, .null, .null, .int 0, .int 0, .int 0, .int 0, .int 0])), (q1, .inr (3, [.ref mU_5, .ref bF_6, .ref bT_7, .int 0])), (mU_5, .inl (cI, 300, .inl (fun _ => 0))), (bF_6, .inl (cI, 4, .inl (fun _ => 0))), (bT_7, .inl (cI, 4, .inl (fun _ => 0)))]) H := hP
  have hD : va_D A ([(nw, .inr (10, [.null, .null, .null, .null, .null, .null, .null, .null, .int 0, .int 0, .int 0, .int 0, .int 0])), (q1, .inr (3, [.ref mU_5, .ref bF_6, .ref bT_7, .int 0])), (mU_5, .inl (cI, 300, .inl (fun _ => 0))), (bF_6, .inl (cI, 4, .inl (fun _ => 0))), (bT_7, .inl (cI, 4, .inl (fun _ => 0)))]) := hD
  refine z_putF Z i_X10 tyX10 tyX10_ok nmX10 hP hD hS 0 rfl rfl 0 (by decide) bw_231 rfl hin rfl rfl rfl (Nat.le_of_ble_eq_true rfl) dX10_init_12 (fun H locs hP hD hS => ?_)
  have hP : va_P D vwCl ([(nw, .inr (10, [.ref q1, .null, .null, .null, .null, .null, .null, .null, .int 0, .int 0, .int 0, .int 0, .int 0])), (q1, .inr (3, [.ref mU_5, .ref bF_6, .ref bT_7, .int 0])), (mU_5, .inl (cI, 300, .inl (fun _ => 0))), (bF_6, .inl (cI, 4, .inl (fun _ => 0))), (bT_7, .inl (cI, 4, .inl (fun _ => 0)))]) H := hP
  have hD : va_D A ([(nw, .inr (10, [.ref q1, .null, .null, .null, .null, .null, .null, .null, .int 0, .int 0, .int 0, .int 0, .int 0])), (q1, .inr (3, [.ref mU_5, .ref bF_6, .ref bT_7, .int 0])), (mU_5, .inl (cI, 300, .inl (fun _ => 0))), (bF_6, .inl (cI, 4, .inl (fun _ => 0))), (bT_7, .inl (cI, 4, .inl (fun _ => 0)))]) := hD
  refine lv_aload_n hx hb dX10_init_15 rfl (lv_at hl 0 rfl) ?_
  refine z_new Z (ci := 4) (fs := [.null, .null, .int 0]) i_X4 tyX4 tyX4_ok bw_153 bw_154 bw_85 hP hD hS rfl rfl (Nat.le_of_ble_eq_true rfl) (Nat.le_of_ble_eq_true rfl) dX10_init_16 (fun q8 H hP hD hS => ?_)
  have hP : va_P D vwCl ([(nw, .inr (10, [.ref q1, .null, .null, .null, .null, .null, .null, .null, .int 0, .int 0, .int 0, .int 0, .int 0])), (q1, .inr (3, [.ref mU_5, .ref bF_6, .ref bT_7, .int 0])), (mU_5, .inl (cI, 300, .inl (fun _ => 0))), (bF_6, .inl (cI, 4, .inl (fun _ => 0))), (bT_7, .inl (cI, 4, .inl (fun _ => 0))), (q8, .inr (4, [.null, .null, .int 0]))]) H := hP
  have hD : va_D A ([(nw, .inr (10, [.ref q1, .null, .null, .null, .null, .null, .null, .null, .int 0, .int 0, .int 0, .int 0, .int 0])), (q1, .inr (3, [.ref mU_5, .ref bF_6, .ref bT_7, .int 0])), (mU_5, .inl (cI, 300, .inl (fun _ => 0))), (bF_6, .inl (cI, 4, .inl (fun _ => 0))), (bT_7, .inl (cI, 4, .inl (fun _ => 0))), (q8, .inr (4, [.null, .null, .int 0]))]) := hD
  refine lv_dup hx hb dX10_init_19 rfl ?_
  have hPc := hP.sub2 (wc := [(q8, .inr (4, [.null, .null, .int 0]))]) [5] rfl
  have hDc := hD.sub (ws' := [(q8, .inr (4, [.null, .null, .int 0]))]) [5] (by decide) rfl
  refine raw_IN (nA := 0) (As := []) (rest := [.ref q8, .ref nw]) Z hl.1 (c_X4_init l D cI cM cT cJ cZ q8) (List.mem_of_getElem? (i := 3) rfl) bw_156 bw_85 bw_157 rfl ⟨by decide +kernel, by decide +kernel, by decide +kernel⟩ rfl ⟨Nat.le_of_ble_eq_true rfl, Nat.le_of_ble_eq_true rfl⟩ hPc hDc hS rfl (Nat.le_of_ble_eq_true rfl) dX10_init_20 ⟨Nat.le_of_ble_eq_true rfl, Nat.le_of_ble_eq_true rfl⟩ (fun u9 H1 locs1 h11 hku9 hP1 hD1 hS1 => ?_)
  obtain ⟨cO_12, sH_13, rfl⟩ := h11
  obtain ⟨hP, hD⟩ := z_join (wr := [(nw, .inr (10, [.ref q1, .null, .null, .null, .null, .null, .null, .null, .int 0, .int 0, .int 0, .int 0, .int 0])), (q1, .inr (3, [.ref mU_5, .ref bF_6, .ref bT_7, .int 0])), (mU_5, .inl (cI, 300, .inl (fun _ => 0))), (bF_6, .inl (cI, 4, .inl (fun _ => 0))), (bT_7, .inl (cI, 4, .inl (fun _ => 0)))]) Z hS hP hD [5] [0, 1, 2, 3, 4] rfl (by decide +kernel) rfl (by decide +kernel) (by decide +kernel) hku9 hP1 hD1
  have hS := hS1
  clear hS1
  generalize H1 = H at hP hS ⊢
  generalize locs1 = locs at hS ⊢
  have hP : va_P D vwCl ([(nw, .inr (10, [.ref q1, .null, .null, .null, .null, .null, .null, .null, .int 0, .int 0, .int 0, .int 0, .int 0])), (q1, .inr (3, [.ref mU_5, .ref bF_6, .ref bT_7, .int 0])), (mU_5, .inl (cI, 300, .inl (fun _ => 0))), (bF_6, .inl (cI, 4, .inl (fun _ => 0))), (bT_7, .inl (cI, 4, .inl (fun _ => 0))), (q8, .inr (4, [.ref cO_12, .ref sH_13, .int 0])), (cO_12, .inl (cI, 6, .inl (fun _ => 0))), (sH_13, .inl (cI, 6, .inl (fun _ => 0)))]) H := hP
  have hD : va_D A ([(nw, .inr (10, [.ref q1, .null, .null, .null, .null, .null, .null, .null, .int 0, .int 0, .int 0, .int 0, .int 0])), (q1, .inr (3, [.ref mU_5, .ref bF_6, .ref bT_7, .int 0])), (mU_5, .inl (cI, 300, .inl (fun _ => 0))), (bF_6, .inl (cI, 4, .inl (fun _ => 0))), (bT_7, .inl (cI, 4, .inl (fun _ => 0))), (q8, .inr (4, [.ref cO_12, .ref sH_13, .int 0])), (cO_12, .inl (cI, 6, .inl (fun _ => 0))), (sH_13, .inl (cI, 6, .inl (fun _ => 0)))]) := hD
  refine z_putF Z i_X10 tyX10 tyX10_ok nmX10 hP hD hS 0 rfl rfl 1 (by decide) bw_234 rfl hin rfl rfl rfl (Nat.le_of_ble_eq_true rfl) dX10_init_23 (fun H locs hP hD hS => ?_)
  have hP : va_P D vwCl ([(nw, .inr (10, [.ref q1, .ref q8, .null, .null, .null, .null, .null, .null, .int 0, .int 0, .int 0, .int 0, .int 0])), (q1, .inr (3, [.ref mU_5, .ref bF_6, .ref bT_7, .int 0])), (mU_5, .inl (cI, 300, .inl (fun _ => 0))), (bF_6, .inl (cI, 4, .inl (fun _ => 0))), (bT_7, .inl (cI, 4, .inl (fun _ => 0))), (q8, .inr (4, [.ref cO_12, .ref sH_13, .int 0])), (cO_12, .inl (cI, 6, .inl (fun _ => 0))), (sH_13, .inl (cI, 6, .inl (fun _ => 0)))]) H := hP
  have hD : va_D A ([(nw, .inr (10, [.ref q1, .ref q8, .null, .null, .null, .null, .null, .null, .int 0, .int 0, .int 0, .int 0, .int 0])), (q1, .inr (3, [.ref mU_5, .ref bF_6, .ref bT_7, .int 0])), (mU_5, .inl (cI, 300, .inl (fun _ => 0))), (bF_6, .inl (cI, 4, .inl (fun _ => 0))), (bT_7, .inl (cI, 4, .inl (fun _ => 0))), (q8, .inr (4, [.ref cO_12, .ref sH_13, .int 0])), (cO_12, .inl (cI, 6, .inl (fun _ => 0))), (sH_13, .inl (cI, 6, .inl (fun _ => 0)))]) := hD
  refine lv_aload_n hx hb dX10_init_26 rfl (lv_at hl 0 rfl) ?_
  refine z_new Z (ci := 1) (fs := [.null, .int 0, .int 0, .int 0, .int 0, .int 0, .int 0]) i_X1 tyX1 tyX1_ok bw_175 bw_176 bw_86 hP hD hS rfl rfl (Nat.le_of_ble_eq_true rfl) (Nat.le_of_ble_eq_true rfl) dX10_init_27 (fun q14 H hP hD hS => ?_)
  have hP : va_P D vwCl ([(nw, .inr (10, [.ref q1, .ref q8, .null, .null, .null, .null, .null, .null, .int 0, .int 0, .int 0, .int 0, .int 0])), (q1, .inr (3, [.ref mU_5, .ref bF_6, .ref bT_7, .int 0])), (mU_5, .inl (cI, 300, .inl (fun _ => 0))), (bF_6, .inl (cI, 4, .inl (fun _ => 0))), (bT_7, .inl (cI, 4, .inl (fun _ => 0))), (q8, .inr (4, [.ref cO_12, .ref sH_13, .int 0])), (cO_12, .inl (cI, 6, .inl (fun _ => 0))), (sH_13, .inl (cI, 6, .inl (fun _ => 0))), (q14, .inr (1, [.null, .int 0, .int 0, .int 0, .int 0, .int 0, .int 0]))]) H := hP
  have hD : va_D A ([(nw, .inr (10, [.ref q1, .ref q8, .null, .null, .null, .null, .null, .null, .int 0, .int 0, .int 0, .int 0, .int 0])), (q1, .inr (3, [.ref mU_5, .ref bF_6, .ref bT_7, .int 0])), (mU_5, .inl (cI, 300, .inl (fun _ => 0))), (bF_6, .inl (cI, 4, .inl (fun _ => 0))), (bT_7, .inl (cI, 4, .inl (fun _ => 0))), (q8, .inr (4, [.ref cO_12, .ref sH_13, .int 0])), (cO_12, .inl (cI, 6, .inl (fun _ => 0))), (sH_13, .inl (cI, 6, .inl (fun _ => 0))), (q14, .inr (1, [.null, .int 0, .int 0, .int 0, .int 0, .int 0, .int 0]))]) := hD
  refine lv_dup hx hb dX10_init_30 rfl ?_
  have hPc := hP.sub2 (wc := [(q14, .inr (1, [.null, .int 0, .int 0, .int 0, .int 0, .int 0, .int 0]))]) [8] rfl
  have hDc := hD.sub (ws' := [(q14, .inr (1, [.null, .int 0, .int 0, .int 0, .int 0, .int 0, .int 0]))]) [8] (by decide) rfl
  refine raw_IN (nA := 0) (As := []) (rest := [.ref q14, .ref nw]) Z hl.1 (c_X1_init l D cI cM cT cJ cZ q14) (List.mem_of_getElem? (i := 4) rfl) bw_178 bw_86 bw_179 rfl ⟨by decide +kernel, by decide +kernel, by decide +kernel⟩ rfl ⟨Nat.le_of_ble_eq_true rfl, Nat.le_of_ble_eq_true rfl⟩ hPc hDc hS rfl (Nat.le_of_ble_eq_true rfl) dX10_init_31 ⟨Nat.le_of_ble_eq_true rfl, Nat.le_of_ble_eq_true rfl⟩ (fun u15 H1 locs1 h17 hku15 hP1 hD1 hS1 => ?_)
  obtain ⟨iA_18, rfl⟩ := h17
  obtain ⟨hP, hD⟩ := z_join (wr := [(nw, .inr (10, [.ref q1, .ref q8, .null, .null, .null, .null, .null, .null, .int 0, .int 0, .int 0, .int 0, .int 0])), (q1, .inr (3, [.ref mU_5, .ref bF_6, .ref bT_7, .int 0])), (mU_5, .inl (cI, 300, .inl (fun _ => 0))), (bF_6, .inl (cI, 4, .inl (fun _ => 0))), (bT_7, .inl (cI, 4, .inl (fun _ => 0))), (q8, .inr (4, [.ref cO_12, .ref sH_13, .int 0])), (cO_12, .inl (cI, 6, .inl (fun _ => 0))), (sH_13, .inl (cI, 6, .inl (fun _ => 0)))]) Z hS hP hD [8] [0, 1, 2, 3, 4, 5, 6, 7] rfl (by decide +kernel) rfl (by decide +kernel) (by decide +kernel) hku15 hP1 hD1
  have hS := hS1
  clear hS1
  generalize H1 = H at hP hS ⊢
  generalize locs1 = locs at hS ⊢
  have hP : va_P D vwCl ([(nw, .inr (10, [.ref q1, .ref q8, .null, .null, .null, .null, .null, .null, .int 0, .int 0, .int 0, .int 0, .int 0])), (q1, .inr (3, [.ref mU_5, .ref bF_6, .ref bT_7, .int 0])), (mU_5, .inl (cI, 300, .inl (fun _ => 0))), (bF_6, .inl (cI, 4, .inl (fun _ => 0))), (bT_7, .inl (cI, 4, .inl (fun _ => 0))), (q8, .inr (4, [.ref cO_12, .ref sH_13, .int 0])), (cO_12, .inl (cI, 6, .inl (fun _ => 0))), (sH_13, .inl (cI, 6, .inl (fun _ => 0))), (q14, .inr (1, [.ref iA_18, .int 0, .int 0, .int 0, .int 0, .int 0, .int 13])), (iA_18, .inl (cI, 10, .inl (fun _ => 0)))]) H := hP
  have hD : va_D A ([(nw, .inr (10, [.ref q1, .ref q8, .null, .null, .null, .null, .null, .null, .int 0, .int 0, .int 0, .int 0, .int 0])), (q1, .inr (3, [.ref mU_5, .ref bF_6, .ref bT_7, .int 0])), (mU_5, .inl (cI, 300, .inl (fun _ => 0))), (bF_6, .inl (cI, 4, .inl (fun _ => 0))), (bT_7, .inl (cI, 4, .inl (fun _ => 0))), (q8, .inr (4, [.ref cO_12, .ref sH_13, .int 0])), (cO_12, .inl (cI, 6, .inl (fun _ => 0))), (sH_13, .inl (cI, 6, .inl (fun _ => 0))), (q14, .inr (1, [.ref iA_18, .int 0, .int 0, .int 0, .int 0, .int 0, .int 13])), (iA_18, .inl (cI, 10, .inl (fun _ => 0)))]) := hD
  refine z_putF Z i_X10 tyX10 tyX10_ok nmX10 hP hD hS 0 rfl rfl 2 (by decide) bw_238 rfl hin rfl rfl rfl (Nat.le_of_ble_eq_true rfl) dX10_init_34 (fun H locs hP hD hS => ?_)
  have hP : va_P D vwCl ([(nw, .inr (10, [.ref q1, .ref q8, .ref q14, .null, .null, .null, .null, .null, .int 0, .int 0, .int 0, .int 0, .int 0])), (q1, .inr (3, [.ref mU_5, .ref bF_6, .ref bT_7, .int 0])), (mU_5, .inl (cI, 300, .inl (fun _ => 0))), (bF_6, .inl (cI, 4, .inl (fun _ => 0))), (bT_7, .inl (cI, 4, .inl (fun _ => 0))), (q8, .inr (4, [.ref cO_12, .ref sH_13, .int 0])), (cO_12, .inl (cI, 6, .inl (fun _ => 0))), (sH_13, .inl (cI, 6, .inl (fun _ => 0))), (q14, .inr (1, [.ref iA_18, .int 0, .int 0, .int 0, .int 0, .int 0, .int 13])), (iA_18, .inl (cI, 10, .inl (fun _ => 0)))]) H := hP
  have hD : va_D A ([(nw, .inr (10, [.ref q1, .ref q8, .ref q14, .null, .null, .null, .null, .null, .int 0, .int 0, .int 0, .int 0, .int 0])), (q1, .inr (3, [.ref mU_5, .ref bF_6, .ref bT_7, .int 0])), (mU_5, .inl (cI, 300, .inl (fun _ => 0))), (bF_6, .inl (cI, 4, .inl (fun _ => 0))), (bT_7, .inl (cI, 4, .inl (fun _ => 0))), (q8, .inr (4, [.ref cO_12, .ref sH_13, .int 0])), (cO_12, .inl (cI, 6, .inl (fun _ => 0))), (sH_13, .inl (cI, 6, .inl (fun _ => 0))), (q14, .inr (1, [.ref iA_18, .int 0, .int 0, .int 0, .int 0, .int 0, .int 13])), (iA_18, .inl (cI, 10, .inl (fun _ => 0)))]) := hD
  refine lv_aload_n hx hb dX10_init_37 rfl (lv_at hl 0 rfl) ?_
  refine z_new Z (ci := 5) (fs := [.null, .int 0, .int 0]) i_X5 tyX5 tyX5_ok bw_211 bw_212 bw_87 hP hD hS rfl rfl (Nat.le_of_ble_eq_true rfl) (Nat.le_of_ble_eq_true rfl) dX10_init_38 (fun q19 H hP hD hS => ?_)
  have hP : va_P D vwCl ([(nw, .inr (10, [.ref q1, .ref q8, .ref q14, .null, .null, .null, .null, .null, .int 0, .int 0, .int 0, .int 0, .int 0])), (q1, .inr (3, [.ref mU_5, .ref bF_6, .ref bT_7, .int 0])), (mU_5, .inl (cI, 300, .inl (fun _ => 0))), (bF_6, .inl (cI, 4, .inl (fun _ => 0))), (bT_7, .inl (cI, 4, .inl (fun _ => 0))), (q8, .inr (4, [.ref cO_12, .ref sH_13, .int 0])), (cO_12, .inl (cI, 6, .inl (fun _ => 0))), (sH_13, .inl (cI, 6, .inl (fun _ => 0))), (q14, .inr (1, [.ref iA_18, .int 0, .int 0, .int 0, .int 0, .int 0, .int 13])), (iA_18, .inl (cI, 10, .inl (fun _ => 0))), (q19, .inr (5, [.null, .int 0, .int 0]))]) H := hP
  have hD : va_D A ([(nw, .inr (10, [.ref q1, .ref q8, .ref q14, .null, .null, .null, .null, .null, .int 0, .int 0, .int 0, .int 0, .int 0])), (q1, .inr (3, [.ref mU_5, .ref bF_6, .ref bT_7, .int 0])), (mU_5, .inl (cI, 300, .inl (fun _ => 0))), (bF_6, .inl (cI, 4, .inl (fun _ => 0))), (bT_7, .inl (cI, 4, .inl (fun _ => 0))), (q8, .inr (4, [.ref cO_12, .ref sH_13, .int 0])), (cO_12, .inl (cI, 6, .inl (fun _ => 0))), (sH_13, .inl (cI, 6, .inl (fun _ => 0))), (q14, .inr (1, [.ref iA_18, .int 0, .int 0, .int 0, .int 0, .int 0, .int 13])), (iA_18, .inl (cI, 10, .inl (fun _ => 0))), (q19, .inr (5, [.null, .int 0, .int 0]))]) := hD
  refine lv_dup hx hb dX10_init_41 rfl ?_
  have hPc := hP.sub2 (wc := [(q19, .inr (5, [.null, .int 0, .int 0]))]) [10] rfl
  have hDc := hD.sub (ws' := [(q19, .inr (5, [.null, .int 0, .int 0]))]) [10] (by decide) rfl
  refine raw_I (nA := 0) (As := []) (rest := [.ref q19, .ref nw]) Z hl.1 (c_X5_init l D cI cM cT cJ cZ q19) bw_213 bw_214 bw_87 bw_215 rfl ⟨by decide +kernel, by decide +kernel, by decide +kernel⟩ rfl ⟨Nat.le_of_ble_eq_true rfl, Nat.le_of_ble_eq_true rfl⟩ hPc hDc hS rfl (Nat.le_of_ble_eq_true rfl) dX10_init_42 ⟨Nat.le_of_ble_eq_true rfl, Nat.le_of_ble_eq_true rfl⟩ (fun u20 H1 locs1 h22 hku20 hP1 hD1 hS1 => ?_)
  obtain ⟨rG_23, f_24, PL_25, rfl, huh22_0⟩ := h22
  obtain ⟨hP, hD⟩ := z_join (wr := [(nw, .inr (10, [.ref q1, .ref q8, .ref q14, .null, .null, .null, .null, .null, .int 0, .int 0, .int 0, .int 0, .int 0])), (q1, .inr (3, [.ref mU_5, .ref bF_6, .ref bT_7, .int 0])), (mU_5, .inl (cI, 300, .inl (fun _ => 0))), (bF_6, .inl (cI, 4, .inl (fun _ => 0))), (bT_7, .inl (cI, 4, .inl (fun _ => 0))), (q8, .inr (4, [.ref cO_12, .ref sH_13, .int 0])), (cO_12, .inl (cI, 6, .inl (fun _ => 0))), (sH_13, .inl (cI, 6, .inl (fun _ => 0))), (q14, .inr (1, [.ref iA_18, .int 0, .int 0, .int 0, .int 0, .int 0, .int 13])), (iA_18, .inl (cI, 10, .inl (fun _ => 0)))]) Z hS hP hD [10] [0, 1, 2, 3, 4, 5, 6, 7, 8, 9] rfl (by decide +kernel) rfl (by decide +kernel) (by decide +kernel) hku20 hP1 hD1
  have hS := hS1
  clear hS1
  generalize H1 = H at hP hS ⊢
  generalize locs1 = locs at hS ⊢
  have hP : va_P D vwCl ([(nw, .inr (10, [.ref q1, .ref q8, .ref q14, .null, .null, .null, .null, .null, .int 0, .int 0, .int 0, .int 0, .int 0])), (q1, .inr (3, [.ref mU_5, .ref bF_6, .ref bT_7, .int 0])), (mU_5, .inl (cI, 300, .inl (fun _ => 0))), (bF_6, .inl (cI, 4, .inl (fun _ => 0))), (bT_7, .inl (cI, 4, .inl (fun _ => 0))), (q8, .inr (4, [.ref cO_12, .ref sH_13, .int 0])), (cO_12, .inl (cI, 6, .inl (fun _ => 0))), (sH_13, .inl (cI, 6, .inl (fun _ => 0))), (q14, .inr (1, [.ref iA_18, .int 0, .int 0, .int 0, .int 0, .int 0, .int 13])), (iA_18, .inl (cI, 10, .inl (fun _ => 0))), (q19, .inr (5, [.ref rG_23, .int 0, .int 0])), (rG_23, .inl (cM, 30, .inr (.inr (.inr (.inr f_24)))))] ++ PL_25) H := hP
  have hD : va_D A ([(nw, .inr (10, [.ref q1, .ref q8, .ref q14, .null, .null, .null, .null, .null, .int 0, .int 0, .int 0, .int 0, .int 0])), (q1, .inr (3, [.ref mU_5, .ref bF_6, .ref bT_7, .int 0])), (mU_5, .inl (cI, 300, .inl (fun _ => 0))), (bF_6, .inl (cI, 4, .inl (fun _ => 0))), (bT_7, .inl (cI, 4, .inl (fun _ => 0))), (q8, .inr (4, [.ref cO_12, .ref sH_13, .int 0])), (cO_12, .inl (cI, 6, .inl (fun _ => 0))), (sH_13, .inl (cI, 6, .inl (fun _ => 0))), (q14, .inr (1, [.ref iA_18, .int 0, .int 0, .int 0, .int 0, .int 0, .int 13])), (iA_18, .inl (cI, 10, .inl (fun _ => 0))), (q19, .inr (5, [.ref rG_23, .int 0, .int 0])), (rG_23, .inl (cM, 30, .inr (.inr (.inr (.inr f_24)))))] ++ PL_25) := hD
  refine z_putF Z i_X10 tyX10 tyX10_ok nmX10 hP hD hS 0 rfl rfl 3 (by decide) bw_241 rfl hin rfl rfl rfl (Nat.le_of_ble_eq_true rfl) dX10_init_45 (fun H locs hP hD hS => ?_)
  have hP : va_P D vwCl ([(nw, .inr (10, [.ref q1, .ref q8, .ref q14, .ref q19, .null, .null, .null, .null, .int 0, .int 0, .int 0, .int 0, .int 0])), (q1, .inr (3, [.ref mU_5, .ref bF_6, .ref bT_7, .int 0])), (mU_5, .inl (cI, 300, .inl (fun _ => 0))), (bF_6, .inl (cI, 4, .inl (fun _ => 0))), (bT_7, .inl (cI, 4, .inl (fun _ => 0))), (q8, .inr (4, [.ref cO_12, .ref sH_13, .int 0])), (cO_12, .inl (cI, 6, .inl (fun _ => 0))), (sH_13, .inl (cI, 6, .inl (fun _ => 0))), (q14, .inr (1, [.ref iA_18, .int 0, .int 0, .int 0, .int 0, .int 0, .int 13])), (iA_18, .inl (cI, 10, .inl (fun _ => 0))), (q19, .inr (5, [.ref rG_23, .int 0, .int 0])), (rG_23, .inl (cM, 30, .inr (.inr (.inr (.inr f_24)))))] ++ PL_25) H := hP
  have hD : va_D A ([(nw, .inr (10, [.ref q1, .ref q8, .ref q14, .ref q19, .null, .null, .null, .null, .int 0, .int 0, .int 0, .int 0, .int 0])), (q1, .inr (3, [.ref mU_5, .ref bF_6, .ref bT_7, .int 0])), (mU_5, .inl (cI, 300, .inl (fun _ => 0))), (bF_6, .inl (cI, 4, .inl (fun _ => 0))), (bT_7, .inl (cI, 4, .inl (fun _ => 0))), (q8, .inr (4, [.ref cO_12, .ref sH_13, .int 0])), (cO_12, .inl (cI, 6, .inl (fun _ => 0))), (sH_13, .inl (cI, 6, .inl (fun _ => 0))), (q14, .inr (1, [.ref iA_18, .int 0, .int 0, .int 0, .int 0, .int 0, .int 13])), (iA_18, .inl (cI, 10, .inl (fun _ => 0))), (q19, .inr (5, [.ref rG_23, .int 0, .int 0])), (rG_23, .inl (cM, 30, .inr (.inr (.inr (.inr f_24)))))] ++ PL_25) := hD
  refine lv_aload_n hx hb dX10_init_48 rfl (lv_at hl 0 rfl) ?_
  refine lv_bipush (v := 6) hx hb dX10_init_49 (by decide) ?_
  refine z_newi (N := 6) Z bw_152 hP hD hS 0 rfl (by decide) (by decide) (by decide) (Nat.le_of_ble_eq_true rfl) (Nat.le_of_ble_eq_true rfl) dX10_init_51 (fun q26 H hP hD hS => ?_)
  have hP := hP.swap
  have hD := hD.swap
  have hP : va_P D vwCl ([(nw, .inr (10, [.ref q1, .ref q8, .ref q14, .ref q19, .null, .null, .null, .null, .int 0, .int 0, .int 0, .int 0, .int 0])), (q1, .inr (3, [.ref mU_5, .ref bF_6, .ref bT_7, .int 0])), (mU_5, .inl (cI, 300, .inl (fun _ => 0))), (bF_6, .inl (cI, 4, .inl (fun _ => 0))), (bT_7, .inl (cI, 4, .inl (fun _ => 0))), (q8, .inr (4, [.ref cO_12, .ref sH_13, .int 0])), (cO_12, .inl (cI, 6, .inl (fun _ => 0))), (sH_13, .inl (cI, 6, .inl (fun _ => 0))), (q14, .inr (1, [.ref iA_18, .int 0, .int 0, .int 0, .int 0, .int 0, .int 13])), (iA_18, .inl (cI, 10, .inl (fun _ => 0))), (q19, .inr (5, [.ref rG_23, .int 0, .int 0])), (rG_23, .inl (cM, 30, .inr (.inr (.inr (.inr f_24))))), (q26, .inl (cI, 6, .inl (fun _ => 0)))] ++ PL_25) H := hP
  have hD : va_D A ([(nw, .inr (10, [.ref q1, .ref q8, .ref q14, .ref q19, .null, .null, .null, .null, .int 0, .int 0, .int 0, .int 0, .int 0])), (q1, .inr (3, [.ref mU_5, .ref bF_6, .ref bT_7, .int 0])), (mU_5, .inl (cI, 300, .inl (fun _ => 0))), (bF_6, .inl (cI, 4, .inl (fun _ => 0))), (bT_7, .inl (cI, 4, .inl (fun _ => 0))), (q8, .inr (4, [.ref cO_12, .ref sH_13, .int 0])), (cO_12, .inl (cI, 6, .inl (fun _ => 0))), (sH_13, .inl (cI, 6, .inl (fun _ => 0))), (q14, .inr (1, [.ref iA_18, .int 0, .int 0, .int 0, .int 0, .int 0, .int 13])), (iA_18, .inl (cI, 10, .inl (fun _ => 0))), (q19, .inr (5, [.ref rG_23, .int 0, .int 0])), (rG_23, .inl (cM, 30, .inr (.inr (.inr (.inr f_24))))), (q26, .inl (cI, 6, .inl (fun _ => 0)))] ++ PL_25) := hD
  refine z_putF Z i_X10 tyX10 tyX10_ok nmX10 hP hD hS 0 rfl rfl 4 (by decide) bw_243 rfl hin rfl rfl rfl (Nat.le_of_ble_eq_true rfl) dX10_init_53 (fun H locs hP hD hS => ?_)
  have hP : va_P D vwCl ([(nw, .inr (10, [.ref q1, .ref q8, .ref q14, .ref q19, .ref q26, .null, .null, .null, .int 0, .int 0, .int 0, .int 0, .int 0])), (q1, .inr (3, [.ref mU_5, .ref bF_6, .ref bT_7, .int 0])), (mU_5, .inl (cI, 300, .inl (fun _ => 0))), (bF_6, .inl (cI, 4, .inl (fun _ => 0))), (bT_7, .inl (cI, 4, .inl (fun _ => 0))), (q8, .inr (4, [.ref cO_12, .ref sH_13, .int 0])), (cO_12, .inl (cI, 6, .inl (fun _ => 0))), (sH_13, .inl (cI, 6, .inl (fun _ => 0))), (q14, .inr (1, [.ref iA_18, .int 0, .int 0, .int 0, .int 0, .int 0, .int 13])), (iA_18, .inl (cI, 10, .inl (fun _ => 0))), (q19, .inr (5, [.ref rG_23, .int 0, .int 0])), (rG_23, .inl (cM, 30, .inr (.inr (.inr (.inr f_24))))), (q26, .inl (cI, 6, .inl (fun _ => 0)))] ++ PL_25) H := hP
  have hD : va_D A ([(nw, .inr (10, [.ref q1, .ref q8, .ref q14, .ref q19, .ref q26, .null, .null, .null, .int 0, .int 0, .int 0, .int 0, .int 0])), (q1, .inr (3, [.ref mU_5, .ref bF_6, .ref bT_7, .int 0])), (mU_5, .inl (cI, 300, .inl (fun _ => 0))), (bF_6, .inl (cI, 4, .inl (fun _ => 0))), (bT_7, .inl (cI, 4, .inl (fun _ => 0))), (q8, .inr (4, [.ref cO_12, .ref sH_13, .int 0])), (cO_12, .inl (cI, 6, .inl (fun _ => 0))), (sH_13, .inl (cI, 6, .inl (fun _ => 0))), (q14, .inr (1, [.ref iA_18, .int 0, .int 0, .int 0, .int 0, .int 0, .int 13])), (iA_18, .inl (cI, 10, .inl (fun _ => 0))), (q19, .inr (5, [.ref rG_23, .int 0, .int 0])), (rG_23, .inl (cM, 30, .inr (.inr (.inr (.inr f_24))))), (q26, .inl (cI, 6, .inl (fun _ => 0)))] ++ PL_25) := hD
  refine lv_aload_n hx hb dX10_init_56 rfl (lv_at hl 0 rfl) ?_
  refine lv_bipush (v := 10) hx hb dX10_init_57 (by decide) ?_
  refine z_newi (N := 10) Z bw_152 hP hD hS 0 rfl (by decide) (by decide) (by decide) (Nat.le_of_ble_eq_true rfl) (Nat.le_of_ble_eq_true rfl) dX10_init_59 (fun q27 H hP hD hS => ?_)
  have hP := hP.swap
  have hD := hD.swap
  have hP : va_P D vwCl ([(nw, .inr (10, [.ref q1, .ref q8, .ref q14, .ref q19, .ref q26, .null, .null, .null, .int 0, .int 0, .int 0, .int 0, .int 0])), (q1, .inr (3, [.ref mU_5, .ref bF_6, .ref bT_7, .int 0])), (mU_5, .inl (cI, 300, .inl (fun _ => 0))), (bF_6, .inl (cI, 4, .inl (fun _ => 0))), (bT_7, .inl (cI, 4, .inl (fun _ => 0))), (q8, .inr (4, [.ref cO_12, .ref sH_13, .int 0])), (cO_12, .inl (cI, 6, .inl (fun _ => 0))), (sH_13, .inl (cI, 6, .inl (fun _ => 0))), (q14, .inr (1, [.ref iA_18, .int 0, .int 0, .int 0, .int 0, .int 0, .int 13])), (iA_18, .inl (cI, 10, .inl (fun _ => 0))), (q19, .inr (5, [.ref rG_23, .int 0, .int 0])), (rG_23, .inl (cM, 30, .inr (.inr (.inr (.inr f_24))))), (q26, .inl (cI, 6, .inl (fun _ => 0))), (q27, .inl (cI, 10, .inl (fun _ => 0)))] ++ PL_25) H := hP
  have hD : va_D A ([(nw, .inr (10, [.ref q1, .ref q8, .ref q14, .ref q19, .ref q26, .null, .null, .null, .int 0, .int 0, .int 0, .int 0, .int 0])), (q1, .inr (3, [.ref mU_5, .ref bF_6, .ref bT_7, .int 0])), (mU_5, .inl (cI, 300, .inl (fun _ => 0))), (bF_6, .inl (cI, 4, .inl (fun _ => 0))), (bT_7, .inl (cI, 4, .inl (fun _ => 0))), (q8, .inr (4, [.ref cO_12, .ref sH_13, .int 0])), (cO_12, .inl (cI, 6, .inl (fun _ => 0))), (sH_13, .inl (cI, 6, .inl (fun _ => 0))), (q14, .inr (1, [.ref iA_18, .int 0, .int 0, .int 0, .int 0, .int 0, .int 13])), (iA_18, .inl (cI, 10, .inl (fun _ => 0))), (q19, .inr (5, [.ref rG_23, .int 0, .int 0])), (rG_23, .inl (cM, 30, .inr (.inr (.inr (.inr f_24))))), (q26, .inl (cI, 6, .inl (fun _ => 0))), (q27, .inl (cI, 10, .inl (fun _ => 0)))] ++ PL_25) := hD
  refine z_putF Z i_X10 tyX10 tyX10_ok nmX10 hP hD hS 0 rfl rfl 5 (by decide) bw_245 rfl hin rfl rfl rfl (Nat.le_of_ble_eq_true rfl) dX10_init_61 (fun H locs hP hD hS => ?_)
  have hP : va_P D vwCl ([(nw, .inr (10, [.ref q1, .ref q8, .ref q14, .ref q19, .ref q26, .ref q27, .null, .null, .int 0, .int 0, .int 0, .int 0, .int 0])), (q1, .inr (3, [.ref mU_5, .ref bF_6, .ref bT_7, .int 0])), (mU_5, .inl (cI, 300, .inl (fun _ => 0))), (bF_6, .inl (cI, 4, .inl (fun _ => 0))), (bT_7, .inl (cI, 4, .inl (fun _ => 0))), (q8, .inr (4, [.ref cO_12, .ref sH_13, .int 0])), (cO_12, .inl (cI, 6, .inl (fun _ => 0))), (sH_13, .inl (cI, 6, .inl (fun _ => 0))), (q14, .inr (1, [.ref iA_18, .int 0, .int 0, .int 0, .int 0, .int 0, .int 13])), (iA_18, .inl (cI, 10, .inl (fun _ => 0))), (q19, .inr (5, [.ref rG_23, .int 0, .int 0])), (rG_23, .inl (cM, 30, .inr (.inr (.inr (.inr f_24))))), (q26, .inl (cI, 6, .inl (fun _ => 0))), (q27, .inl (cI, 10, .inl (fun _ => 0)))] ++ PL_25) H := hP
  have hD : va_D A ([(nw, .inr (10, [.ref q1, .ref q8, .ref q14, .ref q19, .ref q26, .ref q27, .null, .null, .int 0, .int 0, .int 0, .int 0, .int 0])), (q1, .inr (3, [.ref mU_5, .ref bF_6, .ref bT_7, .int 0])), (mU_5, .inl (cI, 300, .inl (fun _ => 0))), (bF_6, .inl (cI, 4, .inl (fun _ => 0))), (bT_7, .inl (cI, 4, .inl (fun _ => 0))), (q8, .inr (4, [.ref cO_12, .ref sH_13, .int 0])), (cO_12, .inl (cI, 6, .inl (fun _ => 0))), (sH_13, .inl (cI, 6, .inl (fun _ => 0))), (q14, .inr (1, [.ref iA_18, .int 0, .int 0, .int 0, .int 0, .int 0, .int 13])), (iA_18, .inl (cI, 10, .inl (fun _ => 0))), (q19, .inr (5, [.ref rG_23, .int 0, .int 0])), (rG_23, .inl (cM, 30, .inr (.inr (.inr (.inr f_24))))), (q26, .inl (cI, 6, .inl (fun _ => 0))), (q27, .inl (cI, 10, .inl (fun _ => 0)))] ++ PL_25) := hD
  refine lv_aload_n hx hb dX10_init_64 rfl (lv_at hl 0 rfl) ?_
  refine lv_bipush (v := 10) hx hb dX10_init_65 (by decide) ?_
  refine z_newi (N := 10) Z bw_152 hP hD hS 0 rfl (by decide) (by decide) (by decide) (Nat.le_of_ble_eq_true rfl) (Nat.le_of_ble_eq_true rfl) dX10_init_67 (fun q28 H hP hD hS => ?_)
  have hP := hP.swap
  have hD := hD.swap
  have hP : va_P D vwCl ([(nw, .inr (10, [.ref q1, .ref q8, .ref q14, .ref q19, .ref q26, .ref q27, .null, .null, .int 0, .int 0, .int 0, .int 0, .int 0])), (q1, .inr (3, [.ref mU_5, .ref bF_6, .ref bT_7, .int 0])), (mU_5, .inl (cI, 300, .inl (fun _ => 0))), (bF_6, .inl (cI, 4, .inl (fun _ => 0))), (bT_7, .inl (cI, 4, .inl (fun _ => 0))), (q8, .inr (4, [.ref cO_12, .ref sH_13, .int 0])), (cO_12, .inl (cI, 6, .inl (fun _ => 0))), (sH_13, .inl (cI, 6, .inl (fun _ => 0))), (q14, .inr (1, [.ref iA_18, .int 0, .int 0, .int 0, .int 0, .int 0, .int 13])), (iA_18, .inl (cI, 10, .inl (fun _ => 0))), (q19, .inr (5, [.ref rG_23, .int 0, .int 0])), (rG_23, .inl (cM, 30, .inr (.inr (.inr (.inr f_24))))), (q26, .inl (cI, 6, .inl (fun _ => 0))), (q27, .inl (cI, 10, .inl (fun _ => 0))), (q28, .inl (cI, 10, .inl (fun _ => 0)))] ++ PL_25) H := hP
  have hD : va_D A ([(nw, .inr (10, [.ref q1, .ref q8, .ref q14, .ref q19, .ref q26, .ref q27, .null, .null, .int 0, .int 0, .int 0, .int 0, .int 0])), (q1, .inr (3, [.ref mU_5, .ref bF_6, .ref bT_7, .int 0])), (mU_5, .inl (cI, 300, .inl (fun _ => 0))), (bF_6, .inl (cI, 4, .inl (fun _ => 0))), (bT_7, .inl (cI, 4, .inl (fun _ => 0))), (q8, .inr (4, [.ref cO_12, .ref sH_13, .int 0])), (cO_12, .inl (cI, 6, .inl (fun _ => 0))), (sH_13, .inl (cI, 6, .inl (fun _ => 0))), (q14, .inr (1, [.ref iA_18, .int 0, .int 0, .int 0, .int 0, .int 0, .int 13])), (iA_18, .inl (cI, 10, .inl (fun _ => 0))), (q19, .inr (5, [.ref rG_23, .int 0, .int 0])), (rG_23, .inl (cM, 30, .inr (.inr (.inr (.inr f_24))))), (q26, .inl (cI, 6, .inl (fun _ => 0))), (q27, .inl (cI, 10, .inl (fun _ => 0))), (q28, .inl (cI, 10, .inl (fun _ => 0)))] ++ PL_25) := hD
  refine z_putF Z i_X10 tyX10 tyX10_ok nmX10 hP hD hS 0 rfl rfl 6 (by decide) bw_247 rfl hin rfl rfl rfl (Nat.le_of_ble_eq_true rfl) dX10_init_69 (fun H locs hP hD hS => ?_)
  have hP : va_P D vwCl ([(nw, .inr (10, [.ref q1, .ref q8, .ref q14, .ref q19, .ref q26, .ref q27, .ref q28, .null, .int 0, .int 0, .int 0, .int 0, .int 0])), (q1, .inr (3, [.ref mU_5, .ref bF_6, .ref bT_7, .int 0])), (mU_5, .inl (cI, 300, .inl (fun _ => 0))), (bF_6, .inl (cI, 4, .inl (fun _ => 0))), (bT_7, .inl (cI, 4, .inl (fun _ => 0))), (q8, .inr (4, [.ref cO_12, .ref sH_13, .int 0])), (cO_12, .inl (cI, 6, .inl (fun _ => 0))), (sH_13, .inl (cI, 6, .inl (fun _ => 0))), (q14, .inr (1, [.ref iA_18, .int 0, .int 0, .int 0, .int 0, .int 0, .int 13])), (iA_18, .inl (cI, 10, .inl (fun _ => 0))), (q19, .inr (5, [.ref rG_23, .int 0, .int 0])), (rG_23, .inl (cM, 30, .inr (.inr (.inr (.inr f_24))))), (q26, .inl (cI, 6, .inl (fun _ => 0))), (q27, .inl (cI, 10, .inl (fun _ => 0))), (q28, .inl (cI, 10, .inl (fun _ => 0)))] ++ PL_25) H := hP
  have hD : va_D A ([(nw, .inr (10, [.ref q1, .ref q8, .ref q14, .ref q19, .ref q26, .ref q27, .ref q28, .null, .int 0, .int 0, .int 0, .int 0, .int 0])), (q1, .inr (3, [.ref mU_5, .ref bF_6, .ref bT_7, .int 0])), (mU_5, .inl (cI, 300, .inl (fun _ => 0))), (bF_6, .inl (cI, 4, .inl (fun _ => 0))), (bT_7, .inl (cI, 4, .inl (fun _ => 0))), (q8, .inr (4, [.ref cO_12, .ref sH_13, .int 0])), (cO_12, .inl (cI, 6, .inl (fun _ => 0))), (sH_13, .inl (cI, 6, .inl (fun _ => 0))), (q14, .inr (1, [.ref iA_18, .int 0, .int 0, .int 0, .int 0, .int 0, .int 13])), (iA_18, .inl (cI, 10, .inl (fun _ => 0))), (q19, .inr (5, [.ref rG_23, .int 0, .int 0])), (rG_23, .inl (cM, 30, .inr (.inr (.inr (.inr f_24))))), (q26, .inl (cI, 6, .inl (fun _ => 0))), (q27, .inl (cI, 10, .inl (fun _ => 0))), (q28, .inl (cI, 10, .inl (fun _ => 0)))] ++ PL_25) := hD
  refine lv_aload_n hx hb dX10_init_72 rfl (lv_at hl 0 rfl) ?_
  refine lv_bipush (v := 10) hx hb dX10_init_73 (by decide) ?_
  refine z_newi (N := 10) Z bw_152 hP hD hS 0 rfl (by decide) (by decide) (by decide) (Nat.le_of_ble_eq_true rfl) (Nat.le_of_ble_eq_true rfl) dX10_init_75 (fun q29 H hP hD hS => ?_)
  have hP := hP.swap
  have hD := hD.swap
  have hP : va_P D vwCl ([(nw, .inr (10, [.ref q1, .ref q8, .ref q14, .ref q19, .ref q26, .ref q27, .ref q28, .null, .int 0, .int 0, .int 0, .int 0, .int 0])), (q1, .inr (3, [.ref mU_5, .ref bF_6, .ref bT_7, .int 0])), (mU_5, .inl (cI, 300, .inl (fun _ => 0))), (bF_6, .inl (cI, 4, .inl (fun _ => 0))), (bT_7, .inl (cI, 4, .inl (fun _ => 0))), (q8, .inr (4, [.ref cO_12, .ref sH_13, .int 0])), (cO_12, .inl (cI, 6, .inl (fun _ => 0))), (sH_13, .inl (cI, 6, .inl (fun _ => 0))), (q14, .inr (1, [.ref iA_18, .int 0, .int 0, .int 0, .int 0, .int 0, .int 13])), (iA_18, .inl (cI, 10, .inl (fun _ => 0))), (q19, .inr (5, [.ref rG_23, .int 0, .int 0])), (rG_23, .inl (cM, 30, .inr (.inr (.inr (.inr f_24))))), (q26, .inl (cI, 6, .inl (fun _ => 0))), (q27, .inl (cI, 10, .inl (fun _ => 0))), (q28, .inl (cI, 10, .inl (fun _ => 0))), (q29, .inl (cI, 10, .inl (fun _ => 0)))] ++ PL_25) H := hP
  have hD : va_D A ([(nw, .inr (10, [.ref q1, .ref q8, .ref q14, .ref q19, .ref q26, .ref q27, .ref q28, .null, .int 0, .int 0, .int 0, .int 0, .int 0])), (q1, .inr (3, [.ref mU_5, .ref bF_6, .ref bT_7, .int 0])), (mU_5, .inl (cI, 300, .inl (fun _ => 0))), (bF_6, .inl (cI, 4, .inl (fun _ => 0))), (bT_7, .inl (cI, 4, .inl (fun _ => 0))), (q8, .inr (4, [.ref cO_12, .ref sH_13, .int 0])), (cO_12, .inl (cI, 6, .inl (fun _ => 0))), (sH_13, .inl (cI, 6, .inl (fun _ => 0))), (q14, .inr (1, [.ref iA_18, .int 0, .int 0, .int 0, .int 0, .int 0, .int 13])), (iA_18, .inl (cI, 10, .inl (fun _ => 0))), (q19, .inr (5, [.ref rG_23, .int 0, .int 0])), (rG_23, .inl (cM, 30, .inr (.inr (.inr (.inr f_24))))), (q26, .inl (cI, 6, .inl (fun _ => 0))), (q27, .inl (cI, 10, .inl (fun _ => 0))), (q28, .inl (cI, 10, .inl (fun _ => 0))), (q29, .inl (cI, 10, .inl (fun _ => 0)))] ++ PL_25) := hD
  refine z_putF Z i_X10 tyX10 tyX10_ok nmX10 hP hD hS 0 rfl rfl 7 (by decide) bw_249 rfl hin rfl rfl rfl (Nat.le_of_ble_eq_true rfl) dX10_init_77 (fun H locs hP hD hS => ?_)
  have hP : va_P D vwCl ([(nw, .inr (10, [.ref q1, .ref q8, .ref q14, .ref q19, .ref q26, .ref q27, .ref q28, .ref q29, .int 0, .int 0, .int 0, .int 0, .int 0])), (q1, .inr (3, [.ref mU_5, .ref bF_6, .ref bT_7, .int 0])), (mU_5, .inl (cI, 300, .inl (fun _ => 0))), (bF_6, .inl (cI, 4, .inl (fun _ => 0))), (bT_7, .inl (cI, 4, .inl (fun _ => 0))), (q8, .inr (4, [.ref cO_12, .ref sH_13, .int 0])), (cO_12, .inl (cI, 6, .inl (fun _ => 0))), (sH_13, .inl (cI, 6, .inl (fun _ => 0))), (q14, .inr (1, [.ref iA_18, .int 0, .int 0, .int 0, .int 0, .int 0, .int 13])), (iA_18, .inl (cI, 10, .inl (fun _ => 0))), (q19, .inr (5, [.ref rG_23, .int 0, .int 0])), (rG_23, .inl (cM, 30, .inr (.inr (.inr (.inr f_24))))), (q26, .inl (cI, 6, .inl (fun _ => 0))), (q27, .inl (cI, 10, .inl (fun _ => 0))), (q28, .inl (cI, 10, .inl (fun _ => 0))), (q29, .inl (cI, 10, .inl (fun _ => 0)))] ++ PL_25) H := hP
  have hD : va_D A ([(nw, .inr (10, [.ref q1, .ref q8, .ref q14, .ref q19, .ref q26, .ref q27, .ref q28, .ref q29, .int 0, .int 0, .int 0, .int 0, .int 0])), (q1, .inr (3, [.ref mU_5, .ref bF_6, .ref bT_7, .int 0])), (mU_5, .inl (cI, 300, .inl (fun _ => 0))), (bF_6, .inl (cI, 4, .inl (fun _ => 0))), (bT_7, .inl (cI, 4, .inl (fun _ => 0))), (q8, .inr (4, [.ref cO_12, .ref sH_13, .int 0])), (cO_12, .inl (cI, 6, .inl (fun _ => 0))), (sH_13, .inl (cI, 6, .inl (fun _ => 0))), (q14, .inr (1, [.ref iA_18, .int 0, .int 0, .int 0, .int 0, .int 0, .int 13])), (iA_18, .inl (cI, 10, .inl (fun _ => 0))), (q19, .inr (5, [.ref rG_23, .int 0, .int 0])), (rG_23, .inl (cM, 30, .inr (.inr (.inr (.inr f_24))))), (q26, .inl (cI, 6, .inl (fun _ => 0))), (q27, .inl (cI, 10, .inl (fun _ => 0))), (q28, .inl (cI, 10, .inl (fun _ => 0))), (q29, .inl (cI, 10, .inl (fun _ => 0)))] ++ PL_25) := hD
  refine lv_aload_n hx hb dX10_init_80 rfl (lv_at hl 0 rfl) ?_
  refine lv_iconst (v := 0) hx hb dX10_init_81 (by decide) ?_
  refine z_put Z i_X10 tyX10 tyX10_ok nmX10 hP hD hS 0 rfl rfl 8 (by decide) bw_251 rfl rfl rfl (Nat.le_of_ble_eq_true rfl) dX10_init_82 (fun H locs hP hD hS => ?_)
  have hP : va_P D vwCl ([(nw, .inr (10, [.ref q1, .ref q8, .ref q14, .ref q19, .ref q26, .ref q27, .ref q28, .ref q29, .int 0, .int 0, .int 0, .int 0, .int 0])), (q1, .inr (3, [.ref mU_5, .ref bF_6, .ref bT_7, .int 0])), (mU_5, .inl (cI, 300, .inl (fun _ => 0))), (bF_6, .inl (cI, 4, .inl (fun _ => 0))), (bT_7, .inl (cI, 4, .inl (fun _ => 0))), (q8, .inr (4, [.ref cO_12, .ref sH_13, .int 0])), (cO_12, .inl (cI, 6, .inl (fun _ => 0))), (sH_13, .inl (cI, 6, .inl (fun _ => 0))), (q14, .inr (1, [.ref iA_18, .int 0, .int 0, .int 0, .int 0, .int 0, .int 13])), (iA_18, .inl (cI, 10, .inl (fun _ => 0))), (q19, .inr (5, [.ref rG_23, .int 0, .int 0])), (rG_23, .inl (cM, 30, .inr (.inr (.inr (.inr f_24))))), (q26, .inl (cI, 6, .inl (fun _ => 0))), (q27, .inl (cI, 10, .inl (fun _ => 0))), (q28, .inl (cI, 10, .inl (fun _ => 0))), (q29, .inl (cI, 10, .inl (fun _ => 0)))] ++ PL_25) H := hP
  have hD : va_D A ([(nw, .inr (10, [.ref q1, .ref q8, .ref q14, .ref q19, .ref q26, .ref q27, .ref q28, .ref q29, .int 0, .int 0, .int 0, .int 0, .int 0])), (q1, .inr (3, [.ref mU_5, .ref bF_6, .ref bT_7, .int 0])), (mU_5, .inl (cI, 300, .inl (fun _ => 0))), (bF_6, .inl (cI, 4, .inl (fun _ => 0))), (bT_7, .inl (cI, 4, .inl (fun _ => 0))), (q8, .inr (4, [.ref cO_12, .ref sH_13, .int 0])), (cO_12, .inl (cI, 6, .inl (fun _ => 0))), (sH_13, .inl (cI, 6, .inl (fun _ => 0))), (q14, .inr (1, [.ref iA_18, .int 0, .int 0, .int 0, .int 0, .int 0, .int 13])), (iA_18, .inl (cI, 10, .inl (fun _ => 0))), (q19, .inr (5, [.ref rG_23, .int 0, .int 0])), (rG_23, .inl (cM, 30, .inr (.inr (.inr (.inr f_24))))), (q26, .inl (cI, 6, .inl (fun _ => 0))), (q27, .inl (cI, 10, .inl (fun _ => 0))), (q28, .inl (cI, 10, .inl (fun _ => 0))), (q29, .inl (cI, 10, .inl (fun _ => 0)))] ++ PL_25) := hD
  refine lv_aload_n hx hb dX10_init_85 rfl (lv_at hl 0 rfl) ?_
  refine lv_iconst (v := 0) hx hb dX10_init_86 (by decide) ?_
  refine z_put Z i_X10 tyX10 tyX10_ok nmX10 hP hD hS 0 rfl rfl 9 (by decide) bw_254 rfl rfl rfl (Nat.le_of_ble_eq_true rfl) dX10_init_87 (fun H locs hP hD hS => ?_)
  have hP : va_P D vwCl ([(nw, .inr (10, [.ref q1, .ref q8, .ref q14, .ref q19, .ref q26, .ref q27, .ref q28, .ref q29, .int 0, .int 0, .int 0, .int 0, .int 0])), (q1, .inr (3, [.ref mU_5, .ref bF_6, .ref bT_7, .int 0])), (mU_5, .inl (cI, 300, .inl (fun _ => 0))), (bF_6, .inl (cI, 4, .inl (fun _ => 0))), (bT_7, .inl (cI, 4, .inl (fun _ => 0))), (q8, .inr (4, [.ref cO_12, .ref sH_13, .int 0])), (cO_12, .inl (cI, 6, .inl (fun _ => 0))), (sH_13, .inl (cI, 6, .inl (fun _ => 0))), (q14, .inr (1, [.ref iA_18, .int 0, .int 0, .int 0, .int 0, .int 0, .int 13])), (iA_18, .inl (cI, 10, .inl (fun _ => 0))), (q19, .inr (5, [.ref rG_23, .int 0, .int 0])), (rG_23, .inl (cM, 30, .inr (.inr (.inr (.inr f_24))))), (q26, .inl (cI, 6, .inl (fun _ => 0))), (q27, .inl (cI, 10, .inl (fun _ => 0))), (q28, .inl (cI, 10, .inl (fun _ => 0))), (q29, .inl (cI, 10, .inl (fun _ => 0)))] ++ PL_25) H := hP
  have hD : va_D A ([(nw, .inr (10, [.ref q1, .ref q8, .ref q14, .ref q19, .ref q26, .ref q27, .ref q28, .ref q29, .int 0, .int 0, .int 0, .int 0, .int 0])), (q1, .inr (3, [.ref mU_5, .ref bF_6, .ref bT_7, .int 0])), (mU_5, .inl (cI, 300, .inl (fun _ => 0))), (bF_6, .inl (cI, 4, .inl (fun _ => 0))), (bT_7, .inl (cI, 4, .inl (fun _ => 0))), (q8, .inr (4, [.ref cO_12, .ref sH_13, .int 0])), (cO_12, .inl (cI, 6, .inl (fun _ => 0))), (sH_13, .inl (cI, 6, .inl (fun _ => 0))), (q14, .inr (1, [.ref iA_18, .int 0, .int 0, .int 0, .int 0, .int 0, .int 13])), (iA_18, .inl (cI, 10, .inl (fun _ => 0))), (q19, .inr (5, [.ref rG_23, .int 0, .int 0])), (rG_23, .inl (cM, 30, .inr (.inr (.inr (.inr f_24))))), (q26, .inl (cI, 6, .inl (fun _ => 0))), (q27, .inl (cI, 10, .inl (fun _ => 0))), (q28, .inl (cI, 10, .inl (fun _ => 0))), (q29, .inl (cI, 10, .inl (fun _ => 0)))] ++ PL_25) := hD
  refine lv_aload_n hx hb dX10_init_90 rfl (lv_at hl 0 rfl) ?_
  refine lv_iconst (v := (-1)) hx hb dX10_init_91 (by decide) ?_
  refine z_put Z i_X10 tyX10 tyX10_ok nmX10 hP hD hS 0 rfl rfl 10 (by decide) bw_256 rfl rfl rfl (Nat.le_of_ble_eq_true rfl) dX10_init_92 (fun H locs hP hD hS => ?_)
  have hP : va_P D vwCl ([(nw, .inr (10, [.ref q1, .ref q8, .ref q14, .ref q19, .ref q26, .ref q27, .ref q28, .ref q29, .int 0, .int 0, .int (-1), .int 0, .int 0])), (q1, .inr (3, [.ref mU_5, .ref bF_6, .ref bT_7, .int 0])), (mU_5, .inl (cI, 300, .inl (fun _ => 0))), (bF_6, .inl (cI, 4, .inl (fun _ => 0))), (bT_7, .inl (cI, 4, .inl (fun _ => 0))), (q8, .inr (4, [.ref cO_12, .ref sH_13, .int 0])), (cO_12, .inl (cI, 6, .inl (fun _ => 0))), (sH_13, .inl (cI, 6, .inl (fun _ => 0))), (q14, .inr (1, [.ref iA_18, .int 0, .int 0, .int 0, .int 0, .int 0, .int 13])), (iA_18, .inl (cI, 10, .inl (fun _ => 0))), (q19, .inr (5, [.ref rG_23, .int 0, .int 0])), (rG_23, .inl (cM, 30, .inr (.inr (.inr (.inr f_24))))), (q26, .inl (cI, 6, .inl (fun _ => 0))), (q27, .inl (cI, 10, .inl (fun _ => 0))), (q28, .inl (cI, 10, .inl (fun _ => 0))), (q29, .inl (cI, 10, .inl (fun _ => 0)))] ++ PL_25) H := hP
  have hD : va_D A ([(nw, .inr (10, [.ref q1, .ref q8, .ref q14, .ref q19, .ref q26, .ref q27, .ref q28, .ref q29, .int 0, .int 0, .int (-1), .int 0, .int 0])), (q1, .inr (3, [.ref mU_5, .ref bF_6, .ref bT_7, .int 0])), (mU_5, .inl (cI, 300, .inl (fun _ => 0))), (bF_6, .inl (cI, 4, .inl (fun _ => 0))), (bT_7, .inl (cI, 4, .inl (fun _ => 0))), (q8, .inr (4, [.ref cO_12, .ref sH_13, .int 0])), (cO_12, .inl (cI, 6, .inl (fun _ => 0))), (sH_13, .inl (cI, 6, .inl (fun _ => 0))), (q14, .inr (1, [.ref iA_18, .int 0, .int 0, .int 0, .int 0, .int 0, .int 13])), (iA_18, .inl (cI, 10, .inl (fun _ => 0))), (q19, .inr (5, [.ref rG_23, .int 0, .int 0])), (rG_23, .inl (cM, 30, .inr (.inr (.inr (.inr f_24))))), (q26, .inl (cI, 6, .inl (fun _ => 0))), (q27, .inl (cI, 10, .inl (fun _ => 0))), (q28, .inl (cI, 10, .inl (fun _ => 0))), (q29, .inl (cI, 10, .inl (fun _ => 0)))] ++ PL_25) := hD
  refine lv_aload_n hx hb dX10_init_95 rfl (lv_at hl 0 rfl) ?_
  refine lv_iconst (v := 0) hx hb dX10_init_96 (by decide) ?_
  refine z_put Z i_X10 tyX10 tyX10_ok nmX10 hP hD hS 0 rfl rfl 11 (by decide) bw_259 rfl rfl rfl (Nat.le_of_ble_eq_true rfl) dX10_init_97 (fun H locs hP hD hS => ?_)
  have hP : va_P D vwCl ([(nw, .inr (10, [.ref q1, .ref q8, .ref q14, .ref q19, .ref q26, .ref q27, .ref q28, .ref q29, .int 0, .int 0, .int (-1), .int 0, .int 0])), (q1, .inr (3, [.ref mU_5, .ref bF_6, .ref bT_7, .int 0])), (mU_5, .inl (cI, 300, .inl (fun _ => 0))), (bF_6, .inl (cI, 4, .inl (fun _ => 0))), (bT_7, .inl (cI, 4, .inl (fun _ => 0))), (q8, .inr (4, [.ref cO_12, .ref sH_13, .int 0])), (cO_12, .inl (cI, 6, .inl (fun _ => 0))), (sH_13, .inl (cI, 6, .inl (fun _ => 0))), (q14, .inr (1, [.ref iA_18, .int 0, .int 0, .int 0, .int 0, .int 0, .int 13])), (iA_18, .inl (cI, 10, .inl (fun _ => 0))), (q19, .inr (5, [.ref rG_23, .int 0, .int 0])), (rG_23, .inl (cM, 30, .inr (.inr (.inr (.inr f_24))))), (q26, .inl (cI, 6, .inl (fun _ => 0))), (q27, .inl (cI, 10, .inl (fun _ => 0))), (q28, .inl (cI, 10, .inl (fun _ => 0))), (q29, .inl (cI, 10, .inl (fun _ => 0)))] ++ PL_25) H := hP
  have hD : va_D A ([(nw, .inr (10, [.ref q1, .ref q8, .ref q14, .ref q19, .ref q26, .ref q27, .ref q28, .ref q29, .int 0, .int 0, .int (-1), .int 0, .int 0])), (q1, .inr (3, [.ref mU_5, .ref bF_6, .ref bT_7, .int 0])), (mU_5, .inl (cI, 300, .inl (fun _ => 0))), (bF_6, .inl (cI, 4, .inl (fun _ => 0))), (bT_7, .inl (cI, 4, .inl (fun _ => 0))), (q8, .inr (4, [.ref cO_12, .ref sH_13, .int 0])), (cO_12, .inl (cI, 6, .inl (fun _ => 0))), (sH_13, .inl (cI, 6, .inl (fun _ => 0))), (q14, .inr (1, [.ref iA_18, .int 0, .int 0, .int 0, .int 0, .int 0, .int 13])), (iA_18, .inl (cI, 10, .inl (fun _ => 0))), (q19, .inr (5, [.ref rG_23, .int 0, .int 0])), (rG_23, .inl (cM, 30, .inr (.inr (.inr (.inr f_24))))), (q26, .inl (cI, 6, .inl (fun _ => 0))), (q27, .inl (cI, 10, .inl (fun _ => 0))), (q28, .inl (cI, 10, .inl (fun _ => 0))), (q29, .inl (cI, 10, .inl (fun _ => 0)))] ++ PL_25) := hD
  refine lv_aload_n hx hb dX10_init_100 rfl (lv_at hl 0 rfl) ?_
  refine lv_iconst (v := 0) hx hb dX10_init_101 (by decide) ?_
  refine z_put Z i_X10 tyX10 tyX10_ok nmX10 hP hD hS 0 rfl rfl 12 (by decide) bw_261 rfl rfl rfl (Nat.le_of_ble_eq_true rfl) dX10_init_102 (fun H locs hP hD hS => ?_)
  have hP : va_P D vwCl ([(nw, .inr (10, [.ref q1, .ref q8, .ref q14, .ref q19, .ref q26, .ref q27, .ref q28, .ref q29, .int 0, .int 0, .int (-1), .int 0, .int 0])), (q1, .inr (3, [.ref mU_5, .ref bF_6, .ref bT_7, .int 0])), (mU_5, .inl (cI, 300, .inl (fun _ => 0))), (bF_6, .inl (cI, 4, .inl (fun _ => 0))), (bT_7, .inl (cI, 4, .inl (fun _ => 0))), (q8, .inr (4, [.ref cO_12, .ref sH_13, .int 0])), (cO_12, .inl (cI, 6, .inl (fun _ => 0))), (sH_13, .inl (cI, 6, .inl (fun _ => 0))), (q14, .inr (1, [.ref iA_18, .int 0, .int 0, .int 0, .int 0, .int 0, .int 13])), (iA_18, .inl (cI, 10, .inl (fun _ => 0))), (q19, .inr (5, [.ref rG_23, .int 0, .int 0])), (rG_23, .inl (cM, 30, .inr (.inr (.inr (.inr f_24))))), (q26, .inl (cI, 6, .inl (fun _ => 0))), (q27, .inl (cI, 10, .inl (fun _ => 0))), (q28, .inl (cI, 10, .inl (fun _ => 0))), (q29, .inl (cI, 10, .inl (fun _ => 0)))] ++ PL_25) H := hP
  have hD : va_D A ([(nw, .inr (10, [.ref q1, .ref q8, .ref q14, .ref q19, .ref q26, .ref q27, .ref q28, .ref q29, .int 0, .int 0, .int (-1), .int 0, .int 0])), (q1, .inr (3, [.ref mU_5, .ref bF_6, .ref bT_7, .int 0])), (mU_5, .inl (cI, 300, .inl (fun _ => 0))), (bF_6, .inl (cI, 4, .inl (fun _ => 0))), (bT_7, .inl (cI, 4, .inl (fun _ => 0))), (q8, .inr (4, [.ref cO_12, .ref sH_13, .int 0])), (cO_12, .inl (cI, 6, .inl (fun _ => 0))), (sH_13, .inl (cI, 6, .inl (fun _ => 0))), (q14, .inr (1, [.ref iA_18, .int 0, .int 0, .int 0, .int 0, .int 0, .int 13])), (iA_18, .inl (cI, 10, .inl (fun _ => 0))), (q19, .inr (5, [.ref rG_23, .int 0, .int 0])), (rG_23, .inl (cM, 30, .inr (.inr (.inr (.inr f_24))))), (q26, .inl (cI, 6, .inl (fun _ => 0))), (q27, .inl (cI, 10, .inl (fun _ => 0))), (q28, .inl (cI, 10, .inl (fun _ => 0))), (q29, .inl (cI, 10, .inl (fun _ => 0)))] ++ PL_25) := hD
  exact z_vret Z hP hD hS (⟨q1, q8, q14, q19, q26, q27, q28, q29, mU_5, bF_6, bT_7, cO_12, sH_13, iA_18, rG_23, f_24, PL_25, rfl, huh22_0⟩) dX10_init_105 (Nat.le_of_ble_eq_true rfl) (Nat.le_of_ble_eq_true rfl)
