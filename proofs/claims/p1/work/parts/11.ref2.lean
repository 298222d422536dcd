theorem dX12_copy_0 : decode cX12_copy 0 = .ok (.iconst 0, 1) := by decide +kernel
theorem dX12_copy_1 : decode cX12_copy 1 = .ok (.istore_n 2, 1) := by decide +kernel
theorem dX12_copy_2 : decode cX12_copy 2 = .ok (.iload_n 2, 1) := by decide +kernel
theorem dX12_copy_3 : decode cX12_copy 3 = .ok (.sipush 862, 3) := by decide +kernel
theorem dX12_copy_6 : decode cX12_copy 6 = .ok (.if_icmp .ge 15, 3) := by decide +kernel
theorem dX12_copy_9 : decode cX12_copy 9 = .ok (.aload_n 1, 1) := by decide +kernel
theorem dX12_copy_10 : decode cX12_copy 10 = .ok (.iload_n 2, 1) := by decide +kernel
theorem dX12_copy_11 : decode cX12_copy 11 = .ok (.aload_n 0, 1) := by decide +kernel
theorem dX12_copy_12 : decode cX12_copy 12 = .ok (.iload_n 2, 1) := by decide +kernel
theorem dX12_copy_13 : decode cX12_copy 13 = .ok (.iaload, 1) := by decide +kernel
theorem dX12_copy_14 : decode cX12_copy 14 = .ok (.iastore, 1) := by decide +kernel
theorem dX12_copy_15 : decode cX12_copy 15 = .ok (.iinc 2 1, 3) := by decide +kernel
theorem dX12_copy_18 : decode cX12_copy 18 = .ok (.goto (-16), 3) := by decide +kernel
theorem dX12_copy_21 : decode cX12_copy 21 = .ok (.return_, 1) := by decide +kernel
theorem dX12_image_0 : decode cX12_image 0 = .ok (.aload_n 0, 1) := by decide +kernel
theorem dX12_image_1 : decode cX12_image 1 = .ok (.getfield 7, 3) := by decide +kernel
theorem dX12_image_4 : decode cX12_image 4 = .ok (.aload_n 0, 1) := by decide +kernel
theorem dX12_image_5 : decode cX12_image 5 = .ok (.getfield 13, 3) := by decide +kernel
theorem dX12_image_8 : decode cX12_image 8 = .ok (.invokestatic 67, 3) := by decide +kernel
theorem dX12_image_11 : decode cX12_image 11 = .ok (.aload_n 0, 1) := by decide +kernel
theorem dX12_image_12 : decode cX12_image 12 = .ok (.getfield 7, 3) := by decide +kernel
theorem dX12_image_15 : decode cX12_image 15 = .ok (.bipush 12, 2) := by decide +kernel
theorem dX12_image_17 : decode cX12_image 17 = .ok (.iaload, 1) := by decide +kernel
theorem dX12_image_18 : decode cX12_image 18 = .ok (.ireturn, 1) := by decide +kernel
theorem dX12_back_0 : decode cX12_back 0 = .ok (.aload_n 0, 1) := by decide +kernel
theorem dX12_back_1 : decode cX12_back 1 = .ok (.getfield 13, 3) := by decide +kernel
theorem dX12_back_4 : decode cX12_back 4 = .ok (.aload_n 0, 1) := by decide +kernel
theorem dX12_back_5 : decode cX12_back 5 = .ok (.getfield 7, 3) := by decide +kernel
theorem dX12_back_8 : decode cX12_back 8 = .ok (.invokestatic 67, 3) := by decide +kernel
theorem dX12_back_11 : decode cX12_back 11 = .ok (.aload_n 0, 1) := by decide +kernel
theorem dX12_back_12 : decode cX12_back 12 = .ok (.getfield 7, 3) := by decide +kernel
theorem dX12_back_15 : decode cX12_back 15 = .ok (.bipush 12, 2) := by decide +kernel
theorem dX12_back_17 : decode cX12_back 17 = .ok (.iaload, 1) := by decide +kernel
theorem dX12_back_18 : decode cX12_back 18 = .ok (.ireturn, 1) := by decide +kernel
theorem dX12_mud_0 : decode cX12_mud 0 = .ok (.iload_n 1, 1) := by decide +kernel
theorem dX12_mud_1 : decode cX12_mud 1 = .ok (.invokestatic 75, 3) := by decide +kernel
theorem dX12_mud_4 : decode cX12_mud 4 = .ok (.ifCond .eq 25, 3) := by decide +kernel
theorem dX12_mud_7 : decode cX12_mud 7 = .ok (.iload_n 2, 1) := by decide +kernel
theorem dX12_mud_8 : decode cX12_mud 8 = .ok (.invokestatic 75, 3) := by decide +kernel
theorem dX12_mud_11 : decode cX12_mud 11 = .ok (.ifCond .eq 18, 3) := by decide +kernel
theorem dX12_mud_14 : decode cX12_mud 14 = .ok (.iload_n 2, 1) := by decide +kernel
theorem dX12_mud_15 : decode cX12_mud 15 = .ok (.iload_n 1, 1) := by decide +kernel
theorem dX12_mud_16 : decode cX12_mud 16 = .ok (.if_icmp .lt 13, 3) := by decide +kernel
theorem dX12_mud_19 : decode cX12_mud 19 = .ok (.iload_n 3, 1) := by decide +kernel
theorem dX12_mud_20 : decode cX12_mud 20 = .ok (.iconst 0, 1) := by decide +kernel
theorem dX12_mud_21 : decode cX12_mud 21 = .ok (.bipush 9, 2) := by decide +kernel
theorem dX12_mud_23 : decode cX12_mud 23 = .ok (.invokestatic 71, 3) := by decide +kernel
theorem dX12_mud_26 : decode cX12_mud 26 = .ok (.ifCond .ne 5, 3) := by decide +kernel
theorem dX12_mud_29 : decode cX12_mud 29 = .ok (.iconst 0, 1) := by decide +kernel
theorem dX12_mud_30 : decode cX12_mud 30 = .ok (.ireturn, 1) := by decide +kernel
theorem dX12_mud_31 : decode cX12_mud 31 = .ok (.iload_n 1, 1) := by decide +kernel
theorem dX12_mud_32 : decode cX12_mud 32 = .ok (.istore 4, 2) := by decide +kernel
theorem dX12_mud_34 : decode cX12_mud 34 = .ok (.iload 4, 2) := by decide +kernel
theorem dX12_mud_36 : decode cX12_mud 36 = .ok (.iload_n 2, 1) := by decide +kernel
theorem dX12_mud_37 : decode cX12_mud 37 = .ok (.if_icmp .gt 20, 3) := by decide +kernel
theorem dX12_mud_40 : decode cX12_mud 40 = .ok (.aload_n 0, 1) := by decide +kernel
theorem dX12_mud_41 : decode cX12_mud 41 = .ok (.getfield 7, 3) := by decide +kernel
theorem dX12_mud_44 : decode cX12_mud 44 = .ok (.bipush 82, 2) := by decide +kernel
theorem dX12_mud_46 : decode cX12_mud 46 = .ok (.iload 4, 2) := by decide +kernel
theorem dX12_mud_48 : decode cX12_mud 48 = .ok (.iadd, 1) := by decide +kernel
theorem dX12_mud_49 : decode cX12_mud 49 = .ok (.iload_n 3, 1) := by decide +kernel
theorem dX12_mud_50 : decode cX12_mud 50 = .ok (.iastore, 1) := by decide +kernel
theorem dX12_mud_51 : decode cX12_mud 51 = .ok (.iinc 4 1, 3) := by decide +kernel
theorem dX12_mud_54 : decode cX12_mud 54 = .ok (.goto (-20), 3) := by decide +kernel
theorem dX12_mud_57 : decode cX12_mud 57 = .ok (.iconst 1, 1) := by decide +kernel
theorem dX12_mud_58 : decode cX12_mud 58 = .ok (.ireturn, 1) := by decide +kernel
theorem dX12_bits_0 : decode cX12_bits 0 = .ok (.iconst 0, 1) := by decide +kernel
theorem dX12_bits_1 : decode cX12_bits 1 = .ok (.istore_n 1, 1) := by decide +kernel
theorem dX12_bits_2 : decode cX12_bits 2 = .ok (.iconst 0, 1) := by decide +kernel
theorem dX12_bits_3 : decode cX12_bits 3 = .ok (.istore_n 2, 1) := by decide +kernel
theorem dX12_bits_4 : decode cX12_bits 4 = .ok (.iload_n 2, 1) := by decide +kernel
theorem dX12_bits_5 : decode cX12_bits 5 = .ok (.bipush 6, 2) := by decide +kernel
theorem dX12_bits_7 : decode cX12_bits 7 = .ok (.if_icmp .ge 17, 3) := by decide +kernel
theorem dX12_bits_10 : decode cX12_bits 10 = .ok (.iload_n 1, 1) := by decide +kernel
theorem dX12_bits_11 : decode cX12_bits 11 = .ok (.iload_n 0, 1) := by decide +kernel
theorem dX12_bits_12 : decode cX12_bits 12 = .ok (.iload_n 2, 1) := by decide +kernel
theorem dX12_bits_13 : decode cX12_bits 13 = .ok (.ishr, 1) := by decide +kernel
theorem dX12_bits_14 : decode cX12_bits 14 = .ok (.iconst 1, 1) := by decide +kernel
theorem dX12_bits_15 : decode cX12_bits 15 = .ok (.iand, 1) := by decide +kernel
theorem dX12_bits_16 : decode cX12_bits 16 = .ok (.iadd, 1) := by decide +kernel
theorem dX12_bits_17 : decode cX12_bits 17 = .ok (.istore_n 1, 1) := by decide +kernel
theorem dX12_bits_18 : decode cX12_bits 18 = .ok (.iinc 2 1, 3) := by decide +kernel
theorem dX12_bits_21 : decode cX12_bits 21 = .ok (.goto (-17), 3) := by decide +kernel
theorem dX12_bits_24 : decode cX12_bits 24 = .ok (.iload_n 1, 1) := by decide +kernel
theorem dX12_bits_25 : decode cX12_bits 25 = .ok (.ireturn, 1) := by decide +kernel
theorem dX12_isThief_0 : decode cX12_isThief 0 = .ok (.iconst 0, 1) := by decide +kernel
theorem dX12_isThief_1 : decode cX12_isThief 1 = .ok (.istore 4, 2) := by decide +kernel
theorem dX12_isThief_3 : decode cX12_isThief 3 = .ok (.iload 4, 2) := by decide +kernel
theorem dX12_isThief_5 : decode cX12_isThief 5 = .ok (.aload_n 0, 1) := by decide +kernel
theorem dX12_isThief_6 : decode cX12_isThief 6 = .ok (.getfield 7, 3) := by decide +kernel
theorem dX12_isThief_9 : decode cX12_isThief 9 = .ok (.iconst 0, 1) := by decide +kernel
theorem dX12_isThief_10 : decode cX12_isThief 10 = .ok (.iaload, 1) := by decide +kernel
theorem dX12_isThief_11 : decode cX12_isThief 11 = .ok (.if_icmp .ge 95, 3) := by decide +kernel
theorem dX12_isThief_14 : decode cX12_isThief 14 = .ok (.iconst 0, 1) := by decide +kernel
theorem dX12_isThief_15 : decode cX12_isThief 15 = .ok (.istore 5, 2) := by decide +kernel
theorem dX12_isThief_17 : decode cX12_isThief 17 = .ok (.iload 5, 2) := by decide +kernel
theorem dX12_isThief_19 : decode cX12_isThief 19 = .ok (.aload_n 0, 1) := by decide +kernel
theorem dX12_isThief_20 : decode cX12_isThief 20 = .ok (.getfield 7, 3) := by decide +kernel
theorem dX12_isThief_23 : decode cX12_isThief 23 = .ok (.iconst 0, 1) := by decide +kernel
theorem dX12_isThief_24 : decode cX12_isThief 24 = .ok (.iaload, 1) := by decide +kernel
theorem dX12_isThief_25 : decode cX12_isThief 25 = .ok (.if_icmp .ge 75, 3) := by decide +kernel
theorem dX12_isThief_28 : decode cX12_isThief 28 = .ok (.iconst 0, 1) := by decide +kernel
theorem dX12_isThief_29 : decode cX12_isThief 29 = .ok (.istore 6, 2) := by decide +kernel
theorem dX12_isThief_31 : decode cX12_isThief 31 = .ok (.iload 6, 2) := by decide +kernel
theorem dX12_isThief_33 : decode cX12_isThief 33 = .ok (.aload_n 0, 1) := by decide +kernel
theorem dX12_isThief_34 : decode cX12_isThief 34 = .ok (.getfield 7, 3) := by decide +kernel
theorem dX12_isThief_37 : decode cX12_isThief 37 = .ok (.iconst 0, 1) := by decide +kernel
theorem dX12_isThief_38 : decode cX12_isThief 38 = .ok (.iaload, 1) := by decide +kernel
theorem dX12_isThief_39 : decode cX12_isThief 39 = .ok (.if_icmp .ge 55, 3) := by decide +kernel
theorem dX12_isThief_42 : decode cX12_isThief 42 = .ok (.iconst 1, 1) := by decide +kernel
theorem dX12_isThief_43 : decode cX12_isThief 43 = .ok (.iload 4, 2) := by decide +kernel
theorem dX12_isThief_45 : decode cX12_isThief 45 = .ok (.ishl, 1) := by decide +kernel
theorem dX12_isThief_46 : decode cX12_isThief 46 = .ok (.iconst 1, 1) := by decide +kernel
theorem dX12_isThief_47 : decode cX12_isThief 47 = .ok (.iload 5, 2) := by decide +kernel
theorem dX12_isThief_49 : decode cX12_isThief 49 = .ok (.ishl, 1) := by decide +kernel
theorem dX12_isThief_50 : decode cX12_isThief 50 = .ok (.ior, 1) := by decide +kernel
theorem dX12_isThief_51 : decode cX12_isThief 51 = .ok (.iconst 1, 1) := by decide +kernel
theorem dX12_isThief_52 : decode cX12_isThief 52 = .ok (.iload 6, 2) := by decide +kernel
theorem dX12_isThief_54 : decode cX12_isThief 54 = .ok (.ishl, 1) := by decide +kernel
theorem dX12_isThief_55 : decode cX12_isThief 55 = .ok (.ior, 1) := by decide +kernel
theorem dX12_isThief_56 : decode cX12_isThief 56 = .ok (.iload_n 3, 1) := by decide +kernel
theorem dX12_isThief_57 : decode cX12_isThief 57 = .ok (.if_icmp .eq 6, 3) := by decide +kernel
theorem dX12_isThief_60 : decode cX12_isThief 60 = .ok (.goto 28, 3) := by decide +kernel
theorem dX12_isThief_63 : decode cX12_isThief 63 = .ok (.aload_n 0, 1) := by decide +kernel
theorem dX12_isThief_64 : decode cX12_isThief 64 = .ok (.iload 6, 2) := by decide +kernel
theorem dX12_isThief_66 : decode cX12_isThief 66 = .ok (.aload_n 0, 1) := by decide +kernel
theorem dX12_isThief_67 : decode cX12_isThief 67 = .ok (.iload 5, 2) := by decide +kernel
theorem dX12_isThief_69 : decode cX12_isThief 69 = .ok (.aload_n 0, 1) := by decide +kernel
theorem dX12_isThief_70 : decode cX12_isThief 70 = .ok (.iload 4, 2) := by decide +kernel
theorem dX12_isThief_72 : decode cX12_isThief 72 = .ok (.iload_n 1, 1) := by decide +kernel
theorem dX12_isThief_73 : decode cX12_isThief 73 = .ok (.invokevirtual 313, 3) := by decide +kernel
theorem dX12_isThief_76 : decode cX12_isThief 76 = .ok (.invokevirtual 313, 3) := by decide +kernel
theorem dX12_isThief_79 : decode cX12_isThief 79 = .ok (.invokevirtual 313, 3) := by decide +kernel
theorem dX12_isThief_82 : decode cX12_isThief 82 = .ok (.iload_n 2, 1) := by decide +kernel
theorem dX12_isThief_83 : decode cX12_isThief 83 = .ok (.if_icmp .ne 5, 3) := by decide +kernel
theorem dX12_isThief_86 : decode cX12_isThief 86 = .ok (.iconst 1, 1) := by decide +kernel
theorem dX12_isThief_87 : decode cX12_isThief 87 = .ok (.ireturn, 1) := by decide +kernel
theorem dX12_isThief_88 : decode cX12_isThief 88 = .ok (.iinc 6 1, 3) := by decide +kernel
theorem dX12_isThief_91 : decode cX12_isThief 91 = .ok (.goto (-60), 3) := by decide +kernel
theorem dX12_isThief_94 : decode cX12_isThief 94 = .ok (.iinc 5 1, 3) := by decide +kernel
theorem dX12_isThief_97 : decode cX12_isThief 97 = .ok (.goto (-80), 3) := by decide +kernel
theorem dX12_isThief_100 : decode cX12_isThief 100 = .ok (.iinc 4 1, 3) := by decide +kernel
theorem dX12_isThief_103 : decode cX12_isThief 103 = .ok (.goto (-100), 3) := by decide +kernel
theorem dX12_isThief_106 : decode cX12_isThief 106 = .ok (.iconst 0, 1) := by decide +kernel
theorem dX12_isThief_107 : decode cX12_isThief 107 = .ok (.ireturn, 1) := by decide +kernel
theorem dX12_thief_0 : decode cX12_thief 0 = .ok (.iload_n 1, 1) := by decide +kernel
theorem dX12_thief_1 : decode cX12_thief 1 = .ok (.invokestatic 75, 3) := by decide +kernel
theorem dX12_thief_4 : decode cX12_thief 4 = .ok (.ifCond .eq 15, 3) := by decide +kernel
theorem dX12_thief_7 : decode cX12_thief 7 = .ok (.iload_n 2, 1) := by decide +kernel
theorem dX12_thief_8 : decode cX12_thief 8 = .ok (.invokestatic 75, 3) := by decide +kernel
theorem dX12_thief_11 : decode cX12_thief 11 = .ok (.ifCond .eq 8, 3) := by decide +kernel
theorem dX12_thief_14 : decode cX12_thief 14 = .ok (.iload_n 3, 1) := by decide +kernel
theorem dX12_thief_15 : decode cX12_thief 15 = .ok (.iconst (-1), 1) := by decide +kernel
theorem dX12_thief_16 : decode cX12_thief 16 = .ok (.if_icmp .ge 5, 3) := by decide +kernel
theorem dX12_thief_19 : decode cX12_thief 19 = .ok (.iconst (-1), 1) := by decide +kernel
theorem dX12_thief_20 : decode cX12_thief 20 = .ok (.ireturn, 1) := by decide +kernel
theorem dX12_thief_21 : decode cX12_thief 21 = .ok (.iconst 0, 1) := by decide +kernel
theorem dX12_thief_22 : decode cX12_thief 22 = .ok (.istore 4, 2) := by decide +kernel
theorem dX12_thief_24 : decode cX12_thief 24 = .ok (.iconst 0, 1) := by decide +kernel
theorem dX12_thief_25 : decode cX12_thief 25 = .ok (.istore 5, 2) := by decide +kernel
theorem dX12_thief_27 : decode cX12_thief 27 = .ok (.iload 5, 2) := by decide +kernel
theorem dX12_thief_29 : decode cX12_thief 29 = .ok (.bipush 64, 2) := by decide +kernel
theorem dX12_thief_31 : decode cX12_thief 31 = .ok (.if_icmp .ge 44, 3) := by decide +kernel
theorem dX12_thief_34 : decode cX12_thief 34 = .ok (.iload 5, 2) := by decide +kernel
theorem dX12_thief_36 : decode cX12_thief 36 = .ok (.invokestatic 316, 3) := by decide +kernel
theorem dX12_thief_39 : decode cX12_thief 39 = .ok (.iconst 3, 1) := by decide +kernel
theorem dX12_thief_40 : decode cX12_thief 40 = .ok (.if_icmp .ne 29, 3) := by decide +kernel
theorem dX12_thief_43 : decode cX12_thief 43 = .ok (.aload_n 0, 1) := by decide +kernel
theorem dX12_thief_44 : decode cX12_thief 44 = .ok (.iload_n 1, 1) := by decide +kernel
theorem dX12_thief_45 : decode cX12_thief 45 = .ok (.iload_n 2, 1) := by decide +kernel
theorem dX12_thief_46 : decode cX12_thief 46 = .ok (.iload 5, 2) := by decide +kernel
theorem dX12_thief_48 : decode cX12_thief 48 = .ok (.invokevirtual 319, 3) := by decide +kernel
theorem dX12_thief_51 : decode cX12_thief 51 = .ok (.ifCond .ne 6, 3) := by decide +kernel
theorem dX12_thief_54 : decode cX12_thief 54 = .ok (.goto 15, 3) := by decide +kernel
theorem dX12_thief_57 : decode cX12_thief 57 = .ok (.iload 4, 2) := by decide +kernel
theorem dX12_thief_59 : decode cX12_thief 59 = .ok (.iload_n 3, 1) := by decide +kernel
theorem dX12_thief_60 : decode cX12_thief 60 = .ok (.if_icmp .ne 6, 3) := by decide +kernel
theorem dX12_thief_63 : decode cX12_thief 63 = .ok (.iload 5, 2) := by decide +kernel
theorem dX12_thief_65 : decode cX12_thief 65 = .ok (.ireturn, 1) := by decide +kernel
theorem dX12_thief_66 : decode cX12_thief 66 = .ok (.iinc 4 1, 3) := by decide +kernel
theorem dX12_thief_69 : decode cX12_thief 69 = .ok (.iinc 5 1, 3) := by decide +kernel
theorem dX12_thief_72 : decode cX12_thief 72 = .ok (.goto (-45), 3) := by decide +kernel
theorem dX12_thief_75 : decode cX12_thief 75 = .ok (.iload_n 3, 1) := by decide +kernel
theorem dX12_thief_76 : decode cX12_thief 76 = .ok (.iconst (-1), 1) := by decide +kernel
theorem dX12_thief_77 : decode cX12_thief 77 = .ok (.if_icmp .ne 8, 3) := by decide +kernel
theorem dX12_thief_80 : decode cX12_thief 80 = .ok (.iload 4, 2) := by decide +kernel
theorem dX12_thief_82 : decode cX12_thief 82 = .ok (.goto 4, 3) := by decide +kernel
theorem dX12_thief_85 : decode cX12_thief 85 = .ok (.iconst (-1), 1) := by decide +kernel
theorem dX12_thief_86 : decode cX12_thief 86 = .ok (.ireturn, 1) := by decide +kernel
theorem dX12_findAll_0 : decode cX12_findAll 0 = .ok (.iconst 0, 1) := by decide +kernel
theorem dX12_findAll_1 : decode cX12_findAll 1 = .ok (.istore_n 1, 1) := by decide +kernel
theorem dX12_findAll_2 : decode cX12_findAll 2 = .ok (.iload_n 1, 1) := by decide +kernel
theorem dX12_findAll_3 : decode cX12_findAll 3 = .ok (.sipush 300, 3) := by decide +kernel
theorem dX12_findAll_6 : decode cX12_findAll 6 = .ok (.if_icmp .ge 71, 3) := by decide +kernel
theorem dX12_findAll_9 : decode cX12_findAll 9 = .ok (.iconst 0, 1) := by decide +kernel
theorem dX12_findAll_10 : decode cX12_findAll 10 = .ok (.istore_n 2, 1) := by decide +kernel
theorem dX12_findAll_11 : decode cX12_findAll 11 = .ok (.iload_n 2, 1) := by decide +kernel
theorem dX12_findAll_12 : decode cX12_findAll 12 = .ok (.aload_n 0, 1) := by decide +kernel
theorem dX12_findAll_13 : decode cX12_findAll 13 = .ok (.getfield 7, 3) := by decide +kernel
theorem dX12_findAll_16 : decode cX12_findAll 16 = .ok (.iconst 0, 1) := by decide +kernel
theorem dX12_findAll_17 : decode cX12_findAll 17 = .ok (.iaload, 1) := by decide +kernel
theorem dX12_findAll_18 : decode cX12_findAll 18 = .ok (.if_icmp .ge 53, 3) := by decide +kernel
theorem dX12_findAll_21 : decode cX12_findAll 21 = .ok (.aload_n 0, 1) := by decide +kernel
theorem dX12_findAll_22 : decode cX12_findAll 22 = .ok (.aload_n 0, 1) := by decide +kernel
theorem dX12_findAll_23 : decode cX12_findAll 23 = .ok (.getfield 7, 3) := by decide +kernel
theorem dX12_findAll_26 : decode cX12_findAll 26 = .ok (.bipush 7, 2) := by decide +kernel
theorem dX12_findAll_28 : decode cX12_findAll 28 = .ok (.iaload, 1) := by decide +kernel
theorem dX12_findAll_29 : decode cX12_findAll 29 = .ok (.iload_n 2, 1) := by decide +kernel
theorem dX12_findAll_30 : decode cX12_findAll 30 = .ok (.iload_n 1, 1) := by decide +kernel
theorem dX12_findAll_31 : decode cX12_findAll 31 = .ok (.iconst 0, 1) := by decide +kernel
theorem dX12_findAll_32 : decode cX12_findAll 32 = .ok (.invokevirtual 280, 3) := by decide +kernel
theorem dX12_findAll_35 : decode cX12_findAll 35 = .ok (.aload_n 0, 1) := by decide +kernel
theorem dX12_findAll_36 : decode cX12_findAll 36 = .ok (.getfield 55, 3) := by decide +kernel
theorem dX12_findAll_39 : decode cX12_findAll 39 = .ok (.bipush 6, 2) := by decide +kernel
theorem dX12_findAll_41 : decode cX12_findAll 41 = .ok (.iload_n 1, 1) := by decide +kernel
theorem dX12_findAll_42 : decode cX12_findAll 42 = .ok (.imul, 1) := by decide +kernel
theorem dX12_findAll_43 : decode cX12_findAll 43 = .ok (.iload_n 2, 1) := by decide +kernel
theorem dX12_findAll_44 : decode cX12_findAll 44 = .ok (.iadd, 1) := by decide +kernel
theorem dX12_findAll_45 : decode cX12_findAll 45 = .ok (.aload_n 0, 1) := by decide +kernel
theorem dX12_findAll_46 : decode cX12_findAll 46 = .ok (.getfield 268, 3) := by decide +kernel
theorem dX12_findAll_49 : decode cX12_findAll 49 = .ok (.iastore, 1) := by decide +kernel
theorem dX12_findAll_50 : decode cX12_findAll 50 = .ok (.aload_n 0, 1) := by decide +kernel
theorem dX12_findAll_51 : decode cX12_findAll 51 = .ok (.getfield 58, 3) := by decide +kernel
theorem dX12_findAll_54 : decode cX12_findAll 54 = .ok (.bipush 6, 2) := by decide +kernel
theorem dX12_findAll_56 : decode cX12_findAll 56 = .ok (.iload_n 1, 1) := by decide +kernel
theorem dX12_findAll_57 : decode cX12_findAll 57 = .ok (.imul, 1) := by decide +kernel
theorem dX12_findAll_58 : decode cX12_findAll 58 = .ok (.iload_n 2, 1) := by decide +kernel
theorem dX12_findAll_59 : decode cX12_findAll 59 = .ok (.iadd, 1) := by decide +kernel
theorem dX12_findAll_60 : decode cX12_findAll 60 = .ok (.aload_n 0, 1) := by decide +kernel
theorem dX12_findAll_61 : decode cX12_findAll 61 = .ok (.getfield 277, 3) := by decide +kernel
theorem dX12_findAll_64 : decode cX12_findAll 64 = .ok (.iastore, 1) := by decide +kernel
theorem dX12_findAll_65 : decode cX12_findAll 65 = .ok (.iinc 2 1, 3) := by decide +kernel
theorem dX12_findAll_68 : decode cX12_findAll 68 = .ok (.goto (-57), 3) := by decide +kernel
theorem dX12_findAll_71 : decode cX12_findAll 71 = .ok (.iinc 1 1, 3) := by decide +kernel
theorem dX12_findAll_74 : decode cX12_findAll 74 = .ok (.goto (-72), 3) := by decide +kernel
theorem dX12_findAll_77 : decode cX12_findAll 77 = .ok (.return_, 1) := by decide +kernel
theorem dX12_never_0 : decode cX12_never 0 = .ok (.aload_n 0, 1) := by decide +kernel
theorem dX12_never_1 : decode cX12_never 1 = .ok (.invokevirtual 309, 3) := by decide +kernel
theorem dX12_never_4 : decode cX12_never 4 = .ok (.iconst 0, 1) := by decide +kernel
theorem dX12_never_5 : decode cX12_never 5 = .ok (.istore_n 1, 1) := by decide +kernel
theorem dX12_never_6 : decode cX12_never 6 = .ok (.iconst 0, 1) := by decide +kernel
theorem dX12_never_7 : decode cX12_never 7 = .ok (.istore_n 2, 1) := by decide +kernel
theorem dX12_never_8 : decode cX12_never 8 = .ok (.iload_n 2, 1) := by decide +kernel
theorem dX12_never_9 : decode cX12_never 9 = .ok (.aload_n 0, 1) := by decide +kernel
theorem dX12_never_10 : decode cX12_never 10 = .ok (.getfield 7, 3) := by decide +kernel
theorem dX12_never_13 : decode cX12_never 13 = .ok (.iconst 2, 1) := by decide +kernel
theorem dX12_never_14 : decode cX12_never 14 = .ok (.iaload, 1) := by decide +kernel
theorem dX12_never_15 : decode cX12_never 15 = .ok (.if_icmp .ge 97, 3) := by decide +kernel
theorem dX12_never_18 : decode cX12_never 18 = .ok (.iconst 1, 1) := by decide +kernel
theorem dX12_never_19 : decode cX12_never 19 = .ok (.istore_n 3, 1) := by decide +kernel
theorem dX12_never_20 : decode cX12_never 20 = .ok (.iconst 0, 1) := by decide +kernel
theorem dX12_never_21 : decode cX12_never 21 = .ok (.istore 4, 2) := by decide +kernel
theorem dX12_never_23 : decode cX12_never 23 = .ok (.iload 4, 2) := by decide +kernel
theorem dX12_never_25 : decode cX12_never 25 = .ok (.sipush 300, 3) := by decide +kernel
theorem dX12_never_28 : decode cX12_never 28 = .ok (.if_icmp .ge 64, 3) := by decide +kernel
theorem dX12_never_31 : decode cX12_never 31 = .ok (.iconst 0, 1) := by decide +kernel
theorem dX12_never_32 : decode cX12_never 32 = .ok (.istore 5, 2) := by decide +kernel
theorem dX12_never_34 : decode cX12_never 34 = .ok (.iload 5, 2) := by decide +kernel
theorem dX12_never_36 : decode cX12_never 36 = .ok (.aload_n 0, 1) := by decide +kernel
theorem dX12_never_37 : decode cX12_never 37 = .ok (.getfield 7, 3) := by decide +kernel
theorem dX12_never_40 : decode cX12_never 40 = .ok (.iconst 0, 1) := by decide +kernel
theorem dX12_never_41 : decode cX12_never 41 = .ok (.iaload, 1) := by decide +kernel
theorem dX12_never_42 : decode cX12_never 42 = .ok (.if_icmp .ge 44, 3) := by decide +kernel
theorem dX12_never_45 : decode cX12_never 45 = .ok (.iload_n 3, 1) := by decide +kernel
theorem dX12_never_46 : decode cX12_never 46 = .ok (.ifCond .eq 32, 3) := by decide +kernel
theorem dX12_never_49 : decode cX12_never 49 = .ok (.aload_n 0, 1) := by decide +kernel
theorem dX12_never_50 : decode cX12_never 50 = .ok (.getfield 55, 3) := by decide +kernel
theorem dX12_never_53 : decode cX12_never 53 = .ok (.bipush 6, 2) := by decide +kernel
theorem dX12_never_55 : decode cX12_never 55 = .ok (.iload 4, 2) := by decide +kernel
theorem dX12_never_57 : decode cX12_never 57 = .ok (.imul, 1) := by decide +kernel
theorem dX12_never_58 : decode cX12_never 58 = .ok (.iload 5, 2) := by decide +kernel
theorem dX12_never_60 : decode cX12_never 60 = .ok (.iadd, 1) := by decide +kernel
theorem dX12_never_61 : decode cX12_never 61 = .ok (.iaload, 1) := by decide +kernel
theorem dX12_never_62 : decode cX12_never 62 = .ok (.aload_n 0, 1) := by decide +kernel
theorem dX12_never_63 : decode cX12_never 63 = .ok (.getfield 7, 3) := by decide +kernel
theorem dX12_never_66 : decode cX12_never 66 = .ok (.bipush 24, 2) := by decide +kernel
theorem dX12_never_68 : decode cX12_never 68 = .ok (.iload_n 2, 1) := by decide +kernel
theorem dX12_never_69 : decode cX12_never 69 = .ok (.iadd, 1) := by decide +kernel
theorem dX12_never_70 : decode cX12_never 70 = .ok (.iaload, 1) := by decide +kernel
theorem dX12_never_71 : decode cX12_never 71 = .ok (.if_icmp .eq 7, 3) := by decide +kernel
theorem dX12_never_74 : decode cX12_never 74 = .ok (.iconst 1, 1) := by decide +kernel
theorem dX12_never_75 : decode cX12_never 75 = .ok (.goto 4, 3) := by decide +kernel
theorem dX12_never_78 : decode cX12_never 78 = .ok (.iconst 0, 1) := by decide +kernel
theorem dX12_never_79 : decode cX12_never 79 = .ok (.istore_n 3, 1) := by decide +kernel
theorem dX12_never_80 : decode cX12_never 80 = .ok (.iinc 5 1, 3) := by decide +kernel
theorem dX12_never_83 : decode cX12_never 83 = .ok (.goto (-49), 3) := by decide +kernel
theorem dX12_never_86 : decode cX12_never 86 = .ok (.iinc 4 1, 3) := by decide +kernel
theorem dX12_never_89 : decode cX12_never 89 = .ok (.goto (-66), 3) := by decide +kernel
theorem dX12_never_92 : decode cX12_never 92 = .ok (.iload_n 1, 1) := by decide +kernel
theorem dX12_never_93 : decode cX12_never 93 = .ok (.iload_n 3, 1) := by decide +kernel
theorem dX12_never_94 : decode cX12_never 94 = .ok (.ifCond .eq 9, 3) := by decide +kernel
theorem dX12_never_97 : decode cX12_never 97 = .ok (.iconst 1, 1) := by decide +kernel
theorem dX12_never_98 : decode cX12_never 98 = .ok (.iload_n 2, 1) := by decide +kernel
theorem dX12_never_99 : decode cX12_never 99 = .ok (.ishl, 1) := by decide +kernel
theorem dX12_never_100 : decode cX12_never 100 = .ok (.goto 4, 3) := by decide +kernel
theorem dX12_never_103 : decode cX12_never 103 = .ok (.iconst 0, 1) := by decide +kernel
theorem dX12_never_104 : decode cX12_never 104 = .ok (.ior, 1) := by decide +kernel
theorem dX12_never_105 : decode cX12_never 105 = .ok (.istore_n 1, 1) := by decide +kernel
theorem dX12_never_106 : decode cX12_never 106 = .ok (.iinc 2 1, 3) := by decide +kernel
theorem dX12_never_109 : decode cX12_never 109 = .ok (.goto (-101), 3) := by decide +kernel
theorem dX12_never_112 : decode cX12_never 112 = .ok (.iload_n 1, 1) := by decide +kernel
theorem dX12_never_113 : decode cX12_never 113 = .ok (.ireturn, 1) := by decide +kernel
theorem dX12_least_0 : decode cX12_least 0 = .ok (.iload_n 1, 1) := by decide +kernel
theorem dX12_least_1 : decode cX12_least 1 = .ok (.invokestatic 75, 3) := by decide +kernel
theorem dX12_least_4 : decode cX12_least 4 = .ok (.ifCond .eq 10, 3) := by decide +kernel
theorem dX12_least_7 : decode cX12_least 7 = .ok (.iload_n 2, 1) := by decide +kernel
theorem dX12_least_8 : decode cX12_least 8 = .ok (.invokestatic 75, 3) := by decide +kernel
theorem dX12_least_11 : decode cX12_least 11 = .ok (.ifCond .ne 5, 3) := by decide +kernel
theorem dX12_least_14 : decode cX12_least 14 = .ok (.iconst (-1), 1) := by decide +kernel
theorem dX12_least_15 : decode cX12_least 15 = .ok (.ireturn, 1) := by decide +kernel
theorem dX12_least_16 : decode cX12_least 16 = .ok (.aload_n 0, 1) := by decide +kernel
theorem dX12_least_17 : decode cX12_least 17 = .ok (.invokevirtual 309, 3) := by decide +kernel
theorem dX12_least_20 : decode cX12_least 20 = .ok (.iconst 0, 1) := by decide +kernel
theorem dX12_least_21 : decode cX12_least 21 = .ok (.istore 4, 2) := by decide +kernel
theorem dX12_least_23 : decode cX12_least 23 = .ok (.iload 4, 2) := by decide +kernel
theorem dX12_least_25 : decode cX12_least 25 = .ok (.sipush 300, 3) := by decide +kernel
theorem dX12_least_28 : decode cX12_least 28 = .ok (.if_icmp .ge 19, 3) := by decide +kernel
theorem dX12_least_31 : decode cX12_least 31 = .ok (.aload_n 0, 1) := by decide +kernel
theorem dX12_least_32 : decode cX12_least 32 = .ok (.getfield 61, 3) := by decide +kernel
theorem dX12_least_35 : decode cX12_least 35 = .ok (.iload 4, 2) := by decide +kernel
theorem dX12_least_37 : decode cX12_least 37 = .ok (.ldc_w 312, 3) := by decide +kernel
theorem dX12_least_40 : decode cX12_least 40 = .ok (.iastore, 1) := by decide +kernel
theorem dX12_least_41 : decode cX12_least 41 = .ok (.iinc 4 1, 3) := by decide +kernel
theorem dX12_least_44 : decode cX12_least 44 = .ok (.goto (-21), 3) := by decide +kernel
theorem dX12_least_47 : decode cX12_least 47 = .ok (.aload_n 0, 1) := by decide +kernel
theorem dX12_least_48 : decode cX12_least 48 = .ok (.getfield 61, 3) := by decide +kernel
theorem dX12_least_51 : decode cX12_least 51 = .ok (.iload_n 1, 1) := by decide +kernel
theorem dX12_least_52 : decode cX12_least 52 = .ok (.iconst 0, 1) := by decide +kernel
theorem dX12_least_53 : decode cX12_least 53 = .ok (.iastore, 1) := by decide +kernel
theorem dX12_least_54 : decode cX12_least 54 = .ok (.iload_n 1, 1) := by decide +kernel
theorem dX12_least_55 : decode cX12_least 55 = .ok (.istore 4, 2) := by decide +kernel
theorem dX12_least_57 : decode cX12_least 57 = .ok (.iload 4, 2) := by decide +kernel
theorem dX12_least_59 : decode cX12_least 59 = .ok (.iload_n 2, 1) := by decide +kernel
theorem dX12_least_60 : decode cX12_least 60 = .ok (.if_icmp .ge 114, 3) := by decide +kernel
theorem dX12_least_63 : decode cX12_least 63 = .ok (.iconst 0, 1) := by decide +kernel
theorem dX12_least_64 : decode cX12_least 64 = .ok (.istore 5, 2) := by decide +kernel
theorem dX12_least_66 : decode cX12_least 66 = .ok (.iload 5, 2) := by decide +kernel
theorem dX12_least_68 : decode cX12_least 68 = .ok (.aload_n 0, 1) := by decide +kernel
theorem dX12_least_69 : decode cX12_least 69 = .ok (.getfield 7, 3) := by decide +kernel
theorem dX12_least_72 : decode cX12_least 72 = .ok (.iconst 0, 1) := by decide +kernel
theorem dX12_least_73 : decode cX12_least 73 = .ok (.iaload, 1) := by decide +kernel
theorem dX12_least_74 : decode cX12_least 74 = .ok (.if_icmp .ge 94, 3) := by decide +kernel
theorem dX12_least_77 : decode cX12_least 77 = .ok (.aload_n 0, 1) := by decide +kernel
theorem dX12_least_78 : decode cX12_least 78 = .ok (.getfield 61, 3) := by decide +kernel
theorem dX12_least_81 : decode cX12_least 81 = .ok (.iload 4, 2) := by decide +kernel
theorem dX12_least_83 : decode cX12_least 83 = .ok (.iaload, 1) := by decide +kernel
theorem dX12_least_84 : decode cX12_least 84 = .ok (.ldc_w 312, 3) := by decide +kernel
theorem dX12_least_87 : decode cX12_least 87 = .ok (.if_icmp .ge 81, 3) := by decide +kernel
theorem dX12_least_90 : decode cX12_least 90 = .ok (.aload_n 0, 1) := by decide +kernel
theorem dX12_least_91 : decode cX12_least 91 = .ok (.getfield 55, 3) := by decide +kernel
theorem dX12_least_94 : decode cX12_least 94 = .ok (.bipush 6, 2) := by decide +kernel
theorem dX12_least_96 : decode cX12_least 96 = .ok (.iload 4, 2) := by decide +kernel
theorem dX12_least_98 : decode cX12_least 98 = .ok (.imul, 1) := by decide +kernel
theorem dX12_least_99 : decode cX12_least 99 = .ok (.iload 5, 2) := by decide +kernel
theorem dX12_least_101 : decode cX12_least 101 = .ok (.iadd, 1) := by decide +kernel
theorem dX12_least_102 : decode cX12_least 102 = .ok (.iaload, 1) := by decide +kernel
theorem dX12_least_103 : decode cX12_least 103 = .ok (.istore 6, 2) := by decide +kernel
theorem dX12_least_105 : decode cX12_least 105 = .ok (.aload_n 0, 1) := by decide +kernel
theorem dX12_least_106 : decode cX12_least 106 = .ok (.getfield 61, 3) := by decide +kernel
theorem dX12_least_109 : decode cX12_least 109 = .ok (.iload 4, 2) := by decide +kernel
theorem dX12_least_111 : decode cX12_least 111 = .ok (.iaload, 1) := by decide +kernel
theorem dX12_least_112 : decode cX12_least 112 = .ok (.sipush 1000, 3) := by decide +kernel
theorem dX12_least_115 : decode cX12_least 115 = .ok (.aload_n 0, 1) := by decide +kernel
theorem dX12_least_116 : decode cX12_least 116 = .ok (.getfield 58, 3) := by decide +kernel
theorem dX12_least_119 : decode cX12_least 119 = .ok (.bipush 6, 2) := by decide +kernel
theorem dX12_least_121 : decode cX12_least 121 = .ok (.iload 4, 2) := by decide +kernel
theorem dX12_least_123 : decode cX12_least 123 = .ok (.imul, 1) := by decide +kernel
theorem dX12_least_124 : decode cX12_least 124 = .ok (.iload 5, 2) := by decide +kernel
theorem dX12_least_126 : decode cX12_least 126 = .ok (.iadd, 1) := by decide +kernel
theorem dX12_least_127 : decode cX12_least 127 = .ok (.iaload, 1) := by decide +kernel
theorem dX12_least_128 : decode cX12_least 128 = .ok (.imul, 1) := by decide +kernel
theorem dX12_least_129 : decode cX12_least 129 = .ok (.iadd, 1) := by decide +kernel
theorem dX12_least_130 : decode cX12_least 130 = .ok (.iconst 1, 1) := by decide +kernel
theorem dX12_least_131 : decode cX12_least 131 = .ok (.iadd, 1) := by decide +kernel
theorem dX12_least_132 : decode cX12_least 132 = .ok (.istore 7, 2) := by decide +kernel
theorem dX12_least_134 : decode cX12_least 134 = .ok (.iload 7, 2) := by decide +kernel
theorem dX12_least_136 : decode cX12_least 136 = .ok (.aload_n 0, 1) := by decide +kernel
theorem dX12_least_137 : decode cX12_least 137 = .ok (.getfield 61, 3) := by decide +kernel
theorem dX12_least_140 : decode cX12_least 140 = .ok (.iload 6, 2) := by decide +kernel
theorem dX12_least_142 : decode cX12_least 142 = .ok (.iaload, 1) := by decide +kernel
theorem dX12_least_143 : decode cX12_least 143 = .ok (.if_icmp .ge 19, 3) := by decide +kernel
theorem dX12_least_146 : decode cX12_least 146 = .ok (.iload 6, 2) := by decide +kernel
theorem dX12_least_148 : decode cX12_least 148 = .ok (.iload 4, 2) := by decide +kernel
theorem dX12_least_150 : decode cX12_least 150 = .ok (.if_icmp .le 12, 3) := by decide +kernel
theorem dX12_least_153 : decode cX12_least 153 = .ok (.aload_n 0, 1) := by decide +kernel
theorem dX12_least_154 : decode cX12_least 154 = .ok (.getfield 61, 3) := by decide +kernel
theorem dX12_least_157 : decode cX12_least 157 = .ok (.iload 6, 2) := by decide +kernel
theorem dX12_least_159 : decode cX12_least 159 = .ok (.iload 7, 2) := by decide +kernel
theorem dX12_least_161 : decode cX12_least 161 = .ok (.iastore, 1) := by decide +kernel
theorem dX12_least_162 : decode cX12_least 162 = .ok (.iinc 5 1, 3) := by decide +kernel
theorem dX12_least_165 : decode cX12_least 165 = .ok (.goto (-99), 3) := by decide +kernel
theorem dX12_least_168 : decode cX12_least 168 = .ok (.iinc 4 1, 3) := by decide +kernel
theorem dX12_least_171 : decode cX12_least 171 = .ok (.goto (-114), 3) := by decide +kernel
theorem dX12_least_174 : decode cX12_least 174 = .ok (.aload_n 0, 1) := by decide +kernel
theorem dX12_least_175 : decode cX12_least 175 = .ok (.getfield 61, 3) := by decide +kernel
theorem dX12_least_178 : decode cX12_least 178 = .ok (.iload_n 2, 1) := by decide +kernel
theorem dX12_least_179 : decode cX12_least 179 = .ok (.iaload, 1) := by decide +kernel
theorem dX12_least_180 : decode cX12_least 180 = .ok (.ldc_w 312, 3) := by decide +kernel
theorem dX12_least_183 : decode cX12_least 183 = .ok (.if_icmp .lt 5, 3) := by decide +kernel
theorem dX12_least_186 : decode cX12_least 186 = .ok (.iconst (-1), 1) := by decide +kernel
theorem dX12_least_187 : decode cX12_least 187 = .ok (.ireturn, 1) := by decide +kernel
theorem dX12_least_188 : decode cX12_least 188 = .ok (.iload_n 3, 1) := by decide +kernel
theorem dX12_least_189 : decode cX12_least 189 = .ok (.ifCond .eq 16, 3) := by decide +kernel
theorem dX12_least_192 : decode cX12_least 192 = .ok (.aload_n 0, 1) := by decide +kernel
theorem dX12_least_193 : decode cX12_least 193 = .ok (.getfield 61, 3) := by decide +kernel
theorem dX12_least_196 : decode cX12_least 196 = .ok (.iload_n 2, 1) := by decide +kernel
theorem dX12_least_197 : decode cX12_least 197 = .ok (.iaload, 1) := by decide +kernel
theorem dX12_least_198 : decode cX12_least 198 = .ok (.sipush 1000, 3) := by decide +kernel
theorem dX12_least_201 : decode cX12_least 201 = .ok (.irem, 1) := by decide +kernel
theorem dX12_least_202 : decode cX12_least 202 = .ok (.goto 13, 3) := by decide +kernel
theorem dX12_least_205 : decode cX12_least 205 = .ok (.aload_n 0, 1) := by decide +kernel
theorem dX12_least_206 : decode cX12_least 206 = .ok (.getfield 61, 3) := by decide +kernel
theorem dX12_least_209 : decode cX12_least 209 = .ok (.iload_n 2, 1) := by decide +kernel
theorem dX12_least_210 : decode cX12_least 210 = .ok (.iaload, 1) := by decide +kernel
theorem dX12_least_211 : decode cX12_least 211 = .ok (.sipush 1000, 3) := by decide +kernel
theorem dX12_least_214 : decode cX12_least 214 = .ok (.idiv, 1) := by decide +kernel
theorem dX12_least_215 : decode cX12_least 215 = .ok (.ireturn, 1) := by decide +kernel
theorem dX12_orders_0 : decode cX12_orders 0 = .ok (.iconst 0, 1) := by decide +kernel
theorem dX12_orders_1 : decode cX12_orders 1 = .ok (.istore_n 2, 1) := by decide +kernel
theorem dX12_orders_2 : decode cX12_orders 2 = .ok (.iload_n 2, 1) := by decide +kernel
theorem dX12_orders_3 : decode cX12_orders 3 = .ok (.bipush 64, 2) := by decide +kernel
theorem dX12_orders_5 : decode cX12_orders 5 = .ok (.if_icmp .ge 24, 3) := by decide +kernel
theorem dX12_orders_8 : decode cX12_orders 8 = .ok (.aload_n 0, 1) := by decide +kernel
theorem dX12_orders_9 : decode cX12_orders 9 = .ok (.getfield 64, 3) := by decide +kernel
theorem dX12_orders_12 : decode cX12_orders 12 = .ok (.iload_n 2, 1) := by decide +kernel
theorem dX12_orders_13 : decode cX12_orders 13 = .ok (.iload_n 2, 1) := by decide +kernel
theorem dX12_orders_14 : decode cX12_orders 14 = .ok (.ifCond .ne 7, 3) := by decide +kernel
theorem dX12_orders_17 : decode cX12_orders 17 = .ok (.iconst 1, 1) := by decide +kernel
theorem dX12_orders_18 : decode cX12_orders 18 = .ok (.goto 4, 3) := by decide +kernel
theorem dX12_orders_21 : decode cX12_orders 21 = .ok (.iconst 0, 1) := by decide +kernel
theorem dX12_orders_22 : decode cX12_orders 22 = .ok (.iastore, 1) := by decide +kernel
theorem dX12_orders_23 : decode cX12_orders 23 = .ok (.iinc 2 1, 3) := by decide +kernel
theorem dX12_orders_26 : decode cX12_orders 26 = .ok (.goto (-24), 3) := by decide +kernel
theorem dX12_orders_29 : decode cX12_orders 29 = .ok (.iconst 0, 1) := by decide +kernel
theorem dX12_orders_30 : decode cX12_orders 30 = .ok (.istore_n 2, 1) := by decide +kernel
theorem dX12_orders_31 : decode cX12_orders 31 = .ok (.iload_n 2, 1) := by decide +kernel
theorem dX12_orders_32 : decode cX12_orders 32 = .ok (.aload_n 0, 1) := by decide +kernel
theorem dX12_orders_33 : decode cX12_orders 33 = .ok (.getfield 7, 3) := by decide +kernel
theorem dX12_orders_36 : decode cX12_orders 36 = .ok (.bipush 9, 2) := by decide +kernel
theorem dX12_orders_38 : decode cX12_orders 38 = .ok (.iaload, 1) := by decide +kernel
theorem dX12_orders_39 : decode cX12_orders 39 = .ok (.if_icmp .ge 100, 3) := by decide +kernel
theorem dX12_orders_42 : decode cX12_orders 42 = .ok (.aload_n 0, 1) := by decide +kernel
theorem dX12_orders_43 : decode cX12_orders 43 = .ok (.iload_n 1, 1) := by decide +kernel
theorem dX12_orders_44 : decode cX12_orders 44 = .ok (.iload_n 2, 1) := by decide +kernel
theorem dX12_orders_45 : decode cX12_orders 45 = .ok (.invokevirtual 322, 3) := by decide +kernel
theorem dX12_orders_48 : decode cX12_orders 48 = .ok (.istore_n 3, 1) := by decide +kernel
theorem dX12_orders_49 : decode cX12_orders 49 = .ok (.bipush 63, 2) := by decide +kernel
theorem dX12_orders_51 : decode cX12_orders 51 = .ok (.istore 4, 2) := by decide +kernel
theorem dX12_orders_53 : decode cX12_orders 53 = .ok (.iload 4, 2) := by decide +kernel
theorem dX12_orders_55 : decode cX12_orders 55 = .ok (.ifCond .lt 78, 3) := by decide +kernel
theorem dX12_orders_58 : decode cX12_orders 58 = .ok (.iload 4, 2) := by decide +kernel
theorem dX12_orders_60 : decode cX12_orders 60 = .ok (.invokestatic 316, 3) := by decide +kernel
theorem dX12_orders_63 : decode cX12_orders 63 = .ok (.iload_n 2, 1) := by decide +kernel
theorem dX12_orders_64 : decode cX12_orders 64 = .ok (.if_icmp .eq 6, 3) := by decide +kernel
theorem dX12_orders_67 : decode cX12_orders 67 = .ok (.goto 60, 3) := by decide +kernel
theorem dX12_orders_70 : decode cX12_orders 70 = .ok (.iconst 0, 1) := by decide +kernel
theorem dX12_orders_71 : decode cX12_orders 71 = .ok (.istore 5, 2) := by decide +kernel
theorem dX12_orders_73 : decode cX12_orders 73 = .ok (.iload 5, 2) := by decide +kernel
theorem dX12_orders_75 : decode cX12_orders 75 = .ok (.bipush 6, 2) := by decide +kernel
theorem dX12_orders_77 : decode cX12_orders 77 = .ok (.if_icmp .ge 50, 3) := by decide +kernel
theorem dX12_orders_80 : decode cX12_orders 80 = .ok (.iload_n 3, 1) := by decide +kernel
theorem dX12_orders_81 : decode cX12_orders 81 = .ok (.iload 5, 2) := by decide +kernel
theorem dX12_orders_83 : decode cX12_orders 83 = .ok (.invokestatic 325, 3) := by decide +kernel
theorem dX12_orders_86 : decode cX12_orders 86 = .ok (.ifCond .eq 35, 3) := by decide +kernel
theorem dX12_orders_89 : decode cX12_orders 89 = .ok (.iload 4, 2) := by decide +kernel
theorem dX12_orders_91 : decode cX12_orders 91 = .ok (.iload 5, 2) := by decide +kernel
theorem dX12_orders_93 : decode cX12_orders 93 = .ok (.invokestatic 325, 3) := by decide +kernel
theorem dX12_orders_96 : decode cX12_orders 96 = .ok (.ifCond .ne 25, 3) := by decide +kernel
theorem dX12_orders_99 : decode cX12_orders 99 = .ok (.aload_n 0, 1) := by decide +kernel
theorem dX12_orders_100 : decode cX12_orders 100 = .ok (.getfield 64, 3) := by decide +kernel
theorem dX12_orders_103 : decode cX12_orders 103 = .ok (.iload 4, 2) := by decide +kernel
theorem dX12_orders_105 : decode cX12_orders 105 = .ok (.iconst 1, 1) := by decide +kernel
theorem dX12_orders_106 : decode cX12_orders 106 = .ok (.iload 5, 2) := by decide +kernel
theorem dX12_orders_108 : decode cX12_orders 108 = .ok (.ishl, 1) := by decide +kernel
theorem dX12_orders_109 : decode cX12_orders 109 = .ok (.ior, 1) := by decide +kernel
theorem dX12_orders_110 : decode cX12_orders 110 = .ok (.dup2, 1) := by decide +kernel
theorem dX12_orders_111 : decode cX12_orders 111 = .ok (.iaload, 1) := by decide +kernel
theorem dX12_orders_112 : decode cX12_orders 112 = .ok (.aload_n 0, 1) := by decide +kernel
theorem dX12_orders_113 : decode cX12_orders 113 = .ok (.getfield 64, 3) := by decide +kernel
theorem dX12_orders_116 : decode cX12_orders 116 = .ok (.iload 4, 2) := by decide +kernel
theorem dX12_orders_118 : decode cX12_orders 118 = .ok (.iaload, 1) := by decide +kernel
theorem dX12_orders_119 : decode cX12_orders 119 = .ok (.iadd, 1) := by decide +kernel
theorem dX12_orders_120 : decode cX12_orders 120 = .ok (.iastore, 1) := by decide +kernel
theorem dX12_orders_121 : decode cX12_orders 121 = .ok (.iinc 5 1, 3) := by decide +kernel
theorem dX12_orders_124 : decode cX12_orders 124 = .ok (.goto (-51), 3) := by decide +kernel
theorem dX12_orders_127 : decode cX12_orders 127 = .ok (.iinc 4 (-1), 3) := by decide +kernel
theorem dX12_orders_130 : decode cX12_orders 130 = .ok (.goto (-77), 3) := by decide +kernel
theorem dX12_orders_133 : decode cX12_orders 133 = .ok (.iinc 2 1, 3) := by decide +kernel
theorem dX12_orders_136 : decode cX12_orders 136 = .ok (.goto (-105), 3) := by decide +kernel
theorem dX12_orders_139 : decode cX12_orders 139 = .ok (.iconst 0, 1) := by decide +kernel
theorem dX12_orders_140 : decode cX12_orders 140 = .ok (.istore_n 2, 1) := by decide +kernel
theorem dX12_orders_141 : decode cX12_orders 141 = .ok (.iconst 0, 1) := by decide +kernel
theorem dX12_orders_142 : decode cX12_orders 142 = .ok (.istore_n 3, 1) := by decide +kernel
theorem dX12_orders_143 : decode cX12_orders 143 = .ok (.iload_n 3, 1) := by decide +kernel
theorem dX12_orders_144 : decode cX12_orders 144 = .ok (.bipush 64, 2) := by decide +kernel
theorem dX12_orders_146 : decode cX12_orders 146 = .ok (.if_icmp .ge 36, 3) := by decide +kernel
theorem dX12_orders_149 : decode cX12_orders 149 = .ok (.iload_n 2, 1) := by decide +kernel
theorem dX12_orders_150 : decode cX12_orders 150 = .ok (.iload_n 3, 1) := by decide +kernel
theorem dX12_orders_151 : decode cX12_orders 151 = .ok (.invokestatic 316, 3) := by decide +kernel
theorem dX12_orders_154 : decode cX12_orders 154 = .ok (.aload_n 0, 1) := by decide +kernel
theorem dX12_orders_155 : decode cX12_orders 155 = .ok (.getfield 7, 3) := by decide +kernel
theorem dX12_orders_158 : decode cX12_orders 158 = .ok (.bipush 9, 2) := by decide +kernel
theorem dX12_orders_160 : decode cX12_orders 160 = .ok (.iaload, 1) := by decide +kernel
theorem dX12_orders_161 : decode cX12_orders 161 = .ok (.if_icmp .ne 12, 3) := by decide +kernel
theorem dX12_orders_164 : decode cX12_orders 164 = .ok (.aload_n 0, 1) := by decide +kernel
theorem dX12_orders_165 : decode cX12_orders 165 = .ok (.getfield 64, 3) := by decide +kernel
theorem dX12_orders_168 : decode cX12_orders 168 = .ok (.iload_n 3, 1) := by decide +kernel
theorem dX12_orders_169 : decode cX12_orders 169 = .ok (.iaload, 1) := by decide +kernel
theorem dX12_orders_170 : decode cX12_orders 170 = .ok (.goto 4, 3) := by decide +kernel
theorem dX12_orders_173 : decode cX12_orders 173 = .ok (.iconst 0, 1) := by decide +kernel
theorem dX12_orders_174 : decode cX12_orders 174 = .ok (.iadd, 1) := by decide +kernel
theorem dX12_orders_175 : decode cX12_orders 175 = .ok (.istore_n 2, 1) := by decide +kernel
theorem dX12_orders_176 : decode cX12_orders 176 = .ok (.iinc 3 1, 3) := by decide +kernel
theorem dX12_orders_179 : decode cX12_orders 179 = .ok (.goto (-36), 3) := by decide +kernel
theorem dX12_orders_182 : decode cX12_orders 182 = .ok (.iload_n 2, 1) := by decide +kernel
theorem dX12_orders_183 : decode cX12_orders 183 = .ok (.ireturn, 1) := by decide +kernel
theorem dX12_who_0 : decode cX12_who 0 = .ok (.iload_n 1, 1) := by decide +kernel
theorem dX12_who_1 : decode cX12_who 1 = .ok (.invokestatic 75, 3) := by decide +kernel
theorem dX12_who_4 : decode cX12_who 4 = .ok (.ifCond .eq 20, 3) := by decide +kernel
theorem dX12_who_7 : decode cX12_who 7 = .ok (.iload_n 2, 1) := by decide +kernel
theorem dX12_who_8 : decode cX12_who 8 = .ok (.iconst (-1), 1) := by decide +kernel
theorem dX12_who_9 : decode cX12_who 9 = .ok (.aload_n 0, 1) := by decide +kernel
theorem dX12_who_10 : decode cX12_who 10 = .ok (.getfield 7, 3) := by decide +kernel
theorem dX12_who_13 : decode cX12_who 13 = .ok (.bipush 9, 2) := by decide +kernel
theorem dX12_who_15 : decode cX12_who 15 = .ok (.iaload, 1) := by decide +kernel
theorem dX12_who_16 : decode cX12_who 16 = .ok (.iconst 1, 1) := by decide +kernel
theorem dX12_who_17 : decode cX12_who 17 = .ok (.isub, 1) := by decide +kernel
theorem dX12_who_18 : decode cX12_who 18 = .ok (.invokestatic 71, 3) := by decide +kernel
theorem dX12_who_21 : decode cX12_who 21 = .ok (.ifCond .ne 6, 3) := by decide +kernel
theorem dX12_who_24 : decode cX12_who 24 = .ok (.bipush (-2), 2) := by decide +kernel
theorem dX12_who_26 : decode cX12_who 26 = .ok (.ireturn, 1) := by decide +kernel
theorem dX12_who_27 : decode cX12_who 27 = .ok (.iload_n 2, 1) := by decide +kernel
theorem dX12_who_28 : decode cX12_who 28 = .ok (.iconst (-1), 1) := by decide +kernel
theorem dX12_who_29 : decode cX12_who 29 = .ok (.if_icmp .ne 11, 3) := by decide +kernel
theorem dX12_who_32 : decode cX12_who 32 = .ok (.aload_n 0, 1) := by decide +kernel
theorem dX12_who_33 : decode cX12_who 33 = .ok (.iload_n 1, 1) := by decide +kernel
theorem dX12_who_34 : decode cX12_who 34 = .ok (.invokevirtual 329, 3) := by decide +kernel
theorem dX12_who_37 : decode cX12_who 37 = .ok (.goto 9, 3) := by decide +kernel
theorem dX12_who_40 : decode cX12_who 40 = .ok (.aload_n 0, 1) := by decide +kernel
theorem dX12_who_41 : decode cX12_who 41 = .ok (.iload_n 1, 1) := by decide +kernel
theorem dX12_who_42 : decode cX12_who 42 = .ok (.iload_n 2, 1) := by decide +kernel
theorem dX12_who_43 : decode cX12_who 43 = .ok (.invokevirtual 322, 3) := by decide +kernel
theorem dX12_who_46 : decode cX12_who 46 = .ok (.ireturn, 1) := by decide +kernel
theorem bw_73 : Cond.selects "CountingHorsesModel" ⟨"CountingHorsesModel", "findAll", "()V"⟩ ⟨"CountingHorsesModel", "findAll", "()V"⟩ ∈ BW := bw_at 73 (by decide +kernel) (by decide +kernel)
theorem bw_74 : Cond.selects "CountingHorsesModel" ⟨"CountingHorsesModel", "isThief", "(III)Z"⟩ ⟨"CountingHorsesModel", "isThief", "(III)Z"⟩ ∈ BW := bw_at 74 (by decide +kernel) (by decide +kernel)
theorem bw_76 : Cond.selects "CountingHorsesModel" ⟨"CountingHorsesModel", "orders", "(I)I"⟩ ⟨"CountingHorsesModel", "orders", "(I)I"⟩ ∈ BW := bw_at 76 (by decide +kernel) (by decide +kernel)
theorem bw_1016 : Cond.methodLink "CountingHorsesModel" 67 ⟨"CountingHorsesModel", "copy", "([I[I)V"⟩ ∈ BW := bw_at 1016 (by decide +kernel) (by decide +kernel)
theorem bw_1017 : Cond.static ⟨"CountingHorsesModel", "copy", "([I[I)V"⟩ ∈ BW := bw_at 1017 (by decide +kernel) (by decide +kernel)
theorem bw_1018 : Cond.code ⟨"CountingHorsesModel", "copy", "([I[I)V"⟩ prog_14_method_2_code 3 none ∈ BW := bw_at 1018 (by decide +kernel) (by decide +kernel)
theorem bw_1020 : Cond.fieldLink "CountingHorsesModel" 13 "CountingHorsesModel" "image" "[I" ∈ BW := bw_at 1020 (by decide +kernel) (by decide +kernel)
theorem bw_1051 : Cond.fieldLink "CountingHorsesModel" 61 "CountingHorsesModel" "cost" "[I" ∈ BW := bw_at 1051 (by decide +kernel) (by decide +kernel)
theorem bw_1052 : Cond.fieldLink "CountingHorsesModel" 64 "CountingHorsesModel" "ways" "[I" ∈ BW := bw_at 1052 (by decide +kernel) (by decide +kernel)
theorem bw_1403 : Cond.methodLink "CountingHorsesModel" 309 ⟨"CountingHorsesModel", "findAll", "()V"⟩ ∈ BW := bw_at 1403 (by decide +kernel) (by decide +kernel)
theorem bw_1405 : Cond.instanceMethod ⟨"CountingHorsesModel", "findAll", "()V"⟩ ∈ BW := bw_at 1405 (by decide +kernel) (by decide +kernel)
theorem bw_1406 : Cond.code ⟨"CountingHorsesModel", "findAll", "()V"⟩ prog_14_method_75_code 3 none ∈ BW := bw_at 1406 (by decide +kernel) (by decide +kernel)
theorem bw_1407 : Cond.constant "CountingHorsesModel" 312 400000000 ∈ BW := bw_at 1407 (by decide +kernel) (by decide +kernel)
theorem bw_1412 : Cond.methodLink "CountingHorsesModel" 316 ⟨"CountingHorsesModel", "bits", "(I)I"⟩ ∈ BW := bw_at 1412 (by decide +kernel) (by decide +kernel)
theorem bw_1413 : Cond.static ⟨"CountingHorsesModel", "bits", "(I)I"⟩ ∈ BW := bw_at 1413 (by decide +kernel) (by decide +kernel)
theorem bw_1414 : Cond.code ⟨"CountingHorsesModel", "bits", "(I)I"⟩ prog_14_method_6_code 3 (some .int) ∈ BW := bw_at 1414 (by decide +kernel) (by decide +kernel)
theorem bw_1415 : Cond.methodLink "CountingHorsesModel" 319 ⟨"CountingHorsesModel", "isThief", "(III)Z"⟩ ∈ BW := bw_at 1415 (by decide +kernel) (by decide +kernel)
theorem bw_1417 : Cond.instanceMethod ⟨"CountingHorsesModel", "isThief", "(III)Z"⟩ ∈ BW := bw_at 1417 (by decide +kernel) (by decide +kernel)
theorem bw_1418 : Cond.code ⟨"CountingHorsesModel", "isThief", "(III)Z"⟩ prog_14_method_77_code 7 (some .boolean) ∈ BW := bw_at 1418 (by decide +kernel) (by decide +kernel)
theorem bw_1431 : Cond.methodLink "CountingHorsesModel" 329 ⟨"CountingHorsesModel", "orders", "(I)I"⟩ ∈ BW := bw_at 1431 (by decide +kernel) (by decide +kernel)
theorem bw_1433 : Cond.instanceMethod ⟨"CountingHorsesModel", "orders", "(I)I"⟩ ∈ BW := bw_at 1433 (by decide +kernel) (by decide +kernel)
theorem bw_1434 : Cond.code ⟨"CountingHorsesModel", "orders", "(I)I"⟩ prog_14_method_81_code 6 (some .int) ∈ BW := bw_at 1434 (by decide +kernel) (by decide +kernel)
theorem zl_862 : (862 : Int32).toInt = 862 := by decide
theorem zl_464 : (464 : Int32).toInt = 464 := by decide
theorem zl_82 : (82 : Int32).toInt = 82 := by decide
theorem zl_382 : (382 : Int32).toInt = 382 := by decide
theorem zl_398 : (398 : Int32).toInt = 398 := by decide
theorem zl_400000000 : (400000000 : Int32).toInt = 400000000 := by decide
theorem zl_63 : (63 : Int32).toInt = 63 := by decide
set_option maxHeartbeats 4000000 in
set_option maxRecDepth 100000 in
theorem lp_X12_copy {p : Program} (l : Launch) {e : Env} {s : State} {m : MethodId} {below : List Frame} {meth : Method} {c : Code} {A : Nat → Prop} (D : va_G) (cI cM cT : ClassId) (fA : Nat) (tA : Nat) (f : Nat → Int32) (g : Nat → Int32) (Z : Zx p s m ([.ref fA, .ref tA] : List Value).toArray meth c cX12_copy 3 none yX12_copy.cls A (ty3 cI cM cT) D) : ∀ (n0 : Nat) (i : Nat) (h : Nat → Int32) (h0 : i ≤ 862) (hh : ∀ j, j < i → h j = f j), 862 - i < n0 → ∀ (H : Heap) (locs : List Loc) (ls : Array Slot), va_P D vwCl ([(fA, .inl (cI, 862, .inl f)), (tA, .inl (cI, 862, .inl h))]) H → va_D A ([(fA, .inl (cI, 862, .inl f)), (tA, .inl (cI, 862, .inl h))]) → va_S A s.heap H locs → lv_has ls 3 [(0, .ref fA), (1, .ref tA), (2, .int (nI i))] → W p l e (rmv 0 0 0) s m ([.ref fA, .ref tA] : List Value).toArray below meth c H locs 0 0 (MQ below (va_Qv (fun u => ∃ (h : Nat → Int32), u = [(fA, .inl (cI, 862, .inl f)), (tA, .inl (cI, 862, .inl h))] ∧ ∀ j, j < 862 → h j = f j) (cB D (ty3 cI cM cT) A) A) ([.ref fA, .ref tA] : List Value).toArray s 0 0 A) (F0 m 2 ls []) := by
  have hx := Z.1
  have hb := Z.2.1
  intro n0
  induction n0 with
  | zero => intro i h h0 hh hm; exact absurd hm (Nat.not_lt_zero _)
  | succ n0 ih =>
    intro i h h0 hh hm H locs ls hP hD hS hl
    have ei : (nI i).toInt = (i : Int) := nI_toInt (by omega)
    refine lv_iload_n hx hb dX12_copy_2 rfl (lv_at hl 2 rfl) ?_
    refine lv_sipush (v := 862) hx hb dX12_copy_3 (by decide) ?_
    refine lv_icmp_ge (tgt := 21) hx hb dX12_copy_6 (by decide) (fun c1 => ?_) (fun c1 => ?_)
    · exact z_vret Z hP hD hS (⟨h, rfl, fun j hj => hh j (by (try simp only [zlt, zle, zeq, zl_0, zl_1, zl_2, zl_3, zl_4, zl_5, zl_6, zl_7, zl_8, zl_9, zl_10, zl_11, zl_12, zl_13, zl_19, zl_20, zl_30, zl_64, zl_99, zl_100, zl_299, zl_300, zl_399, zl_999, zl_9999, zl_m1, zl_m2, zl_m3, zl_32, zl_280, zl_862, zl_464, zl_82, zl_382, zl_398, zl_400000000, zl_63] at ei h0 hm c1 ⊢); omega)⟩) dX12_copy_21 (Nat.le_of_ble_eq_true rfl) (Nat.le_of_ble_eq_true rfl)
    · refine lv_aload_n hx hb dX12_copy_9 rfl (lv_at hl 1 rfl) ?_
      refine lv_iload_n hx hb dX12_copy_10 rfl (lv_at hl 2 rfl) ?_
      refine lv_aload_n hx hb dX12_copy_11 rfl (lv_at hl 0 rfl) ?_
      refine lv_iload_n hx hb dX12_copy_12 rfl (lv_at hl 2 rfl) ?_
      refine z_iald Z hP 0 0 rfl rfl (vp_in_nI (by (try simp only [zlt, zle, zeq, zl_0, zl_1, zl_2, zl_3, zl_4, zl_5, zl_6, zl_7, zl_8, zl_9, zl_10, zl_11, zl_12, zl_13, zl_19, zl_20, zl_30, zl_64, zl_99, zl_100, zl_299, zl_300, zl_399, zl_999, zl_9999, zl_m1, zl_m2, zl_m3, zl_32, zl_280, zl_862, zl_464, zl_82, zl_382, zl_398, zl_400000000, zl_63] at ei h0 hm c1 ⊢); omega) (by omega)) dX12_copy_13 ?_
      refine lv_topi (fun z2 ez2 => ?_)
      refine z_iast Z hP hD hS 1 0 rfl rfl (vp_in_nI (by (try simp only [zlt, zle, zeq, zl_0, zl_1, zl_2, zl_3, zl_4, zl_5, zl_6, zl_7, zl_8, zl_9, zl_10, zl_11, zl_12, zl_13, zl_19, zl_20, zl_30, zl_64, zl_99, zl_100, zl_299, zl_300, zl_399, zl_999, zl_9999, zl_m1, zl_m2, zl_m3, zl_32, zl_280, zl_862, zl_464, zl_82, zl_382, zl_398, zl_400000000, zl_63] at ei h0 hm c1 ⊢); omega) (by omega)) dX12_copy_14 (fun H locs hP hD hS => ?_)
      rw [nI_clamp (by omega)] at hP hD
      have hP : va_P D vwCl ([(fA, .inl (cI, 862, .inl f)), (tA, .inl (cI, 862, .inl (upd h i z2)))]) H := hP
      have hD : va_D A ([(fA, .inl (cI, 862, .inl f)), (tA, .inl (cI, 862, .inl (upd h i z2)))]) := hD
      refine lv_iinc (v := (nI (i + 1))) (lv' := [(2, .int (nI (i + 1))), (0, .ref fA), (1, .ref tA)]) hx hb dX12_copy_15 hl (k := 2) rfl (nI_1 i) (by decide) rfl (fun ls hl => ?_)
      refine lv_goto (tgt := 2) hx hb dX12_copy_18 (by decide) ?_
      exact ih (i + 1) (upd h i z2) (by (try simp only [zlt, zle, zeq, zl_0, zl_1, zl_2, zl_3, zl_4, zl_5, zl_6, zl_7, zl_8, zl_9, zl_10, zl_11, zl_12, zl_13, zl_19, zl_20, zl_30, zl_64, zl_99, zl_100, zl_299, zl_300, zl_399, zl_999, zl_9999, zl_m1, zl_m2, zl_m3, zl_32, zl_280, zl_862, zl_464, zl_82, zl_382, zl_398, zl_400000000, zl_63] at ei h0 hm c1 ⊢); omega) (upd_ext (P := fun j v => v = f j) hh (by rw [ez2, nI_clamp (by omega)])) (by (try simp only [zlt, zle, zeq, zl_0, zl_1, zl_2, zl_3, zl_4, zl_5, zl_6, zl_7, zl_8, zl_9, zl_10, zl_11, zl_12, zl_13, zl_19, zl_20, zl_30, zl_64, zl_99, zl_100, zl_299, zl_300, zl_399, zl_999, zl_9999, zl_m1, zl_m2, zl_m3, zl_32, zl_280, zl_862, zl_464, zl_82, zl_382, zl_398, zl_400000000, zl_63] at ei h0 hm c1 ⊢); omega) _ _ _ hP hD hS (lv_sub hl [1, 2, 0] rfl)
set_option maxHeartbeats 4000000 in
set_option maxRecDepth 100000 in
theorem c_X12_copy (l : Launch) (D : va_G) (cI cM cT : ClassId) (fA : Nat) (tA : Nat) (f : Nat → Int32) (g : Nat → Int32) : Cv l D (ty3 cI cM cT) yX12_copy cX12_copy 3 0 0 0 [.ref fA, .ref tA] ([(fA, .inl (cI, 862, .inl f)), (tA, .inl (cI, 862, .inl g))]) (fun u => ∃ (h : Nat → Int32), u = [(fA, .inl (cI, 862, .inl f)), (tA, .inl (cI, 862, .inl h))] ∧ ∀ j, j < 862 → h j = f j) := by
  refine Cv.of (by decide +kernel) (Nat.le_of_ble_eq_true rfl) ?_
  intro p e s m below meth c A ls Z hin hP hD hl
  have hx := Z.1
  have hb := Z.2.1
  have hS : va_S A s.heap s.heap [] := va_S.rf
  have hl : lv_has ls 3 [(0, .ref fA), (1, .ref tA)] := hl
  skip
  refine lv_iconst (v := 0) hx hb dX12_copy_0 (by decide) ?_
  refine lv_istore_n (lv' := [(2, .int 0), (0, .ref fA), (1, .ref tA)]) hx hb dX12_copy_1 rfl hl (by decide) rfl (fun ls hl => ?_)
  refine W.widen (k := 0) (n := 0) (Nat.le_of_ble_eq_true rfl) (Nat.le_of_ble_eq_true rfl) ?_
  exact lp_X12_copy l D cI cM cT fA tA f g Z   _ 0 g (Nat.zero_le _) (fun j hj => absurd hj (Nat.not_lt_zero j)) (Nat.lt_succ_self _) _ _ _ hP hD hS (lv_sub hl [1, 2, 0] rfl)
set_option maxHeartbeats 4000000 in
set_option maxRecDepth 100000 in
theorem c_X12_image (l : Launch) (D : va_G) (cI cM cT : ClassId) (q : Nat) (aA : Nat) (aI : Nat) (aT : Nat) (aP : Nat) (pI : Nat) (nM : Nat) (vA : Nat) (tR : Nat) (rW : Nat) (sP : Nat) (oA : Nat) (bS : Nat) (aS : Nat) (aO : Nat) (cS : Nat) (wY : Nat) (gi : Nat → Int32) : Ci l D (ty3 cI cM cT) yX12_image cX12_image 1 (some .int) 3 0 0 [.ref q] ([(q, .inr (12, [.ref aA, .ref aI, .ref aT, .ref aP, .int 0, .int (-1), .int (-1), .int 0, .int 0, .int 0, .int 0, .long 0, .int 0, .int 0, .int 0, .int 0, .ref pI, .int 0, .int 0, .int 0, .int 0, .int 0, .ref nM, .ref vA, .ref tR, .int 0, .int 0, .int 0, .ref rW, .ref sP, .ref oA, .ref bS, .ref aS, .ref aO, .ref cS, .ref wY])), (aA, .inl (cI, 862, .inl af0)), (aI, .inl (cI, 862, .inl gi))]) (fun r u => r = 0) := by
  refine Ci.of (by decide +kernel) (Nat.le_of_ble_eq_true rfl) ?_
  intro p e s m below meth c A ls Z hin hP hD hl
  have hx := Z.1
  have hb := Z.2.1
  have hS : va_S A s.heap s.heap [] := va_S.rf
  have hl : lv_has ls 1 [(0, .ref q)] := hl
  skip
  refine lv_aload_n hx hb dX12_image_0 rfl (lv_at hl 0 rfl) ?_
  refine z_get Z i_X12 hP 0 rfl rfl 0 (by decide) bw_1019 rfl dX12_image_1 ?_
  refine lv_aload_n hx hb dX12_image_4 rfl (lv_at hl 0 rfl) ?_
  refine z_get Z i_X12 hP 0 rfl rfl 1 (by decide) bw_1020 rfl dX12_image_5 ?_
  have hPc := hP.sub2 (wc := [(aA, .inl (cI, 862, .inl af0)), (aI, .inl (cI, 862, .inl gi))]) [1, 2] rfl
  have hDc := hD.sub (ws' := [(aA, .inl (cI, 862, .inl af0)), (aI, .inl (cI, 862, .inl gi))]) [1, 2] (by decide) rfl
  refine raw_Sv (nA := 2) (As := [.ref aA, .ref aI]) (rest := []) Z hl.1 (c_X12_copy l D cI cM cT aA aI af0 gi) (bw_S bw_1016 bw_1017 bw_92 bw_1018) ⟨by decide +kernel, by decide +kernel, by decide +kernel⟩ rfl ⟨Nat.le_of_ble_eq_true rfl, Nat.le_of_ble_eq_true rfl⟩ hPc hDc hS rfl (Nat.le_of_ble_eq_true rfl) dX12_image_8 ⟨Nat.le_of_ble_eq_true rfl, Nat.le_of_ble_eq_true rfl⟩ (fun u1 H1 locs1 h3 hku1 hP1 hD1 hS1 => ?_)
  obtain ⟨h_4, rfl, huh3_0⟩ := h3
  obtain ⟨hP, hD⟩ := z_join (wr := [(q, .inr (12, [.ref aA, .ref aI, .ref aT, .ref aP, .int 0, .int (-1), .int (-1), .int 0, .int 0, .int 0, .int 0, .long 0, .int 0, .int 0, .int 0, .int 0, .ref pI, .int 0, .int 0, .int 0, .int 0, .int 0, .ref nM, .ref vA, .ref tR, .int 0, .int 0, .int 0, .ref rW, .ref sP, .ref oA, .ref bS, .ref aS, .ref aO, .ref cS, .ref wY]))]) Z hS hP hD [1, 2] [0] rfl (by decide) rfl (by decide) (by decide) hku1 hP1 hD1
  have hS := hS1
  clear hS1
  generalize H1 = H at hP hS ⊢
  generalize locs1 = locs at hS ⊢
  have hP : va_P D vwCl ([(q, .inr (12, [.ref aA, .ref aI, .ref aT, .ref aP, .int 0, .int (-1), .int (-1), .int 0, .int 0, .int 0, .int 0, .long 0, .int 0, .int 0, .int 0, .int 0, .ref pI, .int 0, .int 0, .int 0, .int 0, .int 0, .ref nM, .ref vA, .ref tR, .int 0, .int 0, .int 0, .ref rW, .ref sP, .ref oA, .ref bS, .ref aS, .ref aO, .ref cS, .ref wY])), (aA, .inl (cI, 862, .inl af0)), (aI, .inl (cI, 862, .inl h_4))]) H := hP
  have hD : va_D A ([(q, .inr (12, [.ref aA, .ref aI, .ref aT, .ref aP, .int 0, .int (-1), .int (-1), .int 0, .int 0, .int 0, .int 0, .long 0, .int 0, .int 0, .int 0, .int 0, .ref pI, .int 0, .int 0, .int 0, .int 0, .int 0, .ref nM, .ref vA, .ref tR, .int 0, .int 0, .int 0, .ref rW, .ref sP, .ref oA, .ref bS, .ref aS, .ref aO, .ref cS, .ref wY])), (aA, .inl (cI, 862, .inl af0)), (aI, .inl (cI, 862, .inl h_4))]) := hD
  refine lv_aload_n hx hb dX12_image_11 rfl (lv_at hl 0 rfl) ?_
  refine z_get Z i_X12 hP 0 rfl rfl 0 (by decide) bw_1019 rfl dX12_image_12 ?_
  refine lv_bipush (v := 12) hx hb dX12_image_15 (by decide) ?_
  refine z_iald Z hP 1 0 rfl rfl (vin (by decide)) dX12_image_17 ?_
  refine z_topi (y := 0) rfl ?_
  exact z_ret Z rfl hP hD hS ((by first | rfl | assumption)) dX12_image_18 (Nat.le_of_ble_eq_true rfl) (Nat.le_of_ble_eq_true rfl)
set_option maxHeartbeats 4000000 in
set_option maxRecDepth 100000 in
theorem c_X12_back (l : Launch) (D : va_G) (cI cM cT : ClassId) (q : Nat) (aA : Nat) (aI : Nat) (aT : Nat) (aP : Nat) (pI : Nat) (nM : Nat) (vA : Nat) (tR : Nat) (rW : Nat) (sP : Nat) (oA : Nat) (bS : Nat) (aS : Nat) (aO : Nat) (cS : Nat) (wY : Nat) (gi : Nat → Int32) (hgi : ∀ j, j < 862 → gi j = af0 j) : Ci l D (ty3 cI cM cT) yX12_back cX12_back 1 (some .int) 3 0 0 [.ref q] ([(q, .inr (12, [.ref aA, .ref aI, .ref aT, .ref aP, .int 0, .int (-1), .int (-1), .int 0, .int 0, .int 0, .int 0, .long 0, .int 0, .int 0, .int 0, .int 0, .ref pI, .int 0, .int 0, .int 0, .int 0, .int 0, .ref nM, .ref vA, .ref tR, .int 0, .int 0, .int 0, .ref rW, .ref sP, .ref oA, .ref bS, .ref aS, .ref aO, .ref cS, .ref wY])), (aA, .inl (cI, 862, .inl af0)), (aI, .inl (cI, 862, .inl gi))]) (fun r u => r = 0) := by
  refine Ci.of (by decide +kernel) (Nat.le_of_ble_eq_true rfl) ?_
  intro p e s m below meth c A ls Z hin hP hD hl
  have hx := Z.1
  have hb := Z.2.1
  have hS : va_S A s.heap s.heap [] := va_S.rf
  have hl : lv_has ls 1 [(0, .ref q)] := hl
  skip
  refine lv_aload_n hx hb dX12_back_0 rfl (lv_at hl 0 rfl) ?_
  refine z_get Z i_X12 hP 0 rfl rfl 1 (by decide) bw_1020 rfl dX12_back_1 ?_
  refine lv_aload_n hx hb dX12_back_4 rfl (lv_at hl 0 rfl) ?_
  refine z_get Z i_X12 hP 0 rfl rfl 0 (by decide) bw_1019 rfl dX12_back_5 ?_
  have hPc := hP.sub2 (wc := [(aI, .inl (cI, 862, .inl gi)), (aA, .inl (cI, 862, .inl af0))]) [2, 1] rfl
  have hDc := hD.sub (ws' := [(aI, .inl (cI, 862, .inl gi)), (aA, .inl (cI, 862, .inl af0))]) [2, 1] (by decide) rfl
  refine raw_Sv (nA := 2) (As := [.ref aI, .ref aA]) (rest := []) Z hl.1 (c_X12_copy l D cI cM cT aI aA gi af0) (bw_S bw_1016 bw_1017 bw_92 bw_1018) ⟨by decide +kernel, by decide +kernel, by decide +kernel⟩ rfl ⟨Nat.le_of_ble_eq_true rfl, Nat.le_of_ble_eq_true rfl⟩ hPc hDc hS rfl (Nat.le_of_ble_eq_true rfl) dX12_back_8 ⟨Nat.le_of_ble_eq_true rfl, Nat.le_of_ble_eq_true rfl⟩ (fun u1 H1 locs1 h3 hku1 hP1 hD1 hS1 => ?_)
  obtain ⟨h_4, rfl, huh3_0⟩ := h3
  obtain ⟨hP, hD⟩ := z_join (wr := [(q, .inr (12, [.ref aA, .ref aI, .ref aT, .ref aP, .int 0, .int (-1), .int (-1), .int 0, .int 0, .int 0, .int 0, .long 0, .int 0, .int 0, .int 0, .int 0, .ref pI, .int 0, .int 0, .int 0, .int 0, .int 0, .ref nM, .ref vA, .ref tR, .int 0, .int 0, .int 0, .ref rW, .ref sP, .ref oA, .ref bS, .ref aS, .ref aO, .ref cS, .ref wY]))]) Z hS hP hD [2, 1] [0] rfl (by decide) rfl (by decide) (by decide) hku1 hP1 hD1
  have hS := hS1
  clear hS1
  generalize H1 = H at hP hS ⊢
  generalize locs1 = locs at hS ⊢
  have hP : va_P D vwCl ([(q, .inr (12, [.ref aA, .ref aI, .ref aT, .ref aP, .int 0, .int (-1), .int (-1), .int 0, .int 0, .int 0, .int 0, .long 0, .int 0, .int 0, .int 0, .int 0, .ref pI, .int 0, .int 0, .int 0, .int 0, .int 0, .ref nM, .ref vA, .ref tR, .int 0, .int 0, .int 0, .ref rW, .ref sP, .ref oA, .ref bS, .ref aS, .ref aO, .ref cS, .ref wY])), (aI, .inl (cI, 862, .inl gi)), (aA, .inl (cI, 862, .inl h_4))]) H := hP
  have hD : va_D A ([(q, .inr (12, [.ref aA, .ref aI, .ref aT, .ref aP, .int 0, .int (-1), .int (-1), .int 0, .int 0, .int 0, .int 0, .long 0, .int 0, .int 0, .int 0, .int 0, .ref pI, .int 0, .int 0, .int 0, .int 0, .int 0, .ref nM, .ref vA, .ref tR, .int 0, .int 0, .int 0, .ref rW, .ref sP, .ref oA, .ref bS, .ref aS, .ref aO, .ref cS, .ref wY])), (aI, .inl (cI, 862, .inl gi)), (aA, .inl (cI, 862, .inl h_4))]) := hD
  refine lv_aload_n hx hb dX12_back_11 rfl (lv_at hl 0 rfl) ?_
  refine z_get Z i_X12 hP 0 rfl rfl 0 (by decide) bw_1019 rfl dX12_back_12 ?_
  refine lv_bipush (v := 12) hx hb dX12_back_15 (by decide) ?_
  refine z_iald Z hP 2 0 rfl rfl (vin (by decide)) dX12_back_17 ?_
  refine z_topi (y := 0) ((huh3_0 12 (by decide)).trans (hgi 12 (by decide))) ?_
  exact z_ret Z rfl hP hD hS ((by first | rfl | assumption)) dX12_back_18 (Nat.le_of_ble_eq_true rfl) (Nat.le_of_ble_eq_true rfl)
set_option maxHeartbeats 4000000 in
set_option maxRecDepth 100000 in
theorem lp_X12_mud {p : Program} (l : Launch) {e : Env} {s : State} {m : MethodId} {below : List Frame} {meth : Method} {c : Code} {A : Nat → Prop} (D : va_G) (cI cM cT : ClassId) (q : Nat) (aA : Nat) (aI : Nat) (aT : Nat) (aP : Nat) (pI : Nat) (nM : Nat) (vA : Nat) (tR : Nat) (rW : Nat) (sP : Nat) (oA : Nat) (bS : Nat) (aS : Nat) (aO : Nat) (cS : Nat) (wY : Nat) (p0 : Int32) (p1 : Int32) (p2 : Int32) (Z : Zx p s m ([.ref q, .int p0, .int p1, .int p2] : List Value).toArray meth c cX12_mud 5 (some .boolean) yX12_mud.cls A (ty3 cI cM cT) D) (hc : (0 ≤ p0 ∧ p0 < 300) ∧ (0 ≤ p1 ∧ p1 < 300) ∧ p0 ≤ p1 ∧ (0 ≤ p2 ∧ p2 ≤ 9)) : ∀ (n0 : Nat) (i : Int32) (f : Nat → Int32) (h0 : 0 ≤ i.toInt) (h1 : i.toInt ≤ 300), (300 - i.toInt).toNat < n0 → ∀ (H : Heap) (locs : List Loc) (ls : Array Slot), va_P D vwCl ([(q, .inr (12, [.ref aA, .ref aI, .ref aT, .ref aP, .int 0, .int (-1), .int (-1), .int 0, .int 0, .int 0, .int 0, .long 0, .int 0, .int 0, .int 0, .int 0, .ref pI, .int 0, .int 0, .int 0, .int 0, .int 0, .ref nM, .ref vA, .ref tR, .int 0, .int 0, .int 0, .ref rW, .ref sP, .ref oA, .ref bS, .ref aS, .ref aO, .ref cS, .ref wY])), (aA, .inl (cI, 862, .inl f))]) H → va_D A ([(q, .inr (12, [.ref aA, .ref aI, .ref aT, .ref aP, .int 0, .int (-1), .int (-1), .int 0, .int 0, .int 0, .int 0, .long 0, .int 0, .int 0, .int 0, .int 0, .ref pI, .int 0, .int 0, .int 0, .int 0, .int 0, .ref nM, .ref vA, .ref tR, .int 0, .int 0, .int 0, .ref rW, .ref sP, .ref oA, .ref bS, .ref aS, .ref aO, .ref cS, .ref wY])), (aA, .inl (cI, 862, .inl f))]) → va_S A s.heap H locs → lv_has ls 5 [(0, .ref q), (1, .int p0), (2, .int p1), (3, .int p2), (4, .int i)] → W p l e (rmv 3 0 0) s m ([.ref q, .int p0, .int p1, .int p2] : List Value).toArray below meth c H locs 0 0 (MQ below (va_Qi (fun r u => r = (if (0 ≤ p0 ∧ p0 < 300) ∧ (0 ≤ p1 ∧ p1 < 300) ∧ p0 ≤ p1 ∧ (0 ≤ p2 ∧ p2 ≤ 9) then 1 else 0)) (cB D (ty3 cI cM cT) A) A) ([.ref q, .int p0, .int p1, .int p2] : List Value).toArray s 0 0 A) (F0 m 34 ls []) := by
  have hx := Z.1
  have hb := Z.2.1
  intro n0
  induction n0 with
  | zero => intro i f h0 h1 hm; exact absurd hm (Nat.not_lt_zero _)
  | succ n0 ih =>
    intro i f h0 h1 hm H locs ls hP hD hS hl
    refine lv_iload hx hb dX12_mud_34 (lv_at hl 4 rfl) ?_
    refine lv_iload_n hx hb dX12_mud_36 rfl (lv_at hl 2 rfl) ?_
    refine lv_icmp_gt (tgt := 57) hx hb dX12_mud_37 (by decide) (fun c1 => ?_) (fun c1 => ?_)
    · refine lv_iconst (v := 1) hx hb dX12_mud_57 (by decide) ?_
      exact z_ret Z rfl hP hD hS ((by first | rfl | assumption | (rw [if_pos (by (try simp only [zlt, zle, zeq, zl_0, zl_1, zl_2, zl_3, zl_4, zl_5, zl_6, zl_7, zl_8, zl_9, zl_10, zl_11, zl_12, zl_13, zl_19, zl_20, zl_30, zl_64, zl_99, zl_100, zl_299, zl_300, zl_399, zl_999, zl_9999, zl_m1, zl_m2, zl_m3, zl_32, zl_280, zl_862, zl_464, zl_82, zl_382, zl_398, zl_400000000, zl_63] at hc h0 h1 hm c1 ⊢); omega)]; first | done | ((try simp only [zlt, zle, zeq, zl_0, zl_1, zl_2, zl_3, zl_4, zl_5, zl_6, zl_7, zl_8, zl_9, zl_10, zl_11, zl_12, zl_13, zl_19, zl_20, zl_30, zl_64, zl_99, zl_100, zl_299, zl_300, zl_399, zl_999, zl_9999, zl_m1, zl_m2, zl_m3, zl_32, zl_280, zl_862, zl_464, zl_82, zl_382, zl_398, zl_400000000, zl_63] at hc h0 h1 hm c1 ⊢); omega)) | (rw [if_neg (by (try simp only [zlt, zle, zeq, zl_0, zl_1, zl_2, zl_3, zl_4, zl_5, zl_6, zl_7, zl_8, zl_9, zl_10, zl_11, zl_12, zl_13, zl_19, zl_20, zl_30, zl_64, zl_99, zl_100, zl_299, zl_300, zl_399, zl_999, zl_9999, zl_m1, zl_m2, zl_m3, zl_32, zl_280, zl_862, zl_464, zl_82, zl_382, zl_398, zl_400000000, zl_63] at hc h0 h1 hm c1 ⊢); omega)]; first | done | ((try simp only [zlt, zle, zeq, zl_0, zl_1, zl_2, zl_3, zl_4, zl_5, zl_6, zl_7, zl_8, zl_9, zl_10, zl_11, zl_12, zl_13, zl_19, zl_20, zl_30, zl_64, zl_99, zl_100, zl_299, zl_300, zl_399, zl_999, zl_9999, zl_m1, zl_m2, zl_m3, zl_32, zl_280, zl_862, zl_464, zl_82, zl_382, zl_398, zl_400000000, zl_63] at hc h0 h1 hm c1 ⊢); omega)))) dX12_mud_58 (Nat.le_of_ble_eq_true rfl) (Nat.le_of_ble_eq_true rfl)
    · refine lv_aload_n hx hb dX12_mud_40 rfl (lv_at hl 0 rfl) ?_
      refine z_get Z i_X12 hP 0 rfl rfl 0 (by decide) bw_1019 rfl dX12_mud_41 ?_
      refine lv_bipush (v := 82) hx hb dX12_mud_44 (by decide) ?_
      refine lv_iload hx hb dX12_mud_46 (lv_at hl 4 rfl) ?_
      refine lv_iadd hx hb dX12_mud_48 ?_
      refine lv_iload_n hx hb dX12_mud_49 rfl (lv_at hl 3 rfl) ?_
      refine z_iast Z hP hD hS 1 0 rfl rfl (vp_in_iff.mpr (by have e8 := zt82 (x := i) (by (try simp only [zlt, zle, zeq, zl_0, zl_1, zl_2, zl_3, zl_4, zl_5, zl_6, zl_7, zl_8, zl_9, zl_10, zl_11, zl_12, zl_13, zl_19, zl_20, zl_30, zl_64, zl_99, zl_100, zl_299, zl_300, zl_399, zl_999, zl_9999, zl_m1, zl_m2, zl_m3, zl_32, zl_280, zl_862, zl_464, zl_82, zl_382, zl_398, zl_400000000, zl_63] at hc h0 h1 hm c1 ⊢); omega) (by (try simp only [zlt, zle, zeq, zl_0, zl_1, zl_2, zl_3, zl_4, zl_5, zl_6, zl_7, zl_8, zl_9, zl_10, zl_11, zl_12, zl_13, zl_19, zl_20, zl_30, zl_64, zl_99, zl_100, zl_299, zl_300, zl_399, zl_999, zl_9999, zl_m1, zl_m2, zl_m3, zl_32, zl_280, zl_862, zl_464, zl_82, zl_382, zl_398, zl_400000000, zl_63] at hc h0 h1 hm c1 ⊢); omega); (try simp only [zlt, zle, zeq, zl_0, zl_1, zl_2, zl_3, zl_4, zl_5, zl_6, zl_7, zl_8, zl_9, zl_10, zl_11, zl_12, zl_13, zl_19, zl_20, zl_30, zl_64, zl_99, zl_100, zl_299, zl_300, zl_399, zl_999, zl_9999, zl_m1, zl_m2, zl_m3, zl_32, zl_280, zl_862, zl_464, zl_82, zl_382, zl_398, zl_400000000, zl_63] at hc h0 h1 hm c1 ⊢); omega)) dX12_mud_50 (fun H locs hP hD hS => ?_)
      have hP : va_P D vwCl ([(q, .inr (12, [.ref aA, .ref aI, .ref aT, .ref aP, .int 0, .int (-1), .int (-1), .int 0, .int 0, .int 0, .int 0, .long 0, .int 0, .int 0, .int 0, .int 0, .ref pI, .int 0, .int 0, .int 0, .int 0, .int 0, .ref nM, .ref vA, .ref tR, .int 0, .int 0, .int 0, .ref rW, .ref sP, .ref oA, .ref bS, .ref aS, .ref aO, .ref cS, .ref wY])), (aA, .inl (cI, 862, .inl (upd f ((82 + i) : Int32).toNatClampNeg p2)))]) H := hP
      have hD : va_D A ([(q, .inr (12, [.ref aA, .ref aI, .ref aT, .ref aP, .int 0, .int (-1), .int (-1), .int 0, .int 0, .int 0, .int 0, .long 0, .int 0, .int 0, .int 0, .int 0, .ref pI, .int 0, .int 0, .int 0, .int 0, .int 0, .ref nM, .ref vA, .ref tR, .int 0, .int 0, .int 0, .ref rW, .ref sP, .ref oA, .ref bS, .ref aS, .ref aO, .ref cS, .ref wY])), (aA, .inl (cI, 862, .inl (upd f ((82 + i) : Int32).toNatClampNeg p2)))]) := hD
      refine lv_iinc (v := (i + 1)) (lv' := [(4, .int (i + 1)), (0, .ref q), (1, .int p0), (2, .int p1), (3, .int p2)]) hx hb dX12_mud_51 hl (k := 4) rfl (by rfl) (by decide) rfl (fun ls hl => ?_)
      refine lv_goto (tgt := 34) hx hb dX12_mud_54 (by decide) ?_
      have e9 : (i + 1).toInt = i.toInt + 1 := zinc (by (try simp only [zlt, zle, zeq, zl_0, zl_1, zl_2, zl_3, zl_4, zl_5, zl_6, zl_7, zl_8, zl_9, zl_10, zl_11, zl_12, zl_13, zl_19, zl_20, zl_30, zl_64, zl_99, zl_100, zl_299, zl_300, zl_399, zl_999, zl_9999, zl_m1, zl_m2, zl_m3, zl_32, zl_280, zl_862, zl_464, zl_82, zl_382, zl_398, zl_400000000, zl_63] at hc h0 h1 hm c1 ⊢); omega)
      exact ih (i + 1) (upd f ((82 + i) : Int32).toNatClampNeg p2) (by (try simp only [zlt, zle, zeq, zl_0, zl_1, zl_2, zl_3, zl_4, zl_5, zl_6, zl_7, zl_8, zl_9, zl_10, zl_11, zl_12, zl_13, zl_19, zl_20, zl_30, zl_64, zl_99, zl_100, zl_299, zl_300, zl_399, zl_999, zl_9999, zl_m1, zl_m2, zl_m3, zl_32, zl_280, zl_862, zl_464, zl_82, zl_382, zl_398, zl_400000000, zl_63] at hc h0 h1 hm c1 e9 ⊢); omega) (by (try simp only [zlt, zle, zeq, zl_0, zl_1, zl_2, zl_3, zl_4, zl_5, zl_6, zl_7, zl_8, zl_9, zl_10, zl_11, zl_12, zl_13, zl_19, zl_20, zl_30, zl_64, zl_99, zl_100, zl_299, zl_300, zl_399, zl_999, zl_9999, zl_m1, zl_m2, zl_m3, zl_32, zl_280, zl_862, zl_464, zl_82, zl_382, zl_398, zl_400000000, zl_63] at hc h0 h1 hm c1 e9 ⊢); omega) (by (try simp only [zlt, zle, zeq, zl_0, zl_1, zl_2, zl_3, zl_4, zl_5, zl_6, zl_7, zl_8, zl_9, zl_10, zl_11, zl_12, zl_13, zl_19, zl_20, zl_30, zl_64, zl_99, zl_100, zl_299, zl_300, zl_399, zl_999, zl_9999, zl_m1, zl_m2, zl_m3, zl_32, zl_280, zl_862, zl_464, zl_82, zl_382, zl_398, zl_400000000, zl_63] at hc h0 h1 hm c1 e9 ⊢); omega) _ _ _ hP hD hS (lv_sub hl [1, 2, 3, 4, 0] rfl)
set_option maxHeartbeats 4000000 in
set_option maxRecDepth 100000 in
theorem c_X12_mud (l : Launch) (D : va_G) (cI cM cT : ClassId) (q : Nat) (aA : Nat) (aI : Nat) (aT : Nat) (aP : Nat) (pI : Nat) (nM : Nat) (vA : Nat) (tR : Nat) (rW : Nat) (sP : Nat) (oA : Nat) (bS : Nat) (aS : Nat) (aO : Nat) (cS : Nat) (wY : Nat) (p0 : Int32) (p1 : Int32) (p2 : Int32) : Ci l D (ty3 cI cM cT) yX12_mud cX12_mud 5 (some .boolean) 3 0 0 [.ref q, .int p0, .int p1, .int p2] ([(q, .inr (12, [.ref aA, .ref aI, .ref aT, .ref aP, .int 0, .int (-1), .int (-1), .int 0, .int 0, .int 0, .int 0, .long 0, .int 0, .int 0, .int 0, .int 0, .ref pI, .int 0, .int 0, .int 0, .int 0, .int 0, .ref nM, .ref vA, .ref tR, .int 0, .int 0, .int 0, .ref rW, .ref sP, .ref oA, .ref bS, .ref aS, .ref aO, .ref cS, .ref wY])), (aA, .inl (cI, 862, .inl af0))]) (fun r u => r = (if (0 ≤ p0 ∧ p0 < 300) ∧ (0 ≤ p1 ∧ p1 < 300) ∧ p0 ≤ p1 ∧ (0 ≤ p2 ∧ p2 ≤ 9) then 1 else 0)) := by
  refine Ci.of (by decide +kernel) (Nat.le_of_ble_eq_true rfl) ?_
  intro p e s m below meth c A ls Z hin hP hD hl
  have hx := Z.1
  have hb := Z.2.1
  have hS : va_S A s.heap s.heap [] := va_S.rf
  have hl : lv_has ls 5 [(0, .ref q), (1, .int p0), (2, .int p1), (3, .int p2)] := hl
  skip
  refine lv_iload_n hx hb dX12_mud_0 rfl (lv_at hl 1 rfl) ?_
  have hPc := hP.sub2 (wc := []) [] rfl
  have hDc := hD.sub (ws' := []) [] (by decide) rfl
  refine raw_Si (nA := 1) (As := [.int p0]) (rest := []) Z hl.1 (c_X12_isPlace l D cI cM cT p0) (bw_S bw_1132 bw_1133 bw_92 bw_1134) ⟨by decide +kernel, by decide +kernel, by decide +kernel⟩ rfl ⟨Nat.le_of_ble_eq_true rfl, Nat.le_of_ble_eq_true rfl⟩ hPc hDc hS rfl (Nat.le_of_ble_eq_true rfl) dX12_mud_1 ⟨Nat.le_of_ble_eq_true rfl, Nat.le_of_ble_eq_true rfl⟩ (fun r2 u1 H1 locs1 h3 hku1 hP1 hD1 hS1 => ?_)
  obtain ⟨hrh3, rfl⟩ := h3
  obtain ⟨hP, hD⟩ := z_join (wr := [(q, .inr (12, [.ref aA, .ref aI, .ref aT, .ref aP, .int 0, .int (-1), .int (-1), .int 0, .int 0, .int 0, .int 0, .long 0, .int 0, .int 0, .int 0, .int 0, .ref pI, .int 0, .int 0, .int 0, .int 0, .int 0, .ref nM, .ref vA, .ref tR, .int 0, .int 0, .int 0, .ref rW, .ref sP, .ref oA, .ref bS, .ref aS, .ref aO, .ref cS, .ref wY])), (aA, .inl (cI, 862, .inl af0))]) Z hS hP hD [] [0, 1] rfl (by decide) rfl (by decide) (by decide) hku1 hP1 hD1
  have hS := hS1
  clear hS1
  generalize H1 = H at hP hS ⊢
  generalize locs1 = locs at hS ⊢
  have hP : va_P D vwCl ([(q, .inr (12, [.ref aA, .ref aI, .ref aT, .ref aP, .int 0, .int (-1), .int (-1), .int 0, .int 0, .int 0, .int 0, .long 0, .int 0, .int 0, .int 0, .int 0, .ref pI, .int 0, .int 0, .int 0, .int 0, .int 0, .ref nM, .ref vA, .ref tR, .int 0, .int 0, .int 0, .ref rW, .ref sP, .ref oA, .ref bS, .ref aS, .ref aO, .ref cS, .ref wY])), (aA, .inl (cI, 862, .inl af0))]) H := hP
  have hD : va_D A ([(q, .inr (12, [.ref aA, .ref aI, .ref aT, .ref aP, .int 0, .int (-1), .int (-1), .int 0, .int 0, .int 0, .int 0, .long 0, .int 0, .int 0, .int 0, .int 0, .ref pI, .int 0, .int 0, .int 0, .int 0, .int 0, .ref nM, .ref vA, .ref tR, .int 0, .int 0, .int 0, .ref rW, .ref sP, .ref oA, .ref bS, .ref aS, .ref aO, .ref cS, .ref wY])), (aA, .inl (cI, 862, .inl af0))]) := hD
  by_cases c4 : 0 ≤ p0 ∧ p0 ≤ 299
  · obtain rfl : r2 = 1 := by rw [hrh3, if_pos c4]
    refine lv_if_eq (tgt := 29) hx hb dX12_mud_4 (by decide) (fun h => absurd h (by decide)) (fun c5 => ?_)
    refine lv_iload_n hx hb dX12_mud_7 rfl (lv_at hl 2 rfl) ?_
    have hPc := hP.sub2 (wc := []) [] rfl
    have hDc := hD.sub (ws' := []) [] (by decide) rfl
    refine raw_Si (nA := 1) (As := [.int p1]) (rest := []) Z hl.1 (c_X12_isPlace l D cI cM cT p1) (bw_S bw_1132 bw_1133 bw_92 bw_1134) ⟨by decide +kernel, by decide +kernel, by decide +kernel⟩ rfl ⟨Nat.le_of_ble_eq_true rfl, Nat.le_of_ble_eq_true rfl⟩ hPc hDc hS rfl (Nat.le_of_ble_eq_true rfl) dX12_mud_8 ⟨Nat.le_of_ble_eq_true rfl, Nat.le_of_ble_eq_true rfl⟩ (fun r7 u6 H1 locs1 h8 hku6 hP1 hD1 hS1 => ?_)
    obtain ⟨hrh8, rfl⟩ := h8
    obtain ⟨hP, hD⟩ := z_join (wr := [(q, .inr (12, [.ref aA, .ref aI, .ref aT, .ref aP, .int 0, .int (-1), .int (-1), .int 0, .int 0, .int 0, .int 0, .long 0, .int 0, .int 0, .int 0, .int 0, .ref pI, .int 0, .int 0, .int 0, .int 0, .int 0, .ref nM, .ref vA, .ref tR, .int 0, .int 0, .int 0, .ref rW, .ref sP, .ref oA, .ref bS, .ref aS, .ref aO, .ref cS, .ref wY])), (aA, .inl (cI, 862, .inl af0))]) Z hS hP hD [] [0, 1] rfl (by decide) rfl (by decide) (by decide) hku6 hP1 hD1
    have hS := hS1
    clear hS1
    generalize H1 = H at hP hS ⊢
    generalize locs1 = locs at hS ⊢
    have hP : va_P D vwCl ([(q, .inr (12, [.ref aA, .ref aI, .ref aT, .ref aP, .int 0, .int (-1), .int (-1), .int 0, .int 0, .int 0, .int 0, .long 0, .int 0, .int 0, .int 0, .int 0, .ref pI, .int 0, .int 0, .int 0, .int 0, .int 0, .ref nM, .ref vA, .ref tR, .int 0, .int 0, .int 0, .ref rW, .ref sP, .ref oA, .ref bS, .ref aS, .ref aO, .ref cS, .ref wY])), (aA, .inl (cI, 862, .inl af0))]) H := hP
    have hD : va_D A ([(q, .inr (12, [.ref aA, .ref aI, .ref aT, .ref aP, .int 0, .int (-1), .int (-1), .int 0, .int 0, .int 0, .int 0, .long 0, .int 0, .int 0, .int 0, .int 0, .ref pI, .int 0, .int 0, .int 0, .int 0, .int 0, .ref nM, .ref vA, .ref tR, .int 0, .int 0, .int 0, .ref rW, .ref sP, .ref oA, .ref bS, .ref aS, .ref aO, .ref cS, .ref wY])), (aA, .inl (cI, 862, .inl af0))]) := hD
    by_cases c9 : 0 ≤ p1 ∧ p1 ≤ 299
    · obtain rfl : r7 = 1 := by rw [hrh8, if_pos c9]
      refine lv_if_eq (tgt := 29) hx hb dX12_mud_11 (by decide) (fun h => absurd h (by decide)) (fun c10 => ?_)
      refine lv_iload_n hx hb dX12_mud_14 rfl (lv_at hl 2 rfl) ?_
      refine lv_iload_n hx hb dX12_mud_15 rfl (lv_at hl 1 rfl) ?_
      refine lv_icmp_lt (tgt := 29) hx hb dX12_mud_16 (by decide) (fun c11 => ?_) (fun c11 => ?_)
      · refine lv_iconst (v := 0) hx hb dX12_mud_29 (by decide) ?_
        exact z_ret Z rfl hP hD hS ((by first | rfl | assumption | (rw [if_pos (by (try simp only [zlt, zle, zeq, zl_0, zl_1, zl_2, zl_3, zl_4, zl_5, zl_6, zl_7, zl_8, zl_9, zl_10, zl_11, zl_12, zl_13, zl_19, zl_20, zl_30, zl_64, zl_99, zl_100, zl_299, zl_300, zl_399, zl_999, zl_9999, zl_m1, zl_m2, zl_m3, zl_32, zl_280, zl_862, zl_464, zl_82, zl_382, zl_398, zl_400000000, zl_63] at c4 c5 c9 c10 c11 ⊢); omega)]; first | done | ((try simp only [zlt, zle, zeq, zl_0, zl_1, zl_2, zl_3, zl_4, zl_5, zl_6, zl_7, zl_8, zl_9, zl_10, zl_11, zl_12, zl_13, zl_19, zl_20, zl_30, zl_64, zl_99, zl_100, zl_299, zl_300, zl_399, zl_999, zl_9999, zl_m1, zl_m2, zl_m3, zl_32, zl_280, zl_862, zl_464, zl_82, zl_382, zl_398, zl_400000000, zl_63] at c4 c5 c9 c10 c11 ⊢); omega)) | (rw [if_neg (by (try simp only [zlt, zle, zeq, zl_0, zl_1, zl_2, zl_3, zl_4, zl_5, zl_6, zl_7, zl_8, zl_9, zl_10, zl_11, zl_12, zl_13, zl_19, zl_20, zl_30, zl_64, zl_99, zl_100, zl_299, zl_300, zl_399, zl_999, zl_9999, zl_m1, zl_m2, zl_m3, zl_32, zl_280, zl_862, zl_464, zl_82, zl_382, zl_398, zl_400000000, zl_63] at c4 c5 c9 c10 c11 ⊢); omega)]; first | done | ((try simp only [zlt, zle, zeq, zl_0, zl_1, zl_2, zl_3, zl_4, zl_5, zl_6, zl_7, zl_8, zl_9, zl_10, zl_11, zl_12, zl_13, zl_19, zl_20, zl_30, zl_64, zl_99, zl_100, zl_299, zl_300, zl_399, zl_999, zl_9999, zl_m1, zl_m2, zl_m3, zl_32, zl_280, zl_862, zl_464, zl_82, zl_382, zl_398, zl_400000000, zl_63] at c4 c5 c9 c10 c11 ⊢); omega)))) dX12_mud_30 (Nat.le_of_ble_eq_true rfl) (Nat.le_of_ble_eq_true rfl)
      · refine lv_iload_n hx hb dX12_mud_19 rfl (lv_at hl 3 rfl) ?_
        refine lv_iconst (v := 0) hx hb dX12_mud_20 (by decide) ?_
        refine lv_bipush (v := 9) hx hb dX12_mud_21 (by decide) ?_
        have hPc := hP.sub2 (wc := []) [] rfl
        have hDc := hD.sub (ws' := []) [] (by decide) rfl
        refine raw_Si (nA := 3) (As := [.int p2, .int 0, .int 9]) (rest := []) Z hl.1 (c_X12_isIn l D cI cM cT p2 0 9) (bw_S bw_1135 bw_1136 bw_92 bw_1137) ⟨by decide +kernel, by decide +kernel, by decide +kernel⟩ rfl ⟨Nat.le_of_ble_eq_true rfl, Nat.le_of_ble_eq_true rfl⟩ hPc hDc hS rfl (Nat.le_of_ble_eq_true rfl) dX12_mud_23 ⟨Nat.le_of_ble_eq_true rfl, Nat.le_of_ble_eq_true rfl⟩ (fun r13 u12 H1 locs1 h14 hku12 hP1 hD1 hS1 => ?_)
        obtain ⟨hrh14, rfl⟩ := h14
        obtain ⟨hP, hD⟩ := z_join (wr := [(q, .inr (12, [.ref aA, .ref aI, .ref aT, .ref aP, .int 0, .int (-1), .int (-1), .int 0, .int 0, .int 0, .int 0, .long 0, .int 0, .int 0, .int 0, .int 0, .ref pI, .int 0, .int 0, .int 0, .int 0, .int 0, .ref nM, .ref vA, .ref tR, .int 0, .int 0, .int 0, .ref rW, .ref sP, .ref oA, .ref bS, .ref aS, .ref aO, .ref cS, .ref wY])), (aA, .inl (cI, 862, .inl af0))]) Z hS hP hD [] [0, 1] rfl (by decide) rfl (by decide) (by decide) hku12 hP1 hD1
        have hS := hS1
        clear hS1
        generalize H1 = H at hP hS ⊢
        generalize locs1 = locs at hS ⊢
        have hP : va_P D vwCl ([(q, .inr (12, [.ref aA, .ref aI, .ref aT, .ref aP, .int 0, .int (-1), .int (-1), .int 0, .int 0, .int 0, .int 0, .long 0, .int 0, .int 0, .int 0, .int 0, .ref pI, .int 0, .int 0, .int 0, .int 0, .int 0, .ref nM, .ref vA, .ref tR, .int 0, .int 0, .int 0, .ref rW, .ref sP, .ref oA, .ref bS, .ref aS, .ref aO, .ref cS, .ref wY])), (aA, .inl (cI, 862, .inl af0))]) H := hP
        have hD : va_D A ([(q, .inr (12, [.ref aA, .ref aI, .ref aT, .ref aP, .int 0, .int (-1), .int (-1), .int 0, .int 0, .int 0, .int 0, .long 0, .int 0, .int 0, .int 0, .int 0, .ref pI, .int 0, .int 0, .int 0, .int 0, .int 0, .ref nM, .ref vA, .ref tR, .int 0, .int 0, .int 0, .ref rW, .ref sP, .ref oA, .ref bS, .ref aS, .ref aO, .ref cS, .ref wY])), (aA, .inl (cI, 862, .inl af0))]) := hD
        by_cases c15 : 0 ≤ p2 ∧ p2 ≤ 9
        · obtain rfl : r13 = 1 := by rw [hrh14, if_pos c15]
          refine lv_if_ne (tgt := 31) hx hb dX12_mud_26 (by decide) (fun c16 => ?_) (fun h => absurd h (by decide))
          refine lv_iload_n hx hb dX12_mud_31 rfl (lv_at hl 1 rfl) ?_
          refine lv_istore (lv' := [(4, .int p0), (0, .ref q), (1, .int p0), (2, .int p1), (3, .int p2)]) hx hb dX12_mud_32 hl (by decide) rfl (fun ls hl => ?_)
          refine W.widen (k := 0) (n := 0) (Nat.le_of_ble_eq_true rfl) (Nat.le_of_ble_eq_true rfl) ?_
          exact lp_X12_mud l D cI cM cT q aA aI aT aP pI nM vA tR rW sP oA bS aS aO cS wY p0 p1 p2 Z  (by (try simp only [zlt, zle, zeq, zl_0, zl_1, zl_2, zl_3, zl_4, zl_5, zl_6, zl_7, zl_8, zl_9, zl_10, zl_11, zl_12, zl_13, zl_19, zl_20, zl_30, zl_64, zl_99, zl_100, zl_299, zl_300, zl_399, zl_999, zl_9999, zl_m1, zl_m2, zl_m3, zl_32, zl_280, zl_862, zl_464, zl_82, zl_382, zl_398, zl_400000000, zl_63] at c4 c5 c9 c10 c11 c15 c16 ⊢); omega) _ p0 af0 (by (try simp only [zlt, zle, zeq, zl_0, zl_1, zl_2, zl_3, zl_4, zl_5, zl_6, zl_7, zl_8, zl_9, zl_10, zl_11, zl_12, zl_13, zl_19, zl_20, zl_30, zl_64, zl_99, zl_100, zl_299, zl_300, zl_399, zl_999, zl_9999, zl_m1, zl_m2, zl_m3, zl_32, zl_280, zl_862, zl_464, zl_82, zl_382, zl_398, zl_400000000, zl_63] at c4 c5 c9 c10 c11 c15 c16 ⊢); omega) (by (try simp only [zlt, zle, zeq, zl_0, zl_1, zl_2, zl_3, zl_4, zl_5, zl_6, zl_7, zl_8, zl_9, zl_10, zl_11, zl_12, zl_13, zl_19, zl_20, zl_30, zl_64, zl_99, zl_100, zl_299, zl_300, zl_399, zl_999, zl_9999, zl_m1, zl_m2, zl_m3, zl_32, zl_280, zl_862, zl_464, zl_82, zl_382, zl_398, zl_400000000, zl_63] at c4 c5 c9 c10 c11 c15 c16 ⊢); omega) (Nat.lt_succ_self _) _ _ _ hP hD hS (lv_sub hl [1, 2, 3, 4, 0] rfl)
        · obtain rfl : r13 = 0 := by rw [hrh14, if_neg c15]
          refine lv_if_ne (tgt := 31) hx hb dX12_mud_26 (by decide) (fun h => absurd (by decide) h) (fun c17 => ?_)
          refine lv_iconst (v := 0) hx hb dX12_mud_29 (by decide) ?_
          exact z_ret Z rfl hP hD hS ((by first | rfl | assumption | (rw [if_pos (by (try simp only [zlt, zle, zeq, zl_0, zl_1, zl_2, zl_3, zl_4, zl_5, zl_6, zl_7, zl_8, zl_9, zl_10, zl_11, zl_12, zl_13, zl_19, zl_20, zl_30, zl_64, zl_99, zl_100, zl_299, zl_300, zl_399, zl_999, zl_9999, zl_m1, zl_m2, zl_m3, zl_32, zl_280, zl_862, zl_464, zl_82, zl_382, zl_398, zl_400000000, zl_63] at c4 c5 c9 c10 c11 c15 c17 ⊢); omega)]; first | done | ((try simp only [zlt, zle, zeq, zl_0, zl_1, zl_2, zl_3, zl_4, zl_5, zl_6, zl_7, zl_8, zl_9, zl_10, zl_11, zl_12, zl_13, zl_19, zl_20, zl_30, zl_64, zl_99, zl_100, zl_299, zl_300, zl_399, zl_999, zl_9999, zl_m1, zl_m2, zl_m3, zl_32, zl_280, zl_862, zl_464, zl_82, zl_382, zl_398, zl_400000000, zl_63] at c4 c5 c9 c10 c11 c15 c17 ⊢); omega)) | (rw [if_neg (by (try simp only [zlt, zle, zeq, zl_0, zl_1, zl_2, zl_3, zl_4, zl_5, zl_6, zl_7, zl_8, zl_9, zl_10, zl_11, zl_12, zl_13, zl_19, zl_20, zl_30, zl_64, zl_99, zl_100, zl_299, zl_300, zl_399, zl_999, zl_9999, zl_m1, zl_m2, zl_m3, zl_32, zl_280, zl_862, zl_464, zl_82, zl_382, zl_398, zl_400000000, zl_63] at c4 c5 c9 c10 c11 c15 c17 ⊢); omega)]; first | done | ((try simp only [zlt, zle, zeq, zl_0, zl_1, zl_2, zl_3, zl_4, zl_5, zl_6, zl_7, zl_8, zl_9, zl_10, zl_11, zl_12, zl_13, zl_19, zl_20, zl_30, zl_64, zl_99, zl_100, zl_299, zl_300, zl_399, zl_999, zl_9999, zl_m1, zl_m2, zl_m3, zl_32, zl_280, zl_862, zl_464, zl_82, zl_382, zl_398, zl_400000000, zl_63] at c4 c5 c9 c10 c11 c15 c17 ⊢); omega)))) dX12_mud_30 (Nat.le_of_ble_eq_true rfl) (Nat.le_of_ble_eq_true rfl)
    · obtain rfl : r7 = 0 := by rw [hrh8, if_neg c9]
      refine lv_if_eq (tgt := 29) hx hb dX12_mud_11 (by decide) (fun c18 => ?_) (fun h => absurd (by decide) h)
      refine lv_iconst (v := 0) hx hb dX12_mud_29 (by decide) ?_
      exact z_ret Z rfl hP hD hS ((by first | rfl | assumption | (rw [if_pos (by (try simp only [zlt, zle, zeq, zl_0, zl_1, zl_2, zl_3, zl_4, zl_5, zl_6, zl_7, zl_8, zl_9, zl_10, zl_11, zl_12, zl_13, zl_19, zl_20, zl_30, zl_64, zl_99, zl_100, zl_299, zl_300, zl_399, zl_999, zl_9999, zl_m1, zl_m2, zl_m3, zl_32, zl_280, zl_862, zl_464, zl_82, zl_382, zl_398, zl_400000000, zl_63] at c4 c5 c9 c18 ⊢); omega)]; first | done | ((try simp only [zlt, zle, zeq, zl_0, zl_1, zl_2, zl_3, zl_4, zl_5, zl_6, zl_7, zl_8, zl_9, zl_10, zl_11, zl_12, zl_13, zl_19, zl_20, zl_30, zl_64, zl_99, zl_100, zl_299, zl_300, zl_399, zl_999, zl_9999, zl_m1, zl_m2, zl_m3, zl_32, zl_280, zl_862, zl_464, zl_82, zl_382, zl_398, zl_400000000, zl_63] at c4 c5 c9 c18 ⊢); omega)) | (rw [if_neg (by (try simp only [zlt, zle, zeq, zl_0, zl_1, zl_2, zl_3, zl_4, zl_5, zl_6, zl_7, zl_8, zl_9, zl_10, zl_11, zl_12, zl_13, zl_19, zl_20, zl_30, zl_64, zl_99, zl_100, zl_299, zl_300, zl_399, zl_999, zl_9999, zl_m1, zl_m2, zl_m3, zl_32, zl_280, zl_862, zl_464, zl_82, zl_382, zl_398, zl_400000000, zl_63] at c4 c5 c9 c18 ⊢); omega)]; first | done | ((try simp only [zlt, zle, zeq, zl_0, zl_1, zl_2, zl_3, zl_4, zl_5, zl_6, zl_7, zl_8, zl_9, zl_10, zl_11, zl_12, zl_13, zl_19, zl_20, zl_30, zl_64, zl_99, zl_100, zl_299, zl_300, zl_399, zl_999, zl_9999, zl_m1, zl_m2, zl_m3, zl_32, zl_280, zl_862, zl_464, zl_82, zl_382, zl_398, zl_400000000, zl_63] at c4 c5 c9 c18 ⊢); omega)))) dX12_mud_30 (Nat.le_of_ble_eq_true rfl) (Nat.le_of_ble_eq_true rfl)
  · obtain rfl : r2 = 0 := by rw [hrh3, if_neg c4]
    refine lv_if_eq (tgt := 29) hx hb dX12_mud_4 (by decide) (fun c19 => ?_) (fun h => absurd (by decide) h)
    refine lv_iconst (v := 0) hx hb dX12_mud_29 (by decide) ?_
    exact z_ret Z rfl hP hD hS ((by first | rfl | assumption | (rw [if_pos (by (try simp only [zlt, zle, zeq, zl_0, zl_1, zl_2, zl_3, zl_4, zl_5, zl_6, zl_7, zl_8, zl_9, zl_10, zl_11, zl_12, zl_13, zl_19, zl_20, zl_30, zl_64, zl_99, zl_100, zl_299, zl_300, zl_399, zl_999, zl_9999, zl_m1, zl_m2, zl_m3, zl_32, zl_280, zl_862, zl_464, zl_82, zl_382, zl_398, zl_400000000, zl_63] at c4 c19 ⊢); omega)]; first | done | ((try simp only [zlt, zle, zeq, zl_0, zl_1, zl_2, zl_3, zl_4, zl_5, zl_6, zl_7, zl_8, zl_9, zl_10, zl_11, zl_12, zl_13, zl_19, zl_20, zl_30, zl_64, zl_99, zl_100, zl_299, zl_300, zl_399, zl_999, zl_9999, zl_m1, zl_m2, zl_m3, zl_32, zl_280, zl_862, zl_464, zl_82, zl_382, zl_398, zl_400000000, zl_63] at c4 c19 ⊢); omega)) | (rw [if_neg (by (try simp only [zlt, zle, zeq, zl_0, zl_1, zl_2, zl_3, zl_4, zl_5, zl_6, zl_7, zl_8, zl_9, zl_10, zl_11, zl_12, zl_13, zl_19, zl_20, zl_30, zl_64, zl_99, zl_100, zl_299, zl_300, zl_399, zl_999, zl_9999, zl_m1, zl_m2, zl_m3, zl_32, zl_280, zl_862, zl_464, zl_82, zl_382, zl_398, zl_400000000, zl_63] at c4 c19 ⊢); omega)]; first | done | ((try simp only [zlt, zle, zeq, zl_0, zl_1, zl_2, zl_3, zl_4, zl_5, zl_6, zl_7, zl_8, zl_9, zl_10, zl_11, zl_12, zl_13, zl_19, zl_20, zl_30, zl_64, zl_99, zl_100, zl_299, zl_300, zl_399, zl_999, zl_9999, zl_m1, zl_m2, zl_m3, zl_32, zl_280, zl_862, zl_464, zl_82, zl_382, zl_398, zl_400000000, zl_63] at c4 c19 ⊢); omega)))) dX12_mud_30 (Nat.le_of_ble_eq_true rfl) (Nat.le_of_ble_eq_true rfl)
set_option maxHeartbeats 4000000 in
set_option maxRecDepth 100000 in
theorem c_X12_bits (l : Launch) (D : va_G) (cI cM cT : ClassId) (p0 : Int32) : Ci l D (ty3 cI cM cT) yX12_bits cX12_bits 3 (some .int) 0 0 0 [.int p0] ([]) (fun r u => (p0 = 0 → r = 0) ∧ u = []) := by
  refine Ci.of (by decide +kernel) (Nat.le_of_ble_eq_true rfl) ?_
  intro p e s m below meth c A ls Z hin hP hD hl
  have hx := Z.1
  have hb := Z.2.1
  have hS : va_S A s.heap s.heap [] := va_S.rf
  have hl : lv_has ls 3 [(0, .int p0)] := hl
  skip
  refine lv_iconst (v := 0) hx hb dX12_bits_0 (by decide) ?_
  refine lv_istore_n (lv' := [(1, .int 0), (0, .int p0)]) hx hb dX12_bits_1 rfl hl (by decide) rfl (fun ls hl => ?_)
  refine lv_iconst (v := 0) hx hb dX12_bits_2 (by decide) ?_
  refine lv_istore_n (lv' := [(2, .int 0), (1, .int 0), (0, .int p0)]) hx hb dX12_bits_3 rfl hl (by decide) rfl (fun ls hl => ?_)
  refine lv_iload_n hx hb dX12_bits_4 rfl (lv_at hl 0 rfl) ?_
  refine lv_bipush (v := 6) hx hb dX12_bits_5 (by decide) ?_
  refine lv_icmp_ge (tgt := 24) hx hb dX12_bits_7 (by decide) (fun h => absurd h (by decide)) (fun c1 => ?_)
  refine lv_iload_n hx hb dX12_bits_10 rfl (lv_at hl 1 rfl) ?_
  refine lv_iload_n hx hb dX12_bits_11 rfl (lv_at hl 2 rfl) ?_
  refine lv_iload_n hx hb dX12_bits_12 rfl (lv_at hl 0 rfl) ?_
  refine lv_ishr hx hb dX12_bits_13 ?_
  refine lv_iconst (v := 1) hx hb dX12_bits_14 (by decide) ?_
  refine lv_iand hx hb dX12_bits_15 ?_
  refine lv_iadd hx hb dX12_bits_16 ?_
  refine z_topi (y := ((p0 >>> ((0 : Int32) &&& 31)) &&& (1 : Int32))) (Int32.zero_add _) ?_
  refine lv_istore_n (lv' := [(1, .int ((p0 >>> ((0 : Int32) &&& 31)) &&& (1 : Int32))), (2, .int 0), (0, .int p0)]) hx hb dX12_bits_17 rfl hl (by decide) rfl (fun ls hl => ?_)
  refine lv_iinc (v := 1) (lv' := [(2, .int 1), (1, .int ((p0 >>> ((0 : Int32) &&& 31)) &&& (1 : Int32))), (0, .int p0)]) hx hb dX12_bits_18 hl (k := 1) rfl (by decide) (by decide) rfl (fun ls hl => ?_)
  refine lv_goto (tgt := 4) hx hb dX12_bits_21 (by decide) ?_
  refine lv_iload_n hx hb dX12_bits_4 rfl (lv_at hl 0 rfl) ?_
  refine lv_bipush (v := 6) hx hb dX12_bits_5 (by decide) ?_
  refine lv_icmp_ge (tgt := 24) hx hb dX12_bits_7 (by decide) (fun h => absurd h (by decide)) (fun c2 => ?_)
  refine lv_iload_n hx hb dX12_bits_10 rfl (lv_at hl 1 rfl) ?_
  refine lv_iload_n hx hb dX12_bits_11 rfl (lv_at hl 2 rfl) ?_
  refine lv_iload_n hx hb dX12_bits_12 rfl (lv_at hl 0 rfl) ?_
  refine lv_ishr hx hb dX12_bits_13 ?_
  refine lv_iconst (v := 1) hx hb dX12_bits_14 (by decide) ?_
  refine lv_iand hx hb dX12_bits_15 ?_
  refine lv_iadd hx hb dX12_bits_16 ?_
  refine lv_istore_n (lv' := [(1, .int (((p0 >>> ((0 : Int32) &&& 31)) &&& (1 : Int32)) + ((p0 >>> ((1 : Int32) &&& 31)) &&& (1 : Int32)))), (2, .int 1), (0, .int p0)]) hx hb dX12_bits_17 rfl hl (by decide) rfl (fun ls hl => ?_)
  refine lv_iinc (v := 2) (lv' := [(2, .int 2), (1, .int (((p0 >>> ((0 : Int32) &&& 31)) &&& (1 : Int32)) + ((p0 >>> ((1 : Int32) &&& 31)) &&& (1 : Int32)))), (0, .int p0)]) hx hb dX12_bits_18 hl (k := 1) rfl (by decide) (by decide) rfl (fun ls hl => ?_)
  refine lv_goto (tgt := 4) hx hb dX12_bits_21 (by decide) ?_
  refine lv_iload_n hx hb dX12_bits_4 rfl (lv_at hl 0 rfl) ?_
  refine lv_bipush (v := 6) hx hb dX12_bits_5 (by decide) ?_
  refine lv_icmp_ge (tgt := 24) hx hb dX12_bits_7 (by decide) (fun h => absurd h (by decide)) (fun c3 => ?_)
  refine lv_iload_n hx hb dX12_bits_10 rfl (lv_at hl 1 rfl) ?_
  refine lv_iload_n hx hb dX12_bits_11 rfl (lv_at hl 2 rfl) ?_
  refine lv_iload_n hx hb dX12_bits_12 rfl (lv_at hl 0 rfl) ?_
  refine lv_ishr hx hb dX12_bits_13 ?_
  refine lv_iconst (v := 1) hx hb dX12_bits_14 (by decide) ?_
  refine lv_iand hx hb dX12_bits_15 ?_
  refine lv_iadd hx hb dX12_bits_16 ?_
  refine lv_istore_n (lv' := [(1, .int ((((p0 >>> ((0 : Int32) &&& 31)) &&& (1 : Int32)) + ((p0 >>> ((1 : Int32) &&& 31)) &&& (1 : Int32))) + ((p0 >>> ((2 : Int32) &&& 31)) &&& (1 : Int32)))), (2, .int 2), (0, .int p0)]) hx hb dX12_bits_17 rfl hl (by decide) rfl (fun ls hl => ?_)
  refine lv_iinc (v := 3) (lv' := [(2, .int 3), (1, .int ((((p0 >>> ((0 : Int32) &&& 31)) &&& (1 : Int32)) + ((p0 >>> ((1 : Int32) &&& 31)) &&& (1 : Int32))) + ((p0 >>> ((2 : Int32) &&& 31)) &&& (1 : Int32)))), (0, .int p0)]) hx hb dX12_bits_18 hl (k := 1) rfl (by decide) (by decide) rfl (fun ls hl => ?_)
  refine lv_goto (tgt := 4) hx hb dX12_bits_21 (by decide) ?_
  refine lv_iload_n hx hb dX12_bits_4 rfl (lv_at hl 0 rfl) ?_
  refine lv_bipush (v := 6) hx hb dX12_bits_5 (by decide) ?_
  refine lv_icmp_ge (tgt := 24) hx hb dX12_bits_7 (by decide) (fun h => absurd h (by decide)) (fun c4 => ?_)
  refine lv_iload_n hx hb dX12_bits_10 rfl (lv_at hl 1 rfl) ?_
  refine lv_iload_n hx hb dX12_bits_11 rfl (lv_at hl 2 rfl) ?_
  refine lv_iload_n hx hb dX12_bits_12 rfl (lv_at hl 0 rfl) ?_
  refine lv_ishr hx hb dX12_bits_13 ?_
  refine lv_iconst (v := 1) hx hb dX12_bits_14 (by decide) ?_
  refine lv_iand hx hb dX12_bits_15 ?_
  refine lv_iadd hx hb dX12_bits_16 ?_
  refine lv_istore_n (lv' := [(1, .int (((((p0 >>> ((0 : Int32) &&& 31)) &&& (1 : Int32)) + ((p0 >>> ((1 : Int32) &&& 31)) &&& (1 : Int32))) + ((p0 >>> ((2 : Int32) &&& 31)) &&& (1 : Int32))) + ((p0 >>> ((3 : Int32) &&& 31)) &&& (1 : Int32)))), (2, .int 3), (0, .int p0)]) hx hb dX12_bits_17 rfl hl (by decide) rfl (fun ls hl => ?_)
  refine lv_iinc (v := 4) (lv' := [(2, .int 4), (1, .int (((((p0 >>> ((0 : Int32) &&& 31)) &&& (1 : Int32)) + ((p0 >>> ((1 : Int32) &&& 31)) &&& (1 : Int32))) + ((p0 >>> ((2 : Int32) &&& 31)) &&& (1 : Int32))) + ((p0 >>> ((3 : Int32) &&& 31)) &&& (1 : Int32)))), (0, .int p0)]) hx hb dX12_bits_18 hl (k := 1) rfl (by decide) (by decide) rfl (fun ls hl => ?_)
  refine lv_goto (tgt := 4) hx hb dX12_bits_21 (by decide) ?_
  refine lv_iload_n hx hb dX12_bits_4 rfl (lv_at hl 0 rfl) ?_
  refine lv_bipush (v := 6) hx hb dX12_bits_5 (by decide) ?_
  refine lv_icmp_ge (tgt := 24) hx hb dX12_bits_7 (by decide) (fun h => absurd h (by decide)) (fun c5 => ?_)
  refine lv_iload_n hx hb dX12_bits_10 rfl (lv_at hl 1 rfl) ?_
  refine lv_iload_n hx hb dX12_bits_11 rfl (lv_at hl 2 rfl) ?_
  refine lv_iload_n hx hb dX12_bits_12 rfl (lv_at hl 0 rfl) ?_
  refine lv_ishr hx hb dX12_bits_13 ?_
  refine lv_iconst (v := 1) hx hb dX12_bits_14 (by decide) ?_
  refine lv_iand hx hb dX12_bits_15 ?_
  refine lv_iadd hx hb dX12_bits_16 ?_
  refine lv_istore_n (lv' := [(1, .int ((((((p0 >>> ((0 : Int32) &&& 31)) &&& (1 : Int32)) + ((p0 >>> ((1 : Int32) &&& 31)) &&& (1 : Int32))) + ((p0 >>> ((2 : Int32) &&& 31)) &&& (1 : Int32))) + ((p0 >>> ((3 : Int32) &&& 31)) &&& (1 : Int32))) + ((p0 >>> ((4 : Int32) &&& 31)) &&& (1 : Int32)))), (2, .int 4), (0, .int p0)]) hx hb dX12_bits_17 rfl hl (by decide) rfl (fun ls hl => ?_)
  refine lv_iinc (v := 5) (lv' := [(2, .int 5), (1, .int ((((((p0 >>> ((0 : Int32) &&& 31)) &&& (1 : Int32)) + ((p0 >>> ((1 : Int32) &&& 31)) &&& (1 : Int32))) + ((p0 >>> ((2 : Int32) &&& 31)) &&& (1 : Int32))) + ((p0 >>> ((3 : Int32) &&& 31)) &&& (1 : Int32))) + ((p0 >>> ((4 : Int32) &&& 31)) &&& (1 : Int32)))), (0, .int p0)]) hx hb dX12_bits_18 hl (k := 1) rfl (by decide) (by decide) rfl (fun ls hl => ?_)
  refine lv_goto (tgt := 4) hx hb dX12_bits_21 (by decide) ?_
  refine lv_iload_n hx hb dX12_bits_4 rfl (lv_at hl 0 rfl) ?_
  refine lv_bipush (v := 6) hx hb dX12_bits_5 (by decide) ?_
  refine lv_icmp_ge (tgt := 24) hx hb dX12_bits_7 (by decide) (fun h => absurd h (by decide)) (fun c6 => ?_)
  refine lv_iload_n hx hb dX12_bits_10 rfl (lv_at hl 1 rfl) ?_
  refine lv_iload_n hx hb dX12_bits_11 rfl (lv_at hl 2 rfl) ?_
  refine lv_iload_n hx hb dX12_bits_12 rfl (lv_at hl 0 rfl) ?_
  refine lv_ishr hx hb dX12_bits_13 ?_
  refine lv_iconst (v := 1) hx hb dX12_bits_14 (by decide) ?_
  refine lv_iand hx hb dX12_bits_15 ?_
  refine lv_iadd hx hb dX12_bits_16 ?_
  refine lv_istore_n (lv' := [(1, .int (((((((p0 >>> ((0 : Int32) &&& 31)) &&& (1 : Int32)) + ((p0 >>> ((1 : Int32) &&& 31)) &&& (1 : Int32))) + ((p0 >>> ((2 : Int32) &&& 31)) &&& (1 : Int32))) + ((p0 >>> ((3 : Int32) &&& 31)) &&& (1 : Int32))) + ((p0 >>> ((4 : Int32) &&& 31)) &&& (1 : Int32))) + ((p0 >>> ((5 : Int32) &&& 31)) &&& (1 : Int32)))), (2, .int 5), (0, .int p0)]) hx hb dX12_bits_17 rfl hl (by decide) rfl (fun ls hl => ?_)
  refine lv_iinc (v := 6) (lv' := [(2, .int 6), (1, .int (((((((p0 >>> ((0 : Int32) &&& 31)) &&& (1 : Int32)) + ((p0 >>> ((1 : Int32) &&& 31)) &&& (1 : Int32))) + ((p0 >>> ((2 : Int32) &&& 31)) &&& (1 : Int32))) + ((p0 >>> ((3 : Int32) &&& 31)) &&& (1 : Int32))) + ((p0 >>> ((4 : Int32) &&& 31)) &&& (1 : Int32))) + ((p0 >>> ((5 : Int32) &&& 31)) &&& (1 : Int32)))), (0, .int p0)]) hx hb dX12_bits_18 hl (k := 1) rfl (by decide) (by decide) rfl (fun ls hl => ?_)
  refine lv_goto (tgt := 4) hx hb dX12_bits_21 (by decide) ?_
  refine lv_iload_n hx hb dX12_bits_4 rfl (lv_at hl 0 rfl) ?_
  refine lv_bipush (v := 6) hx hb dX12_bits_5 (by decide) ?_
  refine lv_icmp_ge (tgt := 24) hx hb dX12_bits_7 (by decide) (fun c7 => ?_) (fun h => absurd (by decide) h)
  refine lv_iload_n hx hb dX12_bits_24 rfl (lv_at hl 1 rfl) ?_
  exact z_ret Z rfl hP hD hS (⟨by intro h; subst h; decide, rfl⟩) dX12_bits_25 (Nat.le_of_ble_eq_true rfl) (Nat.le_of_ble_eq_true rfl)
set_option maxHeartbeats 4000000 in
set_option maxRecDepth 100000 in
theorem c_X12_isThief (l : Launch) (D : va_G) (cI cM cT : ClassId) (q : Nat) (aA : Nat) (aI : Nat) (aT : Nat) (aP : Nat) (pI : Nat) (nM : Nat) (vA : Nat) (tR : Nat) (rW : Nat) (sP : Nat) (oA : Nat) (bS : Nat) (aS : Nat) (aO : Nat) (cS : Nat) (wY : Nat) (p0 : Int32) (p1 : Int32) (p2 : Int32) : Ci l D (ty3 cI cM cT) yX12_isThief cX12_isThief 7 (some .boolean) 1 0 0 [.ref q, .int p0, .int p1, .int p2] ([(q, .inr (12, [.ref aA, .ref aI, .ref aT, .ref aP, .int 0, .int (-1), .int (-1), .int 0, .int 0, .int 0, .int 0, .long 0, .int 0, .int 0, .int 0, .int 0, .ref pI, .int 0, .int 0, .int 0, .int 0, .int 0, .ref nM, .ref vA, .ref tR, .int 0, .int 0, .int 0, .ref rW, .ref sP, .ref oA, .ref bS, .ref aS, .ref aO, .ref cS, .ref wY])), (aA, .inl (cI, 862, .inl af0))]) (fun r u => r = 0 ∧ u = [(q, .inr (12, [.ref aA, .ref aI, .ref aT, .ref aP, .int 0, .int (-1), .int (-1), .int 0, .int 0, .int 0, .int 0, .long 0, .int 0, .int 0, .int 0, .int 0, .ref pI, .int 0, .int 0, .int 0, .int 0, .int 0, .ref nM, .ref vA, .ref tR, .int 0, .int 0, .int 0, .ref rW, .ref sP, .ref oA, .ref bS, .ref aS, .ref aO, .ref cS, .ref wY])), (aA, .inl (cI, 862, .inl af0))]) := by
  refine Ci.of (by decide +kernel) (Nat.le_of_ble_eq_true rfl) ?_
  intro p e s m below meth c A ls Z hin hP hD hl
  have hx := Z.1
  have hb := Z.2.1
  have hS : va_S A s.heap s.heap [] := va_S.rf
  have hl : lv_has ls 7 [(0, .ref q), (1, .int p0), (2, .int p1), (3, .int p2)] := hl
  skip
  refine lv_iconst (v := 0) hx hb dX12_isThief_0 (by decide) ?_
  refine lv_istore (lv' := [(4, .int 0), (0, .ref q), (1, .int p0), (2, .int p1), (3, .int p2)]) hx hb dX12_isThief_1 hl (by decide) rfl (fun ls hl => ?_)
  refine lv_iload hx hb dX12_isThief_3 (lv_at hl 0 rfl) ?_
  refine lv_aload_n hx hb dX12_isThief_5 rfl (lv_at hl 1 rfl) ?_
  refine z_get Z i_X12 hP 0 rfl rfl 0 (by decide) bw_1019 rfl dX12_isThief_6 ?_
  refine lv_iconst (v := 0) hx hb dX12_isThief_9 (by decide) ?_
  refine z_iald Z hP 1 0 rfl rfl (vin (by decide)) dX12_isThief_10 ?_
  refine z_topi (y := 0) rfl ?_
  refine lv_icmp_ge (tgt := 106) hx hb dX12_isThief_11 (by decide) (fun c1 => ?_) (fun h => absurd (by decide) h)
  refine lv_iconst (v := 0) hx hb dX12_isThief_106 (by decide) ?_
  exact z_ret Z rfl hP hD hS (⟨rfl, rfl⟩) dX12_isThief_107 (Nat.le_of_ble_eq_true rfl) (Nat.le_of_ble_eq_true rfl)
set_option maxHeartbeats 4000000 in
set_option maxRecDepth 100000 in
theorem lp_X12_thief {p : Program} (l : Launch) {e : Env} {s : State} {m : MethodId} {below : List Frame} {meth : Method} {c : Code} {A : Nat → Prop} (D : va_G) (cI cM cT : ClassId) (q : Nat) (aA : Nat) (aI : Nat) (aT : Nat) (aP : Nat) (pI : Nat) (nM : Nat) (vA : Nat) (tR : Nat) (rW : Nat) (sP : Nat) (oA : Nat) (bS : Nat) (aS : Nat) (aO : Nat) (cS : Nat) (wY : Nat) (p0 : Int32) (p1 : Int32) (p2 : Int32) (Z : Zx p s m ([.ref q, .int p0, .int p1, .int p2] : List Value).toArray meth c cX12_thief 6 (some .int) yX12_thief.cls A (ty3 cI cM cT) D) (hc : (0 ≤ p0 ∧ p0 < 300) ∧ (0 ≤ p1 ∧ p1 < 300) ∧ (-1) ≤ p2) : ∀ (n0 : Nat) (i : Nat) (h0 : i ≤ 64), 64 - i < n0 → ∀ (H : Heap) (locs : List Loc) (ls : Array Slot), va_P D vwCl ([(q, .inr (12, [.ref aA, .ref aI, .ref aT, .ref aP, .int 0, .int (-1), .int (-1), .int 0, .int 0, .int 0, .int 0, .long 0, .int 0, .int 0, .int 0, .int 0, .ref pI, .int 0, .int 0, .int 0, .int 0, .int 0, .ref nM, .ref vA, .ref tR, .int 0, .int 0, .int 0, .ref rW, .ref sP, .ref oA, .ref bS, .ref aS, .ref aO, .ref cS, .ref wY])), (aA, .inl (cI, 862, .inl af0))]) H → va_D A ([(q, .inr (12, [.ref aA, .ref aI, .ref aT, .ref aP, .int 0, .int (-1), .int (-1), .int 0, .int 0, .int 0, .int 0, .long 0, .int 0, .int 0, .int 0, .int 0, .ref pI, .int 0, .int 0, .int 0, .int 0, .int 0, .ref nM, .ref vA, .ref tR, .int 0, .int 0, .int 0, .ref rW, .ref sP, .ref oA, .ref bS, .ref aS, .ref aO, .ref cS, .ref wY])), (aA, .inl (cI, 862, .inl af0))]) → va_S A s.heap H locs → lv_has ls 6 [(0, .ref q), (1, .int p0), (2, .int p1), (3, .int p2), (4, .int 0), (5, .int (nI i))] → W p l e (rmv 3 0 0) s m ([.ref q, .int p0, .int p1, .int p2] : List Value).toArray below meth c H locs 0 0 (MQ below (va_Qi (fun r u => r = (if (0 ≤ p0 ∧ p0 < 300) ∧ (0 ≤ p1 ∧ p1 < 300) ∧ p2 = (-1) then 0 else (-1))) (cB D (ty3 cI cM cT) A) A) ([.ref q, .int p0, .int p1, .int p2] : List Value).toArray s 0 0 A) (F0 m 27 ls []) := by
  have hx := Z.1
  have hb := Z.2.1
  intro n0
  induction n0 with
  | zero => intro i h0 hm; exact absurd hm (Nat.not_lt_zero _)
  | succ n0 ih =>
    intro i h0 hm H locs ls hP hD hS hl
    have ei : (nI i).toInt = (i : Int) := nI_toInt (by omega)
    refine lv_iload hx hb dX12_thief_27 (lv_at hl 5 rfl) ?_
    refine lv_bipush (v := 64) hx hb dX12_thief_29 (by decide) ?_
    refine lv_icmp_ge (tgt := 75) hx hb dX12_thief_31 (by decide) (fun c1 => ?_) (fun c1 => ?_)
    · refine lv_iload_n hx hb dX12_thief_75 rfl (lv_at hl 3 rfl) ?_
      refine lv_iconst (v := (-1)) hx hb dX12_thief_76 (by decide) ?_
      refine lv_icmp_ne (tgt := 85) hx hb dX12_thief_77 (by decide) (fun c2 => ?_) (fun c2 => ?_)
      · refine lv_iconst (v := (-1)) hx hb dX12_thief_85 (by decide) ?_
        exact z_ret Z rfl hP hD hS ((by first | rfl | assumption | (rw [if_pos (by (try simp only [zlt, zle, zeq, zl_0, zl_1, zl_2, zl_3, zl_4, zl_5, zl_6, zl_7, zl_8, zl_9, zl_10, zl_11, zl_12, zl_13, zl_19, zl_20, zl_30, zl_64, zl_99, zl_100, zl_299, zl_300, zl_399, zl_999, zl_9999, zl_m1, zl_m2, zl_m3, zl_32, zl_280, zl_862, zl_464, zl_82, zl_382, zl_398, zl_400000000, zl_63] at ei h0 hm hc c1 c2 ⊢); omega)]; first | done | ((try simp only [zlt, zle, zeq, zl_0, zl_1, zl_2, zl_3, zl_4, zl_5, zl_6, zl_7, zl_8, zl_9, zl_10, zl_11, zl_12, zl_13, zl_19, zl_20, zl_30, zl_64, zl_99, zl_100, zl_299, zl_300, zl_399, zl_999, zl_9999, zl_m1, zl_m2, zl_m3, zl_32, zl_280, zl_862, zl_464, zl_82, zl_382, zl_398, zl_400000000, zl_63] at ei h0 hm hc c1 c2 ⊢); omega)) | (rw [if_neg (by (try simp only [zlt, zle, zeq, zl_0, zl_1, zl_2, zl_3, zl_4, zl_5, zl_6, zl_7, zl_8, zl_9, zl_10, zl_11, zl_12, zl_13, zl_19, zl_20, zl_30, zl_64, zl_99, zl_100, zl_299, zl_300, zl_399, zl_999, zl_9999, zl_m1, zl_m2, zl_m3, zl_32, zl_280, zl_862, zl_464, zl_82, zl_382, zl_398, zl_400000000, zl_63] at ei h0 hm hc c1 c2 ⊢); omega)]; first | done | ((try simp only [zlt, zle, zeq, zl_0, zl_1, zl_2, zl_3, zl_4, zl_5, zl_6, zl_7, zl_8, zl_9, zl_10, zl_11, zl_12, zl_13, zl_19, zl_20, zl_30, zl_64, zl_99, zl_100, zl_299, zl_300, zl_399, zl_999, zl_9999, zl_m1, zl_m2, zl_m3, zl_32, zl_280, zl_862, zl_464, zl_82, zl_382, zl_398, zl_400000000, zl_63] at ei h0 hm hc c1 c2 ⊢); omega)))) dX12_thief_86 (Nat.le_of_ble_eq_true rfl) (Nat.le_of_ble_eq_true rfl)
      · refine lv_iload hx hb dX12_thief_80 (lv_at hl 4 rfl) ?_
        refine lv_goto (tgt := 86) hx hb dX12_thief_82 (by decide) ?_
        exact z_ret Z rfl hP hD hS ((by first | rfl | assumption | (rw [if_pos (by (try simp only [zlt, zle, zeq, zl_0, zl_1, zl_2, zl_3, zl_4, zl_5, zl_6, zl_7, zl_8, zl_9, zl_10, zl_11, zl_12, zl_13, zl_19, zl_20, zl_30, zl_64, zl_99, zl_100, zl_299, zl_300, zl_399, zl_999, zl_9999, zl_m1, zl_m2, zl_m3, zl_32, zl_280, zl_862, zl_464, zl_82, zl_382, zl_398, zl_400000000, zl_63] at ei h0 hm hc c1 c2 ⊢); omega)]; first | done | ((try simp only [zlt, zle, zeq, zl_0, zl_1, zl_2, zl_3, zl_4, zl_5, zl_6, zl_7, zl_8, zl_9, zl_10, zl_11, zl_12, zl_13, zl_19, zl_20, zl_30, zl_64, zl_99, zl_100, zl_299, zl_300, zl_399, zl_999, zl_9999, zl_m1, zl_m2, zl_m3, zl_32, zl_280, zl_862, zl_464, zl_82, zl_382, zl_398, zl_400000000, zl_63] at ei h0 hm hc c1 c2 ⊢); omega)) | (rw [if_neg (by (try simp only [zlt, zle, zeq, zl_0, zl_1, zl_2, zl_3, zl_4, zl_5, zl_6, zl_7, zl_8, zl_9, zl_10, zl_11, zl_12, zl_13, zl_19, zl_20, zl_30, zl_64, zl_99, zl_100, zl_299, zl_300, zl_399, zl_999, zl_9999, zl_m1, zl_m2, zl_m3, zl_32, zl_280, zl_862, zl_464, zl_82, zl_382, zl_398, zl_400000000, zl_63] at ei h0 hm hc c1 c2 ⊢); omega)]; first | done | ((try simp only [zlt, zle, zeq, zl_0, zl_1, zl_2, zl_3, zl_4, zl_5, zl_6, zl_7, zl_8, zl_9, zl_10, zl_11, zl_12, zl_13, zl_19, zl_20, zl_30, zl_64, zl_99, zl_100, zl_299, zl_300, zl_399, zl_999, zl_9999, zl_m1, zl_m2, zl_m3, zl_32, zl_280, zl_862, zl_464, zl_82, zl_382, zl_398, zl_400000000, zl_63] at ei h0 hm hc c1 c2 ⊢); omega)))) dX12_thief_86 (Nat.le_of_ble_eq_true rfl) (Nat.le_of_ble_eq_true rfl)
    · refine lv_iload hx hb dX12_thief_34 (lv_at hl 5 rfl) ?_
      have hPc := hP.sub2 (wc := []) [] rfl
      have hDc := hD.sub (ws' := []) [] (by decide) rfl
      refine raw_Si (nA := 1) (As := [.int (nI i)]) (rest := []) Z hl.1 (c_X12_bits l D cI cM cT (nI i)) (bw_S bw_1412 bw_1413 bw_92 bw_1414) ⟨by decide +kernel, by decide +kernel, by decide +kernel⟩ rfl ⟨Nat.le_of_ble_eq_true rfl, Nat.le_of_ble_eq_true rfl⟩ hPc hDc hS rfl (Nat.le_of_ble_eq_true rfl) dX12_thief_36 ⟨Nat.le_of_ble_eq_true rfl, Nat.le_of_ble_eq_true rfl⟩ (fun r4 u3 H1 locs1 h5 hku3 hP1 hD1 hS1 => ?_)
      have hposth5 := h5
      obtain ⟨hP, hD⟩ := z_join (wr := [(q, .inr (12, [.ref aA, .ref aI, .ref aT, .ref aP, .int 0, .int (-1), .int (-1), .int 0, .int 0, .int 0, .int 0, .long 0, .int 0, .int 0, .int 0, .int 0, .ref pI, .int 0, .int 0, .int 0, .int 0, .int 0, .ref nM, .ref vA, .ref tR, .int 0, .int 0, .int 0, .ref rW, .ref sP, .ref oA, .ref bS, .ref aS, .ref aO, .ref cS, .ref wY])), (aA, .inl (cI, 862, .inl af0))]) Z hS hP hD [] [0, 1] rfl (by decide) rfl (by decide) (by decide) hku3 hP1 hD1
      have hS := hS1
      clear hS1
      generalize H1 = H at hP hS ⊢
      generalize locs1 = locs at hS ⊢
      have hP := va_P_left hP
      have hD := va_D_left hD
      refine lv_iconst (v := 3) hx hb dX12_thief_39 (by decide) ?_
      refine lv_icmp_ne (tgt := 69) hx hb dX12_thief_40 (by decide) (fun c6 => ?_) (fun c6 => ?_)
      · refine lv_iinc (v := (nI (i + 1))) (lv' := [(5, .int (nI (i + 1))), (0, .ref q), (1, .int p0), (2, .int p1), (3, .int p2), (4, .int 0)]) hx hb dX12_thief_69 hl (k := 5) rfl (nI_1 i) (by decide) rfl (fun ls hl => ?_)
        refine lv_goto (tgt := 27) hx hb dX12_thief_72 (by decide) ?_
        exact ih (i + 1) (by (try simp only [zlt, zle, zeq, zl_0, zl_1, zl_2, zl_3, zl_4, zl_5, zl_6, zl_7, zl_8, zl_9, zl_10, zl_11, zl_12, zl_13, zl_19, zl_20, zl_30, zl_64, zl_99, zl_100, zl_299, zl_300, zl_399, zl_999, zl_9999, zl_m1, zl_m2, zl_m3, zl_32, zl_280, zl_862, zl_464, zl_82, zl_382, zl_398, zl_400000000, zl_63] at ei h0 hm hc c1 c6 ⊢); omega) (by (try simp only [zlt, zle, zeq, zl_0, zl_1, zl_2, zl_3, zl_4, zl_5, zl_6, zl_7, zl_8, zl_9, zl_10, zl_11, zl_12, zl_13, zl_19, zl_20, zl_30, zl_64, zl_99, zl_100, zl_299, zl_300, zl_399, zl_999, zl_9999, zl_m1, zl_m2, zl_m3, zl_32, zl_280, zl_862, zl_464, zl_82, zl_382, zl_398, zl_400000000, zl_63] at ei h0 hm hc c1 c6 ⊢); omega) _ _ _ hP hD hS (lv_sub hl [1, 2, 3, 4, 5, 0] rfl)
      · refine lv_aload_n hx hb dX12_thief_43 rfl (lv_at hl 0 rfl) ?_
        refine lv_iload_n hx hb dX12_thief_44 rfl (lv_at hl 1 rfl) ?_
        refine lv_iload_n hx hb dX12_thief_45 rfl (lv_at hl 2 rfl) ?_
        refine lv_iload hx hb dX12_thief_46 (lv_at hl 5 rfl) ?_
        have hPc := hP.sub2 (wc := [(q, .inr (12, [.ref aA, .ref aI, .ref aT, .ref aP, .int 0, .int (-1), .int (-1), .int 0, .int 0, .int 0, .int 0, .long 0, .int 0, .int 0, .int 0, .int 0, .ref pI, .int 0, .int 0, .int 0, .int 0, .int 0, .ref nM, .ref vA, .ref tR, .int 0, .int 0, .int 0, .ref rW, .ref sP, .ref oA, .ref bS, .ref aS, .ref aO, .ref cS, .ref wY])), (aA, .inl (cI, 862, .inl af0))]) [0, 1] rfl
        have hDc := hD.sub (ws' := [(q, .inr (12, [.ref aA, .ref aI, .ref aT, .ref aP, .int 0, .int (-1), .int (-1), .int 0, .int 0, .int 0, .int 0, .long 0, .int 0, .int 0, .int 0, .int 0, .ref pI, .int 0, .int 0, .int 0, .int 0, .int 0, .ref nM, .ref vA, .ref tR, .int 0, .int 0, .int 0, .ref rW, .ref sP, .ref oA, .ref bS, .ref aS, .ref aO, .ref cS, .ref wY])), (aA, .inl (cI, 862, .inl af0))]) [0, 1] (by decide) rfl
        refine raw_Vi (ci := 12) (q0 := 0) (nA := 3) (As := [.int p0, .int p1, .int (nI i)]) (rest := []) Z hl.1 (c_X12_isThief l D cI cM cT q aA aI aT aP pI nM vA tR rW sP oA bS aS aO cS wY p0 p1 (nI i)) (bw_V bw_1415 bw_1417 bw_74 bw_92 bw_1418) ⟨by decide +kernel, by decide +kernel, by decide +kernel⟩ rfl ⟨Nat.le_of_ble_eq_true rfl, Nat.le_of_ble_eq_true rfl⟩ rfl rfl rfl hPc hDc hS rfl (Nat.le_of_ble_eq_true rfl) dX12_thief_48 ⟨Nat.le_of_ble_eq_true rfl, Nat.le_of_ble_eq_true rfl⟩ (fun r8 u7 H1 locs1 h9 hku7 hP1 hD1 hS1 => ?_)
        obtain ⟨rfl, rfl⟩ := h9
        obtain ⟨hP, hD⟩ := z_join (wr := []) Z hS hP hD [0, 1] [] rfl (by decide) rfl (by decide) (by decide) hku7 hP1 hD1
        have hS := hS1
        clear hS1
        generalize H1 = H at hP hS ⊢
        generalize locs1 = locs at hS ⊢
        have hP : va_P D vwCl ([(q, .inr (12, [.ref aA, .ref aI, .ref aT, .ref aP, .int 0, .int (-1), .int (-1), .int 0, .int 0, .int 0, .int 0, .long 0, .int 0, .int 0, .int 0, .int 0, .ref pI, .int 0, .int 0, .int 0, .int 0, .int 0, .ref nM, .ref vA, .ref tR, .int 0, .int 0, .int 0, .ref rW, .ref sP, .ref oA, .ref bS, .ref aS, .ref aO, .ref cS, .ref wY])), (aA, .inl (cI, 862, .inl af0))]) H := hP
        have hD : va_D A ([(q, .inr (12, [.ref aA, .ref aI, .ref aT, .ref aP, .int 0, .int (-1), .int (-1), .int 0, .int 0, .int 0, .int 0, .long 0, .int 0, .int 0, .int 0, .int 0, .ref pI, .int 0, .int 0, .int 0, .int 0, .int 0, .ref nM, .ref vA, .ref tR, .int 0, .int 0, .int 0, .ref rW, .ref sP, .ref oA, .ref bS, .ref aS, .ref aO, .ref cS, .ref wY])), (aA, .inl (cI, 862, .inl af0))]) := hD
        refine lv_if_ne (tgt := 57) hx hb dX12_thief_51 (by decide) (fun h => absurd (by decide) h) (fun c10 => ?_)
        refine lv_goto (tgt := 69) hx hb dX12_thief_54 (by decide) ?_
        refine lv_iinc (v := (nI (i + 1))) (lv' := [(5, .int (nI (i + 1))), (0, .ref q), (1, .int p0), (2, .int p1), (3, .int p2), (4, .int 0)]) hx hb dX12_thief_69 hl (k := 5) rfl (nI_1 i) (by decide) rfl (fun ls hl => ?_)
        refine lv_goto (tgt := 27) hx hb dX12_thief_72 (by decide) ?_
        exact ih (i + 1) (by (try simp only [zlt, zle, zeq, zl_0, zl_1, zl_2, zl_3, zl_4, zl_5, zl_6, zl_7, zl_8, zl_9, zl_10, zl_11, zl_12, zl_13, zl_19, zl_20, zl_30, zl_64, zl_99, zl_100, zl_299, zl_300, zl_399, zl_999, zl_9999, zl_m1, zl_m2, zl_m3, zl_32, zl_280, zl_862, zl_464, zl_82, zl_382, zl_398, zl_400000000, zl_63] at ei h0 hm hc c1 c6 c10 ⊢); omega) (by (try simp only [zlt, zle, zeq, zl_0, zl_1, zl_2, zl_3, zl_4, zl_5, zl_6, zl_7, zl_8, zl_9, zl_10, zl_11, zl_12, zl_13, zl_19, zl_20, zl_30, zl_64, zl_99, zl_100, zl_299, zl_300, zl_399, zl_999, zl_9999, zl_m1, zl_m2, zl_m3, zl_32, zl_280, zl_862, zl_464, zl_82, zl_382, zl_398, zl_400000000, zl_63] at ei h0 hm hc c1 c6 c10 ⊢); omega) _ _ _ hP hD hS (lv_sub hl [1, 2, 3, 4, 5, 0] rfl)
set_option maxHeartbeats 4000000 in
set_option maxRecDepth 100000 in
theorem c_X12_thief (l : Launch) (D : va_G) (cI cM cT : ClassId) (q : Nat) (aA : Nat) (aI : Nat) (aT : Nat) (aP : Nat) (pI : Nat) (nM : Nat) (vA : Nat) (tR : Nat) (rW : Nat) (sP : Nat) (oA : Nat) (bS : Nat) (aS : Nat) (aO : Nat) (cS : Nat) (wY : Nat) (p0 : Int32) (p1 : Int32) (p2 : Int32) : Ci l D (ty3 cI cM cT) yX12_thief cX12_thief 6 (some .int) 3 0 0 [.ref q, .int p0, .int p1, .int p2] ([(q, .inr (12, [.ref aA, .ref aI, .ref aT, .ref aP, .int 0, .int (-1), .int (-1), .int 0, .int 0, .int 0, .int 0, .long 0, .int 0, .int 0, .int 0, .int 0, .ref pI, .int 0, .int 0, .int 0, .int 0, .int 0, .ref nM, .ref vA, .ref tR, .int 0, .int 0, .int 0, .ref rW, .ref sP, .ref oA, .ref bS, .ref aS, .ref aO, .ref cS, .ref wY])), (aA, .inl (cI, 862, .inl af0))]) (fun r u => r = (if (0 ≤ p0 ∧ p0 < 300) ∧ (0 ≤ p1 ∧ p1 < 300) ∧ p2 = (-1) then 0 else (-1))) := by
  refine Ci.of (by decide +kernel) (Nat.le_of_ble_eq_true rfl) ?_
  intro p e s m below meth c A ls Z hin hP hD hl
  have hx := Z.1
  have hb := Z.2.1
  have hS : va_S A s.heap s.heap [] := va_S.rf
  have hl : lv_has ls 6 [(0, .ref q), (1, .int p0), (2, .int p1), (3, .int p2)] := hl
  skip
  refine lv_iload_n hx hb dX12_thief_0 rfl (lv_at hl 1 rfl) ?_
  have hPc := hP.sub2 (wc := []) [] rfl
  have hDc := hD.sub (ws' := []) [] (by decide) rfl
  refine raw_Si (nA := 1) (As := [.int p0]) (rest := []) Z hl.1 (c_X12_isPlace l D cI cM cT p0) (bw_S bw_1132 bw_1133 bw_92 bw_1134) ⟨by decide +kernel, by decide +kernel, by decide +kernel⟩ rfl ⟨Nat.le_of_ble_eq_true rfl, Nat.le_of_ble_eq_true rfl⟩ hPc hDc hS rfl (Nat.le_of_ble_eq_true rfl) dX12_thief_1 ⟨Nat.le_of_ble_eq_true rfl, Nat.le_of_ble_eq_true rfl⟩ (fun r2 u1 H1 locs1 h3 hku1 hP1 hD1 hS1 => ?_)
  obtain ⟨hrh3, rfl⟩ := h3
  obtain ⟨hP, hD⟩ := z_join (wr := [(q, .inr (12, [.ref aA, .ref aI, .ref aT, .ref aP, .int 0, .int (-1), .int (-1), .int 0, .int 0, .int 0, .int 0, .long 0, .int 0, .int 0, .int 0, .int 0, .ref pI, .int 0, .int 0, .int 0, .int 0, .int 0, .ref nM, .ref vA, .ref tR, .int 0, .int 0, .int 0, .ref rW, .ref sP, .ref oA, .ref bS, .ref aS, .ref aO, .ref cS, .ref wY])), (aA, .inl (cI, 862, .inl af0))]) Z hS hP hD [] [0, 1] rfl (by decide) rfl (by decide) (by decide) hku1 hP1 hD1
  have hS := hS1
  clear hS1
  generalize H1 = H at hP hS ⊢
  generalize locs1 = locs at hS ⊢
  have hP : va_P D vwCl ([(q, .inr (12, [.ref aA, .ref aI, .ref aT, .ref aP, .int 0, .int (-1), .int (-1), .int 0, .int 0, .int 0, .int 0, .long 0, .int 0, .int 0, .int 0, .int 0, .ref pI, .int 0, .int 0, .int 0, .int 0, .int 0, .ref nM, .ref vA, .ref tR, .int 0, .int 0, .int 0, .ref rW, .ref sP, .ref oA, .ref bS, .ref aS, .ref aO, .ref cS, .ref wY])), (aA, .inl (cI, 862, .inl af0))]) H := hP
  have hD : va_D A ([(q, .inr (12, [.ref aA, .ref aI, .ref aT, .ref aP, .int 0, .int (-1), .int (-1), .int 0, .int 0, .int 0, .int 0, .long 0, .int 0, .int 0, .int 0, .int 0, .ref pI, .int 0, .int 0, .int 0, .int 0, .int 0, .ref nM, .ref vA, .ref tR, .int 0, .int 0, .int 0, .ref rW, .ref sP, .ref oA, .ref bS, .ref aS, .ref aO, .ref cS, .ref wY])), (aA, .inl (cI, 862, .inl af0))]) := hD
  by_cases c4 : 0 ≤ p0 ∧ p0 ≤ 299
  · obtain rfl : r2 = 1 := by rw [hrh3, if_pos c4]
    refine lv_if_eq (tgt := 19) hx hb dX12_thief_4 (by decide) (fun h => absurd h (by decide)) (fun c5 => ?_)
    refine lv_iload_n hx hb dX12_thief_7 rfl (lv_at hl 2 rfl) ?_
    have hPc := hP.sub2 (wc := []) [] rfl
    have hDc := hD.sub (ws' := []) [] (by decide) rfl
    refine raw_Si (nA := 1) (As := [.int p1]) (rest := []) Z hl.1 (c_X12_isPlace l D cI cM cT p1) (bw_S bw_1132 bw_1133 bw_92 bw_1134) ⟨by decide +kernel, by decide +kernel, by decide +kernel⟩ rfl ⟨Nat.le_of_ble_eq_true rfl, Nat.le_of_ble_eq_true rfl⟩ hPc hDc hS rfl (Nat.le_of_ble_eq_true rfl) dX12_thief_8 ⟨Nat.le_of_ble_eq_true rfl, Nat.le_of_ble_eq_true rfl⟩ (fun r7 u6 H1 locs1 h8 hku6 hP1 hD1 hS1 => ?_)
    obtain ⟨hrh8, rfl⟩ := h8
    obtain ⟨hP, hD⟩ := z_join (wr := [(q, .inr (12, [.ref aA, .ref aI, .ref aT, .ref aP, .int 0, .int (-1), .int (-1), .int 0, .int 0, .int 0, .int 0, .long 0, .int 0, .int 0, .int 0, .int 0, .ref pI, .int 0, .int 0, .int 0, .int 0, .int 0, .ref nM, .ref vA, .ref tR, .int 0, .int 0, .int 0, .ref rW, .ref sP, .ref oA, .ref bS, .ref aS, .ref aO, .ref cS, .ref wY])), (aA, .inl (cI, 862, .inl af0))]) Z hS hP hD [] [0, 1] rfl (by decide) rfl (by decide) (by decide) hku6 hP1 hD1
    have hS := hS1
    clear hS1
    generalize H1 = H at hP hS ⊢
    generalize locs1 = locs at hS ⊢
    have hP : va_P D vwCl ([(q, .inr (12, [.ref aA, .ref aI, .ref aT, .ref aP, .int 0, .int (-1), .int (-1), .int 0, .int 0, .int 0, .int 0, .long 0, .int 0, .int 0, .int 0, .int 0, .ref pI, .int 0, .int 0, .int 0, .int 0, .int 0, .ref nM, .ref vA, .ref tR, .int 0, .int 0, .int 0, .ref rW, .ref sP, .ref oA, .ref bS, .ref aS, .ref aO, .ref cS, .ref wY])), (aA, .inl (cI, 862, .inl af0))]) H := hP
    have hD : va_D A ([(q, .inr (12, [.ref aA, .ref aI, .ref aT, .ref aP, .int 0, .int (-1), .int (-1), .int 0, .int 0, .int 0, .int 0, .long 0, .int 0, .int 0, .int 0, .int 0, .ref pI, .int 0, .int 0, .int 0, .int 0, .int 0, .ref nM, .ref vA, .ref tR, .int 0, .int 0, .int 0, .ref rW, .ref sP, .ref oA, .ref bS, .ref aS, .ref aO, .ref cS, .ref wY])), (aA, .inl (cI, 862, .inl af0))]) := hD
    by_cases c9 : 0 ≤ p1 ∧ p1 ≤ 299
    · obtain rfl : r7 = 1 := by rw [hrh8, if_pos c9]
      refine lv_if_eq (tgt := 19) hx hb dX12_thief_11 (by decide) (fun h => absurd h (by decide)) (fun c10 => ?_)
      refine lv_iload_n hx hb dX12_thief_14 rfl (lv_at hl 3 rfl) ?_
      refine lv_iconst (v := (-1)) hx hb dX12_thief_15 (by decide) ?_
      refine lv_icmp_ge (tgt := 21) hx hb dX12_thief_16 (by decide) (fun c11 => ?_) (fun c11 => ?_)
      · refine lv_iconst (v := 0) hx hb dX12_thief_21 (by decide) ?_
        refine lv_istore (lv' := [(4, .int 0), (0, .ref q), (1, .int p0), (2, .int p1), (3, .int p2)]) hx hb dX12_thief_22 hl (by decide) rfl (fun ls hl => ?_)
        refine lv_iconst (v := 0) hx hb dX12_thief_24 (by decide) ?_
        refine lv_istore (lv' := [(5, .int 0), (4, .int 0), (0, .ref q), (1, .int p0), (2, .int p1), (3, .int p2)]) hx hb dX12_thief_25 hl (by decide) rfl (fun ls hl => ?_)
        refine W.widen (k := 0) (n := 0) (Nat.le_of_ble_eq_true rfl) (Nat.le_of_ble_eq_true rfl) ?_
        exact lp_X12_thief l D cI cM cT q aA aI aT aP pI nM vA tR rW sP oA bS aS aO cS wY p0 p1 p2 Z  (by (try simp only [zlt, zle, zeq, zl_0, zl_1, zl_2, zl_3, zl_4, zl_5, zl_6, zl_7, zl_8, zl_9, zl_10, zl_11, zl_12, zl_13, zl_19, zl_20, zl_30, zl_64, zl_99, zl_100, zl_299, zl_300, zl_399, zl_999, zl_9999, zl_m1, zl_m2, zl_m3, zl_32, zl_280, zl_862, zl_464, zl_82, zl_382, zl_398, zl_400000000, zl_63] at c4 c5 c9 c10 c11 ⊢); omega) _ 0 (Nat.zero_le _) (Nat.lt_succ_self _) _ _ _ hP hD hS (lv_sub hl [2, 3, 4, 5, 1, 0] rfl)
      · refine lv_iconst (v := (-1)) hx hb dX12_thief_19 (by decide) ?_
        exact z_ret Z rfl hP hD hS ((by first | rfl | assumption | (rw [if_pos (by (try simp only [zlt, zle, zeq, zl_0, zl_1, zl_2, zl_3, zl_4, zl_5, zl_6, zl_7, zl_8, zl_9, zl_10, zl_11, zl_12, zl_13, zl_19, zl_20, zl_30, zl_64, zl_99, zl_100, zl_299, zl_300, zl_399, zl_999, zl_9999, zl_m1, zl_m2, zl_m3, zl_32, zl_280, zl_862, zl_464, zl_82, zl_382, zl_398, zl_400000000, zl_63] at c4 c5 c9 c10 c11 ⊢); omega)]; first | done | ((try simp only [zlt, zle, zeq, zl_0, zl_1, zl_2, zl_3, zl_4, zl_5, zl_6, zl_7, zl_8, zl_9, zl_10, zl_11, zl_12, zl_13, zl_19, zl_20, zl_30, zl_64, zl_99, zl_100, zl_299, zl_300, zl_399, zl_999, zl_9999, zl_m1, zl_m2, zl_m3, zl_32, zl_280, zl_862, zl_464, zl_82, zl_382, zl_398, zl_400000000, zl_63] at c4 c5 c9 c10 c11 ⊢); omega)) | (rw [if_neg (by (try simp only [zlt, zle, zeq, zl_0, zl_1, zl_2, zl_3, zl_4, zl_5, zl_6, zl_7, zl_8, zl_9, zl_10, zl_11, zl_12, zl_13, zl_19, zl_20, zl_30, zl_64, zl_99, zl_100, zl_299, zl_300, zl_399, zl_999, zl_9999, zl_m1, zl_m2, zl_m3, zl_32, zl_280, zl_862, zl_464, zl_82, zl_382, zl_398, zl_400000000, zl_63] at c4 c5 c9 c10 c11 ⊢); omega)]; first | done | ((try simp only [zlt, zle, zeq, zl_0, zl_1, zl_2, zl_3, zl_4, zl_5, zl_6, zl_7, zl_8, zl_9, zl_10, zl_11, zl_12, zl_13, zl_19, zl_20, zl_30, zl_64, zl_99, zl_100, zl_299, zl_300, zl_399, zl_999, zl_9999, zl_m1, zl_m2, zl_m3, zl_32, zl_280, zl_862, zl_464, zl_82, zl_382, zl_398, zl_400000000, zl_63] at c4 c5 c9 c10 c11 ⊢); omega)))) dX12_thief_20 (Nat.le_of_ble_eq_true rfl) (Nat.le_of_ble_eq_true rfl)
    · obtain rfl : r7 = 0 := by rw [hrh8, if_neg c9]
      refine lv_if_eq (tgt := 19) hx hb dX12_thief_11 (by decide) (fun c12 => ?_) (fun h => absurd (by decide) h)
      refine lv_iconst (v := (-1)) hx hb dX12_thief_19 (by decide) ?_
      exact z_ret Z rfl hP hD hS ((by first | rfl | assumption | (rw [if_pos (by (try simp only [zlt, zle, zeq, zl_0, zl_1, zl_2, zl_3, zl_4, zl_5, zl_6, zl_7, zl_8, zl_9, zl_10, zl_11, zl_12, zl_13, zl_19, zl_20, zl_30, zl_64, zl_99, zl_100, zl_299, zl_300, zl_399, zl_999, zl_9999, zl_m1, zl_m2, zl_m3, zl_32, zl_280, zl_862, zl_464, zl_82, zl_382, zl_398, zl_400000000, zl_63] at c4 c5 c9 c12 ⊢); omega)]; first | done | ((try simp only [zlt, zle, zeq, zl_0, zl_1, zl_2, zl_3, zl_4, zl_5, zl_6, zl_7, zl_8, zl_9, zl_10, zl_11, zl_12, zl_13, zl_19, zl_20, zl_30, zl_64, zl_99, zl_100, zl_299, zl_300, zl_399, zl_999, zl_9999, zl_m1, zl_m2, zl_m3, zl_32, zl_280, zl_862, zl_464, zl_82, zl_382, zl_398, zl_400000000, zl_63] at c4 c5 c9 c12 ⊢); omega)) | (rw [if_neg (by (try simp only [zlt, zle, zeq, zl_0, zl_1, zl_2, zl_3, zl_4, zl_5, zl_6, zl_7, zl_8, zl_9, zl_10, zl_11, zl_12, zl_13, zl_19, zl_20, zl_30, zl_64, zl_99, zl_100, zl_299, zl_300, zl_399, zl_999, zl_9999, zl_m1, zl_m2, zl_m3, zl_32, zl_280, zl_862, zl_464, zl_82, zl_382, zl_398, zl_400000000, zl_63] at c4 c5 c9 c12 ⊢); omega)]; first | done | ((try simp only [zlt, zle, zeq, zl_0, zl_1, zl_2, zl_3, zl_4, zl_5, zl_6, zl_7, zl_8, zl_9, zl_10, zl_11, zl_12, zl_13, zl_19, zl_20, zl_30, zl_64, zl_99, zl_100, zl_299, zl_300, zl_399, zl_999, zl_9999, zl_m1, zl_m2, zl_m3, zl_32, zl_280, zl_862, zl_464, zl_82, zl_382, zl_398, zl_400000000, zl_63] at c4 c5 c9 c12 ⊢); omega)))) dX12_thief_20 (Nat.le_of_ble_eq_true rfl) (Nat.le_of_ble_eq_true rfl)
  · obtain rfl : r2 = 0 := by rw [hrh3, if_neg c4]
    refine lv_if_eq (tgt := 19) hx hb dX12_thief_4 (by decide) (fun c13 => ?_) (fun h => absurd (by decide) h)
    refine lv_iconst (v := (-1)) hx hb dX12_thief_19 (by decide) ?_
    exact z_ret Z rfl hP hD hS ((by first | rfl | assumption | (rw [if_pos (by (try simp only [zlt, zle, zeq, zl_0, zl_1, zl_2, zl_3, zl_4, zl_5, zl_6, zl_7, zl_8, zl_9, zl_10, zl_11, zl_12, zl_13, zl_19, zl_20, zl_30, zl_64, zl_99, zl_100, zl_299, zl_300, zl_399, zl_999, zl_9999, zl_m1, zl_m2, zl_m3, zl_32, zl_280, zl_862, zl_464, zl_82, zl_382, zl_398, zl_400000000, zl_63] at c4 c13 ⊢); omega)]; first | done | ((try simp only [zlt, zle, zeq, zl_0, zl_1, zl_2, zl_3, zl_4, zl_5, zl_6, zl_7, zl_8, zl_9, zl_10, zl_11, zl_12, zl_13, zl_19, zl_20, zl_30, zl_64, zl_99, zl_100, zl_299, zl_300, zl_399, zl_999, zl_9999, zl_m1, zl_m2, zl_m3, zl_32, zl_280, zl_862, zl_464, zl_82, zl_382, zl_398, zl_400000000, zl_63] at c4 c13 ⊢); omega)) | (rw [if_neg (by (try simp only [zlt, zle, zeq, zl_0, zl_1, zl_2, zl_3, zl_4, zl_5, zl_6, zl_7, zl_8, zl_9, zl_10, zl_11, zl_12, zl_13, zl_19, zl_20, zl_30, zl_64, zl_99, zl_100, zl_299, zl_300, zl_399, zl_999, zl_9999, zl_m1, zl_m2, zl_m3, zl_32, zl_280, zl_862, zl_464, zl_82, zl_382, zl_398, zl_400000000, zl_63] at c4 c13 ⊢); omega)]; first | done | ((try simp only [zlt, zle, zeq, zl_0, zl_1, zl_2, zl_3, zl_4, zl_5, zl_6, zl_7, zl_8, zl_9, zl_10, zl_11, zl_12, zl_13, zl_19, zl_20, zl_30, zl_64, zl_99, zl_100, zl_299, zl_300, zl_399, zl_999, zl_9999, zl_m1, zl_m2, zl_m3, zl_32, zl_280, zl_862, zl_464, zl_82, zl_382, zl_398, zl_400000000, zl_63] at c4 c13 ⊢); omega)))) dX12_thief_20 (Nat.le_of_ble_eq_true rfl) (Nat.le_of_ble_eq_true rfl)
set_option maxHeartbeats 4000000 in
set_option maxRecDepth 100000 in
theorem lp_X12_findAll {p : Program} (l : Launch) {e : Env} {s : State} {m : MethodId} {below : List Frame} {meth : Method} {c : Code} {A : Nat → Prop} (D : va_G) (cI cM cT : ClassId) (q : Nat) (aA : Nat) (aI : Nat) (aT : Nat) (aP : Nat) (pI : Nat) (nM : Nat) (vA : Nat) (tR : Nat) (rW : Nat) (sP : Nat) (oA : Nat) (bS : Nat) (aS : Nat) (aO : Nat) (cS : Nat) (wY : Nat) (Z : Zx p s m ([.ref q] : List Value).toArray meth c cX12_findAll 3 none yX12_findAll.cls A (ty3 cI cM cT) D) : ∀ (n0 : Nat) (i : Nat) (h0 : i ≤ 300), 300 - i < n0 → ∀ (H : Heap) (locs : List Loc) (ls : Array Slot), va_P D vwCl ([(q, .inr (12, [.ref aA, .ref aI, .ref aT, .ref aP, .int 0, .int (-1), .int (-1), .int 0, .int 0, .int 0, .int 0, .long 0, .int 0, .int 0, .int 0, .int 0, .ref pI, .int 0, .int 0, .int 0, .int 0, .int 0, .ref nM, .ref vA, .ref tR, .int 0, .int 0, .int 0, .ref rW, .ref sP, .ref oA, .ref bS, .ref aS, .ref aO, .ref cS, .ref wY])), (aA, .inl (cI, 862, .inl af0))]) H → va_D A ([(q, .inr (12, [.ref aA, .ref aI, .ref aT, .ref aP, .int 0, .int (-1), .int (-1), .int 0, .int 0, .int 0, .int 0, .long 0, .int 0, .int 0, .int 0, .int 0, .ref pI, .int 0, .int 0, .int 0, .int 0, .int 0, .ref nM, .ref vA, .ref tR, .int 0, .int 0, .int 0, .ref rW, .ref sP, .ref oA, .ref bS, .ref aS, .ref aO, .ref cS, .ref wY])), (aA, .inl (cI, 862, .inl af0))]) → va_S A s.heap H locs → lv_has ls 3 [(0, .ref q), (1, .int (nI i))] → W p l e (rmv 1 0 0) s m ([.ref q] : List Value).toArray below meth c H locs 0 0 (MQ below (va_Qv (fun u => u = [(q, .inr (12, [.ref aA, .ref aI, .ref aT, .ref aP, .int 0, .int (-1), .int (-1), .int 0, .int 0, .int 0, .int 0, .long 0, .int 0, .int 0, .int 0, .int 0, .ref pI, .int 0, .int 0, .int 0, .int 0, .int 0, .ref nM, .ref vA, .ref tR, .int 0, .int 0, .int 0, .ref rW, .ref sP, .ref oA, .ref bS, .ref aS, .ref aO, .ref cS, .ref wY])), (aA, .inl (cI, 862, .inl af0))]) (cB D (ty3 cI cM cT) A) A) ([.ref q] : List Value).toArray s 0 0 A) (F0 m 2 ls []) := by
  have hx := Z.1
  have hb := Z.2.1
  intro n0
  induction n0 with
  | zero => intro i h0 hm; exact absurd hm (Nat.not_lt_zero _)
  | succ n0 ih =>
    intro i h0 hm H locs ls hP hD hS hl
    have ei : (nI i).toInt = (i : Int) := nI_toInt (by omega)
    refine lv_iload_n hx hb dX12_findAll_2 rfl (lv_at hl 1 rfl) ?_
    refine lv_sipush (v := 300) hx hb dX12_findAll_3 (by decide) ?_
    refine lv_icmp_ge (tgt := 77) hx hb dX12_findAll_6 (by decide) (fun c1 => ?_) (fun c1 => ?_)
    · exact z_vret Z hP hD hS (rfl) dX12_findAll_77 (Nat.le_of_ble_eq_true rfl) (Nat.le_of_ble_eq_true rfl)
    · refine lv_iconst (v := 0) hx hb dX12_findAll_9 (by decide) ?_
      refine lv_istore_n (lv' := [(2, .int 0), (0, .ref q), (1, .int (nI i))]) hx hb dX12_findAll_10 rfl hl (by decide) rfl (fun ls hl => ?_)
      refine lv_iload_n hx hb dX12_findAll_11 rfl (lv_at hl 0 rfl) ?_
      refine lv_aload_n hx hb dX12_findAll_12 rfl (lv_at hl 1 rfl) ?_
      refine z_get Z i_X12 hP 0 rfl rfl 0 (by decide) bw_1019 rfl dX12_findAll_13 ?_
      refine lv_iconst (v := 0) hx hb dX12_findAll_16 (by decide) ?_
      refine z_iald Z hP 1 0 rfl rfl (vin (by decide)) dX12_findAll_17 ?_
      refine z_topi (y := 0) rfl ?_
      refine lv_icmp_ge (tgt := 71) hx hb dX12_findAll_18 (by decide) (fun c2 => ?_) (fun h => absurd (by decide) h)
      refine lv_iinc (v := (nI (i + 1))) (lv' := [(1, .int (nI (i + 1))), (2, .int 0), (0, .ref q)]) hx hb dX12_findAll_71 hl (k := 2) rfl (nI_1 i) (by decide) rfl (fun ls hl => ?_)
      refine lv_goto (tgt := 2) hx hb dX12_findAll_74 (by decide) ?_
      exact ih (i + 1) (by (try simp only [zlt, zle, zeq, zl_0, zl_1, zl_2, zl_3, zl_4, zl_5, zl_6, zl_7, zl_8, zl_9, zl_10, zl_11, zl_12, zl_13, zl_19, zl_20, zl_30, zl_64, zl_99, zl_100, zl_299, zl_300, zl_399, zl_999, zl_9999, zl_m1, zl_m2, zl_m3, zl_32, zl_280, zl_862, zl_464, zl_82, zl_382, zl_398, zl_400000000, zl_63] at ei h0 hm c1 c2 ⊢); omega) (by (try simp only [zlt, zle, zeq, zl_0, zl_1, zl_2, zl_3, zl_4, zl_5, zl_6, zl_7, zl_8, zl_9, zl_10, zl_11, zl_12, zl_13, zl_19, zl_20, zl_30, zl_64, zl_99, zl_100, zl_299, zl_300, zl_399, zl_999, zl_9999, zl_m1, zl_m2, zl_m3, zl_32, zl_280, zl_862, zl_464, zl_82, zl_382, zl_398, zl_400000000, zl_63] at ei h0 hm c1 c2 ⊢); omega) _ _ _ hP hD hS (lv_sub hl [2, 0] rfl)
set_option maxHeartbeats 4000000 in
set_option maxRecDepth 100000 in
theorem c_X12_findAll (l : Launch) (D : va_G) (cI cM cT : ClassId) (q : Nat) (aA : Nat) (aI : Nat) (aT : Nat) (aP : Nat) (pI : Nat) (nM : Nat) (vA : Nat) (tR : Nat) (rW : Nat) (sP : Nat) (oA : Nat) (bS : Nat) (aS : Nat) (aO : Nat) (cS : Nat) (wY : Nat) : Cv l D (ty3 cI cM cT) yX12_findAll cX12_findAll 3 1 0 0 [.ref q] ([(q, .inr (12, [.ref aA, .ref aI, .ref aT, .ref aP, .int 0, .int (-1), .int (-1), .int 0, .int 0, .int 0, .int 0, .long 0, .int 0, .int 0, .int 0, .int 0, .ref pI, .int 0, .int 0, .int 0, .int 0, .int 0, .ref nM, .ref vA, .ref tR, .int 0, .int 0, .int 0, .ref rW, .ref sP, .ref oA, .ref bS, .ref aS, .ref aO, .ref cS, .ref wY])), (aA, .inl (cI, 862, .inl af0))]) (fun u => u = [(q, .inr (12, [.ref aA, .ref aI, .ref aT, .ref aP, .int 0, .int (-1), .int (-1), .int 0, .int 0, .int 0, .int 0, .long 0, .int 0, .int 0, .int 0, .int 0, .ref pI, .int 0, .int 0, .int 0, .int 0, .int 0, .ref nM, .ref vA, .ref tR, .int 0, .int 0, .int 0, .ref rW, .ref sP, .ref oA, .ref bS, .ref aS, .ref aO, .ref cS, .ref wY])), (aA, .inl (cI, 862, .inl af0))]) := by
  refine Cv.of (by decide +kernel) (Nat.le_of_ble_eq_true rfl) ?_
  intro p e s m below meth c A ls Z hin hP hD hl
  have hx := Z.1
  have hb := Z.2.1
  have hS : va_S A s.heap s.heap [] := va_S.rf
  have hl : lv_has ls 3 [(0, .ref q)] := hl
  skip
  refine lv_iconst (v := 0) hx hb dX12_findAll_0 (by decide) ?_
  refine lv_istore_n (lv' := [(1, .int 0), (0, .ref q)]) hx hb dX12_findAll_1 rfl hl (by decide) rfl (fun ls hl => ?_)
  refine W.widen (k := 0) (n := 0) (Nat.le_of_ble_eq_true rfl) (Nat.le_of_ble_eq_true rfl) ?_
  exact lp_X12_findAll l D cI cM cT q aA aI aT aP pI nM vA tR rW sP oA bS aS aO cS wY Z   _ 0 (Nat.zero_le _) (Nat.lt_succ_self _) _ _ _ hP hD hS (lv_sub hl [1, 0] rfl)
set_option maxHeartbeats 4000000 in
set_option maxRecDepth 100000 in
theorem c_X12_never (l : Launch) (D : va_G) (cI cM cT : ClassId) (q : Nat) (aA : Nat) (aI : Nat) (aT : Nat) (aP : Nat) (pI : Nat) (nM : Nat) (vA : Nat) (tR : Nat) (rW : Nat) (sP : Nat) (oA : Nat) (bS : Nat) (aS : Nat) (aO : Nat) (cS : Nat) (wY : Nat) : Ci l D (ty3 cI cM cT) yX12_never cX12_never 6 (some .int) 3 0 0 [.ref q] ([(q, .inr (12, [.ref aA, .ref aI, .ref aT, .ref aP, .int 0, .int (-1), .int (-1), .int 0, .int 0, .int 0, .int 0, .long 0, .int 0, .int 0, .int 0, .int 0, .ref pI, .int 0, .int 0, .int 0, .int 0, .int 0, .ref nM, .ref vA, .ref tR, .int 0, .int 0, .int 0, .ref rW, .ref sP, .ref oA, .ref bS, .ref aS, .ref aO, .ref cS, .ref wY])), (aA, .inl (cI, 862, .inl af0))]) (fun r u => r = 0) := by
  refine Ci.of (by decide +kernel) (Nat.le_of_ble_eq_true rfl) ?_
  intro p e s m below meth c A ls Z hin hP hD hl
  have hx := Z.1
  have hb := Z.2.1
  have hS : va_S A s.heap s.heap [] := va_S.rf
  have hl : lv_has ls 6 [(0, .ref q)] := hl
  skip
  refine lv_aload_n hx hb dX12_never_0 rfl (lv_at hl 0 rfl) ?_
  have hPc := hP.sub2 (wc := [(q, .inr (12, [.ref aA, .ref aI, .ref aT, .ref aP, .int 0, .int (-1), .int (-1), .int 0, .int 0, .int 0, .int 0, .long 0, .int 0, .int 0, .int 0, .int 0, .ref pI, .int 0, .int 0, .int 0, .int 0, .int 0, .ref nM, .ref vA, .ref tR, .int 0, .int 0, .int 0, .ref rW, .ref sP, .ref oA, .ref bS, .ref aS, .ref aO, .ref cS, .ref wY])), (aA, .inl (cI, 862, .inl af0))]) [0, 1] rfl
  have hDc := hD.sub (ws' := [(q, .inr (12, [.ref aA, .ref aI, .ref aT, .ref aP, .int 0, .int (-1), .int (-1), .int 0, .int 0, .int 0, .int 0, .long 0, .int 0, .int 0, .int 0, .int 0, .ref pI, .int 0, .int 0, .int 0, .int 0, .int 0, .ref nM, .ref vA, .ref tR, .int 0, .int 0, .int 0, .ref rW, .ref sP, .ref oA, .ref bS, .ref aS, .ref aO, .ref cS, .ref wY])), (aA, .inl (cI, 862, .inl af0))]) [0, 1] (by decide) rfl
  refine raw_Vv (ci := 12) (q0 := 0) (nA := 0) (As := []) (rest := []) Z hl.1 (c_X12_findAll l D cI cM cT q aA aI aT aP pI nM vA tR rW sP oA bS aS aO cS wY) (bw_V bw_1403 bw_1405 bw_73 bw_92 bw_1406) ⟨by decide +kernel, by decide +kernel, by decide +kernel⟩ rfl ⟨Nat.le_of_ble_eq_true rfl, Nat.le_of_ble_eq_true rfl⟩ rfl rfl rfl hPc hDc hS rfl (Nat.le_of_ble_eq_true rfl) dX12_never_1 ⟨Nat.le_of_ble_eq_true rfl, Nat.le_of_ble_eq_true rfl⟩ (fun u1 H1 locs1 h3 hku1 hP1 hD1 hS1 => ?_)
  obtain rfl := h3
  obtain ⟨hP, hD⟩ := z_join (wr := []) Z hS hP hD [0, 1] [] rfl (by decide) rfl (by decide) (by decide) hku1 hP1 hD1
  have hS := hS1
  clear hS1
  generalize H1 = H at hP hS ⊢
  generalize locs1 = locs at hS ⊢
  have hP : va_P D vwCl ([(q, .inr (12, [.ref aA, .ref aI, .ref aT, .ref aP, .int 0, .int (-1), .int (-1), .int 0, .int 0, .int 0, .int 0, .long 0, .int 0, .int 0, .int 0, .int 0, .ref pI, .int 0, .int 0, .int 0, .int 0, .int 0, .ref nM, .ref vA, .ref tR, .int 0, .int 0, .int 0, .ref rW, .ref sP, .ref oA, .ref bS, .ref aS, .ref aO, .ref cS, .ref wY])), (aA, .inl (cI, 862, .inl af0))]) H := hP
  have hD : va_D A ([(q, .inr (12, [.ref aA, .ref aI, .ref aT, .ref aP, .int 0, .int (-1), .int (-1), .int 0, .int 0, .int 0, .int 0, .long 0, .int 0, .int 0, .int 0, .int 0, .ref pI, .int 0, .int 0, .int 0, .int 0, .int 0, .ref nM, .ref vA, .ref tR, .int 0, .int 0, .int 0, .ref rW, .ref sP, .ref oA, .ref bS, .ref aS, .ref aO, .ref cS, .ref wY])), (aA, .inl (cI, 862, .inl af0))]) := hD
  refine lv_iconst (v := 0) hx hb dX12_never_4 (by decide) ?_
  refine lv_istore_n (lv' := [(1, .int 0), (0, .ref q)]) hx hb dX12_never_5 rfl hl (by decide) rfl (fun ls hl => ?_)
  refine lv_iconst (v := 0) hx hb dX12_never_6 (by decide) ?_
  refine lv_istore_n (lv' := [(2, .int 0), (1, .int 0), (0, .ref q)]) hx hb dX12_never_7 rfl hl (by decide) rfl (fun ls hl => ?_)
  refine lv_iload_n hx hb dX12_never_8 rfl (lv_at hl 0 rfl) ?_
  refine lv_aload_n hx hb dX12_never_9 rfl (lv_at hl 2 rfl) ?_
  refine z_get Z i_X12 hP 0 rfl rfl 0 (by decide) bw_1019 rfl dX12_never_10 ?_
  refine lv_iconst (v := 2) hx hb dX12_never_13 (by decide) ?_
  refine z_iald Z hP 1 0 rfl rfl (vin (by decide)) dX12_never_14 ?_
  refine z_topi (y := 0) rfl ?_
  refine lv_icmp_ge (tgt := 112) hx hb dX12_never_15 (by decide) (fun c4 => ?_) (fun h => absurd (by decide) h)
  refine lv_iload_n hx hb dX12_never_112 rfl (lv_at hl 1 rfl) ?_
  exact z_ret Z rfl hP hD hS ((by first | rfl | assumption)) dX12_never_113 (Nat.le_of_ble_eq_true rfl) (Nat.le_of_ble_eq_true rfl)
set_option maxHeartbeats 4000000 in
set_option maxRecDepth 100000 in
theorem lp_X12_least_b {p : Program} (l : Launch) {e : Env} {s : State} {m : MethodId} {below : List Frame} {meth : Method} {c : Code} {A : Nat → Prop} (D : va_G) (cI cM cT : ClassId) (q : Nat) (aA : Nat) (aI : Nat) (aT : Nat) (aP : Nat) (pI : Nat) (nM : Nat) (vA : Nat) (tR : Nat) (rW : Nat) (sP : Nat) (oA : Nat) (bS : Nat) (aS : Nat) (aO : Nat) (cS : Nat) (wY : Nat) (p0 : Int32) (p1 : Int32) (p2 : Int32) (Z : Zx p s m ([.ref q, .int p0, .int p1, .int p2] : List Value).toArray meth c cX12_least 8 (some .int) yX12_least.cls A (ty3 cI cM cT) D) (f9 : Nat → Int32) (hfa : ∀ j, j < 300 → j ≠ (p0 : Int32).toNatClampNeg → f9 j = 400000000) (hfb : f9 (p0 : Int32).toNatClampNeg = 0) (hc : (0 ≤ p0 ∧ p0 < 300) ∧ (0 ≤ p1 ∧ p1 < 300)) : ∀ (n0 : Nat) (i : Int32) (h0 : 0 ≤ i.toInt) (h1 : i.toInt ≤ 300), (300 - i.toInt).toNat < n0 → ∀ (H : Heap) (locs : List Loc) (ls : Array Slot), va_P D vwCl ([(q, .inr (12, [.ref aA, .ref aI, .ref aT, .ref aP, .int 0, .int (-1), .int (-1), .int 0, .int 0, .int 0, .int 0, .long 0, .int 0, .int 0, .int 0, .int 0, .ref pI, .int 0, .int 0, .int 0, .int 0, .int 0, .ref nM, .ref vA, .ref tR, .int 0, .int 0, .int 0, .ref rW, .ref sP, .ref oA, .ref bS, .ref aS, .ref aO, .ref cS, .ref wY])), (aA, .inl (cI, 862, .inl af0)), (cS, .inl (cI, 300, .inl f9))]) H → va_D A ([(q, .inr (12, [.ref aA, .ref aI, .ref aT, .ref aP, .int 0, .int (-1), .int (-1), .int 0, .int 0, .int 0, .int 0, .long 0, .int 0, .int 0, .int 0, .int 0, .ref pI, .int 0, .int 0, .int 0, .int 0, .int 0, .ref nM, .ref vA, .ref tR, .int 0, .int 0, .int 0, .ref rW, .ref sP, .ref oA, .ref bS, .ref aS, .ref aO, .ref cS, .ref wY])), (aA, .inl (cI, 862, .inl af0)), (cS, .inl (cI, 300, .inl f9))]) → va_S A s.heap H locs → lv_has ls 8 [(0, .ref q), (1, .int p0), (2, .int p1), (3, .int p2), (4, .int i)] → W p l e (rmv 3 0 0) s m ([.ref q, .int p0, .int p1, .int p2] : List Value).toArray below meth c H locs 0 0 (MQ below (va_Qi (fun r u => r = (if (0 ≤ p0 ∧ p0 < 300) ∧ (0 ≤ p1 ∧ p1 < 300) ∧ p0 = p1 then 0 else (-1))) (cB D (ty3 cI cM cT) A) A) ([.ref q, .int p0, .int p1, .int p2] : List Value).toArray s 0 0 A) (F0 m 57 ls []) := by
  have hx := Z.1
  have hb := Z.2.1
  intro n0
  induction n0 with
  | zero => intro i h0 h1 hm; exact absurd hm (Nat.not_lt_zero _)
  | succ n0 ih =>
    intro i h0 h1 hm H locs ls hP hD hS hl
    refine lv_iload hx hb dX12_least_57 (lv_at hl 4 rfl) ?_
    refine lv_iload_n hx hb dX12_least_59 rfl (lv_at hl 2 rfl) ?_
    refine lv_icmp_ge (tgt := 174) hx hb dX12_least_60 (by decide) (fun c1 => ?_) (fun c1 => ?_)
    · by_cases ce : p0 = p1
      · have hv : f9 (p1 : Int32).toNatClampNeg = 0 := by rw [← ce]; exact hfb
        refine lv_aload_n hx hb dX12_least_174 rfl (lv_at hl 0 rfl) ?_
        refine z_get Z i_X12 hP 0 rfl rfl 34 (by decide) bw_1051 rfl dX12_least_175 ?_
        refine lv_iload_n hx hb dX12_least_178 rfl (lv_at hl 2 rfl) ?_
        refine z_iald Z hP 2 0 rfl rfl (vp_in_iff.mpr (by (try simp only [zlt, zle, zeq, zl_0, zl_1, zl_2, zl_3, zl_4, zl_5, zl_6, zl_7, zl_8, zl_9, zl_10, zl_11, zl_12, zl_13, zl_19, zl_20, zl_30, zl_64, zl_99, zl_100, zl_299, zl_300, zl_399, zl_999, zl_9999, zl_m1, zl_m2, zl_m3, zl_32, zl_280, zl_862, zl_464, zl_82, zl_382, zl_398, zl_400000000, zl_63] at hc h0 h1 hm c1 ce ⊢); omega)) dX12_least_179 ?_
        refine z_topi (y := 0) hv ?_
        refine lv_ldcw (v := 400000000) hx hb Z.2.2.2.1 (Z.2.2.2.2.1 _ bw_1407) dX12_least_180 ?_
        refine lv_icmp_lt (tgt := 188) hx hb dX12_least_183 (by decide) (fun c2 => ?_) (fun h => absurd (by decide) h)
        refine lv_iload_n hx hb dX12_least_188 rfl (lv_at hl 3 rfl) ?_
        refine lv_if_eq (tgt := 205) hx hb dX12_least_189 (by decide) (fun c3 => ?_) (fun c3 => ?_)
        · refine lv_aload_n hx hb dX12_least_205 rfl (lv_at hl 0 rfl) ?_
          refine z_get Z i_X12 hP 0 rfl rfl 34 (by decide) bw_1051 rfl dX12_least_206 ?_
          refine lv_iload_n hx hb dX12_least_209 rfl (lv_at hl 2 rfl) ?_
          refine z_iald Z hP 2 0 rfl rfl (vp_in_iff.mpr (by (try simp only [zlt, zle, zeq, zl_0, zl_1, zl_2, zl_3, zl_4, zl_5, zl_6, zl_7, zl_8, zl_9, zl_10, zl_11, zl_12, zl_13, zl_19, zl_20, zl_30, zl_64, zl_99, zl_100, zl_299, zl_300, zl_399, zl_999, zl_9999, zl_m1, zl_m2, zl_m3, zl_32, zl_280, zl_862, zl_464, zl_82, zl_382, zl_398, zl_400000000, zl_63] at hc h0 h1 hm c1 ce c2 c3 ⊢); omega)) dX12_least_210 ?_
          refine z_topi (y := 0) hv ?_
          refine lv_sipush (v := 1000) hx hb dX12_least_211 (by decide) ?_
          refine lv_idiv hx hb dX12_least_214 (by decide) ?_
          refine z_topi (y := 0) (by decide) ?_
          exact z_ret Z rfl hP hD hS ((by first | rfl | assumption | (rw [if_pos (by (try simp only [zlt, zle, zeq, zl_0, zl_1, zl_2, zl_3, zl_4, zl_5, zl_6, zl_7, zl_8, zl_9, zl_10, zl_11, zl_12, zl_13, zl_19, zl_20, zl_30, zl_64, zl_99, zl_100, zl_299, zl_300, zl_399, zl_999, zl_9999, zl_m1, zl_m2, zl_m3, zl_32, zl_280, zl_862, zl_464, zl_82, zl_382, zl_398, zl_400000000, zl_63] at hc h0 h1 hm c1 ce c2 c3 ⊢); omega)]; first | done | ((try simp only [zlt, zle, zeq, zl_0, zl_1, zl_2, zl_3, zl_4, zl_5, zl_6, zl_7, zl_8, zl_9, zl_10, zl_11, zl_12, zl_13, zl_19, zl_20, zl_30, zl_64, zl_99, zl_100, zl_299, zl_300, zl_399, zl_999, zl_9999, zl_m1, zl_m2, zl_m3, zl_32, zl_280, zl_862, zl_464, zl_82, zl_382, zl_398, zl_400000000, zl_63] at hc h0 h1 hm c1 ce c2 c3 ⊢); omega)) | (rw [if_neg (by (try simp only [zlt, zle, zeq, zl_0, zl_1, zl_2, zl_3, zl_4, zl_5, zl_6, zl_7, zl_8, zl_9, zl_10, zl_11, zl_12, zl_13, zl_19, zl_20, zl_30, zl_64, zl_99, zl_100, zl_299, zl_300, zl_399, zl_999, zl_9999, zl_m1, zl_m2, zl_m3, zl_32, zl_280, zl_862, zl_464, zl_82, zl_382, zl_398, zl_400000000, zl_63] at hc h0 h1 hm c1 ce c2 c3 ⊢); omega)]; first | done | ((try simp only [zlt, zle, zeq, zl_0, zl_1, zl_2, zl_3, zl_4, zl_5, zl_6, zl_7, zl_8, zl_9, zl_10, zl_11, zl_12, zl_13, zl_19, zl_20, zl_30, zl_64, zl_99, zl_100, zl_299, zl_300, zl_399, zl_999, zl_9999, zl_m1, zl_m2, zl_m3, zl_32, zl_280, zl_862, zl_464, zl_82, zl_382, zl_398, zl_400000000, zl_63] at hc h0 h1 hm c1 ce c2 c3 ⊢); omega)))) dX12_least_215 (Nat.le_of_ble_eq_true rfl) (Nat.le_of_ble_eq_true rfl)
        · refine lv_aload_n hx hb dX12_least_192 rfl (lv_at hl 0 rfl) ?_
          refine z_get Z i_X12 hP 0 rfl rfl 34 (by decide) bw_1051 rfl dX12_least_193 ?_
          refine lv_iload_n hx hb dX12_least_196 rfl (lv_at hl 2 rfl) ?_
          refine z_iald Z hP 2 0 rfl rfl (vp_in_iff.mpr (by (try simp only [zlt, zle, zeq, zl_0, zl_1, zl_2, zl_3, zl_4, zl_5, zl_6, zl_7, zl_8, zl_9, zl_10, zl_11, zl_12, zl_13, zl_19, zl_20, zl_30, zl_64, zl_99, zl_100, zl_299, zl_300, zl_399, zl_999, zl_9999, zl_m1, zl_m2, zl_m3, zl_32, zl_280, zl_862, zl_464, zl_82, zl_382, zl_398, zl_400000000, zl_63] at hc h0 h1 hm c1 ce c2 c3 ⊢); omega)) dX12_least_197 ?_
          refine z_topi (y := 0) hv ?_
          refine lv_sipush (v := 1000) hx hb dX12_least_198 (by decide) ?_
          refine lv_irem hx hb dX12_least_201 (by decide) ?_
          refine z_topi (y := 0) (by decide) ?_
          refine lv_goto (tgt := 215) hx hb dX12_least_202 (by decide) ?_
          exact z_ret Z rfl hP hD hS ((by first | rfl | assumption | (rw [if_pos (by (try simp only [zlt, zle, zeq, zl_0, zl_1, zl_2, zl_3, zl_4, zl_5, zl_6, zl_7, zl_8, zl_9, zl_10, zl_11, zl_12, zl_13, zl_19, zl_20, zl_30, zl_64, zl_99, zl_100, zl_299, zl_300, zl_399, zl_999, zl_9999, zl_m1, zl_m2, zl_m3, zl_32, zl_280, zl_862, zl_464, zl_82, zl_382, zl_398, zl_400000000, zl_63] at hc h0 h1 hm c1 ce c2 c3 ⊢); omega)]; first | done | ((try simp only [zlt, zle, zeq, zl_0, zl_1, zl_2, zl_3, zl_4, zl_5, zl_6, zl_7, zl_8, zl_9, zl_10, zl_11, zl_12, zl_13, zl_19, zl_20, zl_30, zl_64, zl_99, zl_100, zl_299, zl_300, zl_399, zl_999, zl_9999, zl_m1, zl_m2, zl_m3, zl_32, zl_280, zl_862, zl_464, zl_82, zl_382, zl_398, zl_400000000, zl_63] at hc h0 h1 hm c1 ce c2 c3 ⊢); omega)) | (rw [if_neg (by (try simp only [zlt, zle, zeq, zl_0, zl_1, zl_2, zl_3, zl_4, zl_5, zl_6, zl_7, zl_8, zl_9, zl_10, zl_11, zl_12, zl_13, zl_19, zl_20, zl_30, zl_64, zl_99, zl_100, zl_299, zl_300, zl_399, zl_999, zl_9999, zl_m1, zl_m2, zl_m3, zl_32, zl_280, zl_862, zl_464, zl_82, zl_382, zl_398, zl_400000000, zl_63] at hc h0 h1 hm c1 ce c2 c3 ⊢); omega)]; first | done | ((try simp only [zlt, zle, zeq, zl_0, zl_1, zl_2, zl_3, zl_4, zl_5, zl_6, zl_7, zl_8, zl_9, zl_10, zl_11, zl_12, zl_13, zl_19, zl_20, zl_30, zl_64, zl_99, zl_100, zl_299, zl_300, zl_399, zl_999, zl_9999, zl_m1, zl_m2, zl_m3, zl_32, zl_280, zl_862, zl_464, zl_82, zl_382, zl_398, zl_400000000, zl_63] at hc h0 h1 hm c1 ce c2 c3 ⊢); omega)))) dX12_least_215 (Nat.le_of_ble_eq_true rfl) (Nat.le_of_ble_eq_true rfl)
      · have hv : f9 (p1 : Int32).toNatClampNeg = 400000000 := hfa _ (zclt (by (try simp only [zlt, zle, zeq, zl_0, zl_1, zl_2, zl_3, zl_4, zl_5, zl_6, zl_7, zl_8, zl_9, zl_10, zl_11, zl_12, zl_13, zl_19, zl_20, zl_30, zl_64, zl_99, zl_100, zl_299, zl_300, zl_399, zl_999, zl_9999, zl_m1, zl_m2, zl_m3, zl_32, zl_280, zl_862, zl_464, zl_82, zl_382, zl_398, zl_400000000, zl_63] at hc h0 h1 hm c1 ce ⊢); omega) (by (try simp only [zlt, zle, zeq, zl_0, zl_1, zl_2, zl_3, zl_4, zl_5, zl_6, zl_7, zl_8, zl_9, zl_10, zl_11, zl_12, zl_13, zl_19, zl_20, zl_30, zl_64, zl_99, zl_100, zl_299, zl_300, zl_399, zl_999, zl_9999, zl_m1, zl_m2, zl_m3, zl_32, zl_280, zl_862, zl_464, zl_82, zl_382, zl_398, zl_400000000, zl_63] at hc h0 h1 hm c1 ce ⊢); omega)) (fun h => ce (zcinj (by (try simp only [zlt, zle, zeq, zl_0, zl_1, zl_2, zl_3, zl_4, zl_5, zl_6, zl_7, zl_8, zl_9, zl_10, zl_11, zl_12, zl_13, zl_19, zl_20, zl_30, zl_64, zl_99, zl_100, zl_299, zl_300, zl_399, zl_999, zl_9999, zl_m1, zl_m2, zl_m3, zl_32, zl_280, zl_862, zl_464, zl_82, zl_382, zl_398, zl_400000000, zl_63] at hc h0 h1 hm c1 ce ⊢); omega) (by (try simp only [zlt, zle, zeq, zl_0, zl_1, zl_2, zl_3, zl_4, zl_5, zl_6, zl_7, zl_8, zl_9, zl_10, zl_11, zl_12, zl_13, zl_19, zl_20, zl_30, zl_64, zl_99, zl_100, zl_299, zl_300, zl_399, zl_999, zl_9999, zl_m1, zl_m2, zl_m3, zl_32, zl_280, zl_862, zl_464, zl_82, zl_382, zl_398, zl_400000000, zl_63] at hc h0 h1 hm c1 ce ⊢); omega) h).symm)
        refine lv_aload_n hx hb dX12_least_174 rfl (lv_at hl 0 rfl) ?_
        refine z_get Z i_X12 hP 0 rfl rfl 34 (by decide) bw_1051 rfl dX12_least_175 ?_
        refine lv_iload_n hx hb dX12_least_178 rfl (lv_at hl 2 rfl) ?_
        refine z_iald Z hP 2 0 rfl rfl (vp_in_iff.mpr (by (try simp only [zlt, zle, zeq, zl_0, zl_1, zl_2, zl_3, zl_4, zl_5, zl_6, zl_7, zl_8, zl_9, zl_10, zl_11, zl_12, zl_13, zl_19, zl_20, zl_30, zl_64, zl_99, zl_100, zl_299, zl_300, zl_399, zl_999, zl_9999, zl_m1, zl_m2, zl_m3, zl_32, zl_280, zl_862, zl_464, zl_82, zl_382, zl_398, zl_400000000, zl_63] at hc h0 h1 hm c1 ce ⊢); omega)) dX12_least_179 ?_
        refine z_topi (y := 400000000) hv ?_
        refine lv_ldcw (v := 400000000) hx hb Z.2.2.2.1 (Z.2.2.2.2.1 _ bw_1407) dX12_least_180 ?_
        refine lv_icmp_lt (tgt := 188) hx hb dX12_least_183 (by decide) (fun h => absurd h (by decide)) (fun c4 => ?_)
        refine lv_iconst (v := (-1)) hx hb dX12_least_186 (by decide) ?_
        exact z_ret Z rfl hP hD hS ((by first | rfl | assumption | (rw [if_pos (by (try simp only [zlt, zle, zeq, zl_0, zl_1, zl_2, zl_3, zl_4, zl_5, zl_6, zl_7, zl_8, zl_9, zl_10, zl_11, zl_12, zl_13, zl_19, zl_20, zl_30, zl_64, zl_99, zl_100, zl_299, zl_300, zl_399, zl_999, zl_9999, zl_m1, zl_m2, zl_m3, zl_32, zl_280, zl_862, zl_464, zl_82, zl_382, zl_398, zl_400000000, zl_63] at hc h0 h1 hm c1 ce c4 ⊢); omega)]; first | done | ((try simp only [zlt, zle, zeq, zl_0, zl_1, zl_2, zl_3, zl_4, zl_5, zl_6, zl_7, zl_8, zl_9, zl_10, zl_11, zl_12, zl_13, zl_19, zl_20, zl_30, zl_64, zl_99, zl_100, zl_299, zl_300, zl_399, zl_999, zl_9999, zl_m1, zl_m2, zl_m3, zl_32, zl_280, zl_862, zl_464, zl_82, zl_382, zl_398, zl_400000000, zl_63] at hc h0 h1 hm c1 ce c4 ⊢); omega)) | (rw [if_neg (by (try simp only [zlt, zle, zeq, zl_0, zl_1, zl_2, zl_3, zl_4, zl_5, zl_6, zl_7, zl_8, zl_9, zl_10, zl_11, zl_12, zl_13, zl_19, zl_20, zl_30, zl_64, zl_99, zl_100, zl_299, zl_300, zl_399, zl_999, zl_9999, zl_m1, zl_m2, zl_m3, zl_32, zl_280, zl_862, zl_464, zl_82, zl_382, zl_398, zl_400000000, zl_63] at hc h0 h1 hm c1 ce c4 ⊢); omega)]; first | done | ((try simp only [zlt, zle, zeq, zl_0, zl_1, zl_2, zl_3, zl_4, zl_5, zl_6, zl_7, zl_8, zl_9, zl_10, zl_11, zl_12, zl_13, zl_19, zl_20, zl_30, zl_64, zl_99, zl_100, zl_299, zl_300, zl_399, zl_999, zl_9999, zl_m1, zl_m2, zl_m3, zl_32, zl_280, zl_862, zl_464, zl_82, zl_382, zl_398, zl_400000000, zl_63] at hc h0 h1 hm c1 ce c4 ⊢); omega)))) dX12_least_187 (Nat.le_of_ble_eq_true rfl) (Nat.le_of_ble_eq_true rfl)
    · refine lv_iconst (v := 0) hx hb dX12_least_63 (by decide) ?_
      refine lv_istore (lv' := [(5, .int 0), (0, .ref q), (1, .int p0), (2, .int p1), (3, .int p2), (4, .int i)]) hx hb dX12_least_64 hl (by decide) rfl (fun ls hl => ?_)
      refine lv_iload hx hb dX12_least_66 (lv_at hl 0 rfl) ?_
      refine lv_aload_n hx hb dX12_least_68 rfl (lv_at hl 1 rfl) ?_
      refine z_get Z i_X12 hP 0 rfl rfl 0 (by decide) bw_1019 rfl dX12_least_69 ?_
      refine lv_iconst (v := 0) hx hb dX12_least_72 (by decide) ?_
      refine z_iald Z hP 1 0 rfl rfl (vin (by decide)) dX12_least_73 ?_
      refine z_topi (y := 0) rfl ?_
      refine lv_icmp_ge (tgt := 168) hx hb dX12_least_74 (by decide) (fun c5 => ?_) (fun h => absurd (by decide) h)
      refine lv_iinc (v := (i + 1)) (lv' := [(4, .int (i + 1)), (5, .int 0), (0, .ref q), (1, .int p0), (2, .int p1), (3, .int p2)]) hx hb dX12_least_168 hl (k := 5) rfl (by rfl) (by decide) rfl (fun ls hl => ?_)
      refine lv_goto (tgt := 57) hx hb dX12_least_171 (by decide) ?_
      have e9 : (i + 1).toInt = i.toInt + 1 := zinc (by (try simp only [zlt, zle, zeq, zl_0, zl_1, zl_2, zl_3, zl_4, zl_5, zl_6, zl_7, zl_8, zl_9, zl_10, zl_11, zl_12, zl_13, zl_19, zl_20, zl_30, zl_64, zl_99, zl_100, zl_299, zl_300, zl_399, zl_999, zl_9999, zl_m1, zl_m2, zl_m3, zl_32, zl_280, zl_862, zl_464, zl_82, zl_382, zl_398, zl_400000000, zl_63] at hc h0 h1 hm c1 c5 ⊢); omega)
      exact ih (i + 1) (by (try simp only [zlt, zle, zeq, zl_0, zl_1, zl_2, zl_3, zl_4, zl_5, zl_6, zl_7, zl_8, zl_9, zl_10, zl_11, zl_12, zl_13, zl_19, zl_20, zl_30, zl_64, zl_99, zl_100, zl_299, zl_300, zl_399, zl_999, zl_9999, zl_m1, zl_m2, zl_m3, zl_32, zl_280, zl_862, zl_464, zl_82, zl_382, zl_398, zl_400000000, zl_63] at hc h0 h1 hm c1 c5 e9 ⊢); omega) (by (try simp only [zlt, zle, zeq, zl_0, zl_1, zl_2, zl_3, zl_4, zl_5, zl_6, zl_7, zl_8, zl_9, zl_10, zl_11, zl_12, zl_13, zl_19, zl_20, zl_30, zl_64, zl_99, zl_100, zl_299, zl_300, zl_399, zl_999, zl_9999, zl_m1, zl_m2, zl_m3, zl_32, zl_280, zl_862, zl_464, zl_82, zl_382, zl_398, zl_400000000, zl_63] at hc h0 h1 hm c1 c5 e9 ⊢); omega) (by (try simp only [zlt, zle, zeq, zl_0, zl_1, zl_2, zl_3, zl_4, zl_5, zl_6, zl_7, zl_8, zl_9, zl_10, zl_11, zl_12, zl_13, zl_19, zl_20, zl_30, zl_64, zl_99, zl_100, zl_299, zl_300, zl_399, zl_999, zl_9999, zl_m1, zl_m2, zl_m3, zl_32, zl_280, zl_862, zl_464, zl_82, zl_382, zl_398, zl_400000000, zl_63] at hc h0 h1 hm c1 c5 e9 ⊢); omega) _ _ _ hP hD hS (lv_sub hl [2, 3, 4, 5, 0] rfl)
set_option maxHeartbeats 4000000 in
set_option maxRecDepth 100000 in
theorem lp_X12_least_a {p : Program} (l : Launch) {e : Env} {s : State} {m : MethodId} {below : List Frame} {meth : Method} {c : Code} {A : Nat → Prop} (D : va_G) (cI cM cT : ClassId) (q : Nat) (aA : Nat) (aI : Nat) (aT : Nat) (aP : Nat) (pI : Nat) (nM : Nat) (vA : Nat) (tR : Nat) (rW : Nat) (sP : Nat) (oA : Nat) (bS : Nat) (aS : Nat) (aO : Nat) (cS : Nat) (wY : Nat) (p0 : Int32) (p1 : Int32) (p2 : Int32) (Z : Zx p s m ([.ref q, .int p0, .int p1, .int p2] : List Value).toArray meth c cX12_least 8 (some .int) yX12_least.cls A (ty3 cI cM cT) D) (hc : (0 ≤ p0 ∧ p0 < 300) ∧ (0 ≤ p1 ∧ p1 < 300)) : ∀ (n0 : Nat) (i : Nat) (g : Nat → Int32) (h0 : i ≤ 300) (hg : ∀ j, j < i → g j = 400000000), 300 - i < n0 → ∀ (H : Heap) (locs : List Loc) (ls : Array Slot), va_P D vwCl ([(q, .inr (12, [.ref aA, .ref aI, .ref aT, .ref aP, .int 0, .int (-1), .int (-1), .int 0, .int 0, .int 0, .int 0, .long 0, .int 0, .int 0, .int 0, .int 0, .ref pI, .int 0, .int 0, .int 0, .int 0, .int 0, .ref nM, .ref vA, .ref tR, .int 0, .int 0, .int 0, .ref rW, .ref sP, .ref oA, .ref bS, .ref aS, .ref aO, .ref cS, .ref wY])), (aA, .inl (cI, 862, .inl af0)), (cS, .inl (cI, 300, .inl g))]) H → va_D A ([(q, .inr (12, [.ref aA, .ref aI, .ref aT, .ref aP, .int 0, .int (-1), .int (-1), .int 0, .int 0, .int 0, .int 0, .long 0, .int 0, .int 0, .int 0, .int 0, .ref pI, .int 0, .int 0, .int 0, .int 0, .int 0, .ref nM, .ref vA, .ref tR, .int 0, .int 0, .int 0, .ref rW, .ref sP, .ref oA, .ref bS, .ref aS, .ref aO, .ref cS, .ref wY])), (aA, .inl (cI, 862, .inl af0)), (cS, .inl (cI, 300, .inl g))]) → va_S A s.heap H locs → lv_has ls 8 [(0, .ref q), (1, .int p0), (2, .int p1), (3, .int p2), (4, .int (nI i))] → W p l e (rmv 3 0 0) s m ([.ref q, .int p0, .int p1, .int p2] : List Value).toArray below meth c H locs 0 0 (MQ below (va_Qi (fun r u => r = (if (0 ≤ p0 ∧ p0 < 300) ∧ (0 ≤ p1 ∧ p1 < 300) ∧ p0 = p1 then 0 else (-1))) (cB D (ty3 cI cM cT) A) A) ([.ref q, .int p0, .int p1, .int p2] : List Value).toArray s 0 0 A) (F0 m 23 ls []) := by
  have hx := Z.1
  have hb := Z.2.1
  intro n0
  induction n0 with
  | zero => intro i g h0 hg hm; exact absurd hm (Nat.not_lt_zero _)
  | succ n0 ih =>
    intro i g h0 hg hm H locs ls hP hD hS hl
    have ei : (nI i).toInt = (i : Int) := nI_toInt (by omega)
    refine lv_iload hx hb dX12_least_23 (lv_at hl 4 rfl) ?_
    refine lv_sipush (v := 300) hx hb dX12_least_25 (by decide) ?_
    refine lv_icmp_ge (tgt := 47) hx hb dX12_least_28 (by decide) (fun c1 => ?_) (fun c1 => ?_)
    · refine lv_aload_n hx hb dX12_least_47 rfl (lv_at hl 0 rfl) ?_
      refine z_get Z i_X12 hP 0 rfl rfl 34 (by decide) bw_1051 rfl dX12_least_48 ?_
      refine lv_iload_n hx hb dX12_least_51 rfl (lv_at hl 1 rfl) ?_
      refine lv_iconst (v := 0) hx hb dX12_least_52 (by decide) ?_
      refine z_iast Z hP hD hS 2 0 rfl rfl (vp_in_iff.mpr (by (try simp only [zlt, zle, zeq, zl_0, zl_1, zl_2, zl_3, zl_4, zl_5, zl_6, zl_7, zl_8, zl_9, zl_10, zl_11, zl_12, zl_13, zl_19, zl_20, zl_30, zl_64, zl_99, zl_100, zl_299, zl_300, zl_399, zl_999, zl_9999, zl_m1, zl_m2, zl_m3, zl_32, zl_280, zl_862, zl_464, zl_82, zl_382, zl_398, zl_400000000, zl_63] at ei h0 hm hc c1 ⊢); omega)) dX12_least_53 (fun H locs hP hD hS => ?_)
      obtain ⟨f9, hf9⟩ : ∃ f9, f9 = upd g (p0 : Int32).toNatClampNeg 0 := ⟨_, rfl⟩
      rw [← hf9] at hP hD
      have hP : va_P D vwCl ([(q, .inr (12, [.ref aA, .ref aI, .ref aT, .ref aP, .int 0, .int (-1), .int (-1), .int 0, .int 0, .int 0, .int 0, .long 0, .int 0, .int 0, .int 0, .int 0, .ref pI, .int 0, .int 0, .int 0, .int 0, .int 0, .ref nM, .ref vA, .ref tR, .int 0, .int 0, .int 0, .ref rW, .ref sP, .ref oA, .ref bS, .ref aS, .ref aO, .ref cS, .ref wY])), (aA, .inl (cI, 862, .inl af0)), (cS, .inl (cI, 300, .inl f9))]) H := hP
      have hD : va_D A ([(q, .inr (12, [.ref aA, .ref aI, .ref aT, .ref aP, .int 0, .int (-1), .int (-1), .int 0, .int 0, .int 0, .int 0, .long 0, .int 0, .int 0, .int 0, .int 0, .ref pI, .int 0, .int 0, .int 0, .int 0, .int 0, .ref nM, .ref vA, .ref tR, .int 0, .int 0, .int 0, .ref rW, .ref sP, .ref oA, .ref bS, .ref aS, .ref aO, .ref cS, .ref wY])), (aA, .inl (cI, 862, .inl af0)), (cS, .inl (cI, 300, .inl f9))]) := hD
      have hfa : ∀ j, j < 300 → j ≠ (p0 : Int32).toNatClampNeg → f9 j = 400000000 := fun j h1 h2 => by rw [hf9, pk_un h2]; exact hg j (by (try simp only [zlt, zle, zeq, zl_0, zl_1, zl_2, zl_3, zl_4, zl_5, zl_6, zl_7, zl_8, zl_9, zl_10, zl_11, zl_12, zl_13, zl_19, zl_20, zl_30, zl_64, zl_99, zl_100, zl_299, zl_300, zl_399, zl_999, zl_9999, zl_m1, zl_m2, zl_m3, zl_32, zl_280, zl_862, zl_464, zl_82, zl_382, zl_398, zl_400000000, zl_63] at ei h0 hm hc c1 ⊢); omega)
      have hfb : f9 (p0 : Int32).toNatClampNeg = 0 := by rw [hf9, pk_us]
      refine lv_iload_n hx hb dX12_least_54 rfl (lv_at hl 1 rfl) ?_
      refine lv_istore (lv' := [(4, .int p0), (0, .ref q), (1, .int p0), (2, .int p1), (3, .int p2)]) hx hb dX12_least_55 hl (by decide) rfl (fun ls hl => ?_)
      refine W.widen (k := 0) (n := 0) (Nat.le_of_ble_eq_true rfl) (Nat.le_of_ble_eq_true rfl) ?_
      exact lp_X12_least_b l D cI cM cT q aA aI aT aP pI nM vA tR rW sP oA bS aS aO cS wY p0 p1 p2 Z  f9 hfa hfb (by (try simp only [zlt, zle, zeq, zl_0, zl_1, zl_2, zl_3, zl_4, zl_5, zl_6, zl_7, zl_8, zl_9, zl_10, zl_11, zl_12, zl_13, zl_19, zl_20, zl_30, zl_64, zl_99, zl_100, zl_299, zl_300, zl_399, zl_999, zl_9999, zl_m1, zl_m2, zl_m3, zl_32, zl_280, zl_862, zl_464, zl_82, zl_382, zl_398, zl_400000000, zl_63] at ei h0 hm hc c1 ⊢); omega) _ p0 (by (try simp only [zlt, zle, zeq, zl_0, zl_1, zl_2, zl_3, zl_4, zl_5, zl_6, zl_7, zl_8, zl_9, zl_10, zl_11, zl_12, zl_13, zl_19, zl_20, zl_30, zl_64, zl_99, zl_100, zl_299, zl_300, zl_399, zl_999, zl_9999, zl_m1, zl_m2, zl_m3, zl_32, zl_280, zl_862, zl_464, zl_82, zl_382, zl_398, zl_400000000, zl_63] at ei h0 hm hc c1 ⊢); omega) (by (try simp only [zlt, zle, zeq, zl_0, zl_1, zl_2, zl_3, zl_4, zl_5, zl_6, zl_7, zl_8, zl_9, zl_10, zl_11, zl_12, zl_13, zl_19, zl_20, zl_30, zl_64, zl_99, zl_100, zl_299, zl_300, zl_399, zl_999, zl_9999, zl_m1, zl_m2, zl_m3, zl_32, zl_280, zl_862, zl_464, zl_82, zl_382, zl_398, zl_400000000, zl_63] at ei h0 hm hc c1 ⊢); omega) (Nat.lt_succ_self _) _ _ _ hP hD hS (lv_sub hl [1, 2, 3, 4, 0] rfl)
    · refine lv_aload_n hx hb dX12_least_31 rfl (lv_at hl 0 rfl) ?_
      refine z_get Z i_X12 hP 0 rfl rfl 34 (by decide) bw_1051 rfl dX12_least_32 ?_
      refine lv_iload hx hb dX12_least_35 (lv_at hl 4 rfl) ?_
      refine lv_ldcw (v := 400000000) hx hb Z.2.2.2.1 (Z.2.2.2.2.1 _ bw_1407) dX12_least_37 ?_
      refine z_iast Z hP hD hS 2 0 rfl rfl (vp_in_nI (by (try simp only [zlt, zle, zeq, zl_0, zl_1, zl_2, zl_3, zl_4, zl_5, zl_6, zl_7, zl_8, zl_9, zl_10, zl_11, zl_12, zl_13, zl_19, zl_20, zl_30, zl_64, zl_99, zl_100, zl_299, zl_300, zl_399, zl_999, zl_9999, zl_m1, zl_m2, zl_m3, zl_32, zl_280, zl_862, zl_464, zl_82, zl_382, zl_398, zl_400000000, zl_63] at ei h0 hm hc c1 ⊢); omega) (by omega)) dX12_least_40 (fun H locs hP hD hS => ?_)
      rw [nI_clamp (by omega)] at hP hD
      have hP : va_P D vwCl ([(q, .inr (12, [.ref aA, .ref aI, .ref aT, .ref aP, .int 0, .int (-1), .int (-1), .int 0, .int 0, .int 0, .int 0, .long 0, .int 0, .int 0, .int 0, .int 0, .ref pI, .int 0, .int 0, .int 0, .int 0, .int 0, .ref nM, .ref vA, .ref tR, .int 0, .int 0, .int 0, .ref rW, .ref sP, .ref oA, .ref bS, .ref aS, .ref aO, .ref cS, .ref wY])), (aA, .inl (cI, 862, .inl af0)), (cS, .inl (cI, 300, .inl (upd g i 400000000)))]) H := hP
      have hD : va_D A ([(q, .inr (12, [.ref aA, .ref aI, .ref aT, .ref aP, .int 0, .int (-1), .int (-1), .int 0, .int 0, .int 0, .int 0, .long 0, .int 0, .int 0, .int 0, .int 0, .ref pI, .int 0, .int 0, .int 0, .int 0, .int 0, .ref nM, .ref vA, .ref tR, .int 0, .int 0, .int 0, .ref rW, .ref sP, .ref oA, .ref bS, .ref aS, .ref aO, .ref cS, .ref wY])), (aA, .inl (cI, 862, .inl af0)), (cS, .inl (cI, 300, .inl (upd g i 400000000)))]) := hD
      refine lv_iinc (v := (nI (i + 1))) (lv' := [(4, .int (nI (i + 1))), (0, .ref q), (1, .int p0), (2, .int p1), (3, .int p2)]) hx hb dX12_least_41 hl (k := 4) rfl (nI_1 i) (by decide) rfl (fun ls hl => ?_)
      refine lv_goto (tgt := 23) hx hb dX12_least_44 (by decide) ?_
      exact ih (i + 1) (upd g i 400000000) (by (try simp only [zlt, zle, zeq, zl_0, zl_1, zl_2, zl_3, zl_4, zl_5, zl_6, zl_7, zl_8, zl_9, zl_10, zl_11, zl_12, zl_13, zl_19, zl_20, zl_30, zl_64, zl_99, zl_100, zl_299, zl_300, zl_399, zl_999, zl_9999, zl_m1, zl_m2, zl_m3, zl_32, zl_280, zl_862, zl_464, zl_82, zl_382, zl_398, zl_400000000, zl_63] at ei h0 hm hc c1 ⊢); omega) (upd_all hg) (by (try simp only [zlt, zle, zeq, zl_0, zl_1, zl_2, zl_3, zl_4, zl_5, zl_6, zl_7, zl_8, zl_9, zl_10, zl_11, zl_12, zl_13, zl_19, zl_20, zl_30, zl_64, zl_99, zl_100, zl_299, zl_300, zl_399, zl_999, zl_9999, zl_m1, zl_m2, zl_m3, zl_32, zl_280, zl_862, zl_464, zl_82, zl_382, zl_398, zl_400000000, zl_63] at ei h0 hm hc c1 ⊢); omega) _ _ _ hP hD hS (lv_sub hl [1, 2, 3, 4, 0] rfl)
set_option maxHeartbeats 4000000 in
set_option maxRecDepth 100000 in
theorem c_X12_least (l : Launch) (D : va_G) (cI cM cT : ClassId) (q : Nat) (aA : Nat) (aI : Nat) (aT : Nat) (aP : Nat) (pI : Nat) (nM : Nat) (vA : Nat) (tR : Nat) (rW : Nat) (sP : Nat) (oA : Nat) (bS : Nat) (aS : Nat) (aO : Nat) (cS : Nat) (wY : Nat) (p0 : Int32) (p1 : Int32) (p2 : Int32) : Ci l D (ty3 cI cM cT) yX12_least cX12_least 8 (some .int) 3 0 0 [.ref q, .int p0, .int p1, .int p2] ([(q, .inr (12, [.ref aA, .ref aI, .ref aT, .ref aP, .int 0, .int (-1), .int (-1), .int 0, .int 0, .int 0, .int 0, .long 0, .int 0, .int 0, .int 0, .int 0, .ref pI, .int 0, .int 0, .int 0, .int 0, .int 0, .ref nM, .ref vA, .ref tR, .int 0, .int 0, .int 0, .ref rW, .ref sP, .ref oA, .ref bS, .ref aS, .ref aO, .ref cS, .ref wY])), (aA, .inl (cI, 862, .inl af0)), (cS, .inl (cI, 300, .inl (fun _ => 0)))]) (fun r u => r = (if (0 ≤ p0 ∧ p0 < 300) ∧ (0 ≤ p1 ∧ p1 < 300) ∧ p0 = p1 then 0 else (-1))) := by
  refine Ci.of (by decide +kernel) (Nat.le_of_ble_eq_true rfl) ?_
  intro p e s m below meth c A ls Z hin hP hD hl
  have hx := Z.1
  have hb := Z.2.1
  have hS : va_S A s.heap s.heap [] := va_S.rf
  have hl : lv_has ls 8 [(0, .ref q), (1, .int p0), (2, .int p1), (3, .int p2)] := hl
  skip
  refine lv_iload_n hx hb dX12_least_0 rfl (lv_at hl 1 rfl) ?_
  have hPc := hP.sub2 (wc := []) [] rfl
  have hDc := hD.sub (ws' := []) [] (by decide) rfl
  refine raw_Si (nA := 1) (As := [.int p0]) (rest := []) Z hl.1 (c_X12_isPlace l D cI cM cT p0) (bw_S bw_1132 bw_1133 bw_92 bw_1134) ⟨by decide +kernel, by decide +kernel, by decide +kernel⟩ rfl ⟨Nat.le_of_ble_eq_true rfl, Nat.le_of_ble_eq_true rfl⟩ hPc hDc hS rfl (Nat.le_of_ble_eq_true rfl) dX12_least_1 ⟨Nat.le_of_ble_eq_true rfl, Nat.le_of_ble_eq_true rfl⟩ (fun r2 u1 H1 locs1 h3 hku1 hP1 hD1 hS1 => ?_)
  obtain ⟨hrh3, rfl⟩ := h3
  obtain ⟨hP, hD⟩ := z_join (wr := [(q, .inr (12, [.ref aA, .ref aI, .ref aT, .ref aP, .int 0, .int (-1), .int (-1), .int 0, .int 0, .int 0, .int 0, .long 0, .int 0, .int 0, .int 0, .int 0, .ref pI, .int 0, .int 0, .int 0, .int 0, .int 0, .ref nM, .ref vA, .ref tR, .int 0, .int 0, .int 0, .ref rW, .ref sP, .ref oA, .ref bS, .ref aS, .ref aO, .ref cS, .ref wY])), (aA, .inl (cI, 862, .inl af0)), (cS, .inl (cI, 300, .inl (fun _ => 0)))]) Z hS hP hD [] [0, 1, 2] rfl (by decide) rfl (by decide) (by decide) hku1 hP1 hD1
  have hS := hS1
  clear hS1
  generalize H1 = H at hP hS ⊢
  generalize locs1 = locs at hS ⊢
  have hP : va_P D vwCl ([(q, .inr (12, [.ref aA, .ref aI, .ref aT, .ref aP, .int 0, .int (-1), .int (-1), .int 0, .int 0, .int 0, .int 0, .long 0, .int 0, .int 0, .int 0, .int 0, .ref pI, .int 0, .int 0, .int 0, .int 0, .int 0, .ref nM, .ref vA, .ref tR, .int 0, .int 0, .int 0, .ref rW, .ref sP, .ref oA, .ref bS, .ref aS, .ref aO, .ref cS, .ref wY])), (aA, .inl (cI, 862, .inl af0)), (cS, .inl (cI, 300, .inl (fun _ => 0)))]) H := hP
  have hD : va_D A ([(q, .inr (12, [.ref aA, .ref aI, .ref aT, .ref aP, .int 0, .int (-1), .int (-1), .int 0, .int 0, .int 0, .int 0, .long 0, .int 0, .int 0, .int 0, .int 0, .ref pI, .int 0, .int 0, .int 0, .int 0, .int 0, .ref nM, .ref vA, .ref tR, .int 0, .int 0, .int 0, .ref rW, .ref sP, .ref oA, .ref bS, .ref aS, .ref aO, .ref cS, .ref wY])), (aA, .inl (cI, 862, .inl af0)), (cS, .inl (cI, 300, .inl (fun _ => 0)))]) := hD
  by_cases c4 : 0 ≤ p0 ∧ p0 ≤ 299
  · obtain rfl : r2 = 1 := by rw [hrh3, if_pos c4]
    refine lv_if_eq (tgt := 14) hx hb dX12_least_4 (by decide) (fun h => absurd h (by decide)) (fun c5 => ?_)
    refine lv_iload_n hx hb dX12_least_7 rfl (lv_at hl 2 rfl) ?_
    have hPc := hP.sub2 (wc := []) [] rfl
    have hDc := hD.sub (ws' := []) [] (by decide) rfl
    refine raw_Si (nA := 1) (As := [.int p1]) (rest := []) Z hl.1 (c_X12_isPlace l D cI cM cT p1) (bw_S bw_1132 bw_1133 bw_92 bw_1134) ⟨by decide +kernel, by decide +kernel, by decide +kernel⟩ rfl ⟨Nat.le_of_ble_eq_true rfl, Nat.le_of_ble_eq_true rfl⟩ hPc hDc hS rfl (Nat.le_of_ble_eq_true rfl) dX12_least_8 ⟨Nat.le_of_ble_eq_true rfl, Nat.le_of_ble_eq_true rfl⟩ (fun r7 u6 H1 locs1 h8 hku6 hP1 hD1 hS1 => ?_)
    obtain ⟨hrh8, rfl⟩ := h8
    obtain ⟨hP, hD⟩ := z_join (wr := [(q, .inr (12, [.ref aA, .ref aI, .ref aT, .ref aP, .int 0, .int (-1), .int (-1), .int 0, .int 0, .int 0, .int 0, .long 0, .int 0, .int 0, .int 0, .int 0, .ref pI, .int 0, .int 0, .int 0, .int 0, .int 0, .ref nM, .ref vA, .ref tR, .int 0, .int 0, .int 0, .ref rW, .ref sP, .ref oA, .ref bS, .ref aS, .ref aO, .ref cS, .ref wY])), (aA, .inl (cI, 862, .inl af0)), (cS, .inl (cI, 300, .inl (fun _ => 0)))]) Z hS hP hD [] [0, 1, 2] rfl (by decide) rfl (by decide) (by decide) hku6 hP1 hD1
    have hS := hS1
    clear hS1
    generalize H1 = H at hP hS ⊢
    generalize locs1 = locs at hS ⊢
    have hP : va_P D vwCl ([(q, .inr (12, [.ref aA, .ref aI, .ref aT, .ref aP, .int 0, .int (-1), .int (-1), .int 0, .int 0, .int 0, .int 0, .long 0, .int 0, .int 0, .int 0, .int 0, .ref pI, .int 0, .int 0, .int 0, .int 0, .int 0, .ref nM, .ref vA, .ref tR, .int 0, .int 0, .int 0, .ref rW, .ref sP, .ref oA, .ref bS, .ref aS, .ref aO, .ref cS, .ref wY])), (aA, .inl (cI, 862, .inl af0)), (cS, .inl (cI, 300, .inl (fun _ => 0)))]) H := hP
    have hD : va_D A ([(q, .inr (12, [.ref aA, .ref aI, .ref aT, .ref aP, .int 0, .int (-1), .int (-1), .int 0, .int 0, .int 0, .int 0, .long 0, .int 0, .int 0, .int 0, .int 0, .ref pI, .int 0, .int 0, .int 0, .int 0, .int 0, .ref nM, .ref vA, .ref tR, .int 0, .int 0, .int 0, .ref rW, .ref sP, .ref oA, .ref bS, .ref aS, .ref aO, .ref cS, .ref wY])), (aA, .inl (cI, 862, .inl af0)), (cS, .inl (cI, 300, .inl (fun _ => 0)))]) := hD
    by_cases c9 : 0 ≤ p1 ∧ p1 ≤ 299
    · obtain rfl : r7 = 1 := by rw [hrh8, if_pos c9]
      refine lv_if_ne (tgt := 16) hx hb dX12_least_11 (by decide) (fun c10 => ?_) (fun h => absurd h (by decide))
      refine lv_aload_n hx hb dX12_least_16 rfl (lv_at hl 0 rfl) ?_
      have hPc := hP.sub2 (wc := [(q, .inr (12, [.ref aA, .ref aI, .ref aT, .ref aP, .int 0, .int (-1), .int (-1), .int 0, .int 0, .int 0, .int 0, .long 0, .int 0, .int 0, .int 0, .int 0, .ref pI, .int 0, .int 0, .int 0, .int 0, .int 0, .ref nM, .ref vA, .ref tR, .int 0, .int 0, .int 0, .ref rW, .ref sP, .ref oA, .ref bS, .ref aS, .ref aO, .ref cS, .ref wY])), (aA, .inl (cI, 862, .inl af0))]) [0, 1] rfl
      have hDc := hD.sub (ws' := [(q, .inr (12, [.ref aA, .ref aI, .ref aT, .ref aP, .int 0, .int (-1), .int (-1), .int 0, .int 0, .int 0, .int 0, .long 0, .int 0, .int 0, .int 0, .int 0, .ref pI, .int 0, .int 0, .int 0, .int 0, .int 0, .ref nM, .ref vA, .ref tR, .int 0, .int 0, .int 0, .ref rW, .ref sP, .ref oA, .ref bS, .ref aS, .ref aO, .ref cS, .ref wY])), (aA, .inl (cI, 862, .inl af0))]) [0, 1] (by decide) rfl
      refine raw_Vv (ci := 12) (q0 := 0) (nA := 0) (As := []) (rest := []) Z hl.1 (c_X12_findAll l D cI cM cT q aA aI aT aP pI nM vA tR rW sP oA bS aS aO cS wY) (bw_V bw_1403 bw_1405 bw_73 bw_92 bw_1406) ⟨by decide +kernel, by decide +kernel, by decide +kernel⟩ rfl ⟨Nat.le_of_ble_eq_true rfl, Nat.le_of_ble_eq_true rfl⟩ rfl rfl rfl hPc hDc hS rfl (Nat.le_of_ble_eq_true rfl) dX12_least_17 ⟨Nat.le_of_ble_eq_true rfl, Nat.le_of_ble_eq_true rfl⟩ (fun u11 H1 locs1 h13 hku11 hP1 hD1 hS1 => ?_)
      obtain rfl := h13
      obtain ⟨hP, hD⟩ := z_join (wr := [(cS, .inl (cI, 300, .inl (fun _ => 0)))]) Z hS hP hD [0, 1] [2] rfl (by decide) rfl (by decide) (by decide) hku11 hP1 hD1
      have hS := hS1
      clear hS1
      generalize H1 = H at hP hS ⊢
      generalize locs1 = locs at hS ⊢
      have hP : va_P D vwCl ([(cS, .inl (cI, 300, .inl (fun _ => 0))), (q, .inr (12, [.ref aA, .ref aI, .ref aT, .ref aP, .int 0, .int (-1), .int (-1), .int 0, .int 0, .int 0, .int 0, .long 0, .int 0, .int 0, .int 0, .int 0, .ref pI, .int 0, .int 0, .int 0, .int 0, .int 0, .ref nM, .ref vA, .ref tR, .int 0, .int 0, .int 0, .ref rW, .ref sP, .ref oA, .ref bS, .ref aS, .ref aO, .ref cS, .ref wY])), (aA, .inl (cI, 862, .inl af0))]) H := hP
      have hD : va_D A ([(cS, .inl (cI, 300, .inl (fun _ => 0))), (q, .inr (12, [.ref aA, .ref aI, .ref aT, .ref aP, .int 0, .int (-1), .int (-1), .int 0, .int 0, .int 0, .int 0, .long 0, .int 0, .int 0, .int 0, .int 0, .ref pI, .int 0, .int 0, .int 0, .int 0, .int 0, .ref nM, .ref vA, .ref tR, .int 0, .int 0, .int 0, .ref rW, .ref sP, .ref oA, .ref bS, .ref aS, .ref aO, .ref cS, .ref wY])), (aA, .inl (cI, 862, .inl af0))]) := hD
      refine lv_iconst (v := 0) hx hb dX12_least_20 (by decide) ?_
      refine lv_istore (lv' := [(4, .int 0), (0, .ref q), (1, .int p0), (2, .int p1), (3, .int p2)]) hx hb dX12_least_21 hl (by decide) rfl (fun ls hl => ?_)
      refine W.widen (k := 0) (n := 0) (Nat.le_of_ble_eq_true rfl) (Nat.le_of_ble_eq_true rfl) ?_
      exact lp_X12_least_a l D cI cM cT q aA aI aT aP pI nM vA tR rW sP oA bS aS aO cS wY p0 p1 p2 Z  (by (try simp only [zlt, zle, zeq, zl_0, zl_1, zl_2, zl_3, zl_4, zl_5, zl_6, zl_7, zl_8, zl_9, zl_10, zl_11, zl_12, zl_13, zl_19, zl_20, zl_30, zl_64, zl_99, zl_100, zl_299, zl_300, zl_399, zl_999, zl_9999, zl_m1, zl_m2, zl_m3, zl_32, zl_280, zl_862, zl_464, zl_82, zl_382, zl_398, zl_400000000, zl_63] at c4 c5 c9 c10 ⊢); omega) _ 0 (fun _ => 0) (Nat.zero_le _) (fun j hj => absurd hj (Nat.not_lt_zero j)) (Nat.lt_succ_self _) _ _ _ (hP.sub2 [1, 2, 0] rfl) (hD.sub [1, 2, 0] (by decide) rfl) hS (lv_sub hl [1, 2, 3, 4, 0] rfl)
    · obtain rfl : r7 = 0 := by rw [hrh8, if_neg c9]
      refine lv_if_ne (tgt := 16) hx hb dX12_least_11 (by decide) (fun h => absurd (by decide) h) (fun c14 => ?_)
      refine lv_iconst (v := (-1)) hx hb dX12_least_14 (by decide) ?_
      exact z_ret Z rfl hP hD hS ((by first | rfl | assumption | (rw [if_pos (by (try simp only [zlt, zle, zeq, zl_0, zl_1, zl_2, zl_3, zl_4, zl_5, zl_6, zl_7, zl_8, zl_9, zl_10, zl_11, zl_12, zl_13, zl_19, zl_20, zl_30, zl_64, zl_99, zl_100, zl_299, zl_300, zl_399, zl_999, zl_9999, zl_m1, zl_m2, zl_m3, zl_32, zl_280, zl_862, zl_464, zl_82, zl_382, zl_398, zl_400000000, zl_63] at c4 c5 c9 c14 ⊢); omega)]; first | done | ((try simp only [zlt, zle, zeq, zl_0, zl_1, zl_2, zl_3, zl_4, zl_5, zl_6, zl_7, zl_8, zl_9, zl_10, zl_11, zl_12, zl_13, zl_19, zl_20, zl_30, zl_64, zl_99, zl_100, zl_299, zl_300, zl_399, zl_999, zl_9999, zl_m1, zl_m2, zl_m3, zl_32, zl_280, zl_862, zl_464, zl_82, zl_382, zl_398, zl_400000000, zl_63] at c4 c5 c9 c14 ⊢); omega)) | (rw [if_neg (by (try simp only [zlt, zle, zeq, zl_0, zl_1, zl_2, zl_3, zl_4, zl_5, zl_6, zl_7, zl_8, zl_9, zl_10, zl_11, zl_12, zl_13, zl_19, zl_20, zl_30, zl_64, zl_99, zl_100, zl_299, zl_300, zl_399, zl_999, zl_9999, zl_m1, zl_m2, zl_m3, zl_32, zl_280, zl_862, zl_464, zl_82, zl_382, zl_398, zl_400000000, zl_63] at c4 c5 c9 c14 ⊢); omega)]; first | done | ((try simp only [zlt, zle, zeq, zl_0, zl_1, zl_2, zl_3, zl_4, zl_5, zl_6, zl_7, zl_8, zl_9, zl_10, zl_11, zl_12, zl_13, zl_19, zl_20, zl_30, zl_64, zl_99, zl_100, zl_299, zl_300, zl_399, zl_999, zl_9999, zl_m1, zl_m2, zl_m3, zl_32, zl_280, zl_862, zl_464, zl_82, zl_382, zl_398, zl_400000000, zl_63] at c4 c5 c9 c14 ⊢); omega)))) dX12_least_15 (Nat.le_of_ble_eq_true rfl) (Nat.le_of_ble_eq_true rfl)
  · obtain rfl : r2 = 0 := by rw [hrh3, if_neg c4]
    refine lv_if_eq (tgt := 14) hx hb dX12_least_4 (by decide) (fun c15 => ?_) (fun h => absurd (by decide) h)
    refine lv_iconst (v := (-1)) hx hb dX12_least_14 (by decide) ?_
    exact z_ret Z rfl hP hD hS ((by first | rfl | assumption | (rw [if_pos (by (try simp only [zlt, zle, zeq, zl_0, zl_1, zl_2, zl_3, zl_4, zl_5, zl_6, zl_7, zl_8, zl_9, zl_10, zl_11, zl_12, zl_13, zl_19, zl_20, zl_30, zl_64, zl_99, zl_100, zl_299, zl_300, zl_399, zl_999, zl_9999, zl_m1, zl_m2, zl_m3, zl_32, zl_280, zl_862, zl_464, zl_82, zl_382, zl_398, zl_400000000, zl_63] at c4 c15 ⊢); omega)]; first | done | ((try simp only [zlt, zle, zeq, zl_0, zl_1, zl_2, zl_3, zl_4, zl_5, zl_6, zl_7, zl_8, zl_9, zl_10, zl_11, zl_12, zl_13, zl_19, zl_20, zl_30, zl_64, zl_99, zl_100, zl_299, zl_300, zl_399, zl_999, zl_9999, zl_m1, zl_m2, zl_m3, zl_32, zl_280, zl_862, zl_464, zl_82, zl_382, zl_398, zl_400000000, zl_63] at c4 c15 ⊢); omega)) | (rw [if_neg (by (try simp only [zlt, zle, zeq, zl_0, zl_1, zl_2, zl_3, zl_4, zl_5, zl_6, zl_7, zl_8, zl_9, zl_10, zl_11, zl_12, zl_13, zl_19, zl_20, zl_30, zl_64, zl_99, zl_100, zl_299, zl_300, zl_399, zl_999, zl_9999, zl_m1, zl_m2, zl_m3, zl_32, zl_280, zl_862, zl_464, zl_82, zl_382, zl_398, zl_400000000, zl_63] at c4 c15 ⊢); omega)]; first | done | ((try simp only [zlt, zle, zeq, zl_0, zl_1, zl_2, zl_3, zl_4, zl_5, zl_6, zl_7, zl_8, zl_9, zl_10, zl_11, zl_12, zl_13, zl_19, zl_20, zl_30, zl_64, zl_99, zl_100, zl_299, zl_300, zl_399, zl_999, zl_9999, zl_m1, zl_m2, zl_m3, zl_32, zl_280, zl_862, zl_464, zl_82, zl_382, zl_398, zl_400000000, zl_63] at c4 c15 ⊢); omega)))) dX12_least_15 (Nat.le_of_ble_eq_true rfl) (Nat.le_of_ble_eq_true rfl)
set_option maxHeartbeats 4000000 in
set_option maxRecDepth 100000 in
theorem lp_X12_orders_b {p : Program} (l : Launch) {e : Env} {s : State} {m : MethodId} {below : List Frame} {meth : Method} {c : Code} {A : Nat → Prop} (D : va_G) (cI cM cT : ClassId) (q : Nat) (aA : Nat) (aI : Nat) (aT : Nat) (aP : Nat) (pI : Nat) (nM : Nat) (vA : Nat) (tR : Nat) (rW : Nat) (sP : Nat) (oA : Nat) (bS : Nat) (aS : Nat) (aO : Nat) (cS : Nat) (wY : Nat) (p0 : Int32) (Z : Zx p s m ([.ref q, .int p0] : List Value).toArray meth c cX12_orders 6 (some .int) yX12_orders.cls A (ty3 cI cM cT) D) (g : Nat → Int32) (hg : ∀ j, j < 64 → g j = (if j = 0 then 1 else 0)) : ∀ (n0 : Nat) (i : Nat) (t : Int32) (h0 : i ≤ 64) (hs0 : i = 0 → t = 0) (hs1 : 0 < i → t = 1), 64 - i < n0 → ∀ (H : Heap) (locs : List Loc) (ls : Array Slot), va_P D vwCl ([(q, .inr (12, [.ref aA, .ref aI, .ref aT, .ref aP, .int 0, .int (-1), .int (-1), .int 0, .int 0, .int 0, .int 0, .long 0, .int 0, .int 0, .int 0, .int 0, .ref pI, .int 0, .int 0, .int 0, .int 0, .int 0, .ref nM, .ref vA, .ref tR, .int 0, .int 0, .int 0, .ref rW, .ref sP, .ref oA, .ref bS, .ref aS, .ref aO, .ref cS, .ref wY])), (aA, .inl (cI, 862, .inl af0)), (wY, .inl (cI, 64, .inl g))]) H → va_D A ([(q, .inr (12, [.ref aA, .ref aI, .ref aT, .ref aP, .int 0, .int (-1), .int (-1), .int 0, .int 0, .int 0, .int 0, .long 0, .int 0, .int 0, .int 0, .int 0, .ref pI, .int 0, .int 0, .int 0, .int 0, .int 0, .ref nM, .ref vA, .ref tR, .int 0, .int 0, .int 0, .ref rW, .ref sP, .ref oA, .ref bS, .ref aS, .ref aO, .ref cS, .ref wY])), (aA, .inl (cI, 862, .inl af0)), (wY, .inl (cI, 64, .inl g))]) → va_S A s.heap H locs → lv_has ls 6 [(0, .ref q), (1, .int p0), (2, .int t), (3, .int (nI i))] → W p l e (rmv 1 0 0) s m ([.ref q, .int p0] : List Value).toArray below meth c H locs 0 0 (MQ below (va_Qi (fun r u => r = 1 ∧ u = [(q, .inr (12, [.ref aA, .ref aI, .ref aT, .ref aP, .int 0, .int (-1), .int (-1), .int 0, .int 0, .int 0, .int 0, .long 0, .int 0, .int 0, .int 0, .int 0, .ref pI, .int 0, .int 0, .int 0, .int 0, .int 0, .ref nM, .ref vA, .ref tR, .int 0, .int 0, .int 0, .ref rW, .ref sP, .ref oA, .ref bS, .ref aS, .ref aO, .ref cS, .ref wY])), (aA, .inl (cI, 862, .inl af0))]) (cB D (ty3 cI cM cT) A) A) ([.ref q, .int p0] : List Value).toArray s 0 0 A) (F0 m 143 ls []) := by
  have hx := Z.1
  have hb := Z.2.1
  intro n0
  induction n0 with
  | zero => intro i t h0 hs0 hs1 hm; exact absurd hm (Nat.not_lt_zero _)
  | succ n0 ih =>
    intro i t h0 hs0 hs1 hm H locs ls hP hD hS hl
    have ei : (nI i).toInt = (i : Int) := nI_toInt (by omega)
    refine lv_iload_n hx hb dX12_orders_143 rfl (lv_at hl 3 rfl) ?_
    refine lv_bipush (v := 64) hx hb dX12_orders_144 (by decide) ?_
    refine lv_icmp_ge (tgt := 182) hx hb dX12_orders_146 (by decide) (fun c1 => ?_) (fun c1 => ?_)
    · refine lv_iload_n hx hb dX12_orders_182 rfl (lv_at hl 2 rfl) ?_
      have hP := hP.sub2 (wc := [(q, .inr (12, [.ref aA, .ref aI, .ref aT, .ref aP, .int 0, .int (-1), .int (-1), .int 0, .int 0, .int 0, .int 0, .long 0, .int 0, .int 0, .int 0, .int 0, .ref pI, .int 0, .int 0, .int 0, .int 0, .int 0, .ref nM, .ref vA, .ref tR, .int 0, .int 0, .int 0, .ref rW, .ref sP, .ref oA, .ref bS, .ref aS, .ref aO, .ref cS, .ref wY])), (aA, .inl (cI, 862, .inl af0))]) [0, 1] rfl
      have hD := hD.sub (ws' := [(q, .inr (12, [.ref aA, .ref aI, .ref aT, .ref aP, .int 0, .int (-1), .int (-1), .int 0, .int 0, .int 0, .int 0, .long 0, .int 0, .int 0, .int 0, .int 0, .ref pI, .int 0, .int 0, .int 0, .int 0, .int 0, .ref nM, .ref vA, .ref tR, .int 0, .int 0, .int 0, .ref rW, .ref sP, .ref oA, .ref bS, .ref aS, .ref aO, .ref cS, .ref wY])), (aA, .inl (cI, 862, .inl af0))]) [0, 1] (by decide) rfl
      exact z_ret Z rfl hP hD hS (⟨hs1 (by (try simp only [zlt, zle, zeq, zl_0, zl_1, zl_2, zl_3, zl_4, zl_5, zl_6, zl_7, zl_8, zl_9, zl_10, zl_11, zl_12, zl_13, zl_19, zl_20, zl_30, zl_64, zl_99, zl_100, zl_299, zl_300, zl_399, zl_999, zl_9999, zl_m1, zl_m2, zl_m3, zl_32, zl_280, zl_862, zl_464, zl_82, zl_382, zl_398, zl_400000000, zl_63] at ei h0 hm c1 ⊢); omega), rfl⟩) dX12_orders_183 (Nat.le_of_ble_eq_true rfl) (Nat.le_of_ble_eq_true rfl)
    · rcases Nat.eq_zero_or_pos i with hz | hz
      · skip
        refine lv_iload_n hx hb dX12_orders_149 rfl (lv_at hl 2 rfl) ?_
        refine lv_iload_n hx hb dX12_orders_150 rfl (lv_at hl 3 rfl) ?_
        have hPc := hP.sub2 (wc := []) [] rfl
        have hDc := hD.sub (ws' := []) [] (by decide) rfl
        refine raw_Si (nA := 1) (As := [.int (nI i)]) (rest := [.int t]) Z hl.1 (c_X12_bits l D cI cM cT (nI i)) (bw_S bw_1412 bw_1413 bw_92 bw_1414) ⟨by decide +kernel, by decide +kernel, by decide +kernel⟩ rfl ⟨Nat.le_of_ble_eq_true rfl, Nat.le_of_ble_eq_true rfl⟩ hPc hDc hS rfl (Nat.le_of_ble_eq_true rfl) dX12_orders_151 ⟨Nat.le_of_ble_eq_true rfl, Nat.le_of_ble_eq_true rfl⟩ (fun r3 u2 H1 locs1 h4 hku2 hP1 hD1 hS1 => ?_)
        have hposth4 := h4
        obtain ⟨hP, hD⟩ := z_join (wr := [(q, .inr (12, [.ref aA, .ref aI, .ref aT, .ref aP, .int 0, .int (-1), .int (-1), .int 0, .int 0, .int 0, .int 0, .long 0, .int 0, .int 0, .int 0, .int 0, .ref pI, .int 0, .int 0, .int 0, .int 0, .int 0, .ref nM, .ref vA, .ref tR, .int 0, .int 0, .int 0, .ref rW, .ref sP, .ref oA, .ref bS, .ref aS, .ref aO, .ref cS, .ref wY])), (aA, .inl (cI, 862, .inl af0)), (wY, .inl (cI, 64, .inl g))]) Z hS hP hD [] [0, 1, 2] rfl (by decide) rfl (by decide) (by decide) hku2 hP1 hD1
        have hS := hS1
        clear hS1
        generalize H1 = H at hP hS ⊢
        generalize locs1 = locs at hS ⊢
        have hP := va_P_left hP
        have hD := va_D_left hD
        refine lv_aload_n hx hb dX12_orders_154 rfl (lv_at hl 0 rfl) ?_
        refine z_get Z i_X12 hP 0 rfl rfl 0 (by decide) bw_1019 rfl dX12_orders_155 ?_
        refine lv_bipush (v := 9) hx hb dX12_orders_158 (by decide) ?_
        refine z_iald Z hP 1 0 rfl rfl (vin (by decide)) dX12_orders_160 ?_
        refine z_topi (y := 0) rfl ?_
        refine lv_icmp_ne (tgt := 173) hx hb dX12_orders_161 (by decide) (fun h => absurd (hposth4.1 (by (try simp only [zlt, zle, zeq, zl_0, zl_1, zl_2, zl_3, zl_4, zl_5, zl_6, zl_7, zl_8, zl_9, zl_10, zl_11, zl_12, zl_13, zl_19, zl_20, zl_30, zl_64, zl_99, zl_100, zl_299, zl_300, zl_399, zl_999, zl_9999, zl_m1, zl_m2, zl_m3, zl_32, zl_280, zl_862, zl_464, zl_82, zl_382, zl_398, zl_400000000, zl_63] at ei h0 hm c1 hz ⊢); omega)) h) (fun c5 => ?_)
        refine lv_aload_n hx hb dX12_orders_164 rfl (lv_at hl 0 rfl) ?_
        refine z_get Z i_X12 hP 0 rfl rfl 35 (by decide) bw_1052 rfl dX12_orders_165 ?_
        refine lv_iload_n hx hb dX12_orders_168 rfl (lv_at hl 3 rfl) ?_
        refine z_iald Z hP 2 0 rfl rfl (vp_in_nI (by (try simp only [zlt, zle, zeq, zl_0, zl_1, zl_2, zl_3, zl_4, zl_5, zl_6, zl_7, zl_8, zl_9, zl_10, zl_11, zl_12, zl_13, zl_19, zl_20, zl_30, zl_64, zl_99, zl_100, zl_299, zl_300, zl_399, zl_999, zl_9999, zl_m1, zl_m2, zl_m3, zl_32, zl_280, zl_862, zl_464, zl_82, zl_382, zl_398, zl_400000000, zl_63] at ei h0 hm c1 hz c5 ⊢); omega) (by omega)) dX12_orders_169 ?_
        refine z_topi (y := 1) (by rw [nI_clamp (by omega), hg i (by (try simp only [zlt, zle, zeq, zl_0, zl_1, zl_2, zl_3, zl_4, zl_5, zl_6, zl_7, zl_8, zl_9, zl_10, zl_11, zl_12, zl_13, zl_19, zl_20, zl_30, zl_64, zl_99, zl_100, zl_299, zl_300, zl_399, zl_999, zl_9999, zl_m1, zl_m2, zl_m3, zl_32, zl_280, zl_862, zl_464, zl_82, zl_382, zl_398, zl_400000000, zl_63] at ei h0 hm c1 hz c5 ⊢); omega)]; rw [if_pos hz]) ?_
        refine lv_goto (tgt := 174) hx hb dX12_orders_170 (by decide) ?_
        refine lv_iadd hx hb dX12_orders_174 ?_
        refine lv_istore_n (lv' := [(2, .int (t + 1)), (0, .ref q), (1, .int p0), (3, .int (nI i))]) hx hb dX12_orders_175 rfl hl (by decide) rfl (fun ls hl => ?_)
        refine lv_iinc (v := (nI (i + 1))) (lv' := [(3, .int (nI (i + 1))), (2, .int (t + 1)), (0, .ref q), (1, .int p0)]) hx hb dX12_orders_176 hl (k := 3) rfl (nI_1 i) (by decide) rfl (fun ls hl => ?_)
        refine lv_goto (tgt := 143) hx hb dX12_orders_179 (by decide) ?_
        exact ih (i + 1) (t + 1) (by (try simp only [zlt, zle, zeq, zl_0, zl_1, zl_2, zl_3, zl_4, zl_5, zl_6, zl_7, zl_8, zl_9, zl_10, zl_11, zl_12, zl_13, zl_19, zl_20, zl_30, zl_64, zl_99, zl_100, zl_299, zl_300, zl_399, zl_999, zl_9999, zl_m1, zl_m2, zl_m3, zl_32, zl_280, zl_862, zl_464, zl_82, zl_382, zl_398, zl_400000000, zl_63] at ei h0 hm c1 hz c5 ⊢); omega) (fun h => absurd h (Nat.succ_ne_zero i)) (fun _ => by rw [hs0 hz]; decide) (by (try simp only [zlt, zle, zeq, zl_0, zl_1, zl_2, zl_3, zl_4, zl_5, zl_6, zl_7, zl_8, zl_9, zl_10, zl_11, zl_12, zl_13, zl_19, zl_20, zl_30, zl_64, zl_99, zl_100, zl_299, zl_300, zl_399, zl_999, zl_9999, zl_m1, zl_m2, zl_m3, zl_32, zl_280, zl_862, zl_464, zl_82, zl_382, zl_398, zl_400000000, zl_63] at ei h0 hm c1 hz c5 ⊢); omega) _ _ _ hP hD hS (lv_sub hl [2, 3, 1, 0] rfl)
      · skip
        refine lv_iload_n hx hb dX12_orders_149 rfl (lv_at hl 2 rfl) ?_
        refine lv_iload_n hx hb dX12_orders_150 rfl (lv_at hl 3 rfl) ?_
        have hPc := hP.sub2 (wc := []) [] rfl
        have hDc := hD.sub (ws' := []) [] (by decide) rfl
        refine raw_Si (nA := 1) (As := [.int (nI i)]) (rest := [.int t]) Z hl.1 (c_X12_bits l D cI cM cT (nI i)) (bw_S bw_1412 bw_1413 bw_92 bw_1414) ⟨by decide +kernel, by decide +kernel, by decide +kernel⟩ rfl ⟨Nat.le_of_ble_eq_true rfl, Nat.le_of_ble_eq_true rfl⟩ hPc hDc hS rfl (Nat.le_of_ble_eq_true rfl) dX12_orders_151 ⟨Nat.le_of_ble_eq_true rfl, Nat.le_of_ble_eq_true rfl⟩ (fun r7 u6 H1 locs1 h8 hku6 hP1 hD1 hS1 => ?_)
        have hposth8 := h8
        obtain ⟨hP, hD⟩ := z_join (wr := [(q, .inr (12, [.ref aA, .ref aI, .ref aT, .ref aP, .int 0, .int (-1), .int (-1), .int 0, .int 0, .int 0, .int 0, .long 0, .int 0, .int 0, .int 0, .int 0, .ref pI, .int 0, .int 0, .int 0, .int 0, .int 0, .ref nM, .ref vA, .ref tR, .int 0, .int 0, .int 0, .ref rW, .ref sP, .ref oA, .ref bS, .ref aS, .ref aO, .ref cS, .ref wY])), (aA, .inl (cI, 862, .inl af0)), (wY, .inl (cI, 64, .inl g))]) Z hS hP hD [] [0, 1, 2] rfl (by decide) rfl (by decide) (by decide) hku6 hP1 hD1
        have hS := hS1
        clear hS1
        generalize H1 = H at hP hS ⊢
        generalize locs1 = locs at hS ⊢
        have hP := va_P_left hP
        have hD := va_D_left hD
        refine lv_aload_n hx hb dX12_orders_154 rfl (lv_at hl 0 rfl) ?_
        refine z_get Z i_X12 hP 0 rfl rfl 0 (by decide) bw_1019 rfl dX12_orders_155 ?_
        refine lv_bipush (v := 9) hx hb dX12_orders_158 (by decide) ?_
        refine z_iald Z hP 1 0 rfl rfl (vin (by decide)) dX12_orders_160 ?_
        refine z_topi (y := 0) rfl ?_
        refine lv_icmp_ne (tgt := 173) hx hb dX12_orders_161 (by decide) (fun c9 => ?_) (fun c9 => ?_)
        · refine lv_iconst (v := 0) hx hb dX12_orders_173 (by decide) ?_
          refine lv_iadd hx hb dX12_orders_174 ?_
          refine lv_istore_n (lv' := [(2, .int (t + 0)), (0, .ref q), (1, .int p0), (3, .int (nI i))]) hx hb dX12_orders_175 rfl hl (by decide) rfl (fun ls hl => ?_)
          refine lv_iinc (v := (nI (i + 1))) (lv' := [(3, .int (nI (i + 1))), (2, .int (t + 0)), (0, .ref q), (1, .int p0)]) hx hb dX12_orders_176 hl (k := 3) rfl (nI_1 i) (by decide) rfl (fun ls hl => ?_)
          refine lv_goto (tgt := 143) hx hb dX12_orders_179 (by decide) ?_
          exact ih (i + 1) (t + 0) (by (try simp only [zlt, zle, zeq, zl_0, zl_1, zl_2, zl_3, zl_4, zl_5, zl_6, zl_7, zl_8, zl_9, zl_10, zl_11, zl_12, zl_13, zl_19, zl_20, zl_30, zl_64, zl_99, zl_100, zl_299, zl_300, zl_399, zl_999, zl_9999, zl_m1, zl_m2, zl_m3, zl_32, zl_280, zl_862, zl_464, zl_82, zl_382, zl_398, zl_400000000, zl_63] at ei h0 hm c1 hz c9 ⊢); omega) (fun h => absurd h (Nat.succ_ne_zero i)) (fun _ => by rw [hs1 hz]; decide) (by (try simp only [zlt, zle, zeq, zl_0, zl_1, zl_2, zl_3, zl_4, zl_5, zl_6, zl_7, zl_8, zl_9, zl_10, zl_11, zl_12, zl_13, zl_19, zl_20, zl_30, zl_64, zl_99, zl_100, zl_299, zl_300, zl_399, zl_999, zl_9999, zl_m1, zl_m2, zl_m3, zl_32, zl_280, zl_862, zl_464, zl_82, zl_382, zl_398, zl_400000000, zl_63] at ei h0 hm c1 hz c9 ⊢); omega) _ _ _ hP hD hS (lv_sub hl [2, 3, 1, 0] rfl)
        · refine lv_aload_n hx hb dX12_orders_164 rfl (lv_at hl 0 rfl) ?_
          refine z_get Z i_X12 hP 0 rfl rfl 35 (by decide) bw_1052 rfl dX12_orders_165 ?_
          refine lv_iload_n hx hb dX12_orders_168 rfl (lv_at hl 3 rfl) ?_
          refine z_iald Z hP 2 0 rfl rfl (vp_in_nI (by (try simp only [zlt, zle, zeq, zl_0, zl_1, zl_2, zl_3, zl_4, zl_5, zl_6, zl_7, zl_8, zl_9, zl_10, zl_11, zl_12, zl_13, zl_19, zl_20, zl_30, zl_64, zl_99, zl_100, zl_299, zl_300, zl_399, zl_999, zl_9999, zl_m1, zl_m2, zl_m3, zl_32, zl_280, zl_862, zl_464, zl_82, zl_382, zl_398, zl_400000000, zl_63] at ei h0 hm c1 hz c9 ⊢); omega) (by omega)) dX12_orders_169 ?_
          refine z_topi (y := 0) (by rw [nI_clamp (by omega), hg i (by (try simp only [zlt, zle, zeq, zl_0, zl_1, zl_2, zl_3, zl_4, zl_5, zl_6, zl_7, zl_8, zl_9, zl_10, zl_11, zl_12, zl_13, zl_19, zl_20, zl_30, zl_64, zl_99, zl_100, zl_299, zl_300, zl_399, zl_999, zl_9999, zl_m1, zl_m2, zl_m3, zl_32, zl_280, zl_862, zl_464, zl_82, zl_382, zl_398, zl_400000000, zl_63] at ei h0 hm c1 hz c9 ⊢); omega)]; rw [if_neg (by omega)]) ?_
          refine lv_goto (tgt := 174) hx hb dX12_orders_170 (by decide) ?_
          refine lv_iadd hx hb dX12_orders_174 ?_
          refine lv_istore_n (lv' := [(2, .int (t + 0)), (0, .ref q), (1, .int p0), (3, .int (nI i))]) hx hb dX12_orders_175 rfl hl (by decide) rfl (fun ls hl => ?_)
          refine lv_iinc (v := (nI (i + 1))) (lv' := [(3, .int (nI (i + 1))), (2, .int (t + 0)), (0, .ref q), (1, .int p0)]) hx hb dX12_orders_176 hl (k := 3) rfl (nI_1 i) (by decide) rfl (fun ls hl => ?_)
          refine lv_goto (tgt := 143) hx hb dX12_orders_179 (by decide) ?_
          exact ih (i + 1) (t + 0) (by (try simp only [zlt, zle, zeq, zl_0, zl_1, zl_2, zl_3, zl_4, zl_5, zl_6, zl_7, zl_8, zl_9, zl_10, zl_11, zl_12, zl_13, zl_19, zl_20, zl_30, zl_64, zl_99, zl_100, zl_299, zl_300, zl_399, zl_999, zl_9999, zl_m1, zl_m2, zl_m3, zl_32, zl_280, zl_862, zl_464, zl_82, zl_382, zl_398, zl_400000000, zl_63] at ei h0 hm c1 hz c9 ⊢); omega) (fun h => absurd h (Nat.succ_ne_zero i)) (fun _ => by rw [hs1 hz]; decide) (by (try simp only [zlt, zle, zeq, zl_0, zl_1, zl_2, zl_3, zl_4, zl_5, zl_6, zl_7, zl_8, zl_9, zl_10, zl_11, zl_12, zl_13, zl_19, zl_20, zl_30, zl_64, zl_99, zl_100, zl_299, zl_300, zl_399, zl_999, zl_9999, zl_m1, zl_m2, zl_m3, zl_32, zl_280, zl_862, zl_464, zl_82, zl_382, zl_398, zl_400000000, zl_63] at ei h0 hm c1 hz c9 ⊢); omega) _ _ _ hP hD hS (lv_sub hl [2, 3, 1, 0] rfl)
set_option maxHeartbeats 4000000 in
set_option maxRecDepth 100000 in
theorem lp_X12_orders_a {p : Program} (l : Launch) {e : Env} {s : State} {m : MethodId} {below : List Frame} {meth : Method} {c : Code} {A : Nat → Prop} (D : va_G) (cI cM cT : ClassId) (q : Nat) (aA : Nat) (aI : Nat) (aT : Nat) (aP : Nat) (pI : Nat) (nM : Nat) (vA : Nat) (tR : Nat) (rW : Nat) (sP : Nat) (oA : Nat) (bS : Nat) (aS : Nat) (aO : Nat) (cS : Nat) (wY : Nat) (p0 : Int32) (Z : Zx p s m ([.ref q, .int p0] : List Value).toArray meth c cX12_orders 6 (some .int) yX12_orders.cls A (ty3 cI cM cT) D) : ∀ (n0 : Nat) (i : Nat) (g : Nat → Int32) (h0 : i ≤ 64) (hg : ∀ j, j < i → g j = (if j = 0 then 1 else 0)), 64 - i < n0 → ∀ (H : Heap) (locs : List Loc) (ls : Array Slot), va_P D vwCl ([(q, .inr (12, [.ref aA, .ref aI, .ref aT, .ref aP, .int 0, .int (-1), .int (-1), .int 0, .int 0, .int 0, .int 0, .long 0, .int 0, .int 0, .int 0, .int 0, .ref pI, .int 0, .int 0, .int 0, .int 0, .int 0, .ref nM, .ref vA, .ref tR, .int 0, .int 0, .int 0, .ref rW, .ref sP, .ref oA, .ref bS, .ref aS, .ref aO, .ref cS, .ref wY])), (aA, .inl (cI, 862, .inl af0)), (wY, .inl (cI, 64, .inl g))]) H → va_D A ([(q, .inr (12, [.ref aA, .ref aI, .ref aT, .ref aP, .int 0, .int (-1), .int (-1), .int 0, .int 0, .int 0, .int 0, .long 0, .int 0, .int 0, .int 0, .int 0, .ref pI, .int 0, .int 0, .int 0, .int 0, .int 0, .ref nM, .ref vA, .ref tR, .int 0, .int 0, .int 0, .ref rW, .ref sP, .ref oA, .ref bS, .ref aS, .ref aO, .ref cS, .ref wY])), (aA, .inl (cI, 862, .inl af0)), (wY, .inl (cI, 64, .inl g))]) → va_S A s.heap H locs → lv_has ls 6 [(0, .ref q), (1, .int p0), (2, .int (nI i))] → W p l e (rmv 1 0 0) s m ([.ref q, .int p0] : List Value).toArray below meth c H locs 0 0 (MQ below (va_Qi (fun r u => r = 1 ∧ u = [(q, .inr (12, [.ref aA, .ref aI, .ref aT, .ref aP, .int 0, .int (-1), .int (-1), .int 0, .int 0, .int 0, .int 0, .long 0, .int 0, .int 0, .int 0, .int 0, .ref pI, .int 0, .int 0, .int 0, .int 0, .int 0, .ref nM, .ref vA, .ref tR, .int 0, .int 0, .int 0, .ref rW, .ref sP, .ref oA, .ref bS, .ref aS, .ref aO, .ref cS, .ref wY])), (aA, .inl (cI, 862, .inl af0))]) (cB D (ty3 cI cM cT) A) A) ([.ref q, .int p0] : List Value).toArray s 0 0 A) (F0 m 2 ls []) := by
  have hx := Z.1
  have hb := Z.2.1
  intro n0
  induction n0 with
  | zero => intro i g h0 hg hm; exact absurd hm (Nat.not_lt_zero _)
  | succ n0 ih =>
    intro i g h0 hg hm H locs ls hP hD hS hl
    have ei : (nI i).toInt = (i : Int) := nI_toInt (by omega)
    refine lv_iload_n hx hb dX12_orders_2 rfl (lv_at hl 2 rfl) ?_
    refine lv_bipush (v := 64) hx hb dX12_orders_3 (by decide) ?_
    refine lv_icmp_ge (tgt := 29) hx hb dX12_orders_5 (by decide) (fun c1 => ?_) (fun c1 => ?_)
    · refine lv_iconst (v := 0) hx hb dX12_orders_29 (by decide) ?_
      refine lv_istore_n (lv' := [(2, .int 0), (0, .ref q), (1, .int p0)]) hx hb dX12_orders_30 rfl hl (by decide) rfl (fun ls hl => ?_)
      refine lv_iload_n hx hb dX12_orders_31 rfl (lv_at hl 0 rfl) ?_
      refine lv_aload_n hx hb dX12_orders_32 rfl (lv_at hl 1 rfl) ?_
      refine z_get Z i_X12 hP 0 rfl rfl 0 (by decide) bw_1019 rfl dX12_orders_33 ?_
      refine lv_bipush (v := 9) hx hb dX12_orders_36 (by decide) ?_
      refine z_iald Z hP 1 0 rfl rfl (vin (by decide)) dX12_orders_38 ?_
      refine z_topi (y := 0) rfl ?_
      refine lv_icmp_ge (tgt := 139) hx hb dX12_orders_39 (by decide) (fun c2 => ?_) (fun h => absurd (by decide) h)
      refine lv_iconst (v := 0) hx hb dX12_orders_139 (by decide) ?_
      refine lv_istore_n (lv' := [(2, .int 0), (0, .ref q), (1, .int p0)]) hx hb dX12_orders_140 rfl hl (by decide) rfl (fun ls hl => ?_)
      refine lv_iconst (v := 0) hx hb dX12_orders_141 (by decide) ?_
      refine lv_istore_n (lv' := [(3, .int 0), (2, .int 0), (0, .ref q), (1, .int p0)]) hx hb dX12_orders_142 rfl hl (by decide) rfl (fun ls hl => ?_)
      refine W.widen (k := 0) (n := 0) (Nat.le_of_ble_eq_true rfl) (Nat.le_of_ble_eq_true rfl) ?_
      exact lp_X12_orders_b l D cI cM cT q aA aI aT aP pI nM vA tR rW sP oA bS aS aO cS wY p0 Z  g (fun j hj => hg j (by (try simp only [zlt, zle, zeq, zl_0, zl_1, zl_2, zl_3, zl_4, zl_5, zl_6, zl_7, zl_8, zl_9, zl_10, zl_11, zl_12, zl_13, zl_19, zl_20, zl_30, zl_64, zl_99, zl_100, zl_299, zl_300, zl_399, zl_999, zl_9999, zl_m1, zl_m2, zl_m3, zl_32, zl_280, zl_862, zl_464, zl_82, zl_382, zl_398, zl_400000000, zl_63] at ei h0 hm c1 c2 ⊢); omega)) _ 0 0 (Nat.zero_le _) (fun _ => rfl) (fun h => absurd h (Nat.lt_irrefl 0)) (Nat.lt_succ_self _) _ _ _ hP hD hS (lv_sub hl [2, 3, 1, 0] rfl)
    · rcases Nat.eq_zero_or_pos i with hz | hz
      · skip
        refine lv_aload_n hx hb dX12_orders_8 rfl (lv_at hl 0 rfl) ?_
        refine z_get Z i_X12 hP 0 rfl rfl 35 (by decide) bw_1052 rfl dX12_orders_9 ?_
        refine lv_iload_n hx hb dX12_orders_12 rfl (lv_at hl 2 rfl) ?_
        refine lv_iload_n hx hb dX12_orders_13 rfl (lv_at hl 2 rfl) ?_
        refine lv_if_ne (tgt := 21) hx hb dX12_orders_14 (by decide) (fun h => absurd (show (nI i) = 0 by (try simp only [zlt, zle, zeq, zl_0, zl_1, zl_2, zl_3, zl_4, zl_5, zl_6, zl_7, zl_8, zl_9, zl_10, zl_11, zl_12, zl_13, zl_19, zl_20, zl_30, zl_64, zl_99, zl_100, zl_299, zl_300, zl_399, zl_999, zl_9999, zl_m1, zl_m2, zl_m3, zl_32, zl_280, zl_862, zl_464, zl_82, zl_382, zl_398, zl_400000000, zl_63] at ei h0 hm c1 hz ⊢); omega) h) (fun c3 => ?_)
        refine lv_iconst (v := 1) hx hb dX12_orders_17 (by decide) ?_
        refine lv_goto (tgt := 22) hx hb dX12_orders_18 (by decide) ?_
        refine z_iast Z hP hD hS 2 0 rfl rfl (vp_in_nI (by (try simp only [zlt, zle, zeq, zl_0, zl_1, zl_2, zl_3, zl_4, zl_5, zl_6, zl_7, zl_8, zl_9, zl_10, zl_11, zl_12, zl_13, zl_19, zl_20, zl_30, zl_64, zl_99, zl_100, zl_299, zl_300, zl_399, zl_999, zl_9999, zl_m1, zl_m2, zl_m3, zl_32, zl_280, zl_862, zl_464, zl_82, zl_382, zl_398, zl_400000000, zl_63] at ei h0 hm c1 hz c3 ⊢); omega) (by omega)) dX12_orders_22 (fun H locs hP hD hS => ?_)
        rw [nI_clamp (by omega)] at hP hD
        have hP : va_P D vwCl ([(q, .inr (12, [.ref aA, .ref aI, .ref aT, .ref aP, .int 0, .int (-1), .int (-1), .int 0, .int 0, .int 0, .int 0, .long 0, .int 0, .int 0, .int 0, .int 0, .ref pI, .int 0, .int 0, .int 0, .int 0, .int 0, .ref nM, .ref vA, .ref tR, .int 0, .int 0, .int 0, .ref rW, .ref sP, .ref oA, .ref bS, .ref aS, .ref aO, .ref cS, .ref wY])), (aA, .inl (cI, 862, .inl af0)), (wY, .inl (cI, 64, .inl (upd g i 1)))]) H := hP
        have hD : va_D A ([(q, .inr (12, [.ref aA, .ref aI, .ref aT, .ref aP, .int 0, .int (-1), .int (-1), .int 0, .int 0, .int 0, .int 0, .long 0, .int 0, .int 0, .int 0, .int 0, .ref pI, .int 0, .int 0, .int 0, .int 0, .int 0, .ref nM, .ref vA, .ref tR, .int 0, .int 0, .int 0, .ref rW, .ref sP, .ref oA, .ref bS, .ref aS, .ref aO, .ref cS, .ref wY])), (aA, .inl (cI, 862, .inl af0)), (wY, .inl (cI, 64, .inl (upd g i 1)))]) := hD
        refine lv_iinc (v := (nI (i + 1))) (lv' := [(2, .int (nI (i + 1))), (0, .ref q), (1, .int p0)]) hx hb dX12_orders_23 hl (k := 2) rfl (nI_1 i) (by decide) rfl (fun ls hl => ?_)
        refine lv_goto (tgt := 2) hx hb dX12_orders_26 (by decide) ?_
        exact ih (i + 1) (upd g i 1) (by (try simp only [zlt, zle, zeq, zl_0, zl_1, zl_2, zl_3, zl_4, zl_5, zl_6, zl_7, zl_8, zl_9, zl_10, zl_11, zl_12, zl_13, zl_19, zl_20, zl_30, zl_64, zl_99, zl_100, zl_299, zl_300, zl_399, zl_999, zl_9999, zl_m1, zl_m2, zl_m3, zl_32, zl_280, zl_862, zl_464, zl_82, zl_382, zl_398, zl_400000000, zl_63] at ei h0 hm c1 hz c3 ⊢); omega) (upd_ext (P := fun j v => v = (if j = 0 then 1 else 0)) hg (by rw [if_pos hz])) (by (try simp only [zlt, zle, zeq, zl_0, zl_1, zl_2, zl_3, zl_4, zl_5, zl_6, zl_7, zl_8, zl_9, zl_10, zl_11, zl_12, zl_13, zl_19, zl_20, zl_30, zl_64, zl_99, zl_100, zl_299, zl_300, zl_399, zl_999, zl_9999, zl_m1, zl_m2, zl_m3, zl_32, zl_280, zl_862, zl_464, zl_82, zl_382, zl_398, zl_400000000, zl_63] at ei h0 hm c1 hz c3 ⊢); omega) _ _ _ hP hD hS (lv_sub hl [1, 2, 0] rfl)
      · skip
        refine lv_aload_n hx hb dX12_orders_8 rfl (lv_at hl 0 rfl) ?_
        refine z_get Z i_X12 hP 0 rfl rfl 35 (by decide) bw_1052 rfl dX12_orders_9 ?_
        refine lv_iload_n hx hb dX12_orders_12 rfl (lv_at hl 2 rfl) ?_
        refine lv_iload_n hx hb dX12_orders_13 rfl (lv_at hl 2 rfl) ?_
        refine lv_if_ne (tgt := 21) hx hb dX12_orders_14 (by decide) (fun c4 => ?_) (fun h => absurd h (by (try simp only [zlt, zle, zeq, zl_0, zl_1, zl_2, zl_3, zl_4, zl_5, zl_6, zl_7, zl_8, zl_9, zl_10, zl_11, zl_12, zl_13, zl_19, zl_20, zl_30, zl_64, zl_99, zl_100, zl_299, zl_300, zl_399, zl_999, zl_9999, zl_m1, zl_m2, zl_m3, zl_32, zl_280, zl_862, zl_464, zl_82, zl_382, zl_398, zl_400000000, zl_63] at ei h0 hm c1 hz ⊢); omega))
        refine lv_iconst (v := 0) hx hb dX12_orders_21 (by decide) ?_
        refine z_iast Z hP hD hS 2 0 rfl rfl (vp_in_nI (by (try simp only [zlt, zle, zeq, zl_0, zl_1, zl_2, zl_3, zl_4, zl_5, zl_6, zl_7, zl_8, zl_9, zl_10, zl_11, zl_12, zl_13, zl_19, zl_20, zl_30, zl_64, zl_99, zl_100, zl_299, zl_300, zl_399, zl_999, zl_9999, zl_m1, zl_m2, zl_m3, zl_32, zl_280, zl_862, zl_464, zl_82, zl_382, zl_398, zl_400000000, zl_63] at ei h0 hm c1 hz c4 ⊢); omega) (by omega)) dX12_orders_22 (fun H locs hP hD hS => ?_)
        rw [nI_clamp (by omega)] at hP hD
        have hP : va_P D vwCl ([(q, .inr (12, [.ref aA, .ref aI, .ref aT, .ref aP, .int 0, .int (-1), .int (-1), .int 0, .int 0, .int 0, .int 0, .long 0, .int 0, .int 0, .int 0, .int 0, .ref pI, .int 0, .int 0, .int 0, .int 0, .int 0, .ref nM, .ref vA, .ref tR, .int 0, .int 0, .int 0, .ref rW, .ref sP, .ref oA, .ref bS, .ref aS, .ref aO, .ref cS, .ref wY])), (aA, .inl (cI, 862, .inl af0)), (wY, .inl (cI, 64, .inl (upd g i 0)))]) H := hP
        have hD : va_D A ([(q, .inr (12, [.ref aA, .ref aI, .ref aT, .ref aP, .int 0, .int (-1), .int (-1), .int 0, .int 0, .int 0, .int 0, .long 0, .int 0, .int 0, .int 0, .int 0, .ref pI, .int 0, .int 0, .int 0, .int 0, .int 0, .ref nM, .ref vA, .ref tR, .int 0, .int 0, .int 0, .ref rW, .ref sP, .ref oA, .ref bS, .ref aS, .ref aO, .ref cS, .ref wY])), (aA, .inl (cI, 862, .inl af0)), (wY, .inl (cI, 64, .inl (upd g i 0)))]) := hD
        refine lv_iinc (v := (nI (i + 1))) (lv' := [(2, .int (nI (i + 1))), (0, .ref q), (1, .int p0)]) hx hb dX12_orders_23 hl (k := 2) rfl (nI_1 i) (by decide) rfl (fun ls hl => ?_)
        refine lv_goto (tgt := 2) hx hb dX12_orders_26 (by decide) ?_
        exact ih (i + 1) (upd g i 0) (by (try simp only [zlt, zle, zeq, zl_0, zl_1, zl_2, zl_3, zl_4, zl_5, zl_6, zl_7, zl_8, zl_9, zl_10, zl_11, zl_12, zl_13, zl_19, zl_20, zl_30, zl_64, zl_99, zl_100, zl_299, zl_300, zl_399, zl_999, zl_9999, zl_m1, zl_m2, zl_m3, zl_32, zl_280, zl_862, zl_464, zl_82, zl_382, zl_398, zl_400000000, zl_63] at ei h0 hm c1 hz c4 ⊢); omega) (upd_ext (P := fun j v => v = (if j = 0 then 1 else 0)) hg (by rw [if_neg (by omega)])) (by (try simp only [zlt, zle, zeq, zl_0, zl_1, zl_2, zl_3, zl_4, zl_5, zl_6, zl_7, zl_8, zl_9, zl_10, zl_11, zl_12, zl_13, zl_19, zl_20, zl_30, zl_64, zl_99, zl_100, zl_299, zl_300, zl_399, zl_999, zl_9999, zl_m1, zl_m2, zl_m3, zl_32, zl_280, zl_862, zl_464, zl_82, zl_382, zl_398, zl_400000000, zl_63] at ei h0 hm c1 hz c4 ⊢); omega) _ _ _ hP hD hS (lv_sub hl [1, 2, 0] rfl)
set_option maxHeartbeats 4000000 in
set_option maxRecDepth 100000 in
theorem c_X12_orders (l : Launch) (D : va_G) (cI cM cT : ClassId) (q : Nat) (aA : Nat) (aI : Nat) (aT : Nat) (aP : Nat) (pI : Nat) (nM : Nat) (vA : Nat) (tR : Nat) (rW : Nat) (sP : Nat) (oA : Nat) (bS : Nat) (aS : Nat) (aO : Nat) (cS : Nat) (wY : Nat) (p0 : Int32) : Ci l D (ty3 cI cM cT) yX12_orders cX12_orders 6 (some .int) 1 0 0 [.ref q, .int p0] ([(q, .inr (12, [.ref aA, .ref aI, .ref aT, .ref aP, .int 0, .int (-1), .int (-1), .int 0, .int 0, .int 0, .int 0, .long 0, .int 0, .int 0, .int 0, .int 0, .ref pI, .int 0, .int 0, .int 0, .int 0, .int 0, .ref nM, .ref vA, .ref tR, .int 0, .int 0, .int 0, .ref rW, .ref sP, .ref oA, .ref bS, .ref aS, .ref aO, .ref cS, .ref wY])), (aA, .inl (cI, 862, .inl af0)), (wY, .inl (cI, 64, .inl (fun _ => 0)))]) (fun r u => r = 1 ∧ u = [(q, .inr (12, [.ref aA, .ref aI, .ref aT, .ref aP, .int 0, .int (-1), .int (-1), .int 0, .int 0, .int 0, .int 0, .long 0, .int 0, .int 0, .int 0, .int 0, .ref pI, .int 0, .int 0, .int 0, .int 0, .int 0, .ref nM, .ref vA, .ref tR, .int 0, .int 0, .int 0, .ref rW, .ref sP, .ref oA, .ref bS, .ref aS, .ref aO, .ref cS, .ref wY])), (aA, .inl (cI, 862, .inl af0))]) := by
  refine Ci.of (by decide +kernel) (Nat.le_of_ble_eq_true rfl) ?_
  intro p e s m below meth c A ls Z hin hP hD hl
  have hx := Z.1
  have hb := Z.2.1
  have hS : va_S A s.heap s.heap [] := va_S.rf
  have hl : lv_has ls 6 [(0, .ref q), (1, .int p0)] := hl
  skip
  refine lv_iconst (v := 0) hx hb dX12_orders_0 (by decide) ?_
  refine lv_istore_n (lv' := [(2, .int 0), (0, .ref q), (1, .int p0)]) hx hb dX12_orders_1 rfl hl (by decide) rfl (fun ls hl => ?_)
  refine W.widen (k := 0) (n := 0) (Nat.le_of_ble_eq_true rfl) (Nat.le_of_ble_eq_true rfl) ?_
  exact lp_X12_orders_a l D cI cM cT q aA aI aT aP pI nM vA tR rW sP oA bS aS aO cS wY p0 Z   _ 0 (fun _ => 0) (Nat.zero_le _) (fun j hj => absurd hj (Nat.not_lt_zero j)) (Nat.lt_succ_self _) _ _ _ hP hD hS (lv_sub hl [1, 2, 0] rfl)
set_option maxHeartbeats 4000000 in
set_option maxRecDepth 100000 in
theorem c_X12_who (l : Launch) (D : va_G) (cI cM cT : ClassId) (q : Nat) (aA : Nat) (aI : Nat) (aT : Nat) (aP : Nat) (pI : Nat) (nM : Nat) (vA : Nat) (tR : Nat) (rW : Nat) (sP : Nat) (oA : Nat) (bS : Nat) (aS : Nat) (aO : Nat) (cS : Nat) (wY : Nat) (p0 : Int32) (p1 : Int32) : Ci l D (ty3 cI cM cT) yX12_who cX12_who 3 (some .int) 3 0 0 [.ref q, .int p0, .int p1] ([(q, .inr (12, [.ref aA, .ref aI, .ref aT, .ref aP, .int 0, .int (-1), .int (-1), .int 0, .int 0, .int 0, .int 0, .long 0, .int 0, .int 0, .int 0, .int 0, .ref pI, .int 0, .int 0, .int 0, .int 0, .int 0, .ref nM, .ref vA, .ref tR, .int 0, .int 0, .int 0, .ref rW, .ref sP, .ref oA, .ref bS, .ref aS, .ref aO, .ref cS, .ref wY])), (aA, .inl (cI, 862, .inl af0)), (wY, .inl (cI, 64, .inl (fun _ => 0)))]) (fun r u => r = (if (0 ≤ p0 ∧ p0 < 300) ∧ p1 = (-1) then 1 else (-2))) := by
  refine Ci.of (by decide +kernel) (Nat.le_of_ble_eq_true rfl) ?_
  intro p e s m below meth c A ls Z hin hP hD hl
  have hx := Z.1
  have hb := Z.2.1
  have hS : va_S A s.heap s.heap [] := va_S.rf
  have hl : lv_has ls 3 [(0, .ref q), (1, .int p0), (2, .int p1)] := hl
  skip
  refine lv_iload_n hx hb dX12_who_0 rfl (lv_at hl 1 rfl) ?_
  have hPc := hP.sub2 (wc := []) [] rfl
  have hDc := hD.sub (ws' := []) [] (by decide) rfl
  refine raw_Si (nA := 1) (As := [.int p0]) (rest := []) Z hl.1 (c_X12_isPlace l D cI cM cT p0) (bw_S bw_1132 bw_1133 bw_92 bw_1134) ⟨by decide +kernel, by decide +kernel, by decide +kernel⟩ rfl ⟨Nat.le_of_ble_eq_true rfl, Nat.le_of_ble_eq_true rfl⟩ hPc hDc hS rfl (Nat.le_of_ble_eq_true rfl) dX12_who_1 ⟨Nat.le_of_ble_eq_true rfl, Nat.le_of_ble_eq_true rfl⟩ (fun r2 u1 H1 locs1 h3 hku1 hP1 hD1 hS1 => ?_)
  obtain ⟨hrh3, rfl⟩ := h3
  obtain ⟨hP, hD⟩ := z_join (wr := [(q, .inr (12, [.ref aA, .ref aI, .ref aT, .ref aP, .int 0, .int (-1), .int (-1), .int 0, .int 0, .int 0, .int 0, .long 0, .int 0, .int 0, .int 0, .int 0, .ref pI, .int 0, .int 0, .int 0, .int 0, .int 0, .ref nM, .ref vA, .ref tR, .int 0, .int 0, .int 0, .ref rW, .ref sP, .ref oA, .ref bS, .ref aS, .ref aO, .ref cS, .ref wY])), (aA, .inl (cI, 862, .inl af0)), (wY, .inl (cI, 64, .inl (fun _ => 0)))]) Z hS hP hD [] [0, 1, 2] rfl (by decide) rfl (by decide) (by decide) hku1 hP1 hD1
  have hS := hS1
  clear hS1
  generalize H1 = H at hP hS ⊢
  generalize locs1 = locs at hS ⊢
  have hP : va_P D vwCl ([(q, .inr (12, [.ref aA, .ref aI, .ref aT, .ref aP, .int 0, .int (-1), .int (-1), .int 0, .int 0, .int 0, .int 0, .long 0, .int 0, .int 0, .int 0, .int 0, .ref pI, .int 0, .int 0, .int 0, .int 0, .int 0, .ref nM, .ref vA, .ref tR, .int 0, .int 0, .int 0, .ref rW, .ref sP, .ref oA, .ref bS, .ref aS, .ref aO, .ref cS, .ref wY])), (aA, .inl (cI, 862, .inl af0)), (wY, .inl (cI, 64, .inl (fun _ => 0)))]) H := hP
  have hD : va_D A ([(q, .inr (12, [.ref aA, .ref aI, .ref aT, .ref aP, .int 0, .int (-1), .int (-1), .int 0, .int 0, .int 0, .int 0, .long 0, .int 0, .int 0, .int 0, .int 0, .ref pI, .int 0, .int 0, .int 0, .int 0, .int 0, .ref nM, .ref vA, .ref tR, .int 0, .int 0, .int 0, .ref rW, .ref sP, .ref oA, .ref bS, .ref aS, .ref aO, .ref cS, .ref wY])), (aA, .inl (cI, 862, .inl af0)), (wY, .inl (cI, 64, .inl (fun _ => 0)))]) := hD
  by_cases c4 : 0 ≤ p0 ∧ p0 ≤ 299
  · obtain rfl : r2 = 1 := by rw [hrh3, if_pos c4]
    refine lv_if_eq (tgt := 24) hx hb dX12_who_4 (by decide) (fun h => absurd h (by decide)) (fun c5 => ?_)
    refine lv_iload_n hx hb dX12_who_7 rfl (lv_at hl 2 rfl) ?_
    refine lv_iconst (v := (-1)) hx hb dX12_who_8 (by decide) ?_
    refine lv_aload_n hx hb dX12_who_9 rfl (lv_at hl 0 rfl) ?_
    refine z_get Z i_X12 hP 0 rfl rfl 0 (by decide) bw_1019 rfl dX12_who_10 ?_
    refine lv_bipush (v := 9) hx hb dX12_who_13 (by decide) ?_
    refine z_iald Z hP 1 0 rfl rfl (vin (by decide)) dX12_who_15 ?_
    refine z_topi (y := 0) rfl ?_
    refine lv_iconst (v := 1) hx hb dX12_who_16 (by decide) ?_
    refine lv_isub hx hb dX12_who_17 ?_
    refine z_topi (y := (-1)) (by decide) ?_
    have hPc := hP.sub2 (wc := []) [] rfl
    have hDc := hD.sub (ws' := []) [] (by decide) rfl
    refine raw_Si (nA := 3) (As := [.int p1, .int (-1), .int (-1)]) (rest := []) Z hl.1 (c_X12_isIn l D cI cM cT p1 (-1) (-1)) (bw_S bw_1135 bw_1136 bw_92 bw_1137) ⟨by decide +kernel, by decide +kernel, by decide +kernel⟩ rfl ⟨Nat.le_of_ble_eq_true rfl, Nat.le_of_ble_eq_true rfl⟩ hPc hDc hS rfl (Nat.le_of_ble_eq_true rfl) dX12_who_18 ⟨Nat.le_of_ble_eq_true rfl, Nat.le_of_ble_eq_true rfl⟩ (fun r7 u6 H1 locs1 h8 hku6 hP1 hD1 hS1 => ?_)
    obtain ⟨hrh8, rfl⟩ := h8
    obtain ⟨hP, hD⟩ := z_join (wr := [(q, .inr (12, [.ref aA, .ref aI, .ref aT, .ref aP, .int 0, .int (-1), .int (-1), .int 0, .int 0, .int 0, .int 0, .long 0, .int 0, .int 0, .int 0, .int 0, .ref pI, .int 0, .int 0, .int 0, .int 0, .int 0, .ref nM, .ref vA, .ref tR, .int 0, .int 0, .int 0, .ref rW, .ref sP, .ref oA, .ref bS, .ref aS, .ref aO, .ref cS, .ref wY])), (aA, .inl (cI, 862, .inl af0)), (wY, .inl (cI, 64, .inl (fun _ => 0)))]) Z hS hP hD [] [0, 1, 2] rfl (by decide) rfl (by decide) (by decide) hku6 hP1 hD1
    have hS := hS1
    clear hS1
    generalize H1 = H at hP hS ⊢
    generalize locs1 = locs at hS ⊢
    have hP : va_P D vwCl ([(q, .inr (12, [.ref aA, .ref aI, .ref aT, .ref aP, .int 0, .int (-1), .int (-1), .int 0, .int 0, .int 0, .int 0, .long 0, .int 0, .int 0, .int 0, .int 0, .ref pI, .int 0, .int 0, .int 0, .int 0, .int 0, .ref nM, .ref vA, .ref tR, .int 0, .int 0, .int 0, .ref rW, .ref sP, .ref oA, .ref bS, .ref aS, .ref aO, .ref cS, .ref wY])), (aA, .inl (cI, 862, .inl af0)), (wY, .inl (cI, 64, .inl (fun _ => 0)))]) H := hP
    have hD : va_D A ([(q, .inr (12, [.ref aA, .ref aI, .ref aT, .ref aP, .int 0, .int (-1), .int (-1), .int 0, .int 0, .int 0, .int 0, .long 0, .int 0, .int 0, .int 0, .int 0, .ref pI, .int 0, .int 0, .int 0, .int 0, .int 0, .ref nM, .ref vA, .ref tR, .int 0, .int 0, .int 0, .ref rW, .ref sP, .ref oA, .ref bS, .ref aS, .ref aO, .ref cS, .ref wY])), (aA, .inl (cI, 862, .inl af0)), (wY, .inl (cI, 64, .inl (fun _ => 0)))]) := hD
    by_cases c9 : (-1) ≤ p1 ∧ p1 ≤ (-1)
    · obtain rfl : r7 = 1 := by rw [hrh8, if_pos c9]
      refine lv_if_ne (tgt := 27) hx hb dX12_who_21 (by decide) (fun c10 => ?_) (fun h => absurd h (by decide))
      refine lv_iload_n hx hb dX12_who_27 rfl (lv_at hl 2 rfl) ?_
      refine lv_iconst (v := (-1)) hx hb dX12_who_28 (by decide) ?_
      refine lv_icmp_ne (tgt := 40) hx hb dX12_who_29 (by decide) (fun h => absurd (show p1 = (-1) by (try simp only [zlt, zle, zeq, zl_0, zl_1, zl_2, zl_3, zl_4, zl_5, zl_6, zl_7, zl_8, zl_9, zl_10, zl_11, zl_12, zl_13, zl_19, zl_20, zl_30, zl_64, zl_99, zl_100, zl_299, zl_300, zl_399, zl_999, zl_9999, zl_m1, zl_m2, zl_m3, zl_32, zl_280, zl_862, zl_464, zl_82, zl_382, zl_398, zl_400000000, zl_63] at c4 c5 c9 c10 ⊢); omega) h) (fun c11 => ?_)
      refine lv_aload_n hx hb dX12_who_32 rfl (lv_at hl 0 rfl) ?_
      refine lv_iload_n hx hb dX12_who_33 rfl (lv_at hl 1 rfl) ?_
      have hPc := hP.sub2 (wc := [(q, .inr (12, [.ref aA, .ref aI, .ref aT, .ref aP, .int 0, .int (-1), .int (-1), .int 0, .int 0, .int 0, .int 0, .long 0, .int 0, .int 0, .int 0, .int 0, .ref pI, .int 0, .int 0, .int 0, .int 0, .int 0, .ref nM, .ref vA, .ref tR, .int 0, .int 0, .int 0, .ref rW, .ref sP, .ref oA, .ref bS, .ref aS, .ref aO, .ref cS, .ref wY])), (aA, .inl (cI, 862, .inl af0)), (wY, .inl (cI, 64, .inl (fun _ => 0)))]) [0, 1, 2] rfl
      have hDc := hD.sub (ws' := [(q, .inr (12, [.ref aA, .ref aI, .ref aT, .ref aP, .int 0, .int (-1), .int (-1), .int 0, .int 0, .int 0, .int 0, .long 0, .int 0, .int 0, .int 0, .int 0, .ref pI, .int 0, .int 0, .int 0, .int 0, .int 0, .ref nM, .ref vA, .ref tR, .int 0, .int 0, .int 0, .ref rW, .ref sP, .ref oA, .ref bS, .ref aS, .ref aO, .ref cS, .ref wY])), (aA, .inl (cI, 862, .inl af0)), (wY, .inl (cI, 64, .inl (fun _ => 0)))]) [0, 1, 2] (by decide) rfl
      refine raw_Vi (ci := 12) (q0 := 0) (nA := 1) (As := [.int p0]) (rest := []) Z hl.1 (c_X12_orders l D cI cM cT q aA aI aT aP pI nM vA tR rW sP oA bS aS aO cS wY p0) (bw_V bw_1431 bw_1433 bw_76 bw_92 bw_1434) ⟨by decide +kernel, by decide +kernel, by decide +kernel⟩ rfl ⟨Nat.le_of_ble_eq_true rfl, Nat.le_of_ble_eq_true rfl⟩ rfl rfl rfl hPc hDc hS rfl (Nat.le_of_ble_eq_true rfl) dX12_who_34 ⟨Nat.le_of_ble_eq_true rfl, Nat.le_of_ble_eq_true rfl⟩ (fun r13 u12 H1 locs1 h14 hku12 hP1 hD1 hS1 => ?_)
      obtain ⟨rfl, rfl⟩ := h14
      obtain ⟨hP, hD⟩ := z_join (wr := []) Z hS hP hD [0, 1, 2] [] rfl (by decide) rfl (by decide) (by decide) hku12 hP1 hD1
      have hS := hS1
      clear hS1
      generalize H1 = H at hP hS ⊢
      generalize locs1 = locs at hS ⊢
      have hP : va_P D vwCl ([(q, .inr (12, [.ref aA, .ref aI, .ref aT, .ref aP, .int 0, .int (-1), .int (-1), .int 0, .int 0, .int 0, .int 0, .long 0, .int 0, .int 0, .int 0, .int 0, .ref pI, .int 0, .int 0, .int 0, .int 0, .int 0, .ref nM, .ref vA, .ref tR, .int 0, .int 0, .int 0, .ref rW, .ref sP, .ref oA, .ref bS, .ref aS, .ref aO, .ref cS, .ref wY])), (aA, .inl (cI, 862, .inl af0))]) H := hP
      have hD : va_D A ([(q, .inr (12, [.ref aA, .ref aI, .ref aT, .ref aP, .int 0, .int (-1), .int (-1), .int 0, .int 0, .int 0, .int 0, .long 0, .int 0, .int 0, .int 0, .int 0, .ref pI, .int 0, .int 0, .int 0, .int 0, .int 0, .ref nM, .ref vA, .ref tR, .int 0, .int 0, .int 0, .ref rW, .ref sP, .ref oA, .ref bS, .ref aS, .ref aO, .ref cS, .ref wY])), (aA, .inl (cI, 862, .inl af0))]) := hD
      refine lv_goto (tgt := 46) hx hb dX12_who_37 (by decide) ?_
      exact z_ret Z rfl hP hD hS ((by first | rfl | assumption | (rw [if_pos (by (try simp only [zlt, zle, zeq, zl_0, zl_1, zl_2, zl_3, zl_4, zl_5, zl_6, zl_7, zl_8, zl_9, zl_10, zl_11, zl_12, zl_13, zl_19, zl_20, zl_30, zl_64, zl_99, zl_100, zl_299, zl_300, zl_399, zl_999, zl_9999, zl_m1, zl_m2, zl_m3, zl_32, zl_280, zl_862, zl_464, zl_82, zl_382, zl_398, zl_400000000, zl_63] at c4 c5 c9 c10 c11 ⊢); omega)]; first | done | ((try simp only [zlt, zle, zeq, zl_0, zl_1, zl_2, zl_3, zl_4, zl_5, zl_6, zl_7, zl_8, zl_9, zl_10, zl_11, zl_12, zl_13, zl_19, zl_20, zl_30, zl_64, zl_99, zl_100, zl_299, zl_300, zl_399, zl_999, zl_9999, zl_m1, zl_m2, zl_m3, zl_32, zl_280, zl_862, zl_464, zl_82, zl_382, zl_398, zl_400000000, zl_63] at c4 c5 c9 c10 c11 ⊢); omega)) | (rw [if_neg (by (try simp only [zlt, zle, zeq, zl_0, zl_1, zl_2, zl_3, zl_4, zl_5, zl_6, zl_7, zl_8, zl_9, zl_10, zl_11, zl_12, zl_13, zl_19, zl_20, zl_30, zl_64, zl_99, zl_100, zl_299, zl_300, zl_399, zl_999, zl_9999, zl_m1, zl_m2, zl_m3, zl_32, zl_280, zl_862, zl_464, zl_82, zl_382, zl_398, zl_400000000, zl_63] at c4 c5 c9 c10 c11 ⊢); omega)]; first | done | ((try simp only [zlt, zle, zeq, zl_0, zl_1, zl_2, zl_3, zl_4, zl_5, zl_6, zl_7, zl_8, zl_9, zl_10, zl_11, zl_12, zl_13, zl_19, zl_20, zl_30, zl_64, zl_99, zl_100, zl_299, zl_300, zl_399, zl_999, zl_9999, zl_m1, zl_m2, zl_m3, zl_32, zl_280, zl_862, zl_464, zl_82, zl_382, zl_398, zl_400000000, zl_63] at c4 c5 c9 c10 c11 ⊢); omega)))) dX12_who_46 (Nat.le_of_ble_eq_true rfl) (Nat.le_of_ble_eq_true rfl)
    · obtain rfl : r7 = 0 := by rw [hrh8, if_neg c9]
      refine lv_if_ne (tgt := 27) hx hb dX12_who_21 (by decide) (fun h => absurd (by decide) h) (fun c15 => ?_)
      refine lv_bipush (v := (-2)) hx hb dX12_who_24 (by decide) ?_
      exact z_ret Z rfl hP hD hS ((by first | rfl | assumption | (rw [if_pos (by (try simp only [zlt, zle, zeq, zl_0, zl_1, zl_2, zl_3, zl_4, zl_5, zl_6, zl_7, zl_8, zl_9, zl_10, zl_11, zl_12, zl_13, zl_19, zl_20, zl_30, zl_64, zl_99, zl_100, zl_299, zl_300, zl_399, zl_999, zl_9999, zl_m1, zl_m2, zl_m3, zl_32, zl_280, zl_862, zl_464, zl_82, zl_382, zl_398, zl_400000000, zl_63] at c4 c5 c9 c15 ⊢); omega)]; first | done | ((try simp only [zlt, zle, zeq, zl_0, zl_1, zl_2, zl_3, zl_4, zl_5, zl_6, zl_7, zl_8, zl_9, zl_10, zl_11, zl_12, zl_13, zl_19, zl_20, zl_30, zl_64, zl_99, zl_100, zl_299, zl_300, zl_399, zl_999, zl_9999, zl_m1, zl_m2, zl_m3, zl_32, zl_280, zl_862, zl_464, zl_82, zl_382, zl_398, zl_400000000, zl_63] at c4 c5 c9 c15 ⊢); omega)) | (rw [if_neg (by (try simp only [zlt, zle, zeq, zl_0, zl_1, zl_2, zl_3, zl_4, zl_5, zl_6, zl_7, zl_8, zl_9, zl_10, zl_11, zl_12, zl_13, zl_19, zl_20, zl_30, zl_64, zl_99, zl_100, zl_299, zl_300, zl_399, zl_999, zl_9999, zl_m1, zl_m2, zl_m3, zl_32, zl_280, zl_862, zl_464, zl_82, zl_382, zl_398, zl_400000000, zl_63] at c4 c5 c9 c15 ⊢); omega)]; first | done | ((try simp only [zlt, zle, zeq, zl_0, zl_1, zl_2, zl_3, zl_4, zl_5, zl_6, zl_7, zl_8, zl_9, zl_10, zl_11, zl_12, zl_13, zl_19, zl_20, zl_30, zl_64, zl_99, zl_100, zl_299, zl_300, zl_399, zl_999, zl_9999, zl_m1, zl_m2, zl_m3, zl_32, zl_280, zl_862, zl_464, zl_82, zl_382, zl_398, zl_400000000, zl_63] at c4 c5 c9 c15 ⊢); omega)))) dX12_who_26 (Nat.le_of_ble_eq_true rfl) (Nat.le_of_ble_eq_true rfl)
  · obtain rfl : r2 = 0 := by rw [hrh3, if_neg c4]
    refine lv_if_eq (tgt := 24) hx hb dX12_who_4 (by decide) (fun c16 => ?_) (fun h => absurd (by decide) h)
    refine lv_bipush (v := (-2)) hx hb dX12_who_24 (by decide) ?_
    exact z_ret Z rfl hP hD hS ((by first | rfl | assumption | (rw [if_pos (by (try simp only [zlt, zle, zeq, zl_0, zl_1, zl_2, zl_3, zl_4, zl_5, zl_6, zl_7, zl_8, zl_9, zl_10, zl_11, zl_12, zl_13, zl_19, zl_20, zl_30, zl_64, zl_99, zl_100, zl_299, zl_300, zl_399, zl_999, zl_9999, zl_m1, zl_m2, zl_m3, zl_32, zl_280, zl_862, zl_464, zl_82, zl_382, zl_398, zl_400000000, zl_63] at c4 c16 ⊢); omega)]; first | done | ((try simp only [zlt, zle, zeq, zl_0, zl_1, zl_2, zl_3, zl_4, zl_5, zl_6, zl_7, zl_8, zl_9, zl_10, zl_11, zl_12, zl_13, zl_19, zl_20, zl_30, zl_64, zl_99, zl_100, zl_299, zl_300, zl_399, zl_999, zl_9999, zl_m1, zl_m2, zl_m3, zl_32, zl_280, zl_862, zl_464, zl_82, zl_382, zl_398, zl_400000000, zl_63] at c4 c16 ⊢); omega)) | (rw [if_neg (by (try simp only [zlt, zle, zeq, zl_0, zl_1, zl_2, zl_3, zl_4, zl_5, zl_6, zl_7, zl_8, zl_9, zl_10, zl_11, zl_12, zl_13, zl_19, zl_20, zl_30, zl_64, zl_99, zl_100, zl_299, zl_300, zl_399, zl_999, zl_9999, zl_m1, zl_m2, zl_m3, zl_32, zl_280, zl_862, zl_464, zl_82, zl_382, zl_398, zl_400000000, zl_63] at c4 c16 ⊢); omega)]; first | done | ((try simp only [zlt, zle, zeq, zl_0, zl_1, zl_2, zl_3, zl_4, zl_5, zl_6, zl_7, zl_8, zl_9, zl_10, zl_11, zl_12, zl_13, zl_19, zl_20, zl_30, zl_64, zl_99, zl_100, zl_299, zl_300, zl_399, zl_999, zl_9999, zl_m1, zl_m2, zl_m3, zl_32, zl_280, zl_862, zl_464, zl_82, zl_382, zl_398, zl_400000000, zl_63] at c4 c16 ⊢); omega)))) dX12_who_26 (Nat.le_of_ble_eq_true rfl) (Nat.le_of_ble_eq_true rfl)
