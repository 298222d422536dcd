theorem dX7_take_0 : decode cX7_take 0 = .ok (.bipush 24, 2) := by decide +kernel
theorem dX7_take_2 : decode cX7_take 2 = .ok (.istore_n 2, 1) := by decide +kernel
theorem dX7_take_3 : decode cX7_take 3 = .ok (.iload_n 2, 1) := by decide +kernel
theorem dX7_take_4 : decode cX7_take 4 = .ok (.ifCond .lt 45, 3) := by decide +kernel
theorem dX7_take_7 : decode cX7_take 7 = .ok (.aload_n 0, 1) := by decide +kernel
theorem dX7_take_8 : decode cX7_take 8 = .ok (.getfield 24, 3) := by decide +kernel
theorem dX7_take_11 : decode cX7_take 11 = .ok (.sipush 300, 3) := by decide +kernel
theorem dX7_take_14 : decode cX7_take 14 = .ok (.if_icmp .ge 35, 3) := by decide +kernel
theorem dX7_take_17 : decode cX7_take 17 = .ok (.aload_n 0, 1) := by decide +kernel
theorem dX7_take_18 : decode cX7_take 18 = .ok (.getfield 9, 3) := by decide +kernel
theorem dX7_take_21 : decode cX7_take 21 = .ok (.aload_n 0, 1) := by decide +kernel
theorem dX7_take_22 : decode cX7_take 22 = .ok (.getfield 24, 3) := by decide +kernel
theorem dX7_take_25 : decode cX7_take 25 = .ok (.iload_n 1, 1) := by decide +kernel
theorem dX7_take_26 : decode cX7_take 26 = .ok (.iload_n 2, 1) := by decide +kernel
theorem dX7_take_27 : decode cX7_take 27 = .ok (.iushr, 1) := by decide +kernel
theorem dX7_take_28 : decode cX7_take 28 = .ok (.sipush 255, 3) := by decide +kernel
theorem dX7_take_31 : decode cX7_take 31 = .ok (.iand, 1) := by decide +kernel
theorem dX7_take_32 : decode cX7_take 32 = .ok (.iastore, 1) := by decide +kernel
theorem dX7_take_33 : decode cX7_take 33 = .ok (.aload_n 0, 1) := by decide +kernel
theorem dX7_take_34 : decode cX7_take 34 = .ok (.dup, 1) := by decide +kernel
theorem dX7_take_35 : decode cX7_take 35 = .ok (.getfield 24, 3) := by decide +kernel
theorem dX7_take_38 : decode cX7_take 38 = .ok (.iconst 1, 1) := by decide +kernel
theorem dX7_take_39 : decode cX7_take 39 = .ok (.iadd, 1) := by decide +kernel
theorem dX7_take_40 : decode cX7_take 40 = .ok (.putfield 24, 3) := by decide +kernel
theorem dX7_take_43 : decode cX7_take 43 = .ok (.iinc 2 (-8), 3) := by decide +kernel
theorem dX7_take_46 : decode cX7_take 46 = .ok (.goto (-43), 3) := by decide +kernel
theorem dX7_take_49 : decode cX7_take 49 = .ok (.return_, 1) := by decide +kernel
theorem dX11_feed_0 : decode cX11_feed 0 = .ok (.aload_n 0, 1) := by decide +kernel
theorem dX11_feed_1 : decode cX11_feed 1 = .ok (.getfield 39, 3) := by decide +kernel
theorem dX11_feed_4 : decode cX11_feed 4 = .ok (.getfield 127, 3) := by decide +kernel
theorem dX11_feed_7 : decode cX11_feed 7 = .ok (.getfield 131, 3) := by decide +kernel
theorem dX11_feed_10 : decode cX11_feed 10 = .ok (.bipush 20, 2) := by decide +kernel
theorem dX11_feed_12 : decode cX11_feed 12 = .ok (.iadd, 1) := by decide +kernel
theorem dX11_feed_13 : decode cX11_feed 13 = .ok (.sipush 300, 3) := by decide +kernel
theorem dX11_feed_16 : decode cX11_feed 16 = .ok (.if_icmp .le 5, 3) := by decide +kernel
theorem dX11_feed_19 : decode cX11_feed 19 = .ok (.iconst (-1), 1) := by decide +kernel
theorem dX11_feed_20 : decode cX11_feed 20 = .ok (.ireturn, 1) := by decide +kernel
theorem dX11_feed_21 : decode cX11_feed 21 = .ok (.aload_n 0, 1) := by decide +kernel
theorem dX11_feed_22 : decode cX11_feed 22 = .ok (.getfield 39, 3) := by decide +kernel
theorem dX11_feed_25 : decode cX11_feed 25 = .ok (.getfield 127, 3) := by decide +kernel
theorem dX11_feed_28 : decode cX11_feed 28 = .ok (.iload_n 1, 1) := by decide +kernel
theorem dX11_feed_29 : decode cX11_feed 29 = .ok (.invokevirtual 136, 3) := by decide +kernel
theorem dX11_feed_32 : decode cX11_feed 32 = .ok (.aload_n 0, 1) := by decide +kernel
theorem dX11_feed_33 : decode cX11_feed 33 = .ok (.getfield 39, 3) := by decide +kernel
theorem dX11_feed_36 : decode cX11_feed 36 = .ok (.getfield 127, 3) := by decide +kernel
theorem dX11_feed_39 : decode cX11_feed 39 = .ok (.iload_n 2, 1) := by decide +kernel
theorem dX11_feed_40 : decode cX11_feed 40 = .ok (.invokevirtual 136, 3) := by decide +kernel
theorem dX11_feed_43 : decode cX11_feed 43 = .ok (.aload_n 0, 1) := by decide +kernel
theorem dX11_feed_44 : decode cX11_feed 44 = .ok (.getfield 39, 3) := by decide +kernel
theorem dX11_feed_47 : decode cX11_feed 47 = .ok (.getfield 127, 3) := by decide +kernel
theorem dX11_feed_50 : decode cX11_feed 50 = .ok (.iload_n 3, 1) := by decide +kernel
theorem dX11_feed_51 : decode cX11_feed 51 = .ok (.invokevirtual 136, 3) := by decide +kernel
theorem dX11_feed_54 : decode cX11_feed 54 = .ok (.aload_n 0, 1) := by decide +kernel
theorem dX11_feed_55 : decode cX11_feed 55 = .ok (.getfield 39, 3) := by decide +kernel
theorem dX11_feed_58 : decode cX11_feed 58 = .ok (.getfield 127, 3) := by decide +kernel
theorem dX11_feed_61 : decode cX11_feed 61 = .ok (.iload 4, 2) := by decide +kernel
theorem dX11_feed_63 : decode cX11_feed 63 = .ok (.invokevirtual 136, 3) := by decide +kernel
theorem dX11_feed_66 : decode cX11_feed 66 = .ok (.aload_n 0, 1) := by decide +kernel
theorem dX11_feed_67 : decode cX11_feed 67 = .ok (.getfield 39, 3) := by decide +kernel
theorem dX11_feed_70 : decode cX11_feed 70 = .ok (.getfield 127, 3) := by decide +kernel
theorem dX11_feed_73 : decode cX11_feed 73 = .ok (.iload 5, 2) := by decide +kernel
theorem dX11_feed_75 : decode cX11_feed 75 = .ok (.invokevirtual 136, 3) := by decide +kernel
theorem dX11_feed_78 : decode cX11_feed 78 = .ok (.aload_n 0, 1) := by decide +kernel
theorem dX11_feed_79 : decode cX11_feed 79 = .ok (.getfield 39, 3) := by decide +kernel
theorem dX11_feed_82 : decode cX11_feed 82 = .ok (.getfield 127, 3) := by decide +kernel
theorem dX11_feed_85 : decode cX11_feed 85 = .ok (.getfield 131, 3) := by decide +kernel
theorem dX11_feed_88 : decode cX11_feed 88 = .ok (.ireturn, 1) := by decide +kernel
theorem dX9_clear_0 : decode cX9_clear 0 = .ok (.aload_n 0, 1) := by decide +kernel
theorem dX9_clear_1 : decode cX9_clear 1 = .ok (.iconst 0, 1) := by decide +kernel
theorem dX9_clear_2 : decode cX9_clear 2 = .ok (.putfield 27, 3) := by decide +kernel
theorem dX9_clear_5 : decode cX9_clear 5 = .ok (.aload_n 0, 1) := by decide +kernel
theorem dX9_clear_6 : decode cX9_clear 6 = .ok (.iconst 0, 1) := by decide +kernel
theorem dX9_clear_7 : decode cX9_clear 7 = .ok (.putfield 31, 3) := by decide +kernel
theorem dX9_clear_10 : decode cX9_clear 10 = .ok (.aload_n 0, 1) := by decide +kernel
theorem dX9_clear_11 : decode cX9_clear 11 = .ok (.getfield 15, 3) := by decide +kernel
theorem dX9_clear_14 : decode cX9_clear 14 = .ok (.iconst 0, 1) := by decide +kernel
theorem dX9_clear_15 : decode cX9_clear 15 = .ok (.invokestatic 34, 3) := by decide +kernel
theorem dX9_clear_18 : decode cX9_clear 18 = .ok (.aload_n 0, 1) := by decide +kernel
theorem dX9_clear_19 : decode cX9_clear 19 = .ok (.getfield 18, 3) := by decide +kernel
theorem dX9_clear_22 : decode cX9_clear 22 = .ok (.iconst 0, 1) := by decide +kernel
theorem dX9_clear_23 : decode cX9_clear 23 = .ok (.invokestatic 34, 3) := by decide +kernel
theorem dX9_clear_26 : decode cX9_clear 26 = .ok (.return_, 1) := by decide +kernel
theorem dX7_put_0 : decode cX7_put 0 = .ok (.aload_n 0, 1) := by decide +kernel
theorem dX7_put_1 : decode cX7_put 1 = .ok (.getfield 28, 3) := by decide +kernel
theorem dX7_put_4 : decode cX7_put 4 = .ok (.sipush 300, 3) := by decide +kernel
theorem dX7_put_7 : decode cX7_put 7 = .ok (.if_icmp .gt 43, 3) := by decide +kernel
theorem dX7_put_10 : decode cX7_put 10 = .ok (.aload_n 0, 1) := by decide +kernel
theorem dX7_put_11 : decode cX7_put 11 = .ok (.getfield 15, 3) := by decide +kernel
theorem dX7_put_14 : decode cX7_put 14 = .ok (.aload_n 0, 1) := by decide +kernel
theorem dX7_put_15 : decode cX7_put 15 = .ok (.getfield 28, 3) := by decide +kernel
theorem dX7_put_18 : decode cX7_put 18 = .ok (.iload_n 1, 1) := by decide +kernel
theorem dX7_put_19 : decode cX7_put 19 = .ok (.iastore, 1) := by decide +kernel
theorem dX7_put_20 : decode cX7_put 20 = .ok (.aload_n 0, 1) := by decide +kernel
theorem dX7_put_21 : decode cX7_put 21 = .ok (.getfield 18, 3) := by decide +kernel
theorem dX7_put_24 : decode cX7_put 24 = .ok (.aload_n 0, 1) := by decide +kernel
theorem dX7_put_25 : decode cX7_put 25 = .ok (.getfield 28, 3) := by decide +kernel
theorem dX7_put_28 : decode cX7_put 28 = .ok (.iload_n 2, 1) := by decide +kernel
theorem dX7_put_29 : decode cX7_put 29 = .ok (.iastore, 1) := by decide +kernel
theorem dX7_put_30 : decode cX7_put 30 = .ok (.aload_n 0, 1) := by decide +kernel
theorem dX7_put_31 : decode cX7_put 31 = .ok (.getfield 21, 3) := by decide +kernel
theorem dX7_put_34 : decode cX7_put 34 = .ok (.aload_n 0, 1) := by decide +kernel
theorem dX7_put_35 : decode cX7_put 35 = .ok (.getfield 28, 3) := by decide +kernel
theorem dX7_put_38 : decode cX7_put 38 = .ok (.iload_n 3, 1) := by decide +kernel
theorem dX7_put_39 : decode cX7_put 39 = .ok (.iastore, 1) := by decide +kernel
theorem dX7_put_40 : decode cX7_put 40 = .ok (.aload_n 0, 1) := by decide +kernel
theorem dX7_put_41 : decode cX7_put 41 = .ok (.dup, 1) := by decide +kernel
theorem dX7_put_42 : decode cX7_put 42 = .ok (.getfield 28, 3) := by decide +kernel
theorem dX7_put_45 : decode cX7_put 45 = .ok (.iconst 1, 1) := by decide +kernel
theorem dX7_put_46 : decode cX7_put 46 = .ok (.iadd, 1) := by decide +kernel
theorem dX7_put_47 : decode cX7_put 47 = .ok (.putfield 28, 3) := by decide +kernel
theorem dX7_put_50 : decode cX7_put 50 = .ok (.return_, 1) := by decide +kernel
theorem dX7_split_0 : decode cX7_split 0 = .ok (.aload_n 0, 1) := by decide +kernel
theorem dX7_split_1 : decode cX7_split 1 = .ok (.iconst 0, 1) := by decide +kernel
theorem dX7_split_2 : decode cX7_split 2 = .ok (.putfield 28, 3) := by decide +kernel
theorem dX7_split_5 : decode cX7_split 5 = .ok (.iconst 0, 1) := by decide +kernel
theorem dX7_split_6 : decode cX7_split 6 = .ok (.istore_n 1, 1) := by decide +kernel
theorem dX7_split_7 : decode cX7_split 7 = .ok (.iconst 0, 1) := by decide +kernel
theorem dX7_split_8 : decode cX7_split 8 = .ok (.istore_n 2, 1) := by decide +kernel
theorem dX7_split_9 : decode cX7_split 9 = .ok (.iload_n 2, 1) := by decide +kernel
theorem dX7_split_10 : decode cX7_split 10 = .ok (.sipush 300, 3) := by decide +kernel
theorem dX7_split_13 : decode cX7_split 13 = .ok (.if_icmp .ge 51, 3) := by decide +kernel
theorem dX7_split_16 : decode cX7_split 16 = .ok (.iload_n 1, 1) := by decide +kernel
theorem dX7_split_17 : decode cX7_split 17 = .ok (.aload_n 0, 1) := by decide +kernel
theorem dX7_split_18 : decode cX7_split 18 = .ok (.getfield 24, 3) := by decide +kernel
theorem dX7_split_21 : decode cX7_split 21 = .ok (.if_icmp .ge 43, 3) := by decide +kernel
theorem dX7_split_24 : decode cX7_split 24 = .ok (.aload_n 0, 1) := by decide +kernel
theorem dX7_split_25 : decode cX7_split 25 = .ok (.getfield 9, 3) := by decide +kernel
theorem dX7_split_28 : decode cX7_split 28 = .ok (.iload_n 1, 1) := by decide +kernel
theorem dX7_split_29 : decode cX7_split 29 = .ok (.iaload, 1) := by decide +kernel
theorem dX7_split_30 : decode cX7_split 30 = .ok (.bipush 32, 2) := by decide +kernel
theorem dX7_split_32 : decode cX7_split 32 = .ok (.if_icmp .eq 14, 3) := by decide +kernel
theorem dX7_split_35 : decode cX7_split 35 = .ok (.aload_n 0, 1) := by decide +kernel
theorem dX7_split_36 : decode cX7_split 36 = .ok (.getfield 9, 3) := by decide +kernel
theorem dX7_split_39 : decode cX7_split 39 = .ok (.iload_n 1, 1) := by decide +kernel
theorem dX7_split_40 : decode cX7_split 40 = .ok (.iaload, 1) := by decide +kernel
theorem dX7_split_41 : decode cX7_split 41 = .ok (.bipush 10, 2) := by decide +kernel
theorem dX7_split_43 : decode cX7_split 43 = .ok (.if_icmp .ne 9, 3) := by decide +kernel
theorem dX7_split_46 : decode cX7_split 46 = .ok (.iinc 1 1, 3) := by decide +kernel
theorem dX7_split_49 : decode cX7_split 49 = .ok (.goto 9, 3) := by decide +kernel
theorem dX7_split_52 : decode cX7_split 52 = .ok (.aload_n 0, 1) := by decide +kernel
theorem dX7_split_53 : decode cX7_split 53 = .ok (.iload_n 1, 1) := by decide +kernel
theorem dX7_split_54 : decode cX7_split 54 = .ok (.invokevirtual 31, 3) := by decide +kernel
theorem dX7_split_57 : decode cX7_split 57 = .ok (.istore_n 1, 1) := by decide +kernel
theorem dX7_split_58 : decode cX7_split 58 = .ok (.iinc 2 1, 3) := by decide +kernel
theorem dX7_split_61 : decode cX7_split 61 = .ok (.goto (-52), 3) := by decide +kernel
theorem dX7_split_64 : decode cX7_split 64 = .ok (.aload_n 0, 1) := by decide +kernel
theorem dX7_split_65 : decode cX7_split 65 = .ok (.bipush 37, 2) := by decide +kernel
theorem dX7_split_67 : decode cX7_split 67 = .ok (.aload_n 0, 1) := by decide +kernel
theorem dX7_split_68 : decode cX7_split 68 = .ok (.getfield 24, 3) := by decide +kernel
theorem dX7_split_71 : decode cX7_split 71 = .ok (.iconst 0, 1) := by decide +kernel
theorem dX7_split_72 : decode cX7_split 72 = .ok (.invokevirtual 35, 3) := by decide +kernel
theorem dX7_split_75 : decode cX7_split 75 = .ok (.return_, 1) := by decide +kernel
theorem dX2_read_0 : decode cX2_read 0 = .ok (.aload_n 0, 1) := by decide +kernel
theorem dX2_read_1 : decode cX2_read 1 = .ok (.aload_n 1, 1) := by decide +kernel
theorem dX2_read_2 : decode cX2_read 2 = .ok (.putfield 37, 3) := by decide +kernel
theorem dX2_read_5 : decode cX2_read 5 = .ok (.aload_n 0, 1) := by decide +kernel
theorem dX2_read_6 : decode cX2_read 6 = .ok (.getfield 37, 3) := by decide +kernel
theorem dX2_read_9 : decode cX2_read 9 = .ok (.invokevirtual 41, 3) := by decide +kernel
theorem dX2_read_12 : decode cX2_read 12 = .ok (.aload_n 0, 1) := by decide +kernel
theorem dX2_read_13 : decode cX2_read 13 = .ok (.iconst 0, 1) := by decide +kernel
theorem dX2_read_14 : decode cX2_read 14 = .ok (.putfield 18, 3) := by decide +kernel
theorem dX2_read_17 : decode cX2_read 17 = .ok (.aload_n 0, 1) := by decide +kernel
theorem dX2_read_18 : decode cX2_read 18 = .ok (.iconst (-1), 1) := by decide +kernel
theorem dX2_read_19 : decode cX2_read 19 = .ok (.putfield 22, 3) := by decide +kernel
theorem dX2_read_22 : decode cX2_read 22 = .ok (.aload_n 0, 1) := by decide +kernel
theorem dX2_read_23 : decode cX2_read 23 = .ok (.getfield 12, 3) := by decide +kernel
theorem dX2_read_26 : decode cX2_read 26 = .ok (.invokevirtual 44, 3) := by decide +kernel
theorem dX2_read_29 : decode cX2_read 29 = .ok (.aload_n 0, 1) := by decide +kernel
theorem dX2_read_30 : decode cX2_read 30 = .ok (.iconst 0, 1) := by decide +kernel
theorem dX2_read_31 : decode cX2_read 31 = .ok (.putfield 25, 3) := by decide +kernel
theorem dX2_read_34 : decode cX2_read 34 = .ok (.aload_n 0, 1) := by decide +kernel
theorem dX2_read_35 : decode cX2_read 35 = .ok (.aload_n 0, 1) := by decide +kernel
theorem dX2_read_36 : decode cX2_read 36 = .ok (.getfield 12, 3) := by decide +kernel
theorem dX2_read_39 : decode cX2_read 39 = .ok (.getfield 47, 3) := by decide +kernel
theorem dX2_read_42 : decode cX2_read 42 = .ok (.iconst 0, 1) := by decide +kernel
theorem dX2_read_43 : decode cX2_read 43 = .ok (.iaload, 1) := by decide +kernel
theorem dX2_read_44 : decode cX2_read 44 = .ok (.putfield 28, 3) := by decide +kernel
theorem dX2_read_47 : decode cX2_read 47 = .ok (.aload_n 0, 1) := by decide +kernel
theorem dX2_read_48 : decode cX2_read 48 = .ok (.aload_n 0, 1) := by decide +kernel
theorem dX2_read_49 : decode cX2_read 49 = .ok (.getfield 12, 3) := by decide +kernel
theorem dX2_read_52 : decode cX2_read 52 = .ok (.getfield 50, 3) := by decide +kernel
theorem dX2_read_55 : decode cX2_read 55 = .ok (.iconst 0, 1) := by decide +kernel
theorem dX2_read_56 : decode cX2_read 56 = .ok (.iaload, 1) := by decide +kernel
theorem dX2_read_57 : decode cX2_read 57 = .ok (.putfield 31, 3) := by decide +kernel
theorem dX2_read_60 : decode cX2_read 60 = .ok (.iconst 1, 1) := by decide +kernel
theorem dX2_read_61 : decode cX2_read 61 = .ok (.istore_n 2, 1) := by decide +kernel
theorem dX2_read_62 : decode cX2_read 62 = .ok (.iconst 0, 1) := by decide +kernel
theorem dX2_read_63 : decode cX2_read 63 = .ok (.istore_n 3, 1) := by decide +kernel
theorem dX2_read_64 : decode cX2_read 64 = .ok (.iload_n 3, 1) := by decide +kernel
theorem dX2_read_65 : decode cX2_read 65 = .ok (.bipush 24, 2) := by decide +kernel
theorem dX2_read_67 : decode cX2_read 67 = .ok (.if_icmp .gt 27, 3) := by decide +kernel
theorem dX2_read_70 : decode cX2_read 70 = .ok (.iload_n 2, 1) := by decide +kernel
theorem dX2_read_71 : decode cX2_read 71 = .ok (.ifCond .eq 23, 3) := by decide +kernel
theorem dX2_read_74 : decode cX2_read 74 = .ok (.aload_n 0, 1) := by decide +kernel
theorem dX2_read_75 : decode cX2_read 75 = .ok (.getfield 28, 3) := by decide +kernel
theorem dX2_read_78 : decode cX2_read 78 = .ok (.bipush 37, 2) := by decide +kernel
theorem dX2_read_80 : decode cX2_read 80 = .ok (.if_icmp .eq 14, 3) := by decide +kernel
theorem dX2_read_83 : decode cX2_read 83 = .ok (.aload_n 0, 1) := by decide +kernel
theorem dX2_read_84 : decode cX2_read 84 = .ok (.invokevirtual 52, 3) := by decide +kernel
theorem dX2_read_87 : decode cX2_read 87 = .ok (.istore_n 2, 1) := by decide +kernel
theorem dX2_read_88 : decode cX2_read 88 = .ok (.iinc 3 1, 3) := by decide +kernel
theorem dX2_read_91 : decode cX2_read 91 = .ok (.goto (-27), 3) := by decide +kernel
theorem dX2_read_94 : decode cX2_read 94 = .ok (.return_, 1) := by decide +kernel
theorem dX11_text_0 : decode cX11_text 0 = .ok (.aload_n 0, 1) := by decide +kernel
theorem dX11_text_1 : decode cX11_text 1 = .ok (.getfield 27, 3) := by decide +kernel
theorem dX11_text_4 : decode cX11_text 4 = .ok (.getfield 140, 3) := by decide +kernel
theorem dX11_text_7 : decode cX11_text 7 = .ok (.iconst 4, 1) := by decide +kernel
theorem dX11_text_8 : decode cX11_text 8 = .ok (.if_icmp .lt 5, 3) := by decide +kernel
theorem dX11_text_11 : decode cX11_text 11 = .ok (.iconst (-1), 1) := by decide +kernel
theorem dX11_text_12 : decode cX11_text 12 = .ok (.ireturn, 1) := by decide +kernel
theorem dX11_text_13 : decode cX11_text 13 = .ok (.aload_n 0, 1) := by decide +kernel
theorem dX11_text_14 : decode cX11_text 14 = .ok (.getfield 39, 3) := by decide +kernel
theorem dX11_text_17 : decode cX11_text 17 = .ok (.aload_n 0, 1) := by decide +kernel
theorem dX11_text_18 : decode cX11_text 18 = .ok (.getfield 20, 3) := by decide +kernel
theorem dX11_text_21 : decode cX11_text 21 = .ok (.getfield 143, 3) := by decide +kernel
theorem dX11_text_24 : decode cX11_text 24 = .ok (.aload_n 0, 1) := by decide +kernel
theorem dX11_text_25 : decode cX11_text 25 = .ok (.getfield 27, 3) := by decide +kernel
theorem dX11_text_28 : decode cX11_text 28 = .ok (.getfield 140, 3) := by decide +kernel
theorem dX11_text_31 : decode cX11_text 31 = .ok (.aaload, 1) := by decide +kernel
theorem dX11_text_32 : decode cX11_text 32 = .ok (.invokevirtual 146, 3) := by decide +kernel
theorem dX11_text_35 : decode cX11_text 35 = .ok (.aload_n 0, 1) := by decide +kernel
theorem dX11_text_36 : decode cX11_text 36 = .ok (.getfield 39, 3) := by decide +kernel
theorem dX11_text_39 : decode cX11_text 39 = .ok (.getfield 127, 3) := by decide +kernel
theorem dX11_text_42 : decode cX11_text 42 = .ok (.iconst 0, 1) := by decide +kernel
theorem dX11_text_43 : decode cX11_text 43 = .ok (.putfield 131, 3) := by decide +kernel
theorem dX11_text_46 : decode cX11_text 46 = .ok (.aload_n 0, 1) := by decide +kernel
theorem dX11_text_47 : decode cX11_text 47 = .ok (.getfield 39, 3) := by decide +kernel
theorem dX11_text_50 : decode cX11_text 50 = .ok (.getfield 150, 3) := by decide +kernel
theorem dX11_text_53 : decode cX11_text 53 = .ok (.ifCond .eq 5, 3) := by decide +kernel
theorem dX11_text_56 : decode cX11_text 56 = .ok (.iconst (-1), 1) := by decide +kernel
theorem dX11_text_57 : decode cX11_text 57 = .ok (.ireturn, 1) := by decide +kernel
theorem dX11_text_58 : decode cX11_text 58 = .ok (.aload_n 0, 1) := by decide +kernel
theorem dX11_text_59 : decode cX11_text 59 = .ok (.getfield 27, 3) := by decide +kernel
theorem dX11_text_62 : decode cX11_text 62 = .ok (.dup, 1) := by decide +kernel
theorem dX11_text_63 : decode cX11_text 63 = .ok (.getfield 140, 3) := by decide +kernel
theorem dX11_text_66 : decode cX11_text 66 = .ok (.iconst 1, 1) := by decide +kernel
theorem dX11_text_67 : decode cX11_text 67 = .ok (.iadd, 1) := by decide +kernel
theorem dX11_text_68 : decode cX11_text 68 = .ok (.putfield 140, 3) := by decide +kernel
theorem dX11_text_71 : decode cX11_text 71 = .ok (.aload_n 0, 1) := by decide +kernel
theorem dX11_text_72 : decode cX11_text 72 = .ok (.getfield 27, 3) := by decide +kernel
theorem dX11_text_75 : decode cX11_text 75 = .ok (.getfield 140, 3) := by decide +kernel
theorem dX11_text_78 : decode cX11_text 78 = .ok (.iconst 1, 1) := by decide +kernel
theorem dX11_text_79 : decode cX11_text 79 = .ok (.isub, 1) := by decide +kernel
theorem dX11_text_80 : decode cX11_text 80 = .ok (.ireturn, 1) := by decide +kernel
theorem dX8_seek_0 : decode cX8_seek 0 = .ok (.iload 4, 2) := by decide +kernel
theorem dX8_seek_2 : decode cX8_seek 2 = .ok (.aload_n 0, 1) := by decide +kernel
theorem dX8_seek_3 : decode cX8_seek 3 = .ok (.getfield 18, 3) := by decide +kernel
theorem dX8_seek_6 : decode cX8_seek 6 = .ok (.if_icmp .lt 47, 3) := by decide +kernel
theorem dX8_seek_9 : decode cX8_seek 9 = .ok (.iload_n 2, 1) := by decide +kernel
theorem dX8_seek_10 : decode cX8_seek 10 = .ok (.iload_n 3, 1) := by decide +kernel
theorem dX8_seek_11 : decode cX8_seek 11 = .ok (.if_icmp .ne 41, 3) := by decide +kernel
theorem dX8_seek_14 : decode cX8_seek 14 = .ok (.aload_n 0, 1) := by decide +kernel
theorem dX8_seek_15 : decode cX8_seek 15 = .ok (.getfield 22, 3) := by decide +kernel
theorem dX8_seek_18 : decode cX8_seek 18 = .ok (.iconst (-1), 1) := by decide +kernel
theorem dX8_seek_19 : decode cX8_seek 19 = .ok (.if_icmp .eq 12, 3) := by decide +kernel
theorem dX8_seek_22 : decode cX8_seek 22 = .ok (.iload 5, 2) := by decide +kernel
theorem dX8_seek_24 : decode cX8_seek 24 = .ok (.aload_n 0, 1) := by decide +kernel
theorem dX8_seek_25 : decode cX8_seek 25 = .ok (.getfield 22, 3) := by decide +kernel
theorem dX8_seek_28 : decode cX8_seek 28 = .ok (.if_icmp .ge 24, 3) := by decide +kernel
theorem dX8_seek_31 : decode cX8_seek 31 = .ok (.aload_n 0, 1) := by decide +kernel
theorem dX8_seek_32 : decode cX8_seek 32 = .ok (.iload 5, 2) := by decide +kernel
theorem dX8_seek_34 : decode cX8_seek 34 = .ok (.putfield 22, 3) := by decide +kernel
theorem dX8_seek_37 : decode cX8_seek 37 = .ok (.aload_n 0, 1) := by decide +kernel
theorem dX8_seek_38 : decode cX8_seek 38 = .ok (.getfield 15, 3) := by decide +kernel
theorem dX8_seek_41 : decode cX8_seek 41 = .ok (.iconst 0, 1) := by decide +kernel
theorem dX8_seek_42 : decode cX8_seek 42 = .ok (.aload_n 0, 1) := by decide +kernel
theorem dX8_seek_43 : decode cX8_seek 43 = .ok (.getfield 9, 3) := by decide +kernel
theorem dX8_seek_46 : decode cX8_seek 46 = .ok (.iconst 0, 1) := by decide +kernel
theorem dX8_seek_47 : decode cX8_seek 47 = .ok (.bipush 6, 2) := by decide +kernel
theorem dX8_seek_49 : decode cX8_seek 49 = .ok (.invokestatic 52, 3) := by decide +kernel
theorem dX8_seek_52 : decode cX8_seek 52 = .ok (.return_, 1) := by decide +kernel
theorem dX8_seek_53 : decode cX8_seek 53 = .ok (.iconst 0, 1) := by decide +kernel
theorem dX8_seek_54 : decode cX8_seek 54 = .ok (.istore 6, 2) := by decide +kernel
theorem dX8_seek_56 : decode cX8_seek 56 = .ok (.iload 6, 2) := by decide +kernel
theorem dX8_seek_58 : decode cX8_seek 58 = .ok (.aload_n 1, 1) := by decide +kernel
theorem dX8_seek_59 : decode cX8_seek 59 = .ok (.getfield 25, 3) := by decide +kernel
theorem dX8_seek_62 : decode cX8_seek 62 = .ok (.getfield 31, 3) := by decide +kernel
theorem dX8_seek_65 : decode cX8_seek 65 = .ok (.getfield 37, 3) := by decide +kernel
theorem dX8_seek_68 : decode cX8_seek 68 = .ok (.getfield 43, 3) := by decide +kernel
theorem dX8_seek_71 : decode cX8_seek 71 = .ok (.if_icmp .ge 65, 3) := by decide +kernel
theorem dX8_seek_74 : decode cX8_seek 74 = .ok (.aload_n 0, 1) := by decide +kernel
theorem dX8_seek_75 : decode cX8_seek 75 = .ok (.iload 6, 2) := by decide +kernel
theorem dX8_seek_77 : decode cX8_seek 77 = .ok (.iload 4, 2) := by decide +kernel
theorem dX8_seek_79 : decode cX8_seek 79 = .ok (.invokevirtual 58, 3) := by decide +kernel
theorem dX8_seek_82 : decode cX8_seek 82 = .ok (.ifCond .ne 48, 3) := by decide +kernel
theorem dX8_seek_85 : decode cX8_seek 85 = .ok (.aload_n 0, 1) := by decide +kernel
theorem dX8_seek_86 : decode cX8_seek 86 = .ok (.getfield 15, 3) := by decide +kernel
theorem dX8_seek_89 : decode cX8_seek 89 = .ok (.iload 4, 2) := by decide +kernel
theorem dX8_seek_91 : decode cX8_seek 91 = .ok (.iload 6, 2) := by decide +kernel
theorem dX8_seek_93 : decode cX8_seek 93 = .ok (.iastore, 1) := by decide +kernel
theorem dX8_seek_94 : decode cX8_seek 94 = .ok (.aload_n 1, 1) := by decide +kernel
theorem dX8_seek_95 : decode cX8_seek 95 = .ok (.iload 6, 2) := by decide +kernel
theorem dX8_seek_97 : decode cX8_seek 97 = .ok (.iload_n 2, 1) := by decide +kernel
theorem dX8_seek_98 : decode cX8_seek 98 = .ok (.invokevirtual 62, 3) := by decide +kernel
theorem dX8_seek_101 : decode cX8_seek 101 = .ok (.istore 7, 2) := by decide +kernel
theorem dX8_seek_103 : decode cX8_seek 103 = .ok (.aload_n 0, 1) := by decide +kernel
theorem dX8_seek_104 : decode cX8_seek 104 = .ok (.aload_n 1, 1) := by decide +kernel
theorem dX8_seek_105 : decode cX8_seek 105 = .ok (.aload_n 1, 1) := by decide +kernel
theorem dX8_seek_106 : decode cX8_seek 106 = .ok (.getfield 66, 3) := by decide +kernel
theorem dX8_seek_109 : decode cX8_seek 109 = .ok (.iload 7, 2) := by decide +kernel
theorem dX8_seek_111 : decode cX8_seek 111 = .ok (.iaload, 1) := by decide +kernel
theorem dX8_seek_112 : decode cX8_seek 112 = .ok (.iload_n 3, 1) := by decide +kernel
theorem dX8_seek_113 : decode cX8_seek 113 = .ok (.iload 4, 2) := by decide +kernel
theorem dX8_seek_115 : decode cX8_seek 115 = .ok (.iconst 1, 1) := by decide +kernel
theorem dX8_seek_116 : decode cX8_seek 116 = .ok (.iadd, 1) := by decide +kernel
theorem dX8_seek_117 : decode cX8_seek 117 = .ok (.iload 5, 2) := by decide +kernel
theorem dX8_seek_119 : decode cX8_seek 119 = .ok (.aload_n 1, 1) := by decide +kernel
theorem dX8_seek_120 : decode cX8_seek 120 = .ok (.getfield 69, 3) := by decide +kernel
theorem dX8_seek_123 : decode cX8_seek 123 = .ok (.iload 7, 2) := by decide +kernel
theorem dX8_seek_125 : decode cX8_seek 125 = .ok (.iaload, 1) := by decide +kernel
theorem dX8_seek_126 : decode cX8_seek 126 = .ok (.iadd, 1) := by decide +kernel
theorem dX8_seek_127 : decode cX8_seek 127 = .ok (.invokevirtual 48, 3) := by decide +kernel
theorem dX8_seek_130 : decode cX8_seek 130 = .ok (.iinc 6 1, 3) := by decide +kernel
theorem dX8_seek_133 : decode cX8_seek 133 = .ok (.goto (-77), 3) := by decide +kernel
theorem dX8_seek_136 : decode cX8_seek 136 = .ok (.return_, 1) := by decide +kernel
theorem dX8_find_0 : decode cX8_find 0 = .ok (.aload_n 1, 1) := by decide +kernel
theorem dX8_find_1 : decode cX8_find 1 = .ok (.getfield 25, 3) := by decide +kernel
theorem dX8_find_4 : decode cX8_find 4 = .ok (.getfield 31, 3) := by decide +kernel
theorem dX8_find_7 : decode cX8_find 7 = .ok (.getfield 37, 3) := by decide +kernel
theorem dX8_find_10 : decode cX8_find 10 = .ok (.getfield 43, 3) := by decide +kernel
theorem dX8_find_13 : decode cX8_find 13 = .ok (.istore 4, 2) := by decide +kernel
theorem dX8_find_15 : decode cX8_find 15 = .ok (.aload_n 0, 1) := by decide +kernel
theorem dX8_find_16 : decode cX8_find 16 = .ok (.iconst (-1), 1) := by decide +kernel
theorem dX8_find_17 : decode cX8_find 17 = .ok (.putfield 22, 3) := by decide +kernel
theorem dX8_find_20 : decode cX8_find 20 = .ok (.aload_n 0, 1) := by decide +kernel
theorem dX8_find_21 : decode cX8_find 21 = .ok (.iconst 0, 1) := by decide +kernel
theorem dX8_find_22 : decode cX8_find 22 = .ok (.putfield 18, 3) := by decide +kernel
theorem dX8_find_25 : decode cX8_find 25 = .ok (.aload_n 0, 1) := by decide +kernel
theorem dX8_find_26 : decode cX8_find 26 = .ok (.aload_n 1, 1) := by decide +kernel
theorem dX8_find_27 : decode cX8_find 27 = .ok (.iload_n 2, 1) := by decide +kernel
theorem dX8_find_28 : decode cX8_find 28 = .ok (.iload_n 3, 1) := by decide +kernel
theorem dX8_find_29 : decode cX8_find 29 = .ok (.iconst 0, 1) := by decide +kernel
theorem dX8_find_30 : decode cX8_find 30 = .ok (.iconst 0, 1) := by decide +kernel
theorem dX8_find_31 : decode cX8_find 31 = .ok (.invokevirtual 48, 3) := by decide +kernel
theorem dX8_find_34 : decode cX8_find 34 = .ok (.iconst 1, 1) := by decide +kernel
theorem dX8_find_35 : decode cX8_find 35 = .ok (.istore 5, 2) := by decide +kernel
theorem dX8_find_37 : decode cX8_find 37 = .ok (.iload 5, 2) := by decide +kernel
theorem dX8_find_39 : decode cX8_find 39 = .ok (.iload 4, 2) := by decide +kernel
theorem dX8_find_41 : decode cX8_find 41 = .ok (.if_icmp .gt 32, 3) := by decide +kernel
theorem dX8_find_44 : decode cX8_find 44 = .ok (.aload_n 0, 1) := by decide +kernel
theorem dX8_find_45 : decode cX8_find 45 = .ok (.getfield 22, 3) := by decide +kernel
theorem dX8_find_48 : decode cX8_find 48 = .ok (.iconst (-1), 1) := by decide +kernel
theorem dX8_find_49 : decode cX8_find 49 = .ok (.if_icmp .ne 24, 3) := by decide +kernel
theorem dX8_find_52 : decode cX8_find 52 = .ok (.aload_n 0, 1) := by decide +kernel
theorem dX8_find_53 : decode cX8_find 53 = .ok (.iload 5, 2) := by decide +kernel
theorem dX8_find_55 : decode cX8_find 55 = .ok (.putfield 18, 3) := by decide +kernel
theorem dX8_find_58 : decode cX8_find 58 = .ok (.aload_n 0, 1) := by decide +kernel
theorem dX8_find_59 : decode cX8_find 59 = .ok (.aload_n 1, 1) := by decide +kernel
theorem dX8_find_60 : decode cX8_find 60 = .ok (.iload_n 2, 1) := by decide +kernel
theorem dX8_find_61 : decode cX8_find 61 = .ok (.iload_n 3, 1) := by decide +kernel
theorem dX8_find_62 : decode cX8_find 62 = .ok (.iconst 0, 1) := by decide +kernel
theorem dX8_find_63 : decode cX8_find 63 = .ok (.iconst 0, 1) := by decide +kernel
theorem dX8_find_64 : decode cX8_find 64 = .ok (.invokevirtual 48, 3) := by decide +kernel
theorem dX8_find_67 : decode cX8_find 67 = .ok (.iinc 5 1, 3) := by decide +kernel
theorem dX8_find_70 : decode cX8_find 70 = .ok (.goto (-33), 3) := by decide +kernel
theorem dX8_find_73 : decode cX8_find 73 = .ok (.return_, 1) := by decide +kernel
theorem dX11_harness_0 : decode cX11_harness 0 = .ok (.iload_n 1, 1) := by decide +kernel
theorem dX11_harness_1 : decode cX11_harness 1 = .ok (.invokestatic 54, 3) := by decide +kernel
theorem dX11_harness_4 : decode cX11_harness 4 = .ok (.ifCond .eq 10, 3) := by decide +kernel
theorem dX11_harness_7 : decode cX11_harness 7 = .ok (.iload_n 2, 1) := by decide +kernel
theorem dX11_harness_8 : decode cX11_harness 8 = .ok (.invokestatic 54, 3) := by decide +kernel
theorem dX11_harness_11 : decode cX11_harness 11 = .ok (.ifCond .ne 6, 3) := by decide +kernel
theorem dX11_harness_14 : decode cX11_harness 14 = .ok (.bipush (-3), 2) := by decide +kernel
theorem dX11_harness_16 : decode cX11_harness 16 = .ok (.ireturn, 1) := by decide +kernel
theorem dX11_harness_17 : decode cX11_harness 17 = .ok (.aload_n 0, 1) := by decide +kernel
theorem dX11_harness_18 : decode cX11_harness 18 = .ok (.getfield 46, 3) := by decide +kernel
theorem dX11_harness_21 : decode cX11_harness 21 = .ok (.aload_n 0, 1) := by decide +kernel
theorem dX11_harness_22 : decode cX11_harness 22 = .ok (.getfield 10, 3) := by decide +kernel
theorem dX11_harness_25 : decode cX11_harness 25 = .ok (.iload_n 1, 1) := by decide +kernel
theorem dX11_harness_26 : decode cX11_harness 26 = .ok (.iload_n 2, 1) := by decide +kernel
theorem dX11_harness_27 : decode cX11_harness 27 = .ok (.invokevirtual 219, 3) := by decide +kernel
theorem dX11_harness_30 : decode cX11_harness 30 = .ok (.aload_n 0, 1) := by decide +kernel
theorem dX11_harness_31 : decode cX11_harness 31 = .ok (.getfield 46, 3) := by decide +kernel
theorem dX11_harness_34 : decode cX11_harness 34 = .ok (.getfield 223, 3) := by decide +kernel
theorem dX11_harness_37 : decode cX11_harness 37 = .ok (.iconst (-1), 1) := by decide +kernel
theorem dX11_harness_38 : decode cX11_harness 38 = .ok (.if_icmp .ne 6, 3) := by decide +kernel
theorem dX11_harness_41 : decode cX11_harness 41 = .ok (.bipush (-3), 2) := by decide +kernel
theorem dX11_harness_43 : decode cX11_harness 43 = .ok (.ireturn, 1) := by decide +kernel
theorem dX11_harness_44 : decode cX11_harness 44 = .ok (.iload_n 3, 1) := by decide +kernel
theorem dX11_harness_45 : decode cX11_harness 45 = .ok (.iconst (-1), 1) := by decide +kernel
theorem dX11_harness_46 : decode cX11_harness 46 = .ok (.if_icmp .ne 11, 3) := by decide +kernel
theorem dX11_harness_49 : decode cX11_harness 49 = .ok (.aload_n 0, 1) := by decide +kernel
theorem dX11_harness_50 : decode cX11_harness 50 = .ok (.getfield 46, 3) := by decide +kernel
theorem dX11_harness_53 : decode cX11_harness 53 = .ok (.getfield 224, 3) := by decide +kernel
theorem dX11_harness_56 : decode cX11_harness 56 = .ok (.ireturn, 1) := by decide +kernel
theorem dX11_harness_57 : decode cX11_harness 57 = .ok (.iload_n 3, 1) := by decide +kernel
theorem dX11_harness_58 : decode cX11_harness 58 = .ok (.bipush (-2), 2) := by decide +kernel
theorem dX11_harness_60 : decode cX11_harness 60 = .ok (.if_icmp .ne 11, 3) := by decide +kernel
theorem dX11_harness_63 : decode cX11_harness 63 = .ok (.aload_n 0, 1) := by decide +kernel
theorem dX11_harness_64 : decode cX11_harness 64 = .ok (.getfield 46, 3) := by decide +kernel
theorem dX11_harness_67 : decode cX11_harness 67 = .ok (.getfield 223, 3) := by decide +kernel
theorem dX11_harness_70 : decode cX11_harness 70 = .ok (.ireturn, 1) := by decide +kernel
theorem dX11_harness_71 : decode cX11_harness 71 = .ok (.iload_n 3, 1) := by decide +kernel
theorem dX11_harness_72 : decode cX11_harness 72 = .ok (.iconst 0, 1) := by decide +kernel
theorem dX11_harness_73 : decode cX11_harness 73 = .ok (.aload_n 0, 1) := by decide +kernel
theorem dX11_harness_74 : decode cX11_harness 74 = .ok (.getfield 46, 3) := by decide +kernel
theorem dX11_harness_77 : decode cX11_harness 77 = .ok (.getfield 224, 3) := by decide +kernel
theorem dX11_harness_80 : decode cX11_harness 80 = .ok (.iconst 1, 1) := by decide +kernel
theorem dX11_harness_81 : decode cX11_harness 81 = .ok (.isub, 1) := by decide +kernel
theorem dX11_harness_82 : decode cX11_harness 82 = .ok (.invokestatic 58, 3) := by decide +kernel
theorem dX11_harness_85 : decode cX11_harness 85 = .ok (.ifCond .eq 15, 3) := by decide +kernel
theorem dX11_harness_88 : decode cX11_harness 88 = .ok (.aload_n 0, 1) := by decide +kernel
theorem dX11_harness_89 : decode cX11_harness 89 = .ok (.getfield 46, 3) := by decide +kernel
theorem dX11_harness_92 : decode cX11_harness 92 = .ok (.getfield 225, 3) := by decide +kernel
theorem dX11_harness_95 : decode cX11_harness 95 = .ok (.iload_n 3, 1) := by decide +kernel
theorem dX11_harness_96 : decode cX11_harness 96 = .ok (.iaload, 1) := by decide +kernel
theorem dX11_harness_97 : decode cX11_harness 97 = .ok (.goto 5, 3) := by decide +kernel
theorem dX11_harness_100 : decode cX11_harness 100 = .ok (.bipush (-3), 2) := by decide +kernel
theorem dX11_harness_102 : decode cX11_harness 102 = .ok (.ireturn, 1) := by decide +kernel
theorem dJ6_bitCount_0f7a4_0 : decode cJ6_bitCount_0f7a4 0 = .ok (.iload_n 0, 1) := by decide +kernel
theorem dJ6_bitCount_0f7a4_1 : decode cJ6_bitCount_0f7a4 1 = .ok (.iload_n 0, 1) := by decide +kernel
theorem dJ6_bitCount_0f7a4_2 : decode cJ6_bitCount_0f7a4 2 = .ok (.iconst 1, 1) := by decide +kernel
theorem dJ6_bitCount_0f7a4_3 : decode cJ6_bitCount_0f7a4 3 = .ok (.iushr, 1) := by decide +kernel
theorem dJ6_bitCount_0f7a4_4 : decode cJ6_bitCount_0f7a4 4 = .ok (.ldc_w 265, 3) := by decide +kernel
theorem dJ6_bitCount_0f7a4_7 : decode cJ6_bitCount_0f7a4 7 = .ok (.iand, 1) := by decide +kernel
theorem dJ6_bitCount_0f7a4_8 : decode cJ6_bitCount_0f7a4 8 = .ok (.isub, 1) := by decide +kernel
theorem dJ6_bitCount_0f7a4_9 : decode cJ6_bitCount_0f7a4 9 = .ok (.istore_n 0, 1) := by decide +kernel
theorem dJ6_bitCount_0f7a4_10 : decode cJ6_bitCount_0f7a4 10 = .ok (.iload_n 0, 1) := by decide +kernel
theorem dJ6_bitCount_0f7a4_11 : decode cJ6_bitCount_0f7a4 11 = .ok (.ldc_w 266, 3) := by decide +kernel
theorem dJ6_bitCount_0f7a4_14 : decode cJ6_bitCount_0f7a4 14 = .ok (.iand, 1) := by decide +kernel
theorem dJ6_bitCount_0f7a4_15 : decode cJ6_bitCount_0f7a4 15 = .ok (.iload_n 0, 1) := by decide +kernel
theorem dJ6_bitCount_0f7a4_16 : decode cJ6_bitCount_0f7a4 16 = .ok (.iconst 2, 1) := by decide +kernel
theorem dJ6_bitCount_0f7a4_17 : decode cJ6_bitCount_0f7a4 17 = .ok (.iushr, 1) := by decide +kernel
theorem dJ6_bitCount_0f7a4_18 : decode cJ6_bitCount_0f7a4 18 = .ok (.ldc_w 266, 3) := by decide +kernel
theorem dJ6_bitCount_0f7a4_21 : decode cJ6_bitCount_0f7a4 21 = .ok (.iand, 1) := by decide +kernel
theorem dJ6_bitCount_0f7a4_22 : decode cJ6_bitCount_0f7a4 22 = .ok (.iadd, 1) := by decide +kernel
theorem dJ6_bitCount_0f7a4_23 : decode cJ6_bitCount_0f7a4 23 = .ok (.istore_n 0, 1) := by decide +kernel
theorem dJ6_bitCount_0f7a4_24 : decode cJ6_bitCount_0f7a4 24 = .ok (.iload_n 0, 1) := by decide +kernel
theorem dJ6_bitCount_0f7a4_25 : decode cJ6_bitCount_0f7a4 25 = .ok (.iload_n 0, 1) := by decide +kernel
theorem dJ6_bitCount_0f7a4_26 : decode cJ6_bitCount_0f7a4 26 = .ok (.iconst 4, 1) := by decide +kernel
theorem dJ6_bitCount_0f7a4_27 : decode cJ6_bitCount_0f7a4 27 = .ok (.iushr, 1) := by decide +kernel
theorem dJ6_bitCount_0f7a4_28 : decode cJ6_bitCount_0f7a4 28 = .ok (.iadd, 1) := by decide +kernel
theorem dJ6_bitCount_0f7a4_29 : decode cJ6_bitCount_0f7a4 29 = .ok (.ldc_w 267, 3) := by decide +kernel
theorem dJ6_bitCount_0f7a4_32 : decode cJ6_bitCount_0f7a4 32 = .ok (.iand, 1) := by decide +kernel
theorem dJ6_bitCount_0f7a4_33 : decode cJ6_bitCount_0f7a4 33 = .ok (.istore_n 0, 1) := by decide +kernel
theorem dJ6_bitCount_0f7a4_34 : decode cJ6_bitCount_0f7a4 34 = .ok (.iload_n 0, 1) := by decide +kernel
theorem dJ6_bitCount_0f7a4_35 : decode cJ6_bitCount_0f7a4 35 = .ok (.iload_n 0, 1) := by decide +kernel
theorem dJ6_bitCount_0f7a4_36 : decode cJ6_bitCount_0f7a4 36 = .ok (.bipush 8, 2) := by decide +kernel
theorem dJ6_bitCount_0f7a4_38 : decode cJ6_bitCount_0f7a4 38 = .ok (.iushr, 1) := by decide +kernel
theorem dJ6_bitCount_0f7a4_39 : decode cJ6_bitCount_0f7a4 39 = .ok (.iadd, 1) := by decide +kernel
theorem dJ6_bitCount_0f7a4_40 : decode cJ6_bitCount_0f7a4 40 = .ok (.istore_n 0, 1) := by decide +kernel
theorem dJ6_bitCount_0f7a4_41 : decode cJ6_bitCount_0f7a4 41 = .ok (.iload_n 0, 1) := by decide +kernel
theorem dJ6_bitCount_0f7a4_42 : decode cJ6_bitCount_0f7a4 42 = .ok (.iload_n 0, 1) := by decide +kernel
theorem dJ6_bitCount_0f7a4_43 : decode cJ6_bitCount_0f7a4 43 = .ok (.bipush 16, 2) := by decide +kernel
theorem dJ6_bitCount_0f7a4_45 : decode cJ6_bitCount_0f7a4 45 = .ok (.iushr, 1) := by decide +kernel
theorem dJ6_bitCount_0f7a4_46 : decode cJ6_bitCount_0f7a4 46 = .ok (.iadd, 1) := by decide +kernel
theorem dJ6_bitCount_0f7a4_47 : decode cJ6_bitCount_0f7a4 47 = .ok (.istore_n 0, 1) := by decide +kernel
theorem dJ6_bitCount_0f7a4_48 : decode cJ6_bitCount_0f7a4 48 = .ok (.iload_n 0, 1) := by decide +kernel
theorem dJ6_bitCount_0f7a4_49 : decode cJ6_bitCount_0f7a4 49 = .ok (.bipush 63, 2) := by decide +kernel
theorem dJ6_bitCount_0f7a4_51 : decode cJ6_bitCount_0f7a4 51 = .ok (.iand, 1) := by decide +kernel
theorem dJ6_bitCount_0f7a4_52 : decode cJ6_bitCount_0f7a4 52 = .ok (.ireturn, 1) := by decide +kernel
theorem dX11_thief_0 : decode cX11_thief 0 = .ok (.iload_n 1, 1) := by decide +kernel
theorem dX11_thief_1 : decode cX11_thief 1 = .ok (.invokestatic 54, 3) := by decide +kernel
theorem dX11_thief_4 : decode cX11_thief 4 = .ok (.ifCond .eq 15, 3) := by decide +kernel
theorem dX11_thief_7 : decode cX11_thief 7 = .ok (.iload_n 2, 1) := by decide +kernel
theorem dX11_thief_8 : decode cX11_thief 8 = .ok (.invokestatic 54, 3) := by decide +kernel
theorem dX11_thief_11 : decode cX11_thief 11 = .ok (.ifCond .eq 8, 3) := by decide +kernel
theorem dX11_thief_14 : decode cX11_thief 14 = .ok (.iload_n 3, 1) := by decide +kernel
theorem dX11_thief_15 : decode cX11_thief 15 = .ok (.iconst (-1), 1) := by decide +kernel
theorem dX11_thief_16 : decode cX11_thief 16 = .ok (.if_icmp .ge 5, 3) := by decide +kernel
theorem dX11_thief_19 : decode cX11_thief 19 = .ok (.iconst (-1), 1) := by decide +kernel
theorem dX11_thief_20 : decode cX11_thief 20 = .ok (.ireturn, 1) := by decide +kernel
theorem dX11_thief_21 : decode cX11_thief 21 = .ok (.iconst 0, 1) := by decide +kernel
theorem dX11_thief_22 : decode cX11_thief 22 = .ok (.istore 4, 2) := by decide +kernel
theorem dX11_thief_24 : decode cX11_thief 24 = .ok (.iconst 0, 1) := by decide +kernel
theorem dX11_thief_25 : decode cX11_thief 25 = .ok (.istore 5, 2) := by decide +kernel
theorem dX11_thief_27 : decode cX11_thief 27 = .ok (.iload 5, 2) := by decide +kernel
theorem dX11_thief_29 : decode cX11_thief 29 = .ok (.iconst 1, 1) := by decide +kernel
theorem dX11_thief_30 : decode cX11_thief 30 = .ok (.aload_n 0, 1) := by decide +kernel
theorem dX11_thief_31 : decode cX11_thief 31 = .ok (.getfield 27, 3) := by decide +kernel
theorem dX11_thief_34 : decode cX11_thief 34 = .ok (.getfield 106, 3) := by decide +kernel
theorem dX11_thief_37 : decode cX11_thief 37 = .ok (.getfield 110, 3) := by decide +kernel
theorem dX11_thief_40 : decode cX11_thief 40 = .ok (.ishl, 1) := by decide +kernel
theorem dX11_thief_41 : decode cX11_thief 41 = .ok (.if_icmp .ge 41, 3) := by decide +kernel
theorem dX11_thief_44 : decode cX11_thief 44 = .ok (.iload 5, 2) := by decide +kernel
theorem dX11_thief_46 : decode cX11_thief 46 = .ok (.invokestatic 238, 3) := by decide +kernel
theorem dX11_thief_49 : decode cX11_thief 49 = .ok (.iconst 3, 1) := by decide +kernel
theorem dX11_thief_50 : decode cX11_thief 50 = .ok (.if_icmp .ne 26, 3) := by decide +kernel
theorem dX11_thief_53 : decode cX11_thief 53 = .ok (.aload_n 0, 1) := by decide +kernel
theorem dX11_thief_54 : decode cX11_thief 54 = .ok (.iload_n 1, 1) := by decide +kernel
theorem dX11_thief_55 : decode cX11_thief 55 = .ok (.iload_n 2, 1) := by decide +kernel
theorem dX11_thief_56 : decode cX11_thief 56 = .ok (.iload 5, 2) := by decide +kernel
theorem dX11_thief_58 : decode cX11_thief 58 = .ok (.invokevirtual 244, 3) := by decide +kernel
theorem dX11_thief_61 : decode cX11_thief 61 = .ok (.ifCond .eq 15, 3) := by decide +kernel
theorem dX11_thief_64 : decode cX11_thief 64 = .ok (.iload 4, 2) := by decide +kernel
theorem dX11_thief_66 : decode cX11_thief 66 = .ok (.iload_n 3, 1) := by decide +kernel
theorem dX11_thief_67 : decode cX11_thief 67 = .ok (.if_icmp .ne 6, 3) := by decide +kernel
theorem dX11_thief_70 : decode cX11_thief 70 = .ok (.iload 5, 2) := by decide +kernel
theorem dX11_thief_72 : decode cX11_thief 72 = .ok (.ireturn, 1) := by decide +kernel
theorem dX11_thief_73 : decode cX11_thief 73 = .ok (.iinc 4 1, 3) := by decide +kernel
theorem dX11_thief_76 : decode cX11_thief 76 = .ok (.iinc 5 1, 3) := by decide +kernel
theorem dX11_thief_79 : decode cX11_thief 79 = .ok (.goto (-52), 3) := by decide +kernel
theorem dX11_thief_82 : decode cX11_thief 82 = .ok (.iload_n 3, 1) := by decide +kernel
theorem dX11_thief_83 : decode cX11_thief 83 = .ok (.iconst (-1), 1) := by decide +kernel
theorem dX11_thief_84 : decode cX11_thief 84 = .ok (.if_icmp .ne 8, 3) := by decide +kernel
theorem dX11_thief_87 : decode cX11_thief 87 = .ok (.iload 4, 2) := by decide +kernel
theorem dX11_thief_89 : decode cX11_thief 89 = .ok (.goto 4, 3) := by decide +kernel
theorem dX11_thief_92 : decode cX11_thief 92 = .ok (.iconst (-1), 1) := by decide +kernel
theorem dX11_thief_93 : decode cX11_thief 93 = .ok (.ireturn, 1) := by decide +kernel
theorem dX11_about_0 : decode cX11_about 0 = .ok (.iload_n 1, 1) := by decide +kernel
theorem dX11_about_1 : decode cX11_about 1 = .ok (.bipush 20, 2) := by decide +kernel
theorem dX11_about_3 : decode cX11_about 3 = .ok (.bipush 20, 2) := by decide +kernel
theorem dX11_about_5 : decode cX11_about 5 = .ok (.aload_n 0, 1) := by decide +kernel
theorem dX11_about_6 : decode cX11_about 6 = .ok (.getfield 27, 3) := by decide +kernel
theorem dX11_about_9 : decode cX11_about 9 = .ok (.getfield 84, 3) := by decide +kernel
theorem dX11_about_12 : decode cX11_about 12 = .ok (.getfield 88, 3) := by decide +kernel
theorem dX11_about_15 : decode cX11_about 15 = .ok (.iadd, 1) := by decide +kernel
theorem dX11_about_16 : decode cX11_about 16 = .ok (.iconst 1, 1) := by decide +kernel
theorem dX11_about_17 : decode cX11_about 17 = .ok (.isub, 1) := by decide +kernel
theorem dX11_about_18 : decode cX11_about 18 = .ok (.invokestatic 58, 3) := by decide +kernel
theorem dX11_about_21 : decode cX11_about 21 = .ok (.ifCond .eq 19, 3) := by decide +kernel
theorem dX11_about_24 : decode cX11_about 24 = .ok (.aload_n 0, 1) := by decide +kernel
theorem dX11_about_25 : decode cX11_about 25 = .ok (.getfield 27, 3) := by decide +kernel
theorem dX11_about_28 : decode cX11_about 28 = .ok (.getfield 84, 3) := by decide +kernel
theorem dX11_about_31 : decode cX11_about 31 = .ok (.getfield 93, 3) := by decide +kernel
theorem dX11_about_34 : decode cX11_about 34 = .ok (.iload_n 1, 1) := by decide +kernel
theorem dX11_about_35 : decode cX11_about 35 = .ok (.bipush 20, 2) := by decide +kernel
theorem dX11_about_37 : decode cX11_about 37 = .ok (.isub, 1) := by decide +kernel
theorem dX11_about_38 : decode cX11_about 38 = .ok (.iaload, 1) := by decide +kernel
theorem dX11_about_39 : decode cX11_about 39 = .ok (.ireturn, 1) := by decide +kernel
theorem dX11_about_40 : decode cX11_about 40 = .ok (.iload_n 1, 1) := by decide +kernel
theorem dX11_about_41 : decode cX11_about 41 = .ok (.bipush 100, 2) := by decide +kernel
theorem dX11_about_43 : decode cX11_about 43 = .ok (.sipush 399, 3) := by decide +kernel
theorem dX11_about_46 : decode cX11_about 46 = .ok (.invokestatic 58, 3) := by decide +kernel
theorem dX11_about_49 : decode cX11_about 49 = .ok (.ifCond .eq 19, 3) := by decide +kernel
theorem dX11_about_52 : decode cX11_about 52 = .ok (.aload_n 0, 1) := by decide +kernel
theorem dX11_about_53 : decode cX11_about 53 = .ok (.getfield 27, 3) := by decide +kernel
theorem dX11_about_56 : decode cX11_about 56 = .ok (.getfield 62, 3) := by decide +kernel
theorem dX11_about_59 : decode cX11_about 59 = .ok (.getfield 66, 3) := by decide +kernel
theorem dX11_about_62 : decode cX11_about 62 = .ok (.iload_n 1, 1) := by decide +kernel
theorem dX11_about_63 : decode cX11_about 63 = .ok (.bipush 100, 2) := by decide +kernel
theorem dX11_about_65 : decode cX11_about 65 = .ok (.isub, 1) := by decide +kernel
theorem dX11_about_66 : decode cX11_about 66 = .ok (.iaload, 1) := by decide +kernel
theorem dX11_about_67 : decode cX11_about 67 = .ok (.ireturn, 1) := by decide +kernel
theorem dX11_about_68 : decode cX11_about 68 = .ok (.iload_n 1, 1) := by decide +kernel
theorem dX11_about_69 : decode cX11_about 69 = .ok (.tableswitch 180 0 11 #[63, 74, 85, 96, 107, 115, 126, 134, 142, 153, 161, 169], 63) := by decide +kernel
theorem dX11_about_132 : decode cX11_about 132 = .ok (.aload_n 0, 1) := by decide +kernel
theorem dX11_about_133 : decode cX11_about 133 = .ok (.getfield 27, 3) := by decide +kernel
theorem dX11_about_136 : decode cX11_about 136 = .ok (.getfield 106, 3) := by decide +kernel
theorem dX11_about_139 : decode cX11_about 139 = .ok (.getfield 110, 3) := by decide +kernel
theorem dX11_about_142 : decode cX11_about 142 = .ok (.ireturn, 1) := by decide +kernel
theorem dX11_about_143 : decode cX11_about 143 = .ok (.aload_n 0, 1) := by decide +kernel
theorem dX11_about_144 : decode cX11_about 144 = .ok (.getfield 27, 3) := by decide +kernel
theorem dX11_about_147 : decode cX11_about 147 = .ok (.getfield 62, 3) := by decide +kernel
theorem dX11_about_150 : decode cX11_about 150 = .ok (.getfield 74, 3) := by decide +kernel
theorem dX11_about_153 : decode cX11_about 153 = .ok (.ireturn, 1) := by decide +kernel
theorem dX11_about_154 : decode cX11_about 154 = .ok (.aload_n 0, 1) := by decide +kernel
theorem dX11_about_155 : decode cX11_about 155 = .ok (.getfield 27, 3) := by decide +kernel
theorem dX11_about_158 : decode cX11_about 158 = .ok (.getfield 84, 3) := by decide +kernel
theorem dX11_about_161 : decode cX11_about 161 = .ok (.getfield 88, 3) := by decide +kernel
theorem dX11_about_164 : decode cX11_about 164 = .ok (.ireturn, 1) := by decide +kernel
theorem dX11_about_165 : decode cX11_about 165 = .ok (.aload_n 0, 1) := by decide +kernel
theorem dX11_about_166 : decode cX11_about 166 = .ok (.getfield 27, 3) := by decide +kernel
theorem dX11_about_169 : decode cX11_about 169 = .ok (.getfield 84, 3) := by decide +kernel
theorem dX11_about_172 : decode cX11_about 172 = .ok (.getfield 197, 3) := by decide +kernel
theorem dX11_about_175 : decode cX11_about 175 = .ok (.ireturn, 1) := by decide +kernel
theorem dX11_about_176 : decode cX11_about 176 = .ok (.aload_n 0, 1) := by decide +kernel
theorem dX11_about_177 : decode cX11_about 177 = .ok (.getfield 27, 3) := by decide +kernel
theorem dX11_about_180 : decode cX11_about 180 = .ok (.getfield 121, 3) := by decide +kernel
theorem dX11_about_183 : decode cX11_about 183 = .ok (.ireturn, 1) := by decide +kernel
theorem dX11_about_184 : decode cX11_about 184 = .ok (.aload_n 0, 1) := by decide +kernel
theorem dX11_about_185 : decode cX11_about 185 = .ok (.getfield 27, 3) := by decide +kernel
theorem dX11_about_188 : decode cX11_about 188 = .ok (.getfield 84, 3) := by decide +kernel
theorem dX11_about_191 : decode cX11_about 191 = .ok (.getfield 124, 3) := by decide +kernel
theorem dX11_about_194 : decode cX11_about 194 = .ok (.ireturn, 1) := by decide +kernel
theorem dX11_about_195 : decode cX11_about 195 = .ok (.aload_n 0, 1) := by decide +kernel
theorem dX11_about_196 : decode cX11_about 196 = .ok (.getfield 27, 3) := by decide +kernel
theorem dX11_about_199 : decode cX11_about 199 = .ok (.getfield 140, 3) := by decide +kernel
theorem dX11_about_202 : decode cX11_about 202 = .ok (.ireturn, 1) := by decide +kernel
theorem dX11_about_203 : decode cX11_about 203 = .ok (.aload_n 0, 1) := by decide +kernel
theorem dX11_about_204 : decode cX11_about 204 = .ok (.getfield 27, 3) := by decide +kernel
theorem dX11_about_207 : decode cX11_about 207 = .ok (.getfield 156, 3) := by decide +kernel
theorem dX11_about_210 : decode cX11_about 210 = .ok (.ireturn, 1) := by decide +kernel
theorem dX11_about_211 : decode cX11_about 211 = .ok (.aload_n 0, 1) := by decide +kernel
theorem dX11_about_212 : decode cX11_about 212 = .ok (.getfield 27, 3) := by decide +kernel
theorem dX11_about_215 : decode cX11_about 215 = .ok (.getfield 96, 3) := by decide +kernel
theorem dX11_about_218 : decode cX11_about 218 = .ok (.getfield 168, 3) := by decide +kernel
theorem dX11_about_221 : decode cX11_about 221 = .ok (.ireturn, 1) := by decide +kernel
theorem dX11_about_222 : decode cX11_about 222 = .ok (.aload_n 0, 1) := by decide +kernel
theorem dX11_about_223 : decode cX11_about 223 = .ok (.getfield 27, 3) := by decide +kernel
theorem dX11_about_226 : decode cX11_about 226 = .ok (.getfield 247, 3) := by decide +kernel
theorem dX11_about_229 : decode cX11_about 229 = .ok (.ireturn, 1) := by decide +kernel
theorem dX11_about_230 : decode cX11_about 230 = .ok (.aload_n 0, 1) := by decide +kernel
theorem dX11_about_231 : decode cX11_about 231 = .ok (.getfield 27, 3) := by decide +kernel
theorem dX11_about_234 : decode cX11_about 234 = .ok (.getfield 257, 3) := by decide +kernel
theorem dX11_about_237 : decode cX11_about 237 = .ok (.ireturn, 1) := by decide +kernel
theorem dX11_about_238 : decode cX11_about 238 = .ok (.aload_n 0, 1) := by decide +kernel
theorem dX11_about_239 : decode cX11_about 239 = .ok (.getfield 39, 3) := by decide +kernel
theorem dX11_about_242 : decode cX11_about 242 = .ok (.getfield 127, 3) := by decide +kernel
theorem dX11_about_245 : decode cX11_about 245 = .ok (.getfield 131, 3) := by decide +kernel
theorem dX11_about_248 : decode cX11_about 248 = .ok (.ireturn, 1) := by decide +kernel
theorem dX11_about_249 : decode cX11_about 249 = .ok (.bipush (-2), 2) := by decide +kernel
theorem dX11_about_251 : decode cX11_about 251 = .ok (.ireturn, 1) := by decide +kernel
theorem bw_3 : Cond.selects "CountingHorses$Tape" ⟨"CountingHorses$Tape", "put", "(III)V"⟩ ⟨"CountingHorses$Tape", "put", "(III)V"⟩ ∈ BW := bw_at 3 (by decide +kernel) (by decide +kernel)
theorem bw_29 : Cond.selects "CountingHorses$Team" ⟨"CountingHorses$Team", "seek", "(LCountingHorses$Stops;IIII)V"⟩ ⟨"CountingHorses$Team", "seek", "(LCountingHorses$Stops;IIII)V"⟩ ∈ BW := bw_at 29 (by decide +kernel) (by decide +kernel)
theorem bw_88 : Cond.initialized "CountingHorses$Text" ∈ BW := bw_at 88 (by decide +kernel) (by decide +kernel)
theorem bw_89 : Cond.initialized "CountingHorses$Reader" ∈ BW := bw_at 89 (by decide +kernel) (by decide +kernel)
theorem bw_90 : Cond.initialized "CountingHorses$Tape" ∈ BW := bw_at 90 (by decide +kernel) (by decide +kernel)
theorem bw_91 : Cond.initialized "CountingHorses$Team" ∈ BW := bw_at 91 (by decide +kernel) (by decide +kernel)
theorem bw_93 : Cond.initialized "java/lang/System" ∈ BW := bw_at 93 (by decide +kernel) (by decide +kernel)
theorem bw_94 : Cond.initialized "java/util/Arrays" ∈ BW := bw_at 94 (by decide +kernel) (by decide +kernel)
theorem bw_101 : Cond.initialized "java/lang/Integer" ∈ BW := bw_at 101 (by decide +kernel) (by decide +kernel)
theorem bw_166 : Cond.fieldLink "CountingHorses$Team" 43 "CountingHorses$Stable" "horses" "I" ∈ BW := bw_at 166 (by decide +kernel) (by decide +kernel)
theorem bw_193 : Cond.fieldLink "CountingHorses" 197 "CountingHorses$Mail" "day" "I" ∈ BW := bw_at 193 (by decide +kernel) (by decide +kernel)
theorem bw_235 : Cond.fieldLink "CountingHorses$Team" 37 "CountingHorses$World" "stable" "LCountingHorses$Stable;" ∈ BW := bw_at 235 (by decide +kernel) (by decide +kernel)
theorem bw_300 : Cond.fieldLink "CountingHorses$Text" 15 "CountingHorses$Text" "lawFrom" "[I" ∈ BW := bw_at 300 (by decide +kernel) (by decide +kernel)
theorem bw_303 : Cond.fieldLink "CountingHorses$Text" 18 "CountingHorses$Text" "lawTo" "[I" ∈ BW := bw_at 303 (by decide +kernel) (by decide +kernel)
theorem bw_310 : Cond.fieldLink "CountingHorses$Text" 27 "CountingHorses$Text" "length" "I" ∈ BW := bw_at 310 (by decide +kernel) (by decide +kernel)
theorem bw_312 : Cond.fieldLink "CountingHorses$Text" 31 "CountingHorses$Text" "clauses" "I" ∈ BW := bw_at 312 (by decide +kernel) (by decide +kernel)
theorem bw_332 : Cond.fieldLink "CountingHorses$Team" 31 "CountingHorses$Driver" "world" "LCountingHorses$World;" ∈ BW := bw_at 332 (by decide +kernel) (by decide +kernel)
theorem bw_334 : Cond.fieldLink "CountingHorses" 143 "CountingHorses$Driver" "texts" "[LCountingHorses$Text;" ∈ BW := bw_at 334 (by decide +kernel) (by decide +kernel)
theorem bw_361 : Cond.fieldLink "CountingHorses$Team" 25 "CountingHorses$Stops" "driver" "LCountingHorses$Driver;" ∈ BW := bw_at 361 (by decide +kernel) (by decide +kernel)
theorem bw_395 : Cond.fieldLink "CountingHorses$Tape" 9 "CountingHorses$Tape" "bytes" "[I" ∈ BW := bw_at 395 (by decide +kernel) (by decide +kernel)
theorem bw_396 : Cond.fieldLink "CountingHorses$Tape" 15 "CountingHorses$Tape" "kind" "[I" ∈ BW := bw_at 396 (by decide +kernel) (by decide +kernel)
theorem bw_397 : Cond.fieldLink "CountingHorses$Reader" 47 "CountingHorses$Tape" "kind" "[I" ∈ BW := bw_at 397 (by decide +kernel) (by decide +kernel)
theorem bw_398 : Cond.fieldLink "CountingHorses$Tape" 18 "CountingHorses$Tape" "at" "[I" ∈ BW := bw_at 398 (by decide +kernel) (by decide +kernel)
theorem bw_400 : Cond.fieldLink "CountingHorses$Tape" 21 "CountingHorses$Tape" "number" "[I" ∈ BW := bw_at 400 (by decide +kernel) (by decide +kernel)
theorem bw_401 : Cond.fieldLink "CountingHorses$Reader" 50 "CountingHorses$Tape" "number" "[I" ∈ BW := bw_at 401 (by decide +kernel) (by decide +kernel)
theorem bw_402 : Cond.fieldLink "CountingHorses$Tape" 24 "CountingHorses$Tape" "length" "I" ∈ BW := bw_at 402 (by decide +kernel) (by decide +kernel)
theorem bw_404 : Cond.fieldLink "CountingHorses$Tape" 28 "CountingHorses$Tape" "tokens" "I" ∈ BW := bw_at 404 (by decide +kernel) (by decide +kernel)
theorem bw_421 : Cond.fieldLink "CountingHorses$Reader" 12 "CountingHorses$Reader" "tape" "LCountingHorses$Tape;" ∈ BW := bw_at 421 (by decide +kernel) (by decide +kernel)
theorem bw_423 : Cond.fieldLink "CountingHorses$Reader" 18 "CountingHorses$Reader" "fault" "I" ∈ BW := bw_at 423 (by decide +kernel) (by decide +kernel)
theorem bw_425 : Cond.fieldLink "CountingHorses$Reader" 22 "CountingHorses$Reader" "faultAt" "I" ∈ BW := bw_at 425 (by decide +kernel) (by decide +kernel)
theorem bw_427 : Cond.fieldLink "CountingHorses$Reader" 25 "CountingHorses$Reader" "token" "I" ∈ BW := bw_at 427 (by decide +kernel) (by decide +kernel)
theorem bw_428 : Cond.fieldLink "CountingHorses$Reader" 28 "CountingHorses$Reader" "kind" "I" ∈ BW := bw_at 428 (by decide +kernel) (by decide +kernel)
theorem bw_429 : Cond.fieldLink "CountingHorses$Reader" 31 "CountingHorses$Reader" "number" "I" ∈ BW := bw_at 429 (by decide +kernel) (by decide +kernel)
theorem bw_430 : Cond.fieldLink "CountingHorses$Reader" 37 "CountingHorses$Reader" "text" "LCountingHorses$Text;" ∈ BW := bw_at 430 (by decide +kernel) (by decide +kernel)
theorem bw_452 : Cond.fieldLink "CountingHorses$Team" 9 "CountingHorses$Team" "best" "[I" ∈ BW := bw_at 452 (by decide +kernel) (by decide +kernel)
theorem bw_454 : Cond.fieldLink "CountingHorses$Team" 15 "CountingHorses$Team" "order" "[I" ∈ BW := bw_at 454 (by decide +kernel) (by decide +kernel)
theorem bw_455 : Cond.fieldLink "CountingHorses$Team" 18 "CountingHorses$Team" "size" "I" ∈ BW := bw_at 455 (by decide +kernel) (by decide +kernel)
theorem bw_456 : Cond.fieldLink "CountingHorses" 224 "CountingHorses$Team" "size" "I" ∈ BW := bw_at 456 (by decide +kernel) (by decide +kernel)
theorem bw_457 : Cond.fieldLink "CountingHorses$Team" 22 "CountingHorses$Team" "oats" "I" ∈ BW := bw_at 457 (by decide +kernel) (by decide +kernel)
theorem bw_458 : Cond.fieldLink "CountingHorses" 223 "CountingHorses$Team" "oats" "I" ∈ BW := bw_at 458 (by decide +kernel) (by decide +kernel)
theorem bw_469 : Cond.fieldLink "CountingHorses" 20 "CountingHorses" "driver" "LCountingHorses$Driver;" ∈ BW := bw_at 469 (by decide +kernel) (by decide +kernel)
theorem bw_473 : Cond.fieldLink "CountingHorses" 46 "CountingHorses" "team" "LCountingHorses$Team;" ∈ BW := bw_at 473 (by decide +kernel) (by decide +kernel)
theorem bw_525 : Cond.static ⟨"java/lang/System", "arraycopy", "(Ljava/lang/Object;ILjava/lang/Object;II)V"⟩ ∈ BW := bw_at 525 (by decide +kernel) (by decide +kernel)
theorem bw_526 : Cond.native ⟨"java/lang/System", "arraycopy", "(Ljava/lang/Object;ILjava/lang/Object;II)V"⟩ ∈ BW := bw_at 526 (by decide +kernel) (by decide +kernel)
theorem bw_539 : Cond.methodLink "CountingHorses" 136 ⟨"CountingHorses$Tape", "take", "(I)V"⟩ ∈ BW := bw_at 539 (by decide +kernel) (by decide +kernel)
theorem bw_540 : Cond.instanceMethod ⟨"CountingHorses$Tape", "take", "(I)V"⟩ ∈ BW := bw_at 540 (by decide +kernel) (by decide +kernel)
theorem bw_541 : Cond.selects "CountingHorses$Tape" ⟨"CountingHorses$Tape", "take", "(I)V"⟩ ⟨"CountingHorses$Tape", "take", "(I)V"⟩ ∈ BW := bw_at 541 (by decide +kernel) (by decide +kernel)
theorem bw_542 : Cond.code ⟨"CountingHorses$Tape", "take", "(I)V"⟩ prog_9_method_2_code 3 none ∈ BW := bw_at 542 (by decide +kernel) (by decide +kernel)
theorem bw_551 : Cond.methodLink "CountingHorses" 146 ⟨"CountingHorses$Reader", "read", "(LCountingHorses$Text;)V"⟩ ∈ BW := bw_at 551 (by decide +kernel) (by decide +kernel)
theorem bw_552 : Cond.instanceMethod ⟨"CountingHorses$Reader", "read", "(LCountingHorses$Text;)V"⟩ ∈ BW := bw_at 552 (by decide +kernel) (by decide +kernel)
theorem bw_553 : Cond.selects "CountingHorses$Reader" ⟨"CountingHorses$Reader", "read", "(LCountingHorses$Text;)V"⟩ ⟨"CountingHorses$Reader", "read", "(LCountingHorses$Text;)V"⟩ ∈ BW := bw_at 553 (by decide +kernel) (by decide +kernel)
theorem bw_554 : Cond.code ⟨"CountingHorses$Reader", "read", "(LCountingHorses$Text;)V"⟩ prog_4_method_2_code 4 none ∈ BW := bw_at 554 (by decide +kernel) (by decide +kernel)
theorem bw_555 : Cond.methodLink "CountingHorses$Reader" 41 ⟨"CountingHorses$Text", "clear", "()V"⟩ ∈ BW := bw_at 555 (by decide +kernel) (by decide +kernel)
theorem bw_556 : Cond.instanceMethod ⟨"CountingHorses$Text", "clear", "()V"⟩ ∈ BW := bw_at 556 (by decide +kernel) (by decide +kernel)
theorem bw_557 : Cond.selects "CountingHorses$Text" ⟨"CountingHorses$Text", "clear", "()V"⟩ ⟨"CountingHorses$Text", "clear", "()V"⟩ ∈ BW := bw_at 557 (by decide +kernel) (by decide +kernel)
theorem bw_558 : Cond.code ⟨"CountingHorses$Text", "clear", "()V"⟩ prog_11_method_2_code 1 none ∈ BW := bw_at 558 (by decide +kernel) (by decide +kernel)
theorem bw_559 : Cond.methodLink "CountingHorses$Text" 34 ⟨"java/util/Arrays", "fill", "([II)V"⟩ ∈ BW := bw_at 559 (by decide +kernel) (by decide +kernel)
theorem bw_560 : Cond.static ⟨"java/util/Arrays", "fill", "([II)V"⟩ ∈ BW := bw_at 560 (by decide +kernel) (by decide +kernel)
theorem bw_561 : Cond.code ⟨"java/util/Arrays", "fill", "([II)V"⟩ prog_22_method_103_code 4 none ∈ BW := bw_at 561 (by decide +kernel) (by decide +kernel)
theorem bw_562 : Cond.methodLink "CountingHorses$Reader" 44 ⟨"CountingHorses$Tape", "split", "()V"⟩ ∈ BW := bw_at 562 (by decide +kernel) (by decide +kernel)
theorem bw_563 : Cond.instanceMethod ⟨"CountingHorses$Tape", "split", "()V"⟩ ∈ BW := bw_at 563 (by decide +kernel) (by decide +kernel)
theorem bw_564 : Cond.selects "CountingHorses$Tape" ⟨"CountingHorses$Tape", "split", "()V"⟩ ⟨"CountingHorses$Tape", "split", "()V"⟩ ∈ BW := bw_at 564 (by decide +kernel) (by decide +kernel)
theorem bw_565 : Cond.code ⟨"CountingHorses$Tape", "split", "()V"⟩ prog_9_method_3_code 3 none ∈ BW := bw_at 565 (by decide +kernel) (by decide +kernel)
theorem bw_631 : Cond.methodLink "CountingHorses$Tape" 35 ⟨"CountingHorses$Tape", "put", "(III)V"⟩ ∈ BW := bw_at 631 (by decide +kernel) (by decide +kernel)
theorem bw_633 : Cond.instanceMethod ⟨"CountingHorses$Tape", "put", "(III)V"⟩ ∈ BW := bw_at 633 (by decide +kernel) (by decide +kernel)
theorem bw_634 : Cond.code ⟨"CountingHorses$Tape", "put", "(III)V"⟩ prog_9_method_4_code 4 none ∈ BW := bw_at 634 (by decide +kernel) (by decide +kernel)
theorem bw_908 : Cond.methodLink "CountingHorses" 219 ⟨"CountingHorses$Team", "find", "(LCountingHorses$Stops;II)V"⟩ ∈ BW := bw_at 908 (by decide +kernel) (by decide +kernel)
theorem bw_909 : Cond.instanceMethod ⟨"CountingHorses$Team", "find", "(LCountingHorses$Stops;II)V"⟩ ∈ BW := bw_at 909 (by decide +kernel) (by decide +kernel)
theorem bw_910 : Cond.selects "CountingHorses$Team" ⟨"CountingHorses$Team", "find", "(LCountingHorses$Stops;II)V"⟩ ⟨"CountingHorses$Team", "find", "(LCountingHorses$Stops;II)V"⟩ ∈ BW := bw_at 910 (by decide +kernel) (by decide +kernel)
theorem bw_911 : Cond.code ⟨"CountingHorses$Team", "find", "(LCountingHorses$Stops;II)V"⟩ prog_10_method_2_code 6 none ∈ BW := bw_at 911 (by decide +kernel) (by decide +kernel)
theorem bw_912 : Cond.methodLink "CountingHorses$Team" 48 ⟨"CountingHorses$Team", "seek", "(LCountingHorses$Stops;IIII)V"⟩ ∈ BW := bw_at 912 (by decide +kernel) (by decide +kernel)
theorem bw_914 : Cond.instanceMethod ⟨"CountingHorses$Team", "seek", "(LCountingHorses$Stops;IIII)V"⟩ ∈ BW := bw_at 914 (by decide +kernel) (by decide +kernel)
theorem bw_915 : Cond.code ⟨"CountingHorses$Team", "seek", "(LCountingHorses$Stops;IIII)V"⟩ prog_10_method_3_code 8 none ∈ BW := bw_at 915 (by decide +kernel) (by decide +kernel)
theorem bw_916 : Cond.methodLink "CountingHorses$Team" 52 ⟨"java/lang/System", "arraycopy", "(Ljava/lang/Object;ILjava/lang/Object;II)V"⟩ ∈ BW := bw_at 916 (by decide +kernel) (by decide +kernel)
theorem bw_936 : Cond.methodLink "CountingHorses" 238 ⟨"java/lang/Integer", "bitCount", "(I)I"⟩ ∈ BW := bw_at 936 (by decide +kernel) (by decide +kernel)
theorem bw_937 : Cond.static ⟨"java/lang/Integer", "bitCount", "(I)I"⟩ ∈ BW := bw_at 937 (by decide +kernel) (by decide +kernel)
theorem bw_938 : Cond.code ⟨"java/lang/Integer", "bitCount", "(I)I"⟩ prog_16_method_49_code 1 (some .int) ∈ BW := bw_at 938 (by decide +kernel) (by decide +kernel)
theorem bw_939 : Cond.constant "java/lang/Integer" 265 1431655765 ∈ BW := bw_at 939 (by decide +kernel) (by decide +kernel)
theorem bw_940 : Cond.constant "java/lang/Integer" 266 858993459 ∈ BW := bw_at 940 (by decide +kernel) (by decide +kernel)
theorem bw_941 : Cond.constant "java/lang/Integer" 267 252645135 ∈ BW := bw_at 941 (by decide +kernel) (by decide +kernel)
set_option maxHeartbeats 4000000 in
set_option maxRecDepth 100000 in
theorem c_X7_take_0 (l : Launch) (D : va_G) (cI cM cT : ClassId) (tP : Nat) (bY : Nat) (ki : Nat) (at_ : Nat) (nu : Nat) (f : Nat → Int32) (w : Int32) : Cv l D (ty3 cI cM cT) yX7_take cX7_take 3 0 0 0 [.ref tP, .int w] ([(tP, .inr (7, [.ref bY, .ref ki, .ref at_, .ref nu, .int 0, .int 0])), (bY, .inl (cI, 300, .inl f))]) (fun u => ∃ (g : Nat → Int32), u = [(tP, .inr (7, [.ref bY, .ref ki, .ref at_, .ref nu, .int 4, .int 0])), (bY, .inl (cI, 300, .inl g))]) := by
  refine Cv.of (by decide +kernel) (Nat.le_of_ble_eq_true rfl) ?_
  intro p e s m below meth c A ls Z hin hP hD hl
  have hx := Z.1
  have hb := Z.2.1
  have hS : va_S A s.heap s.heap [] := va_S.rf
  have hl : lv_has ls 3 [(0, .ref tP), (1, .int w)] := hl
  skip
  refine lv_bipush (v := 24) hx hb dX7_take_0 (by decide) ?_
  refine lv_istore_n (lv' := [(2, .int 24), (0, .ref tP), (1, .int w)]) hx hb dX7_take_2 rfl hl (by decide) rfl (fun ls hl => ?_)
  refine lv_iload_n hx hb dX7_take_3 rfl (lv_at hl 0 rfl) ?_
  refine lv_if_lt (tgt := 49) hx hb dX7_take_4 (by decide) (fun h => absurd h (by decide)) (fun c1 => ?_)
  refine lv_aload_n hx hb dX7_take_7 rfl (lv_at hl 1 rfl) ?_
  refine z_get Z i_X7 hP 0 rfl rfl 4 (by decide) bw_402 rfl dX7_take_8 ?_
  refine lv_sipush (v := 300) hx hb dX7_take_11 (by decide) ?_
  refine lv_icmp_ge (tgt := 49) hx hb dX7_take_14 (by decide) (fun h => absurd h (by decide)) (fun c2 => ?_)
  refine lv_aload_n hx hb dX7_take_17 rfl (lv_at hl 1 rfl) ?_
  refine z_get Z i_X7 hP 0 rfl rfl 0 (by decide) bw_395 rfl dX7_take_18 ?_
  refine lv_aload_n hx hb dX7_take_21 rfl (lv_at hl 1 rfl) ?_
  refine z_get Z i_X7 hP 0 rfl rfl 4 (by decide) bw_402 rfl dX7_take_22 ?_
  refine lv_iload_n hx hb dX7_take_25 rfl (lv_at hl 2 rfl) ?_
  refine lv_iload_n hx hb dX7_take_26 rfl (lv_at hl 0 rfl) ?_
  refine lv_iushr hx hb dX7_take_27 rfl ?_
  refine lv_topi (fun z3 ez3 => ?_)
  refine lv_sipush (v := 255) hx hb dX7_take_28 (by decide) ?_
  refine lv_iand hx hb dX7_take_31 ?_
  refine z_iast Z hP hD hS 1 0 rfl rfl (vin (by decide)) dX7_take_32 (fun H locs hP hD hS => ?_)
  have hP : va_P D vwCl ([(tP, .inr (7, [.ref bY, .ref ki, .ref at_, .ref nu, .int 0, .int 0])), (bY, .inl (cI, 300, .inl (upd f (0 : Int32).toNatClampNeg (z3 &&& 255))))]) H := hP
  have hD : va_D A ([(tP, .inr (7, [.ref bY, .ref ki, .ref at_, .ref nu, .int 0, .int 0])), (bY, .inl (cI, 300, .inl (upd f (0 : Int32).toNatClampNeg (z3 &&& 255))))]) := hD
  refine lv_aload_n hx hb dX7_take_33 rfl (lv_at hl 1 rfl) ?_
  refine lv_dup hx hb dX7_take_34 rfl ?_
  refine z_get Z i_X7 hP 0 rfl rfl 4 (by decide) bw_402 rfl dX7_take_35 ?_
  refine lv_iconst (v := 1) hx hb dX7_take_38 (by decide) ?_
  refine lv_iadd hx hb dX7_take_39 ?_
  refine z_topi (y := 1) (by decide) ?_
  refine z_put Z i_X7 tyX7 tyX7_ok nmX7 hP hD hS 0 rfl rfl 4 (by decide) bw_402 rfl rfl rfl (Nat.le_of_ble_eq_true rfl) dX7_take_40 (fun H locs hP hD hS => ?_)
  have hP : va_P D vwCl ([(tP, .inr (7, [.ref bY, .ref ki, .ref at_, .ref nu, .int 1, .int 0])), (bY, .inl (cI, 300, .inl (upd f (0 : Int32).toNatClampNeg (z3 &&& 255))))]) H := hP
  have hD : va_D A ([(tP, .inr (7, [.ref bY, .ref ki, .ref at_, .ref nu, .int 1, .int 0])), (bY, .inl (cI, 300, .inl (upd f (0 : Int32).toNatClampNeg (z3 &&& 255))))]) := hD
  refine lv_iinc (v := 16) (lv' := [(2, .int 16), (0, .ref tP), (1, .int w)]) hx hb dX7_take_43 hl (k := 0) rfl (by decide) (by decide) rfl (fun ls hl => ?_)
  refine lv_goto (tgt := 3) hx hb dX7_take_46 (by decide) ?_
  refine lv_iload_n hx hb dX7_take_3 rfl (lv_at hl 0 rfl) ?_
  refine lv_if_lt (tgt := 49) hx hb dX7_take_4 (by decide) (fun h => absurd h (by decide)) (fun c4 => ?_)
  refine lv_aload_n hx hb dX7_take_7 rfl (lv_at hl 1 rfl) ?_
  refine z_get Z i_X7 hP 0 rfl rfl 4 (by decide) bw_402 rfl dX7_take_8 ?_
  refine lv_sipush (v := 300) hx hb dX7_take_11 (by decide) ?_
  refine lv_icmp_ge (tgt := 49) hx hb dX7_take_14 (by decide) (fun h => absurd h (by decide)) (fun c5 => ?_)
  refine lv_aload_n hx hb dX7_take_17 rfl (lv_at hl 1 rfl) ?_
  refine z_get Z i_X7 hP 0 rfl rfl 0 (by decide) bw_395 rfl dX7_take_18 ?_
  refine lv_aload_n hx hb dX7_take_21 rfl (lv_at hl 1 rfl) ?_
  refine z_get Z i_X7 hP 0 rfl rfl 4 (by decide) bw_402 rfl dX7_take_22 ?_
  refine lv_iload_n hx hb dX7_take_25 rfl (lv_at hl 2 rfl) ?_
  refine lv_iload_n hx hb dX7_take_26 rfl (lv_at hl 0 rfl) ?_
  refine lv_iushr hx hb dX7_take_27 rfl ?_
  refine lv_topi (fun z6 ez6 => ?_)
  refine lv_sipush (v := 255) hx hb dX7_take_28 (by decide) ?_
  refine lv_iand hx hb dX7_take_31 ?_
  refine z_iast Z hP hD hS 1 0 rfl rfl (vin (by decide)) dX7_take_32 (fun H locs hP hD hS => ?_)
  have hP : va_P D vwCl ([(tP, .inr (7, [.ref bY, .ref ki, .ref at_, .ref nu, .int 1, .int 0])), (bY, .inl (cI, 300, .inl (upd (upd f (0 : Int32).toNatClampNeg (z3 &&& 255)) (1 : Int32).toNatClampNeg (z6 &&& 255))))]) H := hP
  have hD : va_D A ([(tP, .inr (7, [.ref bY, .ref ki, .ref at_, .ref nu, .int 1, .int 0])), (bY, .inl (cI, 300, .inl (upd (upd f (0 : Int32).toNatClampNeg (z3 &&& 255)) (1 : Int32).toNatClampNeg (z6 &&& 255))))]) := hD
  refine lv_aload_n hx hb dX7_take_33 rfl (lv_at hl 1 rfl) ?_
  refine lv_dup hx hb dX7_take_34 rfl ?_
  refine z_get Z i_X7 hP 0 rfl rfl 4 (by decide) bw_402 rfl dX7_take_35 ?_
  refine lv_iconst (v := 1) hx hb dX7_take_38 (by decide) ?_
  refine lv_iadd hx hb dX7_take_39 ?_
  refine z_topi (y := 2) (by decide) ?_
  refine z_put Z i_X7 tyX7 tyX7_ok nmX7 hP hD hS 0 rfl rfl 4 (by decide) bw_402 rfl rfl rfl (Nat.le_of_ble_eq_true rfl) dX7_take_40 (fun H locs hP hD hS => ?_)
  have hP : va_P D vwCl ([(tP, .inr (7, [.ref bY, .ref ki, .ref at_, .ref nu, .int 2, .int 0])), (bY, .inl (cI, 300, .inl (upd (upd f (0 : Int32).toNatClampNeg (z3 &&& 255)) (1 : Int32).toNatClampNeg (z6 &&& 255))))]) H := hP
  have hD : va_D A ([(tP, .inr (7, [.ref bY, .ref ki, .ref at_, .ref nu, .int 2, .int 0])), (bY, .inl (cI, 300, .inl (upd (upd f (0 : Int32).toNatClampNeg (z3 &&& 255)) (1 : Int32).toNatClampNeg (z6 &&& 255))))]) := hD
  refine lv_iinc (v := 8) (lv' := [(2, .int 8), (0, .ref tP), (1, .int w)]) hx hb dX7_take_43 hl (k := 0) rfl (by decide) (by decide) rfl (fun ls hl => ?_)
  refine lv_goto (tgt := 3) hx hb dX7_take_46 (by decide) ?_
  refine lv_iload_n hx hb dX7_take_3 rfl (lv_at hl 0 rfl) ?_
  refine lv_if_lt (tgt := 49) hx hb dX7_take_4 (by decide) (fun h => absurd h (by decide)) (fun c7 => ?_)
  refine lv_aload_n hx hb dX7_take_7 rfl (lv_at hl 1 rfl) ?_
  refine z_get Z i_X7 hP 0 rfl rfl 4 (by decide) bw_402 rfl dX7_take_8 ?_
  refine lv_sipush (v := 300) hx hb dX7_take_11 (by decide) ?_
  refine lv_icmp_ge (tgt := 49) hx hb dX7_take_14 (by decide) (fun h => absurd h (by decide)) (fun c8 => ?_)
  refine lv_aload_n hx hb dX7_take_17 rfl (lv_at hl 1 rfl) ?_
  refine z_get Z i_X7 hP 0 rfl rfl 0 (by decide) bw_395 rfl dX7_take_18 ?_
  refine lv_aload_n hx hb dX7_take_21 rfl (lv_at hl 1 rfl) ?_
  refine z_get Z i_X7 hP 0 rfl rfl 4 (by decide) bw_402 rfl dX7_take_22 ?_
  refine lv_iload_n hx hb dX7_take_25 rfl (lv_at hl 2 rfl) ?_
  refine lv_iload_n hx hb dX7_take_26 rfl (lv_at hl 0 rfl) ?_
  refine lv_iushr hx hb dX7_take_27 rfl ?_
  refine lv_topi (fun z9 ez9 => ?_)
  refine lv_sipush (v := 255) hx hb dX7_take_28 (by decide) ?_
  refine lv_iand hx hb dX7_take_31 ?_
  refine z_iast Z hP hD hS 1 0 rfl rfl (vin (by decide)) dX7_take_32 (fun H locs hP hD hS => ?_)
  have hP : va_P D vwCl ([(tP, .inr (7, [.ref bY, .ref ki, .ref at_, .ref nu, .int 2, .int 0])), (bY, .inl (cI, 300, .inl (upd (upd (upd f (0 : Int32).toNatClampNeg (z3 &&& 255)) (1 : Int32).toNatClampNeg (z6 &&& 255)) (2 : Int32).toNatClampNeg (z9 &&& 255))))]) H := hP
  have hD : va_D A ([(tP, .inr (7, [.ref bY, .ref ki, .ref at_, .ref nu, .int 2, .int 0])), (bY, .inl (cI, 300, .inl (upd (upd (upd f (0 : Int32).toNatClampNeg (z3 &&& 255)) (1 : Int32).toNatClampNeg (z6 &&& 255)) (2 : Int32).toNatClampNeg (z9 &&& 255))))]) := hD
  refine lv_aload_n hx hb dX7_take_33 rfl (lv_at hl 1 rfl) ?_
  refine lv_dup hx hb dX7_take_34 rfl ?_
  refine z_get Z i_X7 hP 0 rfl rfl 4 (by decide) bw_402 rfl dX7_take_35 ?_
  refine lv_iconst (v := 1) hx hb dX7_take_38 (by decide) ?_
  refine lv_iadd hx hb dX7_take_39 ?_
  refine z_topi (y := 3) (by decide) ?_
  refine z_put Z i_X7 tyX7 tyX7_ok nmX7 hP hD hS 0 rfl rfl 4 (by decide) bw_402 rfl rfl rfl (Nat.le_of_ble_eq_true rfl) dX7_take_40 (fun H locs hP hD hS => ?_)
  have hP : va_P D vwCl ([(tP, .inr (7, [.ref bY, .ref ki, .ref at_, .ref nu, .int 3, .int 0])), (bY, .inl (cI, 300, .inl (upd (upd (upd f (0 : Int32).toNatClampNeg (z3 &&& 255)) (1 : Int32).toNatClampNeg (z6 &&& 255)) (2 : Int32).toNatClampNeg (z9 &&& 255))))]) H := hP
  have hD : va_D A ([(tP, .inr (7, [.ref bY, .ref ki, .ref at_, .ref nu, .int 3, .int 0])), (bY, .inl (cI, 300, .inl (upd (upd (upd f (0 : Int32).toNatClampNeg (z3 &&& 255)) (1 : Int32).toNatClampNeg (z6 &&& 255)) (2 : Int32).toNatClampNeg (z9 &&& 255))))]) := hD
  refine lv_iinc (v := 0) (lv' := [(2, .int 0), (0, .ref tP), (1, .int w)]) hx hb dX7_take_43 hl (k := 0) rfl (by decide) (by decide) rfl (fun ls hl => ?_)
  refine lv_goto (tgt := 3) hx hb dX7_take_46 (by decide) ?_
  refine lv_iload_n hx hb dX7_take_3 rfl (lv_at hl 0 rfl) ?_
  refine lv_if_lt (tgt := 49) hx hb dX7_take_4 (by decide) (fun h => absurd h (by decide)) (fun c10 => ?_)
  refine lv_aload_n hx hb dX7_take_7 rfl (lv_at hl 1 rfl) ?_
  refine z_get Z i_X7 hP 0 rfl rfl 4 (by decide) bw_402 rfl dX7_take_8 ?_
  refine lv_sipush (v := 300) hx hb dX7_take_11 (by decide) ?_
  refine lv_icmp_ge (tgt := 49) hx hb dX7_take_14 (by decide) (fun h => absurd h (by decide)) (fun c11 => ?_)
  refine lv_aload_n hx hb dX7_take_17 rfl (lv_at hl 1 rfl) ?_
  refine z_get Z i_X7 hP 0 rfl rfl 0 (by decide) bw_395 rfl dX7_take_18 ?_
  refine lv_aload_n hx hb dX7_take_21 rfl (lv_at hl 1 rfl) ?_
  refine z_get Z i_X7 hP 0 rfl rfl 4 (by decide) bw_402 rfl dX7_take_22 ?_
  refine lv_iload_n hx hb dX7_take_25 rfl (lv_at hl 2 rfl) ?_
  refine lv_iload_n hx hb dX7_take_26 rfl (lv_at hl 0 rfl) ?_
  refine lv_iushr hx hb dX7_take_27 rfl ?_
  refine lv_topi (fun z12 ez12 => ?_)
  refine lv_sipush (v := 255) hx hb dX7_take_28 (by decide) ?_
  refine lv_iand hx hb dX7_take_31 ?_
  refine z_iast Z hP hD hS 1 0 rfl rfl (vin (by decide)) dX7_take_32 (fun H locs hP hD hS => ?_)
  have hP : va_P D vwCl ([(tP, .inr (7, [.ref bY, .ref ki, .ref at_, .ref nu, .int 3, .int 0])), (bY, .inl (cI, 300, .inl (upd (upd (upd (upd f (0 : Int32).toNatClampNeg (z3 &&& 255)) (1 : Int32).toNatClampNeg (z6 &&& 255)) (2 : Int32).toNatClampNeg (z9 &&& 255)) (3 : Int32).toNatClampNeg (z12 &&& 255))))]) H := hP
  have hD : va_D A ([(tP, .inr (7, [.ref bY, .ref ki, .ref at_, .ref nu, .int 3, .int 0])), (bY, .inl (cI, 300, .inl (upd (upd (upd (upd f (0 : Int32).toNatClampNeg (z3 &&& 255)) (1 : Int32).toNatClampNeg (z6 &&& 255)) (2 : Int32).toNatClampNeg (z9 &&& 255)) (3 : Int32).toNatClampNeg (z12 &&& 255))))]) := hD
  refine lv_aload_n hx hb dX7_take_33 rfl (lv_at hl 1 rfl) ?_
  refine lv_dup hx hb dX7_take_34 rfl ?_
  refine z_get Z i_X7 hP 0 rfl rfl 4 (by decide) bw_402 rfl dX7_take_35 ?_
  refine lv_iconst (v := 1) hx hb dX7_take_38 (by decide) ?_
  refine lv_iadd hx hb dX7_take_39 ?_
  refine z_topi (y := 4) (by decide) ?_
  refine z_put Z i_X7 tyX7 tyX7_ok nmX7 hP hD hS 0 rfl rfl 4 (by decide) bw_402 rfl rfl rfl (Nat.le_of_ble_eq_true rfl) dX7_take_40 (fun H locs hP hD hS => ?_)
  have hP : va_P D vwCl ([(tP, .inr (7, [.ref bY, .ref ki, .ref at_, .ref nu, .int 4, .int 0])), (bY, .inl (cI, 300, .inl (upd (upd (upd (upd f (0 : Int32).toNatClampNeg (z3 &&& 255)) (1 : Int32).toNatClampNeg (z6 &&& 255)) (2 : Int32).toNatClampNeg (z9 &&& 255)) (3 : Int32).toNatClampNeg (z12 &&& 255))))]) H := hP
  have hD : va_D A ([(tP, .inr (7, [.ref bY, .ref ki, .ref at_, .ref nu, .int 4, .int 0])), (bY, .inl (cI, 300, .inl (upd (upd (upd (upd f (0 : Int32).toNatClampNeg (z3 &&& 255)) (1 : Int32).toNatClampNeg (z6 &&& 255)) (2 : Int32).toNatClampNeg (z9 &&& 255)) (3 : Int32).toNatClampNeg (z12 &&& 255))))]) := hD
  refine lv_iinc (v := (-8)) (lv' := [(2, .int (-8)), (0, .ref tP), (1, .int w)]) hx hb dX7_take_43 hl (k := 0) rfl (by decide) (by decide) rfl (fun ls hl => ?_)
  refine lv_goto (tgt := 3) hx hb dX7_take_46 (by decide) ?_
  refine lv_iload_n hx hb dX7_take_3 rfl (lv_at hl 0 rfl) ?_
  refine lv_if_lt (tgt := 49) hx hb dX7_take_4 (by decide) (fun c13 => ?_) (fun h => absurd (by decide) h)
  exact z_vret Z hP hD hS (⟨(upd (upd (upd (upd f (0 : Int32).toNatClampNeg (z3 &&& 255)) (1 : Int32).toNatClampNeg (z6 &&& 255)) (2 : Int32).toNatClampNeg (z9 &&& 255)) (3 : Int32).toNatClampNeg (z12 &&& 255)), rfl⟩) dX7_take_49 (Nat.le_of_ble_eq_true rfl) (Nat.le_of_ble_eq_true rfl)
set_option maxHeartbeats 4000000 in
set_option maxRecDepth 100000 in
theorem c_X7_take_4 (l : Launch) (D : va_G) (cI cM cT : ClassId) (tP : Nat) (bY : Nat) (ki : Nat) (at_ : Nat) (nu : Nat) (f : Nat → Int32) (w : Int32) : Cv l D (ty3 cI cM cT) yX7_take cX7_take 3 0 0 0 [.ref tP, .int w] ([(tP, .inr (7, [.ref bY, .ref ki, .ref at_, .ref nu, .int 4, .int 0])), (bY, .inl (cI, 300, .inl f))]) (fun u => ∃ (g : Nat → Int32), u = [(tP, .inr (7, [.ref bY, .ref ki, .ref at_, .ref nu, .int 8, .int 0])), (bY, .inl (cI, 300, .inl g))]) := by
  refine Cv.of (by decide +kernel) (Nat.le_of_ble_eq_true rfl) ?_
  intro p e s m below meth c A ls Z hin hP hD hl
  have hx := Z.1
  have hb := Z.2.1
  have hS : va_S A s.heap s.heap [] := va_S.rf
  have hl : lv_has ls 3 [(0, .ref tP), (1, .int w)] := hl
  skip
  refine lv_bipush (v := 24) hx hb dX7_take_0 (by decide) ?_
  refine lv_istore_n (lv' := [(2, .int 24), (0, .ref tP), (1, .int w)]) hx hb dX7_take_2 rfl hl (by decide) rfl (fun ls hl => ?_)
  refine lv_iload_n hx hb dX7_take_3 rfl (lv_at hl 0 rfl) ?_
  refine lv_if_lt (tgt := 49) hx hb dX7_take_4 (by decide) (fun h => absurd h (by decide)) (fun c1 => ?_)
  refine lv_aload_n hx hb dX7_take_7 rfl (lv_at hl 1 rfl) ?_
  refine z_get Z i_X7 hP 0 rfl rfl 4 (by decide) bw_402 rfl dX7_take_8 ?_
  refine lv_sipush (v := 300) hx hb dX7_take_11 (by decide) ?_
  refine lv_icmp_ge (tgt := 49) hx hb dX7_take_14 (by decide) (fun h => absurd h (by decide)) (fun c2 => ?_)
  refine lv_aload_n hx hb dX7_take_17 rfl (lv_at hl 1 rfl) ?_
  refine z_get Z i_X7 hP 0 rfl rfl 0 (by decide) bw_395 rfl dX7_take_18 ?_
  refine lv_aload_n hx hb dX7_take_21 rfl (lv_at hl 1 rfl) ?_
  refine z_get Z i_X7 hP 0 rfl rfl 4 (by decide) bw_402 rfl dX7_take_22 ?_
  refine lv_iload_n hx hb dX7_take_25 rfl (lv_at hl 2 rfl) ?_
  refine lv_iload_n hx hb dX7_take_26 rfl (lv_at hl 0 rfl) ?_
  refine lv_iushr hx hb dX7_take_27 rfl ?_
  refine lv_topi (fun z3 ez3 => ?_)
  refine lv_sipush (v := 255) hx hb dX7_take_28 (by decide) ?_
  refine lv_iand hx hb dX7_take_31 ?_
  refine z_iast Z hP hD hS 1 0 rfl rfl (vin (by decide)) dX7_take_32 (fun H locs hP hD hS => ?_)
  have hP : va_P D vwCl ([(tP, .inr (7, [.ref bY, .ref ki, .ref at_, .ref nu, .int 4, .int 0])), (bY, .inl (cI, 300, .inl (upd f (4 : Int32).toNatClampNeg (z3 &&& 255))))]) H := hP
  have hD : va_D A ([(tP, .inr (7, [.ref bY, .ref ki, .ref at_, .ref nu, .int 4, .int 0])), (bY, .inl (cI, 300, .inl (upd f (4 : Int32).toNatClampNeg (z3 &&& 255))))]) := hD
  refine lv_aload_n hx hb dX7_take_33 rfl (lv_at hl 1 rfl) ?_
  refine lv_dup hx hb dX7_take_34 rfl ?_
  refine z_get Z i_X7 hP 0 rfl rfl 4 (by decide) bw_402 rfl dX7_take_35 ?_
  refine lv_iconst (v := 1) hx hb dX7_take_38 (by decide) ?_
  refine lv_iadd hx hb dX7_take_39 ?_
  refine z_topi (y := 5) (by decide) ?_
  refine z_put Z i_X7 tyX7 tyX7_ok nmX7 hP hD hS 0 rfl rfl 4 (by decide) bw_402 rfl rfl rfl (Nat.le_of_ble_eq_true rfl) dX7_take_40 (fun H locs hP hD hS => ?_)
  have hP : va_P D vwCl ([(tP, .inr (7, [.ref bY, .ref ki, .ref at_, .ref nu, .int 5, .int 0])), (bY, .inl (cI, 300, .inl (upd f (4 : Int32).toNatClampNeg (z3 &&& 255))))]) H := hP
  have hD : va_D A ([(tP, .inr (7, [.ref bY, .ref ki, .ref at_, .ref nu, .int 5, .int 0])), (bY, .inl (cI, 300, .inl (upd f (4 : Int32).toNatClampNeg (z3 &&& 255))))]) := hD
  refine lv_iinc (v := 16) (lv' := [(2, .int 16), (0, .ref tP), (1, .int w)]) hx hb dX7_take_43 hl (k := 0) rfl (by decide) (by decide) rfl (fun ls hl => ?_)
  refine lv_goto (tgt := 3) hx hb dX7_take_46 (by decide) ?_
  refine lv_iload_n hx hb dX7_take_3 rfl (lv_at hl 0 rfl) ?_
  refine lv_if_lt (tgt := 49) hx hb dX7_take_4 (by decide) (fun h => absurd h (by decide)) (fun c4 => ?_)
  refine lv_aload_n hx hb dX7_take_7 rfl (lv_at hl 1 rfl) ?_
  refine z_get Z i_X7 hP 0 rfl rfl 4 (by decide) bw_402 rfl dX7_take_8 ?_
  refine lv_sipush (v := 300) hx hb dX7_take_11 (by decide) ?_
  refine lv_icmp_ge (tgt := 49) hx hb dX7_take_14 (by decide) (fun h => absurd h (by decide)) (fun c5 => ?_)
  refine lv_aload_n hx hb dX7_take_17 rfl (lv_at hl 1 rfl) ?_
  refine z_get Z i_X7 hP 0 rfl rfl 0 (by decide) bw_395 rfl dX7_take_18 ?_
  refine lv_aload_n hx hb dX7_take_21 rfl (lv_at hl 1 rfl) ?_
  refine z_get Z i_X7 hP 0 rfl rfl 4 (by decide) bw_402 rfl dX7_take_22 ?_
  refine lv_iload_n hx hb dX7_take_25 rfl (lv_at hl 2 rfl) ?_
  refine lv_iload_n hx hb dX7_take_26 rfl (lv_at hl 0 rfl) ?_
  refine lv_iushr hx hb dX7_take_27 rfl ?_
  refine lv_topi (fun z6 ez6 => ?_)
  refine lv_sipush (v := 255) hx hb dX7_take_28 (by decide) ?_
  refine lv_iand hx hb dX7_take_31 ?_
  refine z_iast Z hP hD hS 1 0 rfl rfl (vin (by decide)) dX7_take_32 (fun H locs hP hD hS => ?_)
  have hP : va_P D vwCl ([(tP, .inr (7, [.ref bY, .ref ki, .ref at_, .ref nu, .int 5, .int 0])), (bY, .inl (cI, 300, .inl (upd (upd f (4 : Int32).toNatClampNeg (z3 &&& 255)) (5 : Int32).toNatClampNeg (z6 &&& 255))))]) H := hP
  have hD : va_D A ([(tP, .inr (7, [.ref bY, .ref ki, .ref at_, .ref nu, .int 5, .int 0])), (bY, .inl (cI, 300, .inl (upd (upd f (4 : Int32).toNatClampNeg (z3 &&& 255)) (5 : Int32).toNatClampNeg (z6 &&& 255))))]) := hD
  refine lv_aload_n hx hb dX7_take_33 rfl (lv_at hl 1 rfl) ?_
  refine lv_dup hx hb dX7_take_34 rfl ?_
  refine z_get Z i_X7 hP 0 rfl rfl 4 (by decide) bw_402 rfl dX7_take_35 ?_
  refine lv_iconst (v := 1) hx hb dX7_take_38 (by decide) ?_
  refine lv_iadd hx hb dX7_take_39 ?_
  refine z_topi (y := 6) (by decide) ?_
  refine z_put Z i_X7 tyX7 tyX7_ok nmX7 hP hD hS 0 rfl rfl 4 (by decide) bw_402 rfl rfl rfl (Nat.le_of_ble_eq_true rfl) dX7_take_40 (fun H locs hP hD hS => ?_)
  have hP : va_P D vwCl ([(tP, .inr (7, [.ref bY, .ref ki, .ref at_, .ref nu, .int 6, .int 0])), (bY, .inl (cI, 300, .inl (upd (upd f (4 : Int32).toNatClampNeg (z3 &&& 255)) (5 : Int32).toNatClampNeg (z6 &&& 255))))]) H := hP
  have hD : va_D A ([(tP, .inr (7, [.ref bY, .ref ki, .ref at_, .ref nu, .int 6, .int 0])), (bY, .inl (cI, 300, .inl (upd (upd f (4 : Int32).toNatClampNeg (z3 &&& 255)) (5 : Int32).toNatClampNeg (z6 &&& 255))))]) := hD
  refine lv_iinc (v := 8) (lv' := [(2, .int 8), (0, .ref tP), (1, .int w)]) hx hb dX7_take_43 hl (k := 0) rfl (by decide) (by decide) rfl (fun ls hl => ?_)
  refine lv_goto (tgt := 3) hx hb dX7_take_46 (by decide) ?_
  refine lv_iload_n hx hb dX7_take_3 rfl (lv_at hl 0 rfl) ?_
  refine lv_if_lt (tgt := 49) hx hb dX7_take_4 (by decide) (fun h => absurd h (by decide)) (fun c7 => ?_)
  refine lv_aload_n hx hb dX7_take_7 rfl (lv_at hl 1 rfl) ?_
  refine z_get Z i_X7 hP 0 rfl rfl 4 (by decide) bw_402 rfl dX7_take_8 ?_
  refine lv_sipush (v := 300) hx hb dX7_take_11 (by decide) ?_
  refine lv_icmp_ge (tgt := 49) hx hb dX7_take_14 (by decide) (fun h => absurd h (by decide)) (fun c8 => ?_)
  refine lv_aload_n hx hb dX7_take_17 rfl (lv_at hl 1 rfl) ?_
  refine z_get Z i_X7 hP 0 rfl rfl 0 (by decide) bw_395 rfl dX7_take_18 ?_
  refine lv_aload_n hx hb dX7_take_21 rfl (lv_at hl 1 rfl) ?_
  refine z_get Z i_X7 hP 0 rfl rfl 4 (by decide) bw_402 rfl dX7_take_22 ?_
  refine lv_iload_n hx hb dX7_take_25 rfl (lv_at hl 2 rfl) ?_
  refine lv_iload_n hx hb dX7_take_26 rfl (lv_at hl 0 rfl) ?_
  refine lv_iushr hx hb dX7_take_27 rfl ?_
  refine lv_topi (fun z9 ez9 => ?_)
  refine lv_sipush (v := 255) hx hb dX7_take_28 (by decide) ?_
  refine lv_iand hx hb dX7_take_31 ?_
  refine z_iast Z hP hD hS 1 0 rfl rfl (vin (by decide)) dX7_take_32 (fun H locs hP hD hS => ?_)
  have hP : va_P D vwCl ([(tP, .inr (7, [.ref bY, .ref ki, .ref at_, .ref nu, .int 6, .int 0])), (bY, .inl (cI, 300, .inl (upd (upd (upd f (4 : Int32).toNatClampNeg (z3 &&& 255)) (5 : Int32).toNatClampNeg (z6 &&& 255)) (6 : Int32).toNatClampNeg (z9 &&& 255))))]) H := hP
  have hD : va_D A ([(tP, .inr (7, [.ref bY, .ref ki, .ref at_, .ref nu, .int 6, .int 0])), (bY, .inl (cI, 300, .inl (upd (upd (upd f (4 : Int32).toNatClampNeg (z3 &&& 255)) (5 : Int32).toNatClampNeg (z6 &&& 255)) (6 : Int32).toNatClampNeg (z9 &&& 255))))]) := hD
  refine lv_aload_n hx hb dX7_take_33 rfl (lv_at hl 1 rfl) ?_
  refine lv_dup hx hb dX7_take_34 rfl ?_
  refine z_get Z i_X7 hP 0 rfl rfl 4 (by decide) bw_402 rfl dX7_take_35 ?_
  refine lv_iconst (v := 1) hx hb dX7_take_38 (by decide) ?_
  refine lv_iadd hx hb dX7_take_39 ?_
  refine z_topi (y := 7) (by decide) ?_
  refine z_put Z i_X7 tyX7 tyX7_ok nmX7 hP hD hS 0 rfl rfl 4 (by decide) bw_402 rfl rfl rfl (Nat.le_of_ble_eq_true rfl) dX7_take_40 (fun H locs hP hD hS => ?_)
  have hP : va_P D vwCl ([(tP, .inr (7, [.ref bY, .ref ki, .ref at_, .ref nu, .int 7, .int 0])), (bY, .inl (cI, 300, .inl (upd (upd (upd f (4 : Int32).toNatClampNeg (z3 &&& 255)) (5 : Int32).toNatClampNeg (z6 &&& 255)) (6 : Int32).toNatClampNeg (z9 &&& 255))))]) H := hP
  have hD : va_D A ([(tP, .inr (7, [.ref bY, .ref ki, .ref at_, .ref nu, .int 7, .int 0])), (bY, .inl (cI, 300, .inl (upd (upd (upd f (4 : Int32).toNatClampNeg (z3 &&& 255)) (5 : Int32).toNatClampNeg (z6 &&& 255)) (6 : Int32).toNatClampNeg (z9 &&& 255))))]) := hD
  refine lv_iinc (v := 0) (lv' := [(2, .int 0), (0, .ref tP), (1, .int w)]) hx hb dX7_take_43 hl (k := 0) rfl (by decide) (by decide) rfl (fun ls hl => ?_)
  refine lv_goto (tgt := 3) hx hb dX7_take_46 (by decide) ?_
  refine lv_iload_n hx hb dX7_take_3 rfl (lv_at hl 0 rfl) ?_
  refine lv_if_lt (tgt := 49) hx hb dX7_take_4 (by decide) (fun h => absurd h (by decide)) (fun c10 => ?_)
  refine lv_aload_n hx hb dX7_take_7 rfl (lv_at hl 1 rfl) ?_
  refine z_get Z i_X7 hP 0 rfl rfl 4 (by decide) bw_402 rfl dX7_take_8 ?_
  refine lv_sipush (v := 300) hx hb dX7_take_11 (by decide) ?_
  refine lv_icmp_ge (tgt := 49) hx hb dX7_take_14 (by decide) (fun h => absurd h (by decide)) (fun c11 => ?_)
  refine lv_aload_n hx hb dX7_take_17 rfl (lv_at hl 1 rfl) ?_
  refine z_get Z i_X7 hP 0 rfl rfl 0 (by decide) bw_395 rfl dX7_take_18 ?_
  refine lv_aload_n hx hb dX7_take_21 rfl (lv_at hl 1 rfl) ?_
  refine z_get Z i_X7 hP 0 rfl rfl 4 (by decide) bw_402 rfl dX7_take_22 ?_
  refine lv_iload_n hx hb dX7_take_25 rfl (lv_at hl 2 rfl) ?_
  refine lv_iload_n hx hb dX7_take_26 rfl (lv_at hl 0 rfl) ?_
  refine lv_iushr hx hb dX7_take_27 rfl ?_
  refine lv_topi (fun z12 ez12 => ?_)
  refine lv_sipush (v := 255) hx hb dX7_take_28 (by decide) ?_
  refine lv_iand hx hb dX7_take_31 ?_
  refine z_iast Z hP hD hS 1 0 rfl rfl (vin (by decide)) dX7_take_32 (fun H locs hP hD hS => ?_)
  have hP : va_P D vwCl ([(tP, .inr (7, [.ref bY, .ref ki, .ref at_, .ref nu, .int 7, .int 0])), (bY, .inl (cI, 300, .inl (upd (upd (upd (upd f (4 : Int32).toNatClampNeg (z3 &&& 255)) (5 : Int32).toNatClampNeg (z6 &&& 255)) (6 : Int32).toNatClampNeg (z9 &&& 255)) (7 : Int32).toNatClampNeg (z12 &&& 255))))]) H := hP
  have hD : va_D A ([(tP, .inr (7, [.ref bY, .ref ki, .ref at_, .ref nu, .int 7, .int 0])), (bY, .inl (cI, 300, .inl (upd (upd (upd (upd f (4 : Int32).toNatClampNeg (z3 &&& 255)) (5 : Int32).toNatClampNeg (z6 &&& 255)) (6 : Int32).toNatClampNeg (z9 &&& 255)) (7 : Int32).toNatClampNeg (z12 &&& 255))))]) := hD
  refine lv_aload_n hx hb dX7_take_33 rfl (lv_at hl 1 rfl) ?_
  refine lv_dup hx hb dX7_take_34 rfl ?_
  refine z_get Z i_X7 hP 0 rfl rfl 4 (by decide) bw_402 rfl dX7_take_35 ?_
  refine lv_iconst (v := 1) hx hb dX7_take_38 (by decide) ?_
  refine lv_iadd hx hb dX7_take_39 ?_
  refine z_topi (y := 8) (by decide) ?_
  refine z_put Z i_X7 tyX7 tyX7_ok nmX7 hP hD hS 0 rfl rfl 4 (by decide) bw_402 rfl rfl rfl (Nat.le_of_ble_eq_true rfl) dX7_take_40 (fun H locs hP hD hS => ?_)
  have hP : va_P D vwCl ([(tP, .inr (7, [.ref bY, .ref ki, .ref at_, .ref nu, .int 8, .int 0])), (bY, .inl (cI, 300, .inl (upd (upd (upd (upd f (4 : Int32).toNatClampNeg (z3 &&& 255)) (5 : Int32).toNatClampNeg (z6 &&& 255)) (6 : Int32).toNatClampNeg (z9 &&& 255)) (7 : Int32).toNatClampNeg (z12 &&& 255))))]) H := hP
  have hD : va_D A ([(tP, .inr (7, [.ref bY, .ref ki, .ref at_, .ref nu, .int 8, .int 0])), (bY, .inl (cI, 300, .inl (upd (upd (upd (upd f (4 : Int32).toNatClampNeg (z3 &&& 255)) (5 : Int32).toNatClampNeg (z6 &&& 255)) (6 : Int32).toNatClampNeg (z9 &&& 255)) (7 : Int32).toNatClampNeg (z12 &&& 255))))]) := hD
  refine lv_iinc (v := (-8)) (lv' := [(2, .int (-8)), (0, .ref tP), (1, .int w)]) hx hb dX7_take_43 hl (k := 0) rfl (by decide) (by decide) rfl (fun ls hl => ?_)
  refine lv_goto (tgt := 3) hx hb dX7_take_46 (by decide) ?_
  refine lv_iload_n hx hb dX7_take_3 rfl (lv_at hl 0 rfl) ?_
  refine lv_if_lt (tgt := 49) hx hb dX7_take_4 (by decide) (fun c13 => ?_) (fun h => absurd (by decide) h)
  exact z_vret Z hP hD hS (⟨(upd (upd (upd (upd f (4 : Int32).toNatClampNeg (z3 &&& 255)) (5 : Int32).toNatClampNeg (z6 &&& 255)) (6 : Int32).toNatClampNeg (z9 &&& 255)) (7 : Int32).toNatClampNeg (z12 &&& 255)), rfl⟩) dX7_take_49 (Nat.le_of_ble_eq_true rfl) (Nat.le_of_ble_eq_true rfl)
set_option maxHeartbeats 4000000 in
set_option maxRecDepth 100000 in
theorem c_X7_take_8 (l : Launch) (D : va_G) (cI cM cT : ClassId) (tP : Nat) (bY : Nat) (ki : Nat) (at_ : Nat) (nu : Nat) (f : Nat → Int32) (w : Int32) : Cv l D (ty3 cI cM cT) yX7_take cX7_take 3 0 0 0 [.ref tP, .int w] ([(tP, .inr (7, [.ref bY, .ref ki, .ref at_, .ref nu, .int 8, .int 0])), (bY, .inl (cI, 300, .inl f))]) (fun u => ∃ (g : Nat → Int32), u = [(tP, .inr (7, [.ref bY, .ref ki, .ref at_, .ref nu, .int 12, .int 0])), (bY, .inl (cI, 300, .inl g))]) := by
  refine Cv.of (by decide +kernel) (Nat.le_of_ble_eq_true rfl) ?_
  intro p e s m below meth c A ls Z hin hP hD hl
  have hx := Z.1
  have hb := Z.2.1
  have hS : va_S A s.heap s.heap [] := va_S.rf
  have hl : lv_has ls 3 [(0, .ref tP), (1, .int w)] := hl
  skip
  refine lv_bipush (v := 24) hx hb dX7_take_0 (by decide) ?_
  refine lv_istore_n (lv' := [(2, .int 24), (0, .ref tP), (1, .int w)]) hx hb dX7_take_2 rfl hl (by decide) rfl (fun ls hl => ?_)
  refine lv_iload_n hx hb dX7_take_3 rfl (lv_at hl 0 rfl) ?_
  refine lv_if_lt (tgt := 49) hx hb dX7_take_4 (by decide) (fun h => absurd h (by decide)) (fun c1 => ?_)
  refine lv_aload_n hx hb dX7_take_7 rfl (lv_at hl 1 rfl) ?_
  refine z_get Z i_X7 hP 0 rfl rfl 4 (by decide) bw_402 rfl dX7_take_8 ?_
  refine lv_sipush (v := 300) hx hb dX7_take_11 (by decide) ?_
  refine lv_icmp_ge (tgt := 49) hx hb dX7_take_14 (by decide) (fun h => absurd h (by decide)) (fun c2 => ?_)
  refine lv_aload_n hx hb dX7_take_17 rfl (lv_at hl 1 rfl) ?_
  refine z_get Z i_X7 hP 0 rfl rfl 0 (by decide) bw_395 rfl dX7_take_18 ?_
  refine lv_aload_n hx hb dX7_take_21 rfl (lv_at hl 1 rfl) ?_
  refine z_get Z i_X7 hP 0 rfl rfl 4 (by decide) bw_402 rfl dX7_take_22 ?_
  refine lv_iload_n hx hb dX7_take_25 rfl (lv_at hl 2 rfl) ?_
  refine lv_iload_n hx hb dX7_take_26 rfl (lv_at hl 0 rfl) ?_
  refine lv_iushr hx hb dX7_take_27 rfl ?_
  refine lv_topi (fun z3 ez3 => ?_)
  refine lv_sipush (v := 255) hx hb dX7_take_28 (by decide) ?_
  refine lv_iand hx hb dX7_take_31 ?_
  refine z_iast Z hP hD hS 1 0 rfl rfl (vin (by decide)) dX7_take_32 (fun H locs hP hD hS => ?_)
  have hP : va_P D vwCl ([(tP, .inr (7, [.ref bY, .ref ki, .ref at_, .ref nu, .int 8, .int 0])), (bY, .inl (cI, 300, .inl (upd f (8 : Int32).toNatClampNeg (z3 &&& 255))))]) H := hP
  have hD : va_D A ([(tP, .inr (7, [.ref bY, .ref ki, .ref at_, .ref nu, .int 8, .int 0])), (bY, .inl (cI, 300, .inl (upd f (8 : Int32).toNatClampNeg (z3 &&& 255))))]) := hD
  refine lv_aload_n hx hb dX7_take_33 rfl (lv_at hl 1 rfl) ?_
  refine lv_dup hx hb dX7_take_34 rfl ?_
  refine z_get Z i_X7 hP 0 rfl rfl 4 (by decide) bw_402 rfl dX7_take_35 ?_
  refine lv_iconst (v := 1) hx hb dX7_take_38 (by decide) ?_
  refine lv_iadd hx hb dX7_take_39 ?_
  refine z_topi (y := 9) (by decide) ?_
  refine z_put Z i_X7 tyX7 tyX7_ok nmX7 hP hD hS 0 rfl rfl 4 (by decide) bw_402 rfl rfl rfl (Nat.le_of_ble_eq_true rfl) dX7_take_40 (fun H locs hP hD hS => ?_)
  have hP : va_P D vwCl ([(tP, .inr (7, [.ref bY, .ref ki, .ref at_, .ref nu, .int 9, .int 0])), (bY, .inl (cI, 300, .inl (upd f (8 : Int32).toNatClampNeg (z3 &&& 255))))]) H := hP
  have hD : va_D A ([(tP, .inr (7, [.ref bY, .ref ki, .ref at_, .ref nu, .int 9, .int 0])), (bY, .inl (cI, 300, .inl (upd f (8 : Int32).toNatClampNeg (z3 &&& 255))))]) := hD
  refine lv_iinc (v := 16) (lv' := [(2, .int 16), (0, .ref tP), (1, .int w)]) hx hb dX7_take_43 hl (k := 0) rfl (by decide) (by decide) rfl (fun ls hl => ?_)
  refine lv_goto (tgt := 3) hx hb dX7_take_46 (by decide) ?_
  refine lv_iload_n hx hb dX7_take_3 rfl (lv_at hl 0 rfl) ?_
  refine lv_if_lt (tgt := 49) hx hb dX7_take_4 (by decide) (fun h => absurd h (by decide)) (fun c4 => ?_)
  refine lv_aload_n hx hb dX7_take_7 rfl (lv_at hl 1 rfl) ?_
  refine z_get Z i_X7 hP 0 rfl rfl 4 (by decide) bw_402 rfl dX7_take_8 ?_
  refine lv_sipush (v := 300) hx hb dX7_take_11 (by decide) ?_
  refine lv_icmp_ge (tgt := 49) hx hb dX7_take_14 (by decide) (fun h => absurd h (by decide)) (fun c5 => ?_)
  refine lv_aload_n hx hb dX7_take_17 rfl (lv_at hl 1 rfl) ?_
  refine z_get Z i_X7 hP 0 rfl rfl 0 (by decide) bw_395 rfl dX7_take_18 ?_
  refine lv_aload_n hx hb dX7_take_21 rfl (lv_at hl 1 rfl) ?_
  refine z_get Z i_X7 hP 0 rfl rfl 4 (by decide) bw_402 rfl dX7_take_22 ?_
  refine lv_iload_n hx hb dX7_take_25 rfl (lv_at hl 2 rfl) ?_
  refine lv_iload_n hx hb dX7_take_26 rfl (lv_at hl 0 rfl) ?_
  refine lv_iushr hx hb dX7_take_27 rfl ?_
  refine lv_topi (fun z6 ez6 => ?_)
  refine lv_sipush (v := 255) hx hb dX7_take_28 (by decide) ?_
  refine lv_iand hx hb dX7_take_31 ?_
  refine z_iast Z hP hD hS 1 0 rfl rfl (vin (by decide)) dX7_take_32 (fun H locs hP hD hS => ?_)
  have hP : va_P D vwCl ([(tP, .inr (7, [.ref bY, .ref ki, .ref at_, .ref nu, .int 9, .int 0])), (bY, .inl (cI, 300, .inl (upd (upd f (8 : Int32).toNatClampNeg (z3 &&& 255)) (9 : Int32).toNatClampNeg (z6 &&& 255))))]) H := hP
  have hD : va_D A ([(tP, .inr (7, [.ref bY, .ref ki, .ref at_, .ref nu, .int 9, .int 0])), (bY, .inl (cI, 300, .inl (upd (upd f (8 : Int32).toNatClampNeg (z3 &&& 255)) (9 : Int32).toNatClampNeg (z6 &&& 255))))]) := hD
  refine lv_aload_n hx hb dX7_take_33 rfl (lv_at hl 1 rfl) ?_
  refine lv_dup hx hb dX7_take_34 rfl ?_
  refine z_get Z i_X7 hP 0 rfl rfl 4 (by decide) bw_402 rfl dX7_take_35 ?_
  refine lv_iconst (v := 1) hx hb dX7_take_38 (by decide) ?_
  refine lv_iadd hx hb dX7_take_39 ?_
  refine z_topi (y := 10) (by decide) ?_
  refine z_put Z i_X7 tyX7 tyX7_ok nmX7 hP hD hS 0 rfl rfl 4 (by decide) bw_402 rfl rfl rfl (Nat.le_of_ble_eq_true rfl) dX7_take_40 (fun H locs hP hD hS => ?_)
  have hP : va_P D vwCl ([(tP, .inr (7, [.ref bY, .ref ki, .ref at_, .ref nu, .int 10, .int 0])), (bY, .inl (cI, 300, .inl (upd (upd f (8 : Int32).toNatClampNeg (z3 &&& 255)) (9 : Int32).toNatClampNeg (z6 &&& 255))))]) H := hP
  have hD : va_D A ([(tP, .inr (7, [.ref bY, .ref ki, .ref at_, .ref nu, .int 10, .int 0])), (bY, .inl (cI, 300, .inl (upd (upd f (8 : Int32).toNatClampNeg (z3 &&& 255)) (9 : Int32).toNatClampNeg (z6 &&& 255))))]) := hD
  refine lv_iinc (v := 8) (lv' := [(2, .int 8), (0, .ref tP), (1, .int w)]) hx hb dX7_take_43 hl (k := 0) rfl (by decide) (by decide) rfl (fun ls hl => ?_)
  refine lv_goto (tgt := 3) hx hb dX7_take_46 (by decide) ?_
  refine lv_iload_n hx hb dX7_take_3 rfl (lv_at hl 0 rfl) ?_
  refine lv_if_lt (tgt := 49) hx hb dX7_take_4 (by decide) (fun h => absurd h (by decide)) (fun c7 => ?_)
  refine lv_aload_n hx hb dX7_take_7 rfl (lv_at hl 1 rfl) ?_
  refine z_get Z i_X7 hP 0 rfl rfl 4 (by decide) bw_402 rfl dX7_take_8 ?_
  refine lv_sipush (v := 300) hx hb dX7_take_11 (by decide) ?_
  refine lv_icmp_ge (tgt := 49) hx hb dX7_take_14 (by decide) (fun h => absurd h (by decide)) (fun c8 => ?_)
  refine lv_aload_n hx hb dX7_take_17 rfl (lv_at hl 1 rfl) ?_
  refine z_get Z i_X7 hP 0 rfl rfl 0 (by decide) bw_395 rfl dX7_take_18 ?_
  refine lv_aload_n hx hb dX7_take_21 rfl (lv_at hl 1 rfl) ?_
  refine z_get Z i_X7 hP 0 rfl rfl 4 (by decide) bw_402 rfl dX7_take_22 ?_
  refine lv_iload_n hx hb dX7_take_25 rfl (lv_at hl 2 rfl) ?_
  refine lv_iload_n hx hb dX7_take_26 rfl (lv_at hl 0 rfl) ?_
  refine lv_iushr hx hb dX7_take_27 rfl ?_
  refine lv_topi (fun z9 ez9 => ?_)
  refine lv_sipush (v := 255) hx hb dX7_take_28 (by decide) ?_
  refine lv_iand hx hb dX7_take_31 ?_
  refine z_iast Z hP hD hS 1 0 rfl rfl (vin (by decide)) dX7_take_32 (fun H locs hP hD hS => ?_)
  have hP : va_P D vwCl ([(tP, .inr (7, [.ref bY, .ref ki, .ref at_, .ref nu, .int 10, .int 0])), (bY, .inl (cI, 300, .inl (upd (upd (upd f (8 : Int32).toNatClampNeg (z3 &&& 255)) (9 : Int32).toNatClampNeg (z6 &&& 255)) (10 : Int32).toNatClampNeg (z9 &&& 255))))]) H := hP
  have hD : va_D A ([(tP, .inr (7, [.ref bY, .ref ki, .ref at_, .ref nu, .int 10, .int 0])), (bY, .inl (cI, 300, .inl (upd (upd (upd f (8 : Int32).toNatClampNeg (z3 &&& 255)) (9 : Int32).toNatClampNeg (z6 &&& 255)) (10 : Int32).toNatClampNeg (z9 &&& 255))))]) := hD
  refine lv_aload_n hx hb dX7_take_33 rfl (lv_at hl 1 rfl) ?_
  refine lv_dup hx hb dX7_take_34 rfl ?_
  refine z_get Z i_X7 hP 0 rfl rfl 4 (by decide) bw_402 rfl dX7_take_35 ?_
  refine lv_iconst (v := 1) hx hb dX7_take_38 (by decide) ?_
  refine lv_iadd hx hb dX7_take_39 ?_
  refine z_topi (y := 11) (by decide) ?_
  refine z_put Z i_X7 tyX7 tyX7_ok nmX7 hP hD hS 0 rfl rfl 4 (by decide) bw_402 rfl rfl rfl (Nat.le_of_ble_eq_true rfl) dX7_take_40 (fun H locs hP hD hS => ?_)
  have hP : va_P D vwCl ([(tP, .inr (7, [.ref bY, .ref ki, .ref at_, .ref nu, .int 11, .int 0])), (bY, .inl (cI, 300, .inl (upd (upd (upd f (8 : Int32).toNatClampNeg (z3 &&& 255)) (9 : Int32).toNatClampNeg (z6 &&& 255)) (10 : Int32).toNatClampNeg (z9 &&& 255))))]) H := hP
  have hD : va_D A ([(tP, .inr (7, [.ref bY, .ref ki, .ref at_, .ref nu, .int 11, .int 0])), (bY, .inl (cI, 300, .inl (upd (upd (upd f (8 : Int32).toNatClampNeg (z3 &&& 255)) (9 : Int32).toNatClampNeg (z6 &&& 255)) (10 : Int32).toNatClampNeg (z9 &&& 255))))]) := hD
  refine lv_iinc (v := 0) (lv' := [(2, .int 0), (0, .ref tP), (1, .int w)]) hx hb dX7_take_43 hl (k := 0) rfl (by decide) (by decide) rfl (fun ls hl => ?_)
  refine lv_goto (tgt := 3) hx hb dX7_take_46 (by decide) ?_
  refine lv_iload_n hx hb dX7_take_3 rfl (lv_at hl 0 rfl) ?_
  refine lv_if_lt (tgt := 49) hx hb dX7_take_4 (by decide) (fun h => absurd h (by decide)) (fun c10 => ?_)
  refine lv_aload_n hx hb dX7_take_7 rfl (lv_at hl 1 rfl) ?_
  refine z_get Z i_X7 hP 0 rfl rfl 4 (by decide) bw_402 rfl dX7_take_8 ?_
  refine lv_sipush (v := 300) hx hb dX7_take_11 (by decide) ?_
  refine lv_icmp_ge (tgt := 49) hx hb dX7_take_14 (by decide) (fun h => absurd h (by decide)) (fun c11 => ?_)
  refine lv_aload_n hx hb dX7_take_17 rfl (lv_at hl 1 rfl) ?_
  refine z_get Z i_X7 hP 0 rfl rfl 0 (by decide) bw_395 rfl dX7_take_18 ?_
  refine lv_aload_n hx hb dX7_take_21 rfl (lv_at hl 1 rfl) ?_
  refine z_get Z i_X7 hP 0 rfl rfl 4 (by decide) bw_402 rfl dX7_take_22 ?_
  refine lv_iload_n hx hb dX7_take_25 rfl (lv_at hl 2 rfl) ?_
  refine lv_iload_n hx hb dX7_take_26 rfl (lv_at hl 0 rfl) ?_
  refine lv_iushr hx hb dX7_take_27 rfl ?_
  refine lv_topi (fun z12 ez12 => ?_)
  refine lv_sipush (v := 255) hx hb dX7_take_28 (by decide) ?_
  refine lv_iand hx hb dX7_take_31 ?_
  refine z_iast Z hP hD hS 1 0 rfl rfl (vin (by decide)) dX7_take_32 (fun H locs hP hD hS => ?_)
  have hP : va_P D vwCl ([(tP, .inr (7, [.ref bY, .ref ki, .ref at_, .ref nu, .int 11, .int 0])), (bY, .inl (cI, 300, .inl (upd (upd (upd (upd f (8 : Int32).toNatClampNeg (z3 &&& 255)) (9 : Int32).toNatClampNeg (z6 &&& 255)) (10 : Int32).toNatClampNeg (z9 &&& 255)) (11 : Int32).toNatClampNeg (z12 &&& 255))))]) H := hP
  have hD : va_D A ([(tP, .inr (7, [.ref bY, .ref ki, .ref at_, .ref nu, .int 11, .int 0])), (bY, .inl (cI, 300, .inl (upd (upd (upd (upd f (8 : Int32).toNatClampNeg (z3 &&& 255)) (9 : Int32).toNatClampNeg (z6 &&& 255)) (10 : Int32).toNatClampNeg (z9 &&& 255)) (11 : Int32).toNatClampNeg (z12 &&& 255))))]) := hD
  refine lv_aload_n hx hb dX7_take_33 rfl (lv_at hl 1 rfl) ?_
  refine lv_dup hx hb dX7_take_34 rfl ?_
  refine z_get Z i_X7 hP 0 rfl rfl 4 (by decide) bw_402 rfl dX7_take_35 ?_
  refine lv_iconst (v := 1) hx hb dX7_take_38 (by decide) ?_
  refine lv_iadd hx hb dX7_take_39 ?_
  refine z_topi (y := 12) (by decide) ?_
  refine z_put Z i_X7 tyX7 tyX7_ok nmX7 hP hD hS 0 rfl rfl 4 (by decide) bw_402 rfl rfl rfl (Nat.le_of_ble_eq_true rfl) dX7_take_40 (fun H locs hP hD hS => ?_)
  have hP : va_P D vwCl ([(tP, .inr (7, [.ref bY, .ref ki, .ref at_, .ref nu, .int 12, .int 0])), (bY, .inl (cI, 300, .inl (upd (upd (upd (upd f (8 : Int32).toNatClampNeg (z3 &&& 255)) (9 : Int32).toNatClampNeg (z6 &&& 255)) (10 : Int32).toNatClampNeg (z9 &&& 255)) (11 : Int32).toNatClampNeg (z12 &&& 255))))]) H := hP
  have hD : va_D A ([(tP, .inr (7, [.ref bY, .ref ki, .ref at_, .ref nu, .int 12, .int 0])), (bY, .inl (cI, 300, .inl (upd (upd (upd (upd f (8 : Int32).toNatClampNeg (z3 &&& 255)) (9 : Int32).toNatClampNeg (z6 &&& 255)) (10 : Int32).toNatClampNeg (z9 &&& 255)) (11 : Int32).toNatClampNeg (z12 &&& 255))))]) := hD
  refine lv_iinc (v := (-8)) (lv' := [(2, .int (-8)), (0, .ref tP), (1, .int w)]) hx hb dX7_take_43 hl (k := 0) rfl (by decide) (by decide) rfl (fun ls hl => ?_)
  refine lv_goto (tgt := 3) hx hb dX7_take_46 (by decide) ?_
  refine lv_iload_n hx hb dX7_take_3 rfl (lv_at hl 0 rfl) ?_
  refine lv_if_lt (tgt := 49) hx hb dX7_take_4 (by decide) (fun c13 => ?_) (fun h => absurd (by decide) h)
  exact z_vret Z hP hD hS (⟨(upd (upd (upd (upd f (8 : Int32).toNatClampNeg (z3 &&& 255)) (9 : Int32).toNatClampNeg (z6 &&& 255)) (10 : Int32).toNatClampNeg (z9 &&& 255)) (11 : Int32).toNatClampNeg (z12 &&& 255)), rfl⟩) dX7_take_49 (Nat.le_of_ble_eq_true rfl) (Nat.le_of_ble_eq_true rfl)
set_option maxHeartbeats 4000000 in
set_option maxRecDepth 100000 in
theorem c_X7_take_12 (l : Launch) (D : va_G) (cI cM cT : ClassId) (tP : Nat) (bY : Nat) (ki : Nat) (at_ : Nat) (nu : Nat) (f : Nat → Int32) (w : Int32) : Cv l D (ty3 cI cM cT) yX7_take cX7_take 3 0 0 0 [.ref tP, .int w] ([(tP, .inr (7, [.ref bY, .ref ki, .ref at_, .ref nu, .int 12, .int 0])), (bY, .inl (cI, 300, .inl f))]) (fun u => ∃ (g : Nat → Int32), u = [(tP, .inr (7, [.ref bY, .ref ki, .ref at_, .ref nu, .int 16, .int 0])), (bY, .inl (cI, 300, .inl g))]) := by
  refine Cv.of (by decide +kernel) (Nat.le_of_ble_eq_true rfl) ?_
  intro p e s m below meth c A ls Z hin hP hD hl
  have hx := Z.1
  have hb := Z.2.1
  have hS : va_S A s.heap s.heap [] := va_S.rf
  have hl : lv_has ls 3 [(0, .ref tP), (1, .int w)] := hl
  skip
  refine lv_bipush (v := 24) hx hb dX7_take_0 (by decide) ?_
  refine lv_istore_n (lv' := [(2, .int 24), (0, .ref tP), (1, .int w)]) hx hb dX7_take_2 rfl hl (by decide) rfl (fun ls hl => ?_)
  refine lv_iload_n hx hb dX7_take_3 rfl (lv_at hl 0 rfl) ?_
  refine lv_if_lt (tgt := 49) hx hb dX7_take_4 (by decide) (fun h => absurd h (by decide)) (fun c1 => ?_)
  refine lv_aload_n hx hb dX7_take_7 rfl (lv_at hl 1 rfl) ?_
  refine z_get Z i_X7 hP 0 rfl rfl 4 (by decide) bw_402 rfl dX7_take_8 ?_
  refine lv_sipush (v := 300) hx hb dX7_take_11 (by decide) ?_
  refine lv_icmp_ge (tgt := 49) hx hb dX7_take_14 (by decide) (fun h => absurd h (by decide)) (fun c2 => ?_)
  refine lv_aload_n hx hb dX7_take_17 rfl (lv_at hl 1 rfl) ?_
  refine z_get Z i_X7 hP 0 rfl rfl 0 (by decide) bw_395 rfl dX7_take_18 ?_
  refine lv_aload_n hx hb dX7_take_21 rfl (lv_at hl 1 rfl) ?_
  refine z_get Z i_X7 hP 0 rfl rfl 4 (by decide) bw_402 rfl dX7_take_22 ?_
  refine lv_iload_n hx hb dX7_take_25 rfl (lv_at hl 2 rfl) ?_
  refine lv_iload_n hx hb dX7_take_26 rfl (lv_at hl 0 rfl) ?_
  refine lv_iushr hx hb dX7_take_27 rfl ?_
  refine lv_topi (fun z3 ez3 => ?_)
  refine lv_sipush (v := 255) hx hb dX7_take_28 (by decide) ?_
  refine lv_iand hx hb dX7_take_31 ?_
  refine z_iast Z hP hD hS 1 0 rfl rfl (vin (by decide)) dX7_take_32 (fun H locs hP hD hS => ?_)
  have hP : va_P D vwCl ([(tP, .inr (7, [.ref bY, .ref ki, .ref at_, .ref nu, .int 12, .int 0])), (bY, .inl (cI, 300, .inl (upd f (12 : Int32).toNatClampNeg (z3 &&& 255))))]) H := hP
  have hD : va_D A ([(tP, .inr (7, [.ref bY, .ref ki, .ref at_, .ref nu, .int 12, .int 0])), (bY, .inl (cI, 300, .inl (upd f (12 : Int32).toNatClampNeg (z3 &&& 255))))]) := hD
  refine lv_aload_n hx hb dX7_take_33 rfl (lv_at hl 1 rfl) ?_
  refine lv_dup hx hb dX7_take_34 rfl ?_
  refine z_get Z i_X7 hP 0 rfl rfl 4 (by decide) bw_402 rfl dX7_take_35 ?_
  refine lv_iconst (v := 1) hx hb dX7_take_38 (by decide) ?_
  refine lv_iadd hx hb dX7_take_39 ?_
  refine z_topi (y := 13) (by decide) ?_
  refine z_put Z i_X7 tyX7 tyX7_ok nmX7 hP hD hS 0 rfl rfl 4 (by decide) bw_402 rfl rfl rfl (Nat.le_of_ble_eq_true rfl) dX7_take_40 (fun H locs hP hD hS => ?_)
  have hP : va_P D vwCl ([(tP, .inr (7, [.ref bY, .ref ki, .ref at_, .ref nu, .int 13, .int 0])), (bY, .inl (cI, 300, .inl (upd f (12 : Int32).toNatClampNeg (z3 &&& 255))))]) H := hP
  have hD : va_D A ([(tP, .inr (7, [.ref bY, .ref ki, .ref at_, .ref nu, .int 13, .int 0])), (bY, .inl (cI, 300, .inl (upd f (12 : Int32).toNatClampNeg (z3 &&& 255))))]) := hD
  refine lv_iinc (v := 16) (lv' := [(2, .int 16), (0, .ref tP), (1, .int w)]) hx hb dX7_take_43 hl (k := 0) rfl (by decide) (by decide) rfl (fun ls hl => ?_)
  refine lv_goto (tgt := 3) hx hb dX7_take_46 (by decide) ?_
  refine lv_iload_n hx hb dX7_take_3 rfl (lv_at hl 0 rfl) ?_
  refine lv_if_lt (tgt := 49) hx hb dX7_take_4 (by decide) (fun h => absurd h (by decide)) (fun c4 => ?_)
  refine lv_aload_n hx hb dX7_take_7 rfl (lv_at hl 1 rfl) ?_
  refine z_get Z i_X7 hP 0 rfl rfl 4 (by decide) bw_402 rfl dX7_take_8 ?_
  refine lv_sipush (v := 300) hx hb dX7_take_11 (by decide) ?_
  refine lv_icmp_ge (tgt := 49) hx hb dX7_take_14 (by decide) (fun h => absurd h (by decide)) (fun c5 => ?_)
  refine lv_aload_n hx hb dX7_take_17 rfl (lv_at hl 1 rfl) ?_
  refine z_get Z i_X7 hP 0 rfl rfl 0 (by decide) bw_395 rfl dX7_take_18 ?_
  refine lv_aload_n hx hb dX7_take_21 rfl (lv_at hl 1 rfl) ?_
  refine z_get Z i_X7 hP 0 rfl rfl 4 (by decide) bw_402 rfl dX7_take_22 ?_
  refine lv_iload_n hx hb dX7_take_25 rfl (lv_at hl 2 rfl) ?_
  refine lv_iload_n hx hb dX7_take_26 rfl (lv_at hl 0 rfl) ?_
  refine lv_iushr hx hb dX7_take_27 rfl ?_
  refine lv_topi (fun z6 ez6 => ?_)
  refine lv_sipush (v := 255) hx hb dX7_take_28 (by decide) ?_
  refine lv_iand hx hb dX7_take_31 ?_
  refine z_iast Z hP hD hS 1 0 rfl rfl (vin (by decide)) dX7_take_32 (fun H locs hP hD hS => ?_)
  have hP : va_P D vwCl ([(tP, .inr (7, [.ref bY, .ref ki, .ref at_, .ref nu, .int 13, .int 0])), (bY, .inl (cI, 300, .inl (upd (upd f (12 : Int32).toNatClampNeg (z3 &&& 255)) (13 : Int32).toNatClampNeg (z6 &&& 255))))]) H := hP
  have hD : va_D A ([(tP, .inr (7, [.ref bY, .ref ki, .ref at_, .ref nu, .int 13, .int 0])), (bY, .inl (cI, 300, .inl (upd (upd f (12 : Int32).toNatClampNeg (z3 &&& 255)) (13 : Int32).toNatClampNeg (z6 &&& 255))))]) := hD
  refine lv_aload_n hx hb dX7_take_33 rfl (lv_at hl 1 rfl) ?_
  refine lv_dup hx hb dX7_take_34 rfl ?_
  refine z_get Z i_X7 hP 0 rfl rfl 4 (by decide) bw_402 rfl dX7_take_35 ?_
  refine lv_iconst (v := 1) hx hb dX7_take_38 (by decide) ?_
  refine lv_iadd hx hb dX7_take_39 ?_
  refine z_topi (y := 14) (by decide) ?_
  refine z_put Z i_X7 tyX7 tyX7_ok nmX7 hP hD hS 0 rfl rfl 4 (by decide) bw_402 rfl rfl rfl (Nat.le_of_ble_eq_true rfl) dX7_take_40 (fun H locs hP hD hS => ?_)
  have hP : va_P D vwCl ([(tP, .inr (7, [.ref bY, .ref ki, .ref at_, .ref nu, .int 14, .int 0])), (bY, .inl (cI, 300, .inl (upd (upd f (12 : Int32).toNatClampNeg (z3 &&& 255)) (13 : Int32).toNatClampNeg (z6 &&& 255))))]) H := hP
  have hD : va_D A ([(tP, .inr (7, [.ref bY, .ref ki, .ref at_, .ref nu, .int 14, .int 0])), (bY, .inl (cI, 300, .inl (upd (upd f (12 : Int32).toNatClampNeg (z3 &&& 255)) (13 : Int32).toNatClampNeg (z6 &&& 255))))]) := hD
  refine lv_iinc (v := 8) (lv' := [(2, .int 8), (0, .ref tP), (1, .int w)]) hx hb dX7_take_43 hl (k := 0) rfl (by decide) (by decide) rfl (fun ls hl => ?_)
  refine lv_goto (tgt := 3) hx hb dX7_take_46 (by decide) ?_
  refine lv_iload_n hx hb dX7_take_3 rfl (lv_at hl 0 rfl) ?_
  refine lv_if_lt (tgt := 49) hx hb dX7_take_4 (by decide) (fun h => absurd h (by decide)) (fun c7 => ?_)
  refine lv_aload_n hx hb dX7_take_7 rfl (lv_at hl 1 rfl) ?_
  refine z_get Z i_X7 hP 0 rfl rfl 4 (by decide) bw_402 rfl dX7_take_8 ?_
  refine lv_sipush (v := 300) hx hb dX7_take_11 (by decide) ?_
  refine lv_icmp_ge (tgt := 49) hx hb dX7_take_14 (by decide) (fun h => absurd h (by decide)) (fun c8 => ?_)
  refine lv_aload_n hx hb dX7_take_17 rfl (lv_at hl 1 rfl) ?_
  refine z_get Z i_X7 hP 0 rfl rfl 0 (by decide) bw_395 rfl dX7_take_18 ?_
  refine lv_aload_n hx hb dX7_take_21 rfl (lv_at hl 1 rfl) ?_
  refine z_get Z i_X7 hP 0 rfl rfl 4 (by decide) bw_402 rfl dX7_take_22 ?_
  refine lv_iload_n hx hb dX7_take_25 rfl (lv_at hl 2 rfl) ?_
  refine lv_iload_n hx hb dX7_take_26 rfl (lv_at hl 0 rfl) ?_
  refine lv_iushr hx hb dX7_take_27 rfl ?_
  refine lv_topi (fun z9 ez9 => ?_)
  refine lv_sipush (v := 255) hx hb dX7_take_28 (by decide) ?_
  refine lv_iand hx hb dX7_take_31 ?_
  refine z_iast Z hP hD hS 1 0 rfl rfl (vin (by decide)) dX7_take_32 (fun H locs hP hD hS => ?_)
  have hP : va_P D vwCl ([(tP, .inr (7, [.ref bY, .ref ki, .ref at_, .ref nu, .int 14, .int 0])), (bY, .inl (cI, 300, .inl (upd (upd (upd f (12 : Int32).toNatClampNeg (z3 &&& 255)) (13 : Int32).toNatClampNeg (z6 &&& 255)) (14 : Int32).toNatClampNeg (z9 &&& 255))))]) H := hP
  have hD : va_D A ([(tP, .inr (7, [.ref bY, .ref ki, .ref at_, .ref nu, .int 14, .int 0])), (bY, .inl (cI, 300, .inl (upd (upd (upd f (12 : Int32).toNatClampNeg (z3 &&& 255)) (13 : Int32).toNatClampNeg (z6 &&& 255)) (14 : Int32).toNatClampNeg (z9 &&& 255))))]) := hD
  refine lv_aload_n hx hb dX7_take_33 rfl (lv_at hl 1 rfl) ?_
  refine lv_dup hx hb dX7_take_34 rfl ?_
  refine z_get Z i_X7 hP 0 rfl rfl 4 (by decide) bw_402 rfl dX7_take_35 ?_
  refine lv_iconst (v := 1) hx hb dX7_take_38 (by decide) ?_
  refine lv_iadd hx hb dX7_take_39 ?_
  refine z_topi (y := 15) (by decide) ?_
  refine z_put Z i_X7 tyX7 tyX7_ok nmX7 hP hD hS 0 rfl rfl 4 (by decide) bw_402 rfl rfl rfl (Nat.le_of_ble_eq_true rfl) dX7_take_40 (fun H locs hP hD hS => ?_)
  have hP : va_P D vwCl ([(tP, .inr (7, [.ref bY, .ref ki, .ref at_, .ref nu, .int 15, .int 0])), (bY, .inl (cI, 300, .inl (upd (upd (upd f (12 : Int32).toNatClampNeg (z3 &&& 255)) (13 : Int32).toNatClampNeg (z6 &&& 255)) (14 : Int32).toNatClampNeg (z9 &&& 255))))]) H := hP
  have hD : va_D A ([(tP, .inr (7, [.ref bY, .ref ki, .ref at_, .ref nu, .int 15, .int 0])), (bY, .inl (cI, 300, .inl (upd (upd (upd f (12 : Int32).toNatClampNeg (z3 &&& 255)) (13 : Int32).toNatClampNeg (z6 &&& 255)) (14 : Int32).toNatClampNeg (z9 &&& 255))))]) := hD
  refine lv_iinc (v := 0) (lv' := [(2, .int 0), (0, .ref tP), (1, .int w)]) hx hb dX7_take_43 hl (k := 0) rfl (by decide) (by decide) rfl (fun ls hl => ?_)
  refine lv_goto (tgt := 3) hx hb dX7_take_46 (by decide) ?_
  refine lv_iload_n hx hb dX7_take_3 rfl (lv_at hl 0 rfl) ?_
  refine lv_if_lt (tgt := 49) hx hb dX7_take_4 (by decide) (fun h => absurd h (by decide)) (fun c10 => ?_)
  refine lv_aload_n hx hb dX7_take_7 rfl (lv_at hl 1 rfl) ?_
  refine z_get Z i_X7 hP 0 rfl rfl 4 (by decide) bw_402 rfl dX7_take_8 ?_
  refine lv_sipush (v := 300) hx hb dX7_take_11 (by decide) ?_
  refine lv_icmp_ge (tgt := 49) hx hb dX7_take_14 (by decide) (fun h => absurd h (by decide)) (fun c11 => ?_)
  refine lv_aload_n hx hb dX7_take_17 rfl (lv_at hl 1 rfl) ?_
  refine z_get Z i_X7 hP 0 rfl rfl 0 (by decide) bw_395 rfl dX7_take_18 ?_
  refine lv_aload_n hx hb dX7_take_21 rfl (lv_at hl 1 rfl) ?_
  refine z_get Z i_X7 hP 0 rfl rfl 4 (by decide) bw_402 rfl dX7_take_22 ?_
  refine lv_iload_n hx hb dX7_take_25 rfl (lv_at hl 2 rfl) ?_
  refine lv_iload_n hx hb dX7_take_26 rfl (lv_at hl 0 rfl) ?_
  refine lv_iushr hx hb dX7_take_27 rfl ?_
  refine lv_topi (fun z12 ez12 => ?_)
  refine lv_sipush (v := 255) hx hb dX7_take_28 (by decide) ?_
  refine lv_iand hx hb dX7_take_31 ?_
  refine z_iast Z hP hD hS 1 0 rfl rfl (vin (by decide)) dX7_take_32 (fun H locs hP hD hS => ?_)
  have hP : va_P D vwCl ([(tP, .inr (7, [.ref bY, .ref ki, .ref at_, .ref nu, .int 15, .int 0])), (bY, .inl (cI, 300, .inl (upd (upd (upd (upd f (12 : Int32).toNatClampNeg (z3 &&& 255)) (13 : Int32).toNatClampNeg (z6 &&& 255)) (14 : Int32).toNatClampNeg (z9 &&& 255)) (15 : Int32).toNatClampNeg (z12 &&& 255))))]) H := hP
  have hD : va_D A ([(tP, .inr (7, [.ref bY, .ref ki, .ref at_, .ref nu, .int 15, .int 0])), (bY, .inl (cI, 300, .inl (upd (upd (upd (upd f (12 : Int32).toNatClampNeg (z3 &&& 255)) (13 : Int32).toNatClampNeg (z6 &&& 255)) (14 : Int32).toNatClampNeg (z9 &&& 255)) (15 : Int32).toNatClampNeg (z12 &&& 255))))]) := hD
  refine lv_aload_n hx hb dX7_take_33 rfl (lv_at hl 1 rfl) ?_
  refine lv_dup hx hb dX7_take_34 rfl ?_
  refine z_get Z i_X7 hP 0 rfl rfl 4 (by decide) bw_402 rfl dX7_take_35 ?_
  refine lv_iconst (v := 1) hx hb dX7_take_38 (by decide) ?_
  refine lv_iadd hx hb dX7_take_39 ?_
  refine z_topi (y := 16) (by decide) ?_
  refine z_put Z i_X7 tyX7 tyX7_ok nmX7 hP hD hS 0 rfl rfl 4 (by decide) bw_402 rfl rfl rfl (Nat.le_of_ble_eq_true rfl) dX7_take_40 (fun H locs hP hD hS => ?_)
  have hP : va_P D vwCl ([(tP, .inr (7, [.ref bY, .ref ki, .ref at_, .ref nu, .int 16, .int 0])), (bY, .inl (cI, 300, .inl (upd (upd (upd (upd f (12 : Int32).toNatClampNeg (z3 &&& 255)) (13 : Int32).toNatClampNeg (z6 &&& 255)) (14 : Int32).toNatClampNeg (z9 &&& 255)) (15 : Int32).toNatClampNeg (z12 &&& 255))))]) H := hP
  have hD : va_D A ([(tP, .inr (7, [.ref bY, .ref ki, .ref at_, .ref nu, .int 16, .int 0])), (bY, .inl (cI, 300, .inl (upd (upd (upd (upd f (12 : Int32).toNatClampNeg (z3 &&& 255)) (13 : Int32).toNatClampNeg (z6 &&& 255)) (14 : Int32).toNatClampNeg (z9 &&& 255)) (15 : Int32).toNatClampNeg (z12 &&& 255))))]) := hD
  refine lv_iinc (v := (-8)) (lv' := [(2, .int (-8)), (0, .ref tP), (1, .int w)]) hx hb dX7_take_43 hl (k := 0) rfl (by decide) (by decide) rfl (fun ls hl => ?_)
  refine lv_goto (tgt := 3) hx hb dX7_take_46 (by decide) ?_
  refine lv_iload_n hx hb dX7_take_3 rfl (lv_at hl 0 rfl) ?_
  refine lv_if_lt (tgt := 49) hx hb dX7_take_4 (by decide) (fun c13 => ?_) (fun h => absurd (by decide) h)
  exact z_vret Z hP hD hS (⟨(upd (upd (upd (upd f (12 : Int32).toNatClampNeg (z3 &&& 255)) (13 : Int32).toNatClampNeg (z6 &&& 255)) (14 : Int32).toNatClampNeg (z9 &&& 255)) (15 : Int32).toNatClampNeg (z12 &&& 255)), rfl⟩) dX7_take_49 (Nat.le_of_ble_eq_true rfl) (Nat.le_of_ble_eq_true rfl)
set_option maxHeartbeats 4000000 in
set_option maxRecDepth 100000 in
theorem c_X7_take_16 (l : Launch) (D : va_G) (cI cM cT : ClassId) (tP : Nat) (bY : Nat) (ki : Nat) (at_ : Nat) (nu : Nat) (f : Nat → Int32) (w : Int32) : Cv l D (ty3 cI cM cT) yX7_take cX7_take 3 0 0 0 [.ref tP, .int w] ([(tP, .inr (7, [.ref bY, .ref ki, .ref at_, .ref nu, .int 16, .int 0])), (bY, .inl (cI, 300, .inl f))]) (fun u => ∃ (g : Nat → Int32), u = [(tP, .inr (7, [.ref bY, .ref ki, .ref at_, .ref nu, .int 20, .int 0])), (bY, .inl (cI, 300, .inl g))]) := by
  refine Cv.of (by decide +kernel) (Nat.le_of_ble_eq_true rfl) ?_
  intro p e s m below meth c A ls Z hin hP hD hl
  have hx := Z.1
  have hb := Z.2.1
  have hS : va_S A s.heap s.heap [] := va_S.rf
  have hl : lv_has ls 3 [(0, .ref tP), (1, .int w)] := hl
  skip
  refine lv_bipush (v := 24) hx hb dX7_take_0 (by decide) ?_
  refine lv_istore_n (lv' := [(2, .int 24), (0, .ref tP), (1, .int w)]) hx hb dX7_take_2 rfl hl (by decide) rfl (fun ls hl => ?_)
  refine lv_iload_n hx hb dX7_take_3 rfl (lv_at hl 0 rfl) ?_
  refine lv_if_lt (tgt := 49) hx hb dX7_take_4 (by decide) (fun h => absurd h (by decide)) (fun c1 => ?_)
  refine lv_aload_n hx hb dX7_take_7 rfl (lv_at hl 1 rfl) ?_
  refine z_get Z i_X7 hP 0 rfl rfl 4 (by decide) bw_402 rfl dX7_take_8 ?_
  refine lv_sipush (v := 300) hx hb dX7_take_11 (by decide) ?_
  refine lv_icmp_ge (tgt := 49) hx hb dX7_take_14 (by decide) (fun h => absurd h (by decide)) (fun c2 => ?_)
  refine lv_aload_n hx hb dX7_take_17 rfl (lv_at hl 1 rfl) ?_
  refine z_get Z i_X7 hP 0 rfl rfl 0 (by decide) bw_395 rfl dX7_take_18 ?_
  refine lv_aload_n hx hb dX7_take_21 rfl (lv_at hl 1 rfl) ?_
  refine z_get Z i_X7 hP 0 rfl rfl 4 (by decide) bw_402 rfl dX7_take_22 ?_
  refine lv_iload_n hx hb dX7_take_25 rfl (lv_at hl 2 rfl) ?_
  refine lv_iload_n hx hb dX7_take_26 rfl (lv_at hl 0 rfl) ?_
  refine lv_iushr hx hb dX7_take_27 rfl ?_
  refine lv_topi (fun z3 ez3 => ?_)
  refine lv_sipush (v := 255) hx hb dX7_take_28 (by decide) ?_
  refine lv_iand hx hb dX7_take_31 ?_
  refine z_iast Z hP hD hS 1 0 rfl rfl (vin (by decide)) dX7_take_32 (fun H locs hP hD hS => ?_)
  have hP : va_P D vwCl ([(tP, .inr (7, [.ref bY, .ref ki, .ref at_, .ref nu, .int 16, .int 0])), (bY, .inl (cI, 300, .inl (upd f (16 : Int32).toNatClampNeg (z3 &&& 255))))]) H := hP
  have hD : va_D A ([(tP, .inr (7, [.ref bY, .ref ki, .ref at_, .ref nu, .int 16, .int 0])), (bY, .inl (cI, 300, .inl (upd f (16 : Int32).toNatClampNeg (z3 &&& 255))))]) := hD
  refine lv_aload_n hx hb dX7_take_33 rfl (lv_at hl 1 rfl) ?_
  refine lv_dup hx hb dX7_take_34 rfl ?_
  refine z_get Z i_X7 hP 0 rfl rfl 4 (by decide) bw_402 rfl dX7_take_35 ?_
  refine lv_iconst (v := 1) hx hb dX7_take_38 (by decide) ?_
  refine lv_iadd hx hb dX7_take_39 ?_
  refine z_topi (y := 17) (by decide) ?_
  refine z_put Z i_X7 tyX7 tyX7_ok nmX7 hP hD hS 0 rfl rfl 4 (by decide) bw_402 rfl rfl rfl (Nat.le_of_ble_eq_true rfl) dX7_take_40 (fun H locs hP hD hS => ?_)
  have hP : va_P D vwCl ([(tP, .inr (7, [.ref bY, .ref ki, .ref at_, .ref nu, .int 17, .int 0])), (bY, .inl (cI, 300, .inl (upd f (16 : Int32).toNatClampNeg (z3 &&& 255))))]) H := hP
  have hD : va_D A ([(tP, .inr (7, [.ref bY, .ref ki, .ref at_, .ref nu, .int 17, .int 0])), (bY, .inl (cI, 300, .inl (upd f (16 : Int32).toNatClampNeg (z3 &&& 255))))]) := hD
  refine lv_iinc (v := 16) (lv' := [(2, .int 16), (0, .ref tP), (1, .int w)]) hx hb dX7_take_43 hl (k := 0) rfl (by decide) (by decide) rfl (fun ls hl => ?_)
  refine lv_goto (tgt := 3) hx hb dX7_take_46 (by decide) ?_
  refine lv_iload_n hx hb dX7_take_3 rfl (lv_at hl 0 rfl) ?_
  refine lv_if_lt (tgt := 49) hx hb dX7_take_4 (by decide) (fun h => absurd h (by decide)) (fun c4 => ?_)
  refine lv_aload_n hx hb dX7_take_7 rfl (lv_at hl 1 rfl) ?_
  refine z_get Z i_X7 hP 0 rfl rfl 4 (by decide) bw_402 rfl dX7_take_8 ?_
  refine lv_sipush (v := 300) hx hb dX7_take_11 (by decide) ?_
  refine lv_icmp_ge (tgt := 49) hx hb dX7_take_14 (by decide) (fun h => absurd h (by decide)) (fun c5 => ?_)
  refine lv_aload_n hx hb dX7_take_17 rfl (lv_at hl 1 rfl) ?_
  refine z_get Z i_X7 hP 0 rfl rfl 0 (by decide) bw_395 rfl dX7_take_18 ?_
  refine lv_aload_n hx hb dX7_take_21 rfl (lv_at hl 1 rfl) ?_
  refine z_get Z i_X7 hP 0 rfl rfl 4 (by decide) bw_402 rfl dX7_take_22 ?_
  refine lv_iload_n hx hb dX7_take_25 rfl (lv_at hl 2 rfl) ?_
  refine lv_iload_n hx hb dX7_take_26 rfl (lv_at hl 0 rfl) ?_
  refine lv_iushr hx hb dX7_take_27 rfl ?_
  refine lv_topi (fun z6 ez6 => ?_)
  refine lv_sipush (v := 255) hx hb dX7_take_28 (by decide) ?_
  refine lv_iand hx hb dX7_take_31 ?_
  refine z_iast Z hP hD hS 1 0 rfl rfl (vin (by decide)) dX7_take_32 (fun H locs hP hD hS => ?_)
  have hP : va_P D vwCl ([(tP, .inr (7, [.ref bY, .ref ki, .ref at_, .ref nu, .int 17, .int 0])), (bY, .inl (cI, 300, .inl (upd (upd f (16 : Int32).toNatClampNeg (z3 &&& 255)) (17 : Int32).toNatClampNeg (z6 &&& 255))))]) H := hP
  have hD : va_D A ([(tP, .inr (7, [.ref bY, .ref ki, .ref at_, .ref nu, .int 17, .int 0])), (bY, .inl (cI, 300, .inl (upd (upd f (16 : Int32).toNatClampNeg (z3 &&& 255)) (17 : Int32).toNatClampNeg (z6 &&& 255))))]) := hD
  refine lv_aload_n hx hb dX7_take_33 rfl (lv_at hl 1 rfl) ?_
  refine lv_dup hx hb dX7_take_34 rfl ?_
  refine z_get Z i_X7 hP 0 rfl rfl 4 (by decide) bw_402 rfl dX7_take_35 ?_
  refine lv_iconst (v := 1) hx hb dX7_take_38 (by decide) ?_
  refine lv_iadd hx hb dX7_take_39 ?_
  refine z_topi (y := 18) (by decide) ?_
  refine z_put Z i_X7 tyX7 tyX7_ok nmX7 hP hD hS 0 rfl rfl 4 (by decide) bw_402 rfl rfl rfl (Nat.le_of_ble_eq_true rfl) dX7_take_40 (fun H locs hP hD hS => ?_)
  have hP : va_P D vwCl ([(tP, .inr (7, [.ref bY, .ref ki, .ref at_, .ref nu, .int 18, .int 0])), (bY, .inl (cI, 300, .inl (upd (upd f (16 : Int32).toNatClampNeg (z3 &&& 255)) (17 : Int32).toNatClampNeg (z6 &&& 255))))]) H := hP
  have hD : va_D A ([(tP, .inr (7, [.ref bY, .ref ki, .ref at_, .ref nu, .int 18, .int 0])), (bY, .inl (cI, 300, .inl (upd (upd f (16 : Int32).toNatClampNeg (z3 &&& 255)) (17 : Int32).toNatClampNeg (z6 &&& 255))))]) := hD
  refine lv_iinc (v := 8) (lv' := [(2, .int 8), (0, .ref tP), (1, .int w)]) hx hb dX7_take_43 hl (k := 0) rfl (by decide) (by decide) rfl (fun ls hl => ?_)
  refine lv_goto (tgt := 3) hx hb dX7_take_46 (by decide) ?_
  refine lv_iload_n hx hb dX7_take_3 rfl (lv_at hl 0 rfl) ?_
  refine lv_if_lt (tgt := 49) hx hb dX7_take_4 (by decide) (fun h => absurd h (by decide)) (fun c7 => ?_)
  refine lv_aload_n hx hb dX7_take_7 rfl (lv_at hl 1 rfl) ?_
  refine z_get Z i_X7 hP 0 rfl rfl 4 (by decide) bw_402 rfl dX7_take_8 ?_
  refine lv_sipush (v := 300) hx hb dX7_take_11 (by decide) ?_
  refine lv_icmp_ge (tgt := 49) hx hb dX7_take_14 (by decide) (fun h => absurd h (by decide)) (fun c8 => ?_)
  refine lv_aload_n hx hb dX7_take_17 rfl (lv_at hl 1 rfl) ?_
  refine z_get Z i_X7 hP 0 rfl rfl 0 (by decide) bw_395 rfl dX7_take_18 ?_
  refine lv_aload_n hx hb dX7_take_21 rfl (lv_at hl 1 rfl) ?_
  refine z_get Z i_X7 hP 0 rfl rfl 4 (by decide) bw_402 rfl dX7_take_22 ?_
  refine lv_iload_n hx hb dX7_take_25 rfl (lv_at hl 2 rfl) ?_
  refine lv_iload_n hx hb dX7_take_26 rfl (lv_at hl 0 rfl) ?_
  refine lv_iushr hx hb dX7_take_27 rfl ?_
  refine lv_topi (fun z9 ez9 => ?_)
  refine lv_sipush (v := 255) hx hb dX7_take_28 (by decide) ?_
  refine lv_iand hx hb dX7_take_31 ?_
  refine z_iast Z hP hD hS 1 0 rfl rfl (vin (by decide)) dX7_take_32 (fun H locs hP hD hS => ?_)
  have hP : va_P D vwCl ([(tP, .inr (7, [.ref bY, .ref ki, .ref at_, .ref nu, .int 18, .int 0])), (bY, .inl (cI, 300, .inl (upd (upd (upd f (16 : Int32).toNatClampNeg (z3 &&& 255)) (17 : Int32).toNatClampNeg (z6 &&& 255)) (18 : Int32).toNatClampNeg (z9 &&& 255))))]) H := hP
  have hD : va_D A ([(tP, .inr (7, [.ref bY, .ref ki, .ref at_, .ref nu, .int 18, .int 0])), (bY, .inl (cI, 300, .inl (upd (upd (upd f (16 : Int32).toNatClampNeg (z3 &&& 255)) (17 : Int32).toNatClampNeg (z6 &&& 255)) (18 : Int32).toNatClampNeg (z9 &&& 255))))]) := hD
  refine lv_aload_n hx hb dX7_take_33 rfl (lv_at hl 1 rfl) ?_
  refine lv_dup hx hb dX7_take_34 rfl ?_
  refine z_get Z i_X7 hP 0 rfl rfl 4 (by decide) bw_402 rfl dX7_take_35 ?_
  refine lv_iconst (v := 1) hx hb dX7_take_38 (by decide) ?_
  refine lv_iadd hx hb dX7_take_39 ?_
  refine z_topi (y := 19) (by decide) ?_
  refine z_put Z i_X7 tyX7 tyX7_ok nmX7 hP hD hS 0 rfl rfl 4 (by decide) bw_402 rfl rfl rfl (Nat.le_of_ble_eq_true rfl) dX7_take_40 (fun H locs hP hD hS => ?_)
  have hP : va_P D vwCl ([(tP, .inr (7, [.ref bY, .ref ki, .ref at_, .ref nu, .int 19, .int 0])), (bY, .inl (cI, 300, .inl (upd (upd (upd f (16 : Int32).toNatClampNeg (z3 &&& 255)) (17 : Int32).toNatClampNeg (z6 &&& 255)) (18 : Int32).toNatClampNeg (z9 &&& 255))))]) H := hP
  have hD : va_D A ([(tP, .inr (7, [.ref bY, .ref ki, .ref at_, .ref nu, .int 19, .int 0])), (bY, .inl (cI, 300, .inl (upd (upd (upd f (16 : Int32).toNatClampNeg (z3 &&& 255)) (17 : Int32).toNatClampNeg (z6 &&& 255)) (18 : Int32).toNatClampNeg (z9 &&& 255))))]) := hD
  refine lv_iinc (v := 0) (lv' := [(2, .int 0), (0, .ref tP), (1, .int w)]) hx hb dX7_take_43 hl (k := 0) rfl (by decide) (by decide) rfl (fun ls hl => ?_)
  refine lv_goto (tgt := 3) hx hb dX7_take_46 (by decide) ?_
  refine lv_iload_n hx hb dX7_take_3 rfl (lv_at hl 0 rfl) ?_
  refine lv_if_lt (tgt := 49) hx hb dX7_take_4 (by decide) (fun h => absurd h (by decide)) (fun c10 => ?_)
  refine lv_aload_n hx hb dX7_take_7 rfl (lv_at hl 1 rfl) ?_
  refine z_get Z i_X7 hP 0 rfl rfl 4 (by decide) bw_402 rfl dX7_take_8 ?_
  refine lv_sipush (v := 300) hx hb dX7_take_11 (by decide) ?_
  refine lv_icmp_ge (tgt := 49) hx hb dX7_take_14 (by decide) (fun h => absurd h (by decide)) (fun c11 => ?_)
  refine lv_aload_n hx hb dX7_take_17 rfl (lv_at hl 1 rfl) ?_
  refine z_get Z i_X7 hP 0 rfl rfl 0 (by decide) bw_395 rfl dX7_take_18 ?_
  refine lv_aload_n hx hb dX7_take_21 rfl (lv_at hl 1 rfl) ?_
  refine z_get Z i_X7 hP 0 rfl rfl 4 (by decide) bw_402 rfl dX7_take_22 ?_
  refine lv_iload_n hx hb dX7_take_25 rfl (lv_at hl 2 rfl) ?_
  refine lv_iload_n hx hb dX7_take_26 rfl (lv_at hl 0 rfl) ?_
  refine lv_iushr hx hb dX7_take_27 rfl ?_
  refine lv_topi (fun z12 ez12 => ?_)
  refine lv_sipush (v := 255) hx hb dX7_take_28 (by decide) ?_
  refine lv_iand hx hb dX7_take_31 ?_
  refine z_iast Z hP hD hS 1 0 rfl rfl (vin (by decide)) dX7_take_32 (fun H locs hP hD hS => ?_)
  have hP : va_P D vwCl ([(tP, .inr (7, [.ref bY, .ref ki, .ref at_, .ref nu, .int 19, .int 0])), (bY, .inl (cI, 300, .inl (upd (upd (upd (upd f (16 : Int32).toNatClampNeg (z3 &&& 255)) (17 : Int32).toNatClampNeg (z6 &&& 255)) (18 : Int32).toNatClampNeg (z9 &&& 255)) (19 : Int32).toNatClampNeg (z12 &&& 255))))]) H := hP
  have hD : va_D A ([(tP, .inr (7, [.ref bY, .ref ki, .ref at_, .ref nu, .int 19, .int 0])), (bY, .inl (cI, 300, .inl (upd (upd (upd (upd f (16 : Int32).toNatClampNeg (z3 &&& 255)) (17 : Int32).toNatClampNeg (z6 &&& 255)) (18 : Int32).toNatClampNeg (z9 &&& 255)) (19 : Int32).toNatClampNeg (z12 &&& 255))))]) := hD
  refine lv_aload_n hx hb dX7_take_33 rfl (lv_at hl 1 rfl) ?_
  refine lv_dup hx hb dX7_take_34 rfl ?_
  refine z_get Z i_X7 hP 0 rfl rfl 4 (by decide) bw_402 rfl dX7_take_35 ?_
  refine lv_iconst (v := 1) hx hb dX7_take_38 (by decide) ?_
  refine lv_iadd hx hb dX7_take_39 ?_
  refine z_topi (y := 20) (by decide) ?_
  refine z_put Z i_X7 tyX7 tyX7_ok nmX7 hP hD hS 0 rfl rfl 4 (by decide) bw_402 rfl rfl rfl (Nat.le_of_ble_eq_true rfl) dX7_take_40 (fun H locs hP hD hS => ?_)
  have hP : va_P D vwCl ([(tP, .inr (7, [.ref bY, .ref ki, .ref at_, .ref nu, .int 20, .int 0])), (bY, .inl (cI, 300, .inl (upd (upd (upd (upd f (16 : Int32).toNatClampNeg (z3 &&& 255)) (17 : Int32).toNatClampNeg (z6 &&& 255)) (18 : Int32).toNatClampNeg (z9 &&& 255)) (19 : Int32).toNatClampNeg (z12 &&& 255))))]) H := hP
  have hD : va_D A ([(tP, .inr (7, [.ref bY, .ref ki, .ref at_, .ref nu, .int 20, .int 0])), (bY, .inl (cI, 300, .inl (upd (upd (upd (upd f (16 : Int32).toNatClampNeg (z3 &&& 255)) (17 : Int32).toNatClampNeg (z6 &&& 255)) (18 : Int32).toNatClampNeg (z9 &&& 255)) (19 : Int32).toNatClampNeg (z12 &&& 255))))]) := hD
  refine lv_iinc (v := (-8)) (lv' := [(2, .int (-8)), (0, .ref tP), (1, .int w)]) hx hb dX7_take_43 hl (k := 0) rfl (by decide) (by decide) rfl (fun ls hl => ?_)
  refine lv_goto (tgt := 3) hx hb dX7_take_46 (by decide) ?_
  refine lv_iload_n hx hb dX7_take_3 rfl (lv_at hl 0 rfl) ?_
  refine lv_if_lt (tgt := 49) hx hb dX7_take_4 (by decide) (fun c13 => ?_) (fun h => absurd (by decide) h)
  exact z_vret Z hP hD hS (⟨(upd (upd (upd (upd f (16 : Int32).toNatClampNeg (z3 &&& 255)) (17 : Int32).toNatClampNeg (z6 &&& 255)) (18 : Int32).toNatClampNeg (z9 &&& 255)) (19 : Int32).toNatClampNeg (z12 &&& 255)), rfl⟩) dX7_take_49 (Nat.le_of_ble_eq_true rfl) (Nat.le_of_ble_eq_true rfl)
set_option maxHeartbeats 4000000 in
set_option maxRecDepth 100000 in
theorem c_X11_feed (l : Launch) (D : va_G) (cI cM cT : ClassId) (x : Nat) (st : Nat) (dr : Nat) (nw : Nat) (kp : Nat) (rd : Nat) (tm : Nat) (co : Nat) (tP : Nat) (tX : Nat) (bY : Nat) (ki : Nat) (at_ : Nat) (nu : Nat) (p0 : Int32) (p1 : Int32) (p2 : Int32) (p3 : Int32) (p4 : Int32) : Ci l D (ty3 cI cM cT) yX11_feed cX11_feed 6 (some .int) 3 0 0 [.ref x, .int p0, .int p1, .int p2, .int p3, .int p4] ([(x, .inr (11, [.ref st, .ref dr, .ref nw, .ref kp, .ref rd, .ref tm, .ref co])), (rd, .inr (2, [.ref tP, .int (-1), .int (-1), .int 0, .int 37, .int 0, .ref tX])), (tP, .inr (7, [.ref bY, .ref ki, .ref at_, .ref nu, .int 0, .int 0])), (bY, .inl (cI, 300, .inl (fun _ => 0)))]) (fun r u => r = 20) := by
  refine Ci.of (by decide +kernel) (Nat.le_of_ble_eq_true rfl) ?_
  intro p e s m below meth c A ls Z hin hP hD hl
  have hx := Z.1
  have hb := Z.2.1
  have hS : va_S A s.heap s.heap [] := va_S.rf
  have hl : lv_has ls 6 [(0, .ref x), (1, .int p0), (2, .int p1), (3, .int p2), (4, .int p3), (5, .int p4)] := hl
  skip
  refine lv_aload_n hx hb dX11_feed_0 rfl (lv_at hl 0 rfl) ?_
  refine z_get Z i_X11 hP 0 rfl rfl 4 (by decide) bw_472 rfl dX11_feed_1 ?_
  refine z_get Z i_X2 hP 1 rfl rfl 0 (by decide) bw_422 rfl dX11_feed_4 ?_
  refine z_get Z i_X7 hP 2 rfl rfl 4 (by decide) bw_403 rfl dX11_feed_7 ?_
  refine lv_bipush (v := 20) hx hb dX11_feed_10 (by decide) ?_
  refine lv_iadd hx hb dX11_feed_12 ?_
  refine z_topi (y := 20) (by decide) ?_
  refine lv_sipush (v := 300) hx hb dX11_feed_13 (by decide) ?_
  refine lv_icmp_le (tgt := 21) hx hb dX11_feed_16 (by decide) (fun c1 => ?_) (fun h => absurd (by decide) h)
  refine lv_aload_n hx hb dX11_feed_21 rfl (lv_at hl 0 rfl) ?_
  refine z_get Z i_X11 hP 0 rfl rfl 4 (by decide) bw_472 rfl dX11_feed_22 ?_
  refine z_get Z i_X2 hP 1 rfl rfl 0 (by decide) bw_422 rfl dX11_feed_25 ?_
  refine lv_iload_n hx hb dX11_feed_28 rfl (lv_at hl 1 rfl) ?_
  have hPc := hP.sub2 (wc := [(tP, .inr (7, [.ref bY, .ref ki, .ref at_, .ref nu, .int 0, .int 0])), (bY, .inl (cI, 300, .inl (fun _ => 0)))]) [2, 3] rfl
  have hDc := hD.sub (ws' := [(tP, .inr (7, [.ref bY, .ref ki, .ref at_, .ref nu, .int 0, .int 0])), (bY, .inl (cI, 300, .inl (fun _ => 0)))]) [2, 3] (by decide) rfl
  refine raw_Vv (ci := 7) (q0 := 0) (nA := 1) (As := [.int p0]) (rest := []) Z hl.1 (c_X7_take_0 l D cI cM cT tP bY ki at_ nu (fun _ => 0) p0) (bw_V bw_539 bw_540 bw_541 bw_90 bw_542) ⟨by decide +kernel, by decide +kernel, by decide +kernel⟩ rfl ⟨Nat.le_of_ble_eq_true rfl, Nat.le_of_ble_eq_true rfl⟩ rfl rfl rfl hPc hDc hS rfl (Nat.le_of_ble_eq_true rfl) dX11_feed_29 ⟨Nat.le_of_ble_eq_true rfl, Nat.le_of_ble_eq_true rfl⟩ (fun u2 H1 locs1 h4 hku2 hP1 hD1 hS1 => ?_)
  obtain ⟨g_5, rfl⟩ := h4
  obtain ⟨hP, hD⟩ := z_join (wr := [(x, .inr (11, [.ref st, .ref dr, .ref nw, .ref kp, .ref rd, .ref tm, .ref co])), (rd, .inr (2, [.ref tP, .int (-1), .int (-1), .int 0, .int 37, .int 0, .ref tX]))]) Z hS hP hD [2, 3] [0, 1] rfl (by decide) rfl (by decide) (by decide) hku2 hP1 hD1
  have hS := hS1
  clear hS1
  generalize H1 = H at hP hS ⊢
  generalize locs1 = locs at hS ⊢
  have hP : va_P D vwCl ([(x, .inr (11, [.ref st, .ref dr, .ref nw, .ref kp, .ref rd, .ref tm, .ref co])), (rd, .inr (2, [.ref tP, .int (-1), .int (-1), .int 0, .int 37, .int 0, .ref tX])), (tP, .inr (7, [.ref bY, .ref ki, .ref at_, .ref nu, .int 4, .int 0])), (bY, .inl (cI, 300, .inl g_5))]) H := hP
  have hD : va_D A ([(x, .inr (11, [.ref st, .ref dr, .ref nw, .ref kp, .ref rd, .ref tm, .ref co])), (rd, .inr (2, [.ref tP, .int (-1), .int (-1), .int 0, .int 37, .int 0, .ref tX])), (tP, .inr (7, [.ref bY, .ref ki, .ref at_, .ref nu, .int 4, .int 0])), (bY, .inl (cI, 300, .inl g_5))]) := hD
  refine lv_aload_n hx hb dX11_feed_32 rfl (lv_at hl 0 rfl) ?_
  refine z_get Z i_X11 hP 0 rfl rfl 4 (by decide) bw_472 rfl dX11_feed_33 ?_
  refine z_get Z i_X2 hP 1 rfl rfl 0 (by decide) bw_422 rfl dX11_feed_36 ?_
  refine lv_iload_n hx hb dX11_feed_39 rfl (lv_at hl 2 rfl) ?_
  have hPc := hP.sub2 (wc := [(tP, .inr (7, [.ref bY, .ref ki, .ref at_, .ref nu, .int 4, .int 0])), (bY, .inl (cI, 300, .inl g_5))]) [2, 3] rfl
  have hDc := hD.sub (ws' := [(tP, .inr (7, [.ref bY, .ref ki, .ref at_, .ref nu, .int 4, .int 0])), (bY, .inl (cI, 300, .inl g_5))]) [2, 3] (by decide) rfl
  refine raw_Vv (ci := 7) (q0 := 0) (nA := 1) (As := [.int p1]) (rest := []) Z hl.1 (c_X7_take_4 l D cI cM cT tP bY ki at_ nu g_5 p1) (bw_V bw_539 bw_540 bw_541 bw_90 bw_542) ⟨by decide +kernel, by decide +kernel, by decide +kernel⟩ rfl ⟨Nat.le_of_ble_eq_true rfl, Nat.le_of_ble_eq_true rfl⟩ rfl rfl rfl hPc hDc hS rfl (Nat.le_of_ble_eq_true rfl) dX11_feed_40 ⟨Nat.le_of_ble_eq_true rfl, Nat.le_of_ble_eq_true rfl⟩ (fun u6 H1 locs1 h8 hku6 hP1 hD1 hS1 => ?_)
  obtain ⟨g_9, rfl⟩ := h8
  obtain ⟨hP, hD⟩ := z_join (wr := [(x, .inr (11, [.ref st, .ref dr, .ref nw, .ref kp, .ref rd, .ref tm, .ref co])), (rd, .inr (2, [.ref tP, .int (-1), .int (-1), .int 0, .int 37, .int 0, .ref tX]))]) Z hS hP hD [2, 3] [0, 1] rfl (by decide) rfl (by decide) (by decide) hku6 hP1 hD1
  have hS := hS1
  clear hS1
  generalize H1 = H at hP hS ⊢
  generalize locs1 = locs at hS ⊢
  have hP : va_P D vwCl ([(x, .inr (11, [.ref st, .ref dr, .ref nw, .ref kp, .ref rd, .ref tm, .ref co])), (rd, .inr (2, [.ref tP, .int (-1), .int (-1), .int 0, .int 37, .int 0, .ref tX])), (tP, .inr (7, [.ref bY, .ref ki, .ref at_, .ref nu, .int 8, .int 0])), (bY, .inl (cI, 300, .inl g_9))]) H := hP
  have hD : va_D A ([(x, .inr (11, [.ref st, .ref dr, .ref nw, .ref kp, .ref rd, .ref tm, .ref co])), (rd, .inr (2, [.ref tP, .int (-1), .int (-1), .int 0, .int 37, .int 0, .ref tX])), (tP, .inr (7, [.ref bY, .ref ki, .ref at_, .ref nu, .int 8, .int 0])), (bY, .inl (cI, 300, .inl g_9))]) := hD
  refine lv_aload_n hx hb dX11_feed_43 rfl (lv_at hl 0 rfl) ?_
  refine z_get Z i_X11 hP 0 rfl rfl 4 (by decide) bw_472 rfl dX11_feed_44 ?_
  refine z_get Z i_X2 hP 1 rfl rfl 0 (by decide) bw_422 rfl dX11_feed_47 ?_
  refine lv_iload_n hx hb dX11_feed_50 rfl (lv_at hl 3 rfl) ?_
  have hPc := hP.sub2 (wc := [(tP, .inr (7, [.ref bY, .ref ki, .ref at_, .ref nu, .int 8, .int 0])), (bY, .inl (cI, 300, .inl g_9))]) [2, 3] rfl
  have hDc := hD.sub (ws' := [(tP, .inr (7, [.ref bY, .ref ki, .ref at_, .ref nu, .int 8, .int 0])), (bY, .inl (cI, 300, .inl g_9))]) [2, 3] (by decide) rfl
  refine raw_Vv (ci := 7) (q0 := 0) (nA := 1) (As := [.int p2]) (rest := []) Z hl.1 (c_X7_take_8 l D cI cM cT tP bY ki at_ nu g_9 p2) (bw_V bw_539 bw_540 bw_541 bw_90 bw_542) ⟨by decide +kernel, by decide +kernel, by decide +kernel⟩ rfl ⟨Nat.le_of_ble_eq_true rfl, Nat.le_of_ble_eq_true rfl⟩ rfl rfl rfl hPc hDc hS rfl (Nat.le_of_ble_eq_true rfl) dX11_feed_51 ⟨Nat.le_of_ble_eq_true rfl, Nat.le_of_ble_eq_true rfl⟩ (fun u10 H1 locs1 h12 hku10 hP1 hD1 hS1 => ?_)
  obtain ⟨g_13, rfl⟩ := h12
  obtain ⟨hP, hD⟩ := z_join (wr := [(x, .inr (11, [.ref st, .ref dr, .ref nw, .ref kp, .ref rd, .ref tm, .ref co])), (rd, .inr (2, [.ref tP, .int (-1), .int (-1), .int 0, .int 37, .int 0, .ref tX]))]) Z hS hP hD [2, 3] [0, 1] rfl (by decide) rfl (by decide) (by decide) hku10 hP1 hD1
  have hS := hS1
  clear hS1
  generalize H1 = H at hP hS ⊢
  generalize locs1 = locs at hS ⊢
  have hP : va_P D vwCl ([(x, .inr (11, [.ref st, .ref dr, .ref nw, .ref kp, .ref rd, .ref tm, .ref co])), (rd, .inr (2, [.ref tP, .int (-1), .int (-1), .int 0, .int 37, .int 0, .ref tX])), (tP, .inr (7, [.ref bY, .ref ki, .ref at_, .ref nu, .int 12, .int 0])), (bY, .inl (cI, 300, .inl g_13))]) H := hP
  have hD : va_D A ([(x, .inr (11, [.ref st, .ref dr, .ref nw, .ref kp, .ref rd, .ref tm, .ref co])), (rd, .inr (2, [.ref tP, .int (-1), .int (-1), .int 0, .int 37, .int 0, .ref tX])), (tP, .inr (7, [.ref bY, .ref ki, .ref at_, .ref nu, .int 12, .int 0])), (bY, .inl (cI, 300, .inl g_13))]) := hD
  refine lv_aload_n hx hb dX11_feed_54 rfl (lv_at hl 0 rfl) ?_
  refine z_get Z i_X11 hP 0 rfl rfl 4 (by decide) bw_472 rfl dX11_feed_55 ?_
  refine z_get Z i_X2 hP 1 rfl rfl 0 (by decide) bw_422 rfl dX11_feed_58 ?_
  refine lv_iload hx hb dX11_feed_61 (lv_at hl 4 rfl) ?_
  have hPc := hP.sub2 (wc := [(tP, .inr (7, [.ref bY, .ref ki, .ref at_, .ref nu, .int 12, .int 0])), (bY, .inl (cI, 300, .inl g_13))]) [2, 3] rfl
  have hDc := hD.sub (ws' := [(tP, .inr (7, [.ref bY, .ref ki, .ref at_, .ref nu, .int 12, .int 0])), (bY, .inl (cI, 300, .inl g_13))]) [2, 3] (by decide) rfl
  refine raw_Vv (ci := 7) (q0 := 0) (nA := 1) (As := [.int p3]) (rest := []) Z hl.1 (c_X7_take_12 l D cI cM cT tP bY ki at_ nu g_13 p3) (bw_V bw_539 bw_540 bw_541 bw_90 bw_542) ⟨by decide +kernel, by decide +kernel, by decide +kernel⟩ rfl ⟨Nat.le_of_ble_eq_true rfl, Nat.le_of_ble_eq_true rfl⟩ rfl rfl rfl hPc hDc hS rfl (Nat.le_of_ble_eq_true rfl) dX11_feed_63 ⟨Nat.le_of_ble_eq_true rfl, Nat.le_of_ble_eq_true rfl⟩ (fun u14 H1 locs1 h16 hku14 hP1 hD1 hS1 => ?_)
  obtain ⟨g_17, rfl⟩ := h16
  obtain ⟨hP, hD⟩ := z_join (wr := [(x, .inr (11, [.ref st, .ref dr, .ref nw, .ref kp, .ref rd, .ref tm, .ref co])), (rd, .inr (2, [.ref tP, .int (-1), .int (-1), .int 0, .int 37, .int 0, .ref tX]))]) Z hS hP hD [2, 3] [0, 1] rfl (by decide) rfl (by decide) (by decide) hku14 hP1 hD1
  have hS := hS1
  clear hS1
  generalize H1 = H at hP hS ⊢
  generalize locs1 = locs at hS ⊢
  have hP : va_P D vwCl ([(x, .inr (11, [.ref st, .ref dr, .ref nw, .ref kp, .ref rd, .ref tm, .ref co])), (rd, .inr (2, [.ref tP, .int (-1), .int (-1), .int 0, .int 37, .int 0, .ref tX])), (tP, .inr (7, [.ref bY, .ref ki, .ref at_, .ref nu, .int 16, .int 0])), (bY, .inl (cI, 300, .inl g_17))]) H := hP
  have hD : va_D A ([(x, .inr (11, [.ref st, .ref dr, .ref nw, .ref kp, .ref rd, .ref tm, .ref co])), (rd, .inr (2, [.ref tP, .int (-1), .int (-1), .int 0, .int 37, .int 0, .ref tX])), (tP, .inr (7, [.ref bY, .ref ki, .ref at_, .ref nu, .int 16, .int 0])), (bY, .inl (cI, 300, .inl g_17))]) := hD
  refine lv_aload_n hx hb dX11_feed_66 rfl (lv_at hl 0 rfl) ?_
  refine z_get Z i_X11 hP 0 rfl rfl 4 (by decide) bw_472 rfl dX11_feed_67 ?_
  refine z_get Z i_X2 hP 1 rfl rfl 0 (by decide) bw_422 rfl dX11_feed_70 ?_
  refine lv_iload hx hb dX11_feed_73 (lv_at hl 5 rfl) ?_
  have hPc := hP.sub2 (wc := [(tP, .inr (7, [.ref bY, .ref ki, .ref at_, .ref nu, .int 16, .int 0])), (bY, .inl (cI, 300, .inl g_17))]) [2, 3] rfl
  have hDc := hD.sub (ws' := [(tP, .inr (7, [.ref bY, .ref ki, .ref at_, .ref nu, .int 16, .int 0])), (bY, .inl (cI, 300, .inl g_17))]) [2, 3] (by decide) rfl
  refine raw_Vv (ci := 7) (q0 := 0) (nA := 1) (As := [.int p4]) (rest := []) Z hl.1 (c_X7_take_16 l D cI cM cT tP bY ki at_ nu g_17 p4) (bw_V bw_539 bw_540 bw_541 bw_90 bw_542) ⟨by decide +kernel, by decide +kernel, by decide +kernel⟩ rfl ⟨Nat.le_of_ble_eq_true rfl, Nat.le_of_ble_eq_true rfl⟩ rfl rfl rfl hPc hDc hS rfl (Nat.le_of_ble_eq_true rfl) dX11_feed_75 ⟨Nat.le_of_ble_eq_true rfl, Nat.le_of_ble_eq_true rfl⟩ (fun u18 H1 locs1 h20 hku18 hP1 hD1 hS1 => ?_)
  obtain ⟨g_21, rfl⟩ := h20
  obtain ⟨hP, hD⟩ := z_join (wr := [(x, .inr (11, [.ref st, .ref dr, .ref nw, .ref kp, .ref rd, .ref tm, .ref co])), (rd, .inr (2, [.ref tP, .int (-1), .int (-1), .int 0, .int 37, .int 0, .ref tX]))]) Z hS hP hD [2, 3] [0, 1] rfl (by decide) rfl (by decide) (by decide) hku18 hP1 hD1
  have hS := hS1
  clear hS1
  generalize H1 = H at hP hS ⊢
  generalize locs1 = locs at hS ⊢
  have hP : va_P D vwCl ([(x, .inr (11, [.ref st, .ref dr, .ref nw, .ref kp, .ref rd, .ref tm, .ref co])), (rd, .inr (2, [.ref tP, .int (-1), .int (-1), .int 0, .int 37, .int 0, .ref tX])), (tP, .inr (7, [.ref bY, .ref ki, .ref at_, .ref nu, .int 20, .int 0])), (bY, .inl (cI, 300, .inl g_21))]) H := hP
  have hD : va_D A ([(x, .inr (11, [.ref st, .ref dr, .ref nw, .ref kp, .ref rd, .ref tm, .ref co])), (rd, .inr (2, [.ref tP, .int (-1), .int (-1), .int 0, .int 37, .int 0, .ref tX])), (tP, .inr (7, [.ref bY, .ref ki, .ref at_, .ref nu, .int 20, .int 0])), (bY, .inl (cI, 300, .inl g_21))]) := hD
  refine lv_aload_n hx hb dX11_feed_78 rfl (lv_at hl 0 rfl) ?_
  refine z_get Z i_X11 hP 0 rfl rfl 4 (by decide) bw_472 rfl dX11_feed_79 ?_
  refine z_get Z i_X2 hP 1 rfl rfl 0 (by decide) bw_422 rfl dX11_feed_82 ?_
  refine z_get Z i_X7 hP 2 rfl rfl 4 (by decide) bw_403 rfl dX11_feed_85 ?_
  exact z_ret Z rfl hP hD hS ((by first | rfl | assumption)) dX11_feed_88 (Nat.le_of_ble_eq_true rfl) (Nat.le_of_ble_eq_true rfl)
set_option maxHeartbeats 4000000 in
set_option maxRecDepth 100000 in
theorem c_X9_clear (l : Launch) (D : va_G) (cI cM cT : ClassId) (t0 : Nat) (cd : Nat) (lF : Nat) (lT : Nat) (cK : Nat) (cM_ : Nat) (n1 : Int32) (n2 : Int32) (f1 : Nat → Int32) (f2 : Nat → Int32) : Cv l D (ty3 cI cM cT) yX9_clear cX9_clear 1 1 0 0 [.ref t0] ([(t0, .inr (9, [.ref cd, .ref lF, .ref lT, .ref cK, .ref cM_, .int n1, .int n2])), (lF, .inl (cI, 4, .inl f1)), (lT, .inl (cI, 4, .inl f2))]) (fun u => ∃ (g1 : Nat → Int32) (g2 : Nat → Int32), u = [(t0, .inr (9, [.ref cd, .ref lF, .ref lT, .ref cK, .ref cM_, .int 0, .int 0])), (lF, .inl (cI, 4, .inl g1)), (lT, .inl (cI, 4, .inl g2))]) := by
  refine Cv.of (by decide +kernel) (Nat.le_of_ble_eq_true rfl) ?_
  intro p e s m below meth c A ls Z hin hP hD hl
  have hx := Z.1
  have hb := Z.2.1
  have hS : va_S A s.heap s.heap [] := va_S.rf
  have hl : lv_has ls 1 [(0, .ref t0)] := hl
  skip
  refine lv_aload_n hx hb dX9_clear_0 rfl (lv_at hl 0 rfl) ?_
  refine lv_iconst (v := 0) hx hb dX9_clear_1 (by decide) ?_
  refine z_put Z i_X9 tyX9 tyX9_ok nmX9 hP hD hS 0 rfl rfl 5 (by decide) bw_310 rfl rfl rfl (Nat.le_of_ble_eq_true rfl) dX9_clear_2 (fun H locs hP hD hS => ?_)
  have hP : va_P D vwCl ([(t0, .inr (9, [.ref cd, .ref lF, .ref lT, .ref cK, .ref cM_, .int 0, .int n2])), (lF, .inl (cI, 4, .inl f1)), (lT, .inl (cI, 4, .inl f2))]) H := hP
  have hD : va_D A ([(t0, .inr (9, [.ref cd, .ref lF, .ref lT, .ref cK, .ref cM_, .int 0, .int n2])), (lF, .inl (cI, 4, .inl f1)), (lT, .inl (cI, 4, .inl f2))]) := hD
  refine lv_aload_n hx hb dX9_clear_5 rfl (lv_at hl 0 rfl) ?_
  refine lv_iconst (v := 0) hx hb dX9_clear_6 (by decide) ?_
  refine z_put Z i_X9 tyX9 tyX9_ok nmX9 hP hD hS 0 rfl rfl 6 (by decide) bw_312 rfl rfl rfl (Nat.le_of_ble_eq_true rfl) dX9_clear_7 (fun H locs hP hD hS => ?_)
  have hP : va_P D vwCl ([(t0, .inr (9, [.ref cd, .ref lF, .ref lT, .ref cK, .ref cM_, .int 0, .int 0])), (lF, .inl (cI, 4, .inl f1)), (lT, .inl (cI, 4, .inl f2))]) H := hP
  have hD : va_D A ([(t0, .inr (9, [.ref cd, .ref lF, .ref lT, .ref cK, .ref cM_, .int 0, .int 0])), (lF, .inl (cI, 4, .inl f1)), (lT, .inl (cI, 4, .inl f2))]) := hD
  refine lv_aload_n hx hb dX9_clear_10 rfl (lv_at hl 0 rfl) ?_
  refine z_get Z i_X9 hP 0 rfl rfl 1 (by decide) bw_300 rfl dX9_clear_11 ?_
  refine lv_iconst (v := 0) hx hb dX9_clear_14 (by decide) ?_
  have hPc := hP.sub2 (wc := [(lF, .inl (cI, 4, .inl f1))]) [1] rfl
  have hDc := hD.sub (ws' := [(lF, .inl (cI, 4, .inl f1))]) [1] (by decide) rfl
  refine raw_Sv (nA := 2) (As := [.ref lF, .int 0]) (rest := []) Z hl.1 (c_J7_fill_53178 l D cI cM cT lF 4 f1 0 (by omega)) (bw_S bw_559 bw_560 bw_94 bw_561) ⟨by decide +kernel, by decide +kernel, by decide +kernel⟩ rfl ⟨Nat.le_of_ble_eq_true rfl, Nat.le_of_ble_eq_true rfl⟩ hPc hDc hS rfl (Nat.le_of_ble_eq_true rfl) dX9_clear_15 ⟨Nat.le_of_ble_eq_true rfl, Nat.le_of_ble_eq_true rfl⟩ (fun u1 H1 locs1 h3 hku1 hP1 hD1 hS1 => ?_)
  obtain ⟨g_4, rfl, huh3_0⟩ := h3
  obtain ⟨hP, hD⟩ := z_join (wr := [(t0, .inr (9, [.ref cd, .ref lF, .ref lT, .ref cK, .ref cM_, .int 0, .int 0])), (lT, .inl (cI, 4, .inl f2))]) Z hS hP hD [1] [0, 2] rfl (by decide) rfl (by decide) (by decide) hku1 hP1 hD1
  have hS := hS1
  clear hS1
  generalize H1 = H at hP hS ⊢
  generalize locs1 = locs at hS ⊢
  have hP : va_P D vwCl ([(t0, .inr (9, [.ref cd, .ref lF, .ref lT, .ref cK, .ref cM_, .int 0, .int 0])), (lT, .inl (cI, 4, .inl f2)), (lF, .inl (cI, 4, .inl g_4))]) H := hP
  have hD : va_D A ([(t0, .inr (9, [.ref cd, .ref lF, .ref lT, .ref cK, .ref cM_, .int 0, .int 0])), (lT, .inl (cI, 4, .inl f2)), (lF, .inl (cI, 4, .inl g_4))]) := hD
  refine lv_aload_n hx hb dX9_clear_18 rfl (lv_at hl 0 rfl) ?_
  refine z_get Z i_X9 hP 0 rfl rfl 2 (by decide) bw_303 rfl dX9_clear_19 ?_
  refine lv_iconst (v := 0) hx hb dX9_clear_22 (by decide) ?_
  have hPc := hP.sub2 (wc := [(lT, .inl (cI, 4, .inl f2))]) [1] rfl
  have hDc := hD.sub (ws' := [(lT, .inl (cI, 4, .inl f2))]) [1] (by decide) rfl
  refine raw_Sv (nA := 2) (As := [.ref lT, .int 0]) (rest := []) Z hl.1 (c_J7_fill_53178 l D cI cM cT lT 4 f2 0 (by omega)) (bw_S bw_559 bw_560 bw_94 bw_561) ⟨by decide +kernel, by decide +kernel, by decide +kernel⟩ rfl ⟨Nat.le_of_ble_eq_true rfl, Nat.le_of_ble_eq_true rfl⟩ hPc hDc hS rfl (Nat.le_of_ble_eq_true rfl) dX9_clear_23 ⟨Nat.le_of_ble_eq_true rfl, Nat.le_of_ble_eq_true rfl⟩ (fun u5 H1 locs1 h7 hku5 hP1 hD1 hS1 => ?_)
  obtain ⟨g_8, rfl, huh7_0⟩ := h7
  obtain ⟨hP, hD⟩ := z_join (wr := [(t0, .inr (9, [.ref cd, .ref lF, .ref lT, .ref cK, .ref cM_, .int 0, .int 0])), (lF, .inl (cI, 4, .inl g_4))]) Z hS hP hD [1] [0, 2] rfl (by decide) rfl (by decide) (by decide) hku5 hP1 hD1
  have hS := hS1
  clear hS1
  generalize H1 = H at hP hS ⊢
  generalize locs1 = locs at hS ⊢
  have hP : va_P D vwCl ([(t0, .inr (9, [.ref cd, .ref lF, .ref lT, .ref cK, .ref cM_, .int 0, .int 0])), (lF, .inl (cI, 4, .inl g_4)), (lT, .inl (cI, 4, .inl g_8))]) H := hP
  have hD : va_D A ([(t0, .inr (9, [.ref cd, .ref lF, .ref lT, .ref cK, .ref cM_, .int 0, .int 0])), (lF, .inl (cI, 4, .inl g_4)), (lT, .inl (cI, 4, .inl g_8))]) := hD
  exact z_vret Z hP hD hS (⟨g_4, g_8, rfl⟩) dX9_clear_26 (Nat.le_of_ble_eq_true rfl) (Nat.le_of_ble_eq_true rfl)
set_option maxHeartbeats 4000000 in
set_option maxRecDepth 100000 in
theorem c_X7_put (l : Launch) (D : va_G) (cI cM cT : ClassId) (tP : Nat) (bY : Nat) (ki : Nat) (at_ : Nat) (nu : Nat) (f1 : Nat → Int32) (f2 : Nat → Int32) (f3 : Nat → Int32) (w1 : Int32) (w2 : Int32) (w3 : Int32) : Cv l D (ty3 cI cM cT) yX7_put cX7_put 4 0 0 0 [.ref tP, .int w1, .int w2, .int w3] ([(tP, .inr (7, [.ref bY, .ref ki, .ref at_, .ref nu, .int 0, .int 0])), (ki, .inl (cI, 301, .inl f1)), (at_, .inl (cI, 301, .inl f2)), (nu, .inl (cI, 301, .inl f3))]) (fun u => u = [(tP, .inr (7, [.ref bY, .ref ki, .ref at_, .ref nu, .int 0, .int 1])), (ki, .inl (cI, 301, .inl (upd f1 (0 : Int32).toNatClampNeg w1))), (at_, .inl (cI, 301, .inl (upd f2 (0 : Int32).toNatClampNeg w2))), (nu, .inl (cI, 301, .inl (upd f3 (0 : Int32).toNatClampNeg w3)))]) := by
  refine Cv.of (by decide +kernel) (Nat.le_of_ble_eq_true rfl) ?_
  intro p e s m below meth c A ls Z hin hP hD hl
  have hx := Z.1
  have hb := Z.2.1
  have hS : va_S A s.heap s.heap [] := va_S.rf
  have hl : lv_has ls 4 [(0, .ref tP), (1, .int w1), (2, .int w2), (3, .int w3)] := hl
  skip
  refine lv_aload_n hx hb dX7_put_0 rfl (lv_at hl 0 rfl) ?_
  refine z_get Z i_X7 hP 0 rfl rfl 5 (by decide) bw_404 rfl dX7_put_1 ?_
  refine lv_sipush (v := 300) hx hb dX7_put_4 (by decide) ?_
  refine lv_icmp_gt (tgt := 50) hx hb dX7_put_7 (by decide) (fun h => absurd h (by decide)) (fun c1 => ?_)
  refine lv_aload_n hx hb dX7_put_10 rfl (lv_at hl 0 rfl) ?_
  refine z_get Z i_X7 hP 0 rfl rfl 1 (by decide) bw_396 rfl dX7_put_11 ?_
  refine lv_aload_n hx hb dX7_put_14 rfl (lv_at hl 0 rfl) ?_
  refine z_get Z i_X7 hP 0 rfl rfl 5 (by decide) bw_404 rfl dX7_put_15 ?_
  refine lv_iload_n hx hb dX7_put_18 rfl (lv_at hl 1 rfl) ?_
  refine z_iast Z hP hD hS 1 0 rfl rfl (vin (by decide)) dX7_put_19 (fun H locs hP hD hS => ?_)
  have hP : va_P D vwCl ([(tP, .inr (7, [.ref bY, .ref ki, .ref at_, .ref nu, .int 0, .int 0])), (ki, .inl (cI, 301, .inl (upd f1 (0 : Int32).toNatClampNeg w1))), (at_, .inl (cI, 301, .inl f2)), (nu, .inl (cI, 301, .inl f3))]) H := hP
  have hD : va_D A ([(tP, .inr (7, [.ref bY, .ref ki, .ref at_, .ref nu, .int 0, .int 0])), (ki, .inl (cI, 301, .inl (upd f1 (0 : Int32).toNatClampNeg w1))), (at_, .inl (cI, 301, .inl f2)), (nu, .inl (cI, 301, .inl f3))]) := hD
  refine lv_aload_n hx hb dX7_put_20 rfl (lv_at hl 0 rfl) ?_
  refine z_get Z i_X7 hP 0 rfl rfl 2 (by decide) bw_398 rfl dX7_put_21 ?_
  refine lv_aload_n hx hb dX7_put_24 rfl (lv_at hl 0 rfl) ?_
  refine z_get Z i_X7 hP 0 rfl rfl 5 (by decide) bw_404 rfl dX7_put_25 ?_
  refine lv_iload_n hx hb dX7_put_28 rfl (lv_at hl 2 rfl) ?_
  refine z_iast Z hP hD hS 2 0 rfl rfl (vin (by decide)) dX7_put_29 (fun H locs hP hD hS => ?_)
  have hP : va_P D vwCl ([(tP, .inr (7, [.ref bY, .ref ki, .ref at_, .ref nu, .int 0, .int 0])), (ki, .inl (cI, 301, .inl (upd f1 (0 : Int32).toNatClampNeg w1))), (at_, .inl (cI, 301, .inl (upd f2 (0 : Int32).toNatClampNeg w2))), (nu, .inl (cI, 301, .inl f3))]) H := hP
  have hD : va_D A ([(tP, .inr (7, [.ref bY, .ref ki, .ref at_, .ref nu, .int 0, .int 0])), (ki, .inl (cI, 301, .inl (upd f1 (0 : Int32).toNatClampNeg w1))), (at_, .inl (cI, 301, .inl (upd f2 (0 : Int32).toNatClampNeg w2))), (nu, .inl (cI, 301, .inl f3))]) := hD
  refine lv_aload_n hx hb dX7_put_30 rfl (lv_at hl 0 rfl) ?_
  refine z_get Z i_X7 hP 0 rfl rfl 3 (by decide) bw_400 rfl dX7_put_31 ?_
  refine lv_aload_n hx hb dX7_put_34 rfl (lv_at hl 0 rfl) ?_
  refine z_get Z i_X7 hP 0 rfl rfl 5 (by decide) bw_404 rfl dX7_put_35 ?_
  refine lv_iload_n hx hb dX7_put_38 rfl (lv_at hl 3 rfl) ?_
  refine z_iast Z hP hD hS 3 0 rfl rfl (vin (by decide)) dX7_put_39 (fun H locs hP hD hS => ?_)
  have hP : va_P D vwCl ([(tP, .inr (7, [.ref bY, .ref ki, .ref at_, .ref nu, .int 0, .int 0])), (ki, .inl (cI, 301, .inl (upd f1 (0 : Int32).toNatClampNeg w1))), (at_, .inl (cI, 301, .inl (upd f2 (0 : Int32).toNatClampNeg w2))), (nu, .inl (cI, 301, .inl (upd f3 (0 : Int32).toNatClampNeg w3)))]) H := hP
  have hD : va_D A ([(tP, .inr (7, [.ref bY, .ref ki, .ref at_, .ref nu, .int 0, .int 0])), (ki, .inl (cI, 301, .inl (upd f1 (0 : Int32).toNatClampNeg w1))), (at_, .inl (cI, 301, .inl (upd f2 (0 : Int32).toNatClampNeg w2))), (nu, .inl (cI, 301, .inl (upd f3 (0 : Int32).toNatClampNeg w3)))]) := hD
  refine lv_aload_n hx hb dX7_put_40 rfl (lv_at hl 0 rfl) ?_
  refine lv_dup hx hb dX7_put_41 rfl ?_
  refine z_get Z i_X7 hP 0 rfl rfl 5 (by decide) bw_404 rfl dX7_put_42 ?_
  refine lv_iconst (v := 1) hx hb dX7_put_45 (by decide) ?_
  refine lv_iadd hx hb dX7_put_46 ?_
  refine z_topi (y := 1) (by decide) ?_
  refine z_put Z i_X7 tyX7 tyX7_ok nmX7 hP hD hS 0 rfl rfl 5 (by decide) bw_404 rfl rfl rfl (Nat.le_of_ble_eq_true rfl) dX7_put_47 (fun H locs hP hD hS => ?_)
  have hP : va_P D vwCl ([(tP, .inr (7, [.ref bY, .ref ki, .ref at_, .ref nu, .int 0, .int 1])), (ki, .inl (cI, 301, .inl (upd f1 (0 : Int32).toNatClampNeg w1))), (at_, .inl (cI, 301, .inl (upd f2 (0 : Int32).toNatClampNeg w2))), (nu, .inl (cI, 301, .inl (upd f3 (0 : Int32).toNatClampNeg w3)))]) H := hP
  have hD : va_D A ([(tP, .inr (7, [.ref bY, .ref ki, .ref at_, .ref nu, .int 0, .int 1])), (ki, .inl (cI, 301, .inl (upd f1 (0 : Int32).toNatClampNeg w1))), (at_, .inl (cI, 301, .inl (upd f2 (0 : Int32).toNatClampNeg w2))), (nu, .inl (cI, 301, .inl (upd f3 (0 : Int32).toNatClampNeg w3)))]) := hD
  exact z_vret Z hP hD hS (rfl) dX7_put_50 (Nat.le_of_ble_eq_true rfl) (Nat.le_of_ble_eq_true rfl)
set_option maxHeartbeats 4000000 in
set_option maxRecDepth 100000 in
theorem c_X7_split (l : Launch) (D : va_G) (cI cM cT : ClassId) (tP : Nat) (bY : Nat) (ki : Nat) (at_ : Nat) (nu : Nat) (f1 : Nat → Int32) (f2 : Nat → Int32) (f3 : Nat → Int32) : Cv l D (ty3 cI cM cT) yX7_split cX7_split 3 1 0 0 [.ref tP] ([(tP, .inr (7, [.ref bY, .ref ki, .ref at_, .ref nu, .int 0, .int 0])), (ki, .inl (cI, 301, .inl f1)), (at_, .inl (cI, 301, .inl f2)), (nu, .inl (cI, 301, .inl f3))]) (fun u => u = [(tP, .inr (7, [.ref bY, .ref ki, .ref at_, .ref nu, .int 0, .int 1])), (ki, .inl (cI, 301, .inl (upd f1 (0 : Int32).toNatClampNeg 37))), (at_, .inl (cI, 301, .inl (upd f2 (0 : Int32).toNatClampNeg 0))), (nu, .inl (cI, 301, .inl (upd f3 (0 : Int32).toNatClampNeg 0)))]) := by
  refine Cv.of (by decide +kernel) (Nat.le_of_ble_eq_true rfl) ?_
  intro p e s m below meth c A ls Z hin hP hD hl
  have hx := Z.1
  have hb := Z.2.1
  have hS : va_S A s.heap s.heap [] := va_S.rf
  have hl : lv_has ls 3 [(0, .ref tP)] := hl
  skip
  refine lv_aload_n hx hb dX7_split_0 rfl (lv_at hl 0 rfl) ?_
  refine lv_iconst (v := 0) hx hb dX7_split_1 (by decide) ?_
  refine z_put Z i_X7 tyX7 tyX7_ok nmX7 hP hD hS 0 rfl rfl 5 (by decide) bw_404 rfl rfl rfl (Nat.le_of_ble_eq_true rfl) dX7_split_2 (fun H locs hP hD hS => ?_)
  have hP : va_P D vwCl ([(tP, .inr (7, [.ref bY, .ref ki, .ref at_, .ref nu, .int 0, .int 0])), (ki, .inl (cI, 301, .inl f1)), (at_, .inl (cI, 301, .inl f2)), (nu, .inl (cI, 301, .inl f3))]) H := hP
  have hD : va_D A ([(tP, .inr (7, [.ref bY, .ref ki, .ref at_, .ref nu, .int 0, .int 0])), (ki, .inl (cI, 301, .inl f1)), (at_, .inl (cI, 301, .inl f2)), (nu, .inl (cI, 301, .inl f3))]) := hD
  refine lv_iconst (v := 0) hx hb dX7_split_5 (by decide) ?_
  refine lv_istore_n (lv' := [(1, .int 0), (0, .ref tP)]) hx hb dX7_split_6 rfl hl (by decide) rfl (fun ls hl => ?_)
  refine lv_iconst (v := 0) hx hb dX7_split_7 (by decide) ?_
  refine lv_istore_n (lv' := [(2, .int 0), (1, .int 0), (0, .ref tP)]) hx hb dX7_split_8 rfl hl (by decide) rfl (fun ls hl => ?_)
  refine lv_iload_n hx hb dX7_split_9 rfl (lv_at hl 0 rfl) ?_
  refine lv_sipush (v := 300) hx hb dX7_split_10 (by decide) ?_
  refine lv_icmp_ge (tgt := 64) hx hb dX7_split_13 (by decide) (fun h => absurd h (by decide)) (fun c1 => ?_)
  refine lv_iload_n hx hb dX7_split_16 rfl (lv_at hl 1 rfl) ?_
  refine lv_aload_n hx hb dX7_split_17 rfl (lv_at hl 2 rfl) ?_
  refine z_get Z i_X7 hP 0 rfl rfl 4 (by decide) bw_402 rfl dX7_split_18 ?_
  refine lv_icmp_ge (tgt := 64) hx hb dX7_split_21 (by decide) (fun c2 => ?_) (fun h => absurd (by decide) h)
  refine lv_aload_n hx hb dX7_split_64 rfl (lv_at hl 2 rfl) ?_
  refine lv_bipush (v := 37) hx hb dX7_split_65 (by decide) ?_
  refine lv_aload_n hx hb dX7_split_67 rfl (lv_at hl 2 rfl) ?_
  refine z_get Z i_X7 hP 0 rfl rfl 4 (by decide) bw_402 rfl dX7_split_68 ?_
  refine lv_iconst (v := 0) hx hb dX7_split_71 (by decide) ?_
  have hPc := hP.sub2 (wc := [(tP, .inr (7, [.ref bY, .ref ki, .ref at_, .ref nu, .int 0, .int 0])), (ki, .inl (cI, 301, .inl f1)), (at_, .inl (cI, 301, .inl f2)), (nu, .inl (cI, 301, .inl f3))]) [0, 1, 2, 3] rfl
  have hDc := hD.sub (ws' := [(tP, .inr (7, [.ref bY, .ref ki, .ref at_, .ref nu, .int 0, .int 0])), (ki, .inl (cI, 301, .inl f1)), (at_, .inl (cI, 301, .inl f2)), (nu, .inl (cI, 301, .inl f3))]) [0, 1, 2, 3] (by decide) rfl
  refine raw_Vv (ci := 7) (q0 := 0) (nA := 3) (As := [.int 37, .int 0, .int 0]) (rest := []) Z hl.1 (c_X7_put l D cI cM cT tP bY ki at_ nu f1 f2 f3 37 0 0) (bw_V bw_631 bw_633 bw_3 bw_90 bw_634) ⟨by decide +kernel, by decide +kernel, by decide +kernel⟩ rfl ⟨Nat.le_of_ble_eq_true rfl, Nat.le_of_ble_eq_true rfl⟩ rfl rfl rfl hPc hDc hS rfl (Nat.le_of_ble_eq_true rfl) dX7_split_72 ⟨Nat.le_of_ble_eq_true rfl, Nat.le_of_ble_eq_true rfl⟩ (fun u3 H1 locs1 h5 hku3 hP1 hD1 hS1 => ?_)
  obtain rfl := h5
  obtain ⟨hP, hD⟩ := z_join (wr := []) Z hS hP hD [0, 1, 2, 3] [] rfl (by decide) rfl (by decide) (by decide) hku3 hP1 hD1
  have hS := hS1
  clear hS1
  generalize H1 = H at hP hS ⊢
  generalize locs1 = locs at hS ⊢
  have hP : va_P D vwCl ([(tP, .inr (7, [.ref bY, .ref ki, .ref at_, .ref nu, .int 0, .int 1])), (ki, .inl (cI, 301, .inl (upd f1 (0 : Int32).toNatClampNeg 37))), (at_, .inl (cI, 301, .inl (upd f2 (0 : Int32).toNatClampNeg 0))), (nu, .inl (cI, 301, .inl (upd f3 (0 : Int32).toNatClampNeg 0)))]) H := hP
  have hD : va_D A ([(tP, .inr (7, [.ref bY, .ref ki, .ref at_, .ref nu, .int 0, .int 1])), (ki, .inl (cI, 301, .inl (upd f1 (0 : Int32).toNatClampNeg 37))), (at_, .inl (cI, 301, .inl (upd f2 (0 : Int32).toNatClampNeg 0))), (nu, .inl (cI, 301, .inl (upd f3 (0 : Int32).toNatClampNeg 0)))]) := hD
  exact z_vret Z hP hD hS (rfl) dX7_split_75 (Nat.le_of_ble_eq_true rfl) (Nat.le_of_ble_eq_true rfl)
set_option maxHeartbeats 4000000 in
set_option maxRecDepth 100000 in
theorem c_X2_read (l : Launch) (D : va_G) (cI cM cT : ClassId) (rd : Nat) (tP : Nat) (tX : Nat) (bY : Nat) (ki : Nat) (at_ : Nat) (nu : Nat) (t0 : Nat) (cd : Nat) (lF : Nat) (lT : Nat) (cK : Nat) (cM_ : Nat) : Cv l D (ty3 cI cM cT) yX2_read cX2_read 4 2 0 0 [.ref rd, .ref t0] ([(rd, .inr (2, [.ref tP, .int (-1), .int (-1), .int 0, .int 37, .int 0, .ref tX])), (tP, .inr (7, [.ref bY, .ref ki, .ref at_, .ref nu, .int 0, .int 0])), (ki, .inl (cI, 301, .inl (fun _ => 0))), (at_, .inl (cI, 301, .inl (fun _ => 0))), (nu, .inl (cI, 301, .inl (fun _ => 0))), (t0, .inr (9, [.ref cd, .ref lF, .ref lT, .ref cK, .ref cM_, .int 0, .int 0])), (lF, .inl (cI, 4, .inl (fun _ => 0))), (lT, .inl (cI, 4, .inl (fun _ => 0)))]) (fun u => u = [(rd, .inr (2, [.ref tP, .int 0, .int (-1), .int 0, .int 37, .int 0, .ref t0])), (tP, .inr (7, [.ref bY, .ref ki, .ref at_, .ref nu, .int 0, .int 1]))]) := by
  refine Cv.of (by decide +kernel) (Nat.le_of_ble_eq_true rfl) ?_
  intro p e s m below meth c A ls Z hin hP hD hl
  have hx := Z.1
  have hb := Z.2.1
  have hS : va_S A s.heap s.heap [] := va_S.rf
  have hl : lv_has ls 4 [(0, .ref rd), (1, .ref t0)] := hl
  skip
  refine lv_aload_n hx hb dX2_read_0 rfl (lv_at hl 0 rfl) ?_
  refine lv_aload_n hx hb dX2_read_1 rfl (lv_at hl 1 rfl) ?_
  refine z_put Z i_X2 tyX2 tyX2_ok nmX2 hP hD hS 0 rfl rfl 6 (by decide) bw_430 rfl rfl rfl (Nat.le_of_ble_eq_true rfl) dX2_read_2 (fun H locs hP hD hS => ?_)
  have hP : va_P D vwCl ([(rd, .inr (2, [.ref tP, .int (-1), .int (-1), .int 0, .int 37, .int 0, .ref t0])), (tP, .inr (7, [.ref bY, .ref ki, .ref at_, .ref nu, .int 0, .int 0])), (ki, .inl (cI, 301, .inl (fun _ => 0))), (at_, .inl (cI, 301, .inl (fun _ => 0))), (nu, .inl (cI, 301, .inl (fun _ => 0))), (t0, .inr (9, [.ref cd, .ref lF, .ref lT, .ref cK, .ref cM_, .int 0, .int 0])), (lF, .inl (cI, 4, .inl (fun _ => 0))), (lT, .inl (cI, 4, .inl (fun _ => 0)))]) H := hP
  have hD : va_D A ([(rd, .inr (2, [.ref tP, .int (-1), .int (-1), .int 0, .int 37, .int 0, .ref t0])), (tP, .inr (7, [.ref bY, .ref ki, .ref at_, .ref nu, .int 0, .int 0])), (ki, .inl (cI, 301, .inl (fun _ => 0))), (at_, .inl (cI, 301, .inl (fun _ => 0))), (nu, .inl (cI, 301, .inl (fun _ => 0))), (t0, .inr (9, [.ref cd, .ref lF, .ref lT, .ref cK, .ref cM_, .int 0, .int 0])), (lF, .inl (cI, 4, .inl (fun _ => 0))), (lT, .inl (cI, 4, .inl (fun _ => 0)))]) := hD
  refine lv_aload_n hx hb dX2_read_5 rfl (lv_at hl 0 rfl) ?_
  refine z_get Z i_X2 hP 0 rfl rfl 6 (by decide) bw_430 rfl dX2_read_6 ?_
  have hPc := hP.sub2 (wc := [(t0, .inr (9, [.ref cd, .ref lF, .ref lT, .ref cK, .ref cM_, .int 0, .int 0])), (lF, .inl (cI, 4, .inl (fun _ => 0))), (lT, .inl (cI, 4, .inl (fun _ => 0)))]) [5, 6, 7] rfl
  have hDc := hD.sub (ws' := [(t0, .inr (9, [.ref cd, .ref lF, .ref lT, .ref cK, .ref cM_, .int 0, .int 0])), (lF, .inl (cI, 4, .inl (fun _ => 0))), (lT, .inl (cI, 4, .inl (fun _ => 0)))]) [5, 6, 7] (by decide) rfl
  refine raw_Vv (ci := 9) (q0 := 0) (nA := 0) (As := []) (rest := []) Z hl.1 (c_X9_clear l D cI cM cT t0 cd lF lT cK cM_ 0 0 (fun _ => 0) (fun _ => 0)) (bw_V bw_555 bw_556 bw_557 bw_88 bw_558) ⟨by decide +kernel, by decide +kernel, by decide +kernel⟩ rfl ⟨Nat.le_of_ble_eq_true rfl, Nat.le_of_ble_eq_true rfl⟩ rfl rfl rfl hPc hDc hS rfl (Nat.le_of_ble_eq_true rfl) dX2_read_9 ⟨Nat.le_of_ble_eq_true rfl, Nat.le_of_ble_eq_true rfl⟩ (fun u1 H1 locs1 h3 hku1 hP1 hD1 hS1 => ?_)
  obtain ⟨g1_4, g2_5, rfl⟩ := h3
  obtain ⟨hP, hD⟩ := z_join (wr := [(rd, .inr (2, [.ref tP, .int (-1), .int (-1), .int 0, .int 37, .int 0, .ref t0])), (tP, .inr (7, [.ref bY, .ref ki, .ref at_, .ref nu, .int 0, .int 0])), (ki, .inl (cI, 301, .inl (fun _ => 0))), (at_, .inl (cI, 301, .inl (fun _ => 0))), (nu, .inl (cI, 301, .inl (fun _ => 0)))]) Z hS hP hD [5, 6, 7] [0, 1, 2, 3, 4] rfl (by decide) rfl (by decide) (by decide) hku1 hP1 hD1
  have hS := hS1
  clear hS1
  generalize H1 = H at hP hS ⊢
  generalize locs1 = locs at hS ⊢
  have hP : va_P D vwCl ([(rd, .inr (2, [.ref tP, .int (-1), .int (-1), .int 0, .int 37, .int 0, .ref t0])), (tP, .inr (7, [.ref bY, .ref ki, .ref at_, .ref nu, .int 0, .int 0])), (ki, .inl (cI, 301, .inl (fun _ => 0))), (at_, .inl (cI, 301, .inl (fun _ => 0))), (nu, .inl (cI, 301, .inl (fun _ => 0))), (t0, .inr (9, [.ref cd, .ref lF, .ref lT, .ref cK, .ref cM_, .int 0, .int 0])), (lF, .inl (cI, 4, .inl g1_4)), (lT, .inl (cI, 4, .inl g2_5))]) H := hP
  have hD : va_D A ([(rd, .inr (2, [.ref tP, .int (-1), .int (-1), .int 0, .int 37, .int 0, .ref t0])), (tP, .inr (7, [.ref bY, .ref ki, .ref at_, .ref nu, .int 0, .int 0])), (ki, .inl (cI, 301, .inl (fun _ => 0))), (at_, .inl (cI, 301, .inl (fun _ => 0))), (nu, .inl (cI, 301, .inl (fun _ => 0))), (t0, .inr (9, [.ref cd, .ref lF, .ref lT, .ref cK, .ref cM_, .int 0, .int 0])), (lF, .inl (cI, 4, .inl g1_4)), (lT, .inl (cI, 4, .inl g2_5))]) := hD
  refine lv_aload_n hx hb dX2_read_12 rfl (lv_at hl 0 rfl) ?_
  refine lv_iconst (v := 0) hx hb dX2_read_13 (by decide) ?_
  refine z_put Z i_X2 tyX2 tyX2_ok nmX2 hP hD hS 0 rfl rfl 1 (by decide) bw_423 rfl rfl rfl (Nat.le_of_ble_eq_true rfl) dX2_read_14 (fun H locs hP hD hS => ?_)
  have hP : va_P D vwCl ([(rd, .inr (2, [.ref tP, .int 0, .int (-1), .int 0, .int 37, .int 0, .ref t0])), (tP, .inr (7, [.ref bY, .ref ki, .ref at_, .ref nu, .int 0, .int 0])), (ki, .inl (cI, 301, .inl (fun _ => 0))), (at_, .inl (cI, 301, .inl (fun _ => 0))), (nu, .inl (cI, 301, .inl (fun _ => 0))), (t0, .inr (9, [.ref cd, .ref lF, .ref lT, .ref cK, .ref cM_, .int 0, .int 0])), (lF, .inl (cI, 4, .inl g1_4)), (lT, .inl (cI, 4, .inl g2_5))]) H := hP
  have hD : va_D A ([(rd, .inr (2, [.ref tP, .int 0, .int (-1), .int 0, .int 37, .int 0, .ref t0])), (tP, .inr (7, [.ref bY, .ref ki, .ref at_, .ref nu, .int 0, .int 0])), (ki, .inl (cI, 301, .inl (fun _ => 0))), (at_, .inl (cI, 301, .inl (fun _ => 0))), (nu, .inl (cI, 301, .inl (fun _ => 0))), (t0, .inr (9, [.ref cd, .ref lF, .ref lT, .ref cK, .ref cM_, .int 0, .int 0])), (lF, .inl (cI, 4, .inl g1_4)), (lT, .inl (cI, 4, .inl g2_5))]) := hD
  refine lv_aload_n hx hb dX2_read_17 rfl (lv_at hl 0 rfl) ?_
  refine lv_iconst (v := (-1)) hx hb dX2_read_18 (by decide) ?_
  refine z_put Z i_X2 tyX2 tyX2_ok nmX2 hP hD hS 0 rfl rfl 2 (by decide) bw_425 rfl rfl rfl (Nat.le_of_ble_eq_true rfl) dX2_read_19 (fun H locs hP hD hS => ?_)
  have hP : va_P D vwCl ([(rd, .inr (2, [.ref tP, .int 0, .int (-1), .int 0, .int 37, .int 0, .ref t0])), (tP, .inr (7, [.ref bY, .ref ki, .ref at_, .ref nu, .int 0, .int 0])), (ki, .inl (cI, 301, .inl (fun _ => 0))), (at_, .inl (cI, 301, .inl (fun _ => 0))), (nu, .inl (cI, 301, .inl (fun _ => 0))), (t0, .inr (9, [.ref cd, .ref lF, .ref lT, .ref cK, .ref cM_, .int 0, .int 0])), (lF, .inl (cI, 4, .inl g1_4)), (lT, .inl (cI, 4, .inl g2_5))]) H := hP
  have hD : va_D A ([(rd, .inr (2, [.ref tP, .int 0, .int (-1), .int 0, .int 37, .int 0, .ref t0])), (tP, .inr (7, [.ref bY, .ref ki, .ref at_, .ref nu, .int 0, .int 0])), (ki, .inl (cI, 301, .inl (fun _ => 0))), (at_, .inl (cI, 301, .inl (fun _ => 0))), (nu, .inl (cI, 301, .inl (fun _ => 0))), (t0, .inr (9, [.ref cd, .ref lF, .ref lT, .ref cK, .ref cM_, .int 0, .int 0])), (lF, .inl (cI, 4, .inl g1_4)), (lT, .inl (cI, 4, .inl g2_5))]) := hD
  refine lv_aload_n hx hb dX2_read_22 rfl (lv_at hl 0 rfl) ?_
  refine z_get Z i_X2 hP 0 rfl rfl 0 (by decide) bw_421 rfl dX2_read_23 ?_
  have hPc := hP.sub2 (wc := [(tP, .inr (7, [.ref bY, .ref ki, .ref at_, .ref nu, .int 0, .int 0])), (ki, .inl (cI, 301, .inl (fun _ => 0))), (at_, .inl (cI, 301, .inl (fun _ => 0))), (nu, .inl (cI, 301, .inl (fun _ => 0)))]) [1, 2, 3, 4] rfl
  have hDc := hD.sub (ws' := [(tP, .inr (7, [.ref bY, .ref ki, .ref at_, .ref nu, .int 0, .int 0])), (ki, .inl (cI, 301, .inl (fun _ => 0))), (at_, .inl (cI, 301, .inl (fun _ => 0))), (nu, .inl (cI, 301, .inl (fun _ => 0)))]) [1, 2, 3, 4] (by decide) rfl
  refine raw_Vv (ci := 7) (q0 := 0) (nA := 0) (As := []) (rest := []) Z hl.1 (c_X7_split l D cI cM cT tP bY ki at_ nu (fun _ => 0) (fun _ => 0) (fun _ => 0)) (bw_V bw_562 bw_563 bw_564 bw_90 bw_565) ⟨by decide +kernel, by decide +kernel, by decide +kernel⟩ rfl ⟨Nat.le_of_ble_eq_true rfl, Nat.le_of_ble_eq_true rfl⟩ rfl rfl rfl hPc hDc hS rfl (Nat.le_of_ble_eq_true rfl) dX2_read_26 ⟨Nat.le_of_ble_eq_true rfl, Nat.le_of_ble_eq_true rfl⟩ (fun u6 H1 locs1 h8 hku6 hP1 hD1 hS1 => ?_)
  obtain rfl := h8
  obtain ⟨hP, hD⟩ := z_join (wr := [(rd, .inr (2, [.ref tP, .int 0, .int (-1), .int 0, .int 37, .int 0, .ref t0])), (t0, .inr (9, [.ref cd, .ref lF, .ref lT, .ref cK, .ref cM_, .int 0, .int 0])), (lF, .inl (cI, 4, .inl g1_4)), (lT, .inl (cI, 4, .inl g2_5))]) Z hS hP hD [1, 2, 3, 4] [0, 5, 6, 7] rfl (by decide) rfl (by decide) (by decide) hku6 hP1 hD1
  have hS := hS1
  clear hS1
  generalize H1 = H at hP hS ⊢
  generalize locs1 = locs at hS ⊢
  have hP : va_P D vwCl ([(rd, .inr (2, [.ref tP, .int 0, .int (-1), .int 0, .int 37, .int 0, .ref t0])), (t0, .inr (9, [.ref cd, .ref lF, .ref lT, .ref cK, .ref cM_, .int 0, .int 0])), (lF, .inl (cI, 4, .inl g1_4)), (lT, .inl (cI, 4, .inl g2_5)), (tP, .inr (7, [.ref bY, .ref ki, .ref at_, .ref nu, .int 0, .int 1])), (ki, .inl (cI, 301, .inl (upd (fun _ => 0) (0 : Int32).toNatClampNeg 37))), (at_, .inl (cI, 301, .inl (upd (fun _ => 0) (0 : Int32).toNatClampNeg 0))), (nu, .inl (cI, 301, .inl (upd (fun _ => 0) (0 : Int32).toNatClampNeg 0)))]) H := hP
  have hD : va_D A ([(rd, .inr (2, [.ref tP, .int 0, .int (-1), .int 0, .int 37, .int 0, .ref t0])), (t0, .inr (9, [.ref cd, .ref lF, .ref lT, .ref cK, .ref cM_, .int 0, .int 0])), (lF, .inl (cI, 4, .inl g1_4)), (lT, .inl (cI, 4, .inl g2_5)), (tP, .inr (7, [.ref bY, .ref ki, .ref at_, .ref nu, .int 0, .int 1])), (ki, .inl (cI, 301, .inl (upd (fun _ => 0) (0 : Int32).toNatClampNeg 37))), (at_, .inl (cI, 301, .inl (upd (fun _ => 0) (0 : Int32).toNatClampNeg 0))), (nu, .inl (cI, 301, .inl (upd (fun _ => 0) (0 : Int32).toNatClampNeg 0)))]) := hD
  refine lv_aload_n hx hb dX2_read_29 rfl (lv_at hl 0 rfl) ?_
  refine lv_iconst (v := 0) hx hb dX2_read_30 (by decide) ?_
  refine z_put Z i_X2 tyX2 tyX2_ok nmX2 hP hD hS 0 rfl rfl 3 (by decide) bw_427 rfl rfl rfl (Nat.le_of_ble_eq_true rfl) dX2_read_31 (fun H locs hP hD hS => ?_)
  have hP : va_P D vwCl ([(rd, .inr (2, [.ref tP, .int 0, .int (-1), .int 0, .int 37, .int 0, .ref t0])), (t0, .inr (9, [.ref cd, .ref lF, .ref lT, .ref cK, .ref cM_, .int 0, .int 0])), (lF, .inl (cI, 4, .inl g1_4)), (lT, .inl (cI, 4, .inl g2_5)), (tP, .inr (7, [.ref bY, .ref ki, .ref at_, .ref nu, .int 0, .int 1])), (ki, .inl (cI, 301, .inl (upd (fun _ => 0) (0 : Int32).toNatClampNeg 37))), (at_, .inl (cI, 301, .inl (upd (fun _ => 0) (0 : Int32).toNatClampNeg 0))), (nu, .inl (cI, 301, .inl (upd (fun _ => 0) (0 : Int32).toNatClampNeg 0)))]) H := hP
  have hD : va_D A ([(rd, .inr (2, [.ref tP, .int 0, .int (-1), .int 0, .int 37, .int 0, .ref t0])), (t0, .inr (9, [.ref cd, .ref lF, .ref lT, .ref cK, .ref cM_, .int 0, .int 0])), (lF, .inl (cI, 4, .inl g1_4)), (lT, .inl (cI, 4, .inl g2_5)), (tP, .inr (7, [.ref bY, .ref ki, .ref at_, .ref nu, .int 0, .int 1])), (ki, .inl (cI, 301, .inl (upd (fun _ => 0) (0 : Int32).toNatClampNeg 37))), (at_, .inl (cI, 301, .inl (upd (fun _ => 0) (0 : Int32).toNatClampNeg 0))), (nu, .inl (cI, 301, .inl (upd (fun _ => 0) (0 : Int32).toNatClampNeg 0)))]) := hD
  refine lv_aload_n hx hb dX2_read_34 rfl (lv_at hl 0 rfl) ?_
  refine lv_aload_n hx hb dX2_read_35 rfl (lv_at hl 0 rfl) ?_
  refine z_get Z i_X2 hP 0 rfl rfl 0 (by decide) bw_421 rfl dX2_read_36 ?_
  refine z_get Z i_X7 hP 4 rfl rfl 1 (by decide) bw_397 rfl dX2_read_39 ?_
  refine lv_iconst (v := 0) hx hb dX2_read_42 (by decide) ?_
  refine z_iald Z hP 5 0 rfl rfl (vin (by decide)) dX2_read_43 ?_
  refine z_topi (y := 37) pk_us ?_
  refine z_put Z i_X2 tyX2 tyX2_ok nmX2 hP hD hS 0 rfl rfl 4 (by decide) bw_428 rfl rfl rfl (Nat.le_of_ble_eq_true rfl) dX2_read_44 (fun H locs hP hD hS => ?_)
  have hP : va_P D vwCl ([(rd, .inr (2, [.ref tP, .int 0, .int (-1), .int 0, .int 37, .int 0, .ref t0])), (t0, .inr (9, [.ref cd, .ref lF, .ref lT, .ref cK, .ref cM_, .int 0, .int 0])), (lF, .inl (cI, 4, .inl g1_4)), (lT, .inl (cI, 4, .inl g2_5)), (tP, .inr (7, [.ref bY, .ref ki, .ref at_, .ref nu, .int 0, .int 1])), (ki, .inl (cI, 301, .inl (upd (fun _ => 0) (0 : Int32).toNatClampNeg 37))), (at_, .inl (cI, 301, .inl (upd (fun _ => 0) (0 : Int32).toNatClampNeg 0))), (nu, .inl (cI, 301, .inl (upd (fun _ => 0) (0 : Int32).toNatClampNeg 0)))]) H := hP
  have hD : va_D A ([(rd, .inr (2, [.ref tP, .int 0, .int (-1), .int 0, .int 37, .int 0, .ref t0])), (t0, .inr (9, [.ref cd, .ref lF, .ref lT, .ref cK, .ref cM_, .int 0, .int 0])), (lF, .inl (cI, 4, .inl g1_4)), (lT, .inl (cI, 4, .inl g2_5)), (tP, .inr (7, [.ref bY, .ref ki, .ref at_, .ref nu, .int 0, .int 1])), (ki, .inl (cI, 301, .inl (upd (fun _ => 0) (0 : Int32).toNatClampNeg 37))), (at_, .inl (cI, 301, .inl (upd (fun _ => 0) (0 : Int32).toNatClampNeg 0))), (nu, .inl (cI, 301, .inl (upd (fun _ => 0) (0 : Int32).toNatClampNeg 0)))]) := hD
  refine lv_aload_n hx hb dX2_read_47 rfl (lv_at hl 0 rfl) ?_
  refine lv_aload_n hx hb dX2_read_48 rfl (lv_at hl 0 rfl) ?_
  refine z_get Z i_X2 hP 0 rfl rfl 0 (by decide) bw_421 rfl dX2_read_49 ?_
  refine z_get Z i_X7 hP 4 rfl rfl 3 (by decide) bw_401 rfl dX2_read_52 ?_
  refine lv_iconst (v := 0) hx hb dX2_read_55 (by decide) ?_
  refine z_iald Z hP 7 0 rfl rfl (vin (by decide)) dX2_read_56 ?_
  refine z_topi (y := 0) pk_us ?_
  refine z_put Z i_X2 tyX2 tyX2_ok nmX2 hP hD hS 0 rfl rfl 5 (by decide) bw_429 rfl rfl rfl (Nat.le_of_ble_eq_true rfl) dX2_read_57 (fun H locs hP hD hS => ?_)
  have hP : va_P D vwCl ([(rd, .inr (2, [.ref tP, .int 0, .int (-1), .int 0, .int 37, .int 0, .ref t0])), (t0, .inr (9, [.ref cd, .ref lF, .ref lT, .ref cK, .ref cM_, .int 0, .int 0])), (lF, .inl (cI, 4, .inl g1_4)), (lT, .inl (cI, 4, .inl g2_5)), (tP, .inr (7, [.ref bY, .ref ki, .ref at_, .ref nu, .int 0, .int 1])), (ki, .inl (cI, 301, .inl (upd (fun _ => 0) (0 : Int32).toNatClampNeg 37))), (at_, .inl (cI, 301, .inl (upd (fun _ => 0) (0 : Int32).toNatClampNeg 0))), (nu, .inl (cI, 301, .inl (upd (fun _ => 0) (0 : Int32).toNatClampNeg 0)))]) H := hP
  have hD : va_D A ([(rd, .inr (2, [.ref tP, .int 0, .int (-1), .int 0, .int 37, .int 0, .ref t0])), (t0, .inr (9, [.ref cd, .ref lF, .ref lT, .ref cK, .ref cM_, .int 0, .int 0])), (lF, .inl (cI, 4, .inl g1_4)), (lT, .inl (cI, 4, .inl g2_5)), (tP, .inr (7, [.ref bY, .ref ki, .ref at_, .ref nu, .int 0, .int 1])), (ki, .inl (cI, 301, .inl (upd (fun _ => 0) (0 : Int32).toNatClampNeg 37))), (at_, .inl (cI, 301, .inl (upd (fun _ => 0) (0 : Int32).toNatClampNeg 0))), (nu, .inl (cI, 301, .inl (upd (fun _ => 0) (0 : Int32).toNatClampNeg 0)))]) := hD
  refine lv_iconst (v := 1) hx hb dX2_read_60 (by decide) ?_
  refine lv_istore_n (lv' := [(2, .int 1), (0, .ref rd), (1, .ref t0)]) hx hb dX2_read_61 rfl hl (by decide) rfl (fun ls hl => ?_)
  refine lv_iconst (v := 0) hx hb dX2_read_62 (by decide) ?_
  refine lv_istore_n (lv' := [(3, .int 0), (2, .int 1), (0, .ref rd), (1, .ref t0)]) hx hb dX2_read_63 rfl hl (by decide) rfl (fun ls hl => ?_)
  refine lv_iload_n hx hb dX2_read_64 rfl (lv_at hl 0 rfl) ?_
  refine lv_bipush (v := 24) hx hb dX2_read_65 (by decide) ?_
  refine lv_icmp_gt (tgt := 94) hx hb dX2_read_67 (by decide) (fun h => absurd h (by decide)) (fun c9 => ?_)
  refine lv_iload_n hx hb dX2_read_70 rfl (lv_at hl 1 rfl) ?_
  refine lv_if_eq (tgt := 94) hx hb dX2_read_71 (by decide) (fun h => absurd h (by decide)) (fun c10 => ?_)
  refine lv_aload_n hx hb dX2_read_74 rfl (lv_at hl 2 rfl) ?_
  refine z_get Z i_X2 hP 0 rfl rfl 4 (by decide) bw_428 rfl dX2_read_75 ?_
  refine lv_bipush (v := 37) hx hb dX2_read_78 (by decide) ?_
  refine lv_icmp_eq (tgt := 94) hx hb dX2_read_80 (by decide) (fun c11 => ?_) (fun h => absurd (by decide) h)
  have hP := hP.sub2 (wc := [(rd, .inr (2, [.ref tP, .int 0, .int (-1), .int 0, .int 37, .int 0, .ref t0])), (tP, .inr (7, [.ref bY, .ref ki, .ref at_, .ref nu, .int 0, .int 1]))]) [0, 4] rfl
  have hD := hD.sub (ws' := [(rd, .inr (2, [.ref tP, .int 0, .int (-1), .int 0, .int 37, .int 0, .ref t0])), (tP, .inr (7, [.ref bY, .ref ki, .ref at_, .ref nu, .int 0, .int 1]))]) [0, 4] (by decide) rfl
  exact z_vret Z hP hD hS (rfl) dX2_read_94 (Nat.le_of_ble_eq_true rfl) (Nat.le_of_ble_eq_true rfl)
set_option maxHeartbeats 4000000 in
set_option maxRecDepth 100000 in
theorem c_X11_text (l : Launch) (D : va_G) (cI cM cT : ClassId) (x : Nat) (st : Nat) (dr : Nat) (nw : Nat) (kp : Nat) (rd : Nat) (tm : Nat) (co : Nat) (rO : Nat) (sT : Nat) (mA : Nat) (sB : Nat) (sA : Nat) (tH : Nat) (tF : Nat) (tS : Nat) (tA : Nat) (lW : Nat) (nA : Nat) (kA : Nat) (tP : Nat) (tX : Nat) (bY : Nat) (ki : Nat) (at_ : Nat) (nu : Nat) (t0 : Nat) (cd : Nat) (lF : Nat) (lT : Nat) (cK : Nat) (cM_ : Nat) (tf : Nat → Option Nat) (htf : tf 0 = some t0) : Ci l D (ty3 cI cM cT) yX11_text cX11_text 1 (some .int) 4 0 0 [.ref x] ([(x, .inr (11, [.ref st, .ref dr, .ref nw, .ref kp, .ref rd, .ref tm, .ref co])), (nw, .inr (10, [.ref rO, .ref sT, .ref mA, .ref sB, .ref sA, .ref tH, .ref tF, .ref tS, .int 0, .int 0, .int (-1), .int 0, .int 0])), (dr, .inr (0, [.ref nw, .ref tA, .ref lW, .ref nA, .ref kA, .int 0, .int 0])), (tA, .inl (cT, 4, .inr (.inr (.inr (.inr tf))))), (rd, .inr (2, [.ref tP, .int (-1), .int (-1), .int 0, .int 37, .int 0, .ref tX])), (tP, .inr (7, [.ref bY, .ref ki, .ref at_, .ref nu, .int 0, .int 0])), (ki, .inl (cI, 301, .inl (fun _ => 0))), (at_, .inl (cI, 301, .inl (fun _ => 0))), (nu, .inl (cI, 301, .inl (fun _ => 0))), (t0, .inr (9, [.ref cd, .ref lF, .ref lT, .ref cK, .ref cM_, .int 0, .int 0])), (lF, .inl (cI, 4, .inl (fun _ => 0))), (lT, .inl (cI, 4, .inl (fun _ => 0)))]) (fun r u => r = 0) := by
  refine Ci.of (by decide +kernel) (Nat.le_of_ble_eq_true rfl) ?_
  intro p e s m below meth c A ls Z hin hP hD hl
  have hx := Z.1
  have hb := Z.2.1
  have hS : va_S A s.heap s.heap [] := va_S.rf
  have hl : lv_has ls 1 [(0, .ref x)] := hl
  skip
  refine lv_aload_n hx hb dX11_text_0 rfl (lv_at hl 0 rfl) ?_
  refine z_get Z i_X11 hP 0 rfl rfl 2 (by decide) bw_470 rfl dX11_text_1 ?_
  refine z_get Z i_X10 hP 1 rfl rfl 9 (by decide) bw_255 rfl dX11_text_4 ?_
  refine lv_iconst (v := 4) hx hb dX11_text_7 (by decide) ?_
  refine lv_icmp_lt (tgt := 13) hx hb dX11_text_8 (by decide) (fun c1 => ?_) (fun h => absurd (by decide) h)
  refine lv_aload_n hx hb dX11_text_13 rfl (lv_at hl 0 rfl) ?_
  refine z_get Z i_X11 hP 0 rfl rfl 4 (by decide) bw_472 rfl dX11_text_14 ?_
  refine lv_aload_n hx hb dX11_text_17 rfl (lv_at hl 0 rfl) ?_
  refine z_get Z i_X11 hP 0 rfl rfl 1 (by decide) bw_469 rfl dX11_text_18 ?_
  refine z_get Z i_X0 hP 2 rfl rfl 1 (by decide) bw_334 rfl dX11_text_21 ?_
  refine lv_aload_n hx hb dX11_text_24 rfl (lv_at hl 0 rfl) ?_
  refine z_get Z i_X11 hP 0 rfl rfl 2 (by decide) bw_470 rfl dX11_text_25 ?_
  refine z_get Z i_X10 hP 1 rfl rfl 9 (by decide) bw_255 rfl dX11_text_28 ?_
  refine z_aald Z hP 3 2 rfl rfl (vin (by decide)) htf dX11_text_31 ?_
  have hPc := hP.sub2 (wc := [(rd, .inr (2, [.ref tP, .int (-1), .int (-1), .int 0, .int 37, .int 0, .ref tX])), (tP, .inr (7, [.ref bY, .ref ki, .ref at_, .ref nu, .int 0, .int 0])), (ki, .inl (cI, 301, .inl (fun _ => 0))), (at_, .inl (cI, 301, .inl (fun _ => 0))), (nu, .inl (cI, 301, .inl (fun _ => 0))), (t0, .inr (9, [.ref cd, .ref lF, .ref lT, .ref cK, .ref cM_, .int 0, .int 0])), (lF, .inl (cI, 4, .inl (fun _ => 0))), (lT, .inl (cI, 4, .inl (fun _ => 0)))]) [4, 5, 6, 7, 8, 9, 10, 11] rfl
  have hDc := hD.sub (ws' := [(rd, .inr (2, [.ref tP, .int (-1), .int (-1), .int 0, .int 37, .int 0, .ref tX])), (tP, .inr (7, [.ref bY, .ref ki, .ref at_, .ref nu, .int 0, .int 0])), (ki, .inl (cI, 301, .inl (fun _ => 0))), (at_, .inl (cI, 301, .inl (fun _ => 0))), (nu, .inl (cI, 301, .inl (fun _ => 0))), (t0, .inr (9, [.ref cd, .ref lF, .ref lT, .ref cK, .ref cM_, .int 0, .int 0])), (lF, .inl (cI, 4, .inl (fun _ => 0))), (lT, .inl (cI, 4, .inl (fun _ => 0)))]) [4, 5, 6, 7, 8, 9, 10, 11] (by decide) rfl
  refine raw_Vv (ci := 2) (q0 := 0) (nA := 1) (As := [.ref t0]) (rest := []) Z hl.1 (c_X2_read l D cI cM cT rd tP tX bY ki at_ nu t0 cd lF lT cK cM_) (bw_V bw_551 bw_552 bw_553 bw_89 bw_554) ⟨by decide +kernel, by decide +kernel, by decide +kernel⟩ rfl ⟨Nat.le_of_ble_eq_true rfl, Nat.le_of_ble_eq_true rfl⟩ rfl rfl rfl hPc hDc hS rfl (Nat.le_of_ble_eq_true rfl) dX11_text_32 ⟨Nat.le_of_ble_eq_true rfl, Nat.le_of_ble_eq_true rfl⟩ (fun u2 H1 locs1 h4 hku2 hP1 hD1 hS1 => ?_)
  obtain rfl := h4
  obtain ⟨hP, hD⟩ := z_join (wr := [(x, .inr (11, [.ref st, .ref dr, .ref nw, .ref kp, .ref rd, .ref tm, .ref co])), (nw, .inr (10, [.ref rO, .ref sT, .ref mA, .ref sB, .ref sA, .ref tH, .ref tF, .ref tS, .int 0, .int 0, .int (-1), .int 0, .int 0])), (dr, .inr (0, [.ref nw, .ref tA, .ref lW, .ref nA, .ref kA, .int 0, .int 0])), (tA, .inl (cT, 4, .inr (.inr (.inr (.inr tf)))))]) Z hS hP hD [4, 5, 6, 7, 8, 9, 10, 11] [0, 1, 2, 3] rfl (by decide) rfl (by decide) (by decide) hku2 hP1 hD1
  have hS := hS1
  clear hS1
  generalize H1 = H at hP hS ⊢
  generalize locs1 = locs at hS ⊢
  have hP : va_P D vwCl ([(x, .inr (11, [.ref st, .ref dr, .ref nw, .ref kp, .ref rd, .ref tm, .ref co])), (nw, .inr (10, [.ref rO, .ref sT, .ref mA, .ref sB, .ref sA, .ref tH, .ref tF, .ref tS, .int 0, .int 0, .int (-1), .int 0, .int 0])), (dr, .inr (0, [.ref nw, .ref tA, .ref lW, .ref nA, .ref kA, .int 0, .int 0])), (tA, .inl (cT, 4, .inr (.inr (.inr (.inr tf))))), (rd, .inr (2, [.ref tP, .int 0, .int (-1), .int 0, .int 37, .int 0, .ref t0])), (tP, .inr (7, [.ref bY, .ref ki, .ref at_, .ref nu, .int 0, .int 1]))]) H := hP
  have hD : va_D A ([(x, .inr (11, [.ref st, .ref dr, .ref nw, .ref kp, .ref rd, .ref tm, .ref co])), (nw, .inr (10, [.ref rO, .ref sT, .ref mA, .ref sB, .ref sA, .ref tH, .ref tF, .ref tS, .int 0, .int 0, .int (-1), .int 0, .int 0])), (dr, .inr (0, [.ref nw, .ref tA, .ref lW, .ref nA, .ref kA, .int 0, .int 0])), (tA, .inl (cT, 4, .inr (.inr (.inr (.inr tf))))), (rd, .inr (2, [.ref tP, .int 0, .int (-1), .int 0, .int 37, .int 0, .ref t0])), (tP, .inr (7, [.ref bY, .ref ki, .ref at_, .ref nu, .int 0, .int 1]))]) := hD
  refine lv_aload_n hx hb dX11_text_35 rfl (lv_at hl 0 rfl) ?_
  refine z_get Z i_X11 hP 0 rfl rfl 4 (by decide) bw_472 rfl dX11_text_36 ?_
  refine z_get Z i_X2 hP 4 rfl rfl 0 (by decide) bw_422 rfl dX11_text_39 ?_
  refine lv_iconst (v := 0) hx hb dX11_text_42 (by decide) ?_
  refine z_put Z i_X7 tyX7 tyX7_ok nmX7 hP hD hS 5 rfl rfl 4 (by decide) bw_403 rfl rfl rfl (Nat.le_of_ble_eq_true rfl) dX11_text_43 (fun H locs hP hD hS => ?_)
  have hP : va_P D vwCl ([(x, .inr (11, [.ref st, .ref dr, .ref nw, .ref kp, .ref rd, .ref tm, .ref co])), (nw, .inr (10, [.ref rO, .ref sT, .ref mA, .ref sB, .ref sA, .ref tH, .ref tF, .ref tS, .int 0, .int 0, .int (-1), .int 0, .int 0])), (dr, .inr (0, [.ref nw, .ref tA, .ref lW, .ref nA, .ref kA, .int 0, .int 0])), (tA, .inl (cT, 4, .inr (.inr (.inr (.inr tf))))), (rd, .inr (2, [.ref tP, .int 0, .int (-1), .int 0, .int 37, .int 0, .ref t0])), (tP, .inr (7, [.ref bY, .ref ki, .ref at_, .ref nu, .int 0, .int 1]))]) H := hP
  have hD : va_D A ([(x, .inr (11, [.ref st, .ref dr, .ref nw, .ref kp, .ref rd, .ref tm, .ref co])), (nw, .inr (10, [.ref rO, .ref sT, .ref mA, .ref sB, .ref sA, .ref tH, .ref tF, .ref tS, .int 0, .int 0, .int (-1), .int 0, .int 0])), (dr, .inr (0, [.ref nw, .ref tA, .ref lW, .ref nA, .ref kA, .int 0, .int 0])), (tA, .inl (cT, 4, .inr (.inr (.inr (.inr tf))))), (rd, .inr (2, [.ref tP, .int 0, .int (-1), .int 0, .int 37, .int 0, .ref t0])), (tP, .inr (7, [.ref bY, .ref ki, .ref at_, .ref nu, .int 0, .int 1]))]) := hD
  refine lv_aload_n hx hb dX11_text_46 rfl (lv_at hl 0 rfl) ?_
  refine z_get Z i_X11 hP 0 rfl rfl 4 (by decide) bw_472 rfl dX11_text_47 ?_
  refine z_get Z i_X2 hP 4 rfl rfl 1 (by decide) bw_424 rfl dX11_text_50 ?_
  refine lv_if_eq (tgt := 58) hx hb dX11_text_53 (by decide) (fun c5 => ?_) (fun h => absurd (by decide) h)
  refine lv_aload_n hx hb dX11_text_58 rfl (lv_at hl 0 rfl) ?_
  refine z_get Z i_X11 hP 0 rfl rfl 2 (by decide) bw_470 rfl dX11_text_59 ?_
  refine lv_dup hx hb dX11_text_62 rfl ?_
  refine z_get Z i_X10 hP 1 rfl rfl 9 (by decide) bw_255 rfl dX11_text_63 ?_
  refine lv_iconst (v := 1) hx hb dX11_text_66 (by decide) ?_
  refine lv_iadd hx hb dX11_text_67 ?_
  refine z_topi (y := 1) (by decide) ?_
  refine z_put Z i_X10 tyX10 tyX10_ok nmX10 hP hD hS 1 rfl rfl 9 (by decide) bw_255 rfl rfl rfl (Nat.le_of_ble_eq_true rfl) dX11_text_68 (fun H locs hP hD hS => ?_)
  have hP : va_P D vwCl ([(x, .inr (11, [.ref st, .ref dr, .ref nw, .ref kp, .ref rd, .ref tm, .ref co])), (nw, .inr (10, [.ref rO, .ref sT, .ref mA, .ref sB, .ref sA, .ref tH, .ref tF, .ref tS, .int 0, .int 1, .int (-1), .int 0, .int 0])), (dr, .inr (0, [.ref nw, .ref tA, .ref lW, .ref nA, .ref kA, .int 0, .int 0])), (tA, .inl (cT, 4, .inr (.inr (.inr (.inr tf))))), (rd, .inr (2, [.ref tP, .int 0, .int (-1), .int 0, .int 37, .int 0, .ref t0])), (tP, .inr (7, [.ref bY, .ref ki, .ref at_, .ref nu, .int 0, .int 1]))]) H := hP
  have hD : va_D A ([(x, .inr (11, [.ref st, .ref dr, .ref nw, .ref kp, .ref rd, .ref tm, .ref co])), (nw, .inr (10, [.ref rO, .ref sT, .ref mA, .ref sB, .ref sA, .ref tH, .ref tF, .ref tS, .int 0, .int 1, .int (-1), .int 0, .int 0])), (dr, .inr (0, [.ref nw, .ref tA, .ref lW, .ref nA, .ref kA, .int 0, .int 0])), (tA, .inl (cT, 4, .inr (.inr (.inr (.inr tf))))), (rd, .inr (2, [.ref tP, .int 0, .int (-1), .int 0, .int 37, .int 0, .ref t0])), (tP, .inr (7, [.ref bY, .ref ki, .ref at_, .ref nu, .int 0, .int 1]))]) := hD
  refine lv_aload_n hx hb dX11_text_71 rfl (lv_at hl 0 rfl) ?_
  refine z_get Z i_X11 hP 0 rfl rfl 2 (by decide) bw_470 rfl dX11_text_72 ?_
  refine z_get Z i_X10 hP 1 rfl rfl 9 (by decide) bw_255 rfl dX11_text_75 ?_
  refine lv_iconst (v := 1) hx hb dX11_text_78 (by decide) ?_
  refine lv_isub hx hb dX11_text_79 ?_
  refine z_topi (y := 0) (by decide) ?_
  exact z_ret Z rfl hP hD hS ((by first | rfl | assumption)) dX11_text_80 (Nat.le_of_ble_eq_true rfl) (Nat.le_of_ble_eq_true rfl)
set_option maxHeartbeats 4000000 in
set_option maxRecDepth 100000 in
theorem c_X8_seek (l : Launch) (D : va_G) (cI cM cT : ClassId) (tm : Nat) (be : Nat) (or_ : Nat) (sO : Nat) (f : Nat → Int32) (f0 : Nat → Int32) (p0 : Int32) (p1 : Int32) : Cv l D (ty3 cI cM cT) yX8_seek cX8_seek 8 1 0 0 [.ref tm, .ref sO, .int p0, .int p1, .int 0, .int 0] ([(tm, .inr (8, [.ref be, .ref or_, .int 0, .int (-1)])), (be, .inl (cI, 6, .inl f)), (or_, .inl (cI, 6, .inl f0))]) (fun u => ∃ (o : Int32) (g : Nat → Int32), u = [(tm, .inr (8, [.ref be, .ref or_, .int 0, .int o])), (be, .inl (cI, 6, .inl g))] ∧ o = (if p0 = p1 then 0 else (-1))) := by
  refine Cv.of (by decide +kernel) (Nat.le_of_ble_eq_true rfl) ?_
  intro p e s m below meth c A ls Z hin hP hD hl
  have hx := Z.1
  have hb := Z.2.1
  have hS : va_S A s.heap s.heap [] := va_S.rf
  have hl : lv_has ls 8 [(0, .ref tm), (1, .ref sO), (2, .int p0), (3, .int p1), (4, .int 0), (5, .int 0)] := hl
  skip
  refine lv_iload hx hb dX8_seek_0 (lv_at hl 4 rfl) ?_
  refine lv_aload_n hx hb dX8_seek_2 rfl (lv_at hl 0 rfl) ?_
  refine z_get Z i_X8 hP 0 rfl rfl 2 (by decide) bw_455 rfl dX8_seek_3 ?_
  refine lv_icmp_lt (tgt := 53) hx hb dX8_seek_6 (by decide) (fun h => absurd h (by decide)) (fun c1 => ?_)
  refine lv_iload_n hx hb dX8_seek_9 rfl (lv_at hl 2 rfl) ?_
  refine lv_iload_n hx hb dX8_seek_10 rfl (lv_at hl 3 rfl) ?_
  refine lv_icmp_ne (tgt := 52) hx hb dX8_seek_11 (by decide) (fun c2 => ?_) (fun c2 => ?_)
  · have hP := hP.sub2 (wc := [(tm, .inr (8, [.ref be, .ref or_, .int 0, .int (-1)])), (be, .inl (cI, 6, .inl f))]) [0, 1] rfl
    have hD := hD.sub (ws' := [(tm, .inr (8, [.ref be, .ref or_, .int 0, .int (-1)])), (be, .inl (cI, 6, .inl f))]) [0, 1] (by decide) rfl
    exact z_vret Z hP hD hS (⟨(-1), f, rfl, (by first | rfl | assumption | (rw [if_pos (by (try simp only [zlt, zle, zeq, zl_0, zl_1, zl_2, zl_3, zl_4, zl_5, zl_6, zl_7, zl_8, zl_9, zl_10, zl_11, zl_12, zl_13, zl_19, zl_20, zl_30, zl_64, zl_99, zl_100, zl_299, zl_300, zl_399, zl_999, zl_9999, zl_m1, zl_m2, zl_m3, zl_32, zl_280] at c1 c2 ⊢); omega)]; first | done | ((try simp only [zlt, zle, zeq, zl_0, zl_1, zl_2, zl_3, zl_4, zl_5, zl_6, zl_7, zl_8, zl_9, zl_10, zl_11, zl_12, zl_13, zl_19, zl_20, zl_30, zl_64, zl_99, zl_100, zl_299, zl_300, zl_399, zl_999, zl_9999, zl_m1, zl_m2, zl_m3, zl_32, zl_280] at c1 c2 ⊢); omega)) | (rw [if_neg (by (try simp only [zlt, zle, zeq, zl_0, zl_1, zl_2, zl_3, zl_4, zl_5, zl_6, zl_7, zl_8, zl_9, zl_10, zl_11, zl_12, zl_13, zl_19, zl_20, zl_30, zl_64, zl_99, zl_100, zl_299, zl_300, zl_399, zl_999, zl_9999, zl_m1, zl_m2, zl_m3, zl_32, zl_280] at c1 c2 ⊢); omega)]; first | done | ((try simp only [zlt, zle, zeq, zl_0, zl_1, zl_2, zl_3, zl_4, zl_5, zl_6, zl_7, zl_8, zl_9, zl_10, zl_11, zl_12, zl_13, zl_19, zl_20, zl_30, zl_64, zl_99, zl_100, zl_299, zl_300, zl_399, zl_999, zl_9999, zl_m1, zl_m2, zl_m3, zl_32, zl_280] at c1 c2 ⊢); omega)))⟩) dX8_seek_52 (Nat.le_of_ble_eq_true rfl) (Nat.le_of_ble_eq_true rfl)
  · refine lv_aload_n hx hb dX8_seek_14 rfl (lv_at hl 0 rfl) ?_
    refine z_get Z i_X8 hP 0 rfl rfl 3 (by decide) bw_457 rfl dX8_seek_15 ?_
    refine lv_iconst (v := (-1)) hx hb dX8_seek_18 (by decide) ?_
    refine lv_icmp_eq (tgt := 31) hx hb dX8_seek_19 (by decide) (fun c3 => ?_) (fun h => absurd (by decide) h)
    refine lv_aload_n hx hb dX8_seek_31 rfl (lv_at hl 0 rfl) ?_
    refine lv_iload hx hb dX8_seek_32 (lv_at hl 5 rfl) ?_
    refine z_put Z i_X8 tyX8 tyX8_ok nmX8 hP hD hS 0 rfl rfl 3 (by decide) bw_457 rfl rfl rfl (Nat.le_of_ble_eq_true rfl) dX8_seek_34 (fun H locs hP hD hS => ?_)
    have hP : va_P D vwCl ([(tm, .inr (8, [.ref be, .ref or_, .int 0, .int 0])), (be, .inl (cI, 6, .inl f)), (or_, .inl (cI, 6, .inl f0))]) H := hP
    have hD : va_D A ([(tm, .inr (8, [.ref be, .ref or_, .int 0, .int 0])), (be, .inl (cI, 6, .inl f)), (or_, .inl (cI, 6, .inl f0))]) := hD
    refine lv_aload_n hx hb dX8_seek_37 rfl (lv_at hl 0 rfl) ?_
    refine z_get Z i_X8 hP 0 rfl rfl 1 (by decide) bw_454 rfl dX8_seek_38 ?_
    refine lv_iconst (v := 0) hx hb dX8_seek_41 (by decide) ?_
    refine lv_aload_n hx hb dX8_seek_42 rfl (lv_at hl 0 rfl) ?_
    refine z_get Z i_X8 hP 0 rfl rfl 0 (by decide) bw_452 rfl dX8_seek_43 ?_
    refine lv_iconst (v := 0) hx hb dX8_seek_46 (by decide) ?_
    refine lv_bipush (v := 6) hx hb dX8_seek_47 (by decide) ?_
    refine va_copyi hx hb (Z.2.2.1.trans hl.1.symm) Z.2.2.2.1 (Z.2.2.2.2.1 _ bw_916) (Z.2.2.2.2.1 _ bw_526) (Z.2.2.2.2.1 _ bw_525) (Z.2.2.2.2.1 _ bw_93) Z.2.2.2.2.2.2.1 hP hD hS 2 1 0 0 rfl rfl rfl rfl rfl (by decide) (by decide) (by decide) (by decide) (by decide) (fun _ _ => rfl) (Nat.le_of_ble_eq_true rfl) (by decide +kernel) dX8_seek_49 (fun H locs hP hD hS => ?_)
    have hP : va_P D vwCl ([(tm, .inr (8, [.ref be, .ref or_, .int 0, .int 0])), (be, .inl (cI, 6, .inl (va_cpy f0 f 0 0 6))), (or_, .inl (cI, 6, .inl f0))]) H := hP
    have hD : va_D A ([(tm, .inr (8, [.ref be, .ref or_, .int 0, .int 0])), (be, .inl (cI, 6, .inl (va_cpy f0 f 0 0 6))), (or_, .inl (cI, 6, .inl f0))]) := hD
    have hP := hP.sub2 (wc := [(tm, .inr (8, [.ref be, .ref or_, .int 0, .int 0])), (be, .inl (cI, 6, .inl (va_cpy f0 f 0 0 6)))]) [0, 1] rfl
    have hD := hD.sub (ws' := [(tm, .inr (8, [.ref be, .ref or_, .int 0, .int 0])), (be, .inl (cI, 6, .inl (va_cpy f0 f 0 0 6)))]) [0, 1] (by decide) rfl
    exact z_vret Z hP hD hS (⟨0, (va_cpy f0 f 0 0 6), rfl, (by first | rfl | assumption | (rw [if_pos (by (try simp only [zlt, zle, zeq, zl_0, zl_1, zl_2, zl_3, zl_4, zl_5, zl_6, zl_7, zl_8, zl_9, zl_10, zl_11, zl_12, zl_13, zl_19, zl_20, zl_30, zl_64, zl_99, zl_100, zl_299, zl_300, zl_399, zl_999, zl_9999, zl_m1, zl_m2, zl_m3, zl_32, zl_280] at c1 c2 c3 ⊢); omega)]; first | done | ((try simp only [zlt, zle, zeq, zl_0, zl_1, zl_2, zl_3, zl_4, zl_5, zl_6, zl_7, zl_8, zl_9, zl_10, zl_11, zl_12, zl_13, zl_19, zl_20, zl_30, zl_64, zl_99, zl_100, zl_299, zl_300, zl_399, zl_999, zl_9999, zl_m1, zl_m2, zl_m3, zl_32, zl_280] at c1 c2 c3 ⊢); omega)) | (rw [if_neg (by (try simp only [zlt, zle, zeq, zl_0, zl_1, zl_2, zl_3, zl_4, zl_5, zl_6, zl_7, zl_8, zl_9, zl_10, zl_11, zl_12, zl_13, zl_19, zl_20, zl_30, zl_64, zl_99, zl_100, zl_299, zl_300, zl_399, zl_999, zl_9999, zl_m1, zl_m2, zl_m3, zl_32, zl_280] at c1 c2 c3 ⊢); omega)]; first | done | ((try simp only [zlt, zle, zeq, zl_0, zl_1, zl_2, zl_3, zl_4, zl_5, zl_6, zl_7, zl_8, zl_9, zl_10, zl_11, zl_12, zl_13, zl_19, zl_20, zl_30, zl_64, zl_99, zl_100, zl_299, zl_300, zl_399, zl_999, zl_9999, zl_m1, zl_m2, zl_m3, zl_32, zl_280] at c1 c2 c3 ⊢); omega)))⟩) dX8_seek_52 (Nat.le_of_ble_eq_true rfl) (Nat.le_of_ble_eq_true rfl)
set_option maxHeartbeats 4000000 in
set_option maxRecDepth 100000 in
theorem c_X8_find (l : Launch) (D : va_G) (cI cM cT : ClassId) (tm : Nat) (be : Nat) (or_ : Nat) (st : Nat) (dr : Nat) (s1 : Nat) (s2 : Nat) (s3 : Nat) (nw : Nat) (tA : Nat) (lW : Nat) (nA : Nat) (kA : Nat) (rO : Nat) (sT : Nat) (mA : Nat) (sB : Nat) (sA : Nat) (tH : Nat) (tF : Nat) (tS : Nat) (cO : Nat) (sH : Nat) (f : Nat → Int32) (f0 : Nat → Int32) (p0 : Int32) (p1 : Int32) : Cv l D (ty3 cI cM cT) yX8_find cX8_find 6 2 0 0 [.ref tm, .ref st, .int p0, .int p1] ([(tm, .inr (8, [.ref be, .ref or_, .int 0, .int (-1)])), (be, .inl (cI, 6, .inl f)), (or_, .inl (cI, 6, .inl f0)), (st, .inr (6, [.ref dr, .ref s1, .ref s2, .ref s3, .int 1])), (dr, .inr (0, [.ref nw, .ref tA, .ref lW, .ref nA, .ref kA, .int 0, .int 0])), (nw, .inr (10, [.ref rO, .ref sT, .ref mA, .ref sB, .ref sA, .ref tH, .ref tF, .ref tS, .int 0, .int 0, .int (-1), .int 0, .int 0])), (sT, .inr (4, [.ref cO, .ref sH, .int 0]))]) (fun u => ∃ (o : Int32) (g : Nat → Int32), u = [(tm, .inr (8, [.ref be, .ref or_, .int 0, .int o])), (be, .inl (cI, 6, .inl g))] ∧ o = (if p0 = p1 then 0 else (-1))) := by
  refine Cv.of (by decide +kernel) (Nat.le_of_ble_eq_true rfl) ?_
  intro p e s m below meth c A ls Z hin hP hD hl
  have hx := Z.1
  have hb := Z.2.1
  have hS : va_S A s.heap s.heap [] := va_S.rf
  have hl : lv_has ls 6 [(0, .ref tm), (1, .ref st), (2, .int p0), (3, .int p1)] := hl
  skip
  refine lv_aload_n hx hb dX8_find_0 rfl (lv_at hl 1 rfl) ?_
  refine z_get Z i_X6 hP 3 rfl rfl 0 (by decide) bw_361 rfl dX8_find_1 ?_
  refine z_get Z i_X0 hP 4 rfl rfl 0 (by decide) bw_332 rfl dX8_find_4 ?_
  refine z_get Z i_X10 hP 5 rfl rfl 1 (by decide) bw_235 rfl dX8_find_7 ?_
  refine z_get Z i_X4 hP 6 rfl rfl 2 (by decide) bw_166 rfl dX8_find_10 ?_
  refine lv_istore (lv' := [(4, .int 0), (0, .ref tm), (1, .ref st), (2, .int p0), (3, .int p1)]) hx hb dX8_find_13 hl (by decide) rfl (fun ls hl => ?_)
  refine lv_aload_n hx hb dX8_find_15 rfl (lv_at hl 1 rfl) ?_
  refine lv_iconst (v := (-1)) hx hb dX8_find_16 (by decide) ?_
  refine z_put Z i_X8 tyX8 tyX8_ok nmX8 hP hD hS 0 rfl rfl 3 (by decide) bw_457 rfl rfl rfl (Nat.le_of_ble_eq_true rfl) dX8_find_17 (fun H locs hP hD hS => ?_)
  have hP : va_P D vwCl ([(tm, .inr (8, [.ref be, .ref or_, .int 0, .int (-1)])), (be, .inl (cI, 6, .inl f)), (or_, .inl (cI, 6, .inl f0)), (st, .inr (6, [.ref dr, .ref s1, .ref s2, .ref s3, .int 1])), (dr, .inr (0, [.ref nw, .ref tA, .ref lW, .ref nA, .ref kA, .int 0, .int 0])), (nw, .inr (10, [.ref rO, .ref sT, .ref mA, .ref sB, .ref sA, .ref tH, .ref tF, .ref tS, .int 0, .int 0, .int (-1), .int 0, .int 0])), (sT, .inr (4, [.ref cO, .ref sH, .int 0]))]) H := hP
  have hD : va_D A ([(tm, .inr (8, [.ref be, .ref or_, .int 0, .int (-1)])), (be, .inl (cI, 6, .inl f)), (or_, .inl (cI, 6, .inl f0)), (st, .inr (6, [.ref dr, .ref s1, .ref s2, .ref s3, .int 1])), (dr, .inr (0, [.ref nw, .ref tA, .ref lW, .ref nA, .ref kA, .int 0, .int 0])), (nw, .inr (10, [.ref rO, .ref sT, .ref mA, .ref sB, .ref sA, .ref tH, .ref tF, .ref tS, .int 0, .int 0, .int (-1), .int 0, .int 0])), (sT, .inr (4, [.ref cO, .ref sH, .int 0]))]) := hD
  refine lv_aload_n hx hb dX8_find_20 rfl (lv_at hl 1 rfl) ?_
  refine lv_iconst (v := 0) hx hb dX8_find_21 (by decide) ?_
  refine z_put Z i_X8 tyX8 tyX8_ok nmX8 hP hD hS 0 rfl rfl 2 (by decide) bw_455 rfl rfl rfl (Nat.le_of_ble_eq_true rfl) dX8_find_22 (fun H locs hP hD hS => ?_)
  have hP : va_P D vwCl ([(tm, .inr (8, [.ref be, .ref or_, .int 0, .int (-1)])), (be, .inl (cI, 6, .inl f)), (or_, .inl (cI, 6, .inl f0)), (st, .inr (6, [.ref dr, .ref s1, .ref s2, .ref s3, .int 1])), (dr, .inr (0, [.ref nw, .ref tA, .ref lW, .ref nA, .ref kA, .int 0, .int 0])), (nw, .inr (10, [.ref rO, .ref sT, .ref mA, .ref sB, .ref sA, .ref tH, .ref tF, .ref tS, .int 0, .int 0, .int (-1), .int 0, .int 0])), (sT, .inr (4, [.ref cO, .ref sH, .int 0]))]) H := hP
  have hD : va_D A ([(tm, .inr (8, [.ref be, .ref or_, .int 0, .int (-1)])), (be, .inl (cI, 6, .inl f)), (or_, .inl (cI, 6, .inl f0)), (st, .inr (6, [.ref dr, .ref s1, .ref s2, .ref s3, .int 1])), (dr, .inr (0, [.ref nw, .ref tA, .ref lW, .ref nA, .ref kA, .int 0, .int 0])), (nw, .inr (10, [.ref rO, .ref sT, .ref mA, .ref sB, .ref sA, .ref tH, .ref tF, .ref tS, .int 0, .int 0, .int (-1), .int 0, .int 0])), (sT, .inr (4, [.ref cO, .ref sH, .int 0]))]) := hD
  refine lv_aload_n hx hb dX8_find_25 rfl (lv_at hl 1 rfl) ?_
  refine lv_aload_n hx hb dX8_find_26 rfl (lv_at hl 2 rfl) ?_
  refine lv_iload_n hx hb dX8_find_27 rfl (lv_at hl 3 rfl) ?_
  refine lv_iload_n hx hb dX8_find_28 rfl (lv_at hl 4 rfl) ?_
  refine lv_iconst (v := 0) hx hb dX8_find_29 (by decide) ?_
  refine lv_iconst (v := 0) hx hb dX8_find_30 (by decide) ?_
  have hPc := hP.sub2 (wc := [(tm, .inr (8, [.ref be, .ref or_, .int 0, .int (-1)])), (be, .inl (cI, 6, .inl f)), (or_, .inl (cI, 6, .inl f0))]) [0, 1, 2] rfl
  have hDc := hD.sub (ws' := [(tm, .inr (8, [.ref be, .ref or_, .int 0, .int (-1)])), (be, .inl (cI, 6, .inl f)), (or_, .inl (cI, 6, .inl f0))]) [0, 1, 2] (by decide) rfl
  refine raw_Vv (ci := 8) (q0 := 0) (nA := 5) (As := [.ref st, .int p0, .int p1, .int 0, .int 0]) (rest := []) Z hl.1 (c_X8_seek l D cI cM cT tm be or_ st f f0 p0 p1) (bw_V bw_912 bw_914 bw_29 bw_91 bw_915) ⟨by decide +kernel, by decide +kernel, by decide +kernel⟩ rfl ⟨Nat.le_of_ble_eq_true rfl, Nat.le_of_ble_eq_true rfl⟩ rfl rfl rfl hPc hDc hS rfl (Nat.le_of_ble_eq_true rfl) dX8_find_31 ⟨Nat.le_of_ble_eq_true rfl, Nat.le_of_ble_eq_true rfl⟩ (fun u1 H1 locs1 h3 hku1 hP1 hD1 hS1 => ?_)
  obtain ⟨o_4, g_5, rfl, huh3_0⟩ := h3
  obtain ⟨hP, hD⟩ := z_join (wr := [(st, .inr (6, [.ref dr, .ref s1, .ref s2, .ref s3, .int 1])), (dr, .inr (0, [.ref nw, .ref tA, .ref lW, .ref nA, .ref kA, .int 0, .int 0])), (nw, .inr (10, [.ref rO, .ref sT, .ref mA, .ref sB, .ref sA, .ref tH, .ref tF, .ref tS, .int 0, .int 0, .int (-1), .int 0, .int 0])), (sT, .inr (4, [.ref cO, .ref sH, .int 0]))]) Z hS hP hD [0, 1, 2] [3, 4, 5, 6] rfl (by decide) rfl (by decide) (by decide) hku1 hP1 hD1
  have hS := hS1
  clear hS1
  generalize H1 = H at hP hS ⊢
  generalize locs1 = locs at hS ⊢
  have hP : va_P D vwCl ([(st, .inr (6, [.ref dr, .ref s1, .ref s2, .ref s3, .int 1])), (dr, .inr (0, [.ref nw, .ref tA, .ref lW, .ref nA, .ref kA, .int 0, .int 0])), (nw, .inr (10, [.ref rO, .ref sT, .ref mA, .ref sB, .ref sA, .ref tH, .ref tF, .ref tS, .int 0, .int 0, .int (-1), .int 0, .int 0])), (sT, .inr (4, [.ref cO, .ref sH, .int 0])), (tm, .inr (8, [.ref be, .ref or_, .int 0, .int o_4])), (be, .inl (cI, 6, .inl g_5))]) H := hP
  have hD : va_D A ([(st, .inr (6, [.ref dr, .ref s1, .ref s2, .ref s3, .int 1])), (dr, .inr (0, [.ref nw, .ref tA, .ref lW, .ref nA, .ref kA, .int 0, .int 0])), (nw, .inr (10, [.ref rO, .ref sT, .ref mA, .ref sB, .ref sA, .ref tH, .ref tF, .ref tS, .int 0, .int 0, .int (-1), .int 0, .int 0])), (sT, .inr (4, [.ref cO, .ref sH, .int 0])), (tm, .inr (8, [.ref be, .ref or_, .int 0, .int o_4])), (be, .inl (cI, 6, .inl g_5))]) := hD
  refine lv_iconst (v := 1) hx hb dX8_find_34 (by decide) ?_
  refine lv_istore (lv' := [(5, .int 1), (4, .int 0), (0, .ref tm), (1, .ref st), (2, .int p0), (3, .int p1)]) hx hb dX8_find_35 hl (by decide) rfl (fun ls hl => ?_)
  refine lv_iload hx hb dX8_find_37 (lv_at hl 0 rfl) ?_
  refine lv_iload hx hb dX8_find_39 (lv_at hl 1 rfl) ?_
  refine lv_icmp_gt (tgt := 73) hx hb dX8_find_41 (by decide) (fun c6 => ?_) (fun h => absurd (by decide) h)
  have hP := hP.sub2 (wc := [(tm, .inr (8, [.ref be, .ref or_, .int 0, .int o_4])), (be, .inl (cI, 6, .inl g_5))]) [4, 5] rfl
  have hD := hD.sub (ws' := [(tm, .inr (8, [.ref be, .ref or_, .int 0, .int o_4])), (be, .inl (cI, 6, .inl g_5))]) [4, 5] (by decide) rfl
  exact z_vret Z hP hD hS (⟨o_4, g_5, rfl, (by first | rfl | assumption | (rw [if_pos (by (try simp only [zlt, zle, zeq, zl_0, zl_1, zl_2, zl_3, zl_4, zl_5, zl_6, zl_7, zl_8, zl_9, zl_10, zl_11, zl_12, zl_13, zl_19, zl_20, zl_30, zl_64, zl_99, zl_100, zl_299, zl_300, zl_399, zl_999, zl_9999, zl_m1, zl_m2, zl_m3, zl_32, zl_280] at c6 ⊢); omega)]; first | done | ((try simp only [zlt, zle, zeq, zl_0, zl_1, zl_2, zl_3, zl_4, zl_5, zl_6, zl_7, zl_8, zl_9, zl_10, zl_11, zl_12, zl_13, zl_19, zl_20, zl_30, zl_64, zl_99, zl_100, zl_299, zl_300, zl_399, zl_999, zl_9999, zl_m1, zl_m2, zl_m3, zl_32, zl_280] at c6 ⊢); omega)) | (rw [if_neg (by (try simp only [zlt, zle, zeq, zl_0, zl_1, zl_2, zl_3, zl_4, zl_5, zl_6, zl_7, zl_8, zl_9, zl_10, zl_11, zl_12, zl_13, zl_19, zl_20, zl_30, zl_64, zl_99, zl_100, zl_299, zl_300, zl_399, zl_999, zl_9999, zl_m1, zl_m2, zl_m3, zl_32, zl_280] at c6 ⊢); omega)]; first | done | ((try simp only [zlt, zle, zeq, zl_0, zl_1, zl_2, zl_3, zl_4, zl_5, zl_6, zl_7, zl_8, zl_9, zl_10, zl_11, zl_12, zl_13, zl_19, zl_20, zl_30, zl_64, zl_99, zl_100, zl_299, zl_300, zl_399, zl_999, zl_9999, zl_m1, zl_m2, zl_m3, zl_32, zl_280] at c6 ⊢); omega)))⟩) dX8_find_73 (Nat.le_of_ble_eq_true rfl) (Nat.le_of_ble_eq_true rfl)
set_option maxHeartbeats 4000000 in
set_option maxRecDepth 100000 in
theorem c_X11_harness (l : Launch) (D : va_G) (cI cM cT : ClassId) (x : Nat) (st : Nat) (dr : Nat) (nw : Nat) (kp : Nat) (rd : Nat) (tm : Nat) (co : Nat) (be : Nat) (or_ : Nat) (s1 : Nat) (s2 : Nat) (s3 : Nat) (tA : Nat) (lW : Nat) (nA : Nat) (kA : Nat) (rO : Nat) (sT : Nat) (mA : Nat) (sB : Nat) (sA : Nat) (tH : Nat) (tF : Nat) (tS : Nat) (cO : Nat) (sH : Nat) (p0 : Int32) (p1 : Int32) (p2 : Int32) : Ci l D (ty3 cI cM cT) yX11_harness cX11_harness 4 (some .int) 4 0 0 [.ref x, .int p0, .int p1, .int p2] ([(x, .inr (11, [.ref st, .ref dr, .ref nw, .ref kp, .ref rd, .ref tm, .ref co])), (tm, .inr (8, [.ref be, .ref or_, .int 0, .int (-1)])), (be, .inl (cI, 6, .inl (fun _ => 0))), (or_, .inl (cI, 6, .inl (fun _ => 0))), (st, .inr (6, [.ref dr, .ref s1, .ref s2, .ref s3, .int 1])), (dr, .inr (0, [.ref nw, .ref tA, .ref lW, .ref nA, .ref kA, .int 0, .int 0])), (nw, .inr (10, [.ref rO, .ref sT, .ref mA, .ref sB, .ref sA, .ref tH, .ref tF, .ref tS, .int 0, .int 0, .int (-1), .int 0, .int 0])), (sT, .inr (4, [.ref cO, .ref sH, .int 0]))]) (fun r u => r = (if (0 ≤ p0 ∧ p0 < 300) ∧ (0 ≤ p1 ∧ p1 < 300) ∧ p0 = p1 ∧ (p2 = (-1) ∨ p2 = (-2)) then 0 else (-3))) := by
  refine Ci.of (by decide +kernel) (Nat.le_of_ble_eq_true rfl) ?_
  intro p e s m below meth c A ls Z hin hP hD hl
  have hx := Z.1
  have hb := Z.2.1
  have hS : va_S A s.heap s.heap [] := va_S.rf
  have hl : lv_has ls 4 [(0, .ref x), (1, .int p0), (2, .int p1), (3, .int p2)] := hl
  skip
  refine lv_iload_n hx hb dX11_harness_0 rfl (lv_at hl 1 rfl) ?_
  have hPc := hP.sub2 (wc := []) [] rfl
  have hDc := hD.sub (ws' := []) [] (by decide) rfl
  refine raw_Si (nA := 1) (As := [.int p0]) (rest := []) Z hl.1 (c_X11_isPlace l D cI cM cT p0) (bw_S bw_494 bw_495 bw_80 bw_496) ⟨by decide +kernel, by decide +kernel, by decide +kernel⟩ rfl ⟨Nat.le_of_ble_eq_true rfl, Nat.le_of_ble_eq_true rfl⟩ hPc hDc hS rfl (Nat.le_of_ble_eq_true rfl) dX11_harness_1 ⟨Nat.le_of_ble_eq_true rfl, Nat.le_of_ble_eq_true rfl⟩ (fun r2 u1 H1 locs1 h3 hku1 hP1 hD1 hS1 => ?_)
  obtain ⟨hrh3, rfl⟩ := h3
  obtain ⟨hP, hD⟩ := z_join (wr := [(x, .inr (11, [.ref st, .ref dr, .ref nw, .ref kp, .ref rd, .ref tm, .ref co])), (tm, .inr (8, [.ref be, .ref or_, .int 0, .int (-1)])), (be, .inl (cI, 6, .inl (fun _ => 0))), (or_, .inl (cI, 6, .inl (fun _ => 0))), (st, .inr (6, [.ref dr, .ref s1, .ref s2, .ref s3, .int 1])), (dr, .inr (0, [.ref nw, .ref tA, .ref lW, .ref nA, .ref kA, .int 0, .int 0])), (nw, .inr (10, [.ref rO, .ref sT, .ref mA, .ref sB, .ref sA, .ref tH, .ref tF, .ref tS, .int 0, .int 0, .int (-1), .int 0, .int 0])), (sT, .inr (4, [.ref cO, .ref sH, .int 0]))]) Z hS hP hD [] [0, 1, 2, 3, 4, 5, 6, 7] rfl (by decide) rfl (by decide) (by decide) hku1 hP1 hD1
  have hS := hS1
  clear hS1
  generalize H1 = H at hP hS ⊢
  generalize locs1 = locs at hS ⊢
  have hP : va_P D vwCl ([(x, .inr (11, [.ref st, .ref dr, .ref nw, .ref kp, .ref rd, .ref tm, .ref co])), (tm, .inr (8, [.ref be, .ref or_, .int 0, .int (-1)])), (be, .inl (cI, 6, .inl (fun _ => 0))), (or_, .inl (cI, 6, .inl (fun _ => 0))), (st, .inr (6, [.ref dr, .ref s1, .ref s2, .ref s3, .int 1])), (dr, .inr (0, [.ref nw, .ref tA, .ref lW, .ref nA, .ref kA, .int 0, .int 0])), (nw, .inr (10, [.ref rO, .ref sT, .ref mA, .ref sB, .ref sA, .ref tH, .ref tF, .ref tS, .int 0, .int 0, .int (-1), .int 0, .int 0])), (sT, .inr (4, [.ref cO, .ref sH, .int 0]))]) H := hP
  have hD : va_D A ([(x, .inr (11, [.ref st, .ref dr, .ref nw, .ref kp, .ref rd, .ref tm, .ref co])), (tm, .inr (8, [.ref be, .ref or_, .int 0, .int (-1)])), (be, .inl (cI, 6, .inl (fun _ => 0))), (or_, .inl (cI, 6, .inl (fun _ => 0))), (st, .inr (6, [.ref dr, .ref s1, .ref s2, .ref s3, .int 1])), (dr, .inr (0, [.ref nw, .ref tA, .ref lW, .ref nA, .ref kA, .int 0, .int 0])), (nw, .inr (10, [.ref rO, .ref sT, .ref mA, .ref sB, .ref sA, .ref tH, .ref tF, .ref tS, .int 0, .int 0, .int (-1), .int 0, .int 0])), (sT, .inr (4, [.ref cO, .ref sH, .int 0]))]) := hD
  by_cases c4 : 0 ≤ p0 ∧ p0 < 300
  · obtain rfl : r2 = 1 := by rw [hrh3, if_pos c4]
    refine lv_if_eq (tgt := 14) hx hb dX11_harness_4 (by decide) (fun h => absurd h (by decide)) (fun c5 => ?_)
    refine lv_iload_n hx hb dX11_harness_7 rfl (lv_at hl 2 rfl) ?_
    have hPc := hP.sub2 (wc := []) [] rfl
    have hDc := hD.sub (ws' := []) [] (by decide) rfl
    refine raw_Si (nA := 1) (As := [.int p1]) (rest := []) Z hl.1 (c_X11_isPlace l D cI cM cT p1) (bw_S bw_494 bw_495 bw_80 bw_496) ⟨by decide +kernel, by decide +kernel, by decide +kernel⟩ rfl ⟨Nat.le_of_ble_eq_true rfl, Nat.le_of_ble_eq_true rfl⟩ hPc hDc hS rfl (Nat.le_of_ble_eq_true rfl) dX11_harness_8 ⟨Nat.le_of_ble_eq_true rfl, Nat.le_of_ble_eq_true rfl⟩ (fun r7 u6 H1 locs1 h8 hku6 hP1 hD1 hS1 => ?_)
    obtain ⟨hrh8, rfl⟩ := h8
    obtain ⟨hP, hD⟩ := z_join (wr := [(x, .inr (11, [.ref st, .ref dr, .ref nw, .ref kp, .ref rd, .ref tm, .ref co])), (tm, .inr (8, [.ref be, .ref or_, .int 0, .int (-1)])), (be, .inl (cI, 6, .inl (fun _ => 0))), (or_, .inl (cI, 6, .inl (fun _ => 0))), (st, .inr (6, [.ref dr, .ref s1, .ref s2, .ref s3, .int 1])), (dr, .inr (0, [.ref nw, .ref tA, .ref lW, .ref nA, .ref kA, .int 0, .int 0])), (nw, .inr (10, [.ref rO, .ref sT, .ref mA, .ref sB, .ref sA, .ref tH, .ref tF, .ref tS, .int 0, .int 0, .int (-1), .int 0, .int 0])), (sT, .inr (4, [.ref cO, .ref sH, .int 0]))]) Z hS hP hD [] [0, 1, 2, 3, 4, 5, 6, 7] rfl (by decide) rfl (by decide) (by decide) hku6 hP1 hD1
    have hS := hS1
    clear hS1
    generalize H1 = H at hP hS ⊢
    generalize locs1 = locs at hS ⊢
    have hP : va_P D vwCl ([(x, .inr (11, [.ref st, .ref dr, .ref nw, .ref kp, .ref rd, .ref tm, .ref co])), (tm, .inr (8, [.ref be, .ref or_, .int 0, .int (-1)])), (be, .inl (cI, 6, .inl (fun _ => 0))), (or_, .inl (cI, 6, .inl (fun _ => 0))), (st, .inr (6, [.ref dr, .ref s1, .ref s2, .ref s3, .int 1])), (dr, .inr (0, [.ref nw, .ref tA, .ref lW, .ref nA, .ref kA, .int 0, .int 0])), (nw, .inr (10, [.ref rO, .ref sT, .ref mA, .ref sB, .ref sA, .ref tH, .ref tF, .ref tS, .int 0, .int 0, .int (-1), .int 0, .int 0])), (sT, .inr (4, [.ref cO, .ref sH, .int 0]))]) H := hP
    have hD : va_D A ([(x, .inr (11, [.ref st, .ref dr, .ref nw, .ref kp, .ref rd, .ref tm, .ref co])), (tm, .inr (8, [.ref be, .ref or_, .int 0, .int (-1)])), (be, .inl (cI, 6, .inl (fun _ => 0))), (or_, .inl (cI, 6, .inl (fun _ => 0))), (st, .inr (6, [.ref dr, .ref s1, .ref s2, .ref s3, .int 1])), (dr, .inr (0, [.ref nw, .ref tA, .ref lW, .ref nA, .ref kA, .int 0, .int 0])), (nw, .inr (10, [.ref rO, .ref sT, .ref mA, .ref sB, .ref sA, .ref tH, .ref tF, .ref tS, .int 0, .int 0, .int (-1), .int 0, .int 0])), (sT, .inr (4, [.ref cO, .ref sH, .int 0]))]) := hD
    by_cases c9 : 0 ≤ p1 ∧ p1 < 300
    · obtain rfl : r7 = 1 := by rw [hrh8, if_pos c9]
      refine lv_if_ne (tgt := 17) hx hb dX11_harness_11 (by decide) (fun c10 => ?_) (fun h => absurd h (by decide))
      refine lv_aload_n hx hb dX11_harness_17 rfl (lv_at hl 0 rfl) ?_
      refine z_get Z i_X11 hP 0 rfl rfl 5 (by decide) bw_473 rfl dX11_harness_18 ?_
      refine lv_aload_n hx hb dX11_harness_21 rfl (lv_at hl 0 rfl) ?_
      refine z_get Z i_X11 hP 0 rfl rfl 0 (by decide) bw_468 rfl dX11_harness_22 ?_
      refine lv_iload_n hx hb dX11_harness_25 rfl (lv_at hl 1 rfl) ?_
      refine lv_iload_n hx hb dX11_harness_26 rfl (lv_at hl 2 rfl) ?_
      have hPc := hP.sub2 (wc := [(tm, .inr (8, [.ref be, .ref or_, .int 0, .int (-1)])), (be, .inl (cI, 6, .inl (fun _ => 0))), (or_, .inl (cI, 6, .inl (fun _ => 0))), (st, .inr (6, [.ref dr, .ref s1, .ref s2, .ref s3, .int 1])), (dr, .inr (0, [.ref nw, .ref tA, .ref lW, .ref nA, .ref kA, .int 0, .int 0])), (nw, .inr (10, [.ref rO, .ref sT, .ref mA, .ref sB, .ref sA, .ref tH, .ref tF, .ref tS, .int 0, .int 0, .int (-1), .int 0, .int 0])), (sT, .inr (4, [.ref cO, .ref sH, .int 0]))]) [1, 2, 3, 4, 5, 6, 7] rfl
      have hDc := hD.sub (ws' := [(tm, .inr (8, [.ref be, .ref or_, .int 0, .int (-1)])), (be, .inl (cI, 6, .inl (fun _ => 0))), (or_, .inl (cI, 6, .inl (fun _ => 0))), (st, .inr (6, [.ref dr, .ref s1, .ref s2, .ref s3, .int 1])), (dr, .inr (0, [.ref nw, .ref tA, .ref lW, .ref nA, .ref kA, .int 0, .int 0])), (nw, .inr (10, [.ref rO, .ref sT, .ref mA, .ref sB, .ref sA, .ref tH, .ref tF, .ref tS, .int 0, .int 0, .int (-1), .int 0, .int 0])), (sT, .inr (4, [.ref cO, .ref sH, .int 0]))]) [1, 2, 3, 4, 5, 6, 7] (by decide) rfl
      refine raw_Vv (ci := 8) (q0 := 0) (nA := 3) (As := [.ref st, .int p0, .int p1]) (rest := []) Z hl.1 (c_X8_find l D cI cM cT tm be or_ st dr s1 s2 s3 nw tA lW nA kA rO sT mA sB sA tH tF tS cO sH (fun _ => 0) (fun _ => 0) p0 p1) (bw_V bw_908 bw_909 bw_910 bw_91 bw_911) ⟨by decide +kernel, by decide +kernel, by decide +kernel⟩ rfl ⟨Nat.le_of_ble_eq_true rfl, Nat.le_of_ble_eq_true rfl⟩ rfl rfl rfl hPc hDc hS rfl (Nat.le_of_ble_eq_true rfl) dX11_harness_27 ⟨Nat.le_of_ble_eq_true rfl, Nat.le_of_ble_eq_true rfl⟩ (fun u11 H1 locs1 h13 hku11 hP1 hD1 hS1 => ?_)
      obtain ⟨o_14, g_15, rfl, huh13_0⟩ := h13
      obtain ⟨hP, hD⟩ := z_join (wr := [(x, .inr (11, [.ref st, .ref dr, .ref nw, .ref kp, .ref rd, .ref tm, .ref co]))]) Z hS hP hD [1, 2, 3, 4, 5, 6, 7] [0] rfl (by decide) rfl (by decide) (by decide) hku11 hP1 hD1
      have hS := hS1
      clear hS1
      generalize H1 = H at hP hS ⊢
      generalize locs1 = locs at hS ⊢
      have hP : va_P D vwCl ([(x, .inr (11, [.ref st, .ref dr, .ref nw, .ref kp, .ref rd, .ref tm, .ref co])), (tm, .inr (8, [.ref be, .ref or_, .int 0, .int o_14])), (be, .inl (cI, 6, .inl g_15))]) H := hP
      have hD : va_D A ([(x, .inr (11, [.ref st, .ref dr, .ref nw, .ref kp, .ref rd, .ref tm, .ref co])), (tm, .inr (8, [.ref be, .ref or_, .int 0, .int o_14])), (be, .inl (cI, 6, .inl g_15))]) := hD
      by_cases ce : p0 = p1
      · rw [if_pos ce] at huh13_0
        subst huh13_0
        refine lv_aload_n hx hb dX11_harness_30 rfl (lv_at hl 0 rfl) ?_
        refine z_get Z i_X11 hP 0 rfl rfl 5 (by decide) bw_473 rfl dX11_harness_31 ?_
        refine z_get Z i_X8 hP 1 rfl rfl 3 (by decide) bw_458 rfl dX11_harness_34 ?_
        refine lv_iconst (v := (-1)) hx hb dX11_harness_37 (by decide) ?_
        refine lv_icmp_ne (tgt := 44) hx hb dX11_harness_38 (by decide) (fun c16 => ?_) (fun h => absurd h (by decide))
        refine lv_iload_n hx hb dX11_harness_44 rfl (lv_at hl 3 rfl) ?_
        refine lv_iconst (v := (-1)) hx hb dX11_harness_45 (by decide) ?_
        refine lv_icmp_ne (tgt := 57) hx hb dX11_harness_46 (by decide) (fun c17 => ?_) (fun c17 => ?_)
        · refine lv_iload_n hx hb dX11_harness_57 rfl (lv_at hl 3 rfl) ?_
          refine lv_bipush (v := (-2)) hx hb dX11_harness_58 (by decide) ?_
          refine lv_icmp_ne (tgt := 71) hx hb dX11_harness_60 (by decide) (fun c18 => ?_) (fun c18 => ?_)
          · refine lv_iload_n hx hb dX11_harness_71 rfl (lv_at hl 3 rfl) ?_
            refine lv_iconst (v := 0) hx hb dX11_harness_72 (by decide) ?_
            refine lv_aload_n hx hb dX11_harness_73 rfl (lv_at hl 0 rfl) ?_
            refine z_get Z i_X11 hP 0 rfl rfl 5 (by decide) bw_473 rfl dX11_harness_74 ?_
            refine z_get Z i_X8 hP 1 rfl rfl 2 (by decide) bw_456 rfl dX11_harness_77 ?_
            refine lv_iconst (v := 1) hx hb dX11_harness_80 (by decide) ?_
            refine lv_isub hx hb dX11_harness_81 ?_
            refine z_topi (y := (-1)) (by decide) ?_
            have hPc := hP.sub2 (wc := []) [] rfl
            have hDc := hD.sub (ws' := []) [] (by decide) rfl
            refine raw_Si (nA := 3) (As := [.int p2, .int 0, .int (-1)]) (rest := []) Z hl.1 (c_X11_isWithin l D cI cM cT p2 0 (-1)) (bw_S bw_497 bw_498 bw_80 bw_499) ⟨by decide +kernel, by decide +kernel, by decide +kernel⟩ rfl ⟨Nat.le_of_ble_eq_true rfl, Nat.le_of_ble_eq_true rfl⟩ hPc hDc hS rfl (Nat.le_of_ble_eq_true rfl) dX11_harness_82 ⟨Nat.le_of_ble_eq_true rfl, Nat.le_of_ble_eq_true rfl⟩ (fun r20 u19 H1 locs1 h21 hku19 hP1 hD1 hS1 => ?_)
            obtain ⟨hrh21, rfl⟩ := h21
            obtain ⟨hP, hD⟩ := z_join (wr := [(x, .inr (11, [.ref st, .ref dr, .ref nw, .ref kp, .ref rd, .ref tm, .ref co])), (tm, .inr (8, [.ref be, .ref or_, .int 0, .int 0])), (be, .inl (cI, 6, .inl g_15))]) Z hS hP hD [] [0, 1, 2] rfl (by decide) rfl (by decide) (by decide) hku19 hP1 hD1
            have hS := hS1
            clear hS1
            generalize H1 = H at hP hS ⊢
            generalize locs1 = locs at hS ⊢
            have hP : va_P D vwCl ([(x, .inr (11, [.ref st, .ref dr, .ref nw, .ref kp, .ref rd, .ref tm, .ref co])), (tm, .inr (8, [.ref be, .ref or_, .int 0, .int 0])), (be, .inl (cI, 6, .inl g_15))]) H := hP
            have hD : va_D A ([(x, .inr (11, [.ref st, .ref dr, .ref nw, .ref kp, .ref rd, .ref tm, .ref co])), (tm, .inr (8, [.ref be, .ref or_, .int 0, .int 0])), (be, .inl (cI, 6, .inl g_15))]) := hD
            obtain rfl : r20 = 0 := by rw [hrh21, if_neg (by simp only [zlt, zle, zeq, zl_0, zl_1, zl_2, zl_3, zl_4, zl_5, zl_6, zl_7, zl_8, zl_9, zl_10, zl_11, zl_12, zl_13, zl_19, zl_20, zl_30, zl_64, zl_99, zl_100, zl_299, zl_300, zl_399, zl_999, zl_9999, zl_m1, zl_m2, zl_m3, zl_32, zl_280]; omega)]
            refine lv_if_eq (tgt := 100) hx hb dX11_harness_85 (by decide) (fun c23 => ?_) (fun h => absurd (by decide) h)
            refine lv_bipush (v := (-3)) hx hb dX11_harness_100 (by decide) ?_
            exact z_ret Z rfl hP hD hS ((by first | rfl | assumption | (rw [if_pos (by (try simp only [zlt, zle, zeq, zl_0, zl_1, zl_2, zl_3, zl_4, zl_5, zl_6, zl_7, zl_8, zl_9, zl_10, zl_11, zl_12, zl_13, zl_19, zl_20, zl_30, zl_64, zl_99, zl_100, zl_299, zl_300, zl_399, zl_999, zl_9999, zl_m1, zl_m2, zl_m3, zl_32, zl_280] at c4 c5 c9 c10 ce c16 c17 c18 c23 ⊢); omega)]; first | done | ((try simp only [zlt, zle, zeq, zl_0, zl_1, zl_2, zl_3, zl_4, zl_5, zl_6, zl_7, zl_8, zl_9, zl_10, zl_11, zl_12, zl_13, zl_19, zl_20, zl_30, zl_64, zl_99, zl_100, zl_299, zl_300, zl_399, zl_999, zl_9999, zl_m1, zl_m2, zl_m3, zl_32, zl_280] at c4 c5 c9 c10 ce c16 c17 c18 c23 ⊢); omega)) | (rw [if_neg (by (try simp only [zlt, zle, zeq, zl_0, zl_1, zl_2, zl_3, zl_4, zl_5, zl_6, zl_7, zl_8, zl_9, zl_10, zl_11, zl_12, zl_13, zl_19, zl_20, zl_30, zl_64, zl_99, zl_100, zl_299, zl_300, zl_399, zl_999, zl_9999, zl_m1, zl_m2, zl_m3, zl_32, zl_280] at c4 c5 c9 c10 ce c16 c17 c18 c23 ⊢); omega)]; first | done | ((try simp only [zlt, zle, zeq, zl_0, zl_1, zl_2, zl_3, zl_4, zl_5, zl_6, zl_7, zl_8, zl_9, zl_10, zl_11, zl_12, zl_13, zl_19, zl_20, zl_30, zl_64, zl_99, zl_100, zl_299, zl_300, zl_399, zl_999, zl_9999, zl_m1, zl_m2, zl_m3, zl_32, zl_280] at c4 c5 c9 c10 ce c16 c17 c18 c23 ⊢); omega)))) dX11_harness_102 (Nat.le_of_ble_eq_true rfl) (Nat.le_of_ble_eq_true rfl)
          · refine lv_aload_n hx hb dX11_harness_63 rfl (lv_at hl 0 rfl) ?_
            refine z_get Z i_X11 hP 0 rfl rfl 5 (by decide) bw_473 rfl dX11_harness_64 ?_
            refine z_get Z i_X8 hP 1 rfl rfl 3 (by decide) bw_458 rfl dX11_harness_67 ?_
            exact z_ret Z rfl hP hD hS ((by first | rfl | assumption | (rw [if_pos (by (try simp only [zlt, zle, zeq, zl_0, zl_1, zl_2, zl_3, zl_4, zl_5, zl_6, zl_7, zl_8, zl_9, zl_10, zl_11, zl_12, zl_13, zl_19, zl_20, zl_30, zl_64, zl_99, zl_100, zl_299, zl_300, zl_399, zl_999, zl_9999, zl_m1, zl_m2, zl_m3, zl_32, zl_280] at c4 c5 c9 c10 ce c16 c17 c18 ⊢); omega)]; first | done | ((try simp only [zlt, zle, zeq, zl_0, zl_1, zl_2, zl_3, zl_4, zl_5, zl_6, zl_7, zl_8, zl_9, zl_10, zl_11, zl_12, zl_13, zl_19, zl_20, zl_30, zl_64, zl_99, zl_100, zl_299, zl_300, zl_399, zl_999, zl_9999, zl_m1, zl_m2, zl_m3, zl_32, zl_280] at c4 c5 c9 c10 ce c16 c17 c18 ⊢); omega)) | (rw [if_neg (by (try simp only [zlt, zle, zeq, zl_0, zl_1, zl_2, zl_3, zl_4, zl_5, zl_6, zl_7, zl_8, zl_9, zl_10, zl_11, zl_12, zl_13, zl_19, zl_20, zl_30, zl_64, zl_99, zl_100, zl_299, zl_300, zl_399, zl_999, zl_9999, zl_m1, zl_m2, zl_m3, zl_32, zl_280] at c4 c5 c9 c10 ce c16 c17 c18 ⊢); omega)]; first | done | ((try simp only [zlt, zle, zeq, zl_0, zl_1, zl_2, zl_3, zl_4, zl_5, zl_6, zl_7, zl_8, zl_9, zl_10, zl_11, zl_12, zl_13, zl_19, zl_20, zl_30, zl_64, zl_99, zl_100, zl_299, zl_300, zl_399, zl_999, zl_9999, zl_m1, zl_m2, zl_m3, zl_32, zl_280] at c4 c5 c9 c10 ce c16 c17 c18 ⊢); omega)))) dX11_harness_70 (Nat.le_of_ble_eq_true rfl) (Nat.le_of_ble_eq_true rfl)
        · refine lv_aload_n hx hb dX11_harness_49 rfl (lv_at hl 0 rfl) ?_
          refine z_get Z i_X11 hP 0 rfl rfl 5 (by decide) bw_473 rfl dX11_harness_50 ?_
          refine z_get Z i_X8 hP 1 rfl rfl 2 (by decide) bw_456 rfl dX11_harness_53 ?_
          exact z_ret Z rfl hP hD hS ((by first | rfl | assumption | (rw [if_pos (by (try simp only [zlt, zle, zeq, zl_0, zl_1, zl_2, zl_3, zl_4, zl_5, zl_6, zl_7, zl_8, zl_9, zl_10, zl_11, zl_12, zl_13, zl_19, zl_20, zl_30, zl_64, zl_99, zl_100, zl_299, zl_300, zl_399, zl_999, zl_9999, zl_m1, zl_m2, zl_m3, zl_32, zl_280] at c4 c5 c9 c10 ce c16 c17 ⊢); omega)]; first | done | ((try simp only [zlt, zle, zeq, zl_0, zl_1, zl_2, zl_3, zl_4, zl_5, zl_6, zl_7, zl_8, zl_9, zl_10, zl_11, zl_12, zl_13, zl_19, zl_20, zl_30, zl_64, zl_99, zl_100, zl_299, zl_300, zl_399, zl_999, zl_9999, zl_m1, zl_m2, zl_m3, zl_32, zl_280] at c4 c5 c9 c10 ce c16 c17 ⊢); omega)) | (rw [if_neg (by (try simp only [zlt, zle, zeq, zl_0, zl_1, zl_2, zl_3, zl_4, zl_5, zl_6, zl_7, zl_8, zl_9, zl_10, zl_11, zl_12, zl_13, zl_19, zl_20, zl_30, zl_64, zl_99, zl_100, zl_299, zl_300, zl_399, zl_999, zl_9999, zl_m1, zl_m2, zl_m3, zl_32, zl_280] at c4 c5 c9 c10 ce c16 c17 ⊢); omega)]; first | done | ((try simp only [zlt, zle, zeq, zl_0, zl_1, zl_2, zl_3, zl_4, zl_5, zl_6, zl_7, zl_8, zl_9, zl_10, zl_11, zl_12, zl_13, zl_19, zl_20, zl_30, zl_64, zl_99, zl_100, zl_299, zl_300, zl_399, zl_999, zl_9999, zl_m1, zl_m2, zl_m3, zl_32, zl_280] at c4 c5 c9 c10 ce c16 c17 ⊢); omega)))) dX11_harness_56 (Nat.le_of_ble_eq_true rfl) (Nat.le_of_ble_eq_true rfl)
      · rw [if_neg ce] at huh13_0
        subst huh13_0
        refine lv_aload_n hx hb dX11_harness_30 rfl (lv_at hl 0 rfl) ?_
        refine z_get Z i_X11 hP 0 rfl rfl 5 (by decide) bw_473 rfl dX11_harness_31 ?_
        refine z_get Z i_X8 hP 1 rfl rfl 3 (by decide) bw_458 rfl dX11_harness_34 ?_
        refine lv_iconst (v := (-1)) hx hb dX11_harness_37 (by decide) ?_
        refine lv_icmp_ne (tgt := 44) hx hb dX11_harness_38 (by decide) (fun h => absurd (by decide) h) (fun c24 => ?_)
        refine lv_bipush (v := (-3)) hx hb dX11_harness_41 (by decide) ?_
        exact z_ret Z rfl hP hD hS ((by first | rfl | assumption | (rw [if_pos (by (try simp only [zlt, zle, zeq, zl_0, zl_1, zl_2, zl_3, zl_4, zl_5, zl_6, zl_7, zl_8, zl_9, zl_10, zl_11, zl_12, zl_13, zl_19, zl_20, zl_30, zl_64, zl_99, zl_100, zl_299, zl_300, zl_399, zl_999, zl_9999, zl_m1, zl_m2, zl_m3, zl_32, zl_280] at c4 c5 c9 c10 ce c24 ⊢); omega)]; first | done | ((try simp only [zlt, zle, zeq, zl_0, zl_1, zl_2, zl_3, zl_4, zl_5, zl_6, zl_7, zl_8, zl_9, zl_10, zl_11, zl_12, zl_13, zl_19, zl_20, zl_30, zl_64, zl_99, zl_100, zl_299, zl_300, zl_399, zl_999, zl_9999, zl_m1, zl_m2, zl_m3, zl_32, zl_280] at c4 c5 c9 c10 ce c24 ⊢); omega)) | (rw [if_neg (by (try simp only [zlt, zle, zeq, zl_0, zl_1, zl_2, zl_3, zl_4, zl_5, zl_6, zl_7, zl_8, zl_9, zl_10, zl_11, zl_12, zl_13, zl_19, zl_20, zl_30, zl_64, zl_99, zl_100, zl_299, zl_300, zl_399, zl_999, zl_9999, zl_m1, zl_m2, zl_m3, zl_32, zl_280] at c4 c5 c9 c10 ce c24 ⊢); omega)]; first | done | ((try simp only [zlt, zle, zeq, zl_0, zl_1, zl_2, zl_3, zl_4, zl_5, zl_6, zl_7, zl_8, zl_9, zl_10, zl_11, zl_12, zl_13, zl_19, zl_20, zl_30, zl_64, zl_99, zl_100, zl_299, zl_300, zl_399, zl_999, zl_9999, zl_m1, zl_m2, zl_m3, zl_32, zl_280] at c4 c5 c9 c10 ce c24 ⊢); omega)))) dX11_harness_43 (Nat.le_of_ble_eq_true rfl) (Nat.le_of_ble_eq_true rfl)
    · obtain rfl : r7 = 0 := by rw [hrh8, if_neg c9]
      refine lv_if_ne (tgt := 17) hx hb dX11_harness_11 (by decide) (fun h => absurd (by decide) h) (fun c25 => ?_)
      refine lv_bipush (v := (-3)) hx hb dX11_harness_14 (by decide) ?_
      exact z_ret Z rfl hP hD hS ((by first | rfl | assumption | (rw [if_pos (by (try simp only [zlt, zle, zeq, zl_0, zl_1, zl_2, zl_3, zl_4, zl_5, zl_6, zl_7, zl_8, zl_9, zl_10, zl_11, zl_12, zl_13, zl_19, zl_20, zl_30, zl_64, zl_99, zl_100, zl_299, zl_300, zl_399, zl_999, zl_9999, zl_m1, zl_m2, zl_m3, zl_32, zl_280] at c4 c5 c9 c25 ⊢); omega)]; first | done | ((try simp only [zlt, zle, zeq, zl_0, zl_1, zl_2, zl_3, zl_4, zl_5, zl_6, zl_7, zl_8, zl_9, zl_10, zl_11, zl_12, zl_13, zl_19, zl_20, zl_30, zl_64, zl_99, zl_100, zl_299, zl_300, zl_399, zl_999, zl_9999, zl_m1, zl_m2, zl_m3, zl_32, zl_280] at c4 c5 c9 c25 ⊢); omega)) | (rw [if_neg (by (try simp only [zlt, zle, zeq, zl_0, zl_1, zl_2, zl_3, zl_4, zl_5, zl_6, zl_7, zl_8, zl_9, zl_10, zl_11, zl_12, zl_13, zl_19, zl_20, zl_30, zl_64, zl_99, zl_100, zl_299, zl_300, zl_399, zl_999, zl_9999, zl_m1, zl_m2, zl_m3, zl_32, zl_280] at c4 c5 c9 c25 ⊢); omega)]; first | done | ((try simp only [zlt, zle, zeq, zl_0, zl_1, zl_2, zl_3, zl_4, zl_5, zl_6, zl_7, zl_8, zl_9, zl_10, zl_11, zl_12, zl_13, zl_19, zl_20, zl_30, zl_64, zl_99, zl_100, zl_299, zl_300, zl_399, zl_999, zl_9999, zl_m1, zl_m2, zl_m3, zl_32, zl_280] at c4 c5 c9 c25 ⊢); omega)))) dX11_harness_16 (Nat.le_of_ble_eq_true rfl) (Nat.le_of_ble_eq_true rfl)
  · obtain rfl : r2 = 0 := by rw [hrh3, if_neg c4]
    refine lv_if_eq (tgt := 14) hx hb dX11_harness_4 (by decide) (fun c26 => ?_) (fun h => absurd (by decide) h)
    refine lv_bipush (v := (-3)) hx hb dX11_harness_14 (by decide) ?_
    exact z_ret Z rfl hP hD hS ((by first | rfl | assumption | (rw [if_pos (by (try simp only [zlt, zle, zeq, zl_0, zl_1, zl_2, zl_3, zl_4, zl_5, zl_6, zl_7, zl_8, zl_9, zl_10, zl_11, zl_12, zl_13, zl_19, zl_20, zl_30, zl_64, zl_99, zl_100, zl_299, zl_300, zl_399, zl_999, zl_9999, zl_m1, zl_m2, zl_m3, zl_32, zl_280] at c4 c26 ⊢); omega)]; first | done | ((try simp only [zlt, zle, zeq, zl_0, zl_1, zl_2, zl_3, zl_4, zl_5, zl_6, zl_7, zl_8, zl_9, zl_10, zl_11, zl_12, zl_13, zl_19, zl_20, zl_30, zl_64, zl_99, zl_100, zl_299, zl_300, zl_399, zl_999, zl_9999, zl_m1, zl_m2, zl_m3, zl_32, zl_280] at c4 c26 ⊢); omega)) | (rw [if_neg (by (try simp only [zlt, zle, zeq, zl_0, zl_1, zl_2, zl_3, zl_4, zl_5, zl_6, zl_7, zl_8, zl_9, zl_10, zl_11, zl_12, zl_13, zl_19, zl_20, zl_30, zl_64, zl_99, zl_100, zl_299, zl_300, zl_399, zl_999, zl_9999, zl_m1, zl_m2, zl_m3, zl_32, zl_280] at c4 c26 ⊢); omega)]; first | done | ((try simp only [zlt, zle, zeq, zl_0, zl_1, zl_2, zl_3, zl_4, zl_5, zl_6, zl_7, zl_8, zl_9, zl_10, zl_11, zl_12, zl_13, zl_19, zl_20, zl_30, zl_64, zl_99, zl_100, zl_299, zl_300, zl_399, zl_999, zl_9999, zl_m1, zl_m2, zl_m3, zl_32, zl_280] at c4 c26 ⊢); omega)))) dX11_harness_16 (Nat.le_of_ble_eq_true rfl) (Nat.le_of_ble_eq_true rfl)
set_option maxHeartbeats 4000000 in
set_option maxRecDepth 100000 in
theorem c_J6_bitCount_0f7a4 (l : Launch) (D : va_G) (cI cM cT : ClassId) : Ci l D (ty3 cI cM cT) yJ6_bitCount_0f7a4 cJ6_bitCount_0f7a4 1 (some .int) 0 0 0 [.int 0] ([]) (fun r u => r = 0 ∧ u = []) := by
  refine Ci.of (by decide +kernel) (Nat.le_of_ble_eq_true rfl) ?_
  intro p e s m below meth c A ls Z hin hP hD hl
  have hx := Z.1
  have hb := Z.2.1
  have hS : va_S A s.heap s.heap [] := va_S.rf
  have hl : lv_has ls 1 [(0, .int 0)] := hl
  skip
  refine lv_iload_n hx hb dJ6_bitCount_0f7a4_0 rfl (lv_at hl 0 rfl) ?_
  refine lv_iload_n hx hb dJ6_bitCount_0f7a4_1 rfl (lv_at hl 0 rfl) ?_
  refine lv_iconst (v := 1) hx hb dJ6_bitCount_0f7a4_2 (by decide) ?_
  refine lv_iushr (v := 0) hx hb dJ6_bitCount_0f7a4_3 (by decide) ?_
  refine lv_ldcw (v := 1431655765) hx hb Z.2.2.2.1 (Z.2.2.2.2.1 _ bw_939) dJ6_bitCount_0f7a4_4 ?_
  refine lv_iand hx hb dJ6_bitCount_0f7a4_7 ?_
  refine z_topi (y := 0) (by decide) ?_
  refine lv_isub hx hb dJ6_bitCount_0f7a4_8 ?_
  refine z_topi (y := 0) (by decide) ?_
  refine lv_istore_n (lv' := [(0, .int 0)]) hx hb dJ6_bitCount_0f7a4_9 rfl hl (by decide) rfl (fun ls hl => ?_)
  refine lv_iload_n hx hb dJ6_bitCount_0f7a4_10 rfl (lv_at hl 0 rfl) ?_
  refine lv_ldcw (v := 858993459) hx hb Z.2.2.2.1 (Z.2.2.2.2.1 _ bw_940) dJ6_bitCount_0f7a4_11 ?_
  refine lv_iand hx hb dJ6_bitCount_0f7a4_14 ?_
  refine z_topi (y := 0) (by decide) ?_
  refine lv_iload_n hx hb dJ6_bitCount_0f7a4_15 rfl (lv_at hl 0 rfl) ?_
  refine lv_iconst (v := 2) hx hb dJ6_bitCount_0f7a4_16 (by decide) ?_
  refine lv_iushr (v := 0) hx hb dJ6_bitCount_0f7a4_17 (by decide) ?_
  refine lv_ldcw (v := 858993459) hx hb Z.2.2.2.1 (Z.2.2.2.2.1 _ bw_940) dJ6_bitCount_0f7a4_18 ?_
  refine lv_iand hx hb dJ6_bitCount_0f7a4_21 ?_
  refine z_topi (y := 0) (by decide) ?_
  refine lv_iadd hx hb dJ6_bitCount_0f7a4_22 ?_
  refine z_topi (y := 0) (by decide) ?_
  refine lv_istore_n (lv' := [(0, .int 0)]) hx hb dJ6_bitCount_0f7a4_23 rfl hl (by decide) rfl (fun ls hl => ?_)
  refine lv_iload_n hx hb dJ6_bitCount_0f7a4_24 rfl (lv_at hl 0 rfl) ?_
  refine lv_iload_n hx hb dJ6_bitCount_0f7a4_25 rfl (lv_at hl 0 rfl) ?_
  refine lv_iconst (v := 4) hx hb dJ6_bitCount_0f7a4_26 (by decide) ?_
  refine lv_iushr (v := 0) hx hb dJ6_bitCount_0f7a4_27 (by decide) ?_
  refine lv_iadd hx hb dJ6_bitCount_0f7a4_28 ?_
  refine z_topi (y := 0) (by decide) ?_
  refine lv_ldcw (v := 252645135) hx hb Z.2.2.2.1 (Z.2.2.2.2.1 _ bw_941) dJ6_bitCount_0f7a4_29 ?_
  refine lv_iand hx hb dJ6_bitCount_0f7a4_32 ?_
  refine z_topi (y := 0) (by decide) ?_
  refine lv_istore_n (lv' := [(0, .int 0)]) hx hb dJ6_bitCount_0f7a4_33 rfl hl (by decide) rfl (fun ls hl => ?_)
  refine lv_iload_n hx hb dJ6_bitCount_0f7a4_34 rfl (lv_at hl 0 rfl) ?_
  refine lv_iload_n hx hb dJ6_bitCount_0f7a4_35 rfl (lv_at hl 0 rfl) ?_
  refine lv_bipush (v := 8) hx hb dJ6_bitCount_0f7a4_36 (by decide) ?_
  refine lv_iushr (v := 0) hx hb dJ6_bitCount_0f7a4_38 (by decide) ?_
  refine lv_iadd hx hb dJ6_bitCount_0f7a4_39 ?_
  refine z_topi (y := 0) (by decide) ?_
  refine lv_istore_n (lv' := [(0, .int 0)]) hx hb dJ6_bitCount_0f7a4_40 rfl hl (by decide) rfl (fun ls hl => ?_)
  refine lv_iload_n hx hb dJ6_bitCount_0f7a4_41 rfl (lv_at hl 0 rfl) ?_
  refine lv_iload_n hx hb dJ6_bitCount_0f7a4_42 rfl (lv_at hl 0 rfl) ?_
  refine lv_bipush (v := 16) hx hb dJ6_bitCount_0f7a4_43 (by decide) ?_
  refine lv_iushr (v := 0) hx hb dJ6_bitCount_0f7a4_45 (by decide) ?_
  refine lv_iadd hx hb dJ6_bitCount_0f7a4_46 ?_
  refine z_topi (y := 0) (by decide) ?_
  refine lv_istore_n (lv' := [(0, .int 0)]) hx hb dJ6_bitCount_0f7a4_47 rfl hl (by decide) rfl (fun ls hl => ?_)
  refine lv_iload_n hx hb dJ6_bitCount_0f7a4_48 rfl (lv_at hl 0 rfl) ?_
  refine lv_bipush (v := 63) hx hb dJ6_bitCount_0f7a4_49 (by decide) ?_
  refine lv_iand hx hb dJ6_bitCount_0f7a4_51 ?_
  refine z_topi (y := 0) (by decide) ?_
  exact z_ret Z rfl hP hD hS (⟨rfl, rfl⟩) dJ6_bitCount_0f7a4_52 (Nat.le_of_ble_eq_true rfl) (Nat.le_of_ble_eq_true rfl)
set_option maxHeartbeats 4000000 in
set_option maxRecDepth 100000 in
theorem c_X11_thief (l : Launch) (D : va_G) (cI cM cT : ClassId) (x : Nat) (st : Nat) (dr : Nat) (nw : Nat) (kp : Nat) (rd : Nat) (tm : Nat) (co : Nat) (rO : Nat) (sT : Nat) (mA : Nat) (sB : Nat) (sA : Nat) (tH : Nat) (tF : Nat) (tS : Nat) (cO : Nat) (sH : Nat) (p0 : Int32) (p1 : Int32) (p2 : Int32) : Ci l D (ty3 cI cM cT) yX11_thief cX11_thief 6 (some .int) 3 0 0 [.ref x, .int p0, .int p1, .int p2] ([(x, .inr (11, [.ref st, .ref dr, .ref nw, .ref kp, .ref rd, .ref tm, .ref co])), (nw, .inr (10, [.ref rO, .ref sT, .ref mA, .ref sB, .ref sA, .ref tH, .ref tF, .ref tS, .int 0, .int 0, .int (-1), .int 0, .int 0])), (sT, .inr (4, [.ref cO, .ref sH, .int 0]))]) (fun r u => r = (if (0 ≤ p0 ∧ p0 < 300) ∧ (0 ≤ p1 ∧ p1 < 300) ∧ p2 = (-1) then 0 else (-1))) := by
  refine Ci.of (by decide +kernel) (Nat.le_of_ble_eq_true rfl) ?_
  intro p e s m below meth c A ls Z hin hP hD hl
  have hx := Z.1
  have hb := Z.2.1
  have hS : va_S A s.heap s.heap [] := va_S.rf
  have hl : lv_has ls 6 [(0, .ref x), (1, .int p0), (2, .int p1), (3, .int p2)] := hl
  skip
  refine lv_iload_n hx hb dX11_thief_0 rfl (lv_at hl 1 rfl) ?_
  have hPc := hP.sub2 (wc := []) [] rfl
  have hDc := hD.sub (ws' := []) [] (by decide) rfl
  refine raw_Si (nA := 1) (As := [.int p0]) (rest := []) Z hl.1 (c_X11_isPlace l D cI cM cT p0) (bw_S bw_494 bw_495 bw_80 bw_496) ⟨by decide +kernel, by decide +kernel, by decide +kernel⟩ rfl ⟨Nat.le_of_ble_eq_true rfl, Nat.le_of_ble_eq_true rfl⟩ hPc hDc hS rfl (Nat.le_of_ble_eq_true rfl) dX11_thief_1 ⟨Nat.le_of_ble_eq_true rfl, Nat.le_of_ble_eq_true rfl⟩ (fun r2 u1 H1 locs1 h3 hku1 hP1 hD1 hS1 => ?_)
  obtain ⟨hrh3, rfl⟩ := h3
  obtain ⟨hP, hD⟩ := z_join (wr := [(x, .inr (11, [.ref st, .ref dr, .ref nw, .ref kp, .ref rd, .ref tm, .ref co])), (nw, .inr (10, [.ref rO, .ref sT, .ref mA, .ref sB, .ref sA, .ref tH, .ref tF, .ref tS, .int 0, .int 0, .int (-1), .int 0, .int 0])), (sT, .inr (4, [.ref cO, .ref sH, .int 0]))]) Z hS hP hD [] [0, 1, 2] rfl (by decide) rfl (by decide) (by decide) hku1 hP1 hD1
  have hS := hS1
  clear hS1
  generalize H1 = H at hP hS ⊢
  generalize locs1 = locs at hS ⊢
  have hP : va_P D vwCl ([(x, .inr (11, [.ref st, .ref dr, .ref nw, .ref kp, .ref rd, .ref tm, .ref co])), (nw, .inr (10, [.ref rO, .ref sT, .ref mA, .ref sB, .ref sA, .ref tH, .ref tF, .ref tS, .int 0, .int 0, .int (-1), .int 0, .int 0])), (sT, .inr (4, [.ref cO, .ref sH, .int 0]))]) H := hP
  have hD : va_D A ([(x, .inr (11, [.ref st, .ref dr, .ref nw, .ref kp, .ref rd, .ref tm, .ref co])), (nw, .inr (10, [.ref rO, .ref sT, .ref mA, .ref sB, .ref sA, .ref tH, .ref tF, .ref tS, .int 0, .int 0, .int (-1), .int 0, .int 0])), (sT, .inr (4, [.ref cO, .ref sH, .int 0]))]) := hD
  by_cases c4 : 0 ≤ p0 ∧ p0 < 300
  · obtain rfl : r2 = 1 := by rw [hrh3, if_pos c4]
    refine lv_if_eq (tgt := 19) hx hb dX11_thief_4 (by decide) (fun h => absurd h (by decide)) (fun c5 => ?_)
    refine lv_iload_n hx hb dX11_thief_7 rfl (lv_at hl 2 rfl) ?_
    have hPc := hP.sub2 (wc := []) [] rfl
    have hDc := hD.sub (ws' := []) [] (by decide) rfl
    refine raw_Si (nA := 1) (As := [.int p1]) (rest := []) Z hl.1 (c_X11_isPlace l D cI cM cT p1) (bw_S bw_494 bw_495 bw_80 bw_496) ⟨by decide +kernel, by decide +kernel, by decide +kernel⟩ rfl ⟨Nat.le_of_ble_eq_true rfl, Nat.le_of_ble_eq_true rfl⟩ hPc hDc hS rfl (Nat.le_of_ble_eq_true rfl) dX11_thief_8 ⟨Nat.le_of_ble_eq_true rfl, Nat.le_of_ble_eq_true rfl⟩ (fun r7 u6 H1 locs1 h8 hku6 hP1 hD1 hS1 => ?_)
    obtain ⟨hrh8, rfl⟩ := h8
    obtain ⟨hP, hD⟩ := z_join (wr := [(x, .inr (11, [.ref st, .ref dr, .ref nw, .ref kp, .ref rd, .ref tm, .ref co])), (nw, .inr (10, [.ref rO, .ref sT, .ref mA, .ref sB, .ref sA, .ref tH, .ref tF, .ref tS, .int 0, .int 0, .int (-1), .int 0, .int 0])), (sT, .inr (4, [.ref cO, .ref sH, .int 0]))]) Z hS hP hD [] [0, 1, 2] rfl (by decide) rfl (by decide) (by decide) hku6 hP1 hD1
    have hS := hS1
    clear hS1
    generalize H1 = H at hP hS ⊢
    generalize locs1 = locs at hS ⊢
    have hP : va_P D vwCl ([(x, .inr (11, [.ref st, .ref dr, .ref nw, .ref kp, .ref rd, .ref tm, .ref co])), (nw, .inr (10, [.ref rO, .ref sT, .ref mA, .ref sB, .ref sA, .ref tH, .ref tF, .ref tS, .int 0, .int 0, .int (-1), .int 0, .int 0])), (sT, .inr (4, [.ref cO, .ref sH, .int 0]))]) H := hP
    have hD : va_D A ([(x, .inr (11, [.ref st, .ref dr, .ref nw, .ref kp, .ref rd, .ref tm, .ref co])), (nw, .inr (10, [.ref rO, .ref sT, .ref mA, .ref sB, .ref sA, .ref tH, .ref tF, .ref tS, .int 0, .int 0, .int (-1), .int 0, .int 0])), (sT, .inr (4, [.ref cO, .ref sH, .int 0]))]) := hD
    by_cases c9 : 0 ≤ p1 ∧ p1 < 300
    · obtain rfl : r7 = 1 := by rw [hrh8, if_pos c9]
      refine lv_if_eq (tgt := 19) hx hb dX11_thief_11 (by decide) (fun h => absurd h (by decide)) (fun c10 => ?_)
      refine lv_iload_n hx hb dX11_thief_14 rfl (lv_at hl 3 rfl) ?_
      refine lv_iconst (v := (-1)) hx hb dX11_thief_15 (by decide) ?_
      refine lv_icmp_ge (tgt := 21) hx hb dX11_thief_16 (by decide) (fun c11 => ?_) (fun c11 => ?_)
      · refine lv_iconst (v := 0) hx hb dX11_thief_21 (by decide) ?_
        refine lv_istore (lv' := [(4, .int 0), (0, .ref x), (1, .int p0), (2, .int p1), (3, .int p2)]) hx hb dX11_thief_22 hl (by decide) rfl (fun ls hl => ?_)
        refine lv_iconst (v := 0) hx hb dX11_thief_24 (by decide) ?_
        refine lv_istore (lv' := [(5, .int 0), (4, .int 0), (0, .ref x), (1, .int p0), (2, .int p1), (3, .int p2)]) hx hb dX11_thief_25 hl (by decide) rfl (fun ls hl => ?_)
        refine lv_iload hx hb dX11_thief_27 (lv_at hl 0 rfl) ?_
        refine lv_iconst (v := 1) hx hb dX11_thief_29 (by decide) ?_
        refine lv_aload_n hx hb dX11_thief_30 rfl (lv_at hl 2 rfl) ?_
        refine z_get Z i_X11 hP 0 rfl rfl 2 (by decide) bw_470 rfl dX11_thief_31 ?_
        refine z_get Z i_X10 hP 1 rfl rfl 1 (by decide) bw_237 rfl dX11_thief_34 ?_
        refine z_get Z i_X4 hP 2 rfl rfl 2 (by decide) bw_167 rfl dX11_thief_37 ?_
        refine lv_ishl hx hb dX11_thief_40 ?_
        refine z_topi (y := 1) (by decide) ?_
        refine lv_icmp_ge (tgt := 82) hx hb dX11_thief_41 (by decide) (fun h => absurd h (by decide)) (fun c12 => ?_)
        refine lv_iload hx hb dX11_thief_44 (lv_at hl 0 rfl) ?_
        have hPc := hP.sub2 (wc := []) [] rfl
        have hDc := hD.sub (ws' := []) [] (by decide) rfl
        refine raw_Si (nA := 1) (As := [.int 0]) (rest := []) Z hl.1 (c_J6_bitCount_0f7a4 l D cI cM cT) (bw_S bw_936 bw_937 bw_101 bw_938) ⟨by decide +kernel, by decide +kernel, by decide +kernel⟩ rfl ⟨Nat.le_of_ble_eq_true rfl, Nat.le_of_ble_eq_true rfl⟩ hPc hDc hS rfl (Nat.le_of_ble_eq_true rfl) dX11_thief_46 ⟨Nat.le_of_ble_eq_true rfl, Nat.le_of_ble_eq_true rfl⟩ (fun r14 u13 H1 locs1 h15 hku13 hP1 hD1 hS1 => ?_)
        obtain ⟨rfl, rfl⟩ := h15
        obtain ⟨hP, hD⟩ := z_join (wr := [(x, .inr (11, [.ref st, .ref dr, .ref nw, .ref kp, .ref rd, .ref tm, .ref co])), (nw, .inr (10, [.ref rO, .ref sT, .ref mA, .ref sB, .ref sA, .ref tH, .ref tF, .ref tS, .int 0, .int 0, .int (-1), .int 0, .int 0])), (sT, .inr (4, [.ref cO, .ref sH, .int 0]))]) Z hS hP hD [] [0, 1, 2] rfl (by decide) rfl (by decide) (by decide) hku13 hP1 hD1
        have hS := hS1
        clear hS1
        generalize H1 = H at hP hS ⊢
        generalize locs1 = locs at hS ⊢
        have hP : va_P D vwCl ([(x, .inr (11, [.ref st, .ref dr, .ref nw, .ref kp, .ref rd, .ref tm, .ref co])), (nw, .inr (10, [.ref rO, .ref sT, .ref mA, .ref sB, .ref sA, .ref tH, .ref tF, .ref tS, .int 0, .int 0, .int (-1), .int 0, .int 0])), (sT, .inr (4, [.ref cO, .ref sH, .int 0]))]) H := hP
        have hD : va_D A ([(x, .inr (11, [.ref st, .ref dr, .ref nw, .ref kp, .ref rd, .ref tm, .ref co])), (nw, .inr (10, [.ref rO, .ref sT, .ref mA, .ref sB, .ref sA, .ref tH, .ref tF, .ref tS, .int 0, .int 0, .int (-1), .int 0, .int 0])), (sT, .inr (4, [.ref cO, .ref sH, .int 0]))]) := hD
        refine lv_iconst (v := 3) hx hb dX11_thief_49 (by decide) ?_
        refine lv_icmp_ne (tgt := 76) hx hb dX11_thief_50 (by decide) (fun c16 => ?_) (fun h => absurd h (by decide))
        refine lv_iinc (v := 1) (lv' := [(5, .int 1), (4, .int 0), (0, .ref x), (1, .int p0), (2, .int p1), (3, .int p2)]) hx hb dX11_thief_76 hl (k := 0) rfl (by decide) (by decide) rfl (fun ls hl => ?_)
        refine lv_goto (tgt := 27) hx hb dX11_thief_79 (by decide) ?_
        refine lv_iload hx hb dX11_thief_27 (lv_at hl 0 rfl) ?_
        refine lv_iconst (v := 1) hx hb dX11_thief_29 (by decide) ?_
        refine lv_aload_n hx hb dX11_thief_30 rfl (lv_at hl 2 rfl) ?_
        refine z_get Z i_X11 hP 0 rfl rfl 2 (by decide) bw_470 rfl dX11_thief_31 ?_
        refine z_get Z i_X10 hP 1 rfl rfl 1 (by decide) bw_237 rfl dX11_thief_34 ?_
        refine z_get Z i_X4 hP 2 rfl rfl 2 (by decide) bw_167 rfl dX11_thief_37 ?_
        refine lv_ishl hx hb dX11_thief_40 ?_
        refine z_topi (y := 1) (by decide) ?_
        refine lv_icmp_ge (tgt := 82) hx hb dX11_thief_41 (by decide) (fun c17 => ?_) (fun h => absurd (by decide) h)
        refine lv_iload_n hx hb dX11_thief_82 rfl (lv_at hl 5 rfl) ?_
        refine lv_iconst (v := (-1)) hx hb dX11_thief_83 (by decide) ?_
        refine lv_icmp_ne (tgt := 92) hx hb dX11_thief_84 (by decide) (fun c18 => ?_) (fun c18 => ?_)
        · refine lv_iconst (v := (-1)) hx hb dX11_thief_92 (by decide) ?_
          exact z_ret Z rfl hP hD hS ((by first | rfl | assumption | (rw [if_pos (by (try simp only [zlt, zle, zeq, zl_0, zl_1, zl_2, zl_3, zl_4, zl_5, zl_6, zl_7, zl_8, zl_9, zl_10, zl_11, zl_12, zl_13, zl_19, zl_20, zl_30, zl_64, zl_99, zl_100, zl_299, zl_300, zl_399, zl_999, zl_9999, zl_m1, zl_m2, zl_m3, zl_32, zl_280] at c4 c5 c9 c10 c11 c12 c16 c17 c18 ⊢); omega)]; first | done | ((try simp only [zlt, zle, zeq, zl_0, zl_1, zl_2, zl_3, zl_4, zl_5, zl_6, zl_7, zl_8, zl_9, zl_10, zl_11, zl_12, zl_13, zl_19, zl_20, zl_30, zl_64, zl_99, zl_100, zl_299, zl_300, zl_399, zl_999, zl_9999, zl_m1, zl_m2, zl_m3, zl_32, zl_280] at c4 c5 c9 c10 c11 c12 c16 c17 c18 ⊢); omega)) | (rw [if_neg (by (try simp only [zlt, zle, zeq, zl_0, zl_1, zl_2, zl_3, zl_4, zl_5, zl_6, zl_7, zl_8, zl_9, zl_10, zl_11, zl_12, zl_13, zl_19, zl_20, zl_30, zl_64, zl_99, zl_100, zl_299, zl_300, zl_399, zl_999, zl_9999, zl_m1, zl_m2, zl_m3, zl_32, zl_280] at c4 c5 c9 c10 c11 c12 c16 c17 c18 ⊢); omega)]; first | done | ((try simp only [zlt, zle, zeq, zl_0, zl_1, zl_2, zl_3, zl_4, zl_5, zl_6, zl_7, zl_8, zl_9, zl_10, zl_11, zl_12, zl_13, zl_19, zl_20, zl_30, zl_64, zl_99, zl_100, zl_299, zl_300, zl_399, zl_999, zl_9999, zl_m1, zl_m2, zl_m3, zl_32, zl_280] at c4 c5 c9 c10 c11 c12 c16 c17 c18 ⊢); omega)))) dX11_thief_93 (Nat.le_of_ble_eq_true rfl) (Nat.le_of_ble_eq_true rfl)
        · refine lv_iload hx hb dX11_thief_87 (lv_at hl 1 rfl) ?_
          refine lv_goto (tgt := 93) hx hb dX11_thief_89 (by decide) ?_
          exact z_ret Z rfl hP hD hS ((by first | rfl | assumption | (rw [if_pos (by (try simp only [zlt, zle, zeq, zl_0, zl_1, zl_2, zl_3, zl_4, zl_5, zl_6, zl_7, zl_8, zl_9, zl_10, zl_11, zl_12, zl_13, zl_19, zl_20, zl_30, zl_64, zl_99, zl_100, zl_299, zl_300, zl_399, zl_999, zl_9999, zl_m1, zl_m2, zl_m3, zl_32, zl_280] at c4 c5 c9 c10 c11 c12 c16 c17 c18 ⊢); omega)]; first | done | ((try simp only [zlt, zle, zeq, zl_0, zl_1, zl_2, zl_3, zl_4, zl_5, zl_6, zl_7, zl_8, zl_9, zl_10, zl_11, zl_12, zl_13, zl_19, zl_20, zl_30, zl_64, zl_99, zl_100, zl_299, zl_300, zl_399, zl_999, zl_9999, zl_m1, zl_m2, zl_m3, zl_32, zl_280] at c4 c5 c9 c10 c11 c12 c16 c17 c18 ⊢); omega)) | (rw [if_neg (by (try simp only [zlt, zle, zeq, zl_0, zl_1, zl_2, zl_3, zl_4, zl_5, zl_6, zl_7, zl_8, zl_9, zl_10, zl_11, zl_12, zl_13, zl_19, zl_20, zl_30, zl_64, zl_99, zl_100, zl_299, zl_300, zl_399, zl_999, zl_9999, zl_m1, zl_m2, zl_m3, zl_32, zl_280] at c4 c5 c9 c10 c11 c12 c16 c17 c18 ⊢); omega)]; first | done | ((try simp only [zlt, zle, zeq, zl_0, zl_1, zl_2, zl_3, zl_4, zl_5, zl_6, zl_7, zl_8, zl_9, zl_10, zl_11, zl_12, zl_13, zl_19, zl_20, zl_30, zl_64, zl_99, zl_100, zl_299, zl_300, zl_399, zl_999, zl_9999, zl_m1, zl_m2, zl_m3, zl_32, zl_280] at c4 c5 c9 c10 c11 c12 c16 c17 c18 ⊢); omega)))) dX11_thief_93 (Nat.le_of_ble_eq_true rfl) (Nat.le_of_ble_eq_true rfl)
      · refine lv_iconst (v := (-1)) hx hb dX11_thief_19 (by decide) ?_
        exact z_ret Z rfl hP hD hS ((by first | rfl | assumption | (rw [if_pos (by (try simp only [zlt, zle, zeq, zl_0, zl_1, zl_2, zl_3, zl_4, zl_5, zl_6, zl_7, zl_8, zl_9, zl_10, zl_11, zl_12, zl_13, zl_19, zl_20, zl_30, zl_64, zl_99, zl_100, zl_299, zl_300, zl_399, zl_999, zl_9999, zl_m1, zl_m2, zl_m3, zl_32, zl_280] at c4 c5 c9 c10 c11 ⊢); omega)]; first | done | ((try simp only [zlt, zle, zeq, zl_0, zl_1, zl_2, zl_3, zl_4, zl_5, zl_6, zl_7, zl_8, zl_9, zl_10, zl_11, zl_12, zl_13, zl_19, zl_20, zl_30, zl_64, zl_99, zl_100, zl_299, zl_300, zl_399, zl_999, zl_9999, zl_m1, zl_m2, zl_m3, zl_32, zl_280] at c4 c5 c9 c10 c11 ⊢); omega)) | (rw [if_neg (by (try simp only [zlt, zle, zeq, zl_0, zl_1, zl_2, zl_3, zl_4, zl_5, zl_6, zl_7, zl_8, zl_9, zl_10, zl_11, zl_12, zl_13, zl_19, zl_20, zl_30, zl_64, zl_99, zl_100, zl_299, zl_300, zl_399, zl_999, zl_9999, zl_m1, zl_m2, zl_m3, zl_32, zl_280] at c4 c5 c9 c10 c11 ⊢); omega)]; first | done | ((try simp only [zlt, zle, zeq, zl_0, zl_1, zl_2, zl_3, zl_4, zl_5, zl_6, zl_7, zl_8, zl_9, zl_10, zl_11, zl_12, zl_13, zl_19, zl_20, zl_30, zl_64, zl_99, zl_100, zl_299, zl_300, zl_399, zl_999, zl_9999, zl_m1, zl_m2, zl_m3, zl_32, zl_280] at c4 c5 c9 c10 c11 ⊢); omega)))) dX11_thief_20 (Nat.le_of_ble_eq_true rfl) (Nat.le_of_ble_eq_true rfl)
    · obtain rfl : r7 = 0 := by rw [hrh8, if_neg c9]
      refine lv_if_eq (tgt := 19) hx hb dX11_thief_11 (by decide) (fun c19 => ?_) (fun h => absurd (by decide) h)
      refine lv_iconst (v := (-1)) hx hb dX11_thief_19 (by decide) ?_
      exact z_ret Z rfl hP hD hS ((by first | rfl | assumption | (rw [if_pos (by (try simp only [zlt, zle, zeq, zl_0, zl_1, zl_2, zl_3, zl_4, zl_5, zl_6, zl_7, zl_8, zl_9, zl_10, zl_11, zl_12, zl_13, zl_19, zl_20, zl_30, zl_64, zl_99, zl_100, zl_299, zl_300, zl_399, zl_999, zl_9999, zl_m1, zl_m2, zl_m3, zl_32, zl_280] at c4 c5 c9 c19 ⊢); omega)]; first | done | ((try simp only [zlt, zle, zeq, zl_0, zl_1, zl_2, zl_3, zl_4, zl_5, zl_6, zl_7, zl_8, zl_9, zl_10, zl_11, zl_12, zl_13, zl_19, zl_20, zl_30, zl_64, zl_99, zl_100, zl_299, zl_300, zl_399, zl_999, zl_9999, zl_m1, zl_m2, zl_m3, zl_32, zl_280] at c4 c5 c9 c19 ⊢); omega)) | (rw [if_neg (by (try simp only [zlt, zle, zeq, zl_0, zl_1, zl_2, zl_3, zl_4, zl_5, zl_6, zl_7, zl_8, zl_9, zl_10, zl_11, zl_12, zl_13, zl_19, zl_20, zl_30, zl_64, zl_99, zl_100, zl_299, zl_300, zl_399, zl_999, zl_9999, zl_m1, zl_m2, zl_m3, zl_32, zl_280] at c4 c5 c9 c19 ⊢); omega)]; first | done | ((try simp only [zlt, zle, zeq, zl_0, zl_1, zl_2, zl_3, zl_4, zl_5, zl_6, zl_7, zl_8, zl_9, zl_10, zl_11, zl_12, zl_13, zl_19, zl_20, zl_30, zl_64, zl_99, zl_100, zl_299, zl_300, zl_399, zl_999, zl_9999, zl_m1, zl_m2, zl_m3, zl_32, zl_280] at c4 c5 c9 c19 ⊢); omega)))) dX11_thief_20 (Nat.le_of_ble_eq_true rfl) (Nat.le_of_ble_eq_true rfl)
  · obtain rfl : r2 = 0 := by rw [hrh3, if_neg c4]
    refine lv_if_eq (tgt := 19) hx hb dX11_thief_4 (by decide) (fun c20 => ?_) (fun h => absurd (by decide) h)
    refine lv_iconst (v := (-1)) hx hb dX11_thief_19 (by decide) ?_
    exact z_ret Z rfl hP hD hS ((by first | rfl | assumption | (rw [if_pos (by (try simp only [zlt, zle, zeq, zl_0, zl_1, zl_2, zl_3, zl_4, zl_5, zl_6, zl_7, zl_8, zl_9, zl_10, zl_11, zl_12, zl_13, zl_19, zl_20, zl_30, zl_64, zl_99, zl_100, zl_299, zl_300, zl_399, zl_999, zl_9999, zl_m1, zl_m2, zl_m3, zl_32, zl_280] at c4 c20 ⊢); omega)]; first | done | ((try simp only [zlt, zle, zeq, zl_0, zl_1, zl_2, zl_3, zl_4, zl_5, zl_6, zl_7, zl_8, zl_9, zl_10, zl_11, zl_12, zl_13, zl_19, zl_20, zl_30, zl_64, zl_99, zl_100, zl_299, zl_300, zl_399, zl_999, zl_9999, zl_m1, zl_m2, zl_m3, zl_32, zl_280] at c4 c20 ⊢); omega)) | (rw [if_neg (by (try simp only [zlt, zle, zeq, zl_0, zl_1, zl_2, zl_3, zl_4, zl_5, zl_6, zl_7, zl_8, zl_9, zl_10, zl_11, zl_12, zl_13, zl_19, zl_20, zl_30, zl_64, zl_99, zl_100, zl_299, zl_300, zl_399, zl_999, zl_9999, zl_m1, zl_m2, zl_m3, zl_32, zl_280] at c4 c20 ⊢); omega)]; first | done | ((try simp only [zlt, zle, zeq, zl_0, zl_1, zl_2, zl_3, zl_4, zl_5, zl_6, zl_7, zl_8, zl_9, zl_10, zl_11, zl_12, zl_13, zl_19, zl_20, zl_30, zl_64, zl_99, zl_100, zl_299, zl_300, zl_399, zl_999, zl_9999, zl_m1, zl_m2, zl_m3, zl_32, zl_280] at c4 c20 ⊢); omega)))) dX11_thief_20 (Nat.le_of_ble_eq_true rfl) (Nat.le_of_ble_eq_true rfl)
set_option maxHeartbeats 4000000 in
set_option maxRecDepth 100000 in
theorem c_X11_about (l : Launch) (D : va_G) (cI cM cT : ClassId) (x : Nat) (st : Nat) (dr : Nat) (nw : Nat) (kp : Nat) (rd : Nat) (tm : Nat) (co : Nat) (rO : Nat) (sT : Nat) (mA : Nat) (sB : Nat) (sA : Nat) (tH : Nat) (tF : Nat) (tS : Nat) (iA : Nat) (mU : Nat) (bF : Nat) (bT : Nat) (cO : Nat) (sH : Nat) (rG : Nat) (tP : Nat) (tX : Nat) (bY : Nat) (ki : Nat) (at_ : Nat) (nu : Nat) (p0 : Int32) : Ci l D (ty3 cI cM cT) yX11_about cX11_about 2 (some .int) 3 0 0 [.ref x, .int p0] ([(x, .inr (11, [.ref st, .ref dr, .ref nw, .ref kp, .ref rd, .ref tm, .ref co])), (nw, .inr (10, [.ref rO, .ref sT, .ref mA, .ref sB, .ref sA, .ref tH, .ref tF, .ref tS, .int 0, .int 0, .int (-1), .int 0, .int 0])), (mA, .inr (1, [.ref iA, .int 0, .int 0, .int 0, .int 0, .int 0, .int 13])), (rO, .inr (3, [.ref mU, .ref bF, .ref bT, .int 0])), (mU, .inl (cI, 300, .inl (fun _ => 0))), (sT, .inr (4, [.ref cO, .ref sH, .int 0])), (sB, .inr (5, [.ref rG, .int 0, .int 0])), (rd, .inr (2, [.ref tP, .int (-1), .int (-1), .int 0, .int 37, .int 0, .ref tX])), (tP, .inr (7, [.ref bY, .ref ki, .ref at_, .ref nu, .int 0, .int 0]))]) (fun r u => r = (if 100 ≤ p0 ∧ p0 ≤ 399 then 0 else if p0 = 5 then 13 else if p0 = 7 then (-1) else if 0 ≤ p0 ∧ p0 ≤ 11 then 0 else (-2))) := by
  refine Ci.of (by decide +kernel) (Nat.le_of_ble_eq_true rfl) ?_
  intro p e s m below meth c A ls Z hin hP hD hl
  have hx := Z.1
  have hb := Z.2.1
  have hS : va_S A s.heap s.heap [] := va_S.rf
  have hl : lv_has ls 2 [(0, .ref x), (1, .int p0)] := hl
  skip
  refine lv_iload_n hx hb dX11_about_0 rfl (lv_at hl 1 rfl) ?_
  refine lv_bipush (v := 20) hx hb dX11_about_1 (by decide) ?_
  refine lv_bipush (v := 20) hx hb dX11_about_3 (by decide) ?_
  refine lv_aload_n hx hb dX11_about_5 rfl (lv_at hl 0 rfl) ?_
  refine z_get Z i_X11 hP 0 rfl rfl 2 (by decide) bw_470 rfl dX11_about_6 ?_
  refine z_get Z i_X10 hP 1 rfl rfl 2 (by decide) bw_240 rfl dX11_about_9 ?_
  refine z_get Z i_X1 hP 2 rfl rfl 1 (by decide) bw_184 rfl dX11_about_12 ?_
  refine lv_iadd hx hb dX11_about_15 ?_
  refine z_topi (y := 20) (by decide) ?_
  refine lv_iconst (v := 1) hx hb dX11_about_16 (by decide) ?_
  refine lv_isub hx hb dX11_about_17 ?_
  refine z_topi (y := 19) (by decide) ?_
  have hPc := hP.sub2 (wc := []) [] rfl
  have hDc := hD.sub (ws' := []) [] (by decide) rfl
  refine raw_Si (nA := 3) (As := [.int p0, .int 20, .int 19]) (rest := []) Z hl.1 (c_X11_isWithin l D cI cM cT p0 20 19) (bw_S bw_497 bw_498 bw_80 bw_499) ⟨by decide +kernel, by decide +kernel, by decide +kernel⟩ rfl ⟨Nat.le_of_ble_eq_true rfl, Nat.le_of_ble_eq_true rfl⟩ hPc hDc hS rfl (Nat.le_of_ble_eq_true rfl) dX11_about_18 ⟨Nat.le_of_ble_eq_true rfl, Nat.le_of_ble_eq_true rfl⟩ (fun r2 u1 H1 locs1 h3 hku1 hP1 hD1 hS1 => ?_)
  obtain ⟨hrh3, rfl⟩ := h3
  obtain ⟨hP, hD⟩ := z_join (wr := [(x, .inr (11, [.ref st, .ref dr, .ref nw, .ref kp, .ref rd, .ref tm, .ref co])), (nw, .inr (10, [.ref rO, .ref sT, .ref mA, .ref sB, .ref sA, .ref tH, .ref tF, .ref tS, .int 0, .int 0, .int (-1), .int 0, .int 0])), (mA, .inr (1, [.ref iA, .int 0, .int 0, .int 0, .int 0, .int 0, .int 13])), (rO, .inr (3, [.ref mU, .ref bF, .ref bT, .int 0])), (mU, .inl (cI, 300, .inl (fun _ => 0))), (sT, .inr (4, [.ref cO, .ref sH, .int 0])), (sB, .inr (5, [.ref rG, .int 0, .int 0])), (rd, .inr (2, [.ref tP, .int (-1), .int (-1), .int 0, .int 37, .int 0, .ref tX])), (tP, .inr (7, [.ref bY, .ref ki, .ref at_, .ref nu, .int 0, .int 0]))]) Z hS hP hD [] [0, 1, 2, 3, 4, 5, 6, 7, 8] rfl (by decide) rfl (by decide) (by decide) hku1 hP1 hD1
  have hS := hS1
  clear hS1
  generalize H1 = H at hP hS ⊢
  generalize locs1 = locs at hS ⊢
  have hP : va_P D vwCl ([(x, .inr (11, [.ref st, .ref dr, .ref nw, .ref kp, .ref rd, .ref tm, .ref co])), (nw, .inr (10, [.ref rO, .ref sT, .ref mA, .ref sB, .ref sA, .ref tH, .ref tF, .ref tS, .int 0, .int 0, .int (-1), .int 0, .int 0])), (mA, .inr (1, [.ref iA, .int 0, .int 0, .int 0, .int 0, .int 0, .int 13])), (rO, .inr (3, [.ref mU, .ref bF, .ref bT, .int 0])), (mU, .inl (cI, 300, .inl (fun _ => 0))), (sT, .inr (4, [.ref cO, .ref sH, .int 0])), (sB, .inr (5, [.ref rG, .int 0, .int 0])), (rd, .inr (2, [.ref tP, .int (-1), .int (-1), .int 0, .int 37, .int 0, .ref tX])), (tP, .inr (7, [.ref bY, .ref ki, .ref at_, .ref nu, .int 0, .int 0]))]) H := hP
  have hD : va_D A ([(x, .inr (11, [.ref st, .ref dr, .ref nw, .ref kp, .ref rd, .ref tm, .ref co])), (nw, .inr (10, [.ref rO, .ref sT, .ref mA, .ref sB, .ref sA, .ref tH, .ref tF, .ref tS, .int 0, .int 0, .int (-1), .int 0, .int 0])), (mA, .inr (1, [.ref iA, .int 0, .int 0, .int 0, .int 0, .int 0, .int 13])), (rO, .inr (3, [.ref mU, .ref bF, .ref bT, .int 0])), (mU, .inl (cI, 300, .inl (fun _ => 0))), (sT, .inr (4, [.ref cO, .ref sH, .int 0])), (sB, .inr (5, [.ref rG, .int 0, .int 0])), (rd, .inr (2, [.ref tP, .int (-1), .int (-1), .int 0, .int 37, .int 0, .ref tX])), (tP, .inr (7, [.ref bY, .ref ki, .ref at_, .ref nu, .int 0, .int 0]))]) := hD
  obtain rfl : r2 = 0 := by rw [hrh3, if_neg (by simp only [zlt, zle, zeq, zl_0, zl_1, zl_2, zl_3, zl_4, zl_5, zl_6, zl_7, zl_8, zl_9, zl_10, zl_11, zl_12, zl_13, zl_19, zl_20, zl_30, zl_64, zl_99, zl_100, zl_299, zl_300, zl_399, zl_999, zl_9999, zl_m1, zl_m2, zl_m3, zl_32, zl_280]; omega)]
  refine lv_if_eq (tgt := 40) hx hb dX11_about_21 (by decide) (fun c5 => ?_) (fun h => absurd (by decide) h)
  refine lv_iload_n hx hb dX11_about_40 rfl (lv_at hl 1 rfl) ?_
  refine lv_bipush (v := 100) hx hb dX11_about_41 (by decide) ?_
  refine lv_sipush (v := 399) hx hb dX11_about_43 (by decide) ?_
  have hPc := hP.sub2 (wc := []) [] rfl
  have hDc := hD.sub (ws' := []) [] (by decide) rfl
  refine raw_Si (nA := 3) (As := [.int p0, .int 100, .int 399]) (rest := []) Z hl.1 (c_X11_isWithin l D cI cM cT p0 100 399) (bw_S bw_497 bw_498 bw_80 bw_499) ⟨by decide +kernel, by decide +kernel, by decide +kernel⟩ rfl ⟨Nat.le_of_ble_eq_true rfl, Nat.le_of_ble_eq_true rfl⟩ hPc hDc hS rfl (Nat.le_of_ble_eq_true rfl) dX11_about_46 ⟨Nat.le_of_ble_eq_true rfl, Nat.le_of_ble_eq_true rfl⟩ (fun r7 u6 H1 locs1 h8 hku6 hP1 hD1 hS1 => ?_)
  obtain ⟨hrh8, rfl⟩ := h8
  obtain ⟨hP, hD⟩ := z_join (wr := [(x, .inr (11, [.ref st, .ref dr, .ref nw, .ref kp, .ref rd, .ref tm, .ref co])), (nw, .inr (10, [.ref rO, .ref sT, .ref mA, .ref sB, .ref sA, .ref tH, .ref tF, .ref tS, .int 0, .int 0, .int (-1), .int 0, .int 0])), (mA, .inr (1, [.ref iA, .int 0, .int 0, .int 0, .int 0, .int 0, .int 13])), (rO, .inr (3, [.ref mU, .ref bF, .ref bT, .int 0])), (mU, .inl (cI, 300, .inl (fun _ => 0))), (sT, .inr (4, [.ref cO, .ref sH, .int 0])), (sB, .inr (5, [.ref rG, .int 0, .int 0])), (rd, .inr (2, [.ref tP, .int (-1), .int (-1), .int 0, .int 37, .int 0, .ref tX])), (tP, .inr (7, [.ref bY, .ref ki, .ref at_, .ref nu, .int 0, .int 0]))]) Z hS hP hD [] [0, 1, 2, 3, 4, 5, 6, 7, 8] rfl (by decide) rfl (by decide) (by decide) hku6 hP1 hD1
  have hS := hS1
  clear hS1
  generalize H1 = H at hP hS ⊢
  generalize locs1 = locs at hS ⊢
  have hP : va_P D vwCl ([(x, .inr (11, [.ref st, .ref dr, .ref nw, .ref kp, .ref rd, .ref tm, .ref co])), (nw, .inr (10, [.ref rO, .ref sT, .ref mA, .ref sB, .ref sA, .ref tH, .ref tF, .ref tS, .int 0, .int 0, .int (-1), .int 0, .int 0])), (mA, .inr (1, [.ref iA, .int 0, .int 0, .int 0, .int 0, .int 0, .int 13])), (rO, .inr (3, [.ref mU, .ref bF, .ref bT, .int 0])), (mU, .inl (cI, 300, .inl (fun _ => 0))), (sT, .inr (4, [.ref cO, .ref sH, .int 0])), (sB, .inr (5, [.ref rG, .int 0, .int 0])), (rd, .inr (2, [.ref tP, .int (-1), .int (-1), .int 0, .int 37, .int 0, .ref tX])), (tP, .inr (7, [.ref bY, .ref ki, .ref at_, .ref nu, .int 0, .int 0]))]) H := hP
  have hD : va_D A ([(x, .inr (11, [.ref st, .ref dr, .ref nw, .ref kp, .ref rd, .ref tm, .ref co])), (nw, .inr (10, [.ref rO, .ref sT, .ref mA, .ref sB, .ref sA, .ref tH, .ref tF, .ref tS, .int 0, .int 0, .int (-1), .int 0, .int 0])), (mA, .inr (1, [.ref iA, .int 0, .int 0, .int 0, .int 0, .int 0, .int 13])), (rO, .inr (3, [.ref mU, .ref bF, .ref bT, .int 0])), (mU, .inl (cI, 300, .inl (fun _ => 0))), (sT, .inr (4, [.ref cO, .ref sH, .int 0])), (sB, .inr (5, [.ref rG, .int 0, .int 0])), (rd, .inr (2, [.ref tP, .int (-1), .int (-1), .int 0, .int 37, .int 0, .ref tX])), (tP, .inr (7, [.ref bY, .ref ki, .ref at_, .ref nu, .int 0, .int 0]))]) := hD
  by_cases c9 : 100 ≤ p0 ∧ p0 ≤ 399
  · obtain rfl : r7 = 1 := by rw [hrh8, if_pos c9]
    refine lv_if_eq (tgt := 68) hx hb dX11_about_49 (by decide) (fun h => absurd h (by decide)) (fun c10 => ?_)
    refine lv_aload_n hx hb dX11_about_52 rfl (lv_at hl 0 rfl) ?_
    refine z_get Z i_X11 hP 0 rfl rfl 2 (by decide) bw_470 rfl dX11_about_53 ?_
    refine z_get Z i_X10 hP 1 rfl rfl 0 (by decide) bw_232 rfl dX11_about_56 ?_
    refine z_get Z i_X3 hP 3 rfl rfl 0 (by decide) bw_135 rfl dX11_about_59 ?_
    refine lv_iload_n hx hb dX11_about_62 rfl (lv_at hl 1 rfl) ?_
    refine lv_bipush (v := 100) hx hb dX11_about_63 (by decide) ?_
    refine lv_isub hx hb dX11_about_65 ?_
    refine z_iald Z hP 4 0 rfl rfl (vp_in_iff.mpr (by have e9 : (p0 - 100).toInt = p0.toInt - 100 := zsub (by (try simp only [zlt, zle, zeq, zl_0, zl_1, zl_2, zl_3, zl_4, zl_5, zl_6, zl_7, zl_8, zl_9, zl_10, zl_11, zl_12, zl_13, zl_19, zl_20, zl_30, zl_64, zl_99, zl_100, zl_299, zl_300, zl_399, zl_999, zl_9999, zl_m1, zl_m2, zl_m3, zl_32, zl_280] at c5 c9 c10 ⊢); omega) (by (try simp only [zlt, zle, zeq, zl_0, zl_1, zl_2, zl_3, zl_4, zl_5, zl_6, zl_7, zl_8, zl_9, zl_10, zl_11, zl_12, zl_13, zl_19, zl_20, zl_30, zl_64, zl_99, zl_100, zl_299, zl_300, zl_399, zl_999, zl_9999, zl_m1, zl_m2, zl_m3, zl_32, zl_280] at c5 c9 c10 ⊢); omega); simp only [zlt, zle, zeq, zl_0, zl_1, zl_2, zl_3, zl_4, zl_5, zl_6, zl_7, zl_8, zl_9, zl_10, zl_11, zl_12, zl_13, zl_19, zl_20, zl_30, zl_64, zl_99, zl_100, zl_299, zl_300, zl_399, zl_999, zl_9999, zl_m1, zl_m2, zl_m3, zl_32, zl_280] at c5 c9 c10 ⊢; omega)) dX11_about_66 ?_
    refine z_topi (y := 0) rfl ?_
    exact z_ret Z rfl hP hD hS ((by first | rfl | assumption | (rw [if_pos (by (try simp only [zlt, zle, zeq, zl_0, zl_1, zl_2, zl_3, zl_4, zl_5, zl_6, zl_7, zl_8, zl_9, zl_10, zl_11, zl_12, zl_13, zl_19, zl_20, zl_30, zl_64, zl_99, zl_100, zl_299, zl_300, zl_399, zl_999, zl_9999, zl_m1, zl_m2, zl_m3, zl_32, zl_280] at c5 c9 c10 ⊢); omega)]; first | done | ((try simp only [zlt, zle, zeq, zl_0, zl_1, zl_2, zl_3, zl_4, zl_5, zl_6, zl_7, zl_8, zl_9, zl_10, zl_11, zl_12, zl_13, zl_19, zl_20, zl_30, zl_64, zl_99, zl_100, zl_299, zl_300, zl_399, zl_999, zl_9999, zl_m1, zl_m2, zl_m3, zl_32, zl_280] at c5 c9 c10 ⊢); omega)) | (rw [if_neg (by (try simp only [zlt, zle, zeq, zl_0, zl_1, zl_2, zl_3, zl_4, zl_5, zl_6, zl_7, zl_8, zl_9, zl_10, zl_11, zl_12, zl_13, zl_19, zl_20, zl_30, zl_64, zl_99, zl_100, zl_299, zl_300, zl_399, zl_999, zl_9999, zl_m1, zl_m2, zl_m3, zl_32, zl_280] at c5 c9 c10 ⊢); omega), if_pos (by (try simp only [zlt, zle, zeq, zl_0, zl_1, zl_2, zl_3, zl_4, zl_5, zl_6, zl_7, zl_8, zl_9, zl_10, zl_11, zl_12, zl_13, zl_19, zl_20, zl_30, zl_64, zl_99, zl_100, zl_299, zl_300, zl_399, zl_999, zl_9999, zl_m1, zl_m2, zl_m3, zl_32, zl_280] at c5 c9 c10 ⊢); omega)]; first | done | ((try simp only [zlt, zle, zeq, zl_0, zl_1, zl_2, zl_3, zl_4, zl_5, zl_6, zl_7, zl_8, zl_9, zl_10, zl_11, zl_12, zl_13, zl_19, zl_20, zl_30, zl_64, zl_99, zl_100, zl_299, zl_300, zl_399, zl_999, zl_9999, zl_m1, zl_m2, zl_m3, zl_32, zl_280] at c5 c9 c10 ⊢); omega)) | (rw [if_neg (by (try simp only [zlt, zle, zeq, zl_0, zl_1, zl_2, zl_3, zl_4, zl_5, zl_6, zl_7, zl_8, zl_9, zl_10, zl_11, zl_12, zl_13, zl_19, zl_20, zl_30, zl_64, zl_99, zl_100, zl_299, zl_300, zl_399, zl_999, zl_9999, zl_m1, zl_m2, zl_m3, zl_32, zl_280] at c5 c9 c10 ⊢); omega), if_neg (by (try simp only [zlt, zle, zeq, zl_0, zl_1, zl_2, zl_3, zl_4, zl_5, zl_6, zl_7, zl_8, zl_9, zl_10, zl_11, zl_12, zl_13, zl_19, zl_20, zl_30, zl_64, zl_99, zl_100, zl_299, zl_300, zl_399, zl_999, zl_9999, zl_m1, zl_m2, zl_m3, zl_32, zl_280] at c5 c9 c10 ⊢); omega), if_pos (by (try simp only [zlt, zle, zeq, zl_0, zl_1, zl_2, zl_3, zl_4, zl_5, zl_6, zl_7, zl_8, zl_9, zl_10, zl_11, zl_12, zl_13, zl_19, zl_20, zl_30, zl_64, zl_99, zl_100, zl_299, zl_300, zl_399, zl_999, zl_9999, zl_m1, zl_m2, zl_m3, zl_32, zl_280] at c5 c9 c10 ⊢); omega)]; first | done | ((try simp only [zlt, zle, zeq, zl_0, zl_1, zl_2, zl_3, zl_4, zl_5, zl_6, zl_7, zl_8, zl_9, zl_10, zl_11, zl_12, zl_13, zl_19, zl_20, zl_30, zl_64, zl_99, zl_100, zl_299, zl_300, zl_399, zl_999, zl_9999, zl_m1, zl_m2, zl_m3, zl_32, zl_280] at c5 c9 c10 ⊢); omega)) | (rw [if_neg (by (try simp only [zlt, zle, zeq, zl_0, zl_1, zl_2, zl_3, zl_4, zl_5, zl_6, zl_7, zl_8, zl_9, zl_10, zl_11, zl_12, zl_13, zl_19, zl_20, zl_30, zl_64, zl_99, zl_100, zl_299, zl_300, zl_399, zl_999, zl_9999, zl_m1, zl_m2, zl_m3, zl_32, zl_280] at c5 c9 c10 ⊢); omega), if_neg (by (try simp only [zlt, zle, zeq, zl_0, zl_1, zl_2, zl_3, zl_4, zl_5, zl_6, zl_7, zl_8, zl_9, zl_10, zl_11, zl_12, zl_13, zl_19, zl_20, zl_30, zl_64, zl_99, zl_100, zl_299, zl_300, zl_399, zl_999, zl_9999, zl_m1, zl_m2, zl_m3, zl_32, zl_280] at c5 c9 c10 ⊢); omega), if_neg (by (try simp only [zlt, zle, zeq, zl_0, zl_1, zl_2, zl_3, zl_4, zl_5, zl_6, zl_7, zl_8, zl_9, zl_10, zl_11, zl_12, zl_13, zl_19, zl_20, zl_30, zl_64, zl_99, zl_100, zl_299, zl_300, zl_399, zl_999, zl_9999, zl_m1, zl_m2, zl_m3, zl_32, zl_280] at c5 c9 c10 ⊢); omega), if_pos (by (try simp only [zlt, zle, zeq, zl_0, zl_1, zl_2, zl_3, zl_4, zl_5, zl_6, zl_7, zl_8, zl_9, zl_10, zl_11, zl_12, zl_13, zl_19, zl_20, zl_30, zl_64, zl_99, zl_100, zl_299, zl_300, zl_399, zl_999, zl_9999, zl_m1, zl_m2, zl_m3, zl_32, zl_280] at c5 c9 c10 ⊢); omega)]; first | done | ((try simp only [zlt, zle, zeq, zl_0, zl_1, zl_2, zl_3, zl_4, zl_5, zl_6, zl_7, zl_8, zl_9, zl_10, zl_11, zl_12, zl_13, zl_19, zl_20, zl_30, zl_64, zl_99, zl_100, zl_299, zl_300, zl_399, zl_999, zl_9999, zl_m1, zl_m2, zl_m3, zl_32, zl_280] at c5 c9 c10 ⊢); omega)) | (rw [if_neg (by (try simp only [zlt, zle, zeq, zl_0, zl_1, zl_2, zl_3, zl_4, zl_5, zl_6, zl_7, zl_8, zl_9, zl_10, zl_11, zl_12, zl_13, zl_19, zl_20, zl_30, zl_64, zl_99, zl_100, zl_299, zl_300, zl_399, zl_999, zl_9999, zl_m1, zl_m2, zl_m3, zl_32, zl_280] at c5 c9 c10 ⊢); omega), if_neg (by (try simp only [zlt, zle, zeq, zl_0, zl_1, zl_2, zl_3, zl_4, zl_5, zl_6, zl_7, zl_8, zl_9, zl_10, zl_11, zl_12, zl_13, zl_19, zl_20, zl_30, zl_64, zl_99, zl_100, zl_299, zl_300, zl_399, zl_999, zl_9999, zl_m1, zl_m2, zl_m3, zl_32, zl_280] at c5 c9 c10 ⊢); omega), if_neg (by (try simp only [zlt, zle, zeq, zl_0, zl_1, zl_2, zl_3, zl_4, zl_5, zl_6, zl_7, zl_8, zl_9, zl_10, zl_11, zl_12, zl_13, zl_19, zl_20, zl_30, zl_64, zl_99, zl_100, zl_299, zl_300, zl_399, zl_999, zl_9999, zl_m1, zl_m2, zl_m3, zl_32, zl_280] at c5 c9 c10 ⊢); omega), if_neg (by (try simp only [zlt, zle, zeq, zl_0, zl_1, zl_2, zl_3, zl_4, zl_5, zl_6, zl_7, zl_8, zl_9, zl_10, zl_11, zl_12, zl_13, zl_19, zl_20, zl_30, zl_64, zl_99, zl_100, zl_299, zl_300, zl_399, zl_999, zl_9999, zl_m1, zl_m2, zl_m3, zl_32, zl_280] at c5 c9 c10 ⊢); omega)]; first | done | ((try simp only [zlt, zle, zeq, zl_0, zl_1, zl_2, zl_3, zl_4, zl_5, zl_6, zl_7, zl_8, zl_9, zl_10, zl_11, zl_12, zl_13, zl_19, zl_20, zl_30, zl_64, zl_99, zl_100, zl_299, zl_300, zl_399, zl_999, zl_9999, zl_m1, zl_m2, zl_m3, zl_32, zl_280] at c5 c9 c10 ⊢); omega)))) dX11_about_67 (Nat.le_of_ble_eq_true rfl) (Nat.le_of_ble_eq_true rfl)
  · obtain rfl : r7 = 0 := by rw [hrh8, if_neg c9]
    refine lv_if_eq (tgt := 68) hx hb dX11_about_49 (by decide) (fun c11 => ?_) (fun h => absurd (by decide) h)
    refine lv_iload_n hx hb dX11_about_68 rfl (lv_at hl 1 rfl) ?_
    by_cases c12 : p0.toInt < 0 ∨ 11 < p0.toInt
    · refine lv_tableOut (tgt := 249) hx hb dX11_about_69 c12 (by decide) ?_
      refine lv_bipush (v := (-2)) hx hb dX11_about_249 (by decide) ?_
      exact z_ret Z rfl hP hD hS ((by first | rfl | assumption | (rw [if_pos (by (try simp only [zlt, zle, zeq, zl_0, zl_1, zl_2, zl_3, zl_4, zl_5, zl_6, zl_7, zl_8, zl_9, zl_10, zl_11, zl_12, zl_13, zl_19, zl_20, zl_30, zl_64, zl_99, zl_100, zl_299, zl_300, zl_399, zl_999, zl_9999, zl_m1, zl_m2, zl_m3, zl_32, zl_280] at c5 c9 c11 c12 ⊢); omega)]; first | done | ((try simp only [zlt, zle, zeq, zl_0, zl_1, zl_2, zl_3, zl_4, zl_5, zl_6, zl_7, zl_8, zl_9, zl_10, zl_11, zl_12, zl_13, zl_19, zl_20, zl_30, zl_64, zl_99, zl_100, zl_299, zl_300, zl_399, zl_999, zl_9999, zl_m1, zl_m2, zl_m3, zl_32, zl_280] at c5 c9 c11 c12 ⊢); omega)) | (rw [if_neg (by (try simp only [zlt, zle, zeq, zl_0, zl_1, zl_2, zl_3, zl_4, zl_5, zl_6, zl_7, zl_8, zl_9, zl_10, zl_11, zl_12, zl_13, zl_19, zl_20, zl_30, zl_64, zl_99, zl_100, zl_299, zl_300, zl_399, zl_999, zl_9999, zl_m1, zl_m2, zl_m3, zl_32, zl_280] at c5 c9 c11 c12 ⊢); omega), if_pos (by (try simp only [zlt, zle, zeq, zl_0, zl_1, zl_2, zl_3, zl_4, zl_5, zl_6, zl_7, zl_8, zl_9, zl_10, zl_11, zl_12, zl_13, zl_19, zl_20, zl_30, zl_64, zl_99, zl_100, zl_299, zl_300, zl_399, zl_999, zl_9999, zl_m1, zl_m2, zl_m3, zl_32, zl_280] at c5 c9 c11 c12 ⊢); omega)]; first | done | ((try simp only [zlt, zle, zeq, zl_0, zl_1, zl_2, zl_3, zl_4, zl_5, zl_6, zl_7, zl_8, zl_9, zl_10, zl_11, zl_12, zl_13, zl_19, zl_20, zl_30, zl_64, zl_99, zl_100, zl_299, zl_300, zl_399, zl_999, zl_9999, zl_m1, zl_m2, zl_m3, zl_32, zl_280] at c5 c9 c11 c12 ⊢); omega)) | (rw [if_neg (by (try simp only [zlt, zle, zeq, zl_0, zl_1, zl_2, zl_3, zl_4, zl_5, zl_6, zl_7, zl_8, zl_9, zl_10, zl_11, zl_12, zl_13, zl_19, zl_20, zl_30, zl_64, zl_99, zl_100, zl_299, zl_300, zl_399, zl_999, zl_9999, zl_m1, zl_m2, zl_m3, zl_32, zl_280] at c5 c9 c11 c12 ⊢); omega), if_neg (by (try simp only [zlt, zle, zeq, zl_0, zl_1, zl_2, zl_3, zl_4, zl_5, zl_6, zl_7, zl_8, zl_9, zl_10, zl_11, zl_12, zl_13, zl_19, zl_20, zl_30, zl_64, zl_99, zl_100, zl_299, zl_300, zl_399, zl_999, zl_9999, zl_m1, zl_m2, zl_m3, zl_32, zl_280] at c5 c9 c11 c12 ⊢); omega), if_pos (by (try simp only [zlt, zle, zeq, zl_0, zl_1, zl_2, zl_3, zl_4, zl_5, zl_6, zl_7, zl_8, zl_9, zl_10, zl_11, zl_12, zl_13, zl_19, zl_20, zl_30, zl_64, zl_99, zl_100, zl_299, zl_300, zl_399, zl_999, zl_9999, zl_m1, zl_m2, zl_m3, zl_32, zl_280] at c5 c9 c11 c12 ⊢); omega)]; first | done | ((try simp only [zlt, zle, zeq, zl_0, zl_1, zl_2, zl_3, zl_4, zl_5, zl_6, zl_7, zl_8, zl_9, zl_10, zl_11, zl_12, zl_13, zl_19, zl_20, zl_30, zl_64, zl_99, zl_100, zl_299, zl_300, zl_399, zl_999, zl_9999, zl_m1, zl_m2, zl_m3, zl_32, zl_280] at c5 c9 c11 c12 ⊢); omega)) | (rw [if_neg (by (try simp only [zlt, zle, zeq, zl_0, zl_1, zl_2, zl_3, zl_4, zl_5, zl_6, zl_7, zl_8, zl_9, zl_10, zl_11, zl_12, zl_13, zl_19, zl_20, zl_30, zl_64, zl_99, zl_100, zl_299, zl_300, zl_399, zl_999, zl_9999, zl_m1, zl_m2, zl_m3, zl_32, zl_280] at c5 c9 c11 c12 ⊢); omega), if_neg (by (try simp only [zlt, zle, zeq, zl_0, zl_1, zl_2, zl_3, zl_4, zl_5, zl_6, zl_7, zl_8, zl_9, zl_10, zl_11, zl_12, zl_13, zl_19, zl_20, zl_30, zl_64, zl_99, zl_100, zl_299, zl_300, zl_399, zl_999, zl_9999, zl_m1, zl_m2, zl_m3, zl_32, zl_280] at c5 c9 c11 c12 ⊢); omega), if_neg (by (try simp only [zlt, zle, zeq, zl_0, zl_1, zl_2, zl_3, zl_4, zl_5, zl_6, zl_7, zl_8, zl_9, zl_10, zl_11, zl_12, zl_13, zl_19, zl_20, zl_30, zl_64, zl_99, zl_100, zl_299, zl_300, zl_399, zl_999, zl_9999, zl_m1, zl_m2, zl_m3, zl_32, zl_280] at c5 c9 c11 c12 ⊢); omega), if_pos (by (try simp only [zlt, zle, zeq, zl_0, zl_1, zl_2, zl_3, zl_4, zl_5, zl_6, zl_7, zl_8, zl_9, zl_10, zl_11, zl_12, zl_13, zl_19, zl_20, zl_30, zl_64, zl_99, zl_100, zl_299, zl_300, zl_399, zl_999, zl_9999, zl_m1, zl_m2, zl_m3, zl_32, zl_280] at c5 c9 c11 c12 ⊢); omega)]; first | done | ((try simp only [zlt, zle, zeq, zl_0, zl_1, zl_2, zl_3, zl_4, zl_5, zl_6, zl_7, zl_8, zl_9, zl_10, zl_11, zl_12, zl_13, zl_19, zl_20, zl_30, zl_64, zl_99, zl_100, zl_299, zl_300, zl_399, zl_999, zl_9999, zl_m1, zl_m2, zl_m3, zl_32, zl_280] at c5 c9 c11 c12 ⊢); omega)) | (rw [if_neg (by (try simp only [zlt, zle, zeq, zl_0, zl_1, zl_2, zl_3, zl_4, zl_5, zl_6, zl_7, zl_8, zl_9, zl_10, zl_11, zl_12, zl_13, zl_19, zl_20, zl_30, zl_64, zl_99, zl_100, zl_299, zl_300, zl_399, zl_999, zl_9999, zl_m1, zl_m2, zl_m3, zl_32, zl_280] at c5 c9 c11 c12 ⊢); omega), if_neg (by (try simp only [zlt, zle, zeq, zl_0, zl_1, zl_2, zl_3, zl_4, zl_5, zl_6, zl_7, zl_8, zl_9, zl_10, zl_11, zl_12, zl_13, zl_19, zl_20, zl_30, zl_64, zl_99, zl_100, zl_299, zl_300, zl_399, zl_999, zl_9999, zl_m1, zl_m2, zl_m3, zl_32, zl_280] at c5 c9 c11 c12 ⊢); omega), if_neg (by (try simp only [zlt, zle, zeq, zl_0, zl_1, zl_2, zl_3, zl_4, zl_5, zl_6, zl_7, zl_8, zl_9, zl_10, zl_11, zl_12, zl_13, zl_19, zl_20, zl_30, zl_64, zl_99, zl_100, zl_299, zl_300, zl_399, zl_999, zl_9999, zl_m1, zl_m2, zl_m3, zl_32, zl_280] at c5 c9 c11 c12 ⊢); omega), if_neg (by (try simp only [zlt, zle, zeq, zl_0, zl_1, zl_2, zl_3, zl_4, zl_5, zl_6, zl_7, zl_8, zl_9, zl_10, zl_11, zl_12, zl_13, zl_19, zl_20, zl_30, zl_64, zl_99, zl_100, zl_299, zl_300, zl_399, zl_999, zl_9999, zl_m1, zl_m2, zl_m3, zl_32, zl_280] at c5 c9 c11 c12 ⊢); omega)]; first | done | ((try simp only [zlt, zle, zeq, zl_0, zl_1, zl_2, zl_3, zl_4, zl_5, zl_6, zl_7, zl_8, zl_9, zl_10, zl_11, zl_12, zl_13, zl_19, zl_20, zl_30, zl_64, zl_99, zl_100, zl_299, zl_300, zl_399, zl_999, zl_9999, zl_m1, zl_m2, zl_m3, zl_32, zl_280] at c5 c9 c11 c12 ⊢); omega)))) dX11_about_251 (Nat.le_of_ble_eq_true rfl) (Nat.le_of_ble_eq_true rfl)
    · have hsw : p0 = 0 ∨ p0 = 1 ∨ p0 = 2 ∨ p0 = 3 ∨ p0 = 4 ∨ p0 = 5 ∨ p0 = 6 ∨ p0 = 7 ∨ p0 = 8 ∨ p0 = 9 ∨ p0 = 10 ∨ p0 = 11 := by simp only [zeq, zl_0, zl_1, zl_2, zl_3, zl_4, zl_5, zl_6, zl_7, zl_8, zl_9, zl_10, zl_11, zl_12, zl_13, zl_19, zl_20, zl_30, zl_64, zl_99, zl_100, zl_299, zl_300, zl_399, zl_999, zl_9999, zl_m1, zl_m2, zl_m3, zl_32, zl_280]; omega
      clear c12
      rcases hsw with rfl | rfl | rfl | rfl | rfl | rfl | rfl | rfl | rfl | rfl | rfl | rfl
      · refine lv_tableIn (off := 63) (tgt := 132) hx hb dX11_about_69 (by decide) (by decide) rfl (by decide) ?_
        refine lv_aload_n hx hb dX11_about_132 rfl (lv_at hl 0 rfl) ?_
        refine z_get Z i_X11 hP 0 rfl rfl 2 (by decide) bw_470 rfl dX11_about_133 ?_
        refine z_get Z i_X10 hP 1 rfl rfl 1 (by decide) bw_237 rfl dX11_about_136 ?_
        refine z_get Z i_X4 hP 5 rfl rfl 2 (by decide) bw_167 rfl dX11_about_139 ?_
        exact z_ret Z rfl hP hD hS ((by first | rfl | assumption | (rw [if_pos (by (try simp only [zlt, zle, zeq, zl_0, zl_1, zl_2, zl_3, zl_4, zl_5, zl_6, zl_7, zl_8, zl_9, zl_10, zl_11, zl_12, zl_13, zl_19, zl_20, zl_30, zl_64, zl_99, zl_100, zl_299, zl_300, zl_399, zl_999, zl_9999, zl_m1, zl_m2, zl_m3, zl_32, zl_280] at c5 c9 c11 ⊢); omega)]; first | done | ((try simp only [zlt, zle, zeq, zl_0, zl_1, zl_2, zl_3, zl_4, zl_5, zl_6, zl_7, zl_8, zl_9, zl_10, zl_11, zl_12, zl_13, zl_19, zl_20, zl_30, zl_64, zl_99, zl_100, zl_299, zl_300, zl_399, zl_999, zl_9999, zl_m1, zl_m2, zl_m3, zl_32, zl_280] at c5 c9 c11 ⊢); omega)) | (rw [if_neg (by (try simp only [zlt, zle, zeq, zl_0, zl_1, zl_2, zl_3, zl_4, zl_5, zl_6, zl_7, zl_8, zl_9, zl_10, zl_11, zl_12, zl_13, zl_19, zl_20, zl_30, zl_64, zl_99, zl_100, zl_299, zl_300, zl_399, zl_999, zl_9999, zl_m1, zl_m2, zl_m3, zl_32, zl_280] at c5 c9 c11 ⊢); omega), if_pos (by (try simp only [zlt, zle, zeq, zl_0, zl_1, zl_2, zl_3, zl_4, zl_5, zl_6, zl_7, zl_8, zl_9, zl_10, zl_11, zl_12, zl_13, zl_19, zl_20, zl_30, zl_64, zl_99, zl_100, zl_299, zl_300, zl_399, zl_999, zl_9999, zl_m1, zl_m2, zl_m3, zl_32, zl_280] at c5 c9 c11 ⊢); omega)]; first | done | ((try simp only [zlt, zle, zeq, zl_0, zl_1, zl_2, zl_3, zl_4, zl_5, zl_6, zl_7, zl_8, zl_9, zl_10, zl_11, zl_12, zl_13, zl_19, zl_20, zl_30, zl_64, zl_99, zl_100, zl_299, zl_300, zl_399, zl_999, zl_9999, zl_m1, zl_m2, zl_m3, zl_32, zl_280] at c5 c9 c11 ⊢); omega)) | (rw [if_neg (by (try simp only [zlt, zle, zeq, zl_0, zl_1, zl_2, zl_3, zl_4, zl_5, zl_6, zl_7, zl_8, zl_9, zl_10, zl_11, zl_12, zl_13, zl_19, zl_20, zl_30, zl_64, zl_99, zl_100, zl_299, zl_300, zl_399, zl_999, zl_9999, zl_m1, zl_m2, zl_m3, zl_32, zl_280] at c5 c9 c11 ⊢); omega), if_neg (by (try simp only [zlt, zle, zeq, zl_0, zl_1, zl_2, zl_3, zl_4, zl_5, zl_6, zl_7, zl_8, zl_9, zl_10, zl_11, zl_12, zl_13, zl_19, zl_20, zl_30, zl_64, zl_99, zl_100, zl_299, zl_300, zl_399, zl_999, zl_9999, zl_m1, zl_m2, zl_m3, zl_32, zl_280] at c5 c9 c11 ⊢); omega), if_pos (by (try simp only [zlt, zle, zeq, zl_0, zl_1, zl_2, zl_3, zl_4, zl_5, zl_6, zl_7, zl_8, zl_9, zl_10, zl_11, zl_12, zl_13, zl_19, zl_20, zl_30, zl_64, zl_99, zl_100, zl_299, zl_300, zl_399, zl_999, zl_9999, zl_m1, zl_m2, zl_m3, zl_32, zl_280] at c5 c9 c11 ⊢); omega)]; first | done | ((try simp only [zlt, zle, zeq, zl_0, zl_1, zl_2, zl_3, zl_4, zl_5, zl_6, zl_7, zl_8, zl_9, zl_10, zl_11, zl_12, zl_13, zl_19, zl_20, zl_30, zl_64, zl_99, zl_100, zl_299, zl_300, zl_399, zl_999, zl_9999, zl_m1, zl_m2, zl_m3, zl_32, zl_280] at c5 c9 c11 ⊢); omega)) | (rw [if_neg (by (try simp only [zlt, zle, zeq, zl_0, zl_1, zl_2, zl_3, zl_4, zl_5, zl_6, zl_7, zl_8, zl_9, zl_10, zl_11, zl_12, zl_13, zl_19, zl_20, zl_30, zl_64, zl_99, zl_100, zl_299, zl_300, zl_399, zl_999, zl_9999, zl_m1, zl_m2, zl_m3, zl_32, zl_280] at c5 c9 c11 ⊢); omega), if_neg (by (try simp only [zlt, zle, zeq, zl_0, zl_1, zl_2, zl_3, zl_4, zl_5, zl_6, zl_7, zl_8, zl_9, zl_10, zl_11, zl_12, zl_13, zl_19, zl_20, zl_30, zl_64, zl_99, zl_100, zl_299, zl_300, zl_399, zl_999, zl_9999, zl_m1, zl_m2, zl_m3, zl_32, zl_280] at c5 c9 c11 ⊢); omega), if_neg (by (try simp only [zlt, zle, zeq, zl_0, zl_1, zl_2, zl_3, zl_4, zl_5, zl_6, zl_7, zl_8, zl_9, zl_10, zl_11, zl_12, zl_13, zl_19, zl_20, zl_30, zl_64, zl_99, zl_100, zl_299, zl_300, zl_399, zl_999, zl_9999, zl_m1, zl_m2, zl_m3, zl_32, zl_280] at c5 c9 c11 ⊢); omega), if_pos (by (try simp only [zlt, zle, zeq, zl_0, zl_1, zl_2, zl_3, zl_4, zl_5, zl_6, zl_7, zl_8, zl_9, zl_10, zl_11, zl_12, zl_13, zl_19, zl_20, zl_30, zl_64, zl_99, zl_100, zl_299, zl_300, zl_399, zl_999, zl_9999, zl_m1, zl_m2, zl_m3, zl_32, zl_280] at c5 c9 c11 ⊢); omega)]; first | done | ((try simp only [zlt, zle, zeq, zl_0, zl_1, zl_2, zl_3, zl_4, zl_5, zl_6, zl_7, zl_8, zl_9, zl_10, zl_11, zl_12, zl_13, zl_19, zl_20, zl_30, zl_64, zl_99, zl_100, zl_299, zl_300, zl_399, zl_999, zl_9999, zl_m1, zl_m2, zl_m3, zl_32, zl_280] at c5 c9 c11 ⊢); omega)) | (rw [if_neg (by (try simp only [zlt, zle, zeq, zl_0, zl_1, zl_2, zl_3, zl_4, zl_5, zl_6, zl_7, zl_8, zl_9, zl_10, zl_11, zl_12, zl_13, zl_19, zl_20, zl_30, zl_64, zl_99, zl_100, zl_299, zl_300, zl_399, zl_999, zl_9999, zl_m1, zl_m2, zl_m3, zl_32, zl_280] at c5 c9 c11 ⊢); omega), if_neg (by (try simp only [zlt, zle, zeq, zl_0, zl_1, zl_2, zl_3, zl_4, zl_5, zl_6, zl_7, zl_8, zl_9, zl_10, zl_11, zl_12, zl_13, zl_19, zl_20, zl_30, zl_64, zl_99, zl_100, zl_299, zl_300, zl_399, zl_999, zl_9999, zl_m1, zl_m2, zl_m3, zl_32, zl_280] at c5 c9 c11 ⊢); omega), if_neg (by (try simp only [zlt, zle, zeq, zl_0, zl_1, zl_2, zl_3, zl_4, zl_5, zl_6, zl_7, zl_8, zl_9, zl_10, zl_11, zl_12, zl_13, zl_19, zl_20, zl_30, zl_64, zl_99, zl_100, zl_299, zl_300, zl_399, zl_999, zl_9999, zl_m1, zl_m2, zl_m3, zl_32, zl_280] at c5 c9 c11 ⊢); omega), if_neg (by (try simp only [zlt, zle, zeq, zl_0, zl_1, zl_2, zl_3, zl_4, zl_5, zl_6, zl_7, zl_8, zl_9, zl_10, zl_11, zl_12, zl_13, zl_19, zl_20, zl_30, zl_64, zl_99, zl_100, zl_299, zl_300, zl_399, zl_999, zl_9999, zl_m1, zl_m2, zl_m3, zl_32, zl_280] at c5 c9 c11 ⊢); omega)]; first | done | ((try simp only [zlt, zle, zeq, zl_0, zl_1, zl_2, zl_3, zl_4, zl_5, zl_6, zl_7, zl_8, zl_9, zl_10, zl_11, zl_12, zl_13, zl_19, zl_20, zl_30, zl_64, zl_99, zl_100, zl_299, zl_300, zl_399, zl_999, zl_9999, zl_m1, zl_m2, zl_m3, zl_32, zl_280] at c5 c9 c11 ⊢); omega)))) dX11_about_142 (Nat.le_of_ble_eq_true rfl) (Nat.le_of_ble_eq_true rfl)
      · refine lv_tableIn (off := 74) (tgt := 143) hx hb dX11_about_69 (by decide) (by decide) rfl (by decide) ?_
        refine lv_aload_n hx hb dX11_about_143 rfl (lv_at hl 0 rfl) ?_
        refine z_get Z i_X11 hP 0 rfl rfl 2 (by decide) bw_470 rfl dX11_about_144 ?_
        refine z_get Z i_X10 hP 1 rfl rfl 0 (by decide) bw_232 rfl dX11_about_147 ?_
        refine z_get Z i_X3 hP 3 rfl rfl 3 (by decide) bw_142 rfl dX11_about_150 ?_
        exact z_ret Z rfl hP hD hS ((by first | rfl | assumption | (rw [if_pos (by (try simp only [zlt, zle, zeq, zl_0, zl_1, zl_2, zl_3, zl_4, zl_5, zl_6, zl_7, zl_8, zl_9, zl_10, zl_11, zl_12, zl_13, zl_19, zl_20, zl_30, zl_64, zl_99, zl_100, zl_299, zl_300, zl_399, zl_999, zl_9999, zl_m1, zl_m2, zl_m3, zl_32, zl_280] at c5 c9 c11 ⊢); omega)]; first | done | ((try simp only [zlt, zle, zeq, zl_0, zl_1, zl_2, zl_3, zl_4, zl_5, zl_6, zl_7, zl_8, zl_9, zl_10, zl_11, zl_12, zl_13, zl_19, zl_20, zl_30, zl_64, zl_99, zl_100, zl_299, zl_300, zl_399, zl_999, zl_9999, zl_m1, zl_m2, zl_m3, zl_32, zl_280] at c5 c9 c11 ⊢); omega)) | (rw [if_neg (by (try simp only [zlt, zle, zeq, zl_0, zl_1, zl_2, zl_3, zl_4, zl_5, zl_6, zl_7, zl_8, zl_9, zl_10, zl_11, zl_12, zl_13, zl_19, zl_20, zl_30, zl_64, zl_99, zl_100, zl_299, zl_300, zl_399, zl_999, zl_9999, zl_m1, zl_m2, zl_m3, zl_32, zl_280] at c5 c9 c11 ⊢); omega), if_pos (by (try simp only [zlt, zle, zeq, zl_0, zl_1, zl_2, zl_3, zl_4, zl_5, zl_6, zl_7, zl_8, zl_9, zl_10, zl_11, zl_12, zl_13, zl_19, zl_20, zl_30, zl_64, zl_99, zl_100, zl_299, zl_300, zl_399, zl_999, zl_9999, zl_m1, zl_m2, zl_m3, zl_32, zl_280] at c5 c9 c11 ⊢); omega)]; first | done | ((try simp only [zlt, zle, zeq, zl_0, zl_1, zl_2, zl_3, zl_4, zl_5, zl_6, zl_7, zl_8, zl_9, zl_10, zl_11, zl_12, zl_13, zl_19, zl_20, zl_30, zl_64, zl_99, zl_100, zl_299, zl_300, zl_399, zl_999, zl_9999, zl_m1, zl_m2, zl_m3, zl_32, zl_280] at c5 c9 c11 ⊢); omega)) | (rw [if_neg (by (try simp only [zlt, zle, zeq, zl_0, zl_1, zl_2, zl_3, zl_4, zl_5, zl_6, zl_7, zl_8, zl_9, zl_10, zl_11, zl_12, zl_13, zl_19, zl_20, zl_30, zl_64, zl_99, zl_100, zl_299, zl_300, zl_399, zl_999, zl_9999, zl_m1, zl_m2, zl_m3, zl_32, zl_280] at c5 c9 c11 ⊢); omega), if_neg (by (try simp only [zlt, zle, zeq, zl_0, zl_1, zl_2, zl_3, zl_4, zl_5, zl_6, zl_7, zl_8, zl_9, zl_10, zl_11, zl_12, zl_13, zl_19, zl_20, zl_30, zl_64, zl_99, zl_100, zl_299, zl_300, zl_399, zl_999, zl_9999, zl_m1, zl_m2, zl_m3, zl_32, zl_280] at c5 c9 c11 ⊢); omega), if_pos (by (try simp only [zlt, zle, zeq, zl_0, zl_1, zl_2, zl_3, zl_4, zl_5, zl_6, zl_7, zl_8, zl_9, zl_10, zl_11, zl_12, zl_13, zl_19, zl_20, zl_30, zl_64, zl_99, zl_100, zl_299, zl_300, zl_399, zl_999, zl_9999, zl_m1, zl_m2, zl_m3, zl_32, zl_280] at c5 c9 c11 ⊢); omega)]; first | done | ((try simp only [zlt, zle, zeq, zl_0, zl_1, zl_2, zl_3, zl_4, zl_5, zl_6, zl_7, zl_8, zl_9, zl_10, zl_11, zl_12, zl_13, zl_19, zl_20, zl_30, zl_64, zl_99, zl_100, zl_299, zl_300, zl_399, zl_999, zl_9999, zl_m1, zl_m2, zl_m3, zl_32, zl_280] at c5 c9 c11 ⊢); omega)) | (rw [if_neg (by (try simp only [zlt, zle, zeq, zl_0, zl_1, zl_2, zl_3, zl_4, zl_5, zl_6, zl_7, zl_8, zl_9, zl_10, zl_11, zl_12, zl_13, zl_19, zl_20, zl_30, zl_64, zl_99, zl_100, zl_299, zl_300, zl_399, zl_999, zl_9999, zl_m1, zl_m2, zl_m3, zl_32, zl_280] at c5 c9 c11 ⊢); omega), if_neg (by (try simp only [zlt, zle, zeq, zl_0, zl_1, zl_2, zl_3, zl_4, zl_5, zl_6, zl_7, zl_8, zl_9, zl_10, zl_11, zl_12, zl_13, zl_19, zl_20, zl_30, zl_64, zl_99, zl_100, zl_299, zl_300, zl_399, zl_999, zl_9999, zl_m1, zl_m2, zl_m3, zl_32, zl_280] at c5 c9 c11 ⊢); omega), if_neg (by (try simp only [zlt, zle, zeq, zl_0, zl_1, zl_2, zl_3, zl_4, zl_5, zl_6, zl_7, zl_8, zl_9, zl_10, zl_11, zl_12, zl_13, zl_19, zl_20, zl_30, zl_64, zl_99, zl_100, zl_299, zl_300, zl_399, zl_999, zl_9999, zl_m1, zl_m2, zl_m3, zl_32, zl_280] at c5 c9 c11 ⊢); omega), if_pos (by (try simp only [zlt, zle, zeq, zl_0, zl_1, zl_2, zl_3, zl_4, zl_5, zl_6, zl_7, zl_8, zl_9, zl_10, zl_11, zl_12, zl_13, zl_19, zl_20, zl_30, zl_64, zl_99, zl_100, zl_299, zl_300, zl_399, zl_999, zl_9999, zl_m1, zl_m2, zl_m3, zl_32, zl_280] at c5 c9 c11 ⊢); omega)]; first | done | ((try simp only [zlt, zle, zeq, zl_0, zl_1, zl_2, zl_3, zl_4, zl_5, zl_6, zl_7, zl_8, zl_9, zl_10, zl_11, zl_12, zl_13, zl_19, zl_20, zl_30, zl_64, zl_99, zl_100, zl_299, zl_300, zl_399, zl_999, zl_9999, zl_m1, zl_m2, zl_m3, zl_32, zl_280] at c5 c9 c11 ⊢); omega)) | (rw [if_neg (by (try simp only [zlt, zle, zeq, zl_0, zl_1, zl_2, zl_3, zl_4, zl_5, zl_6, zl_7, zl_8, zl_9, zl_10, zl_11, zl_12, zl_13, zl_19, zl_20, zl_30, zl_64, zl_99, zl_100, zl_299, zl_300, zl_399, zl_999, zl_9999, zl_m1, zl_m2, zl_m3, zl_32, zl_280] at c5 c9 c11 ⊢); omega), if_neg (by (try simp only [zlt, zle, zeq, zl_0, zl_1, zl_2, zl_3, zl_4, zl_5, zl_6, zl_7, zl_8, zl_9, zl_10, zl_11, zl_12, zl_13, zl_19, zl_20, zl_30, zl_64, zl_99, zl_100, zl_299, zl_300, zl_399, zl_999, zl_9999, zl_m1, zl_m2, zl_m3, zl_32, zl_280] at c5 c9 c11 ⊢); omega), if_neg (by (try simp only [zlt, zle, zeq, zl_0, zl_1, zl_2, zl_3, zl_4, zl_5, zl_6, zl_7, zl_8, zl_9, zl_10, zl_11, zl_12, zl_13, zl_19, zl_20, zl_30, zl_64, zl_99, zl_100, zl_299, zl_300, zl_399, zl_999, zl_9999, zl_m1, zl_m2, zl_m3, zl_32, zl_280] at c5 c9 c11 ⊢); omega), if_neg (by (try simp only [zlt, zle, zeq, zl_0, zl_1, zl_2, zl_3, zl_4, zl_5, zl_6, zl_7, zl_8, zl_9, zl_10, zl_11, zl_12, zl_13, zl_19, zl_20, zl_30, zl_64, zl_99, zl_100, zl_299, zl_300, zl_399, zl_999, zl_9999, zl_m1, zl_m2, zl_m3, zl_32, zl_280] at c5 c9 c11 ⊢); omega)]; first | done | ((try simp only [zlt, zle, zeq, zl_0, zl_1, zl_2, zl_3, zl_4, zl_5, zl_6, zl_7, zl_8, zl_9, zl_10, zl_11, zl_12, zl_13, zl_19, zl_20, zl_30, zl_64, zl_99, zl_100, zl_299, zl_300, zl_399, zl_999, zl_9999, zl_m1, zl_m2, zl_m3, zl_32, zl_280] at c5 c9 c11 ⊢); omega)))) dX11_about_153 (Nat.le_of_ble_eq_true rfl) (Nat.le_of_ble_eq_true rfl)
      · refine lv_tableIn (off := 85) (tgt := 154) hx hb dX11_about_69 (by decide) (by decide) rfl (by decide) ?_
        refine lv_aload_n hx hb dX11_about_154 rfl (lv_at hl 0 rfl) ?_
        refine z_get Z i_X11 hP 0 rfl rfl 2 (by decide) bw_470 rfl dX11_about_155 ?_
        refine z_get Z i_X10 hP 1 rfl rfl 2 (by decide) bw_240 rfl dX11_about_158 ?_
        refine z_get Z i_X1 hP 2 rfl rfl 1 (by decide) bw_184 rfl dX11_about_161 ?_
        exact z_ret Z rfl hP hD hS ((by first | rfl | assumption | (rw [if_pos (by (try simp only [zlt, zle, zeq, zl_0, zl_1, zl_2, zl_3, zl_4, zl_5, zl_6, zl_7, zl_8, zl_9, zl_10, zl_11, zl_12, zl_13, zl_19, zl_20, zl_30, zl_64, zl_99, zl_100, zl_299, zl_300, zl_399, zl_999, zl_9999, zl_m1, zl_m2, zl_m3, zl_32, zl_280] at c5 c9 c11 ⊢); omega)]; first | done | ((try simp only [zlt, zle, zeq, zl_0, zl_1, zl_2, zl_3, zl_4, zl_5, zl_6, zl_7, zl_8, zl_9, zl_10, zl_11, zl_12, zl_13, zl_19, zl_20, zl_30, zl_64, zl_99, zl_100, zl_299, zl_300, zl_399, zl_999, zl_9999, zl_m1, zl_m2, zl_m3, zl_32, zl_280] at c5 c9 c11 ⊢); omega)) | (rw [if_neg (by (try simp only [zlt, zle, zeq, zl_0, zl_1, zl_2, zl_3, zl_4, zl_5, zl_6, zl_7, zl_8, zl_9, zl_10, zl_11, zl_12, zl_13, zl_19, zl_20, zl_30, zl_64, zl_99, zl_100, zl_299, zl_300, zl_399, zl_999, zl_9999, zl_m1, zl_m2, zl_m3, zl_32, zl_280] at c5 c9 c11 ⊢); omega), if_pos (by (try simp only [zlt, zle, zeq, zl_0, zl_1, zl_2, zl_3, zl_4, zl_5, zl_6, zl_7, zl_8, zl_9, zl_10, zl_11, zl_12, zl_13, zl_19, zl_20, zl_30, zl_64, zl_99, zl_100, zl_299, zl_300, zl_399, zl_999, zl_9999, zl_m1, zl_m2, zl_m3, zl_32, zl_280] at c5 c9 c11 ⊢); omega)]; first | done | ((try simp only [zlt, zle, zeq, zl_0, zl_1, zl_2, zl_3, zl_4, zl_5, zl_6, zl_7, zl_8, zl_9, zl_10, zl_11, zl_12, zl_13, zl_19, zl_20, zl_30, zl_64, zl_99, zl_100, zl_299, zl_300, zl_399, zl_999, zl_9999, zl_m1, zl_m2, zl_m3, zl_32, zl_280] at c5 c9 c11 ⊢); omega)) | (rw [if_neg (by (try simp only [zlt, zle, zeq, zl_0, zl_1, zl_2, zl_3, zl_4, zl_5, zl_6, zl_7, zl_8, zl_9, zl_10, zl_11, zl_12, zl_13, zl_19, zl_20, zl_30, zl_64, zl_99, zl_100, zl_299, zl_300, zl_399, zl_999, zl_9999, zl_m1, zl_m2, zl_m3, zl_32, zl_280] at c5 c9 c11 ⊢); omega), if_neg (by (try simp only [zlt, zle, zeq, zl_0, zl_1, zl_2, zl_3, zl_4, zl_5, zl_6, zl_7, zl_8, zl_9, zl_10, zl_11, zl_12, zl_13, zl_19, zl_20, zl_30, zl_64, zl_99, zl_100, zl_299, zl_300, zl_399, zl_999, zl_9999, zl_m1, zl_m2, zl_m3, zl_32, zl_280] at c5 c9 c11 ⊢); omega), if_pos (by (try simp only [zlt, zle, zeq, zl_0, zl_1, zl_2, zl_3, zl_4, zl_5, zl_6, zl_7, zl_8, zl_9, zl_10, zl_11, zl_12, zl_13, zl_19, zl_20, zl_30, zl_64, zl_99, zl_100, zl_299, zl_300, zl_399, zl_999, zl_9999, zl_m1, zl_m2, zl_m3, zl_32, zl_280] at c5 c9 c11 ⊢); omega)]; first | done | ((try simp only [zlt, zle, zeq, zl_0, zl_1, zl_2, zl_3, zl_4, zl_5, zl_6, zl_7, zl_8, zl_9, zl_10, zl_11, zl_12, zl_13, zl_19, zl_20, zl_30, zl_64, zl_99, zl_100, zl_299, zl_300, zl_399, zl_999, zl_9999, zl_m1, zl_m2, zl_m3, zl_32, zl_280] at c5 c9 c11 ⊢); omega)) | (rw [if_neg (by (try simp only [zlt, zle, zeq, zl_0, zl_1, zl_2, zl_3, zl_4, zl_5, zl_6, zl_7, zl_8, zl_9, zl_10, zl_11, zl_12, zl_13, zl_19, zl_20, zl_30, zl_64, zl_99, zl_100, zl_299, zl_300, zl_399, zl_999, zl_9999, zl_m1, zl_m2, zl_m3, zl_32, zl_280] at c5 c9 c11 ⊢); omega), if_neg (by (try simp only [zlt, zle, zeq, zl_0, zl_1, zl_2, zl_3, zl_4, zl_5, zl_6, zl_7, zl_8, zl_9, zl_10, zl_11, zl_12, zl_13, zl_19, zl_20, zl_30, zl_64, zl_99, zl_100, zl_299, zl_300, zl_399, zl_999, zl_9999, zl_m1, zl_m2, zl_m3, zl_32, zl_280] at c5 c9 c11 ⊢); omega), if_neg (by (try simp only [zlt, zle, zeq, zl_0, zl_1, zl_2, zl_3, zl_4, zl_5, zl_6, zl_7, zl_8, zl_9, zl_10, zl_11, zl_12, zl_13, zl_19, zl_20, zl_30, zl_64, zl_99, zl_100, zl_299, zl_300, zl_399, zl_999, zl_9999, zl_m1, zl_m2, zl_m3, zl_32, zl_280] at c5 c9 c11 ⊢); omega), if_pos (by (try simp only [zlt, zle, zeq, zl_0, zl_1, zl_2, zl_3, zl_4, zl_5, zl_6, zl_7, zl_8, zl_9, zl_10, zl_11, zl_12, zl_13, zl_19, zl_20, zl_30, zl_64, zl_99, zl_100, zl_299, zl_300, zl_399, zl_999, zl_9999, zl_m1, zl_m2, zl_m3, zl_32, zl_280] at c5 c9 c11 ⊢); omega)]; first | done | ((try simp only [zlt, zle, zeq, zl_0, zl_1, zl_2, zl_3, zl_4, zl_5, zl_6, zl_7, zl_8, zl_9, zl_10, zl_11, zl_12, zl_13, zl_19, zl_20, zl_30, zl_64, zl_99, zl_100, zl_299, zl_300, zl_399, zl_999, zl_9999, zl_m1, zl_m2, zl_m3, zl_32, zl_280] at c5 c9 c11 ⊢); omega)) | (rw [if_neg (by (try simp only [zlt, zle, zeq, zl_0, zl_1, zl_2, zl_3, zl_4, zl_5, zl_6, zl_7, zl_8, zl_9, zl_10, zl_11, zl_12, zl_13, zl_19, zl_20, zl_30, zl_64, zl_99, zl_100, zl_299, zl_300, zl_399, zl_999, zl_9999, zl_m1, zl_m2, zl_m3, zl_32, zl_280] at c5 c9 c11 ⊢); omega), if_neg (by (try simp only [zlt, zle, zeq, zl_0, zl_1, zl_2, zl_3, zl_4, zl_5, zl_6, zl_7, zl_8, zl_9, zl_10, zl_11, zl_12, zl_13, zl_19, zl_20, zl_30, zl_64, zl_99, zl_100, zl_299, zl_300, zl_399, zl_999, zl_9999, zl_m1, zl_m2, zl_m3, zl_32, zl_280] at c5 c9 c11 ⊢); omega), if_neg (by (try simp only [zlt, zle, zeq, zl_0, zl_1, zl_2, zl_3, zl_4, zl_5, zl_6, zl_7, zl_8, zl_9, zl_10, zl_11, zl_12, zl_13, zl_19, zl_20, zl_30, zl_64, zl_99, zl_100, zl_299, zl_300, zl_399, zl_999, zl_9999, zl_m1, zl_m2, zl_m3, zl_32, zl_280] at c5 c9 c11 ⊢); omega), if_neg (by (try simp only [zlt, zle, zeq, zl_0, zl_1, zl_2, zl_3, zl_4, zl_5, zl_6, zl_7, zl_8, zl_9, zl_10, zl_11, zl_12, zl_13, zl_19, zl_20, zl_30, zl_64, zl_99, zl_100, zl_299, zl_300, zl_399, zl_999, zl_9999, zl_m1, zl_m2, zl_m3, zl_32, zl_280] at c5 c9 c11 ⊢); omega)]; first | done | ((try simp only [zlt, zle, zeq, zl_0, zl_1, zl_2, zl_3, zl_4, zl_5, zl_6, zl_7, zl_8, zl_9, zl_10, zl_11, zl_12, zl_13, zl_19, zl_20, zl_30, zl_64, zl_99, zl_100, zl_299, zl_300, zl_399, zl_999, zl_9999, zl_m1, zl_m2, zl_m3, zl_32, zl_280] at c5 c9 c11 ⊢); omega)))) dX11_about_164 (Nat.le_of_ble_eq_true rfl) (Nat.le_of_ble_eq_true rfl)
      · refine lv_tableIn (off := 96) (tgt := 165) hx hb dX11_about_69 (by decide) (by decide) rfl (by decide) ?_
        refine lv_aload_n hx hb dX11_about_165 rfl (lv_at hl 0 rfl) ?_
        refine z_get Z i_X11 hP 0 rfl rfl 2 (by decide) bw_470 rfl dX11_about_166 ?_
        refine z_get Z i_X10 hP 1 rfl rfl 2 (by decide) bw_240 rfl dX11_about_169 ?_
        refine z_get Z i_X1 hP 2 rfl rfl 5 (by decide) bw_193 rfl dX11_about_172 ?_
        exact z_ret Z rfl hP hD hS ((by first | rfl | assumption | (rw [if_pos (by (try simp only [zlt, zle, zeq, zl_0, zl_1, zl_2, zl_3, zl_4, zl_5, zl_6, zl_7, zl_8, zl_9, zl_10, zl_11, zl_12, zl_13, zl_19, zl_20, zl_30, zl_64, zl_99, zl_100, zl_299, zl_300, zl_399, zl_999, zl_9999, zl_m1, zl_m2, zl_m3, zl_32, zl_280] at c5 c9 c11 ⊢); omega)]; first | done | ((try simp only [zlt, zle, zeq, zl_0, zl_1, zl_2, zl_3, zl_4, zl_5, zl_6, zl_7, zl_8, zl_9, zl_10, zl_11, zl_12, zl_13, zl_19, zl_20, zl_30, zl_64, zl_99, zl_100, zl_299, zl_300, zl_399, zl_999, zl_9999, zl_m1, zl_m2, zl_m3, zl_32, zl_280] at c5 c9 c11 ⊢); omega)) | (rw [if_neg (by (try simp only [zlt, zle, zeq, zl_0, zl_1, zl_2, zl_3, zl_4, zl_5, zl_6, zl_7, zl_8, zl_9, zl_10, zl_11, zl_12, zl_13, zl_19, zl_20, zl_30, zl_64, zl_99, zl_100, zl_299, zl_300, zl_399, zl_999, zl_9999, zl_m1, zl_m2, zl_m3, zl_32, zl_280] at c5 c9 c11 ⊢); omega), if_pos (by (try simp only [zlt, zle, zeq, zl_0, zl_1, zl_2, zl_3, zl_4, zl_5, zl_6, zl_7, zl_8, zl_9, zl_10, zl_11, zl_12, zl_13, zl_19, zl_20, zl_30, zl_64, zl_99, zl_100, zl_299, zl_300, zl_399, zl_999, zl_9999, zl_m1, zl_m2, zl_m3, zl_32, zl_280] at c5 c9 c11 ⊢); omega)]; first | done | ((try simp only [zlt, zle, zeq, zl_0, zl_1, zl_2, zl_3, zl_4, zl_5, zl_6, zl_7, zl_8, zl_9, zl_10, zl_11, zl_12, zl_13, zl_19, zl_20, zl_30, zl_64, zl_99, zl_100, zl_299, zl_300, zl_399, zl_999, zl_9999, zl_m1, zl_m2, zl_m3, zl_32, zl_280] at c5 c9 c11 ⊢); omega)) | (rw [if_neg (by (try simp only [zlt, zle, zeq, zl_0, zl_1, zl_2, zl_3, zl_4, zl_5, zl_6, zl_7, zl_8, zl_9, zl_10, zl_11, zl_12, zl_13, zl_19, zl_20, zl_30, zl_64, zl_99, zl_100, zl_299, zl_300, zl_399, zl_999, zl_9999, zl_m1, zl_m2, zl_m3, zl_32, zl_280] at c5 c9 c11 ⊢); omega), if_neg (by (try simp only [zlt, zle, zeq, zl_0, zl_1, zl_2, zl_3, zl_4, zl_5, zl_6, zl_7, zl_8, zl_9, zl_10, zl_11, zl_12, zl_13, zl_19, zl_20, zl_30, zl_64, zl_99, zl_100, zl_299, zl_300, zl_399, zl_999, zl_9999, zl_m1, zl_m2, zl_m3, zl_32, zl_280] at c5 c9 c11 ⊢); omega), if_pos (by (try simp only [zlt, zle, zeq, zl_0, zl_1, zl_2, zl_3, zl_4, zl_5, zl_6, zl_7, zl_8, zl_9, zl_10, zl_11, zl_12, zl_13, zl_19, zl_20, zl_30, zl_64, zl_99, zl_100, zl_299, zl_300, zl_399, zl_999, zl_9999, zl_m1, zl_m2, zl_m3, zl_32, zl_280] at c5 c9 c11 ⊢); omega)]; first | done | ((try simp only [zlt, zle, zeq, zl_0, zl_1, zl_2, zl_3, zl_4, zl_5, zl_6, zl_7, zl_8, zl_9, zl_10, zl_11, zl_12, zl_13, zl_19, zl_20, zl_30, zl_64, zl_99, zl_100, zl_299, zl_300, zl_399, zl_999, zl_9999, zl_m1, zl_m2, zl_m3, zl_32, zl_280] at c5 c9 c11 ⊢); omega)) | (rw [if_neg (by (try simp only [zlt, zle, zeq, zl_0, zl_1, zl_2, zl_3, zl_4, zl_5, zl_6, zl_7, zl_8, zl_9, zl_10, zl_11, zl_12, zl_13, zl_19, zl_20, zl_30, zl_64, zl_99, zl_100, zl_299, zl_300, zl_399, zl_999, zl_9999, zl_m1, zl_m2, zl_m3, zl_32, zl_280] at c5 c9 c11 ⊢); omega), if_neg (by (try simp only [zlt, zle, zeq, zl_0, zl_1, zl_2, zl_3, zl_4, zl_5, zl_6, zl_7, zl_8, zl_9, zl_10, zl_11, zl_12, zl_13, zl_19, zl_20, zl_30, zl_64, zl_99, zl_100, zl_299, zl_300, zl_399, zl_999, zl_9999, zl_m1, zl_m2, zl_m3, zl_32, zl_280] at c5 c9 c11 ⊢); omega), if_neg (by (try simp only [zlt, zle, zeq, zl_0, zl_1, zl_2, zl_3, zl_4, zl_5, zl_6, zl_7, zl_8, zl_9, zl_10, zl_11, zl_12, zl_13, zl_19, zl_20, zl_30, zl_64, zl_99, zl_100, zl_299, zl_300, zl_399, zl_999, zl_9999, zl_m1, zl_m2, zl_m3, zl_32, zl_280] at c5 c9 c11 ⊢); omega), if_pos (by (try simp only [zlt, zle, zeq, zl_0, zl_1, zl_2, zl_3, zl_4, zl_5, zl_6, zl_7, zl_8, zl_9, zl_10, zl_11, zl_12, zl_13, zl_19, zl_20, zl_30, zl_64, zl_99, zl_100, zl_299, zl_300, zl_399, zl_999, zl_9999, zl_m1, zl_m2, zl_m3, zl_32, zl_280] at c5 c9 c11 ⊢); omega)]; first | done | ((try simp only [zlt, zle, zeq, zl_0, zl_1, zl_2, zl_3, zl_4, zl_5, zl_6, zl_7, zl_8, zl_9, zl_10, zl_11, zl_12, zl_13, zl_19, zl_20, zl_30, zl_64, zl_99, zl_100, zl_299, zl_300, zl_399, zl_999, zl_9999, zl_m1, zl_m2, zl_m3, zl_32, zl_280] at c5 c9 c11 ⊢); omega)) | (rw [if_neg (by (try simp only [zlt, zle, zeq, zl_0, zl_1, zl_2, zl_3, zl_4, zl_5, zl_6, zl_7, zl_8, zl_9, zl_10, zl_11, zl_12, zl_13, zl_19, zl_20, zl_30, zl_64, zl_99, zl_100, zl_299, zl_300, zl_399, zl_999, zl_9999, zl_m1, zl_m2, zl_m3, zl_32, zl_280] at c5 c9 c11 ⊢); omega), if_neg (by (try simp only [zlt, zle, zeq, zl_0, zl_1, zl_2, zl_3, zl_4, zl_5, zl_6, zl_7, zl_8, zl_9, zl_10, zl_11, zl_12, zl_13, zl_19, zl_20, zl_30, zl_64, zl_99, zl_100, zl_299, zl_300, zl_399, zl_999, zl_9999, zl_m1, zl_m2, zl_m3, zl_32, zl_280] at c5 c9 c11 ⊢); omega), if_neg (by (try simp only [zlt, zle, zeq, zl_0, zl_1, zl_2, zl_3, zl_4, zl_5, zl_6, zl_7, zl_8, zl_9, zl_10, zl_11, zl_12, zl_13, zl_19, zl_20, zl_30, zl_64, zl_99, zl_100, zl_299, zl_300, zl_399, zl_999, zl_9999, zl_m1, zl_m2, zl_m3, zl_32, zl_280] at c5 c9 c11 ⊢); omega), if_neg (by (try simp only [zlt, zle, zeq, zl_0, zl_1, zl_2, zl_3, zl_4, zl_5, zl_6, zl_7, zl_8, zl_9, zl_10, zl_11, zl_12, zl_13, zl_19, zl_20, zl_30, zl_64, zl_99, zl_100, zl_299, zl_300, zl_399, zl_999, zl_9999, zl_m1, zl_m2, zl_m3, zl_32, zl_280] at c5 c9 c11 ⊢); omega)]; first | done | ((try simp only [zlt, zle, zeq, zl_0, zl_1, zl_2, zl_3, zl_4, zl_5, zl_6, zl_7, zl_8, zl_9, zl_10, zl_11, zl_12, zl_13, zl_19, zl_20, zl_30, zl_64, zl_99, zl_100, zl_299, zl_300, zl_399, zl_999, zl_9999, zl_m1, zl_m2, zl_m3, zl_32, zl_280] at c5 c9 c11 ⊢); omega)))) dX11_about_175 (Nat.le_of_ble_eq_true rfl) (Nat.le_of_ble_eq_true rfl)
      · refine lv_tableIn (off := 107) (tgt := 176) hx hb dX11_about_69 (by decide) (by decide) rfl (by decide) ?_
        refine lv_aload_n hx hb dX11_about_176 rfl (lv_at hl 0 rfl) ?_
        refine z_get Z i_X11 hP 0 rfl rfl 2 (by decide) bw_470 rfl dX11_about_177 ?_
        refine z_get Z i_X10 hP 1 rfl rfl 8 (by decide) bw_253 rfl dX11_about_180 ?_
        exact z_ret Z rfl hP hD hS ((by first | rfl | assumption | (rw [if_pos (by (try simp only [zlt, zle, zeq, zl_0, zl_1, zl_2, zl_3, zl_4, zl_5, zl_6, zl_7, zl_8, zl_9, zl_10, zl_11, zl_12, zl_13, zl_19, zl_20, zl_30, zl_64, zl_99, zl_100, zl_299, zl_300, zl_399, zl_999, zl_9999, zl_m1, zl_m2, zl_m3, zl_32, zl_280] at c5 c9 c11 ⊢); omega)]; first | done | ((try simp only [zlt, zle, zeq, zl_0, zl_1, zl_2, zl_3, zl_4, zl_5, zl_6, zl_7, zl_8, zl_9, zl_10, zl_11, zl_12, zl_13, zl_19, zl_20, zl_30, zl_64, zl_99, zl_100, zl_299, zl_300, zl_399, zl_999, zl_9999, zl_m1, zl_m2, zl_m3, zl_32, zl_280] at c5 c9 c11 ⊢); omega)) | (rw [if_neg (by (try simp only [zlt, zle, zeq, zl_0, zl_1, zl_2, zl_3, zl_4, zl_5, zl_6, zl_7, zl_8, zl_9, zl_10, zl_11, zl_12, zl_13, zl_19, zl_20, zl_30, zl_64, zl_99, zl_100, zl_299, zl_300, zl_399, zl_999, zl_9999, zl_m1, zl_m2, zl_m3, zl_32, zl_280] at c5 c9 c11 ⊢); omega), if_pos (by (try simp only [zlt, zle, zeq, zl_0, zl_1, zl_2, zl_3, zl_4, zl_5, zl_6, zl_7, zl_8, zl_9, zl_10, zl_11, zl_12, zl_13, zl_19, zl_20, zl_30, zl_64, zl_99, zl_100, zl_299, zl_300, zl_399, zl_999, zl_9999, zl_m1, zl_m2, zl_m3, zl_32, zl_280] at c5 c9 c11 ⊢); omega)]; first | done | ((try simp only [zlt, zle, zeq, zl_0, zl_1, zl_2, zl_3, zl_4, zl_5, zl_6, zl_7, zl_8, zl_9, zl_10, zl_11, zl_12, zl_13, zl_19, zl_20, zl_30, zl_64, zl_99, zl_100, zl_299, zl_300, zl_399, zl_999, zl_9999, zl_m1, zl_m2, zl_m3, zl_32, zl_280] at c5 c9 c11 ⊢); omega)) | (rw [if_neg (by (try simp only [zlt, zle, zeq, zl_0, zl_1, zl_2, zl_3, zl_4, zl_5, zl_6, zl_7, zl_8, zl_9, zl_10, zl_11, zl_12, zl_13, zl_19, zl_20, zl_30, zl_64, zl_99, zl_100, zl_299, zl_300, zl_399, zl_999, zl_9999, zl_m1, zl_m2, zl_m3, zl_32, zl_280] at c5 c9 c11 ⊢); omega), if_neg (by (try simp only [zlt, zle, zeq, zl_0, zl_1, zl_2, zl_3, zl_4, zl_5, zl_6, zl_7, zl_8, zl_9, zl_10, zl_11, zl_12, zl_13, zl_19, zl_20, zl_30, zl_64, zl_99, zl_100, zl_299, zl_300, zl_399, zl_999, zl_9999, zl_m1, zl_m2, zl_m3, zl_32, zl_280] at c5 c9 c11 ⊢); omega), if_pos (by (try simp only [zlt, zle, zeq, zl_0, zl_1, zl_2, zl_3, zl_4, zl_5, zl_6, zl_7, zl_8, zl_9, zl_10, zl_11, zl_12, zl_13, zl_19, zl_20, zl_30, zl_64, zl_99, zl_100, zl_299, zl_300, zl_399, zl_999, zl_9999, zl_m1, zl_m2, zl_m3, zl_32, zl_280] at c5 c9 c11 ⊢); omega)]; first | done | ((try simp only [zlt, zle, zeq, zl_0, zl_1, zl_2, zl_3, zl_4, zl_5, zl_6, zl_7, zl_8, zl_9, zl_10, zl_11, zl_12, zl_13, zl_19, zl_20, zl_30, zl_64, zl_99, zl_100, zl_299, zl_300, zl_399, zl_999, zl_9999, zl_m1, zl_m2, zl_m3, zl_32, zl_280] at c5 c9 c11 ⊢); omega)) | (rw [if_neg (by (try simp only [zlt, zle, zeq, zl_0, zl_1, zl_2, zl_3, zl_4, zl_5, zl_6, zl_7, zl_8, zl_9, zl_10, zl_11, zl_12, zl_13, zl_19, zl_20, zl_30, zl_64, zl_99, zl_100, zl_299, zl_300, zl_399, zl_999, zl_9999, zl_m1, zl_m2, zl_m3, zl_32, zl_280] at c5 c9 c11 ⊢); omega), if_neg (by (try simp only [zlt, zle, zeq, zl_0, zl_1, zl_2, zl_3, zl_4, zl_5, zl_6, zl_7, zl_8, zl_9, zl_10, zl_11, zl_12, zl_13, zl_19, zl_20, zl_30, zl_64, zl_99, zl_100, zl_299, zl_300, zl_399, zl_999, zl_9999, zl_m1, zl_m2, zl_m3, zl_32, zl_280] at c5 c9 c11 ⊢); omega), if_neg (by (try simp only [zlt, zle, zeq, zl_0, zl_1, zl_2, zl_3, zl_4, zl_5, zl_6, zl_7, zl_8, zl_9, zl_10, zl_11, zl_12, zl_13, zl_19, zl_20, zl_30, zl_64, zl_99, zl_100, zl_299, zl_300, zl_399, zl_999, zl_9999, zl_m1, zl_m2, zl_m3, zl_32, zl_280] at c5 c9 c11 ⊢); omega), if_pos (by (try simp only [zlt, zle, zeq, zl_0, zl_1, zl_2, zl_3, zl_4, zl_5, zl_6, zl_7, zl_8, zl_9, zl_10, zl_11, zl_12, zl_13, zl_19, zl_20, zl_30, zl_64, zl_99, zl_100, zl_299, zl_300, zl_399, zl_999, zl_9999, zl_m1, zl_m2, zl_m3, zl_32, zl_280] at c5 c9 c11 ⊢); omega)]; first | done | ((try simp only [zlt, zle, zeq, zl_0, zl_1, zl_2, zl_3, zl_4, zl_5, zl_6, zl_7, zl_8, zl_9, zl_10, zl_11, zl_12, zl_13, zl_19, zl_20, zl_30, zl_64, zl_99, zl_100, zl_299, zl_300, zl_399, zl_999, zl_9999, zl_m1, zl_m2, zl_m3, zl_32, zl_280] at c5 c9 c11 ⊢); omega)) | (rw [if_neg (by (try simp only [zlt, zle, zeq, zl_0, zl_1, zl_2, zl_3, zl_4, zl_5, zl_6, zl_7, zl_8, zl_9, zl_10, zl_11, zl_12, zl_13, zl_19, zl_20, zl_30, zl_64, zl_99, zl_100, zl_299, zl_300, zl_399, zl_999, zl_9999, zl_m1, zl_m2, zl_m3, zl_32, zl_280] at c5 c9 c11 ⊢); omega), if_neg (by (try simp only [zlt, zle, zeq, zl_0, zl_1, zl_2, zl_3, zl_4, zl_5, zl_6, zl_7, zl_8, zl_9, zl_10, zl_11, zl_12, zl_13, zl_19, zl_20, zl_30, zl_64, zl_99, zl_100, zl_299, zl_300, zl_399, zl_999, zl_9999, zl_m1, zl_m2, zl_m3, zl_32, zl_280] at c5 c9 c11 ⊢); omega), if_neg (by (try simp only [zlt, zle, zeq, zl_0, zl_1, zl_2, zl_3, zl_4, zl_5, zl_6, zl_7, zl_8, zl_9, zl_10, zl_11, zl_12, zl_13, zl_19, zl_20, zl_30, zl_64, zl_99, zl_100, zl_299, zl_300, zl_399, zl_999, zl_9999, zl_m1, zl_m2, zl_m3, zl_32, zl_280] at c5 c9 c11 ⊢); omega), if_neg (by (try simp only [zlt, zle, zeq, zl_0, zl_1, zl_2, zl_3, zl_4, zl_5, zl_6, zl_7, zl_8, zl_9, zl_10, zl_11, zl_12, zl_13, zl_19, zl_20, zl_30, zl_64, zl_99, zl_100, zl_299, zl_300, zl_399, zl_999, zl_9999, zl_m1, zl_m2, zl_m3, zl_32, zl_280] at c5 c9 c11 ⊢); omega)]; first | done | ((try simp only [zlt, zle, zeq, zl_0, zl_1, zl_2, zl_3, zl_4, zl_5, zl_6, zl_7, zl_8, zl_9, zl_10, zl_11, zl_12, zl_13, zl_19, zl_20, zl_30, zl_64, zl_99, zl_100, zl_299, zl_300, zl_399, zl_999, zl_9999, zl_m1, zl_m2, zl_m3, zl_32, zl_280] at c5 c9 c11 ⊢); omega)))) dX11_about_183 (Nat.le_of_ble_eq_true rfl) (Nat.le_of_ble_eq_true rfl)
      · refine lv_tableIn (off := 115) (tgt := 184) hx hb dX11_about_69 (by decide) (by decide) rfl (by decide) ?_
        refine lv_aload_n hx hb dX11_about_184 rfl (lv_at hl 0 rfl) ?_
        refine z_get Z i_X11 hP 0 rfl rfl 2 (by decide) bw_470 rfl dX11_about_185 ?_
        refine z_get Z i_X10 hP 1 rfl rfl 2 (by decide) bw_240 rfl dX11_about_188 ?_
        refine z_get Z i_X1 hP 2 rfl rfl 6 (by decide) bw_195 rfl dX11_about_191 ?_
        exact z_ret Z rfl hP hD hS ((by first | rfl | assumption | (rw [if_pos (by (try simp only [zlt, zle, zeq, zl_0, zl_1, zl_2, zl_3, zl_4, zl_5, zl_6, zl_7, zl_8, zl_9, zl_10, zl_11, zl_12, zl_13, zl_19, zl_20, zl_30, zl_64, zl_99, zl_100, zl_299, zl_300, zl_399, zl_999, zl_9999, zl_m1, zl_m2, zl_m3, zl_32, zl_280] at c5 c9 c11 ⊢); omega)]; first | done | ((try simp only [zlt, zle, zeq, zl_0, zl_1, zl_2, zl_3, zl_4, zl_5, zl_6, zl_7, zl_8, zl_9, zl_10, zl_11, zl_12, zl_13, zl_19, zl_20, zl_30, zl_64, zl_99, zl_100, zl_299, zl_300, zl_399, zl_999, zl_9999, zl_m1, zl_m2, zl_m3, zl_32, zl_280] at c5 c9 c11 ⊢); omega)) | (rw [if_neg (by (try simp only [zlt, zle, zeq, zl_0, zl_1, zl_2, zl_3, zl_4, zl_5, zl_6, zl_7, zl_8, zl_9, zl_10, zl_11, zl_12, zl_13, zl_19, zl_20, zl_30, zl_64, zl_99, zl_100, zl_299, zl_300, zl_399, zl_999, zl_9999, zl_m1, zl_m2, zl_m3, zl_32, zl_280] at c5 c9 c11 ⊢); omega), if_pos (by (try simp only [zlt, zle, zeq, zl_0, zl_1, zl_2, zl_3, zl_4, zl_5, zl_6, zl_7, zl_8, zl_9, zl_10, zl_11, zl_12, zl_13, zl_19, zl_20, zl_30, zl_64, zl_99, zl_100, zl_299, zl_300, zl_399, zl_999, zl_9999, zl_m1, zl_m2, zl_m3, zl_32, zl_280] at c5 c9 c11 ⊢); omega)]; first | done | ((try simp only [zlt, zle, zeq, zl_0, zl_1, zl_2, zl_3, zl_4, zl_5, zl_6, zl_7, zl_8, zl_9, zl_10, zl_11, zl_12, zl_13, zl_19, zl_20, zl_30, zl_64, zl_99, zl_100, zl_299, zl_300, zl_399, zl_999, zl_9999, zl_m1, zl_m2, zl_m3, zl_32, zl_280] at c5 c9 c11 ⊢); omega)) | (rw [if_neg (by (try simp only [zlt, zle, zeq, zl_0, zl_1, zl_2, zl_3, zl_4, zl_5, zl_6, zl_7, zl_8, zl_9, zl_10, zl_11, zl_12, zl_13, zl_19, zl_20, zl_30, zl_64, zl_99, zl_100, zl_299, zl_300, zl_399, zl_999, zl_9999, zl_m1, zl_m2, zl_m3, zl_32, zl_280] at c5 c9 c11 ⊢); omega), if_neg (by (try simp only [zlt, zle, zeq, zl_0, zl_1, zl_2, zl_3, zl_4, zl_5, zl_6, zl_7, zl_8, zl_9, zl_10, zl_11, zl_12, zl_13, zl_19, zl_20, zl_30, zl_64, zl_99, zl_100, zl_299, zl_300, zl_399, zl_999, zl_9999, zl_m1, zl_m2, zl_m3, zl_32, zl_280] at c5 c9 c11 ⊢); omega), if_pos (by (try simp only [zlt, zle, zeq, zl_0, zl_1, zl_2, zl_3, zl_4, zl_5, zl_6, zl_7, zl_8, zl_9, zl_10, zl_11, zl_12, zl_13, zl_19, zl_20, zl_30, zl_64, zl_99, zl_100, zl_299, zl_300, zl_399, zl_999, zl_9999, zl_m1, zl_m2, zl_m3, zl_32, zl_280] at c5 c9 c11 ⊢); omega)]; first | done | ((try simp only [zlt, zle, zeq, zl_0, zl_1, zl_2, zl_3, zl_4, zl_5, zl_6, zl_7, zl_8, zl_9, zl_10, zl_11, zl_12, zl_13, zl_19, zl_20, zl_30, zl_64, zl_99, zl_100, zl_299, zl_300, zl_399, zl_999, zl_9999, zl_m1, zl_m2, zl_m3, zl_32, zl_280] at c5 c9 c11 ⊢); omega)) | (rw [if_neg (by (try simp only [zlt, zle, zeq, zl_0, zl_1, zl_2, zl_3, zl_4, zl_5, zl_6, zl_7, zl_8, zl_9, zl_10, zl_11, zl_12, zl_13, zl_19, zl_20, zl_30, zl_64, zl_99, zl_100, zl_299, zl_300, zl_399, zl_999, zl_9999, zl_m1, zl_m2, zl_m3, zl_32, zl_280] at c5 c9 c11 ⊢); omega), if_neg (by (try simp only [zlt, zle, zeq, zl_0, zl_1, zl_2, zl_3, zl_4, zl_5, zl_6, zl_7, zl_8, zl_9, zl_10, zl_11, zl_12, zl_13, zl_19, zl_20, zl_30, zl_64, zl_99, zl_100, zl_299, zl_300, zl_399, zl_999, zl_9999, zl_m1, zl_m2, zl_m3, zl_32, zl_280] at c5 c9 c11 ⊢); omega), if_neg (by (try simp only [zlt, zle, zeq, zl_0, zl_1, zl_2, zl_3, zl_4, zl_5, zl_6, zl_7, zl_8, zl_9, zl_10, zl_11, zl_12, zl_13, zl_19, zl_20, zl_30, zl_64, zl_99, zl_100, zl_299, zl_300, zl_399, zl_999, zl_9999, zl_m1, zl_m2, zl_m3, zl_32, zl_280] at c5 c9 c11 ⊢); omega), if_pos (by (try simp only [zlt, zle, zeq, zl_0, zl_1, zl_2, zl_3, zl_4, zl_5, zl_6, zl_7, zl_8, zl_9, zl_10, zl_11, zl_12, zl_13, zl_19, zl_20, zl_30, zl_64, zl_99, zl_100, zl_299, zl_300, zl_399, zl_999, zl_9999, zl_m1, zl_m2, zl_m3, zl_32, zl_280] at c5 c9 c11 ⊢); omega)]; first | done | ((try simp only [zlt, zle, zeq, zl_0, zl_1, zl_2, zl_3, zl_4, zl_5, zl_6, zl_7, zl_8, zl_9, zl_10, zl_11, zl_12, zl_13, zl_19, zl_20, zl_30, zl_64, zl_99, zl_100, zl_299, zl_300, zl_399, zl_999, zl_9999, zl_m1, zl_m2, zl_m3, zl_32, zl_280] at c5 c9 c11 ⊢); omega)) | (rw [if_neg (by (try simp only [zlt, zle, zeq, zl_0, zl_1, zl_2, zl_3, zl_4, zl_5, zl_6, zl_7, zl_8, zl_9, zl_10, zl_11, zl_12, zl_13, zl_19, zl_20, zl_30, zl_64, zl_99, zl_100, zl_299, zl_300, zl_399, zl_999, zl_9999, zl_m1, zl_m2, zl_m3, zl_32, zl_280] at c5 c9 c11 ⊢); omega), if_neg (by (try simp only [zlt, zle, zeq, zl_0, zl_1, zl_2, zl_3, zl_4, zl_5, zl_6, zl_7, zl_8, zl_9, zl_10, zl_11, zl_12, zl_13, zl_19, zl_20, zl_30, zl_64, zl_99, zl_100, zl_299, zl_300, zl_399, zl_999, zl_9999, zl_m1, zl_m2, zl_m3, zl_32, zl_280] at c5 c9 c11 ⊢); omega), if_neg (by (try simp only [zlt, zle, zeq, zl_0, zl_1, zl_2, zl_3, zl_4, zl_5, zl_6, zl_7, zl_8, zl_9, zl_10, zl_11, zl_12, zl_13, zl_19, zl_20, zl_30, zl_64, zl_99, zl_100, zl_299, zl_300, zl_399, zl_999, zl_9999, zl_m1, zl_m2, zl_m3, zl_32, zl_280] at c5 c9 c11 ⊢); omega), if_neg (by (try simp only [zlt, zle, zeq, zl_0, zl_1, zl_2, zl_3, zl_4, zl_5, zl_6, zl_7, zl_8, zl_9, zl_10, zl_11, zl_12, zl_13, zl_19, zl_20, zl_30, zl_64, zl_99, zl_100, zl_299, zl_300, zl_399, zl_999, zl_9999, zl_m1, zl_m2, zl_m3, zl_32, zl_280] at c5 c9 c11 ⊢); omega)]; first | done | ((try simp only [zlt, zle, zeq, zl_0, zl_1, zl_2, zl_3, zl_4, zl_5, zl_6, zl_7, zl_8, zl_9, zl_10, zl_11, zl_12, zl_13, zl_19, zl_20, zl_30, zl_64, zl_99, zl_100, zl_299, zl_300, zl_399, zl_999, zl_9999, zl_m1, zl_m2, zl_m3, zl_32, zl_280] at c5 c9 c11 ⊢); omega)))) dX11_about_194 (Nat.le_of_ble_eq_true rfl) (Nat.le_of_ble_eq_true rfl)
      · refine lv_tableIn (off := 126) (tgt := 195) hx hb dX11_about_69 (by decide) (by decide) rfl (by decide) ?_
        refine lv_aload_n hx hb dX11_about_195 rfl (lv_at hl 0 rfl) ?_
        refine z_get Z i_X11 hP 0 rfl rfl 2 (by decide) bw_470 rfl dX11_about_196 ?_
        refine z_get Z i_X10 hP 1 rfl rfl 9 (by decide) bw_255 rfl dX11_about_199 ?_
        exact z_ret Z rfl hP hD hS ((by first | rfl | assumption | (rw [if_pos (by (try simp only [zlt, zle, zeq, zl_0, zl_1, zl_2, zl_3, zl_4, zl_5, zl_6, zl_7, zl_8, zl_9, zl_10, zl_11, zl_12, zl_13, zl_19, zl_20, zl_30, zl_64, zl_99, zl_100, zl_299, zl_300, zl_399, zl_999, zl_9999, zl_m1, zl_m2, zl_m3, zl_32, zl_280] at c5 c9 c11 ⊢); omega)]; first | done | ((try simp only [zlt, zle, zeq, zl_0, zl_1, zl_2, zl_3, zl_4, zl_5, zl_6, zl_7, zl_8, zl_9, zl_10, zl_11, zl_12, zl_13, zl_19, zl_20, zl_30, zl_64, zl_99, zl_100, zl_299, zl_300, zl_399, zl_999, zl_9999, zl_m1, zl_m2, zl_m3, zl_32, zl_280] at c5 c9 c11 ⊢); omega)) | (rw [if_neg (by (try simp only [zlt, zle, zeq, zl_0, zl_1, zl_2, zl_3, zl_4, zl_5, zl_6, zl_7, zl_8, zl_9, zl_10, zl_11, zl_12, zl_13, zl_19, zl_20, zl_30, zl_64, zl_99, zl_100, zl_299, zl_300, zl_399, zl_999, zl_9999, zl_m1, zl_m2, zl_m3, zl_32, zl_280] at c5 c9 c11 ⊢); omega), if_pos (by (try simp only [zlt, zle, zeq, zl_0, zl_1, zl_2, zl_3, zl_4, zl_5, zl_6, zl_7, zl_8, zl_9, zl_10, zl_11, zl_12, zl_13, zl_19, zl_20, zl_30, zl_64, zl_99, zl_100, zl_299, zl_300, zl_399, zl_999, zl_9999, zl_m1, zl_m2, zl_m3, zl_32, zl_280] at c5 c9 c11 ⊢); omega)]; first | done | ((try simp only [zlt, zle, zeq, zl_0, zl_1, zl_2, zl_3, zl_4, zl_5, zl_6, zl_7, zl_8, zl_9, zl_10, zl_11, zl_12, zl_13, zl_19, zl_20, zl_30, zl_64, zl_99, zl_100, zl_299, zl_300, zl_399, zl_999, zl_9999, zl_m1, zl_m2, zl_m3, zl_32, zl_280] at c5 c9 c11 ⊢); omega)) | (rw [if_neg (by (try simp only [zlt, zle, zeq, zl_0, zl_1, zl_2, zl_3, zl_4, zl_5, zl_6, zl_7, zl_8, zl_9, zl_10, zl_11, zl_12, zl_13, zl_19, zl_20, zl_30, zl_64, zl_99, zl_100, zl_299, zl_300, zl_399, zl_999, zl_9999, zl_m1, zl_m2, zl_m3, zl_32, zl_280] at c5 c9 c11 ⊢); omega), if_neg (by (try simp only [zlt, zle, zeq, zl_0, zl_1, zl_2, zl_3, zl_4, zl_5, zl_6, zl_7, zl_8, zl_9, zl_10, zl_11, zl_12, zl_13, zl_19, zl_20, zl_30, zl_64, zl_99, zl_100, zl_299, zl_300, zl_399, zl_999, zl_9999, zl_m1, zl_m2, zl_m3, zl_32, zl_280] at c5 c9 c11 ⊢); omega), if_pos (by (try simp only [zlt, zle, zeq, zl_0, zl_1, zl_2, zl_3, zl_4, zl_5, zl_6, zl_7, zl_8, zl_9, zl_10, zl_11, zl_12, zl_13, zl_19, zl_20, zl_30, zl_64, zl_99, zl_100, zl_299, zl_300, zl_399, zl_999, zl_9999, zl_m1, zl_m2, zl_m3, zl_32, zl_280] at c5 c9 c11 ⊢); omega)]; first | done | ((try simp only [zlt, zle, zeq, zl_0, zl_1, zl_2, zl_3, zl_4, zl_5, zl_6, zl_7, zl_8, zl_9, zl_10, zl_11, zl_12, zl_13, zl_19, zl_20, zl_30, zl_64, zl_99, zl_100, zl_299, zl_300, zl_399, zl_999, zl_9999, zl_m1, zl_m2, zl_m3, zl_32, zl_280] at c5 c9 c11 ⊢); omega)) | (rw [if_neg (by (try simp only [zlt, zle, zeq, zl_0, zl_1, zl_2, zl_3, zl_4, zl_5, zl_6, zl_7, zl_8, zl_9, zl_10, zl_11, zl_12, zl_13, zl_19, zl_20, zl_30, zl_64, zl_99, zl_100, zl_299, zl_300, zl_399, zl_999, zl_9999, zl_m1, zl_m2, zl_m3, zl_32, zl_280] at c5 c9 c11 ⊢); omega), if_neg (by (try simp only [zlt, zle, zeq, zl_0, zl_1, zl_2, zl_3, zl_4, zl_5, zl_6, zl_7, zl_8, zl_9, zl_10, zl_11, zl_12, zl_13, zl_19, zl_20, zl_30, zl_64, zl_99, zl_100, zl_299, zl_300, zl_399, zl_999, zl_9999, zl_m1, zl_m2, zl_m3, zl_32, zl_280] at c5 c9 c11 ⊢); omega), if_neg (by (try simp only [zlt, zle, zeq, zl_0, zl_1, zl_2, zl_3, zl_4, zl_5, zl_6, zl_7, zl_8, zl_9, zl_10, zl_11, zl_12, zl_13, zl_19, zl_20, zl_30, zl_64, zl_99, zl_100, zl_299, zl_300, zl_399, zl_999, zl_9999, zl_m1, zl_m2, zl_m3, zl_32, zl_280] at c5 c9 c11 ⊢); omega), if_pos (by (try simp only [zlt, zle, zeq, zl_0, zl_1, zl_2, zl_3, zl_4, zl_5, zl_6, zl_7, zl_8, zl_9, zl_10, zl_11, zl_12, zl_13, zl_19, zl_20, zl_30, zl_64, zl_99, zl_100, zl_299, zl_300, zl_399, zl_999, zl_9999, zl_m1, zl_m2, zl_m3, zl_32, zl_280] at c5 c9 c11 ⊢); omega)]; first | done | ((try simp only [zlt, zle, zeq, zl_0, zl_1, zl_2, zl_3, zl_4, zl_5, zl_6, zl_7, zl_8, zl_9, zl_10, zl_11, zl_12, zl_13, zl_19, zl_20, zl_30, zl_64, zl_99, zl_100, zl_299, zl_300, zl_399, zl_999, zl_9999, zl_m1, zl_m2, zl_m3, zl_32, zl_280] at c5 c9 c11 ⊢); omega)) | (rw [if_neg (by (try simp only [zlt, zle, zeq, zl_0, zl_1, zl_2, zl_3, zl_4, zl_5, zl_6, zl_7, zl_8, zl_9, zl_10, zl_11, zl_12, zl_13, zl_19, zl_20, zl_30, zl_64, zl_99, zl_100, zl_299, zl_300, zl_399, zl_999, zl_9999, zl_m1, zl_m2, zl_m3, zl_32, zl_280] at c5 c9 c11 ⊢); omega), if_neg (by (try simp only [zlt, zle, zeq, zl_0, zl_1, zl_2, zl_3, zl_4, zl_5, zl_6, zl_7, zl_8, zl_9, zl_10, zl_11, zl_12, zl_13, zl_19, zl_20, zl_30, zl_64, zl_99, zl_100, zl_299, zl_300, zl_399, zl_999, zl_9999, zl_m1, zl_m2, zl_m3, zl_32, zl_280] at c5 c9 c11 ⊢); omega), if_neg (by (try simp only [zlt, zle, zeq, zl_0, zl_1, zl_2, zl_3, zl_4, zl_5, zl_6, zl_7, zl_8, zl_9, zl_10, zl_11, zl_12, zl_13, zl_19, zl_20, zl_30, zl_64, zl_99, zl_100, zl_299, zl_300, zl_399, zl_999, zl_9999, zl_m1, zl_m2, zl_m3, zl_32, zl_280] at c5 c9 c11 ⊢); omega), if_neg (by (try simp only [zlt, zle, zeq, zl_0, zl_1, zl_2, zl_3, zl_4, zl_5, zl_6, zl_7, zl_8, zl_9, zl_10, zl_11, zl_12, zl_13, zl_19, zl_20, zl_30, zl_64, zl_99, zl_100, zl_299, zl_300, zl_399, zl_999, zl_9999, zl_m1, zl_m2, zl_m3, zl_32, zl_280] at c5 c9 c11 ⊢); omega)]; first | done | ((try simp only [zlt, zle, zeq, zl_0, zl_1, zl_2, zl_3, zl_4, zl_5, zl_6, zl_7, zl_8, zl_9, zl_10, zl_11, zl_12, zl_13, zl_19, zl_20, zl_30, zl_64, zl_99, zl_100, zl_299, zl_300, zl_399, zl_999, zl_9999, zl_m1, zl_m2, zl_m3, zl_32, zl_280] at c5 c9 c11 ⊢); omega)))) dX11_about_202 (Nat.le_of_ble_eq_true rfl) (Nat.le_of_ble_eq_true rfl)
      · refine lv_tableIn (off := 134) (tgt := 203) hx hb dX11_about_69 (by decide) (by decide) rfl (by decide) ?_
        refine lv_aload_n hx hb dX11_about_203 rfl (lv_at hl 0 rfl) ?_
        refine z_get Z i_X11 hP 0 rfl rfl 2 (by decide) bw_470 rfl dX11_about_204 ?_
        refine z_get Z i_X10 hP 1 rfl rfl 10 (by decide) bw_258 rfl dX11_about_207 ?_
        exact z_ret Z rfl hP hD hS ((by first | rfl | assumption | (rw [if_pos (by (try simp only [zlt, zle, zeq, zl_0, zl_1, zl_2, zl_3, zl_4, zl_5, zl_6, zl_7, zl_8, zl_9, zl_10, zl_11, zl_12, zl_13, zl_19, zl_20, zl_30, zl_64, zl_99, zl_100, zl_299, zl_300, zl_399, zl_999, zl_9999, zl_m1, zl_m2, zl_m3, zl_32, zl_280] at c5 c9 c11 ⊢); omega)]; first | done | ((try simp only [zlt, zle, zeq, zl_0, zl_1, zl_2, zl_3, zl_4, zl_5, zl_6, zl_7, zl_8, zl_9, zl_10, zl_11, zl_12, zl_13, zl_19, zl_20, zl_30, zl_64, zl_99, zl_100, zl_299, zl_300, zl_399, zl_999, zl_9999, zl_m1, zl_m2, zl_m3, zl_32, zl_280] at c5 c9 c11 ⊢); omega)) | (rw [if_neg (by (try simp only [zlt, zle, zeq, zl_0, zl_1, zl_2, zl_3, zl_4, zl_5, zl_6, zl_7, zl_8, zl_9, zl_10, zl_11, zl_12, zl_13, zl_19, zl_20, zl_30, zl_64, zl_99, zl_100, zl_299, zl_300, zl_399, zl_999, zl_9999, zl_m1, zl_m2, zl_m3, zl_32, zl_280] at c5 c9 c11 ⊢); omega), if_pos (by (try simp only [zlt, zle, zeq, zl_0, zl_1, zl_2, zl_3, zl_4, zl_5, zl_6, zl_7, zl_8, zl_9, zl_10, zl_11, zl_12, zl_13, zl_19, zl_20, zl_30, zl_64, zl_99, zl_100, zl_299, zl_300, zl_399, zl_999, zl_9999, zl_m1, zl_m2, zl_m3, zl_32, zl_280] at c5 c9 c11 ⊢); omega)]; first | done | ((try simp only [zlt, zle, zeq, zl_0, zl_1, zl_2, zl_3, zl_4, zl_5, zl_6, zl_7, zl_8, zl_9, zl_10, zl_11, zl_12, zl_13, zl_19, zl_20, zl_30, zl_64, zl_99, zl_100, zl_299, zl_300, zl_399, zl_999, zl_9999, zl_m1, zl_m2, zl_m3, zl_32, zl_280] at c5 c9 c11 ⊢); omega)) | (rw [if_neg (by (try simp only [zlt, zle, zeq, zl_0, zl_1, zl_2, zl_3, zl_4, zl_5, zl_6, zl_7, zl_8, zl_9, zl_10, zl_11, zl_12, zl_13, zl_19, zl_20, zl_30, zl_64, zl_99, zl_100, zl_299, zl_300, zl_399, zl_999, zl_9999, zl_m1, zl_m2, zl_m3, zl_32, zl_280] at c5 c9 c11 ⊢); omega), if_neg (by (try simp only [zlt, zle, zeq, zl_0, zl_1, zl_2, zl_3, zl_4, zl_5, zl_6, zl_7, zl_8, zl_9, zl_10, zl_11, zl_12, zl_13, zl_19, zl_20, zl_30, zl_64, zl_99, zl_100, zl_299, zl_300, zl_399, zl_999, zl_9999, zl_m1, zl_m2, zl_m3, zl_32, zl_280] at c5 c9 c11 ⊢); omega), if_pos (by (try simp only [zlt, zle, zeq, zl_0, zl_1, zl_2, zl_3, zl_4, zl_5, zl_6, zl_7, zl_8, zl_9, zl_10, zl_11, zl_12, zl_13, zl_19, zl_20, zl_30, zl_64, zl_99, zl_100, zl_299, zl_300, zl_399, zl_999, zl_9999, zl_m1, zl_m2, zl_m3, zl_32, zl_280] at c5 c9 c11 ⊢); omega)]; first | done | ((try simp only [zlt, zle, zeq, zl_0, zl_1, zl_2, zl_3, zl_4, zl_5, zl_6, zl_7, zl_8, zl_9, zl_10, zl_11, zl_12, zl_13, zl_19, zl_20, zl_30, zl_64, zl_99, zl_100, zl_299, zl_300, zl_399, zl_999, zl_9999, zl_m1, zl_m2, zl_m3, zl_32, zl_280] at c5 c9 c11 ⊢); omega)) | (rw [if_neg (by (try simp only [zlt, zle, zeq, zl_0, zl_1, zl_2, zl_3, zl_4, zl_5, zl_6, zl_7, zl_8, zl_9, zl_10, zl_11, zl_12, zl_13, zl_19, zl_20, zl_30, zl_64, zl_99, zl_100, zl_299, zl_300, zl_399, zl_999, zl_9999, zl_m1, zl_m2, zl_m3, zl_32, zl_280] at c5 c9 c11 ⊢); omega), if_neg (by (try simp only [zlt, zle, zeq, zl_0, zl_1, zl_2, zl_3, zl_4, zl_5, zl_6, zl_7, zl_8, zl_9, zl_10, zl_11, zl_12, zl_13, zl_19, zl_20, zl_30, zl_64, zl_99, zl_100, zl_299, zl_300, zl_399, zl_999, zl_9999, zl_m1, zl_m2, zl_m3, zl_32, zl_280] at c5 c9 c11 ⊢); omega), if_neg (by (try simp only [zlt, zle, zeq, zl_0, zl_1, zl_2, zl_3, zl_4, zl_5, zl_6, zl_7, zl_8, zl_9, zl_10, zl_11, zl_12, zl_13, zl_19, zl_20, zl_30, zl_64, zl_99, zl_100, zl_299, zl_300, zl_399, zl_999, zl_9999, zl_m1, zl_m2, zl_m3, zl_32, zl_280] at c5 c9 c11 ⊢); omega), if_pos (by (try simp only [zlt, zle, zeq, zl_0, zl_1, zl_2, zl_3, zl_4, zl_5, zl_6, zl_7, zl_8, zl_9, zl_10, zl_11, zl_12, zl_13, zl_19, zl_20, zl_30, zl_64, zl_99, zl_100, zl_299, zl_300, zl_399, zl_999, zl_9999, zl_m1, zl_m2, zl_m3, zl_32, zl_280] at c5 c9 c11 ⊢); omega)]; first | done | ((try simp only [zlt, zle, zeq, zl_0, zl_1, zl_2, zl_3, zl_4, zl_5, zl_6, zl_7, zl_8, zl_9, zl_10, zl_11, zl_12, zl_13, zl_19, zl_20, zl_30, zl_64, zl_99, zl_100, zl_299, zl_300, zl_399, zl_999, zl_9999, zl_m1, zl_m2, zl_m3, zl_32, zl_280] at c5 c9 c11 ⊢); omega)) | (rw [if_neg (by (try simp only [zlt, zle, zeq, zl_0, zl_1, zl_2, zl_3, zl_4, zl_5, zl_6, zl_7, zl_8, zl_9, zl_10, zl_11, zl_12, zl_13, zl_19, zl_20, zl_30, zl_64, zl_99, zl_100, zl_299, zl_300, zl_399, zl_999, zl_9999, zl_m1, zl_m2, zl_m3, zl_32, zl_280] at c5 c9 c11 ⊢); omega), if_neg (by (try simp only [zlt, zle, zeq, zl_0, zl_1, zl_2, zl_3, zl_4, zl_5, zl_6, zl_7, zl_8, zl_9, zl_10, zl_11, zl_12, zl_13, zl_19, zl_20, zl_30, zl_64, zl_99, zl_100, zl_299, zl_300, zl_399, zl_999, zl_9999, zl_m1, zl_m2, zl_m3, zl_32, zl_280] at c5 c9 c11 ⊢); omega), if_neg (by (try simp only [zlt, zle, zeq, zl_0, zl_1, zl_2, zl_3, zl_4, zl_5, zl_6, zl_7, zl_8, zl_9, zl_10, zl_11, zl_12, zl_13, zl_19, zl_20, zl_30, zl_64, zl_99, zl_100, zl_299, zl_300, zl_399, zl_999, zl_9999, zl_m1, zl_m2, zl_m3, zl_32, zl_280] at c5 c9 c11 ⊢); omega), if_neg (by (try simp only [zlt, zle, zeq, zl_0, zl_1, zl_2, zl_3, zl_4, zl_5, zl_6, zl_7, zl_8, zl_9, zl_10, zl_11, zl_12, zl_13, zl_19, zl_20, zl_30, zl_64, zl_99, zl_100, zl_299, zl_300, zl_399, zl_999, zl_9999, zl_m1, zl_m2, zl_m3, zl_32, zl_280] at c5 c9 c11 ⊢); omega)]; first | done | ((try simp only [zlt, zle, zeq, zl_0, zl_1, zl_2, zl_3, zl_4, zl_5, zl_6, zl_7, zl_8, zl_9, zl_10, zl_11, zl_12, zl_13, zl_19, zl_20, zl_30, zl_64, zl_99, zl_100, zl_299, zl_300, zl_399, zl_999, zl_9999, zl_m1, zl_m2, zl_m3, zl_32, zl_280] at c5 c9 c11 ⊢); omega)))) dX11_about_210 (Nat.le_of_ble_eq_true rfl) (Nat.le_of_ble_eq_true rfl)
      · refine lv_tableIn (off := 142) (tgt := 211) hx hb dX11_about_69 (by decide) (by decide) rfl (by decide) ?_
        refine lv_aload_n hx hb dX11_about_211 rfl (lv_at hl 0 rfl) ?_
        refine z_get Z i_X11 hP 0 rfl rfl 2 (by decide) bw_470 rfl dX11_about_212 ?_
        refine z_get Z i_X10 hP 1 rfl rfl 3 (by decide) bw_242 rfl dX11_about_215 ?_
        refine z_get Z i_X5 hP 6 rfl rfl 2 (by decide) bw_223 rfl dX11_about_218 ?_
        exact z_ret Z rfl hP hD hS ((by first | rfl | assumption | (rw [if_pos (by (try simp only [zlt, zle, zeq, zl_0, zl_1, zl_2, zl_3, zl_4, zl_5, zl_6, zl_7, zl_8, zl_9, zl_10, zl_11, zl_12, zl_13, zl_19, zl_20, zl_30, zl_64, zl_99, zl_100, zl_299, zl_300, zl_399, zl_999, zl_9999, zl_m1, zl_m2, zl_m3, zl_32, zl_280] at c5 c9 c11 ⊢); omega)]; first | done | ((try simp only [zlt, zle, zeq, zl_0, zl_1, zl_2, zl_3, zl_4, zl_5, zl_6, zl_7, zl_8, zl_9, zl_10, zl_11, zl_12, zl_13, zl_19, zl_20, zl_30, zl_64, zl_99, zl_100, zl_299, zl_300, zl_399, zl_999, zl_9999, zl_m1, zl_m2, zl_m3, zl_32, zl_280] at c5 c9 c11 ⊢); omega)) | (rw [if_neg (by (try simp only [zlt, zle, zeq, zl_0, zl_1, zl_2, zl_3, zl_4, zl_5, zl_6, zl_7, zl_8, zl_9, zl_10, zl_11, zl_12, zl_13, zl_19, zl_20, zl_30, zl_64, zl_99, zl_100, zl_299, zl_300, zl_399, zl_999, zl_9999, zl_m1, zl_m2, zl_m3, zl_32, zl_280] at c5 c9 c11 ⊢); omega), if_pos (by (try simp only [zlt, zle, zeq, zl_0, zl_1, zl_2, zl_3, zl_4, zl_5, zl_6, zl_7, zl_8, zl_9, zl_10, zl_11, zl_12, zl_13, zl_19, zl_20, zl_30, zl_64, zl_99, zl_100, zl_299, zl_300, zl_399, zl_999, zl_9999, zl_m1, zl_m2, zl_m3, zl_32, zl_280] at c5 c9 c11 ⊢); omega)]; first | done | ((try simp only [zlt, zle, zeq, zl_0, zl_1, zl_2, zl_3, zl_4, zl_5, zl_6, zl_7, zl_8, zl_9, zl_10, zl_11, zl_12, zl_13, zl_19, zl_20, zl_30, zl_64, zl_99, zl_100, zl_299, zl_300, zl_399, zl_999, zl_9999, zl_m1, zl_m2, zl_m3, zl_32, zl_280] at c5 c9 c11 ⊢); omega)) | (rw [if_neg (by (try simp only [zlt, zle, zeq, zl_0, zl_1, zl_2, zl_3, zl_4, zl_5, zl_6, zl_7, zl_8, zl_9, zl_10, zl_11, zl_12, zl_13, zl_19, zl_20, zl_30, zl_64, zl_99, zl_100, zl_299, zl_300, zl_399, zl_999, zl_9999, zl_m1, zl_m2, zl_m3, zl_32, zl_280] at c5 c9 c11 ⊢); omega), if_neg (by (try simp only [zlt, zle, zeq, zl_0, zl_1, zl_2, zl_3, zl_4, zl_5, zl_6, zl_7, zl_8, zl_9, zl_10, zl_11, zl_12, zl_13, zl_19, zl_20, zl_30, zl_64, zl_99, zl_100, zl_299, zl_300, zl_399, zl_999, zl_9999, zl_m1, zl_m2, zl_m3, zl_32, zl_280] at c5 c9 c11 ⊢); omega), if_pos (by (try simp only [zlt, zle, zeq, zl_0, zl_1, zl_2, zl_3, zl_4, zl_5, zl_6, zl_7, zl_8, zl_9, zl_10, zl_11, zl_12, zl_13, zl_19, zl_20, zl_30, zl_64, zl_99, zl_100, zl_299, zl_300, zl_399, zl_999, zl_9999, zl_m1, zl_m2, zl_m3, zl_32, zl_280] at c5 c9 c11 ⊢); omega)]; first | done | ((try simp only [zlt, zle, zeq, zl_0, zl_1, zl_2, zl_3, zl_4, zl_5, zl_6, zl_7, zl_8, zl_9, zl_10, zl_11, zl_12, zl_13, zl_19, zl_20, zl_30, zl_64, zl_99, zl_100, zl_299, zl_300, zl_399, zl_999, zl_9999, zl_m1, zl_m2, zl_m3, zl_32, zl_280] at c5 c9 c11 ⊢); omega)) | (rw [if_neg (by (try simp only [zlt, zle, zeq, zl_0, zl_1, zl_2, zl_3, zl_4, zl_5, zl_6, zl_7, zl_8, zl_9, zl_10, zl_11, zl_12, zl_13, zl_19, zl_20, zl_30, zl_64, zl_99, zl_100, zl_299, zl_300, zl_399, zl_999, zl_9999, zl_m1, zl_m2, zl_m3, zl_32, zl_280] at c5 c9 c11 ⊢); omega), if_neg (by (try simp only [zlt, zle, zeq, zl_0, zl_1, zl_2, zl_3, zl_4, zl_5, zl_6, zl_7, zl_8, zl_9, zl_10, zl_11, zl_12, zl_13, zl_19, zl_20, zl_30, zl_64, zl_99, zl_100, zl_299, zl_300, zl_399, zl_999, zl_9999, zl_m1, zl_m2, zl_m3, zl_32, zl_280] at c5 c9 c11 ⊢); omega), if_neg (by (try simp only [zlt, zle, zeq, zl_0, zl_1, zl_2, zl_3, zl_4, zl_5, zl_6, zl_7, zl_8, zl_9, zl_10, zl_11, zl_12, zl_13, zl_19, zl_20, zl_30, zl_64, zl_99, zl_100, zl_299, zl_300, zl_399, zl_999, zl_9999, zl_m1, zl_m2, zl_m3, zl_32, zl_280] at c5 c9 c11 ⊢); omega), if_pos (by (try simp only [zlt, zle, zeq, zl_0, zl_1, zl_2, zl_3, zl_4, zl_5, zl_6, zl_7, zl_8, zl_9, zl_10, zl_11, zl_12, zl_13, zl_19, zl_20, zl_30, zl_64, zl_99, zl_100, zl_299, zl_300, zl_399, zl_999, zl_9999, zl_m1, zl_m2, zl_m3, zl_32, zl_280] at c5 c9 c11 ⊢); omega)]; first | done | ((try simp only [zlt, zle, zeq, zl_0, zl_1, zl_2, zl_3, zl_4, zl_5, zl_6, zl_7, zl_8, zl_9, zl_10, zl_11, zl_12, zl_13, zl_19, zl_20, zl_30, zl_64, zl_99, zl_100, zl_299, zl_300, zl_399, zl_999, zl_9999, zl_m1, zl_m2, zl_m3, zl_32, zl_280] at c5 c9 c11 ⊢); omega)) | (rw [if_neg (by (try simp only [zlt, zle, zeq, zl_0, zl_1, zl_2, zl_3, zl_4, zl_5, zl_6, zl_7, zl_8, zl_9, zl_10, zl_11, zl_12, zl_13, zl_19, zl_20, zl_30, zl_64, zl_99, zl_100, zl_299, zl_300, zl_399, zl_999, zl_9999, zl_m1, zl_m2, zl_m3, zl_32, zl_280] at c5 c9 c11 ⊢); omega), if_neg (by (try simp only [zlt, zle, zeq, zl_0, zl_1, zl_2, zl_3, zl_4, zl_5, zl_6, zl_7, zl_8, zl_9, zl_10, zl_11, zl_12, zl_13, zl_19, zl_20, zl_30, zl_64, zl_99, zl_100, zl_299, zl_300, zl_399, zl_999, zl_9999, zl_m1, zl_m2, zl_m3, zl_32, zl_280] at c5 c9 c11 ⊢); omega), if_neg (by (try simp only [zlt, zle, zeq, zl_0, zl_1, zl_2, zl_3, zl_4, zl_5, zl_6, zl_7, zl_8, zl_9, zl_10, zl_11, zl_12, zl_13, zl_19, zl_20, zl_30, zl_64, zl_99, zl_100, zl_299, zl_300, zl_399, zl_999, zl_9999, zl_m1, zl_m2, zl_m3, zl_32, zl_280] at c5 c9 c11 ⊢); omega), if_neg (by (try simp only [zlt, zle, zeq, zl_0, zl_1, zl_2, zl_3, zl_4, zl_5, zl_6, zl_7, zl_8, zl_9, zl_10, zl_11, zl_12, zl_13, zl_19, zl_20, zl_30, zl_64, zl_99, zl_100, zl_299, zl_300, zl_399, zl_999, zl_9999, zl_m1, zl_m2, zl_m3, zl_32, zl_280] at c5 c9 c11 ⊢); omega)]; first | done | ((try simp only [zlt, zle, zeq, zl_0, zl_1, zl_2, zl_3, zl_4, zl_5, zl_6, zl_7, zl_8, zl_9, zl_10, zl_11, zl_12, zl_13, zl_19, zl_20, zl_30, zl_64, zl_99, zl_100, zl_299, zl_300, zl_399, zl_999, zl_9999, zl_m1, zl_m2, zl_m3, zl_32, zl_280] at c5 c9 c11 ⊢); omega)))) dX11_about_221 (Nat.le_of_ble_eq_true rfl) (Nat.le_of_ble_eq_true rfl)
      · refine lv_tableIn (off := 153) (tgt := 222) hx hb dX11_about_69 (by decide) (by decide) rfl (by decide) ?_
        refine lv_aload_n hx hb dX11_about_222 rfl (lv_at hl 0 rfl) ?_
        refine z_get Z i_X11 hP 0 rfl rfl 2 (by decide) bw_470 rfl dX11_about_223 ?_
        refine z_get Z i_X10 hP 1 rfl rfl 11 (by decide) bw_260 rfl dX11_about_226 ?_
        exact z_ret Z rfl hP hD hS ((by first | rfl | assumption | (rw [if_pos (by (try simp only [zlt, zle, zeq, zl_0, zl_1, zl_2, zl_3, zl_4, zl_5, zl_6, zl_7, zl_8, zl_9, zl_10, zl_11, zl_12, zl_13, zl_19, zl_20, zl_30, zl_64, zl_99, zl_100, zl_299, zl_300, zl_399, zl_999, zl_9999, zl_m1, zl_m2, zl_m3, zl_32, zl_280] at c5 c9 c11 ⊢); omega)]; first | done | ((try simp only [zlt, zle, zeq, zl_0, zl_1, zl_2, zl_3, zl_4, zl_5, zl_6, zl_7, zl_8, zl_9, zl_10, zl_11, zl_12, zl_13, zl_19, zl_20, zl_30, zl_64, zl_99, zl_100, zl_299, zl_300, zl_399, zl_999, zl_9999, zl_m1, zl_m2, zl_m3, zl_32, zl_280] at c5 c9 c11 ⊢); omega)) | (rw [if_neg (by (try simp only [zlt, zle, zeq, zl_0, zl_1, zl_2, zl_3, zl_4, zl_5, zl_6, zl_7, zl_8, zl_9, zl_10, zl_11, zl_12, zl_13, zl_19, zl_20, zl_30, zl_64, zl_99, zl_100, zl_299, zl_300, zl_399, zl_999, zl_9999, zl_m1, zl_m2, zl_m3, zl_32, zl_280] at c5 c9 c11 ⊢); omega), if_pos (by (try simp only [zlt, zle, zeq, zl_0, zl_1, zl_2, zl_3, zl_4, zl_5, zl_6, zl_7, zl_8, zl_9, zl_10, zl_11, zl_12, zl_13, zl_19, zl_20, zl_30, zl_64, zl_99, zl_100, zl_299, zl_300, zl_399, zl_999, zl_9999, zl_m1, zl_m2, zl_m3, zl_32, zl_280] at c5 c9 c11 ⊢); omega)]; first | done | ((try simp only [zlt, zle, zeq, zl_0, zl_1, zl_2, zl_3, zl_4, zl_5, zl_6, zl_7, zl_8, zl_9, zl_10, zl_11, zl_12, zl_13, zl_19, zl_20, zl_30, zl_64, zl_99, zl_100, zl_299, zl_300, zl_399, zl_999, zl_9999, zl_m1, zl_m2, zl_m3, zl_32, zl_280] at c5 c9 c11 ⊢); omega)) | (rw [if_neg (by (try simp only [zlt, zle, zeq, zl_0, zl_1, zl_2, zl_3, zl_4, zl_5, zl_6, zl_7, zl_8, zl_9, zl_10, zl_11, zl_12, zl_13, zl_19, zl_20, zl_30, zl_64, zl_99, zl_100, zl_299, zl_300, zl_399, zl_999, zl_9999, zl_m1, zl_m2, zl_m3, zl_32, zl_280] at c5 c9 c11 ⊢); omega), if_neg (by (try simp only [zlt, zle, zeq, zl_0, zl_1, zl_2, zl_3, zl_4, zl_5, zl_6, zl_7, zl_8, zl_9, zl_10, zl_11, zl_12, zl_13, zl_19, zl_20, zl_30, zl_64, zl_99, zl_100, zl_299, zl_300, zl_399, zl_999, zl_9999, zl_m1, zl_m2, zl_m3, zl_32, zl_280] at c5 c9 c11 ⊢); omega), if_pos (by (try simp only [zlt, zle, zeq, zl_0, zl_1, zl_2, zl_3, zl_4, zl_5, zl_6, zl_7, zl_8, zl_9, zl_10, zl_11, zl_12, zl_13, zl_19, zl_20, zl_30, zl_64, zl_99, zl_100, zl_299, zl_300, zl_399, zl_999, zl_9999, zl_m1, zl_m2, zl_m3, zl_32, zl_280] at c5 c9 c11 ⊢); omega)]; first | done | ((try simp only [zlt, zle, zeq, zl_0, zl_1, zl_2, zl_3, zl_4, zl_5, zl_6, zl_7, zl_8, zl_9, zl_10, zl_11, zl_12, zl_13, zl_19, zl_20, zl_30, zl_64, zl_99, zl_100, zl_299, zl_300, zl_399, zl_999, zl_9999, zl_m1, zl_m2, zl_m3, zl_32, zl_280] at c5 c9 c11 ⊢); omega)) | (rw [if_neg (by (try simp only [zlt, zle, zeq, zl_0, zl_1, zl_2, zl_3, zl_4, zl_5, zl_6, zl_7, zl_8, zl_9, zl_10, zl_11, zl_12, zl_13, zl_19, zl_20, zl_30, zl_64, zl_99, zl_100, zl_299, zl_300, zl_399, zl_999, zl_9999, zl_m1, zl_m2, zl_m3, zl_32, zl_280] at c5 c9 c11 ⊢); omega), if_neg (by (try simp only [zlt, zle, zeq, zl_0, zl_1, zl_2, zl_3, zl_4, zl_5, zl_6, zl_7, zl_8, zl_9, zl_10, zl_11, zl_12, zl_13, zl_19, zl_20, zl_30, zl_64, zl_99, zl_100, zl_299, zl_300, zl_399, zl_999, zl_9999, zl_m1, zl_m2, zl_m3, zl_32, zl_280] at c5 c9 c11 ⊢); omega), if_neg (by (try simp only [zlt, zle, zeq, zl_0, zl_1, zl_2, zl_3, zl_4, zl_5, zl_6, zl_7, zl_8, zl_9, zl_10, zl_11, zl_12, zl_13, zl_19, zl_20, zl_30, zl_64, zl_99, zl_100, zl_299, zl_300, zl_399, zl_999, zl_9999, zl_m1, zl_m2, zl_m3, zl_32, zl_280] at c5 c9 c11 ⊢); omega), if_pos (by (try simp only [zlt, zle, zeq, zl_0, zl_1, zl_2, zl_3, zl_4, zl_5, zl_6, zl_7, zl_8, zl_9, zl_10, zl_11, zl_12, zl_13, zl_19, zl_20, zl_30, zl_64, zl_99, zl_100, zl_299, zl_300, zl_399, zl_999, zl_9999, zl_m1, zl_m2, zl_m3, zl_32, zl_280] at c5 c9 c11 ⊢); omega)]; first | done | ((try simp only [zlt, zle, zeq, zl_0, zl_1, zl_2, zl_3, zl_4, zl_5, zl_6, zl_7, zl_8, zl_9, zl_10, zl_11, zl_12, zl_13, zl_19, zl_20, zl_30, zl_64, zl_99, zl_100, zl_299, zl_300, zl_399, zl_999, zl_9999, zl_m1, zl_m2, zl_m3, zl_32, zl_280] at c5 c9 c11 ⊢); omega)) | (rw [if_neg (by (try simp only [zlt, zle, zeq, zl_0, zl_1, zl_2, zl_3, zl_4, zl_5, zl_6, zl_7, zl_8, zl_9, zl_10, zl_11, zl_12, zl_13, zl_19, zl_20, zl_30, zl_64, zl_99, zl_100, zl_299, zl_300, zl_399, zl_999, zl_9999, zl_m1, zl_m2, zl_m3, zl_32, zl_280] at c5 c9 c11 ⊢); omega), if_neg (by (try simp only [zlt, zle, zeq, zl_0, zl_1, zl_2, zl_3, zl_4, zl_5, zl_6, zl_7, zl_8, zl_9, zl_10, zl_11, zl_12, zl_13, zl_19, zl_20, zl_30, zl_64, zl_99, zl_100, zl_299, zl_300, zl_399, zl_999, zl_9999, zl_m1, zl_m2, zl_m3, zl_32, zl_280] at c5 c9 c11 ⊢); omega), if_neg (by (try simp only [zlt, zle, zeq, zl_0, zl_1, zl_2, zl_3, zl_4, zl_5, zl_6, zl_7, zl_8, zl_9, zl_10, zl_11, zl_12, zl_13, zl_19, zl_20, zl_30, zl_64, zl_99, zl_100, zl_299, zl_300, zl_399, zl_999, zl_9999, zl_m1, zl_m2, zl_m3, zl_32, zl_280] at c5 c9 c11 ⊢); omega), if_neg (by (try simp only [zlt, zle, zeq, zl_0, zl_1, zl_2, zl_3, zl_4, zl_5, zl_6, zl_7, zl_8, zl_9, zl_10, zl_11, zl_12, zl_13, zl_19, zl_20, zl_30, zl_64, zl_99, zl_100, zl_299, zl_300, zl_399, zl_999, zl_9999, zl_m1, zl_m2, zl_m3, zl_32, zl_280] at c5 c9 c11 ⊢); omega)]; first | done | ((try simp only [zlt, zle, zeq, zl_0, zl_1, zl_2, zl_3, zl_4, zl_5, zl_6, zl_7, zl_8, zl_9, zl_10, zl_11, zl_12, zl_13, zl_19, zl_20, zl_30, zl_64, zl_99, zl_100, zl_299, zl_300, zl_399, zl_999, zl_9999, zl_m1, zl_m2, zl_m3, zl_32, zl_280] at c5 c9 c11 ⊢); omega)))) dX11_about_229 (Nat.le_of_ble_eq_true rfl) (Nat.le_of_ble_eq_true rfl)
      · refine lv_tableIn (off := 161) (tgt := 230) hx hb dX11_about_69 (by decide) (by decide) rfl (by decide) ?_
        refine lv_aload_n hx hb dX11_about_230 rfl (lv_at hl 0 rfl) ?_
        refine z_get Z i_X11 hP 0 rfl rfl 2 (by decide) bw_470 rfl dX11_about_231 ?_
        refine z_get Z i_X10 hP 1 rfl rfl 12 (by decide) bw_262 rfl dX11_about_234 ?_
        exact z_ret Z rfl hP hD hS ((by first | rfl | assumption | (rw [if_pos (by (try simp only [zlt, zle, zeq, zl_0, zl_1, zl_2, zl_3, zl_4, zl_5, zl_6, zl_7, zl_8, zl_9, zl_10, zl_11, zl_12, zl_13, zl_19, zl_20, zl_30, zl_64, zl_99, zl_100, zl_299, zl_300, zl_399, zl_999, zl_9999, zl_m1, zl_m2, zl_m3, zl_32, zl_280] at c5 c9 c11 ⊢); omega)]; first | done | ((try simp only [zlt, zle, zeq, zl_0, zl_1, zl_2, zl_3, zl_4, zl_5, zl_6, zl_7, zl_8, zl_9, zl_10, zl_11, zl_12, zl_13, zl_19, zl_20, zl_30, zl_64, zl_99, zl_100, zl_299, zl_300, zl_399, zl_999, zl_9999, zl_m1, zl_m2, zl_m3, zl_32, zl_280] at c5 c9 c11 ⊢); omega)) | (rw [if_neg (by (try simp only [zlt, zle, zeq, zl_0, zl_1, zl_2, zl_3, zl_4, zl_5, zl_6, zl_7, zl_8, zl_9, zl_10, zl_11, zl_12, zl_13, zl_19, zl_20, zl_30, zl_64, zl_99, zl_100, zl_299, zl_300, zl_399, zl_999, zl_9999, zl_m1, zl_m2, zl_m3, zl_32, zl_280] at c5 c9 c11 ⊢); omega), if_pos (by (try simp only [zlt, zle, zeq, zl_0, zl_1, zl_2, zl_3, zl_4, zl_5, zl_6, zl_7, zl_8, zl_9, zl_10, zl_11, zl_12, zl_13, zl_19, zl_20, zl_30, zl_64, zl_99, zl_100, zl_299, zl_300, zl_399, zl_999, zl_9999, zl_m1, zl_m2, zl_m3, zl_32, zl_280] at c5 c9 c11 ⊢); omega)]; first | done | ((try simp only [zlt, zle, zeq, zl_0, zl_1, zl_2, zl_3, zl_4, zl_5, zl_6, zl_7, zl_8, zl_9, zl_10, zl_11, zl_12, zl_13, zl_19, zl_20, zl_30, zl_64, zl_99, zl_100, zl_299, zl_300, zl_399, zl_999, zl_9999, zl_m1, zl_m2, zl_m3, zl_32, zl_280] at c5 c9 c11 ⊢); omega)) | (rw [if_neg (by (try simp only [zlt, zle, zeq, zl_0, zl_1, zl_2, zl_3, zl_4, zl_5, zl_6, zl_7, zl_8, zl_9, zl_10, zl_11, zl_12, zl_13, zl_19, zl_20, zl_30, zl_64, zl_99, zl_100, zl_299, zl_300, zl_399, zl_999, zl_9999, zl_m1, zl_m2, zl_m3, zl_32, zl_280] at c5 c9 c11 ⊢); omega), if_neg (by (try simp only [zlt, zle, zeq, zl_0, zl_1, zl_2, zl_3, zl_4, zl_5, zl_6, zl_7, zl_8, zl_9, zl_10, zl_11, zl_12, zl_13, zl_19, zl_20, zl_30, zl_64, zl_99, zl_100, zl_299, zl_300, zl_399, zl_999, zl_9999, zl_m1, zl_m2, zl_m3, zl_32, zl_280] at c5 c9 c11 ⊢); omega), if_pos (by (try simp only [zlt, zle, zeq, zl_0, zl_1, zl_2, zl_3, zl_4, zl_5, zl_6, zl_7, zl_8, zl_9, zl_10, zl_11, zl_12, zl_13, zl_19, zl_20, zl_30, zl_64, zl_99, zl_100, zl_299, zl_300, zl_399, zl_999, zl_9999, zl_m1, zl_m2, zl_m3, zl_32, zl_280] at c5 c9 c11 ⊢); omega)]; first | done | ((try simp only [zlt, zle, zeq, zl_0, zl_1, zl_2, zl_3, zl_4, zl_5, zl_6, zl_7, zl_8, zl_9, zl_10, zl_11, zl_12, zl_13, zl_19, zl_20, zl_30, zl_64, zl_99, zl_100, zl_299, zl_300, zl_399, zl_999, zl_9999, zl_m1, zl_m2, zl_m3, zl_32, zl_280] at c5 c9 c11 ⊢); omega)) | (rw [if_neg (by (try simp only [zlt, zle, zeq, zl_0, zl_1, zl_2, zl_3, zl_4, zl_5, zl_6, zl_7, zl_8, zl_9, zl_10, zl_11, zl_12, zl_13, zl_19, zl_20, zl_30, zl_64, zl_99, zl_100, zl_299, zl_300, zl_399, zl_999, zl_9999, zl_m1, zl_m2, zl_m3, zl_32, zl_280] at c5 c9 c11 ⊢); omega), if_neg (by (try simp only [zlt, zle, zeq, zl_0, zl_1, zl_2, zl_3, zl_4, zl_5, zl_6, zl_7, zl_8, zl_9, zl_10, zl_11, zl_12, zl_13, zl_19, zl_20, zl_30, zl_64, zl_99, zl_100, zl_299, zl_300, zl_399, zl_999, zl_9999, zl_m1, zl_m2, zl_m3, zl_32, zl_280] at c5 c9 c11 ⊢); omega), if_neg (by (try simp only [zlt, zle, zeq, zl_0, zl_1, zl_2, zl_3, zl_4, zl_5, zl_6, zl_7, zl_8, zl_9, zl_10, zl_11, zl_12, zl_13, zl_19, zl_20, zl_30, zl_64, zl_99, zl_100, zl_299, zl_300, zl_399, zl_999, zl_9999, zl_m1, zl_m2, zl_m3, zl_32, zl_280] at c5 c9 c11 ⊢); omega), if_pos (by (try simp only [zlt, zle, zeq, zl_0, zl_1, zl_2, zl_3, zl_4, zl_5, zl_6, zl_7, zl_8, zl_9, zl_10, zl_11, zl_12, zl_13, zl_19, zl_20, zl_30, zl_64, zl_99, zl_100, zl_299, zl_300, zl_399, zl_999, zl_9999, zl_m1, zl_m2, zl_m3, zl_32, zl_280] at c5 c9 c11 ⊢); omega)]; first | done | ((try simp only [zlt, zle, zeq, zl_0, zl_1, zl_2, zl_3, zl_4, zl_5, zl_6, zl_7, zl_8, zl_9, zl_10, zl_11, zl_12, zl_13, zl_19, zl_20, zl_30, zl_64, zl_99, zl_100, zl_299, zl_300, zl_399, zl_999, zl_9999, zl_m1, zl_m2, zl_m3, zl_32, zl_280] at c5 c9 c11 ⊢); omega)) | (rw [if_neg (by (try simp only [zlt, zle, zeq, zl_0, zl_1, zl_2, zl_3, zl_4, zl_5, zl_6, zl_7, zl_8, zl_9, zl_10, zl_11, zl_12, zl_13, zl_19, zl_20, zl_30, zl_64, zl_99, zl_100, zl_299, zl_300, zl_399, zl_999, zl_9999, zl_m1, zl_m2, zl_m3, zl_32, zl_280] at c5 c9 c11 ⊢); omega), if_neg (by (try simp only [zlt, zle, zeq, zl_0, zl_1, zl_2, zl_3, zl_4, zl_5, zl_6, zl_7, zl_8, zl_9, zl_10, zl_11, zl_12, zl_13, zl_19, zl_20, zl_30, zl_64, zl_99, zl_100, zl_299, zl_300, zl_399, zl_999, zl_9999, zl_m1, zl_m2, zl_m3, zl_32, zl_280] at c5 c9 c11 ⊢); omega), if_neg (by (try simp only [zlt, zle, zeq, zl_0, zl_1, zl_2, zl_3, zl_4, zl_5, zl_6, zl_7, zl_8, zl_9, zl_10, zl_11, zl_12, zl_13, zl_19, zl_20, zl_30, zl_64, zl_99, zl_100, zl_299, zl_300, zl_399, zl_999, zl_9999, zl_m1, zl_m2, zl_m3, zl_32, zl_280] at c5 c9 c11 ⊢); omega), if_neg (by (try simp only [zlt, zle, zeq, zl_0, zl_1, zl_2, zl_3, zl_4, zl_5, zl_6, zl_7, zl_8, zl_9, zl_10, zl_11, zl_12, zl_13, zl_19, zl_20, zl_30, zl_64, zl_99, zl_100, zl_299, zl_300, zl_399, zl_999, zl_9999, zl_m1, zl_m2, zl_m3, zl_32, zl_280] at c5 c9 c11 ⊢); omega)]; first | done | ((try simp only [zlt, zle, zeq, zl_0, zl_1, zl_2, zl_3, zl_4, zl_5, zl_6, zl_7, zl_8, zl_9, zl_10, zl_11, zl_12, zl_13, zl_19, zl_20, zl_30, zl_64, zl_99, zl_100, zl_299, zl_300, zl_399, zl_999, zl_9999, zl_m1, zl_m2, zl_m3, zl_32, zl_280] at c5 c9 c11 ⊢); omega)))) dX11_about_237 (Nat.le_of_ble_eq_true rfl) (Nat.le_of_ble_eq_true rfl)
      · refine lv_tableIn (off := 169) (tgt := 238) hx hb dX11_about_69 (by decide) (by decide) rfl (by decide) ?_
        refine lv_aload_n hx hb dX11_about_238 rfl (lv_at hl 0 rfl) ?_
        refine z_get Z i_X11 hP 0 rfl rfl 4 (by decide) bw_472 rfl dX11_about_239 ?_
        refine z_get Z i_X2 hP 7 rfl rfl 0 (by decide) bw_422 rfl dX11_about_242 ?_
        refine z_get Z i_X7 hP 8 rfl rfl 4 (by decide) bw_403 rfl dX11_about_245 ?_
        exact z_ret Z rfl hP hD hS ((by first | rfl | assumption | (rw [if_pos (by (try simp only [zlt, zle, zeq, zl_0, zl_1, zl_2, zl_3, zl_4, zl_5, zl_6, zl_7, zl_8, zl_9, zl_10, zl_11, zl_12, zl_13, zl_19, zl_20, zl_30, zl_64, zl_99, zl_100, zl_299, zl_300, zl_399, zl_999, zl_9999, zl_m1, zl_m2, zl_m3, zl_32, zl_280] at c5 c9 c11 ⊢); omega)]; first | done | ((try simp only [zlt, zle, zeq, zl_0, zl_1, zl_2, zl_3, zl_4, zl_5, zl_6, zl_7, zl_8, zl_9, zl_10, zl_11, zl_12, zl_13, zl_19, zl_20, zl_30, zl_64, zl_99, zl_100, zl_299, zl_300, zl_399, zl_999, zl_9999, zl_m1, zl_m2, zl_m3, zl_32, zl_280] at c5 c9 c11 ⊢); omega)) | (rw [if_neg (by (try simp only [zlt, zle, zeq, zl_0, zl_1, zl_2, zl_3, zl_4, zl_5, zl_6, zl_7, zl_8, zl_9, zl_10, zl_11, zl_12, zl_13, zl_19, zl_20, zl_30, zl_64, zl_99, zl_100, zl_299, zl_300, zl_399, zl_999, zl_9999, zl_m1, zl_m2, zl_m3, zl_32, zl_280] at c5 c9 c11 ⊢); omega), if_pos (by (try simp only [zlt, zle, zeq, zl_0, zl_1, zl_2, zl_3, zl_4, zl_5, zl_6, zl_7, zl_8, zl_9, zl_10, zl_11, zl_12, zl_13, zl_19, zl_20, zl_30, zl_64, zl_99, zl_100, zl_299, zl_300, zl_399, zl_999, zl_9999, zl_m1, zl_m2, zl_m3, zl_32, zl_280] at c5 c9 c11 ⊢); omega)]; first | done | ((try simp only [zlt, zle, zeq, zl_0, zl_1, zl_2, zl_3, zl_4, zl_5, zl_6, zl_7, zl_8, zl_9, zl_10, zl_11, zl_12, zl_13, zl_19, zl_20, zl_30, zl_64, zl_99, zl_100, zl_299, zl_300, zl_399, zl_999, zl_9999, zl_m1, zl_m2, zl_m3, zl_32, zl_280] at c5 c9 c11 ⊢); omega)) | (rw [if_neg (by (try simp only [zlt, zle, zeq, zl_0, zl_1, zl_2, zl_3, zl_4, zl_5, zl_6, zl_7, zl_8, zl_9, zl_10, zl_11, zl_12, zl_13, zl_19, zl_20, zl_30, zl_64, zl_99, zl_100, zl_299, zl_300, zl_399, zl_999, zl_9999, zl_m1, zl_m2, zl_m3, zl_32, zl_280] at c5 c9 c11 ⊢); omega), if_neg (by (try simp only [zlt, zle, zeq, zl_0, zl_1, zl_2, zl_3, zl_4, zl_5, zl_6, zl_7, zl_8, zl_9, zl_10, zl_11, zl_12, zl_13, zl_19, zl_20, zl_30, zl_64, zl_99, zl_100, zl_299, zl_300, zl_399, zl_999, zl_9999, zl_m1, zl_m2, zl_m3, zl_32, zl_280] at c5 c9 c11 ⊢); omega), if_pos (by (try simp only [zlt, zle, zeq, zl_0, zl_1, zl_2, zl_3, zl_4, zl_5, zl_6, zl_7, zl_8, zl_9, zl_10, zl_11, zl_12, zl_13, zl_19, zl_20, zl_30, zl_64, zl_99, zl_100, zl_299, zl_300, zl_399, zl_999, zl_9999, zl_m1, zl_m2, zl_m3, zl_32, zl_280] at c5 c9 c11 ⊢); omega)]; first | done | ((try simp only [zlt, zle, zeq, zl_0, zl_1, zl_2, zl_3, zl_4, zl_5, zl_6, zl_7, zl_8, zl_9, zl_10, zl_11, zl_12, zl_13, zl_19, zl_20, zl_30, zl_64, zl_99, zl_100, zl_299, zl_300, zl_399, zl_999, zl_9999, zl_m1, zl_m2, zl_m3, zl_32, zl_280] at c5 c9 c11 ⊢); omega)) | (rw [if_neg (by (try simp only [zlt, zle, zeq, zl_0, zl_1, zl_2, zl_3, zl_4, zl_5, zl_6, zl_7, zl_8, zl_9, zl_10, zl_11, zl_12, zl_13, zl_19, zl_20, zl_30, zl_64, zl_99, zl_100, zl_299, zl_300, zl_399, zl_999, zl_9999, zl_m1, zl_m2, zl_m3, zl_32, zl_280] at c5 c9 c11 ⊢); omega), if_neg (by (try simp only [zlt, zle, zeq, zl_0, zl_1, zl_2, zl_3, zl_4, zl_5, zl_6, zl_7, zl_8, zl_9, zl_10, zl_11, zl_12, zl_13, zl_19, zl_20, zl_30, zl_64, zl_99, zl_100, zl_299, zl_300, zl_399, zl_999, zl_9999, zl_m1, zl_m2, zl_m3, zl_32, zl_280] at c5 c9 c11 ⊢); omega), if_neg (by (try simp only [zlt, zle, zeq, zl_0, zl_1, zl_2, zl_3, zl_4, zl_5, zl_6, zl_7, zl_8, zl_9, zl_10, zl_11, zl_12, zl_13, zl_19, zl_20, zl_30, zl_64, zl_99, zl_100, zl_299, zl_300, zl_399, zl_999, zl_9999, zl_m1, zl_m2, zl_m3, zl_32, zl_280] at c5 c9 c11 ⊢); omega), if_pos (by (try simp only [zlt, zle, zeq, zl_0, zl_1, zl_2, zl_3, zl_4, zl_5, zl_6, zl_7, zl_8, zl_9, zl_10, zl_11, zl_12, zl_13, zl_19, zl_20, zl_30, zl_64, zl_99, zl_100, zl_299, zl_300, zl_399, zl_999, zl_9999, zl_m1, zl_m2, zl_m3, zl_32, zl_280] at c5 c9 c11 ⊢); omega)]; first | done | ((try simp only [zlt, zle, zeq, zl_0, zl_1, zl_2, zl_3, zl_4, zl_5, zl_6, zl_7, zl_8, zl_9, zl_10, zl_11, zl_12, zl_13, zl_19, zl_20, zl_30, zl_64, zl_99, zl_100, zl_299, zl_300, zl_399, zl_999, zl_9999, zl_m1, zl_m2, zl_m3, zl_32, zl_280] at c5 c9 c11 ⊢); omega)) | (rw [if_neg (by (try simp only [zlt, zle, zeq, zl_0, zl_1, zl_2, zl_3, zl_4, zl_5, zl_6, zl_7, zl_8, zl_9, zl_10, zl_11, zl_12, zl_13, zl_19, zl_20, zl_30, zl_64, zl_99, zl_100, zl_299, zl_300, zl_399, zl_999, zl_9999, zl_m1, zl_m2, zl_m3, zl_32, zl_280] at c5 c9 c11 ⊢); omega), if_neg (by (try simp only [zlt, zle, zeq, zl_0, zl_1, zl_2, zl_3, zl_4, zl_5, zl_6, zl_7, zl_8, zl_9, zl_10, zl_11, zl_12, zl_13, zl_19, zl_20, zl_30, zl_64, zl_99, zl_100, zl_299, zl_300, zl_399, zl_999, zl_9999, zl_m1, zl_m2, zl_m3, zl_32, zl_280] at c5 c9 c11 ⊢); omega), if_neg (by (try simp only [zlt, zle, zeq, zl_0, zl_1, zl_2, zl_3, zl_4, zl_5, zl_6, zl_7, zl_8, zl_9, zl_10, zl_11, zl_12, zl_13, zl_19, zl_20, zl_30, zl_64, zl_99, zl_100, zl_299, zl_300, zl_399, zl_999, zl_9999, zl_m1, zl_m2, zl_m3, zl_32, zl_280] at c5 c9 c11 ⊢); omega), if_neg (by (try simp only [zlt, zle, zeq, zl_0, zl_1, zl_2, zl_3, zl_4, zl_5, zl_6, zl_7, zl_8, zl_9, zl_10, zl_11, zl_12, zl_13, zl_19, zl_20, zl_30, zl_64, zl_99, zl_100, zl_299, zl_300, zl_399, zl_999, zl_9999, zl_m1, zl_m2, zl_m3, zl_32, zl_280] at c5 c9 c11 ⊢); omega)]; first | done | ((try simp only [zlt, zle, zeq, zl_0, zl_1, zl_2, zl_3, zl_4, zl_5, zl_6, zl_7, zl_8, zl_9, zl_10, zl_11, zl_12, zl_13, zl_19, zl_20, zl_30, zl_64, zl_99, zl_100, zl_299, zl_300, zl_399, zl_999, zl_9999, zl_m1, zl_m2, zl_m3, zl_32, zl_280] at c5 c9 c11 ⊢); omega)))) dX11_about_248 (Nat.le_of_ble_eq_true rfl) (Nat.le_of_ble_eq_true rfl)
