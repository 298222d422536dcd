theorem dX6_forget_0 : decode cX6_forget 0 = .ok (.aload_n 0, 1) := by decide +kernel
theorem dX6_forget_1 : decode cX6_forget 1 = .ok (.dup, 1) := by decide +kernel
theorem dX6_forget_2 : decode cX6_forget 2 = .ok (.getfield 28, 3) := by decide +kernel
theorem dX6_forget_5 : decode cX6_forget 5 = .ok (.iconst 1, 1) := by decide +kernel
theorem dX6_forget_6 : decode cX6_forget 6 = .ok (.iadd, 1) := by decide +kernel
theorem dX6_forget_7 : decode cX6_forget 7 = .ok (.putfield 28, 3) := by decide +kernel
theorem dX6_forget_10 : decode cX6_forget 10 = .ok (.return_, 1) := by decide +kernel
theorem dX11_isHorse_0 : decode cX11_isHorse 0 = .ok (.iload_n 1, 1) := by decide +kernel
theorem dX11_isHorse_1 : decode cX11_isHorse 1 = .ok (.ifCond .lt 21, 3) := by decide +kernel
theorem dX11_isHorse_4 : decode cX11_isHorse 4 = .ok (.iload_n 1, 1) := by decide +kernel
theorem dX11_isHorse_5 : decode cX11_isHorse 5 = .ok (.aload_n 0, 1) := by decide +kernel
theorem dX11_isHorse_6 : decode cX11_isHorse 6 = .ok (.getfield 27, 3) := by decide +kernel
theorem dX11_isHorse_9 : decode cX11_isHorse 9 = .ok (.getfield 106, 3) := by decide +kernel
theorem dX11_isHorse_12 : decode cX11_isHorse 12 = .ok (.getfield 110, 3) := by decide +kernel
theorem dX11_isHorse_15 : decode cX11_isHorse 15 = .ok (.if_icmp .ge 7, 3) := by decide +kernel
theorem dX11_isHorse_18 : decode cX11_isHorse 18 = .ok (.iconst 1, 1) := by decide +kernel
theorem dX11_isHorse_19 : decode cX11_isHorse 19 = .ok (.goto 4, 3) := by decide +kernel
theorem dX11_isHorse_22 : decode cX11_isHorse 22 = .ok (.iconst 0, 1) := by decide +kernel
theorem dX11_isHorse_23 : decode cX11_isHorse 23 = .ok (.ireturn, 1) := by decide +kernel
theorem dX1_lowestInnHere_0 : decode cX1_lowestInnHere 0 = .ok (.iconst 0, 1) := by decide +kernel
theorem dX1_lowestInnHere_1 : decode cX1_lowestInnHere 1 = .ok (.istore_n 1, 1) := by decide +kernel
theorem dX1_lowestInnHere_2 : decode cX1_lowestInnHere 2 = .ok (.iload_n 1, 1) := by decide +kernel
theorem dX1_lowestInnHere_3 : decode cX1_lowestInnHere 3 = .ok (.aload_n 0, 1) := by decide +kernel
theorem dX1_lowestInnHere_4 : decode cX1_lowestInnHere 4 = .ok (.getfield 15, 3) := by decide +kernel
theorem dX1_lowestInnHere_7 : decode cX1_lowestInnHere 7 = .ok (.if_icmp .ge 24, 3) := by decide +kernel
theorem dX1_lowestInnHere_10 : decode cX1_lowestInnHere 10 = .ok (.aload_n 0, 1) := by decide +kernel
theorem dX1_lowestInnHere_11 : decode cX1_lowestInnHere 11 = .ok (.getfield 9, 3) := by decide +kernel
theorem dX1_lowestInnHere_14 : decode cX1_lowestInnHere 14 = .ok (.iload_n 1, 1) := by decide +kernel
theorem dX1_lowestInnHere_15 : decode cX1_lowestInnHere 15 = .ok (.iaload, 1) := by decide +kernel
theorem dX1_lowestInnHere_16 : decode cX1_lowestInnHere 16 = .ok (.aload_n 0, 1) := by decide +kernel
theorem dX1_lowestInnHere_17 : decode cX1_lowestInnHere 17 = .ok (.getfield 19, 3) := by decide +kernel
theorem dX1_lowestInnHere_20 : decode cX1_lowestInnHere 20 = .ok (.if_icmp .ne 5, 3) := by decide +kernel
theorem dX1_lowestInnHere_23 : decode cX1_lowestInnHere 23 = .ok (.iload_n 1, 1) := by decide +kernel
theorem dX1_lowestInnHere_24 : decode cX1_lowestInnHere 24 = .ok (.ireturn, 1) := by decide +kernel
theorem dX1_lowestInnHere_25 : decode cX1_lowestInnHere 25 = .ok (.iinc 1 1, 3) := by decide +kernel
theorem dX1_lowestInnHere_28 : decode cX1_lowestInnHere 28 = .ok (.goto (-26), 3) := by decide +kernel
theorem dX1_lowestInnHere_31 : decode cX1_lowestInnHere 31 = .ok (.iconst (-1), 1) := by decide +kernel
theorem dX1_lowestInnHere_32 : decode cX1_lowestInnHere 32 = .ok (.ireturn, 1) := by decide +kernel
theorem dX11_bridge_0 : decode cX11_bridge 0 = .ok (.aload_n 0, 1) := by decide +kernel
theorem dX11_bridge_1 : decode cX11_bridge 1 = .ok (.getfield 27, 3) := by decide +kernel
theorem dX11_bridge_4 : decode cX11_bridge 4 = .ok (.getfield 62, 3) := by decide +kernel
theorem dX11_bridge_7 : decode cX11_bridge 7 = .ok (.astore_n 3, 1) := by decide +kernel
theorem dX11_bridge_8 : decode cX11_bridge 8 = .ok (.iload_n 1, 1) := by decide +kernel
theorem dX11_bridge_9 : decode cX11_bridge 9 = .ok (.invokestatic 54, 3) := by decide +kernel
theorem dX11_bridge_12 : decode cX11_bridge 12 = .ok (.ifCond .eq 23, 3) := by decide +kernel
theorem dX11_bridge_15 : decode cX11_bridge 15 = .ok (.iload_n 2, 1) := by decide +kernel
theorem dX11_bridge_16 : decode cX11_bridge 16 = .ok (.invokestatic 54, 3) := by decide +kernel
theorem dX11_bridge_19 : decode cX11_bridge 19 = .ok (.ifCond .eq 16, 3) := by decide +kernel
theorem dX11_bridge_22 : decode cX11_bridge 22 = .ok (.iload_n 1, 1) := by decide +kernel
theorem dX11_bridge_23 : decode cX11_bridge 23 = .ok (.iload_n 2, 1) := by decide +kernel
theorem dX11_bridge_24 : decode cX11_bridge 24 = .ok (.if_icmp .ge 11, 3) := by decide +kernel
theorem dX11_bridge_27 : decode cX11_bridge 27 = .ok (.aload_n 3, 1) := by decide +kernel
theorem dX11_bridge_28 : decode cX11_bridge 28 = .ok (.getfield 74, 3) := by decide +kernel
theorem dX11_bridge_31 : decode cX11_bridge 31 = .ok (.iconst 4, 1) := by decide +kernel
theorem dX11_bridge_32 : decode cX11_bridge 32 = .ok (.if_icmp .lt 5, 3) := by decide +kernel
theorem dX11_bridge_35 : decode cX11_bridge 35 = .ok (.iconst (-1), 1) := by decide +kernel
theorem dX11_bridge_36 : decode cX11_bridge 36 = .ok (.ireturn, 1) := by decide +kernel
theorem dX11_bridge_37 : decode cX11_bridge 37 = .ok (.aload_n 3, 1) := by decide +kernel
theorem dX11_bridge_38 : decode cX11_bridge 38 = .ok (.getfield 78, 3) := by decide +kernel
theorem dX11_bridge_41 : decode cX11_bridge 41 = .ok (.aload_n 3, 1) := by decide +kernel
theorem dX11_bridge_42 : decode cX11_bridge 42 = .ok (.getfield 74, 3) := by decide +kernel
theorem dX11_bridge_45 : decode cX11_bridge 45 = .ok (.iload_n 1, 1) := by decide +kernel
theorem dX11_bridge_46 : decode cX11_bridge 46 = .ok (.iastore, 1) := by decide +kernel
theorem dX11_bridge_47 : decode cX11_bridge 47 = .ok (.aload_n 3, 1) := by decide +kernel
theorem dX11_bridge_48 : decode cX11_bridge 48 = .ok (.getfield 81, 3) := by decide +kernel
theorem dX11_bridge_51 : decode cX11_bridge 51 = .ok (.aload_n 3, 1) := by decide +kernel
theorem dX11_bridge_52 : decode cX11_bridge 52 = .ok (.getfield 74, 3) := by decide +kernel
theorem dX11_bridge_55 : decode cX11_bridge 55 = .ok (.iload_n 2, 1) := by decide +kernel
theorem dX11_bridge_56 : decode cX11_bridge 56 = .ok (.iastore, 1) := by decide +kernel
theorem dX11_bridge_57 : decode cX11_bridge 57 = .ok (.aload_n 3, 1) := by decide +kernel
theorem dX11_bridge_58 : decode cX11_bridge 58 = .ok (.dup, 1) := by decide +kernel
theorem dX11_bridge_59 : decode cX11_bridge 59 = .ok (.getfield 74, 3) := by decide +kernel
theorem dX11_bridge_62 : decode cX11_bridge 62 = .ok (.iconst 1, 1) := by decide +kernel
theorem dX11_bridge_63 : decode cX11_bridge 63 = .ok (.iadd, 1) := by decide +kernel
theorem dX11_bridge_64 : decode cX11_bridge 64 = .ok (.putfield 74, 3) := by decide +kernel
theorem dX11_bridge_67 : decode cX11_bridge 67 = .ok (.aload_n 0, 1) := by decide +kernel
theorem dX11_bridge_68 : decode cX11_bridge 68 = .ok (.getfield 10, 3) := by decide +kernel
theorem dX11_bridge_71 : decode cX11_bridge 71 = .ok (.invokevirtual 71, 3) := by decide +kernel
theorem dX11_bridge_74 : decode cX11_bridge 74 = .ok (.aload_n 3, 1) := by decide +kernel
theorem dX11_bridge_75 : decode cX11_bridge 75 = .ok (.getfield 74, 3) := by decide +kernel
theorem dX11_bridge_78 : decode cX11_bridge 78 = .ok (.ireturn, 1) := by decide +kernel
theorem dX11_inn_0 : decode cX11_inn 0 = .ok (.aload_n 0, 1) := by decide +kernel
theorem dX11_inn_1 : decode cX11_inn 1 = .ok (.getfield 27, 3) := by decide +kernel
theorem dX11_inn_4 : decode cX11_inn 4 = .ok (.getfield 84, 3) := by decide +kernel
theorem dX11_inn_7 : decode cX11_inn 7 = .ok (.astore_n 2, 1) := by decide +kernel
theorem dX11_inn_8 : decode cX11_inn 8 = .ok (.iload_n 1, 1) := by decide +kernel
theorem dX11_inn_9 : decode cX11_inn 9 = .ok (.invokestatic 54, 3) := by decide +kernel
theorem dX11_inn_12 : decode cX11_inn 12 = .ok (.ifCond .eq 12, 3) := by decide +kernel
theorem dX11_inn_15 : decode cX11_inn 15 = .ok (.aload_n 2, 1) := by decide +kernel
theorem dX11_inn_16 : decode cX11_inn 16 = .ok (.getfield 88, 3) := by decide +kernel
theorem dX11_inn_19 : decode cX11_inn 19 = .ok (.bipush 10, 2) := by decide +kernel
theorem dX11_inn_21 : decode cX11_inn 21 = .ok (.if_icmp .lt 5, 3) := by decide +kernel
theorem dX11_inn_24 : decode cX11_inn 24 = .ok (.iconst (-1), 1) := by decide +kernel
theorem dX11_inn_25 : decode cX11_inn 25 = .ok (.ireturn, 1) := by decide +kernel
theorem dX11_inn_26 : decode cX11_inn 26 = .ok (.aload_n 2, 1) := by decide +kernel
theorem dX11_inn_27 : decode cX11_inn 27 = .ok (.getfield 93, 3) := by decide +kernel
theorem dX11_inn_30 : decode cX11_inn 30 = .ok (.aload_n 2, 1) := by decide +kernel
theorem dX11_inn_31 : decode cX11_inn 31 = .ok (.getfield 88, 3) := by decide +kernel
theorem dX11_inn_34 : decode cX11_inn 34 = .ok (.iload_n 1, 1) := by decide +kernel
theorem dX11_inn_35 : decode cX11_inn 35 = .ok (.iastore, 1) := by decide +kernel
theorem dX11_inn_36 : decode cX11_inn 36 = .ok (.aload_n 2, 1) := by decide +kernel
theorem dX11_inn_37 : decode cX11_inn 37 = .ok (.dup, 1) := by decide +kernel
theorem dX11_inn_38 : decode cX11_inn 38 = .ok (.getfield 88, 3) := by decide +kernel
theorem dX11_inn_41 : decode cX11_inn 41 = .ok (.iconst 1, 1) := by decide +kernel
theorem dX11_inn_42 : decode cX11_inn 42 = .ok (.iadd, 1) := by decide +kernel
theorem dX11_inn_43 : decode cX11_inn 43 = .ok (.putfield 88, 3) := by decide +kernel
theorem dX11_inn_46 : decode cX11_inn 46 = .ok (.aload_n 2, 1) := by decide +kernel
theorem dX11_inn_47 : decode cX11_inn 47 = .ok (.getfield 88, 3) := by decide +kernel
theorem dX11_inn_50 : decode cX11_inn 50 = .ok (.ireturn, 1) := by decide +kernel
theorem dX11_move_0 : decode cX11_move 0 = .ok (.aload_n 0, 1) := by decide +kernel
theorem dX11_move_1 : decode cX11_move 1 = .ok (.getfield 27, 3) := by decide +kernel
theorem dX11_move_4 : decode cX11_move 4 = .ok (.getfield 84, 3) := by decide +kernel
theorem dX11_move_7 : decode cX11_move 7 = .ok (.astore_n 3, 1) := by decide +kernel
theorem dX11_move_8 : decode cX11_move 8 = .ok (.iload_n 1, 1) := by decide +kernel
theorem dX11_move_9 : decode cX11_move 9 = .ok (.iconst 0, 1) := by decide +kernel
theorem dX11_move_10 : decode cX11_move 10 = .ok (.aload_n 3, 1) := by decide +kernel
theorem dX11_move_11 : decode cX11_move 11 = .ok (.getfield 88, 3) := by decide +kernel
theorem dX11_move_14 : decode cX11_move 14 = .ok (.iconst 1, 1) := by decide +kernel
theorem dX11_move_15 : decode cX11_move 15 = .ok (.isub, 1) := by decide +kernel
theorem dX11_move_16 : decode cX11_move 16 = .ok (.invokestatic 58, 3) := by decide +kernel
theorem dX11_move_19 : decode cX11_move 19 = .ok (.ifCond .eq 20, 3) := by decide +kernel
theorem dX11_move_22 : decode cX11_move 22 = .ok (.iload_n 2, 1) := by decide +kernel
theorem dX11_move_23 : decode cX11_move 23 = .ok (.invokestatic 54, 3) := by decide +kernel
theorem dX11_move_26 : decode cX11_move 26 = .ok (.ifCond .eq 13, 3) := by decide +kernel
theorem dX11_move_29 : decode cX11_move 29 = .ok (.aload_n 3, 1) := by decide +kernel
theorem dX11_move_30 : decode cX11_move 30 = .ok (.getfield 93, 3) := by decide +kernel
theorem dX11_move_33 : decode cX11_move 33 = .ok (.iload_n 1, 1) := by decide +kernel
theorem dX11_move_34 : decode cX11_move 34 = .ok (.iaload, 1) := by decide +kernel
theorem dX11_move_35 : decode cX11_move 35 = .ok (.iload_n 2, 1) := by decide +kernel
theorem dX11_move_36 : decode cX11_move 36 = .ok (.if_icmp .ne 5, 3) := by decide +kernel
theorem dX11_move_39 : decode cX11_move 39 = .ok (.iconst 0, 1) := by decide +kernel
theorem dX11_move_40 : decode cX11_move 40 = .ok (.ireturn, 1) := by decide +kernel
theorem dX11_move_41 : decode cX11_move 41 = .ok (.aload_n 0, 1) := by decide +kernel
theorem dX11_move_42 : decode cX11_move 42 = .ok (.getfield 27, 3) := by decide +kernel
theorem dX11_move_45 : decode cX11_move 45 = .ok (.getfield 96, 3) := by decide +kernel
theorem dX11_move_48 : decode cX11_move 48 = .ok (.aload_n 3, 1) := by decide +kernel
theorem dX11_move_49 : decode cX11_move 49 = .ok (.invokevirtual 100, 3) := by decide +kernel
theorem dX11_move_52 : decode cX11_move 52 = .ok (.aload_n 3, 1) := by decide +kernel
theorem dX11_move_53 : decode cX11_move 53 = .ok (.getfield 93, 3) := by decide +kernel
theorem dX11_move_56 : decode cX11_move 56 = .ok (.iload_n 1, 1) := by decide +kernel
theorem dX11_move_57 : decode cX11_move 57 = .ok (.iload_n 2, 1) := by decide +kernel
theorem dX11_move_58 : decode cX11_move 58 = .ok (.iastore, 1) := by decide +kernel
theorem dX11_move_59 : decode cX11_move 59 = .ok (.iconst 1, 1) := by decide +kernel
theorem dX11_move_60 : decode cX11_move 60 = .ok (.ireturn, 1) := by decide +kernel
theorem dX11_horse_0 : decode cX11_horse 0 = .ok (.aload_n 0, 1) := by decide +kernel
theorem dX11_horse_1 : decode cX11_horse 1 = .ok (.getfield 27, 3) := by decide +kernel
theorem dX11_horse_4 : decode cX11_horse 4 = .ok (.getfield 106, 3) := by decide +kernel
theorem dX11_horse_7 : decode cX11_horse 7 = .ok (.astore_n 3, 1) := by decide +kernel
theorem dX11_horse_8 : decode cX11_horse 8 = .ok (.iload_n 1, 1) := by decide +kernel
theorem dX11_horse_9 : decode cX11_horse 9 = .ok (.iconst 1, 1) := by decide +kernel
theorem dX11_horse_10 : decode cX11_horse 10 = .ok (.bipush 99, 2) := by decide +kernel
theorem dX11_horse_12 : decode cX11_horse 12 = .ok (.invokestatic 58, 3) := by decide +kernel
theorem dX11_horse_15 : decode cX11_horse 15 = .ok (.ifCond .eq 22, 3) := by decide +kernel
theorem dX11_horse_18 : decode cX11_horse 18 = .ok (.iload_n 2, 1) := by decide +kernel
theorem dX11_horse_19 : decode cX11_horse 19 = .ok (.iconst 1, 1) := by decide +kernel
theorem dX11_horse_20 : decode cX11_horse 20 = .ok (.bipush 9, 2) := by decide +kernel
theorem dX11_horse_22 : decode cX11_horse 22 = .ok (.invokestatic 58, 3) := by decide +kernel
theorem dX11_horse_25 : decode cX11_horse 25 = .ok (.ifCond .eq 12, 3) := by decide +kernel
theorem dX11_horse_28 : decode cX11_horse 28 = .ok (.aload_n 3, 1) := by decide +kernel
theorem dX11_horse_29 : decode cX11_horse 29 = .ok (.getfield 110, 3) := by decide +kernel
theorem dX11_horse_32 : decode cX11_horse 32 = .ok (.bipush 6, 2) := by decide +kernel
theorem dX11_horse_34 : decode cX11_horse 34 = .ok (.if_icmp .lt 5, 3) := by decide +kernel
theorem dX11_horse_37 : decode cX11_horse 37 = .ok (.iconst (-1), 1) := by decide +kernel
theorem dX11_horse_38 : decode cX11_horse 38 = .ok (.ireturn, 1) := by decide +kernel
theorem dX11_horse_39 : decode cX11_horse 39 = .ok (.aload_n 3, 1) := by decide +kernel
theorem dX11_horse_40 : decode cX11_horse 40 = .ok (.getfield 115, 3) := by decide +kernel
theorem dX11_horse_43 : decode cX11_horse 43 = .ok (.aload_n 3, 1) := by decide +kernel
theorem dX11_horse_44 : decode cX11_horse 44 = .ok (.getfield 110, 3) := by decide +kernel
theorem dX11_horse_47 : decode cX11_horse 47 = .ok (.iload_n 1, 1) := by decide +kernel
theorem dX11_horse_48 : decode cX11_horse 48 = .ok (.iastore, 1) := by decide +kernel
theorem dX11_horse_49 : decode cX11_horse 49 = .ok (.aload_n 3, 1) := by decide +kernel
theorem dX11_horse_50 : decode cX11_horse 50 = .ok (.getfield 118, 3) := by decide +kernel
theorem dX11_horse_53 : decode cX11_horse 53 = .ok (.aload_n 3, 1) := by decide +kernel
theorem dX11_horse_54 : decode cX11_horse 54 = .ok (.getfield 110, 3) := by decide +kernel
theorem dX11_horse_57 : decode cX11_horse 57 = .ok (.iload_n 2, 1) := by decide +kernel
theorem dX11_horse_58 : decode cX11_horse 58 = .ok (.iastore, 1) := by decide +kernel
theorem dX11_horse_59 : decode cX11_horse 59 = .ok (.aload_n 3, 1) := by decide +kernel
theorem dX11_horse_60 : decode cX11_horse 60 = .ok (.dup, 1) := by decide +kernel
theorem dX11_horse_61 : decode cX11_horse 61 = .ok (.getfield 110, 3) := by decide +kernel
theorem dX11_horse_64 : decode cX11_horse 64 = .ok (.iconst 1, 1) := by decide +kernel
theorem dX11_horse_65 : decode cX11_horse 65 = .ok (.iadd, 1) := by decide +kernel
theorem dX11_horse_66 : decode cX11_horse 66 = .ok (.putfield 110, 3) := by decide +kernel
theorem dX11_horse_69 : decode cX11_horse 69 = .ok (.aload_n 0, 1) := by decide +kernel
theorem dX11_horse_70 : decode cX11_horse 70 = .ok (.getfield 10, 3) := by decide +kernel
theorem dX11_horse_73 : decode cX11_horse 73 = .ok (.invokevirtual 71, 3) := by decide +kernel
theorem dX11_horse_76 : decode cX11_horse 76 = .ok (.aload_n 3, 1) := by decide +kernel
theorem dX11_horse_77 : decode cX11_horse 77 = .ok (.getfield 110, 3) := by decide +kernel
theorem dX11_horse_80 : decode cX11_horse 80 = .ok (.iconst 1, 1) := by decide +kernel
theorem dX11_horse_81 : decode cX11_horse 81 = .ok (.isub, 1) := by decide +kernel
theorem dX11_horse_82 : decode cX11_horse 82 = .ok (.ireturn, 1) := by decide +kernel
theorem dX11_weather_0 : decode cX11_weather 0 = .ok (.iload_n 1, 1) := by decide +kernel
theorem dX11_weather_1 : decode cX11_weather 1 = .ok (.iconst 0, 1) := by decide +kernel
theorem dX11_weather_2 : decode cX11_weather 2 = .ok (.bipush 10, 2) := by decide +kernel
theorem dX11_weather_4 : decode cX11_weather 4 = .ok (.invokestatic 58, 3) := by decide +kernel
theorem dX11_weather_7 : decode cX11_weather 7 = .ok (.ifCond .eq 14, 3) := by decide +kernel
theorem dX11_weather_10 : decode cX11_weather 10 = .ok (.iload_n 2, 1) := by decide +kernel
theorem dX11_weather_11 : decode cX11_weather 11 = .ok (.iconst 0, 1) := by decide +kernel
theorem dX11_weather_12 : decode cX11_weather 12 = .ok (.sipush 9999, 3) := by decide +kernel
theorem dX11_weather_15 : decode cX11_weather 15 = .ok (.invokestatic 58, 3) := by decide +kernel
theorem dX11_weather_18 : decode cX11_weather 18 = .ok (.ifCond .ne 5, 3) := by decide +kernel
theorem dX11_weather_21 : decode cX11_weather 21 = .ok (.iconst 0, 1) := by decide +kernel
theorem dX11_weather_22 : decode cX11_weather 22 = .ok (.ireturn, 1) := by decide +kernel
theorem dX11_weather_23 : decode cX11_weather 23 = .ok (.aload_n 0, 1) := by decide +kernel
theorem dX11_weather_24 : decode cX11_weather 24 = .ok (.getfield 27, 3) := by decide +kernel
theorem dX11_weather_27 : decode cX11_weather 27 = .ok (.iload_n 1, 1) := by decide +kernel
theorem dX11_weather_28 : decode cX11_weather 28 = .ok (.putfield 121, 3) := by decide +kernel
theorem dX11_weather_31 : decode cX11_weather 31 = .ok (.aload_n 0, 1) := by decide +kernel
theorem dX11_weather_32 : decode cX11_weather 32 = .ok (.getfield 27, 3) := by decide +kernel
theorem dX11_weather_35 : decode cX11_weather 35 = .ok (.getfield 84, 3) := by decide +kernel
theorem dX11_weather_38 : decode cX11_weather 38 = .ok (.iload_n 2, 1) := by decide +kernel
theorem dX11_weather_39 : decode cX11_weather 39 = .ok (.bipush 7, 2) := by decide +kernel
theorem dX11_weather_41 : decode cX11_weather 41 = .ok (.imul, 1) := by decide +kernel
theorem dX11_weather_42 : decode cX11_weather 42 = .ok (.bipush 13, 2) := by decide +kernel
theorem dX11_weather_44 : decode cX11_weather 44 = .ok (.iadd, 1) := by decide +kernel
theorem dX11_weather_45 : decode cX11_weather 45 = .ok (.putfield 124, 3) := by decide +kernel
theorem dX11_weather_48 : decode cX11_weather 48 = .ok (.iconst 1, 1) := by decide +kernel
theorem dX11_weather_49 : decode cX11_weather 49 = .ok (.ireturn, 1) := by decide +kernel
theorem dX11_end_0 : decode cX11_end 0 = .ok (.iload_n 1, 1) := by decide +kernel
theorem dX11_end_1 : decode cX11_end 1 = .ok (.iconst 0, 1) := by decide +kernel
theorem dX11_end_2 : decode cX11_end 2 = .ok (.aload_n 0, 1) := by decide +kernel
theorem dX11_end_3 : decode cX11_end 3 = .ok (.getfield 39, 3) := by decide +kernel
theorem dX11_end_6 : decode cX11_end 6 = .ok (.getfield 127, 3) := by decide +kernel
theorem dX11_end_9 : decode cX11_end 9 = .ok (.getfield 131, 3) := by decide +kernel
theorem dX11_end_12 : decode cX11_end 12 = .ok (.invokestatic 58, 3) := by decide +kernel
theorem dX11_end_15 : decode cX11_end 15 = .ok (.ifCond .ne 5, 3) := by decide +kernel
theorem dX11_end_18 : decode cX11_end 18 = .ok (.iconst (-1), 1) := by decide +kernel
theorem dX11_end_19 : decode cX11_end 19 = .ok (.ireturn, 1) := by decide +kernel
theorem dX11_end_20 : decode cX11_end 20 = .ok (.aload_n 0, 1) := by decide +kernel
theorem dX11_end_21 : decode cX11_end 21 = .ok (.getfield 39, 3) := by decide +kernel
theorem dX11_end_24 : decode cX11_end 24 = .ok (.getfield 127, 3) := by decide +kernel
theorem dX11_end_27 : decode cX11_end 27 = .ok (.iload_n 1, 1) := by decide +kernel
theorem dX11_end_28 : decode cX11_end 28 = .ok (.putfield 131, 3) := by decide +kernel
theorem dX11_end_31 : decode cX11_end 31 = .ok (.iload_n 1, 1) := by decide +kernel
theorem dX11_end_32 : decode cX11_end 32 = .ok (.ireturn, 1) := by decide +kernel
theorem dX11_fault_0 : decode cX11_fault 0 = .ok (.iload_n 1, 1) := by decide +kernel
theorem dX11_fault_1 : decode cX11_fault 1 = .ok (.ifCond .ne 11, 3) := by decide +kernel
theorem dX11_fault_4 : decode cX11_fault 4 = .ok (.aload_n 0, 1) := by decide +kernel
theorem dX11_fault_5 : decode cX11_fault 5 = .ok (.getfield 39, 3) := by decide +kernel
theorem dX11_fault_8 : decode cX11_fault 8 = .ok (.getfield 150, 3) := by decide +kernel
theorem dX11_fault_11 : decode cX11_fault 11 = .ok (.ireturn, 1) := by decide +kernel
theorem dX11_fault_12 : decode cX11_fault 12 = .ok (.iload_n 1, 1) := by decide +kernel
theorem dX11_fault_13 : decode cX11_fault 13 = .ok (.iconst 1, 1) := by decide +kernel
theorem dX11_fault_14 : decode cX11_fault 14 = .ok (.if_icmp .ne 13, 3) := by decide +kernel
theorem dX11_fault_17 : decode cX11_fault 17 = .ok (.aload_n 0, 1) := by decide +kernel
theorem dX11_fault_18 : decode cX11_fault 18 = .ok (.getfield 39, 3) := by decide +kernel
theorem dX11_fault_21 : decode cX11_fault 21 = .ok (.getfield 153, 3) := by decide +kernel
theorem dX11_fault_24 : decode cX11_fault 24 = .ok (.goto 4, 3) := by decide +kernel
theorem dX11_fault_27 : decode cX11_fault 27 = .ok (.iconst (-1), 1) := by decide +kernel
theorem dX11_fault_28 : decode cX11_fault 28 = .ok (.ireturn, 1) := by decide +kernel
theorem dX11_by_0 : decode cX11_by 0 = .ok (.iload_n 1, 1) := by decide +kernel
theorem dX11_by_1 : decode cX11_by 1 = .ok (.iconst (-1), 1) := by decide +kernel
theorem dX11_by_2 : decode cX11_by 2 = .ok (.aload_n 0, 1) := by decide +kernel
theorem dX11_by_3 : decode cX11_by 3 = .ok (.getfield 27, 3) := by decide +kernel
theorem dX11_by_6 : decode cX11_by 6 = .ok (.getfield 140, 3) := by decide +kernel
theorem dX11_by_9 : decode cX11_by 9 = .ok (.iconst 1, 1) := by decide +kernel
theorem dX11_by_10 : decode cX11_by 10 = .ok (.isub, 1) := by decide +kernel
theorem dX11_by_11 : decode cX11_by 11 = .ok (.invokestatic 58, 3) := by decide +kernel
theorem dX11_by_14 : decode cX11_by 14 = .ok (.ifCond .ne 5, 3) := by decide +kernel
theorem dX11_by_17 : decode cX11_by 17 = .ok (.iconst 0, 1) := by decide +kernel
theorem dX11_by_18 : decode cX11_by 18 = .ok (.ireturn, 1) := by decide +kernel
theorem dX11_by_19 : decode cX11_by 19 = .ok (.aload_n 0, 1) := by decide +kernel
theorem dX11_by_20 : decode cX11_by 20 = .ok (.getfield 27, 3) := by decide +kernel
theorem dX11_by_23 : decode cX11_by 23 = .ok (.iload_n 1, 1) := by decide +kernel
theorem dX11_by_24 : decode cX11_by 24 = .ok (.putfield 156, 3) := by decide +kernel
theorem dX11_by_27 : decode cX11_by 27 = .ok (.aload_n 0, 1) := by decide +kernel
theorem dX11_by_28 : decode cX11_by 28 = .ok (.getfield 10, 3) := by decide +kernel
theorem dX11_by_31 : decode cX11_by 31 = .ok (.invokevirtual 71, 3) := by decide +kernel
theorem dX11_by_34 : decode cX11_by 34 = .ok (.iconst 1, 1) := by decide +kernel
theorem dX11_by_35 : decode cX11_by 35 = .ok (.ireturn, 1) := by decide +kernel
theorem dX11_start_0 : decode cX11_start 0 = .ok (.iload_n 1, 1) := by decide +kernel
theorem dX11_start_1 : decode cX11_start 1 = .ok (.invokestatic 54, 3) := by decide +kernel
theorem dX11_start_4 : decode cX11_start 4 = .ok (.ifCond .ne 5, 3) := by decide +kernel
theorem dX11_start_7 : decode cX11_start 7 = .ok (.iconst 0, 1) := by decide +kernel
theorem dX11_start_8 : decode cX11_start 8 = .ok (.ireturn, 1) := by decide +kernel
theorem dX11_start_9 : decode cX11_start 9 = .ok (.aload_n 0, 1) := by decide +kernel
theorem dX11_start_10 : decode cX11_start 10 = .ok (.getfield 27, 3) := by decide +kernel
theorem dX11_start_13 : decode cX11_start 13 = .ok (.getfield 84, 3) := by decide +kernel
theorem dX11_start_16 : decode cX11_start 16 = .ok (.iload_n 1, 1) := by decide +kernel
theorem dX11_start_17 : decode cX11_start 17 = .ok (.putfield 159, 3) := by decide +kernel
theorem dX11_start_20 : decode cX11_start 20 = .ok (.aload_n 0, 1) := by decide +kernel
theorem dX11_start_21 : decode cX11_start 21 = .ok (.getfield 27, 3) := by decide +kernel
theorem dX11_start_24 : decode cX11_start 24 = .ok (.getfield 84, 3) := by decide +kernel
theorem dX11_start_27 : decode cX11_start 27 = .ok (.iconst 0, 1) := by decide +kernel
theorem dX11_start_28 : decode cX11_start 28 = .ok (.putfield 162, 3) := by decide +kernel
theorem dX11_start_31 : decode cX11_start 31 = .ok (.aload_n 0, 1) := by decide +kernel
theorem dX11_start_32 : decode cX11_start 32 = .ok (.getfield 27, 3) := by decide +kernel
theorem dX11_start_35 : decode cX11_start 35 = .ok (.getfield 84, 3) := by decide +kernel
theorem dX11_start_38 : decode cX11_start 38 = .ok (.iconst 0, 1) := by decide +kernel
theorem dX11_start_39 : decode cX11_start 39 = .ok (.putfield 165, 3) := by decide +kernel
theorem dX11_start_42 : decode cX11_start 42 = .ok (.aload_n 0, 1) := by decide +kernel
theorem dX11_start_43 : decode cX11_start 43 = .ok (.getfield 27, 3) := by decide +kernel
theorem dX11_start_46 : decode cX11_start 46 = .ok (.getfield 96, 3) := by decide +kernel
theorem dX11_start_49 : decode cX11_start 49 = .ok (.iconst 0, 1) := by decide +kernel
theorem dX11_start_50 : decode cX11_start 50 = .ok (.putfield 168, 3) := by decide +kernel
theorem dX11_start_53 : decode cX11_start 53 = .ok (.iconst 1, 1) := by decide +kernel
theorem dX11_start_54 : decode cX11_start 54 = .ok (.ireturn, 1) := by decide +kernel
theorem dX11_would_0 : decode cX11_would 0 = .ok (.aload_n 0, 1) := by decide +kernel
theorem dX11_would_1 : decode cX11_would 1 = .ok (.iload_n 1, 1) := by decide +kernel
theorem dX11_would_2 : decode cX11_would 2 = .ok (.invokevirtual 171, 3) := by decide +kernel
theorem dX11_would_5 : decode cX11_would 5 = .ok (.ifCond .eq 10, 3) := by decide +kernel
theorem dX11_would_8 : decode cX11_would 8 = .ok (.iload_n 2, 1) := by decide +kernel
theorem dX11_would_9 : decode cX11_would 9 = .ok (.invokestatic 54, 3) := by decide +kernel
theorem dX11_would_12 : decode cX11_would 12 = .ok (.ifCond .ne 5, 3) := by decide +kernel
theorem dX11_would_15 : decode cX11_would 15 = .ok (.iconst (-1), 1) := by decide +kernel
theorem dX11_would_16 : decode cX11_would 16 = .ok (.ireturn, 1) := by decide +kernel
theorem dX11_would_17 : decode cX11_would 17 = .ok (.iload_n 3, 1) := by decide +kernel
theorem dX11_would_18 : decode cX11_would 18 = .ok (.iconst 2, 1) := by decide +kernel
theorem dX11_would_19 : decode cX11_would 19 = .ok (.if_icmp .ne 20, 3) := by decide +kernel
theorem dX11_would_22 : decode cX11_would 22 = .ok (.aload_n 0, 1) := by decide +kernel
theorem dX11_would_23 : decode cX11_would 23 = .ok (.getfield 20, 3) := by decide +kernel
theorem dX11_would_26 : decode cX11_would 26 = .ok (.aload_n 0, 1) := by decide +kernel
theorem dX11_would_27 : decode cX11_would 27 = .ok (.getfield 20, 3) := by decide +kernel
theorem dX11_would_30 : decode cX11_would 30 = .ok (.invokevirtual 174, 3) := by decide +kernel
theorem dX11_would_33 : decode cX11_would 33 = .ok (.iload_n 1, 1) := by decide +kernel
theorem dX11_would_34 : decode cX11_would 34 = .ok (.iload_n 2, 1) := by decide +kernel
theorem dX11_would_35 : decode cX11_would 35 = .ok (.invokevirtual 177, 3) := by decide +kernel
theorem dX11_would_38 : decode cX11_would 38 = .ok (.ireturn, 1) := by decide +kernel
theorem dX11_would_39 : decode cX11_would 39 = .ok (.iload_n 3, 1) := by decide +kernel
theorem dX11_would_40 : decode cX11_would 40 = .ok (.ifCond .eq 10, 3) := by decide +kernel
theorem dX11_would_43 : decode cX11_would 43 = .ok (.iload_n 3, 1) := by decide +kernel
theorem dX11_would_44 : decode cX11_would 44 = .ok (.iconst 1, 1) := by decide +kernel
theorem dX11_would_45 : decode cX11_would 45 = .ok (.if_icmp .eq 5, 3) := by decide +kernel
theorem dX11_would_48 : decode cX11_would 48 = .ok (.iconst (-1), 1) := by decide +kernel
theorem dX11_would_49 : decode cX11_would 49 = .ok (.ireturn, 1) := by decide +kernel
theorem dX11_would_50 : decode cX11_would 50 = .ok (.aload_n 0, 1) := by decide +kernel
theorem dX11_would_51 : decode cX11_would 51 = .ok (.getfield 10, 3) := by decide +kernel
theorem dX11_would_54 : decode cX11_would 54 = .ok (.iload_n 1, 1) := by decide +kernel
theorem dX11_would_55 : decode cX11_would 55 = .ok (.iload_n 2, 1) := by decide +kernel
theorem dX11_would_56 : decode cX11_would 56 = .ok (.invokevirtual 181, 3) := by decide +kernel
theorem dX11_would_59 : decode cX11_would 59 = .ok (.istore 4, 2) := by decide +kernel
theorem dX11_would_61 : decode cX11_would 61 = .ok (.iload_n 3, 1) := by decide +kernel
theorem dX11_would_62 : decode cX11_would 62 = .ok (.ifCond .ne 16, 3) := by decide +kernel
theorem dX11_would_65 : decode cX11_would 65 = .ok (.aload_n 0, 1) := by decide +kernel
theorem dX11_would_66 : decode cX11_would 66 = .ok (.getfield 10, 3) := by decide +kernel
theorem dX11_would_69 : decode cX11_would 69 = .ok (.getfield 185, 3) := by decide +kernel
theorem dX11_would_72 : decode cX11_would 72 = .ok (.iload 4, 2) := by decide +kernel
theorem dX11_would_74 : decode cX11_would 74 = .ok (.iaload, 1) := by decide +kernel
theorem dX11_would_75 : decode cX11_would 75 = .ok (.goto 13, 3) := by decide +kernel
theorem dX11_would_78 : decode cX11_would 78 = .ok (.aload_n 0, 1) := by decide +kernel
theorem dX11_would_79 : decode cX11_would 79 = .ok (.getfield 10, 3) := by decide +kernel
theorem dX11_would_82 : decode cX11_would 82 = .ok (.getfield 188, 3) := by decide +kernel
theorem dX11_would_85 : decode cX11_would 85 = .ok (.iload 4, 2) := by decide +kernel
theorem dX11_would_87 : decode cX11_would 87 = .ok (.iaload, 1) := by decide +kernel
theorem dX11_would_88 : decode cX11_would 88 = .ok (.ireturn, 1) := by decide +kernel
theorem dX11_driveByHand_0 : decode cX11_driveByHand 0 = .ok (.aload_n 0, 1) := by decide +kernel
theorem dX11_driveByHand_1 : decode cX11_driveByHand 1 = .ok (.getfield 27, 3) := by decide +kernel
theorem dX11_driveByHand_4 : decode cX11_driveByHand 4 = .ok (.getfield 84, 3) := by decide +kernel
theorem dX11_driveByHand_7 : decode cX11_driveByHand 7 = .ok (.astore_n 2, 1) := by decide +kernel
theorem dX11_driveByHand_8 : decode cX11_driveByHand 8 = .ok (.aload_n 0, 1) := by decide +kernel
theorem dX11_driveByHand_9 : decode cX11_driveByHand 9 = .ok (.iload_n 1, 1) := by decide +kernel
theorem dX11_driveByHand_10 : decode cX11_driveByHand 10 = .ok (.invokevirtual 171, 3) := by decide +kernel
theorem dX11_driveByHand_13 : decode cX11_driveByHand 13 = .ok (.ifCond .eq 13, 3) := by decide +kernel
theorem dX11_driveByHand_16 : decode cX11_driveByHand 16 = .ok (.aload_n 2, 1) := by decide +kernel
theorem dX11_driveByHand_17 : decode cX11_driveByHand 17 = .ok (.getfield 159, 3) := by decide +kernel
theorem dX11_driveByHand_20 : decode cX11_driveByHand 20 = .ok (.sipush 299, 3) := by decide +kernel
theorem dX11_driveByHand_23 : decode cX11_driveByHand 23 = .ok (.if_icmp .lt 5, 3) := by decide +kernel
theorem dX11_driveByHand_26 : decode cX11_driveByHand 26 = .ok (.iconst 0, 1) := by decide +kernel
theorem dX11_driveByHand_27 : decode cX11_driveByHand 27 = .ok (.ireturn, 1) := by decide +kernel
theorem dX11_driveByHand_28 : decode cX11_driveByHand 28 = .ok (.aload_n 0, 1) := by decide +kernel
theorem dX11_driveByHand_29 : decode cX11_driveByHand 29 = .ok (.getfield 27, 3) := by decide +kernel
theorem dX11_driveByHand_32 : decode cX11_driveByHand 32 = .ok (.getfield 96, 3) := by decide +kernel
theorem dX11_driveByHand_35 : decode cX11_driveByHand 35 = .ok (.aload_n 2, 1) := by decide +kernel
theorem dX11_driveByHand_36 : decode cX11_driveByHand 36 = .ok (.invokevirtual 100, 3) := by decide +kernel
theorem dX11_driveByHand_39 : decode cX11_driveByHand 39 = .ok (.aload_n 0, 1) := by decide +kernel
theorem dX11_driveByHand_40 : decode cX11_driveByHand 40 = .ok (.getfield 20, 3) := by decide +kernel
theorem dX11_driveByHand_43 : decode cX11_driveByHand 43 = .ok (.aload_n 0, 1) := by decide +kernel
theorem dX11_driveByHand_44 : decode cX11_driveByHand 44 = .ok (.getfield 20, 3) := by decide +kernel
theorem dX11_driveByHand_47 : decode cX11_driveByHand 47 = .ok (.invokevirtual 174, 3) := by decide +kernel
theorem dX11_driveByHand_50 : decode cX11_driveByHand 50 = .ok (.iload_n 1, 1) := by decide +kernel
theorem dX11_driveByHand_51 : decode cX11_driveByHand 51 = .ok (.aload_n 2, 1) := by decide +kernel
theorem dX11_driveByHand_52 : decode cX11_driveByHand 52 = .ok (.getfield 159, 3) := by decide +kernel
theorem dX11_driveByHand_55 : decode cX11_driveByHand 55 = .ok (.iconst 1, 1) := by decide +kernel
theorem dX11_driveByHand_56 : decode cX11_driveByHand 56 = .ok (.invokevirtual 280, 3) := by decide +kernel
theorem dX11_driveByHand_59 : decode cX11_driveByHand 59 = .ok (.aload_n 2, 1) := by decide +kernel
theorem dX11_driveByHand_60 : decode cX11_driveByHand 60 = .ok (.aload_n 0, 1) := by decide +kernel
theorem dX11_driveByHand_61 : decode cX11_driveByHand 61 = .ok (.getfield 20, 3) := by decide +kernel
theorem dX11_driveByHand_64 : decode cX11_driveByHand 64 = .ok (.getfield 284, 3) := by decide +kernel
theorem dX11_driveByHand_67 : decode cX11_driveByHand 67 = .ok (.putfield 159, 3) := by decide +kernel
theorem dX11_driveByHand_70 : decode cX11_driveByHand 70 = .ok (.aload_n 2, 1) := by decide +kernel
theorem dX11_driveByHand_71 : decode cX11_driveByHand 71 = .ok (.dup, 1) := by decide +kernel
theorem dX11_driveByHand_72 : decode cX11_driveByHand 72 = .ok (.getfield 162, 3) := by decide +kernel
theorem dX11_driveByHand_75 : decode cX11_driveByHand 75 = .ok (.aload_n 0, 1) := by decide +kernel
theorem dX11_driveByHand_76 : decode cX11_driveByHand 76 = .ok (.getfield 20, 3) := by decide +kernel
theorem dX11_driveByHand_79 : decode cX11_driveByHand 79 = .ok (.getfield 287, 3) := by decide +kernel
theorem dX11_driveByHand_82 : decode cX11_driveByHand 82 = .ok (.iadd, 1) := by decide +kernel
theorem dX11_driveByHand_83 : decode cX11_driveByHand 83 = .ok (.putfield 162, 3) := by decide +kernel
theorem dX11_driveByHand_86 : decode cX11_driveByHand 86 = .ok (.aload_n 2, 1) := by decide +kernel
theorem dX11_driveByHand_87 : decode cX11_driveByHand 87 = .ok (.dup, 1) := by decide +kernel
theorem dX11_driveByHand_88 : decode cX11_driveByHand 88 = .ok (.getfield 165, 3) := by decide +kernel
theorem dX11_driveByHand_91 : decode cX11_driveByHand 91 = .ok (.iconst 1, 1) := by decide +kernel
theorem dX11_driveByHand_92 : decode cX11_driveByHand 92 = .ok (.iadd, 1) := by decide +kernel
theorem dX11_driveByHand_93 : decode cX11_driveByHand 93 = .ok (.putfield 165, 3) := by decide +kernel
theorem dX11_driveByHand_96 : decode cX11_driveByHand 96 = .ok (.iconst 1, 1) := by decide +kernel
theorem dX11_driveByHand_97 : decode cX11_driveByHand 97 = .ok (.ireturn, 1) := by decide +kernel
theorem dX11_drive_0 : decode cX11_drive 0 = .ok (.aload_n 0, 1) := by decide +kernel
theorem dX11_drive_1 : decode cX11_drive 1 = .ok (.iload_n 1, 1) := by decide +kernel
theorem dX11_drive_2 : decode cX11_drive 2 = .ok (.invokevirtual 191, 3) := by decide +kernel
theorem dX11_drive_5 : decode cX11_drive 5 = .ok (.ifCond .eq 16, 3) := by decide +kernel
theorem dX11_drive_8 : decode cX11_drive 8 = .ok (.aload_n 0, 1) := by decide +kernel
theorem dX11_drive_9 : decode cX11_drive 9 = .ok (.getfield 27, 3) := by decide +kernel
theorem dX11_drive_12 : decode cX11_drive 12 = .ok (.getfield 84, 3) := by decide +kernel
theorem dX11_drive_15 : decode cX11_drive 15 = .ok (.getfield 159, 3) := by decide +kernel
theorem dX11_drive_18 : decode cX11_drive 18 = .ok (.goto 4, 3) := by decide +kernel
theorem dX11_drive_21 : decode cX11_drive 21 = .ok (.iconst (-1), 1) := by decide +kernel
theorem dX11_drive_22 : decode cX11_drive 22 = .ok (.ireturn, 1) := by decide +kernel
theorem dX11_played_0 : decode cX11_played 0 = .ok (.iload_n 1, 1) := by decide +kernel
theorem dX11_played_1 : decode cX11_played 1 = .ok (.iconst 0, 1) := by decide +kernel
theorem dX11_played_2 : decode cX11_played 2 = .ok (.aload_n 0, 1) := by decide +kernel
theorem dX11_played_3 : decode cX11_played 3 = .ok (.getfield 27, 3) := by decide +kernel
theorem dX11_played_6 : decode cX11_played 6 = .ok (.getfield 140, 3) := by decide +kernel
theorem dX11_played_9 : decode cX11_played 9 = .ok (.iconst 1, 1) := by decide +kernel
theorem dX11_played_10 : decode cX11_played 10 = .ok (.isub, 1) := by decide +kernel
theorem dX11_played_11 : decode cX11_played 11 = .ok (.invokestatic 58, 3) := by decide +kernel
theorem dX11_played_14 : decode cX11_played 14 = .ok (.ifCond .ne 6, 3) := by decide +kernel
theorem dX11_played_17 : decode cX11_played 17 = .ok (.bipush (-2), 2) := by decide +kernel
theorem dX11_played_19 : decode cX11_played 19 = .ok (.ireturn, 1) := by decide +kernel
theorem dX11_played_20 : decode cX11_played 20 = .ok (.aload_n 0, 1) := by decide +kernel
theorem dX11_played_21 : decode cX11_played 21 = .ok (.getfield 20, 3) := by decide +kernel
theorem dX11_played_24 : decode cX11_played 24 = .ok (.getfield 143, 3) := by decide +kernel
theorem dX11_played_27 : decode cX11_played 27 = .ok (.iload_n 1, 1) := by decide +kernel
theorem dX11_played_28 : decode cX11_played 28 = .ok (.aaload, 1) := by decide +kernel
theorem dX11_played_29 : decode cX11_played 29 = .ok (.astore_n 2, 1) := by decide +kernel
theorem dX11_played_30 : decode cX11_played 30 = .ok (.iconst 0, 1) := by decide +kernel
theorem dX11_played_31 : decode cX11_played 31 = .ok (.istore_n 3, 1) := by decide +kernel
theorem dX11_played_32 : decode cX11_played 32 = .ok (.iload_n 3, 1) := by decide +kernel
theorem dX11_played_33 : decode cX11_played 33 = .ok (.aload_n 2, 1) := by decide +kernel
theorem dX11_played_34 : decode cX11_played 34 = .ok (.getfield 200, 3) := by decide +kernel
theorem dX11_played_37 : decode cX11_played 37 = .ok (.if_icmp .ge 57, 3) := by decide +kernel
theorem dX11_played_40 : decode cX11_played 40 = .ok (.aload_n 2, 1) := by decide +kernel
theorem dX11_played_41 : decode cX11_played 41 = .ok (.getfield 205, 3) := by decide +kernel
theorem dX11_played_44 : decode cX11_played 44 = .ok (.iload_n 3, 1) := by decide +kernel
theorem dX11_played_45 : decode cX11_played 45 = .ok (.iaload, 1) := by decide +kernel
theorem dX11_played_46 : decode cX11_played 46 = .ok (.istore 4, 2) := by decide +kernel
theorem dX11_played_48 : decode cX11_played 48 = .ok (.aload_n 2, 1) := by decide +kernel
theorem dX11_played_49 : decode cX11_played 49 = .ok (.getfield 208, 3) := by decide +kernel
theorem dX11_played_52 : decode cX11_played 52 = .ok (.iload_n 3, 1) := by decide +kernel
theorem dX11_played_53 : decode cX11_played 53 = .ok (.iaload, 1) := by decide +kernel
theorem dX11_played_54 : decode cX11_played 54 = .ok (.istore 5, 2) := by decide +kernel
theorem dX11_played_56 : decode cX11_played 56 = .ok (.iload 4, 2) := by decide +kernel
theorem dX11_played_58 : decode cX11_played 58 = .ok (.iconst 4, 1) := by decide +kernel
theorem dX11_played_59 : decode cX11_played 59 = .ok (.if_icmp .ne 12, 3) := by decide +kernel
theorem dX11_played_62 : decode cX11_played 62 = .ok (.aload_n 0, 1) := by decide +kernel
theorem dX11_played_63 : decode cX11_played 63 = .ok (.iload 5, 2) := by decide +kernel
theorem dX11_played_65 : decode cX11_played 65 = .ok (.invokevirtual 191, 3) := by decide +kernel
theorem dX11_played_68 : decode cX11_played 68 = .ok (.ifCond .eq 18, 3) := by decide +kernel
theorem dX11_played_71 : decode cX11_played 71 = .ok (.iload 4, 2) := by decide +kernel
theorem dX11_played_73 : decode cX11_played 73 = .ok (.iconst 5, 1) := by decide +kernel
theorem dX11_played_74 : decode cX11_played 74 = .ok (.if_icmp .ne 14, 3) := by decide +kernel
theorem dX11_played_77 : decode cX11_played 77 = .ok (.aload_n 0, 1) := by decide +kernel
theorem dX11_played_78 : decode cX11_played 78 = .ok (.iload 5, 2) := by decide +kernel
theorem dX11_played_80 : decode cX11_played 80 = .ok (.invokevirtual 194, 3) := by decide +kernel
theorem dX11_played_83 : decode cX11_played 83 = .ok (.ifCond .ne 5, 3) := by decide +kernel
theorem dX11_played_86 : decode cX11_played 86 = .ok (.iload_n 3, 1) := by decide +kernel
theorem dX11_played_87 : decode cX11_played 87 = .ok (.ireturn, 1) := by decide +kernel
theorem dX11_played_88 : decode cX11_played 88 = .ok (.iinc 3 1, 3) := by decide +kernel
theorem dX11_played_91 : decode cX11_played 91 = .ok (.goto (-59), 3) := by decide +kernel
theorem dX11_played_94 : decode cX11_played 94 = .ok (.iconst (-1), 1) := by decide +kernel
theorem dX11_played_95 : decode cX11_played 95 = .ok (.ireturn, 1) := by decide +kernel
theorem dX11_coach_0 : decode cX11_coach 0 = .ok (.iload_n 1, 1) := by decide +kernel
theorem dX11_coach_1 : decode cX11_coach 1 = .ok (.tableswitch 75 0 3 #[31, 42, 53, 64], 31) := by decide +kernel
theorem dX11_coach_32 : decode cX11_coach 32 = .ok (.aload_n 0, 1) := by decide +kernel
theorem dX11_coach_33 : decode cX11_coach 33 = .ok (.getfield 27, 3) := by decide +kernel
theorem dX11_coach_36 : decode cX11_coach 36 = .ok (.getfield 84, 3) := by decide +kernel
theorem dX11_coach_39 : decode cX11_coach 39 = .ok (.getfield 159, 3) := by decide +kernel
theorem dX11_coach_42 : decode cX11_coach 42 = .ok (.ireturn, 1) := by decide +kernel
theorem dX11_coach_43 : decode cX11_coach 43 = .ok (.aload_n 0, 1) := by decide +kernel
theorem dX11_coach_44 : decode cX11_coach 44 = .ok (.getfield 27, 3) := by decide +kernel
theorem dX11_coach_47 : decode cX11_coach 47 = .ok (.getfield 84, 3) := by decide +kernel
theorem dX11_coach_50 : decode cX11_coach 50 = .ok (.getfield 162, 3) := by decide +kernel
theorem dX11_coach_53 : decode cX11_coach 53 = .ok (.ireturn, 1) := by decide +kernel
theorem dX11_coach_54 : decode cX11_coach 54 = .ok (.aload_n 0, 1) := by decide +kernel
theorem dX11_coach_55 : decode cX11_coach 55 = .ok (.getfield 27, 3) := by decide +kernel
theorem dX11_coach_58 : decode cX11_coach 58 = .ok (.getfield 84, 3) := by decide +kernel
theorem dX11_coach_61 : decode cX11_coach 61 = .ok (.getfield 165, 3) := by decide +kernel
theorem dX11_coach_64 : decode cX11_coach 64 = .ok (.ireturn, 1) := by decide +kernel
theorem dX11_coach_65 : decode cX11_coach 65 = .ok (.aload_n 0, 1) := by decide +kernel
theorem dX11_coach_66 : decode cX11_coach 66 = .ok (.getfield 27, 3) := by decide +kernel
theorem dX11_coach_69 : decode cX11_coach 69 = .ok (.getfield 84, 3) := by decide +kernel
theorem dX11_coach_72 : decode cX11_coach 72 = .ok (.invokevirtual 215, 3) := by decide +kernel
theorem dX11_coach_75 : decode cX11_coach 75 = .ok (.ireturn, 1) := by decide +kernel
theorem dX11_coach_76 : decode cX11_coach 76 = .ok (.iconst (-1), 1) := by decide +kernel
theorem dX11_coach_77 : decode cX11_coach 77 = .ok (.ireturn, 1) := by decide +kernel
theorem dX11_seen_0 : decode cX11_seen 0 = .ok (.iload_n 1, 1) := by decide +kernel
theorem dX11_seen_1 : decode cX11_seen 1 = .ok (.iconst (-1), 1) := by decide +kernel
theorem dX11_seen_2 : decode cX11_seen 2 = .ok (.if_icmp .ne 13, 3) := by decide +kernel
theorem dX11_seen_5 : decode cX11_seen 5 = .ok (.aload_n 0, 1) := by decide +kernel
theorem dX11_seen_6 : decode cX11_seen 6 = .ok (.getfield 27, 3) := by decide +kernel
theorem dX11_seen_9 : decode cX11_seen 9 = .ok (.iconst 0, 1) := by decide +kernel
theorem dX11_seen_10 : decode cX11_seen 10 = .ok (.putfield 247, 3) := by decide +kernel
theorem dX11_seen_13 : decode cX11_seen 13 = .ok (.iconst 0, 1) := by decide +kernel
theorem dX11_seen_14 : decode cX11_seen 14 = .ok (.ireturn, 1) := by decide +kernel
theorem dX11_seen_15 : decode cX11_seen 15 = .ok (.iload_n 1, 1) := by decide +kernel
theorem dX11_seen_16 : decode cX11_seen 16 = .ok (.invokestatic 54, 3) := by decide +kernel
theorem dX11_seen_19 : decode cX11_seen 19 = .ok (.ifCond .eq 15, 3) := by decide +kernel
theorem dX11_seen_22 : decode cX11_seen 22 = .ok (.aload_n 0, 1) := by decide +kernel
theorem dX11_seen_23 : decode cX11_seen 23 = .ok (.getfield 27, 3) := by decide +kernel
theorem dX11_seen_26 : decode cX11_seen 26 = .ok (.getfield 247, 3) := by decide +kernel
theorem dX11_seen_29 : decode cX11_seen 29 = .ok (.bipush 6, 2) := by decide +kernel
theorem dX11_seen_31 : decode cX11_seen 31 = .ok (.if_icmp .lt 6, 3) := by decide +kernel
theorem dX11_seen_34 : decode cX11_seen 34 = .ok (.bipush (-2), 2) := by decide +kernel
theorem dX11_seen_36 : decode cX11_seen 36 = .ok (.ireturn, 1) := by decide +kernel
theorem dX11_seen_37 : decode cX11_seen 37 = .ok (.aload_n 0, 1) := by decide +kernel
theorem dX11_seen_38 : decode cX11_seen 38 = .ok (.getfield 27, 3) := by decide +kernel
theorem dX11_seen_41 : decode cX11_seen 41 = .ok (.getfield 250, 3) := by decide +kernel
theorem dX11_seen_44 : decode cX11_seen 44 = .ok (.aload_n 0, 1) := by decide +kernel
theorem dX11_seen_45 : decode cX11_seen 45 = .ok (.getfield 27, 3) := by decide +kernel
theorem dX11_seen_48 : decode cX11_seen 48 = .ok (.getfield 247, 3) := by decide +kernel
theorem dX11_seen_51 : decode cX11_seen 51 = .ok (.iload_n 1, 1) := by decide +kernel
theorem dX11_seen_52 : decode cX11_seen 52 = .ok (.iastore, 1) := by decide +kernel
theorem dX11_seen_53 : decode cX11_seen 53 = .ok (.aload_n 0, 1) := by decide +kernel
theorem dX11_seen_54 : decode cX11_seen 54 = .ok (.getfield 27, 3) := by decide +kernel
theorem dX11_seen_57 : decode cX11_seen 57 = .ok (.dup, 1) := by decide +kernel
theorem dX11_seen_58 : decode cX11_seen 58 = .ok (.getfield 247, 3) := by decide +kernel
theorem dX11_seen_61 : decode cX11_seen 61 = .ok (.iconst 1, 1) := by decide +kernel
theorem dX11_seen_62 : decode cX11_seen 62 = .ok (.iadd, 1) := by decide +kernel
theorem dX11_seen_63 : decode cX11_seen 63 = .ok (.putfield 247, 3) := by decide +kernel
theorem dX11_seen_66 : decode cX11_seen 66 = .ok (.aload_n 0, 1) := by decide +kernel
theorem dX11_seen_67 : decode cX11_seen 67 = .ok (.getfield 27, 3) := by decide +kernel
theorem dX11_seen_70 : decode cX11_seen 70 = .ok (.getfield 247, 3) := by decide +kernel
theorem dX11_seen_73 : decode cX11_seen 73 = .ok (.ireturn, 1) := by decide +kernel
theorem dX11_tried_0 : decode cX11_tried 0 = .ok (.iload_n 1, 1) := by decide +kernel
theorem dX11_tried_1 : decode cX11_tried 1 = .ok (.iconst (-1), 1) := by decide +kernel
theorem dX11_tried_2 : decode cX11_tried 2 = .ok (.if_icmp .ne 13, 3) := by decide +kernel
theorem dX11_tried_5 : decode cX11_tried 5 = .ok (.aload_n 0, 1) := by decide +kernel
theorem dX11_tried_6 : decode cX11_tried 6 = .ok (.getfield 27, 3) := by decide +kernel
theorem dX11_tried_9 : decode cX11_tried 9 = .ok (.iconst 0, 1) := by decide +kernel
theorem dX11_tried_10 : decode cX11_tried 10 = .ok (.putfield 257, 3) := by decide +kernel
theorem dX11_tried_13 : decode cX11_tried 13 = .ok (.iconst 0, 1) := by decide +kernel
theorem dX11_tried_14 : decode cX11_tried 14 = .ok (.ireturn, 1) := by decide +kernel
theorem dX11_tried_15 : decode cX11_tried 15 = .ok (.aload_n 0, 1) := by decide +kernel
theorem dX11_tried_16 : decode cX11_tried 16 = .ok (.iload_n 1, 1) := by decide +kernel
theorem dX11_tried_17 : decode cX11_tried 17 = .ok (.invokevirtual 171, 3) := by decide +kernel
theorem dX11_tried_20 : decode cX11_tried 20 = .ok (.ifCond .eq 29, 3) := by decide +kernel
theorem dX11_tried_23 : decode cX11_tried 23 = .ok (.iload_n 2, 1) := by decide +kernel
theorem dX11_tried_24 : decode cX11_tried 24 = .ok (.invokestatic 54, 3) := by decide +kernel
theorem dX11_tried_27 : decode cX11_tried 27 = .ok (.ifCond .eq 22, 3) := by decide +kernel
theorem dX11_tried_30 : decode cX11_tried 30 = .ok (.iload_n 3, 1) := by decide +kernel
theorem dX11_tried_31 : decode cX11_tried 31 = .ok (.invokestatic 54, 3) := by decide +kernel
theorem dX11_tried_34 : decode cX11_tried 34 = .ok (.ifCond .eq 15, 3) := by decide +kernel
theorem dX11_tried_37 : decode cX11_tried 37 = .ok (.aload_n 0, 1) := by decide +kernel
theorem dX11_tried_38 : decode cX11_tried 38 = .ok (.getfield 27, 3) := by decide +kernel
theorem dX11_tried_41 : decode cX11_tried 41 = .ok (.getfield 257, 3) := by decide +kernel
theorem dX11_tried_44 : decode cX11_tried 44 = .ok (.bipush 10, 2) := by decide +kernel
theorem dX11_tried_46 : decode cX11_tried 46 = .ok (.if_icmp .lt 6, 3) := by decide +kernel
theorem dX11_tried_49 : decode cX11_tried 49 = .ok (.bipush (-2), 2) := by decide +kernel
theorem dX11_tried_51 : decode cX11_tried 51 = .ok (.ireturn, 1) := by decide +kernel
theorem dX11_tried_52 : decode cX11_tried 52 = .ok (.aload_n 0, 1) := by decide +kernel
theorem dX11_tried_53 : decode cX11_tried 53 = .ok (.getfield 27, 3) := by decide +kernel
theorem dX11_tried_56 : decode cX11_tried 56 = .ok (.getfield 260, 3) := by decide +kernel
theorem dX11_tried_59 : decode cX11_tried 59 = .ok (.aload_n 0, 1) := by decide +kernel
theorem dX11_tried_60 : decode cX11_tried 60 = .ok (.getfield 27, 3) := by decide +kernel
theorem dX11_tried_63 : decode cX11_tried 63 = .ok (.getfield 257, 3) := by decide +kernel
theorem dX11_tried_66 : decode cX11_tried 66 = .ok (.iload_n 1, 1) := by decide +kernel
theorem dX11_tried_67 : decode cX11_tried 67 = .ok (.iastore, 1) := by decide +kernel
theorem dX11_tried_68 : decode cX11_tried 68 = .ok (.aload_n 0, 1) := by decide +kernel
theorem dX11_tried_69 : decode cX11_tried 69 = .ok (.getfield 27, 3) := by decide +kernel
theorem dX11_tried_72 : decode cX11_tried 72 = .ok (.getfield 263, 3) := by decide +kernel
theorem dX11_tried_75 : decode cX11_tried 75 = .ok (.aload_n 0, 1) := by decide +kernel
theorem dX11_tried_76 : decode cX11_tried 76 = .ok (.getfield 27, 3) := by decide +kernel
theorem dX11_tried_79 : decode cX11_tried 79 = .ok (.getfield 257, 3) := by decide +kernel
theorem dX11_tried_82 : decode cX11_tried 82 = .ok (.iload_n 2, 1) := by decide +kernel
theorem dX11_tried_83 : decode cX11_tried 83 = .ok (.iastore, 1) := by decide +kernel
theorem dX11_tried_84 : decode cX11_tried 84 = .ok (.aload_n 0, 1) := by decide +kernel
theorem dX11_tried_85 : decode cX11_tried 85 = .ok (.getfield 27, 3) := by decide +kernel
theorem dX11_tried_88 : decode cX11_tried 88 = .ok (.getfield 266, 3) := by decide +kernel
theorem dX11_tried_91 : decode cX11_tried 91 = .ok (.aload_n 0, 1) := by decide +kernel
theorem dX11_tried_92 : decode cX11_tried 92 = .ok (.getfield 27, 3) := by decide +kernel
theorem dX11_tried_95 : decode cX11_tried 95 = .ok (.getfield 257, 3) := by decide +kernel
theorem dX11_tried_98 : decode cX11_tried 98 = .ok (.iload_n 3, 1) := by decide +kernel
theorem dX11_tried_99 : decode cX11_tried 99 = .ok (.iastore, 1) := by decide +kernel
theorem dX11_tried_100 : decode cX11_tried 100 = .ok (.aload_n 0, 1) := by decide +kernel
theorem dX11_tried_101 : decode cX11_tried 101 = .ok (.getfield 27, 3) := by decide +kernel
theorem dX11_tried_104 : decode cX11_tried 104 = .ok (.dup, 1) := by decide +kernel
theorem dX11_tried_105 : decode cX11_tried 105 = .ok (.getfield 257, 3) := by decide +kernel
theorem dX11_tried_108 : decode cX11_tried 108 = .ok (.iconst 1, 1) := by decide +kernel
theorem dX11_tried_109 : decode cX11_tried 109 = .ok (.iadd, 1) := by decide +kernel
theorem dX11_tried_110 : decode cX11_tried 110 = .ok (.putfield 257, 3) := by decide +kernel
theorem dX11_tried_113 : decode cX11_tried 113 = .ok (.aload_n 0, 1) := by decide +kernel
theorem dX11_tried_114 : decode cX11_tried 114 = .ok (.getfield 27, 3) := by decide +kernel
theorem dX11_tried_117 : decode cX11_tried 117 = .ok (.getfield 257, 3) := by decide +kernel
theorem dX11_tried_120 : decode cX11_tried 120 = .ok (.ireturn, 1) := by decide +kernel
theorem dX11_taught_0 : decode cX11_taught 0 = .ok (.iconst 0, 1) := by decide +kernel
theorem dX11_taught_1 : decode cX11_taught 1 = .ok (.istore_n 1, 1) := by decide +kernel
theorem dX11_taught_2 : decode cX11_taught 2 = .ok (.iconst 0, 1) := by decide +kernel
theorem dX11_taught_3 : decode cX11_taught 3 = .ok (.istore_n 2, 1) := by decide +kernel
theorem dX11_taught_4 : decode cX11_taught 4 = .ok (.iload_n 2, 1) := by decide +kernel
theorem dX11_taught_5 : decode cX11_taught 5 = .ok (.aload_n 0, 1) := by decide +kernel
theorem dX11_taught_6 : decode cX11_taught 6 = .ok (.getfield 27, 3) := by decide +kernel
theorem dX11_taught_9 : decode cX11_taught 9 = .ok (.getfield 140, 3) := by decide +kernel
theorem dX11_taught_12 : decode cX11_taught 12 = .ok (.if_icmp .ge 31, 3) := by decide +kernel
theorem dX11_taught_15 : decode cX11_taught 15 = .ok (.aload_n 0, 1) := by decide +kernel
theorem dX11_taught_16 : decode cX11_taught 16 = .ok (.aload_n 0, 1) := by decide +kernel
theorem dX11_taught_17 : decode cX11_taught 17 = .ok (.getfield 20, 3) := by decide +kernel
theorem dX11_taught_20 : decode cX11_taught 20 = .ok (.getfield 143, 3) := by decide +kernel
theorem dX11_taught_23 : decode cX11_taught 23 = .ok (.iload_n 2, 1) := by decide +kernel
theorem dX11_taught_24 : decode cX11_taught 24 = .ok (.aaload, 1) := by decide +kernel
theorem dX11_taught_25 : decode cX11_taught 25 = .ok (.invokevirtual 269, 3) := by decide +kernel
theorem dX11_taught_28 : decode cX11_taught 28 = .ok (.ifCond .eq 9, 3) := by decide +kernel
theorem dX11_taught_31 : decode cX11_taught 31 = .ok (.iload_n 1, 1) := by decide +kernel
theorem dX11_taught_32 : decode cX11_taught 32 = .ok (.iconst 1, 1) := by decide +kernel
theorem dX11_taught_33 : decode cX11_taught 33 = .ok (.iload_n 2, 1) := by decide +kernel
theorem dX11_taught_34 : decode cX11_taught 34 = .ok (.ishl, 1) := by decide +kernel
theorem dX11_taught_35 : decode cX11_taught 35 = .ok (.ior, 1) := by decide +kernel
theorem dX11_taught_36 : decode cX11_taught 36 = .ok (.istore_n 1, 1) := by decide +kernel
theorem dX11_taught_37 : decode cX11_taught 37 = .ok (.iinc 2 1, 3) := by decide +kernel
theorem dX11_taught_40 : decode cX11_taught 40 = .ok (.goto (-36), 3) := by decide +kernel
theorem dX11_taught_43 : decode cX11_taught 43 = .ok (.iload_n 1, 1) := by decide +kernel
theorem dX11_taught_44 : decode cX11_taught 44 = .ok (.ireturn, 1) := by decide +kernel
theorem dX11_never_0 : decode cX11_never 0 = .ok (.iconst 0, 1) := by decide +kernel
theorem dX11_never_1 : decode cX11_never 1 = .ok (.istore_n 1, 1) := by decide +kernel
theorem dX11_never_2 : decode cX11_never 2 = .ok (.iconst 0, 1) := by decide +kernel
theorem dX11_never_3 : decode cX11_never 3 = .ok (.istore_n 2, 1) := by decide +kernel
theorem dX11_never_4 : decode cX11_never 4 = .ok (.iload_n 2, 1) := by decide +kernel
theorem dX11_never_5 : decode cX11_never 5 = .ok (.aload_n 0, 1) := by decide +kernel
theorem dX11_never_6 : decode cX11_never 6 = .ok (.getfield 27, 3) := by decide +kernel
theorem dX11_never_9 : decode cX11_never 9 = .ok (.getfield 84, 3) := by decide +kernel
theorem dX11_never_12 : decode cX11_never 12 = .ok (.getfield 88, 3) := by decide +kernel
theorem dX11_never_15 : decode cX11_never 15 = .ok (.if_icmp .ge 34, 3) := by decide +kernel
theorem dX11_never_18 : decode cX11_never 18 = .ok (.aload_n 0, 1) := by decide +kernel
theorem dX11_never_19 : decode cX11_never 19 = .ok (.aload_n 0, 1) := by decide +kernel
theorem dX11_never_20 : decode cX11_never 20 = .ok (.getfield 27, 3) := by decide +kernel
theorem dX11_never_23 : decode cX11_never 23 = .ok (.getfield 84, 3) := by decide +kernel
theorem dX11_never_26 : decode cX11_never 26 = .ok (.getfield 93, 3) := by decide +kernel
theorem dX11_never_29 : decode cX11_never 29 = .ok (.iload_n 2, 1) := by decide +kernel
theorem dX11_never_30 : decode cX11_never 30 = .ok (.iaload, 1) := by decide +kernel
theorem dX11_never_31 : decode cX11_never 31 = .ok (.invokevirtual 273, 3) := by decide +kernel
theorem dX11_never_34 : decode cX11_never 34 = .ok (.ifCond .ne 9, 3) := by decide +kernel
theorem dX11_never_37 : decode cX11_never 37 = .ok (.iload_n 1, 1) := by decide +kernel
theorem dX11_never_38 : decode cX11_never 38 = .ok (.iconst 1, 1) := by decide +kernel
theorem dX11_never_39 : decode cX11_never 39 = .ok (.iload_n 2, 1) := by decide +kernel
theorem dX11_never_40 : decode cX11_never 40 = .ok (.ishl, 1) := by decide +kernel
theorem dX11_never_41 : decode cX11_never 41 = .ok (.ior, 1) := by decide +kernel
theorem dX11_never_42 : decode cX11_never 42 = .ok (.istore_n 1, 1) := by decide +kernel
theorem dX11_never_43 : decode cX11_never 43 = .ok (.iinc 2 1, 3) := by decide +kernel
theorem dX11_never_46 : decode cX11_never 46 = .ok (.goto (-42), 3) := by decide +kernel
theorem dX11_never_49 : decode cX11_never 49 = .ok (.iload_n 1, 1) := by decide +kernel
theorem dX11_never_50 : decode cX11_never 50 = .ok (.ireturn, 1) := by decide +kernel
theorem dX5_takeBack_0 : decode cX5_takeBack 0 = .ok (.aload_n 0, 1) := by decide +kernel
theorem dX5_takeBack_1 : decode cX5_takeBack 1 = .ok (.getfield 21, 3) := by decide +kernel
theorem dX5_takeBack_4 : decode cX5_takeBack 4 = .ok (.ifCond .ne 5, 3) := by decide +kernel
theorem dX5_takeBack_7 : decode cX5_takeBack 7 = .ok (.iconst 0, 1) := by decide +kernel
theorem dX5_takeBack_8 : decode cX5_takeBack 8 = .ok (.ireturn, 1) := by decide +kernel
theorem dX5_takeBack_9 : decode cX5_takeBack 9 = .ok (.aload_n 0, 1) := by decide +kernel
theorem dX5_takeBack_10 : decode cX5_takeBack 10 = .ok (.aload_n 0, 1) := by decide +kernel
theorem dX5_takeBack_11 : decode cX5_takeBack 11 = .ok (.getfield 17, 3) := by decide +kernel
theorem dX5_takeBack_14 : decode cX5_takeBack 14 = .ok (.bipush 30, 2) := by decide +kernel
theorem dX5_takeBack_16 : decode cX5_takeBack 16 = .ok (.iadd, 1) := by decide +kernel
theorem dX5_takeBack_17 : decode cX5_takeBack 17 = .ok (.iconst 1, 1) := by decide +kernel
theorem dX5_takeBack_18 : decode cX5_takeBack 18 = .ok (.isub, 1) := by decide +kernel
theorem dX5_takeBack_19 : decode cX5_takeBack 19 = .ok (.bipush 30, 2) := by decide +kernel
theorem dX5_takeBack_21 : decode cX5_takeBack 21 = .ok (.irem, 1) := by decide +kernel
theorem dX5_takeBack_22 : decode cX5_takeBack 22 = .ok (.putfield 17, 3) := by decide +kernel
theorem dX5_takeBack_25 : decode cX5_takeBack 25 = .ok (.aload_n 0, 1) := by decide +kernel
theorem dX5_takeBack_26 : decode cX5_takeBack 26 = .ok (.dup, 1) := by decide +kernel
theorem dX5_takeBack_27 : decode cX5_takeBack 27 = .ok (.getfield 21, 3) := by decide +kernel
theorem dX5_takeBack_30 : decode cX5_takeBack 30 = .ok (.iconst 1, 1) := by decide +kernel
theorem dX5_takeBack_31 : decode cX5_takeBack 31 = .ok (.isub, 1) := by decide +kernel
theorem dX5_takeBack_32 : decode cX5_takeBack 32 = .ok (.putfield 21, 3) := by decide +kernel
theorem dX5_takeBack_35 : decode cX5_takeBack 35 = .ok (.aload_n 1, 1) := by decide +kernel
theorem dX5_takeBack_36 : decode cX5_takeBack 36 = .ok (.aload_n 0, 1) := by decide +kernel
theorem dX5_takeBack_37 : decode cX5_takeBack 37 = .ok (.getfield 11, 3) := by decide +kernel
theorem dX5_takeBack_40 : decode cX5_takeBack 40 = .ok (.aload_n 0, 1) := by decide +kernel
theorem dX5_takeBack_41 : decode cX5_takeBack 41 = .ok (.getfield 17, 3) := by decide +kernel
theorem dX5_takeBack_44 : decode cX5_takeBack 44 = .ok (.aaload, 1) := by decide +kernel
theorem dX5_takeBack_45 : decode cX5_takeBack 45 = .ok (.invokevirtual 25, 3) := by decide +kernel
theorem dX5_takeBack_48 : decode cX5_takeBack 48 = .ok (.iconst 1, 1) := by decide +kernel
theorem dX5_takeBack_49 : decode cX5_takeBack 49 = .ok (.ireturn, 1) := by decide +kernel
theorem dX11_undo_0 : decode cX11_undo 0 = .ok (.aload_n 0, 1) := by decide +kernel
theorem dX11_undo_1 : decode cX11_undo 1 = .ok (.getfield 27, 3) := by decide +kernel
theorem dX11_undo_4 : decode cX11_undo 4 = .ok (.getfield 96, 3) := by decide +kernel
theorem dX11_undo_7 : decode cX11_undo 7 = .ok (.aload_n 0, 1) := by decide +kernel
theorem dX11_undo_8 : decode cX11_undo 8 = .ok (.getfield 27, 3) := by decide +kernel
theorem dX11_undo_11 : decode cX11_undo 11 = .ok (.getfield 84, 3) := by decide +kernel
theorem dX11_undo_14 : decode cX11_undo 14 = .ok (.invokevirtual 211, 3) := by decide +kernel
theorem dX11_undo_17 : decode cX11_undo 17 = .ok (.ifCond .ne 5, 3) := by decide +kernel
theorem dX11_undo_20 : decode cX11_undo 20 = .ok (.iconst (-1), 1) := by decide +kernel
theorem dX11_undo_21 : decode cX11_undo 21 = .ok (.ireturn, 1) := by decide +kernel
theorem dX11_undo_22 : decode cX11_undo 22 = .ok (.aload_n 0, 1) := by decide +kernel
theorem dX11_undo_23 : decode cX11_undo 23 = .ok (.getfield 10, 3) := by decide +kernel
theorem dX11_undo_26 : decode cX11_undo 26 = .ok (.invokevirtual 71, 3) := by decide +kernel
theorem dX11_undo_29 : decode cX11_undo 29 = .ok (.aload_n 0, 1) := by decide +kernel
theorem dX11_undo_30 : decode cX11_undo 30 = .ok (.getfield 27, 3) := by decide +kernel
theorem dX11_undo_33 : decode cX11_undo 33 = .ok (.getfield 96, 3) := by decide +kernel
theorem dX11_undo_36 : decode cX11_undo 36 = .ok (.getfield 168, 3) := by decide +kernel
theorem dX11_undo_39 : decode cX11_undo 39 = .ok (.ireturn, 1) := by decide +kernel
theorem dX11_ordersFrom_0 : decode cX11_ordersFrom 0 = .ok (.iload_n 2, 1) := by decide +kernel
theorem dX11_ordersFrom_1 : decode cX11_ordersFrom 1 = .ok (.aload_n 0, 1) := by decide +kernel
theorem dX11_ordersFrom_2 : decode cX11_ordersFrom 2 = .ok (.getfield 27, 3) := by decide +kernel
theorem dX11_ordersFrom_5 : decode cX11_ordersFrom 5 = .ok (.getfield 247, 3) := by decide +kernel
theorem dX11_ordersFrom_8 : decode cX11_ordersFrom 8 = .ok (.if_icmp .lt 5, 3) := by decide +kernel
theorem dX11_ordersFrom_11 : decode cX11_ordersFrom 11 = .ok (.iconst 1, 1) := by decide +kernel
theorem dX11_ordersFrom_12 : decode cX11_ordersFrom 12 = .ok (.ireturn, 1) := by decide +kernel
theorem dX11_ordersFrom_13 : decode cX11_ordersFrom 13 = .ok (.iconst 0, 1) := by decide +kernel
theorem dX11_ordersFrom_14 : decode cX11_ordersFrom 14 = .ok (.istore 4, 2) := by decide +kernel
theorem dX11_ordersFrom_16 : decode cX11_ordersFrom 16 = .ok (.iconst 0, 1) := by decide +kernel
theorem dX11_ordersFrom_17 : decode cX11_ordersFrom 17 = .ok (.istore 5, 2) := by decide +kernel
theorem dX11_ordersFrom_19 : decode cX11_ordersFrom 19 = .ok (.iload 5, 2) := by decide +kernel
theorem dX11_ordersFrom_21 : decode cX11_ordersFrom 21 = .ok (.aload_n 0, 1) := by decide +kernel
theorem dX11_ordersFrom_22 : decode cX11_ordersFrom 22 = .ok (.getfield 27, 3) := by decide +kernel
theorem dX11_ordersFrom_25 : decode cX11_ordersFrom 25 = .ok (.getfield 106, 3) := by decide +kernel
theorem dX11_ordersFrom_28 : decode cX11_ordersFrom 28 = .ok (.getfield 110, 3) := by decide +kernel
theorem dX11_ordersFrom_31 : decode cX11_ordersFrom 31 = .ok (.if_icmp .ge 77, 3) := by decide +kernel
theorem dX11_ordersFrom_34 : decode cX11_ordersFrom 34 = .ok (.iconst 1, 1) := by decide +kernel
theorem dX11_ordersFrom_35 : decode cX11_ordersFrom 35 = .ok (.iload 5, 2) := by decide +kernel
theorem dX11_ordersFrom_37 : decode cX11_ordersFrom 37 = .ok (.ishl, 1) := by decide +kernel
theorem dX11_ordersFrom_38 : decode cX11_ordersFrom 38 = .ok (.istore 6, 2) := by decide +kernel
theorem dX11_ordersFrom_40 : decode cX11_ordersFrom 40 = .ok (.iload_n 3, 1) := by decide +kernel
theorem dX11_ordersFrom_41 : decode cX11_ordersFrom 41 = .ok (.iload 6, 2) := by decide +kernel
theorem dX11_ordersFrom_43 : decode cX11_ordersFrom 43 = .ok (.iand, 1) := by decide +kernel
theorem dX11_ordersFrom_44 : decode cX11_ordersFrom 44 = .ok (.ifCond .ne 58, 3) := by decide +kernel
theorem dX11_ordersFrom_47 : decode cX11_ordersFrom 47 = .ok (.aload_n 0, 1) := by decide +kernel
theorem dX11_ordersFrom_48 : decode cX11_ordersFrom 48 = .ok (.getfield 10, 3) := by decide +kernel
theorem dX11_ordersFrom_51 : decode cX11_ordersFrom 51 = .ok (.getfield 185, 3) := by decide +kernel
theorem dX11_ordersFrom_54 : decode cX11_ordersFrom 54 = .ok (.aload_n 0, 1) := by decide +kernel
theorem dX11_ordersFrom_55 : decode cX11_ordersFrom 55 = .ok (.getfield 10, 3) := by decide +kernel
theorem dX11_ordersFrom_58 : decode cX11_ordersFrom 58 = .ok (.iload 5, 2) := by decide +kernel
theorem dX11_ordersFrom_60 : decode cX11_ordersFrom 60 = .ok (.iload_n 1, 1) := by decide +kernel
theorem dX11_ordersFrom_61 : decode cX11_ordersFrom 61 = .ok (.invokevirtual 181, 3) := by decide +kernel
theorem dX11_ordersFrom_64 : decode cX11_ordersFrom 64 = .ok (.iaload, 1) := by decide +kernel
theorem dX11_ordersFrom_65 : decode cX11_ordersFrom 65 = .ok (.aload_n 0, 1) := by decide +kernel
theorem dX11_ordersFrom_66 : decode cX11_ordersFrom 66 = .ok (.getfield 27, 3) := by decide +kernel
theorem dX11_ordersFrom_69 : decode cX11_ordersFrom 69 = .ok (.getfield 250, 3) := by decide +kernel
theorem dX11_ordersFrom_72 : decode cX11_ordersFrom 72 = .ok (.iload_n 2, 1) := by decide +kernel
theorem dX11_ordersFrom_73 : decode cX11_ordersFrom 73 = .ok (.iaload, 1) := by decide +kernel
theorem dX11_ordersFrom_74 : decode cX11_ordersFrom 74 = .ok (.if_icmp .ne 28, 3) := by decide +kernel
theorem dX11_ordersFrom_77 : decode cX11_ordersFrom 77 = .ok (.iload 4, 2) := by decide +kernel
theorem dX11_ordersFrom_79 : decode cX11_ordersFrom 79 = .ok (.aload_n 0, 1) := by decide +kernel
theorem dX11_ordersFrom_80 : decode cX11_ordersFrom 80 = .ok (.aload_n 0, 1) := by decide +kernel
theorem dX11_ordersFrom_81 : decode cX11_ordersFrom 81 = .ok (.getfield 27, 3) := by decide +kernel
theorem dX11_ordersFrom_84 : decode cX11_ordersFrom 84 = .ok (.getfield 250, 3) := by decide +kernel
theorem dX11_ordersFrom_87 : decode cX11_ordersFrom 87 = .ok (.iload_n 2, 1) := by decide +kernel
theorem dX11_ordersFrom_88 : decode cX11_ordersFrom 88 = .ok (.iaload, 1) := by decide +kernel
theorem dX11_ordersFrom_89 : decode cX11_ordersFrom 89 = .ok (.iload_n 2, 1) := by decide +kernel
theorem dX11_ordersFrom_90 : decode cX11_ordersFrom 90 = .ok (.iconst 1, 1) := by decide +kernel
theorem dX11_ordersFrom_91 : decode cX11_ordersFrom 91 = .ok (.iadd, 1) := by decide +kernel
theorem dX11_ordersFrom_92 : decode cX11_ordersFrom 92 = .ok (.iload_n 3, 1) := by decide +kernel
theorem dX11_ordersFrom_93 : decode cX11_ordersFrom 93 = .ok (.iload 6, 2) := by decide +kernel
theorem dX11_ordersFrom_95 : decode cX11_ordersFrom 95 = .ok (.ior, 1) := by decide +kernel
theorem dX11_ordersFrom_96 : decode cX11_ordersFrom 96 = .ok (.invokevirtual 253, 3) := by decide +kernel
theorem dX11_ordersFrom_99 : decode cX11_ordersFrom 99 = .ok (.iadd, 1) := by decide +kernel
theorem dX11_ordersFrom_100 : decode cX11_ordersFrom 100 = .ok (.istore 4, 2) := by decide +kernel
theorem dX11_ordersFrom_102 : decode cX11_ordersFrom 102 = .ok (.iinc 5 1, 3) := by decide +kernel
theorem dX11_ordersFrom_105 : decode cX11_ordersFrom 105 = .ok (.goto (-86), 3) := by decide +kernel
theorem dX11_ordersFrom_108 : decode cX11_ordersFrom 108 = .ok (.iload 4, 2) := by decide +kernel
theorem dX11_ordersFrom_110 : decode cX11_ordersFrom 110 = .ok (.ireturn, 1) := by decide +kernel
theorem dX11_who_0 : decode cX11_who 0 = .ok (.iload_n 1, 1) := by decide +kernel
theorem dX11_who_1 : decode cX11_who 1 = .ok (.invokestatic 54, 3) := by decide +kernel
theorem dX11_who_4 : decode cX11_who 4 = .ok (.ifCond .eq 20, 3) := by decide +kernel
theorem dX11_who_7 : decode cX11_who 7 = .ok (.iload_n 2, 1) := by decide +kernel
theorem dX11_who_8 : decode cX11_who 8 = .ok (.iconst (-1), 1) := by decide +kernel
theorem dX11_who_9 : decode cX11_who 9 = .ok (.aload_n 0, 1) := by decide +kernel
theorem dX11_who_10 : decode cX11_who 10 = .ok (.getfield 27, 3) := by decide +kernel
theorem dX11_who_13 : decode cX11_who 13 = .ok (.getfield 247, 3) := by decide +kernel
theorem dX11_who_16 : decode cX11_who 16 = .ok (.iconst 1, 1) := by decide +kernel
theorem dX11_who_17 : decode cX11_who 17 = .ok (.isub, 1) := by decide +kernel
theorem dX11_who_18 : decode cX11_who 18 = .ok (.invokestatic 58, 3) := by decide +kernel
theorem dX11_who_21 : decode cX11_who 21 = .ok (.ifCond .ne 6, 3) := by decide +kernel
theorem dX11_who_24 : decode cX11_who 24 = .ok (.bipush (-2), 2) := by decide +kernel
theorem dX11_who_26 : decode cX11_who 26 = .ok (.ireturn, 1) := by decide +kernel
theorem dX11_who_27 : decode cX11_who 27 = .ok (.iload_n 2, 1) := by decide +kernel
theorem dX11_who_28 : decode cX11_who 28 = .ok (.iconst (-1), 1) := by decide +kernel
theorem dX11_who_29 : decode cX11_who 29 = .ok (.if_icmp .ne 11, 3) := by decide +kernel
theorem dX11_who_32 : decode cX11_who 32 = .ok (.aload_n 0, 1) := by decide +kernel
theorem dX11_who_33 : decode cX11_who 33 = .ok (.iload_n 1, 1) := by decide +kernel
theorem dX11_who_34 : decode cX11_who 34 = .ok (.iconst 0, 1) := by decide +kernel
theorem dX11_who_35 : decode cX11_who 35 = .ok (.iconst 0, 1) := by decide +kernel
theorem dX11_who_36 : decode cX11_who 36 = .ok (.invokevirtual 253, 3) := by decide +kernel
theorem dX11_who_39 : decode cX11_who 39 = .ok (.ireturn, 1) := by decide +kernel
theorem dX11_who_40 : decode cX11_who 40 = .ok (.iload_n 2, 1) := by decide +kernel
theorem dX11_who_41 : decode cX11_who 41 = .ok (.ifCond .ne 7, 3) := by decide +kernel
theorem dX11_who_44 : decode cX11_who 44 = .ok (.iload_n 1, 1) := by decide +kernel
theorem dX11_who_45 : decode cX11_who 45 = .ok (.goto 14, 3) := by decide +kernel
theorem dX11_who_48 : decode cX11_who 48 = .ok (.aload_n 0, 1) := by decide +kernel
theorem dX11_who_49 : decode cX11_who 49 = .ok (.getfield 27, 3) := by decide +kernel
theorem dX11_who_52 : decode cX11_who 52 = .ok (.getfield 250, 3) := by decide +kernel
theorem dX11_who_55 : decode cX11_who 55 = .ok (.iload_n 2, 1) := by decide +kernel
theorem dX11_who_56 : decode cX11_who 56 = .ok (.iconst 1, 1) := by decide +kernel
theorem dX11_who_57 : decode cX11_who 57 = .ok (.isub, 1) := by decide +kernel
theorem dX11_who_58 : decode cX11_who 58 = .ok (.iaload, 1) := by decide +kernel
theorem dX11_who_59 : decode cX11_who 59 = .ok (.istore_n 3, 1) := by decide +kernel
theorem dX11_who_60 : decode cX11_who 60 = .ok (.iconst 0, 1) := by decide +kernel
theorem dX11_who_61 : decode cX11_who 61 = .ok (.istore 4, 2) := by decide +kernel
theorem dX11_who_63 : decode cX11_who 63 = .ok (.iconst 0, 1) := by decide +kernel
theorem dX11_who_64 : decode cX11_who 64 = .ok (.istore 5, 2) := by decide +kernel
theorem dX11_who_66 : decode cX11_who 66 = .ok (.iload 5, 2) := by decide +kernel
theorem dX11_who_68 : decode cX11_who 68 = .ok (.aload_n 0, 1) := by decide +kernel
theorem dX11_who_69 : decode cX11_who 69 = .ok (.getfield 27, 3) := by decide +kernel
theorem dX11_who_72 : decode cX11_who 72 = .ok (.getfield 106, 3) := by decide +kernel
theorem dX11_who_75 : decode cX11_who 75 = .ok (.getfield 110, 3) := by decide +kernel
theorem dX11_who_78 : decode cX11_who 78 = .ok (.if_icmp .ge 48, 3) := by decide +kernel
theorem dX11_who_81 : decode cX11_who 81 = .ok (.aload_n 0, 1) := by decide +kernel
theorem dX11_who_82 : decode cX11_who 82 = .ok (.getfield 10, 3) := by decide +kernel
theorem dX11_who_85 : decode cX11_who 85 = .ok (.getfield 185, 3) := by decide +kernel
theorem dX11_who_88 : decode cX11_who 88 = .ok (.aload_n 0, 1) := by decide +kernel
theorem dX11_who_89 : decode cX11_who 89 = .ok (.getfield 10, 3) := by decide +kernel
theorem dX11_who_92 : decode cX11_who 92 = .ok (.iload 5, 2) := by decide +kernel
theorem dX11_who_94 : decode cX11_who 94 = .ok (.iload_n 3, 1) := by decide +kernel
theorem dX11_who_95 : decode cX11_who 95 = .ok (.invokevirtual 181, 3) := by decide +kernel
theorem dX11_who_98 : decode cX11_who 98 = .ok (.iaload, 1) := by decide +kernel
theorem dX11_who_99 : decode cX11_who 99 = .ok (.aload_n 0, 1) := by decide +kernel
theorem dX11_who_100 : decode cX11_who 100 = .ok (.getfield 27, 3) := by decide +kernel
theorem dX11_who_103 : decode cX11_who 103 = .ok (.getfield 250, 3) := by decide +kernel
theorem dX11_who_106 : decode cX11_who 106 = .ok (.iload_n 2, 1) := by decide +kernel
theorem dX11_who_107 : decode cX11_who 107 = .ok (.iaload, 1) := by decide +kernel
theorem dX11_who_108 : decode cX11_who 108 = .ok (.if_icmp .ne 12, 3) := by decide +kernel
theorem dX11_who_111 : decode cX11_who 111 = .ok (.iload 4, 2) := by decide +kernel
theorem dX11_who_113 : decode cX11_who 113 = .ok (.iconst 1, 1) := by decide +kernel
theorem dX11_who_114 : decode cX11_who 114 = .ok (.iload 5, 2) := by decide +kernel
theorem dX11_who_116 : decode cX11_who 116 = .ok (.ishl, 1) := by decide +kernel
theorem dX11_who_117 : decode cX11_who 117 = .ok (.ior, 1) := by decide +kernel
theorem dX11_who_118 : decode cX11_who 118 = .ok (.istore 4, 2) := by decide +kernel
theorem dX11_who_120 : decode cX11_who 120 = .ok (.iinc 5 1, 3) := by decide +kernel
theorem dX11_who_123 : decode cX11_who 123 = .ok (.goto (-57), 3) := by decide +kernel
theorem dX11_who_126 : decode cX11_who 126 = .ok (.iload 4, 2) := by decide +kernel
theorem dX11_who_128 : decode cX11_who 128 = .ok (.ireturn, 1) := by decide +kernel
theorem bw_21 : Cond.selects "CountingHorses" ⟨"CountingHorses", "isHorse", "(I)Z"⟩ ⟨"CountingHorses", "isHorse", "(I)Z"⟩ ∈ BW := bw_at 21 (by decide +kernel) (by decide +kernel)
theorem bw_27 : Cond.selects "CountingHorses" ⟨"CountingHorses", "driveByHand", "(I)Z"⟩ ⟨"CountingHorses", "driveByHand", "(I)Z"⟩ ∈ BW := bw_at 27 (by decide +kernel) (by decide +kernel)
theorem bw_33 : Cond.selects "CountingHorses" ⟨"CountingHorses", "ordersFrom", "(III)I"⟩ ⟨"CountingHorses", "ordersFrom", "(III)I"⟩ ∈ BW := bw_at 33 (by decide +kernel) (by decide +kernel)
theorem bw_80 : Cond.initialized "CountingHorses" ∈ BW := bw_at 80 (by decide +kernel) (by decide +kernel)
theorem bw_81 : Cond.initialized "CountingHorses$Stops" ∈ BW := bw_at 81 (by decide +kernel) (by decide +kernel)
theorem bw_86 : Cond.initialized "CountingHorses$Mail" ∈ BW := bw_at 86 (by decide +kernel) (by decide +kernel)
theorem bw_87 : Cond.initialized "CountingHorses$StepsBack" ∈ BW := bw_at 87 (by decide +kernel) (by decide +kernel)
theorem bw_138 : Cond.fieldLink "CountingHorses" 78 "CountingHorses$Road" "bridgeFrom" "[I" ∈ BW := bw_at 138 (by decide +kernel) (by decide +kernel)
theorem bw_140 : Cond.fieldLink "CountingHorses" 81 "CountingHorses$Road" "bridgeTo" "[I" ∈ BW := bw_at 140 (by decide +kernel) (by decide +kernel)
theorem bw_142 : Cond.fieldLink "CountingHorses" 74 "CountingHorses$Road" "bridges" "I" ∈ BW := bw_at 142 (by decide +kernel) (by decide +kernel)
theorem bw_161 : Cond.fieldLink "CountingHorses" 115 "CountingHorses$Stable" "count" "[I" ∈ BW := bw_at 161 (by decide +kernel) (by decide +kernel)
theorem bw_164 : Cond.fieldLink "CountingHorses" 118 "CountingHorses$Stable" "shoe" "[I" ∈ BW := bw_at 164 (by decide +kernel) (by decide +kernel)
theorem bw_167 : Cond.fieldLink "CountingHorses" 110 "CountingHorses$Stable" "horses" "I" ∈ BW := bw_at 167 (by decide +kernel) (by decide +kernel)
theorem bw_182 : Cond.fieldLink "CountingHorses" 93 "CountingHorses$Mail" "innAt" "[I" ∈ BW := bw_at 182 (by decide +kernel) (by decide +kernel)
theorem bw_183 : Cond.fieldLink "CountingHorses$Mail" 15 "CountingHorses$Mail" "inns" "I" ∈ BW := bw_at 183 (by decide +kernel) (by decide +kernel)
theorem bw_184 : Cond.fieldLink "CountingHorses" 88 "CountingHorses$Mail" "inns" "I" ∈ BW := bw_at 184 (by decide +kernel) (by decide +kernel)
theorem bw_186 : Cond.fieldLink "CountingHorses" 159 "CountingHorses$Mail" "place" "I" ∈ BW := bw_at 186 (by decide +kernel) (by decide +kernel)
theorem bw_188 : Cond.fieldLink "CountingHorses" 162 "CountingHorses$Mail" "oats" "I" ∈ BW := bw_at 188 (by decide +kernel) (by decide +kernel)
theorem bw_190 : Cond.fieldLink "CountingHorses" 165 "CountingHorses$Mail" "drives" "I" ∈ BW := bw_at 190 (by decide +kernel) (by decide +kernel)
theorem bw_195 : Cond.fieldLink "CountingHorses" 124 "CountingHorses$Mail" "x" "I" ∈ BW := bw_at 195 (by decide +kernel) (by decide +kernel)
theorem bw_222 : Cond.fieldLink "CountingHorses$StepsBack" 21 "CountingHorses$StepsBack" "size" "I" ∈ BW := bw_at 222 (by decide +kernel) (by decide +kernel)
theorem bw_223 : Cond.fieldLink "CountingHorses" 168 "CountingHorses$StepsBack" "size" "I" ∈ BW := bw_at 223 (by decide +kernel) (by decide +kernel)
theorem bw_232 : Cond.fieldLink "CountingHorses" 62 "CountingHorses$World" "road" "LCountingHorses$Road;" ∈ BW := bw_at 232 (by decide +kernel) (by decide +kernel)
theorem bw_237 : Cond.fieldLink "CountingHorses" 106 "CountingHorses$World" "stable" "LCountingHorses$Stable;" ∈ BW := bw_at 237 (by decide +kernel) (by decide +kernel)
theorem bw_240 : Cond.fieldLink "CountingHorses" 84 "CountingHorses$World" "mail" "LCountingHorses$Mail;" ∈ BW := bw_at 240 (by decide +kernel) (by decide +kernel)
theorem bw_242 : Cond.fieldLink "CountingHorses" 96 "CountingHorses$World" "stepsBack" "LCountingHorses$StepsBack;" ∈ BW := bw_at 242 (by decide +kernel) (by decide +kernel)
theorem bw_244 : Cond.fieldLink "CountingHorses" 250 "CountingHorses$World" "seenAt" "[I" ∈ BW := bw_at 244 (by decide +kernel) (by decide +kernel)
theorem bw_253 : Cond.fieldLink "CountingHorses" 121 "CountingHorses$World" "slip" "I" ∈ BW := bw_at 253 (by decide +kernel) (by decide +kernel)
theorem bw_255 : Cond.fieldLink "CountingHorses" 140 "CountingHorses$World" "texts" "I" ∈ BW := bw_at 255 (by decide +kernel) (by decide +kernel)
theorem bw_258 : Cond.fieldLink "CountingHorses" 156 "CountingHorses$World" "ruling" "I" ∈ BW := bw_at 258 (by decide +kernel) (by decide +kernel)
theorem bw_260 : Cond.fieldLink "CountingHorses" 247 "CountingHorses$World" "seen" "I" ∈ BW := bw_at 260 (by decide +kernel) (by decide +kernel)
theorem bw_262 : Cond.fieldLink "CountingHorses" 257 "CountingHorses$World" "tried" "I" ∈ BW := bw_at 262 (by decide +kernel) (by decide +kernel)
theorem bw_369 : Cond.fieldLink "CountingHorses$Stops" 28 "CountingHorses$Stops" "age" "I" ∈ BW := bw_at 369 (by decide +kernel) (by decide +kernel)
theorem bw_403 : Cond.fieldLink "CountingHorses" 131 "CountingHorses$Tape" "length" "I" ∈ BW := bw_at 403 (by decide +kernel) (by decide +kernel)
theorem bw_422 : Cond.fieldLink "CountingHorses" 127 "CountingHorses$Reader" "tape" "LCountingHorses$Tape;" ∈ BW := bw_at 422 (by decide +kernel) (by decide +kernel)
theorem bw_424 : Cond.fieldLink "CountingHorses" 150 "CountingHorses$Reader" "fault" "I" ∈ BW := bw_at 424 (by decide +kernel) (by decide +kernel)
theorem bw_426 : Cond.fieldLink "CountingHorses" 153 "CountingHorses$Reader" "faultAt" "I" ∈ BW := bw_at 426 (by decide +kernel) (by decide +kernel)
theorem bw_468 : Cond.fieldLink "CountingHorses" 10 "CountingHorses" "stops" "LCountingHorses$Stops;" ∈ BW := bw_at 468 (by decide +kernel) (by decide +kernel)
theorem bw_470 : Cond.fieldLink "CountingHorses" 27 "CountingHorses" "now" "LCountingHorses$World;" ∈ BW := bw_at 470 (by decide +kernel) (by decide +kernel)
theorem bw_472 : Cond.fieldLink "CountingHorses" 39 "CountingHorses" "reader" "LCountingHorses$Reader;" ∈ BW := bw_at 472 (by decide +kernel) (by decide +kernel)
theorem bw_494 : Cond.methodLink "CountingHorses" 54 ⟨"CountingHorses", "isPlace", "(I)Z"⟩ ∈ BW := bw_at 494 (by decide +kernel) (by decide +kernel)
theorem bw_495 : Cond.static ⟨"CountingHorses", "isPlace", "(I)Z"⟩ ∈ BW := bw_at 495 (by decide +kernel) (by decide +kernel)
theorem bw_496 : Cond.code ⟨"CountingHorses", "isPlace", "(I)Z"⟩ prog_1_method_33_code 1 (some .boolean) ∈ BW := bw_at 496 (by decide +kernel) (by decide +kernel)
theorem bw_497 : Cond.methodLink "CountingHorses" 58 ⟨"CountingHorses", "isWithin", "(III)Z"⟩ ∈ BW := bw_at 497 (by decide +kernel) (by decide +kernel)
theorem bw_498 : Cond.static ⟨"CountingHorses", "isWithin", "(III)Z"⟩ ∈ BW := bw_at 498 (by decide +kernel) (by decide +kernel)
theorem bw_499 : Cond.code ⟨"CountingHorses", "isWithin", "(III)Z"⟩ prog_1_method_31_code 3 (some .boolean) ∈ BW := bw_at 499 (by decide +kernel) (by decide +kernel)
theorem bw_500 : Cond.methodLink "CountingHorses" 71 ⟨"CountingHorses$Stops", "forget", "()V"⟩ ∈ BW := bw_at 500 (by decide +kernel) (by decide +kernel)
theorem bw_501 : Cond.instanceMethod ⟨"CountingHorses$Stops", "forget", "()V"⟩ ∈ BW := bw_at 501 (by decide +kernel) (by decide +kernel)
theorem bw_502 : Cond.selects "CountingHorses$Stops" ⟨"CountingHorses$Stops", "forget", "()V"⟩ ⟨"CountingHorses$Stops", "forget", "()V"⟩ ∈ BW := bw_at 502 (by decide +kernel) (by decide +kernel)
theorem bw_503 : Cond.code ⟨"CountingHorses$Stops", "forget", "()V"⟩ prog_8_method_2_code 1 none ∈ BW := bw_at 503 (by decide +kernel) (by decide +kernel)
theorem bw_803 : Cond.methodLink "CountingHorses" 171 ⟨"CountingHorses", "isHorse", "(I)Z"⟩ ∈ BW := bw_at 803 (by decide +kernel) (by decide +kernel)
theorem bw_805 : Cond.instanceMethod ⟨"CountingHorses", "isHorse", "(I)Z"⟩ ∈ BW := bw_at 805 (by decide +kernel) (by decide +kernel)
theorem bw_806 : Cond.code ⟨"CountingHorses", "isHorse", "(I)Z"⟩ prog_1_method_34_code 2 (some .boolean) ∈ BW := bw_at 806 (by decide +kernel) (by decide +kernel)
theorem bw_871 : Cond.methodLink "CountingHorses" 191 ⟨"CountingHorses", "driveByHand", "(I)Z"⟩ ∈ BW := bw_at 871 (by decide +kernel) (by decide +kernel)
theorem bw_873 : Cond.instanceMethod ⟨"CountingHorses", "driveByHand", "(I)Z"⟩ ∈ BW := bw_at 873 (by decide +kernel) (by decide +kernel)
theorem bw_874 : Cond.code ⟨"CountingHorses", "driveByHand", "(I)Z"⟩ prog_1_method_35_code 3 (some .boolean) ∈ BW := bw_at 874 (by decide +kernel) (by decide +kernel)
theorem bw_892 : Cond.methodLink "CountingHorses" 211 ⟨"CountingHorses$StepsBack", "takeBack", "(LCountingHorses$Mail;)Z"⟩ ∈ BW := bw_at 892 (by decide +kernel) (by decide +kernel)
theorem bw_893 : Cond.instanceMethod ⟨"CountingHorses$StepsBack", "takeBack", "(LCountingHorses$Mail;)Z"⟩ ∈ BW := bw_at 893 (by decide +kernel) (by decide +kernel)
theorem bw_894 : Cond.selects "CountingHorses$StepsBack" ⟨"CountingHorses$StepsBack", "takeBack", "(LCountingHorses$Mail;)Z"⟩ ⟨"CountingHorses$StepsBack", "takeBack", "(LCountingHorses$Mail;)Z"⟩ ∈ BW := bw_at 894 (by decide +kernel) (by decide +kernel)
theorem bw_895 : Cond.code ⟨"CountingHorses$StepsBack", "takeBack", "(LCountingHorses$Mail;)Z"⟩ prog_7_method_3_code 2 (some .boolean) ∈ BW := bw_at 895 (by decide +kernel) (by decide +kernel)
theorem bw_900 : Cond.methodLink "CountingHorses" 215 ⟨"CountingHorses$Mail", "lowestInnHere", "()I"⟩ ∈ BW := bw_at 900 (by decide +kernel) (by decide +kernel)
theorem bw_901 : Cond.instanceMethod ⟨"CountingHorses$Mail", "lowestInnHere", "()I"⟩ ∈ BW := bw_at 901 (by decide +kernel) (by decide +kernel)
theorem bw_902 : Cond.selects "CountingHorses$Mail" ⟨"CountingHorses$Mail", "lowestInnHere", "()I"⟩ ⟨"CountingHorses$Mail", "lowestInnHere", "()I"⟩ ∈ BW := bw_at 902 (by decide +kernel) (by decide +kernel)
theorem bw_903 : Cond.code ⟨"CountingHorses$Mail", "lowestInnHere", "()I"⟩ prog_3_method_2_code 2 (some .int) ∈ BW := bw_at 903 (by decide +kernel) (by decide +kernel)
theorem bw_954 : Cond.methodLink "CountingHorses" 253 ⟨"CountingHorses", "ordersFrom", "(III)I"⟩ ∈ BW := bw_at 954 (by decide +kernel) (by decide +kernel)
theorem bw_956 : Cond.instanceMethod ⟨"CountingHorses", "ordersFrom", "(III)I"⟩ ∈ BW := bw_at 956 (by decide +kernel) (by decide +kernel)
theorem bw_957 : Cond.code ⟨"CountingHorses", "ordersFrom", "(III)I"⟩ prog_1_method_39_code 7 (some .int) ∈ BW := bw_at 957 (by decide +kernel) (by decide +kernel)
set_option maxHeartbeats 4000000 in
set_option maxRecDepth 100000 in
theorem c_X6_forget (l : Launch) (D : va_G) (cI cM cT : ClassId) (st : Nat) (dr : Nat) (s1 : Nat) (s2 : Nat) (s3 : Nat) (g : Int32) : Cv l D (ty3 cI cM cT) yX6_forget cX6_forget 1 0 0 0 [.ref st] ([(st, .inr (6, [.ref dr, .ref s1, .ref s2, .ref s3, .int g]))]) (fun u => u = [(st, .inr (6, [.ref dr, .ref s1, .ref s2, .ref s3, .int (g + 1)]))]) := by
  refine Cv.of (by decide +kernel) (Nat.le_of_ble_eq_true rfl) ?_
  intro p e s m below meth c A ls Z hin hP hD hl
  have hx := Z.1
  have hb := Z.2.1
  have hS : va_S A s.heap s.heap [] := va_S.rf
  have hl : lv_has ls 1 [(0, .ref st)] := hl
  skip
  refine lv_aload_n hx hb dX6_forget_0 rfl (lv_at hl 0 rfl) ?_
  refine lv_dup hx hb dX6_forget_1 rfl ?_
  refine z_get Z i_X6 hP 0 rfl rfl 4 (by decide) bw_369 rfl dX6_forget_2 ?_
  refine lv_iconst (v := 1) hx hb dX6_forget_5 (by decide) ?_
  refine lv_iadd hx hb dX6_forget_6 ?_
  refine z_put Z i_X6 tyX6 tyX6_ok nmX6 hP hD hS 0 rfl rfl 4 (by decide) bw_369 rfl rfl rfl (Nat.le_of_ble_eq_true rfl) dX6_forget_7 (fun H locs hP hD hS => ?_)
  have hP : va_P D vwCl ([(st, .inr (6, [.ref dr, .ref s1, .ref s2, .ref s3, .int (g + 1)]))]) H := hP
  have hD : va_D A ([(st, .inr (6, [.ref dr, .ref s1, .ref s2, .ref s3, .int (g + 1)]))]) := hD
  exact z_vret Z hP hD hS (rfl) dX6_forget_10 (Nat.le_of_ble_eq_true rfl) (Nat.le_of_ble_eq_true rfl)
set_option maxHeartbeats 4000000 in
set_option maxRecDepth 100000 in
theorem c_X11_isHorse (l : Launch) (D : va_G) (cI cM cT : ClassId) (x : Nat) (st : Nat) (dr : Nat) (nw : Nat) (kp : Nat) (rd : Nat) (tm : Nat) (co : Nat) (rO : Nat) (sT : Nat) (mA : Nat) (sB : Nat) (sA : Nat) (tH : Nat) (tF : Nat) (tS : Nat) (cO : Nat) (sH : Nat) (p0 : Int32) : Ci l D (ty3 cI cM cT) yX11_isHorse cX11_isHorse 2 (some .boolean) 0 0 0 [.ref x, .int p0] ([(x, .inr (11, [.ref st, .ref dr, .ref nw, .ref kp, .ref rd, .ref tm, .ref co])), (nw, .inr (10, [.ref rO, .ref sT, .ref mA, .ref sB, .ref sA, .ref tH, .ref tF, .ref tS, .int 0, .int 0, .int (-1), .int 0, .int 0])), (sT, .inr (4, [.ref cO, .ref sH, .int 0]))]) (fun r u => r = 0 ∧ u = [(x, .inr (11, [.ref st, .ref dr, .ref nw, .ref kp, .ref rd, .ref tm, .ref co])), (nw, .inr (10, [.ref rO, .ref sT, .ref mA, .ref sB, .ref sA, .ref tH, .ref tF, .ref tS, .int 0, .int 0, .int (-1), .int 0, .int 0])), (sT, .inr (4, [.ref cO, .ref sH, .int 0]))]) := by
  refine Ci.of (by decide +kernel) (Nat.le_of_ble_eq_true rfl) ?_
  intro p e s m below meth c A ls Z hin hP hD hl
  have hx := Z.1
  have hb := Z.2.1
  have hS : va_S A s.heap s.heap [] := va_S.rf
  have hl : lv_has ls 2 [(0, .ref x), (1, .int p0)] := hl
  skip
  refine lv_iload_n hx hb dX11_isHorse_0 rfl (lv_at hl 1 rfl) ?_
  refine lv_if_lt (tgt := 22) hx hb dX11_isHorse_1 (by decide) (fun c1 => ?_) (fun c1 => ?_)
  · refine lv_iconst (v := 0) hx hb dX11_isHorse_22 (by decide) ?_
    exact z_ret Z rfl hP hD hS (⟨rfl, rfl⟩) dX11_isHorse_23 (Nat.le_of_ble_eq_true rfl) (Nat.le_of_ble_eq_true rfl)
  · refine lv_iload_n hx hb dX11_isHorse_4 rfl (lv_at hl 1 rfl) ?_
    refine lv_aload_n hx hb dX11_isHorse_5 rfl (lv_at hl 0 rfl) ?_
    refine z_get Z i_X11 hP 0 rfl rfl 2 (by decide) bw_470 rfl dX11_isHorse_6 ?_
    refine z_get Z i_X10 hP 1 rfl rfl 1 (by decide) bw_237 rfl dX11_isHorse_9 ?_
    refine z_get Z i_X4 hP 2 rfl rfl 2 (by decide) bw_167 rfl dX11_isHorse_12 ?_
    refine lv_icmp_ge (tgt := 22) hx hb dX11_isHorse_15 (by decide) (fun c2 => ?_) (fun c2 => ?_)
    · refine lv_iconst (v := 0) hx hb dX11_isHorse_22 (by decide) ?_
      exact z_ret Z rfl hP hD hS (⟨rfl, rfl⟩) dX11_isHorse_23 (Nat.le_of_ble_eq_true rfl) (Nat.le_of_ble_eq_true rfl)
    · refine lv_iconst (v := 1) hx hb dX11_isHorse_18 (by decide) ?_
      refine lv_goto (tgt := 23) hx hb dX11_isHorse_19 (by decide) ?_
      exact z_ret Z rfl hP hD hS (⟨(by exfalso; simp only [zlt, zle, zeq, zl_0, zl_1, zl_2, zl_3, zl_4, zl_5, zl_6, zl_7, zl_8, zl_9, zl_10, zl_11, zl_12, zl_13, zl_19, zl_20, zl_30, zl_64, zl_99, zl_100, zl_299, zl_300, zl_399, zl_999, zl_9999, zl_m1, zl_m2, zl_m3, zl_32, zl_280] at c1 c2; omega), rfl⟩) dX11_isHorse_23 (Nat.le_of_ble_eq_true rfl) (Nat.le_of_ble_eq_true rfl)
set_option maxHeartbeats 4000000 in
set_option maxRecDepth 100000 in
theorem c_X1_lowestInnHere (l : Launch) (D : va_G) (cI cM cT : ClassId) (mA : Nat) (iA : Nat) : Ci l D (ty3 cI cM cT) yX1_lowestInnHere cX1_lowestInnHere 2 (some .int) 0 0 0 [.ref mA] ([(mA, .inr (1, [.ref iA, .int 0, .int 0, .int 0, .int 0, .int 0, .int 13]))]) (fun r u => r = (-1) ∧ u = [(mA, .inr (1, [.ref iA, .int 0, .int 0, .int 0, .int 0, .int 0, .int 13]))]) := by
  refine Ci.of (by decide +kernel) (Nat.le_of_ble_eq_true rfl) ?_
  intro p e s m below meth c A ls Z hin hP hD hl
  have hx := Z.1
  have hb := Z.2.1
  have hS : va_S A s.heap s.heap [] := va_S.rf
  have hl : lv_has ls 2 [(0, .ref mA)] := hl
  skip
  refine lv_iconst (v := 0) hx hb dX1_lowestInnHere_0 (by decide) ?_
  refine lv_istore_n (lv' := [(1, .int 0), (0, .ref mA)]) hx hb dX1_lowestInnHere_1 rfl hl (by decide) rfl (fun ls hl => ?_)
  refine lv_iload_n hx hb dX1_lowestInnHere_2 rfl (lv_at hl 0 rfl) ?_
  refine lv_aload_n hx hb dX1_lowestInnHere_3 rfl (lv_at hl 1 rfl) ?_
  refine z_get Z i_X1 hP 0 rfl rfl 1 (by decide) bw_183 rfl dX1_lowestInnHere_4 ?_
  refine lv_icmp_ge (tgt := 31) hx hb dX1_lowestInnHere_7 (by decide) (fun c1 => ?_) (fun h => absurd (by decide) h)
  refine lv_iconst (v := (-1)) hx hb dX1_lowestInnHere_31 (by decide) ?_
  exact z_ret Z rfl hP hD hS (⟨rfl, rfl⟩) dX1_lowestInnHere_32 (Nat.le_of_ble_eq_true rfl) (Nat.le_of_ble_eq_true rfl)
set_option maxHeartbeats 4000000 in
set_option maxRecDepth 100000 in
theorem c_X11_bridge (l : Launch) (D : va_G) (cI cM cT : ClassId) (x : Nat) (st : Nat) (dr : Nat) (nw : Nat) (kp : Nat) (rd : Nat) (tm : Nat) (co : Nat) (rO : Nat) (sT : Nat) (mA : Nat) (sB : Nat) (sA : Nat) (tH : Nat) (tF : Nat) (tS : Nat) (mU : Nat) (bF : Nat) (bT : Nat) (s1 : Nat) (s2 : Nat) (s3 : Nat) (p0 : Int32) (p1 : Int32) : Ci l D (ty3 cI cM cT) yX11_bridge cX11_bridge 4 (some .int) 3 0 0 [.ref x, .int p0, .int p1] ([(x, .inr (11, [.ref st, .ref dr, .ref nw, .ref kp, .ref rd, .ref tm, .ref co])), (nw, .inr (10, [.ref rO, .ref sT, .ref mA, .ref sB, .ref sA, .ref tH, .ref tF, .ref tS, .int 0, .int 0, .int (-1), .int 0, .int 0])), (rO, .inr (3, [.ref mU, .ref bF, .ref bT, .int 0])), (bF, .inl (cI, 4, .inl (fun _ => 0))), (bT, .inl (cI, 4, .inl (fun _ => 0))), (st, .inr (6, [.ref dr, .ref s1, .ref s2, .ref s3, .int 1]))]) (fun r u => r = (if (0 ≤ p0 ∧ p0 < 300) ∧ (0 ≤ p1 ∧ p1 < 300) ∧ p0 < p1 then 1 else (-1))) := by
  refine Ci.of (by decide +kernel) (Nat.le_of_ble_eq_true rfl) ?_
  intro p e s m below meth c A ls Z hin hP hD hl
  have hx := Z.1
  have hb := Z.2.1
  have hS : va_S A s.heap s.heap [] := va_S.rf
  have hl : lv_has ls 4 [(0, .ref x), (1, .int p0), (2, .int p1)] := hl
  skip
  refine lv_aload_n hx hb dX11_bridge_0 rfl (lv_at hl 0 rfl) ?_
  refine z_get Z i_X11 hP 0 rfl rfl 2 (by decide) bw_470 rfl dX11_bridge_1 ?_
  refine z_get Z i_X10 hP 1 rfl rfl 0 (by decide) bw_232 rfl dX11_bridge_4 ?_
  refine lv_astore_n (lv' := [(3, .ref rO), (0, .ref x), (1, .int p0), (2, .int p1)]) hx hb dX11_bridge_7 rfl hl (by decide) rfl (fun ls hl => ?_)
  refine lv_iload_n hx hb dX11_bridge_8 rfl (lv_at hl 2 rfl) ?_
  have hPc := hP.sub2 (wc := []) [] rfl
  have hDc := hD.sub (ws' := []) [] (by decide) rfl
  refine raw_Si (nA := 1) (As := [.int p0]) (rest := []) Z hl.1 (c_X11_isPlace l D cI cM cT p0) (bw_S bw_494 bw_495 bw_80 bw_496) ⟨by decide +kernel, by decide +kernel, by decide +kernel⟩ rfl ⟨Nat.le_of_ble_eq_true rfl, Nat.le_of_ble_eq_true rfl⟩ hPc hDc hS rfl (Nat.le_of_ble_eq_true rfl) dX11_bridge_9 ⟨Nat.le_of_ble_eq_true rfl, Nat.le_of_ble_eq_true rfl⟩ (fun r2 u1 H1 locs1 h3 hku1 hP1 hD1 hS1 => ?_)
  obtain ⟨hrh3, rfl⟩ := h3
  obtain ⟨hP, hD⟩ := z_join (wr := [(x, .inr (11, [.ref st, .ref dr, .ref nw, .ref kp, .ref rd, .ref tm, .ref co])), (nw, .inr (10, [.ref rO, .ref sT, .ref mA, .ref sB, .ref sA, .ref tH, .ref tF, .ref tS, .int 0, .int 0, .int (-1), .int 0, .int 0])), (rO, .inr (3, [.ref mU, .ref bF, .ref bT, .int 0])), (bF, .inl (cI, 4, .inl (fun _ => 0))), (bT, .inl (cI, 4, .inl (fun _ => 0))), (st, .inr (6, [.ref dr, .ref s1, .ref s2, .ref s3, .int 1]))]) Z hS hP hD [] [0, 1, 2, 3, 4, 5] rfl (by decide) rfl (by decide) (by decide) hku1 hP1 hD1
  have hS := hS1
  clear hS1
  generalize H1 = H at hP hS ⊢
  generalize locs1 = locs at hS ⊢
  have hP : va_P D vwCl ([(x, .inr (11, [.ref st, .ref dr, .ref nw, .ref kp, .ref rd, .ref tm, .ref co])), (nw, .inr (10, [.ref rO, .ref sT, .ref mA, .ref sB, .ref sA, .ref tH, .ref tF, .ref tS, .int 0, .int 0, .int (-1), .int 0, .int 0])), (rO, .inr (3, [.ref mU, .ref bF, .ref bT, .int 0])), (bF, .inl (cI, 4, .inl (fun _ => 0))), (bT, .inl (cI, 4, .inl (fun _ => 0))), (st, .inr (6, [.ref dr, .ref s1, .ref s2, .ref s3, .int 1]))]) H := hP
  have hD : va_D A ([(x, .inr (11, [.ref st, .ref dr, .ref nw, .ref kp, .ref rd, .ref tm, .ref co])), (nw, .inr (10, [.ref rO, .ref sT, .ref mA, .ref sB, .ref sA, .ref tH, .ref tF, .ref tS, .int 0, .int 0, .int (-1), .int 0, .int 0])), (rO, .inr (3, [.ref mU, .ref bF, .ref bT, .int 0])), (bF, .inl (cI, 4, .inl (fun _ => 0))), (bT, .inl (cI, 4, .inl (fun _ => 0))), (st, .inr (6, [.ref dr, .ref s1, .ref s2, .ref s3, .int 1]))]) := hD
  by_cases c4 : 0 ≤ p0 ∧ p0 < 300
  · obtain rfl : r2 = 1 := by rw [hrh3, if_pos c4]
    refine lv_if_eq (tgt := 35) hx hb dX11_bridge_12 (by decide) (fun h => absurd h (by decide)) (fun c5 => ?_)
    refine lv_iload_n hx hb dX11_bridge_15 rfl (lv_at hl 3 rfl) ?_
    have hPc := hP.sub2 (wc := []) [] rfl
    have hDc := hD.sub (ws' := []) [] (by decide) rfl
    refine raw_Si (nA := 1) (As := [.int p1]) (rest := []) Z hl.1 (c_X11_isPlace l D cI cM cT p1) (bw_S bw_494 bw_495 bw_80 bw_496) ⟨by decide +kernel, by decide +kernel, by decide +kernel⟩ rfl ⟨Nat.le_of_ble_eq_true rfl, Nat.le_of_ble_eq_true rfl⟩ hPc hDc hS rfl (Nat.le_of_ble_eq_true rfl) dX11_bridge_16 ⟨Nat.le_of_ble_eq_true rfl, Nat.le_of_ble_eq_true rfl⟩ (fun r7 u6 H1 locs1 h8 hku6 hP1 hD1 hS1 => ?_)
    obtain ⟨hrh8, rfl⟩ := h8
    obtain ⟨hP, hD⟩ := z_join (wr := [(x, .inr (11, [.ref st, .ref dr, .ref nw, .ref kp, .ref rd, .ref tm, .ref co])), (nw, .inr (10, [.ref rO, .ref sT, .ref mA, .ref sB, .ref sA, .ref tH, .ref tF, .ref tS, .int 0, .int 0, .int (-1), .int 0, .int 0])), (rO, .inr (3, [.ref mU, .ref bF, .ref bT, .int 0])), (bF, .inl (cI, 4, .inl (fun _ => 0))), (bT, .inl (cI, 4, .inl (fun _ => 0))), (st, .inr (6, [.ref dr, .ref s1, .ref s2, .ref s3, .int 1]))]) Z hS hP hD [] [0, 1, 2, 3, 4, 5] rfl (by decide) rfl (by decide) (by decide) hku6 hP1 hD1
    have hS := hS1
    clear hS1
    generalize H1 = H at hP hS ⊢
    generalize locs1 = locs at hS ⊢
    have hP : va_P D vwCl ([(x, .inr (11, [.ref st, .ref dr, .ref nw, .ref kp, .ref rd, .ref tm, .ref co])), (nw, .inr (10, [.ref rO, .ref sT, .ref mA, .ref sB, .ref sA, .ref tH, .ref tF, .ref tS, .int 0, .int 0, .int (-1), .int 0, .int 0])), (rO, .inr (3, [.ref mU, .ref bF, .ref bT, .int 0])), (bF, .inl (cI, 4, .inl (fun _ => 0))), (bT, .inl (cI, 4, .inl (fun _ => 0))), (st, .inr (6, [.ref dr, .ref s1, .ref s2, .ref s3, .int 1]))]) H := hP
    have hD : va_D A ([(x, .inr (11, [.ref st, .ref dr, .ref nw, .ref kp, .ref rd, .ref tm, .ref co])), (nw, .inr (10, [.ref rO, .ref sT, .ref mA, .ref sB, .ref sA, .ref tH, .ref tF, .ref tS, .int 0, .int 0, .int (-1), .int 0, .int 0])), (rO, .inr (3, [.ref mU, .ref bF, .ref bT, .int 0])), (bF, .inl (cI, 4, .inl (fun _ => 0))), (bT, .inl (cI, 4, .inl (fun _ => 0))), (st, .inr (6, [.ref dr, .ref s1, .ref s2, .ref s3, .int 1]))]) := hD
    by_cases c9 : 0 ≤ p1 ∧ p1 < 300
    · obtain rfl : r7 = 1 := by rw [hrh8, if_pos c9]
      refine lv_if_eq (tgt := 35) hx hb dX11_bridge_19 (by decide) (fun h => absurd h (by decide)) (fun c10 => ?_)
      refine lv_iload_n hx hb dX11_bridge_22 rfl (lv_at hl 2 rfl) ?_
      refine lv_iload_n hx hb dX11_bridge_23 rfl (lv_at hl 3 rfl) ?_
      refine lv_icmp_ge (tgt := 35) hx hb dX11_bridge_24 (by decide) (fun c11 => ?_) (fun c11 => ?_)
      · refine lv_iconst (v := (-1)) hx hb dX11_bridge_35 (by decide) ?_
        exact z_ret Z rfl hP hD hS ((by first | rfl | assumption | (rw [if_pos (by (try simp only [zlt, zle, zeq, zl_0, zl_1, zl_2, zl_3, zl_4, zl_5, zl_6, zl_7, zl_8, zl_9, zl_10, zl_11, zl_12, zl_13, zl_19, zl_20, zl_30, zl_64, zl_99, zl_100, zl_299, zl_300, zl_399, zl_999, zl_9999, zl_m1, zl_m2, zl_m3, zl_32, zl_280] at c4 c5 c9 c10 c11 ⊢); omega)]; first | done | ((try simp only [zlt, zle, zeq, zl_0, zl_1, zl_2, zl_3, zl_4, zl_5, zl_6, zl_7, zl_8, zl_9, zl_10, zl_11, zl_12, zl_13, zl_19, zl_20, zl_30, zl_64, zl_99, zl_100, zl_299, zl_300, zl_399, zl_999, zl_9999, zl_m1, zl_m2, zl_m3, zl_32, zl_280] at c4 c5 c9 c10 c11 ⊢); omega)) | (rw [if_neg (by (try simp only [zlt, zle, zeq, zl_0, zl_1, zl_2, zl_3, zl_4, zl_5, zl_6, zl_7, zl_8, zl_9, zl_10, zl_11, zl_12, zl_13, zl_19, zl_20, zl_30, zl_64, zl_99, zl_100, zl_299, zl_300, zl_399, zl_999, zl_9999, zl_m1, zl_m2, zl_m3, zl_32, zl_280] at c4 c5 c9 c10 c11 ⊢); omega)]; first | done | ((try simp only [zlt, zle, zeq, zl_0, zl_1, zl_2, zl_3, zl_4, zl_5, zl_6, zl_7, zl_8, zl_9, zl_10, zl_11, zl_12, zl_13, zl_19, zl_20, zl_30, zl_64, zl_99, zl_100, zl_299, zl_300, zl_399, zl_999, zl_9999, zl_m1, zl_m2, zl_m3, zl_32, zl_280] at c4 c5 c9 c10 c11 ⊢); omega)))) dX11_bridge_36 (Nat.le_of_ble_eq_true rfl) (Nat.le_of_ble_eq_true rfl)
      · refine lv_aload_n hx hb dX11_bridge_27 rfl (lv_at hl 0 rfl) ?_
        refine z_get Z i_X3 hP 2 rfl rfl 3 (by decide) bw_142 rfl dX11_bridge_28 ?_
        refine lv_iconst (v := 4) hx hb dX11_bridge_31 (by decide) ?_
        refine lv_icmp_lt (tgt := 37) hx hb dX11_bridge_32 (by decide) (fun c12 => ?_) (fun h => absurd (by decide) h)
        refine lv_aload_n hx hb dX11_bridge_37 rfl (lv_at hl 0 rfl) ?_
        refine z_get Z i_X3 hP 2 rfl rfl 1 (by decide) bw_138 rfl dX11_bridge_38 ?_
        refine lv_aload_n hx hb dX11_bridge_41 rfl (lv_at hl 0 rfl) ?_
        refine z_get Z i_X3 hP 2 rfl rfl 3 (by decide) bw_142 rfl dX11_bridge_42 ?_
        refine lv_iload_n hx hb dX11_bridge_45 rfl (lv_at hl 2 rfl) ?_
        refine z_iast Z hP hD hS 3 0 rfl rfl (vin (by decide)) dX11_bridge_46 (fun H locs hP hD hS => ?_)
        have hP : va_P D vwCl ([(x, .inr (11, [.ref st, .ref dr, .ref nw, .ref kp, .ref rd, .ref tm, .ref co])), (nw, .inr (10, [.ref rO, .ref sT, .ref mA, .ref sB, .ref sA, .ref tH, .ref tF, .ref tS, .int 0, .int 0, .int (-1), .int 0, .int 0])), (rO, .inr (3, [.ref mU, .ref bF, .ref bT, .int 0])), (bF, .inl (cI, 4, .inl (upd (fun _ => 0) (0 : Int32).toNatClampNeg p0))), (bT, .inl (cI, 4, .inl (fun _ => 0))), (st, .inr (6, [.ref dr, .ref s1, .ref s2, .ref s3, .int 1]))]) H := hP
        have hD : va_D A ([(x, .inr (11, [.ref st, .ref dr, .ref nw, .ref kp, .ref rd, .ref tm, .ref co])), (nw, .inr (10, [.ref rO, .ref sT, .ref mA, .ref sB, .ref sA, .ref tH, .ref tF, .ref tS, .int 0, .int 0, .int (-1), .int 0, .int 0])), (rO, .inr (3, [.ref mU, .ref bF, .ref bT, .int 0])), (bF, .inl (cI, 4, .inl (upd (fun _ => 0) (0 : Int32).toNatClampNeg p0))), (bT, .inl (cI, 4, .inl (fun _ => 0))), (st, .inr (6, [.ref dr, .ref s1, .ref s2, .ref s3, .int 1]))]) := hD
        refine lv_aload_n hx hb dX11_bridge_47 rfl (lv_at hl 0 rfl) ?_
        refine z_get Z i_X3 hP 2 rfl rfl 2 (by decide) bw_140 rfl dX11_bridge_48 ?_
        refine lv_aload_n hx hb dX11_bridge_51 rfl (lv_at hl 0 rfl) ?_
        refine z_get Z i_X3 hP 2 rfl rfl 3 (by decide) bw_142 rfl dX11_bridge_52 ?_
        refine lv_iload_n hx hb dX11_bridge_55 rfl (lv_at hl 3 rfl) ?_
        refine z_iast Z hP hD hS 4 0 rfl rfl (vin (by decide)) dX11_bridge_56 (fun H locs hP hD hS => ?_)
        have hP : va_P D vwCl ([(x, .inr (11, [.ref st, .ref dr, .ref nw, .ref kp, .ref rd, .ref tm, .ref co])), (nw, .inr (10, [.ref rO, .ref sT, .ref mA, .ref sB, .ref sA, .ref tH, .ref tF, .ref tS, .int 0, .int 0, .int (-1), .int 0, .int 0])), (rO, .inr (3, [.ref mU, .ref bF, .ref bT, .int 0])), (bF, .inl (cI, 4, .inl (upd (fun _ => 0) (0 : Int32).toNatClampNeg p0))), (bT, .inl (cI, 4, .inl (upd (fun _ => 0) (0 : Int32).toNatClampNeg p1))), (st, .inr (6, [.ref dr, .ref s1, .ref s2, .ref s3, .int 1]))]) H := hP
        have hD : va_D A ([(x, .inr (11, [.ref st, .ref dr, .ref nw, .ref kp, .ref rd, .ref tm, .ref co])), (nw, .inr (10, [.ref rO, .ref sT, .ref mA, .ref sB, .ref sA, .ref tH, .ref tF, .ref tS, .int 0, .int 0, .int (-1), .int 0, .int 0])), (rO, .inr (3, [.ref mU, .ref bF, .ref bT, .int 0])), (bF, .inl (cI, 4, .inl (upd (fun _ => 0) (0 : Int32).toNatClampNeg p0))), (bT, .inl (cI, 4, .inl (upd (fun _ => 0) (0 : Int32).toNatClampNeg p1))), (st, .inr (6, [.ref dr, .ref s1, .ref s2, .ref s3, .int 1]))]) := hD
        refine lv_aload_n hx hb dX11_bridge_57 rfl (lv_at hl 0 rfl) ?_
        refine lv_dup hx hb dX11_bridge_58 rfl ?_
        refine z_get Z i_X3 hP 2 rfl rfl 3 (by decide) bw_142 rfl dX11_bridge_59 ?_
        refine lv_iconst (v := 1) hx hb dX11_bridge_62 (by decide) ?_
        refine lv_iadd hx hb dX11_bridge_63 ?_
        refine z_topi (y := 1) (by decide) ?_
        refine z_put Z i_X3 tyX3 tyX3_ok nmX3 hP hD hS 2 rfl rfl 3 (by decide) bw_142 rfl rfl rfl (Nat.le_of_ble_eq_true rfl) dX11_bridge_64 (fun H locs hP hD hS => ?_)
        have hP : va_P D vwCl ([(x, .inr (11, [.ref st, .ref dr, .ref nw, .ref kp, .ref rd, .ref tm, .ref co])), (nw, .inr (10, [.ref rO, .ref sT, .ref mA, .ref sB, .ref sA, .ref tH, .ref tF, .ref tS, .int 0, .int 0, .int (-1), .int 0, .int 0])), (rO, .inr (3, [.ref mU, .ref bF, .ref bT, .int 1])), (bF, .inl (cI, 4, .inl (upd (fun _ => 0) (0 : Int32).toNatClampNeg p0))), (bT, .inl (cI, 4, .inl (upd (fun _ => 0) (0 : Int32).toNatClampNeg p1))), (st, .inr (6, [.ref dr, .ref s1, .ref s2, .ref s3, .int 1]))]) H := hP
        have hD : va_D A ([(x, .inr (11, [.ref st, .ref dr, .ref nw, .ref kp, .ref rd, .ref tm, .ref co])), (nw, .inr (10, [.ref rO, .ref sT, .ref mA, .ref sB, .ref sA, .ref tH, .ref tF, .ref tS, .int 0, .int 0, .int (-1), .int 0, .int 0])), (rO, .inr (3, [.ref mU, .ref bF, .ref bT, .int 1])), (bF, .inl (cI, 4, .inl (upd (fun _ => 0) (0 : Int32).toNatClampNeg p0))), (bT, .inl (cI, 4, .inl (upd (fun _ => 0) (0 : Int32).toNatClampNeg p1))), (st, .inr (6, [.ref dr, .ref s1, .ref s2, .ref s3, .int 1]))]) := hD
        refine lv_aload_n hx hb dX11_bridge_67 rfl (lv_at hl 1 rfl) ?_
        refine z_get Z i_X11 hP 0 rfl rfl 0 (by decide) bw_468 rfl dX11_bridge_68 ?_
        have hPc := hP.sub2 (wc := [(st, .inr (6, [.ref dr, .ref s1, .ref s2, .ref s3, .int 1]))]) [5] rfl
        have hDc := hD.sub (ws' := [(st, .inr (6, [.ref dr, .ref s1, .ref s2, .ref s3, .int 1]))]) [5] (by decide) rfl
        refine raw_Vv (ci := 6) (q0 := 0) (nA := 0) (As := []) (rest := []) Z hl.1 (c_X6_forget l D cI cM cT st dr s1 s2 s3 1) (bw_V bw_500 bw_501 bw_502 bw_81 bw_503) ⟨by decide +kernel, by decide +kernel, by decide +kernel⟩ rfl ⟨Nat.le_of_ble_eq_true rfl, Nat.le_of_ble_eq_true rfl⟩ rfl rfl rfl hPc hDc hS rfl (Nat.le_of_ble_eq_true rfl) dX11_bridge_71 ⟨Nat.le_of_ble_eq_true rfl, Nat.le_of_ble_eq_true rfl⟩ (fun u13 H1 locs1 h15 hku13 hP1 hD1 hS1 => ?_)
        obtain rfl := h15
        obtain ⟨hP, hD⟩ := z_join (wr := [(x, .inr (11, [.ref st, .ref dr, .ref nw, .ref kp, .ref rd, .ref tm, .ref co])), (nw, .inr (10, [.ref rO, .ref sT, .ref mA, .ref sB, .ref sA, .ref tH, .ref tF, .ref tS, .int 0, .int 0, .int (-1), .int 0, .int 0])), (rO, .inr (3, [.ref mU, .ref bF, .ref bT, .int 1])), (bF, .inl (cI, 4, .inl (upd (fun _ => 0) (0 : Int32).toNatClampNeg p0))), (bT, .inl (cI, 4, .inl (upd (fun _ => 0) (0 : Int32).toNatClampNeg p1)))]) Z hS hP hD [5] [0, 1, 2, 3, 4] rfl (by decide) rfl (by decide) (by decide) hku13 hP1 hD1
        have hS := hS1
        clear hS1
        generalize H1 = H at hP hS ⊢
        generalize locs1 = locs at hS ⊢
        have hP : va_P D vwCl ([(x, .inr (11, [.ref st, .ref dr, .ref nw, .ref kp, .ref rd, .ref tm, .ref co])), (nw, .inr (10, [.ref rO, .ref sT, .ref mA, .ref sB, .ref sA, .ref tH, .ref tF, .ref tS, .int 0, .int 0, .int (-1), .int 0, .int 0])), (rO, .inr (3, [.ref mU, .ref bF, .ref bT, .int 1])), (bF, .inl (cI, 4, .inl (upd (fun _ => 0) (0 : Int32).toNatClampNeg p0))), (bT, .inl (cI, 4, .inl (upd (fun _ => 0) (0 : Int32).toNatClampNeg p1))), (st, .inr (6, [.ref dr, .ref s1, .ref s2, .ref s3, .int (1 + 1)]))]) H := hP
        have hD : va_D A ([(x, .inr (11, [.ref st, .ref dr, .ref nw, .ref kp, .ref rd, .ref tm, .ref co])), (nw, .inr (10, [.ref rO, .ref sT, .ref mA, .ref sB, .ref sA, .ref tH, .ref tF, .ref tS, .int 0, .int 0, .int (-1), .int 0, .int 0])), (rO, .inr (3, [.ref mU, .ref bF, .ref bT, .int 1])), (bF, .inl (cI, 4, .inl (upd (fun _ => 0) (0 : Int32).toNatClampNeg p0))), (bT, .inl (cI, 4, .inl (upd (fun _ => 0) (0 : Int32).toNatClampNeg p1))), (st, .inr (6, [.ref dr, .ref s1, .ref s2, .ref s3, .int (1 + 1)]))]) := hD
        refine lv_aload_n hx hb dX11_bridge_74 rfl (lv_at hl 0 rfl) ?_
        refine z_get Z i_X3 hP 2 rfl rfl 3 (by decide) bw_142 rfl dX11_bridge_75 ?_
        exact z_ret Z rfl hP hD hS ((by first | rfl | assumption | (rw [if_pos (by (try simp only [zlt, zle, zeq, zl_0, zl_1, zl_2, zl_3, zl_4, zl_5, zl_6, zl_7, zl_8, zl_9, zl_10, zl_11, zl_12, zl_13, zl_19, zl_20, zl_30, zl_64, zl_99, zl_100, zl_299, zl_300, zl_399, zl_999, zl_9999, zl_m1, zl_m2, zl_m3, zl_32, zl_280] at c4 c5 c9 c10 c11 c12 ⊢); omega)]; first | done | ((try simp only [zlt, zle, zeq, zl_0, zl_1, zl_2, zl_3, zl_4, zl_5, zl_6, zl_7, zl_8, zl_9, zl_10, zl_11, zl_12, zl_13, zl_19, zl_20, zl_30, zl_64, zl_99, zl_100, zl_299, zl_300, zl_399, zl_999, zl_9999, zl_m1, zl_m2, zl_m3, zl_32, zl_280] at c4 c5 c9 c10 c11 c12 ⊢); omega)) | (rw [if_neg (by (try simp only [zlt, zle, zeq, zl_0, zl_1, zl_2, zl_3, zl_4, zl_5, zl_6, zl_7, zl_8, zl_9, zl_10, zl_11, zl_12, zl_13, zl_19, zl_20, zl_30, zl_64, zl_99, zl_100, zl_299, zl_300, zl_399, zl_999, zl_9999, zl_m1, zl_m2, zl_m3, zl_32, zl_280] at c4 c5 c9 c10 c11 c12 ⊢); omega)]; first | done | ((try simp only [zlt, zle, zeq, zl_0, zl_1, zl_2, zl_3, zl_4, zl_5, zl_6, zl_7, zl_8, zl_9, zl_10, zl_11, zl_12, zl_13, zl_19, zl_20, zl_30, zl_64, zl_99, zl_100, zl_299, zl_300, zl_399, zl_999, zl_9999, zl_m1, zl_m2, zl_m3, zl_32, zl_280] at c4 c5 c9 c10 c11 c12 ⊢); omega)))) dX11_bridge_78 (Nat.le_of_ble_eq_true rfl) (Nat.le_of_ble_eq_true rfl)
    · obtain rfl : r7 = 0 := by rw [hrh8, if_neg c9]
      refine lv_if_eq (tgt := 35) hx hb dX11_bridge_19 (by decide) (fun c16 => ?_) (fun h => absurd (by decide) h)
      refine lv_iconst (v := (-1)) hx hb dX11_bridge_35 (by decide) ?_
      exact z_ret Z rfl hP hD hS ((by first | rfl | assumption | (rw [if_pos (by (try simp only [zlt, zle, zeq, zl_0, zl_1, zl_2, zl_3, zl_4, zl_5, zl_6, zl_7, zl_8, zl_9, zl_10, zl_11, zl_12, zl_13, zl_19, zl_20, zl_30, zl_64, zl_99, zl_100, zl_299, zl_300, zl_399, zl_999, zl_9999, zl_m1, zl_m2, zl_m3, zl_32, zl_280] at c4 c5 c9 c16 ⊢); omega)]; first | done | ((try simp only [zlt, zle, zeq, zl_0, zl_1, zl_2, zl_3, zl_4, zl_5, zl_6, zl_7, zl_8, zl_9, zl_10, zl_11, zl_12, zl_13, zl_19, zl_20, zl_30, zl_64, zl_99, zl_100, zl_299, zl_300, zl_399, zl_999, zl_9999, zl_m1, zl_m2, zl_m3, zl_32, zl_280] at c4 c5 c9 c16 ⊢); omega)) | (rw [if_neg (by (try simp only [zlt, zle, zeq, zl_0, zl_1, zl_2, zl_3, zl_4, zl_5, zl_6, zl_7, zl_8, zl_9, zl_10, zl_11, zl_12, zl_13, zl_19, zl_20, zl_30, zl_64, zl_99, zl_100, zl_299, zl_300, zl_399, zl_999, zl_9999, zl_m1, zl_m2, zl_m3, zl_32, zl_280] at c4 c5 c9 c16 ⊢); omega)]; first | done | ((try simp only [zlt, zle, zeq, zl_0, zl_1, zl_2, zl_3, zl_4, zl_5, zl_6, zl_7, zl_8, zl_9, zl_10, zl_11, zl_12, zl_13, zl_19, zl_20, zl_30, zl_64, zl_99, zl_100, zl_299, zl_300, zl_399, zl_999, zl_9999, zl_m1, zl_m2, zl_m3, zl_32, zl_280] at c4 c5 c9 c16 ⊢); omega)))) dX11_bridge_36 (Nat.le_of_ble_eq_true rfl) (Nat.le_of_ble_eq_true rfl)
  · obtain rfl : r2 = 0 := by rw [hrh3, if_neg c4]
    refine lv_if_eq (tgt := 35) hx hb dX11_bridge_12 (by decide) (fun c17 => ?_) (fun h => absurd (by decide) h)
    refine lv_iconst (v := (-1)) hx hb dX11_bridge_35 (by decide) ?_
    exact z_ret Z rfl hP hD hS ((by first | rfl | assumption | (rw [if_pos (by (try simp only [zlt, zle, zeq, zl_0, zl_1, zl_2, zl_3, zl_4, zl_5, zl_6, zl_7, zl_8, zl_9, zl_10, zl_11, zl_12, zl_13, zl_19, zl_20, zl_30, zl_64, zl_99, zl_100, zl_299, zl_300, zl_399, zl_999, zl_9999, zl_m1, zl_m2, zl_m3, zl_32, zl_280] at c4 c17 ⊢); omega)]; first | done | ((try simp only [zlt, zle, zeq, zl_0, zl_1, zl_2, zl_3, zl_4, zl_5, zl_6, zl_7, zl_8, zl_9, zl_10, zl_11, zl_12, zl_13, zl_19, zl_20, zl_30, zl_64, zl_99, zl_100, zl_299, zl_300, zl_399, zl_999, zl_9999, zl_m1, zl_m2, zl_m3, zl_32, zl_280] at c4 c17 ⊢); omega)) | (rw [if_neg (by (try simp only [zlt, zle, zeq, zl_0, zl_1, zl_2, zl_3, zl_4, zl_5, zl_6, zl_7, zl_8, zl_9, zl_10, zl_11, zl_12, zl_13, zl_19, zl_20, zl_30, zl_64, zl_99, zl_100, zl_299, zl_300, zl_399, zl_999, zl_9999, zl_m1, zl_m2, zl_m3, zl_32, zl_280] at c4 c17 ⊢); omega)]; first | done | ((try simp only [zlt, zle, zeq, zl_0, zl_1, zl_2, zl_3, zl_4, zl_5, zl_6, zl_7, zl_8, zl_9, zl_10, zl_11, zl_12, zl_13, zl_19, zl_20, zl_30, zl_64, zl_99, zl_100, zl_299, zl_300, zl_399, zl_999, zl_9999, zl_m1, zl_m2, zl_m3, zl_32, zl_280] at c4 c17 ⊢); omega)))) dX11_bridge_36 (Nat.le_of_ble_eq_true rfl) (Nat.le_of_ble_eq_true rfl)
set_option maxHeartbeats 4000000 in
set_option maxRecDepth 100000 in
theorem c_X11_inn (l : Launch) (D : va_G) (cI cM cT : ClassId) (x : Nat) (st : Nat) (dr : Nat) (nw : Nat) (kp : Nat) (rd : Nat) (tm : Nat) (co : Nat) (rO : Nat) (sT : Nat) (mA : Nat) (sB : Nat) (sA : Nat) (tH : Nat) (tF : Nat) (tS : Nat) (iA : Nat) (p0 : Int32) : Ci l D (ty3 cI cM cT) yX11_inn cX11_inn 3 (some .int) 3 0 0 [.ref x, .int p0] ([(x, .inr (11, [.ref st, .ref dr, .ref nw, .ref kp, .ref rd, .ref tm, .ref co])), (nw, .inr (10, [.ref rO, .ref sT, .ref mA, .ref sB, .ref sA, .ref tH, .ref tF, .ref tS, .int 0, .int 0, .int (-1), .int 0, .int 0])), (mA, .inr (1, [.ref iA, .int 0, .int 0, .int 0, .int 0, .int 0, .int 13])), (iA, .inl (cI, 10, .inl (fun _ => 0)))]) (fun r u => r = (if 0 ≤ p0 ∧ p0 < 300 then 1 else (-1))) := by
  refine Ci.of (by decide +kernel) (Nat.le_of_ble_eq_true rfl) ?_
  intro p e s m below meth c A ls Z hin hP hD hl
  have hx := Z.1
  have hb := Z.2.1
  have hS : va_S A s.heap s.heap [] := va_S.rf
  have hl : lv_has ls 3 [(0, .ref x), (1, .int p0)] := hl
  skip
  refine lv_aload_n hx hb dX11_inn_0 rfl (lv_at hl 0 rfl) ?_
  refine z_get Z i_X11 hP 0 rfl rfl 2 (by decide) bw_470 rfl dX11_inn_1 ?_
  refine z_get Z i_X10 hP 1 rfl rfl 2 (by decide) bw_240 rfl dX11_inn_4 ?_
  refine lv_astore_n (lv' := [(2, .ref mA), (0, .ref x), (1, .int p0)]) hx hb dX11_inn_7 rfl hl (by decide) rfl (fun ls hl => ?_)
  refine lv_iload_n hx hb dX11_inn_8 rfl (lv_at hl 2 rfl) ?_
  have hPc := hP.sub2 (wc := []) [] rfl
  have hDc := hD.sub (ws' := []) [] (by decide) rfl
  refine raw_Si (nA := 1) (As := [.int p0]) (rest := []) Z hl.1 (c_X11_isPlace l D cI cM cT p0) (bw_S bw_494 bw_495 bw_80 bw_496) ⟨by decide +kernel, by decide +kernel, by decide +kernel⟩ rfl ⟨Nat.le_of_ble_eq_true rfl, Nat.le_of_ble_eq_true rfl⟩ hPc hDc hS rfl (Nat.le_of_ble_eq_true rfl) dX11_inn_9 ⟨Nat.le_of_ble_eq_true rfl, Nat.le_of_ble_eq_true rfl⟩ (fun r2 u1 H1 locs1 h3 hku1 hP1 hD1 hS1 => ?_)
  obtain ⟨hrh3, rfl⟩ := h3
  obtain ⟨hP, hD⟩ := z_join (wr := [(x, .inr (11, [.ref st, .ref dr, .ref nw, .ref kp, .ref rd, .ref tm, .ref co])), (nw, .inr (10, [.ref rO, .ref sT, .ref mA, .ref sB, .ref sA, .ref tH, .ref tF, .ref tS, .int 0, .int 0, .int (-1), .int 0, .int 0])), (mA, .inr (1, [.ref iA, .int 0, .int 0, .int 0, .int 0, .int 0, .int 13])), (iA, .inl (cI, 10, .inl (fun _ => 0)))]) Z hS hP hD [] [0, 1, 2, 3] rfl (by decide) rfl (by decide) (by decide) hku1 hP1 hD1
  have hS := hS1
  clear hS1
  generalize H1 = H at hP hS ⊢
  generalize locs1 = locs at hS ⊢
  have hP : va_P D vwCl ([(x, .inr (11, [.ref st, .ref dr, .ref nw, .ref kp, .ref rd, .ref tm, .ref co])), (nw, .inr (10, [.ref rO, .ref sT, .ref mA, .ref sB, .ref sA, .ref tH, .ref tF, .ref tS, .int 0, .int 0, .int (-1), .int 0, .int 0])), (mA, .inr (1, [.ref iA, .int 0, .int 0, .int 0, .int 0, .int 0, .int 13])), (iA, .inl (cI, 10, .inl (fun _ => 0)))]) H := hP
  have hD : va_D A ([(x, .inr (11, [.ref st, .ref dr, .ref nw, .ref kp, .ref rd, .ref tm, .ref co])), (nw, .inr (10, [.ref rO, .ref sT, .ref mA, .ref sB, .ref sA, .ref tH, .ref tF, .ref tS, .int 0, .int 0, .int (-1), .int 0, .int 0])), (mA, .inr (1, [.ref iA, .int 0, .int 0, .int 0, .int 0, .int 0, .int 13])), (iA, .inl (cI, 10, .inl (fun _ => 0)))]) := hD
  by_cases c4 : 0 ≤ p0 ∧ p0 < 300
  · obtain rfl : r2 = 1 := by rw [hrh3, if_pos c4]
    refine lv_if_eq (tgt := 24) hx hb dX11_inn_12 (by decide) (fun h => absurd h (by decide)) (fun c5 => ?_)
    refine lv_aload_n hx hb dX11_inn_15 rfl (lv_at hl 0 rfl) ?_
    refine z_get Z i_X1 hP 2 rfl rfl 1 (by decide) bw_184 rfl dX11_inn_16 ?_
    refine lv_bipush (v := 10) hx hb dX11_inn_19 (by decide) ?_
    refine lv_icmp_lt (tgt := 26) hx hb dX11_inn_21 (by decide) (fun c6 => ?_) (fun h => absurd (by decide) h)
    refine lv_aload_n hx hb dX11_inn_26 rfl (lv_at hl 0 rfl) ?_
    refine z_get Z i_X1 hP 2 rfl rfl 0 (by decide) bw_182 rfl dX11_inn_27 ?_
    refine lv_aload_n hx hb dX11_inn_30 rfl (lv_at hl 0 rfl) ?_
    refine z_get Z i_X1 hP 2 rfl rfl 1 (by decide) bw_184 rfl dX11_inn_31 ?_
    refine lv_iload_n hx hb dX11_inn_34 rfl (lv_at hl 2 rfl) ?_
    refine z_iast Z hP hD hS 3 0 rfl rfl (vin (by decide)) dX11_inn_35 (fun H locs hP hD hS => ?_)
    have hP : va_P D vwCl ([(x, .inr (11, [.ref st, .ref dr, .ref nw, .ref kp, .ref rd, .ref tm, .ref co])), (nw, .inr (10, [.ref rO, .ref sT, .ref mA, .ref sB, .ref sA, .ref tH, .ref tF, .ref tS, .int 0, .int 0, .int (-1), .int 0, .int 0])), (mA, .inr (1, [.ref iA, .int 0, .int 0, .int 0, .int 0, .int 0, .int 13])), (iA, .inl (cI, 10, .inl (upd (fun _ => 0) (0 : Int32).toNatClampNeg p0)))]) H := hP
    have hD : va_D A ([(x, .inr (11, [.ref st, .ref dr, .ref nw, .ref kp, .ref rd, .ref tm, .ref co])), (nw, .inr (10, [.ref rO, .ref sT, .ref mA, .ref sB, .ref sA, .ref tH, .ref tF, .ref tS, .int 0, .int 0, .int (-1), .int 0, .int 0])), (mA, .inr (1, [.ref iA, .int 0, .int 0, .int 0, .int 0, .int 0, .int 13])), (iA, .inl (cI, 10, .inl (upd (fun _ => 0) (0 : Int32).toNatClampNeg p0)))]) := hD
    refine lv_aload_n hx hb dX11_inn_36 rfl (lv_at hl 0 rfl) ?_
    refine lv_dup hx hb dX11_inn_37 rfl ?_
    refine z_get Z i_X1 hP 2 rfl rfl 1 (by decide) bw_184 rfl dX11_inn_38 ?_
    refine lv_iconst (v := 1) hx hb dX11_inn_41 (by decide) ?_
    refine lv_iadd hx hb dX11_inn_42 ?_
    refine z_topi (y := 1) (by decide) ?_
    refine z_put Z i_X1 tyX1 tyX1_ok nmX1 hP hD hS 2 rfl rfl 1 (by decide) bw_184 rfl rfl rfl (Nat.le_of_ble_eq_true rfl) dX11_inn_43 (fun H locs hP hD hS => ?_)
    have hP : va_P D vwCl ([(x, .inr (11, [.ref st, .ref dr, .ref nw, .ref kp, .ref rd, .ref tm, .ref co])), (nw, .inr (10, [.ref rO, .ref sT, .ref mA, .ref sB, .ref sA, .ref tH, .ref tF, .ref tS, .int 0, .int 0, .int (-1), .int 0, .int 0])), (mA, .inr (1, [.ref iA, .int 1, .int 0, .int 0, .int 0, .int 0, .int 13])), (iA, .inl (cI, 10, .inl (upd (fun _ => 0) (0 : Int32).toNatClampNeg p0)))]) H := hP
    have hD : va_D A ([(x, .inr (11, [.ref st, .ref dr, .ref nw, .ref kp, .ref rd, .ref tm, .ref co])), (nw, .inr (10, [.ref rO, .ref sT, .ref mA, .ref sB, .ref sA, .ref tH, .ref tF, .ref tS, .int 0, .int 0, .int (-1), .int 0, .int 0])), (mA, .inr (1, [.ref iA, .int 1, .int 0, .int 0, .int 0, .int 0, .int 13])), (iA, .inl (cI, 10, .inl (upd (fun _ => 0) (0 : Int32).toNatClampNeg p0)))]) := hD
    refine lv_aload_n hx hb dX11_inn_46 rfl (lv_at hl 0 rfl) ?_
    refine z_get Z i_X1 hP 2 rfl rfl 1 (by decide) bw_184 rfl dX11_inn_47 ?_
    exact z_ret Z rfl hP hD hS ((by first | rfl | assumption | (rw [if_pos (by (try simp only [zlt, zle, zeq, zl_0, zl_1, zl_2, zl_3, zl_4, zl_5, zl_6, zl_7, zl_8, zl_9, zl_10, zl_11, zl_12, zl_13, zl_19, zl_20, zl_30, zl_64, zl_99, zl_100, zl_299, zl_300, zl_399, zl_999, zl_9999, zl_m1, zl_m2, zl_m3, zl_32, zl_280] at c4 c5 c6 ⊢); omega)]; first | done | ((try simp only [zlt, zle, zeq, zl_0, zl_1, zl_2, zl_3, zl_4, zl_5, zl_6, zl_7, zl_8, zl_9, zl_10, zl_11, zl_12, zl_13, zl_19, zl_20, zl_30, zl_64, zl_99, zl_100, zl_299, zl_300, zl_399, zl_999, zl_9999, zl_m1, zl_m2, zl_m3, zl_32, zl_280] at c4 c5 c6 ⊢); omega)) | (rw [if_neg (by (try simp only [zlt, zle, zeq, zl_0, zl_1, zl_2, zl_3, zl_4, zl_5, zl_6, zl_7, zl_8, zl_9, zl_10, zl_11, zl_12, zl_13, zl_19, zl_20, zl_30, zl_64, zl_99, zl_100, zl_299, zl_300, zl_399, zl_999, zl_9999, zl_m1, zl_m2, zl_m3, zl_32, zl_280] at c4 c5 c6 ⊢); omega)]; first | done | ((try simp only [zlt, zle, zeq, zl_0, zl_1, zl_2, zl_3, zl_4, zl_5, zl_6, zl_7, zl_8, zl_9, zl_10, zl_11, zl_12, zl_13, zl_19, zl_20, zl_30, zl_64, zl_99, zl_100, zl_299, zl_300, zl_399, zl_999, zl_9999, zl_m1, zl_m2, zl_m3, zl_32, zl_280] at c4 c5 c6 ⊢); omega)))) dX11_inn_50 (Nat.le_of_ble_eq_true rfl) (Nat.le_of_ble_eq_true rfl)
  · obtain rfl : r2 = 0 := by rw [hrh3, if_neg c4]
    refine lv_if_eq (tgt := 24) hx hb dX11_inn_12 (by decide) (fun c7 => ?_) (fun h => absurd (by decide) h)
    refine lv_iconst (v := (-1)) hx hb dX11_inn_24 (by decide) ?_
    exact z_ret Z rfl hP hD hS ((by first | rfl | assumption | (rw [if_pos (by (try simp only [zlt, zle, zeq, zl_0, zl_1, zl_2, zl_3, zl_4, zl_5, zl_6, zl_7, zl_8, zl_9, zl_10, zl_11, zl_12, zl_13, zl_19, zl_20, zl_30, zl_64, zl_99, zl_100, zl_299, zl_300, zl_399, zl_999, zl_9999, zl_m1, zl_m2, zl_m3, zl_32, zl_280] at c4 c7 ⊢); omega)]; first | done | ((try simp only [zlt, zle, zeq, zl_0, zl_1, zl_2, zl_3, zl_4, zl_5, zl_6, zl_7, zl_8, zl_9, zl_10, zl_11, zl_12, zl_13, zl_19, zl_20, zl_30, zl_64, zl_99, zl_100, zl_299, zl_300, zl_399, zl_999, zl_9999, zl_m1, zl_m2, zl_m3, zl_32, zl_280] at c4 c7 ⊢); omega)) | (rw [if_neg (by (try simp only [zlt, zle, zeq, zl_0, zl_1, zl_2, zl_3, zl_4, zl_5, zl_6, zl_7, zl_8, zl_9, zl_10, zl_11, zl_12, zl_13, zl_19, zl_20, zl_30, zl_64, zl_99, zl_100, zl_299, zl_300, zl_399, zl_999, zl_9999, zl_m1, zl_m2, zl_m3, zl_32, zl_280] at c4 c7 ⊢); omega)]; first | done | ((try simp only [zlt, zle, zeq, zl_0, zl_1, zl_2, zl_3, zl_4, zl_5, zl_6, zl_7, zl_8, zl_9, zl_10, zl_11, zl_12, zl_13, zl_19, zl_20, zl_30, zl_64, zl_99, zl_100, zl_299, zl_300, zl_399, zl_999, zl_9999, zl_m1, zl_m2, zl_m3, zl_32, zl_280] at c4 c7 ⊢); omega)))) dX11_inn_25 (Nat.le_of_ble_eq_true rfl) (Nat.le_of_ble_eq_true rfl)
set_option maxHeartbeats 4000000 in
set_option maxRecDepth 100000 in
theorem c_X11_move (l : Launch) (D : va_G) (cI cM cT : ClassId) (x : Nat) (st : Nat) (dr : Nat) (nw : Nat) (kp : Nat) (rd : Nat) (tm : Nat) (co : Nat) (rO : Nat) (sT : Nat) (mA : Nat) (sB : Nat) (sA : Nat) (tH : Nat) (tF : Nat) (tS : Nat) (iA : Nat) (p0 : Int32) (p1 : Int32) : Ci l D (ty3 cI cM cT) yX11_move cX11_move 4 (some .boolean) 3 0 0 [.ref x, .int p0, .int p1] ([(x, .inr (11, [.ref st, .ref dr, .ref nw, .ref kp, .ref rd, .ref tm, .ref co])), (nw, .inr (10, [.ref rO, .ref sT, .ref mA, .ref sB, .ref sA, .ref tH, .ref tF, .ref tS, .int 0, .int 0, .int (-1), .int 0, .int 0])), (mA, .inr (1, [.ref iA, .int 0, .int 0, .int 0, .int 0, .int 0, .int 13]))]) (fun r u => r = 0) := by
  refine Ci.of (by decide +kernel) (Nat.le_of_ble_eq_true rfl) ?_
  intro p e s m below meth c A ls Z hin hP hD hl
  have hx := Z.1
  have hb := Z.2.1
  have hS : va_S A s.heap s.heap [] := va_S.rf
  have hl : lv_has ls 4 [(0, .ref x), (1, .int p0), (2, .int p1)] := hl
  skip
  refine lv_aload_n hx hb dX11_move_0 rfl (lv_at hl 0 rfl) ?_
  refine z_get Z i_X11 hP 0 rfl rfl 2 (by decide) bw_470 rfl dX11_move_1 ?_
  refine z_get Z i_X10 hP 1 rfl rfl 2 (by decide) bw_240 rfl dX11_move_4 ?_
  refine lv_astore_n (lv' := [(3, .ref mA), (0, .ref x), (1, .int p0), (2, .int p1)]) hx hb dX11_move_7 rfl hl (by decide) rfl (fun ls hl => ?_)
  refine lv_iload_n hx hb dX11_move_8 rfl (lv_at hl 2 rfl) ?_
  refine lv_iconst (v := 0) hx hb dX11_move_9 (by decide) ?_
  refine lv_aload_n hx hb dX11_move_10 rfl (lv_at hl 0 rfl) ?_
  refine z_get Z i_X1 hP 2 rfl rfl 1 (by decide) bw_184 rfl dX11_move_11 ?_
  refine lv_iconst (v := 1) hx hb dX11_move_14 (by decide) ?_
  refine lv_isub hx hb dX11_move_15 ?_
  refine z_topi (y := (-1)) (by decide) ?_
  have hPc := hP.sub2 (wc := []) [] rfl
  have hDc := hD.sub (ws' := []) [] (by decide) rfl
  refine raw_Si (nA := 3) (As := [.int p0, .int 0, .int (-1)]) (rest := []) Z hl.1 (c_X11_isWithin l D cI cM cT p0 0 (-1)) (bw_S bw_497 bw_498 bw_80 bw_499) ⟨by decide +kernel, by decide +kernel, by decide +kernel⟩ rfl ⟨Nat.le_of_ble_eq_true rfl, Nat.le_of_ble_eq_true rfl⟩ hPc hDc hS rfl (Nat.le_of_ble_eq_true rfl) dX11_move_16 ⟨Nat.le_of_ble_eq_true rfl, Nat.le_of_ble_eq_true rfl⟩ (fun r2 u1 H1 locs1 h3 hku1 hP1 hD1 hS1 => ?_)
  obtain ⟨hrh3, rfl⟩ := h3
  obtain ⟨hP, hD⟩ := z_join (wr := [(x, .inr (11, [.ref st, .ref dr, .ref nw, .ref kp, .ref rd, .ref tm, .ref co])), (nw, .inr (10, [.ref rO, .ref sT, .ref mA, .ref sB, .ref sA, .ref tH, .ref tF, .ref tS, .int 0, .int 0, .int (-1), .int 0, .int 0])), (mA, .inr (1, [.ref iA, .int 0, .int 0, .int 0, .int 0, .int 0, .int 13]))]) Z hS hP hD [] [0, 1, 2] rfl (by decide) rfl (by decide) (by decide) hku1 hP1 hD1
  have hS := hS1
  clear hS1
  generalize H1 = H at hP hS ⊢
  generalize locs1 = locs at hS ⊢
  have hP : va_P D vwCl ([(x, .inr (11, [.ref st, .ref dr, .ref nw, .ref kp, .ref rd, .ref tm, .ref co])), (nw, .inr (10, [.ref rO, .ref sT, .ref mA, .ref sB, .ref sA, .ref tH, .ref tF, .ref tS, .int 0, .int 0, .int (-1), .int 0, .int 0])), (mA, .inr (1, [.ref iA, .int 0, .int 0, .int 0, .int 0, .int 0, .int 13]))]) H := hP
  have hD : va_D A ([(x, .inr (11, [.ref st, .ref dr, .ref nw, .ref kp, .ref rd, .ref tm, .ref co])), (nw, .inr (10, [.ref rO, .ref sT, .ref mA, .ref sB, .ref sA, .ref tH, .ref tF, .ref tS, .int 0, .int 0, .int (-1), .int 0, .int 0])), (mA, .inr (1, [.ref iA, .int 0, .int 0, .int 0, .int 0, .int 0, .int 13]))]) := hD
  obtain rfl : r2 = 0 := by rw [hrh3, if_neg (by simp only [zlt, zle, zeq, zl_0, zl_1, zl_2, zl_3, zl_4, zl_5, zl_6, zl_7, zl_8, zl_9, zl_10, zl_11, zl_12, zl_13, zl_19, zl_20, zl_30, zl_64, zl_99, zl_100, zl_299, zl_300, zl_399, zl_999, zl_9999, zl_m1, zl_m2, zl_m3, zl_32, zl_280]; omega)]
  refine lv_if_eq (tgt := 39) hx hb dX11_move_19 (by decide) (fun c5 => ?_) (fun h => absurd (by decide) h)
  refine lv_iconst (v := 0) hx hb dX11_move_39 (by decide) ?_
  exact z_ret Z rfl hP hD hS ((by first | rfl | assumption)) dX11_move_40 (Nat.le_of_ble_eq_true rfl) (Nat.le_of_ble_eq_true rfl)
set_option maxHeartbeats 4000000 in
set_option maxRecDepth 100000 in
theorem c_X11_horse (l : Launch) (D : va_G) (cI cM cT : ClassId) (x : Nat) (st : Nat) (dr : Nat) (nw : Nat) (kp : Nat) (rd : Nat) (tm : Nat) (co : Nat) (rO : Nat) (sT : Nat) (mA : Nat) (sB : Nat) (sA : Nat) (tH : Nat) (tF : Nat) (tS : Nat) (cO : Nat) (sH : Nat) (s1 : Nat) (s2 : Nat) (s3 : Nat) (p0 : Int32) (p1 : Int32) : Ci l D (ty3 cI cM cT) yX11_horse cX11_horse 4 (some .int) 3 0 0 [.ref x, .int p0, .int p1] ([(x, .inr (11, [.ref st, .ref dr, .ref nw, .ref kp, .ref rd, .ref tm, .ref co])), (nw, .inr (10, [.ref rO, .ref sT, .ref mA, .ref sB, .ref sA, .ref tH, .ref tF, .ref tS, .int 0, .int 0, .int (-1), .int 0, .int 0])), (sT, .inr (4, [.ref cO, .ref sH, .int 0])), (cO, .inl (cI, 6, .inl (fun _ => 0))), (sH, .inl (cI, 6, .inl (fun _ => 0))), (st, .inr (6, [.ref dr, .ref s1, .ref s2, .ref s3, .int 1]))]) (fun r u => r = (if (1 ≤ p0 ∧ p0 ≤ 99) ∧ (1 ≤ p1 ∧ p1 ≤ 9) then 0 else (-1))) := by
  refine Ci.of (by decide +kernel) (Nat.le_of_ble_eq_true rfl) ?_
  intro p e s m below meth c A ls Z hin hP hD hl
  have hx := Z.1
  have hb := Z.2.1
  have hS : va_S A s.heap s.heap [] := va_S.rf
  have hl : lv_has ls 4 [(0, .ref x), (1, .int p0), (2, .int p1)] := hl
  skip
  refine lv_aload_n hx hb dX11_horse_0 rfl (lv_at hl 0 rfl) ?_
  refine z_get Z i_X11 hP 0 rfl rfl 2 (by decide) bw_470 rfl dX11_horse_1 ?_
  refine z_get Z i_X10 hP 1 rfl rfl 1 (by decide) bw_237 rfl dX11_horse_4 ?_
  refine lv_astore_n (lv' := [(3, .ref sT), (0, .ref x), (1, .int p0), (2, .int p1)]) hx hb dX11_horse_7 rfl hl (by decide) rfl (fun ls hl => ?_)
  refine lv_iload_n hx hb dX11_horse_8 rfl (lv_at hl 2 rfl) ?_
  refine lv_iconst (v := 1) hx hb dX11_horse_9 (by decide) ?_
  refine lv_bipush (v := 99) hx hb dX11_horse_10 (by decide) ?_
  have hPc := hP.sub2 (wc := []) [] rfl
  have hDc := hD.sub (ws' := []) [] (by decide) rfl
  refine raw_Si (nA := 3) (As := [.int p0, .int 1, .int 99]) (rest := []) Z hl.1 (c_X11_isWithin l D cI cM cT p0 1 99) (bw_S bw_497 bw_498 bw_80 bw_499) ⟨by decide +kernel, by decide +kernel, by decide +kernel⟩ rfl ⟨Nat.le_of_ble_eq_true rfl, Nat.le_of_ble_eq_true rfl⟩ hPc hDc hS rfl (Nat.le_of_ble_eq_true rfl) dX11_horse_12 ⟨Nat.le_of_ble_eq_true rfl, Nat.le_of_ble_eq_true rfl⟩ (fun r2 u1 H1 locs1 h3 hku1 hP1 hD1 hS1 => ?_)
  obtain ⟨hrh3, rfl⟩ := h3
  obtain ⟨hP, hD⟩ := z_join (wr := [(x, .inr (11, [.ref st, .ref dr, .ref nw, .ref kp, .ref rd, .ref tm, .ref co])), (nw, .inr (10, [.ref rO, .ref sT, .ref mA, .ref sB, .ref sA, .ref tH, .ref tF, .ref tS, .int 0, .int 0, .int (-1), .int 0, .int 0])), (sT, .inr (4, [.ref cO, .ref sH, .int 0])), (cO, .inl (cI, 6, .inl (fun _ => 0))), (sH, .inl (cI, 6, .inl (fun _ => 0))), (st, .inr (6, [.ref dr, .ref s1, .ref s2, .ref s3, .int 1]))]) Z hS hP hD [] [0, 1, 2, 3, 4, 5] rfl (by decide) rfl (by decide) (by decide) hku1 hP1 hD1
  have hS := hS1
  clear hS1
  generalize H1 = H at hP hS ⊢
  generalize locs1 = locs at hS ⊢
  have hP : va_P D vwCl ([(x, .inr (11, [.ref st, .ref dr, .ref nw, .ref kp, .ref rd, .ref tm, .ref co])), (nw, .inr (10, [.ref rO, .ref sT, .ref mA, .ref sB, .ref sA, .ref tH, .ref tF, .ref tS, .int 0, .int 0, .int (-1), .int 0, .int 0])), (sT, .inr (4, [.ref cO, .ref sH, .int 0])), (cO, .inl (cI, 6, .inl (fun _ => 0))), (sH, .inl (cI, 6, .inl (fun _ => 0))), (st, .inr (6, [.ref dr, .ref s1, .ref s2, .ref s3, .int 1]))]) H := hP
  have hD : va_D A ([(x, .inr (11, [.ref st, .ref dr, .ref nw, .ref kp, .ref rd, .ref tm, .ref co])), (nw, .inr (10, [.ref rO, .ref sT, .ref mA, .ref sB, .ref sA, .ref tH, .ref tF, .ref tS, .int 0, .int 0, .int (-1), .int 0, .int 0])), (sT, .inr (4, [.ref cO, .ref sH, .int 0])), (cO, .inl (cI, 6, .inl (fun _ => 0))), (sH, .inl (cI, 6, .inl (fun _ => 0))), (st, .inr (6, [.ref dr, .ref s1, .ref s2, .ref s3, .int 1]))]) := hD
  by_cases c4 : 1 ≤ p0 ∧ p0 ≤ 99
  · obtain rfl : r2 = 1 := by rw [hrh3, if_pos c4]
    refine lv_if_eq (tgt := 37) hx hb dX11_horse_15 (by decide) (fun h => absurd h (by decide)) (fun c5 => ?_)
    refine lv_iload_n hx hb dX11_horse_18 rfl (lv_at hl 3 rfl) ?_
    refine lv_iconst (v := 1) hx hb dX11_horse_19 (by decide) ?_
    refine lv_bipush (v := 9) hx hb dX11_horse_20 (by decide) ?_
    have hPc := hP.sub2 (wc := []) [] rfl
    have hDc := hD.sub (ws' := []) [] (by decide) rfl
    refine raw_Si (nA := 3) (As := [.int p1, .int 1, .int 9]) (rest := []) Z hl.1 (c_X11_isWithin l D cI cM cT p1 1 9) (bw_S bw_497 bw_498 bw_80 bw_499) ⟨by decide +kernel, by decide +kernel, by decide +kernel⟩ rfl ⟨Nat.le_of_ble_eq_true rfl, Nat.le_of_ble_eq_true rfl⟩ hPc hDc hS rfl (Nat.le_of_ble_eq_true rfl) dX11_horse_22 ⟨Nat.le_of_ble_eq_true rfl, Nat.le_of_ble_eq_true rfl⟩ (fun r7 u6 H1 locs1 h8 hku6 hP1 hD1 hS1 => ?_)
    obtain ⟨hrh8, rfl⟩ := h8
    obtain ⟨hP, hD⟩ := z_join (wr := [(x, .inr (11, [.ref st, .ref dr, .ref nw, .ref kp, .ref rd, .ref tm, .ref co])), (nw, .inr (10, [.ref rO, .ref sT, .ref mA, .ref sB, .ref sA, .ref tH, .ref tF, .ref tS, .int 0, .int 0, .int (-1), .int 0, .int 0])), (sT, .inr (4, [.ref cO, .ref sH, .int 0])), (cO, .inl (cI, 6, .inl (fun _ => 0))), (sH, .inl (cI, 6, .inl (fun _ => 0))), (st, .inr (6, [.ref dr, .ref s1, .ref s2, .ref s3, .int 1]))]) Z hS hP hD [] [0, 1, 2, 3, 4, 5] rfl (by decide) rfl (by decide) (by decide) hku6 hP1 hD1
    have hS := hS1
    clear hS1
    generalize H1 = H at hP hS ⊢
    generalize locs1 = locs at hS ⊢
    have hP : va_P D vwCl ([(x, .inr (11, [.ref st, .ref dr, .ref nw, .ref kp, .ref rd, .ref tm, .ref co])), (nw, .inr (10, [.ref rO, .ref sT, .ref mA, .ref sB, .ref sA, .ref tH, .ref tF, .ref tS, .int 0, .int 0, .int (-1), .int 0, .int 0])), (sT, .inr (4, [.ref cO, .ref sH, .int 0])), (cO, .inl (cI, 6, .inl (fun _ => 0))), (sH, .inl (cI, 6, .inl (fun _ => 0))), (st, .inr (6, [.ref dr, .ref s1, .ref s2, .ref s3, .int 1]))]) H := hP
    have hD : va_D A ([(x, .inr (11, [.ref st, .ref dr, .ref nw, .ref kp, .ref rd, .ref tm, .ref co])), (nw, .inr (10, [.ref rO, .ref sT, .ref mA, .ref sB, .ref sA, .ref tH, .ref tF, .ref tS, .int 0, .int 0, .int (-1), .int 0, .int 0])), (sT, .inr (4, [.ref cO, .ref sH, .int 0])), (cO, .inl (cI, 6, .inl (fun _ => 0))), (sH, .inl (cI, 6, .inl (fun _ => 0))), (st, .inr (6, [.ref dr, .ref s1, .ref s2, .ref s3, .int 1]))]) := hD
    by_cases c9 : 1 ≤ p1 ∧ p1 ≤ 9
    · obtain rfl : r7 = 1 := by rw [hrh8, if_pos c9]
      refine lv_if_eq (tgt := 37) hx hb dX11_horse_25 (by decide) (fun h => absurd h (by decide)) (fun c10 => ?_)
      refine lv_aload_n hx hb dX11_horse_28 rfl (lv_at hl 0 rfl) ?_
      refine z_get Z i_X4 hP 2 rfl rfl 2 (by decide) bw_167 rfl dX11_horse_29 ?_
      refine lv_bipush (v := 6) hx hb dX11_horse_32 (by decide) ?_
      refine lv_icmp_lt (tgt := 39) hx hb dX11_horse_34 (by decide) (fun c11 => ?_) (fun h => absurd (by decide) h)
      refine lv_aload_n hx hb dX11_horse_39 rfl (lv_at hl 0 rfl) ?_
      refine z_get Z i_X4 hP 2 rfl rfl 0 (by decide) bw_161 rfl dX11_horse_40 ?_
      refine lv_aload_n hx hb dX11_horse_43 rfl (lv_at hl 0 rfl) ?_
      refine z_get Z i_X4 hP 2 rfl rfl 2 (by decide) bw_167 rfl dX11_horse_44 ?_
      refine lv_iload_n hx hb dX11_horse_47 rfl (lv_at hl 2 rfl) ?_
      refine z_iast Z hP hD hS 3 0 rfl rfl (vin (by decide)) dX11_horse_48 (fun H locs hP hD hS => ?_)
      have hP : va_P D vwCl ([(x, .inr (11, [.ref st, .ref dr, .ref nw, .ref kp, .ref rd, .ref tm, .ref co])), (nw, .inr (10, [.ref rO, .ref sT, .ref mA, .ref sB, .ref sA, .ref tH, .ref tF, .ref tS, .int 0, .int 0, .int (-1), .int 0, .int 0])), (sT, .inr (4, [.ref cO, .ref sH, .int 0])), (cO, .inl (cI, 6, .inl (upd (fun _ => 0) (0 : Int32).toNatClampNeg p0))), (sH, .inl (cI, 6, .inl (fun _ => 0))), (st, .inr (6, [.ref dr, .ref s1, .ref s2, .ref s3, .int 1]))]) H := hP
      have hD : va_D A ([(x, .inr (11, [.ref st, .ref dr, .ref nw, .ref kp, .ref rd, .ref tm, .ref co])), (nw, .inr (10, [.ref rO, .ref sT, .ref mA, .ref sB, .ref sA, .ref tH, .ref tF, .ref tS, .int 0, .int 0, .int (-1), .int 0, .int 0])), (sT, .inr (4, [.ref cO, .ref sH, .int 0])), (cO, .inl (cI, 6, .inl (upd (fun _ => 0) (0 : Int32).toNatClampNeg p0))), (sH, .inl (cI, 6, .inl (fun _ => 0))), (st, .inr (6, [.ref dr, .ref s1, .ref s2, .ref s3, .int 1]))]) := hD
      refine lv_aload_n hx hb dX11_horse_49 rfl (lv_at hl 0 rfl) ?_
      refine z_get Z i_X4 hP 2 rfl rfl 1 (by decide) bw_164 rfl dX11_horse_50 ?_
      refine lv_aload_n hx hb dX11_horse_53 rfl (lv_at hl 0 rfl) ?_
      refine z_get Z i_X4 hP 2 rfl rfl 2 (by decide) bw_167 rfl dX11_horse_54 ?_
      refine lv_iload_n hx hb dX11_horse_57 rfl (lv_at hl 3 rfl) ?_
      refine z_iast Z hP hD hS 4 0 rfl rfl (vin (by decide)) dX11_horse_58 (fun H locs hP hD hS => ?_)
      have hP : va_P D vwCl ([(x, .inr (11, [.ref st, .ref dr, .ref nw, .ref kp, .ref rd, .ref tm, .ref co])), (nw, .inr (10, [.ref rO, .ref sT, .ref mA, .ref sB, .ref sA, .ref tH, .ref tF, .ref tS, .int 0, .int 0, .int (-1), .int 0, .int 0])), (sT, .inr (4, [.ref cO, .ref sH, .int 0])), (cO, .inl (cI, 6, .inl (upd (fun _ => 0) (0 : Int32).toNatClampNeg p0))), (sH, .inl (cI, 6, .inl (upd (fun _ => 0) (0 : Int32).toNatClampNeg p1))), (st, .inr (6, [.ref dr, .ref s1, .ref s2, .ref s3, .int 1]))]) H := hP
      have hD : va_D A ([(x, .inr (11, [.ref st, .ref dr, .ref nw, .ref kp, .ref rd, .ref tm, .ref co])), (nw, .inr (10, [.ref rO, .ref sT, .ref mA, .ref sB, .ref sA, .ref tH, .ref tF, .ref tS, .int 0, .int 0, .int (-1), .int 0, .int 0])), (sT, .inr (4, [.ref cO, .ref sH, .int 0])), (cO, .inl (cI, 6, .inl (upd (fun _ => 0) (0 : Int32).toNatClampNeg p0))), (sH, .inl (cI, 6, .inl (upd (fun _ => 0) (0 : Int32).toNatClampNeg p1))), (st, .inr (6, [.ref dr, .ref s1, .ref s2, .ref s3, .int 1]))]) := hD
      refine lv_aload_n hx hb dX11_horse_59 rfl (lv_at hl 0 rfl) ?_
      refine lv_dup hx hb dX11_horse_60 rfl ?_
      refine z_get Z i_X4 hP 2 rfl rfl 2 (by decide) bw_167 rfl dX11_horse_61 ?_
      refine lv_iconst (v := 1) hx hb dX11_horse_64 (by decide) ?_
      refine lv_iadd hx hb dX11_horse_65 ?_
      refine z_topi (y := 1) (by decide) ?_
      refine z_put Z i_X4 tyX4 tyX4_ok nmX4 hP hD hS 2 rfl rfl 2 (by decide) bw_167 rfl rfl rfl (Nat.le_of_ble_eq_true rfl) dX11_horse_66 (fun H locs hP hD hS => ?_)
      have hP : va_P D vwCl ([(x, .inr (11, [.ref st, .ref dr, .ref nw, .ref kp, .ref rd, .ref tm, .ref co])), (nw, .inr (10, [.ref rO, .ref sT, .ref mA, .ref sB, .ref sA, .ref tH, .ref tF, .ref tS, .int 0, .int 0, .int (-1), .int 0, .int 0])), (sT, .inr (4, [.ref cO, .ref sH, .int 1])), (cO, .inl (cI, 6, .inl (upd (fun _ => 0) (0 : Int32).toNatClampNeg p0))), (sH, .inl (cI, 6, .inl (upd (fun _ => 0) (0 : Int32).toNatClampNeg p1))), (st, .inr (6, [.ref dr, .ref s1, .ref s2, .ref s3, .int 1]))]) H := hP
      have hD : va_D A ([(x, .inr (11, [.ref st, .ref dr, .ref nw, .ref kp, .ref rd, .ref tm, .ref co])), (nw, .inr (10, [.ref rO, .ref sT, .ref mA, .ref sB, .ref sA, .ref tH, .ref tF, .ref tS, .int 0, .int 0, .int (-1), .int 0, .int 0])), (sT, .inr (4, [.ref cO, .ref sH, .int 1])), (cO, .inl (cI, 6, .inl (upd (fun _ => 0) (0 : Int32).toNatClampNeg p0))), (sH, .inl (cI, 6, .inl (upd (fun _ => 0) (0 : Int32).toNatClampNeg p1))), (st, .inr (6, [.ref dr, .ref s1, .ref s2, .ref s3, .int 1]))]) := hD
      refine lv_aload_n hx hb dX11_horse_69 rfl (lv_at hl 1 rfl) ?_
      refine z_get Z i_X11 hP 0 rfl rfl 0 (by decide) bw_468 rfl dX11_horse_70 ?_
      have hPc := hP.sub2 (wc := [(st, .inr (6, [.ref dr, .ref s1, .ref s2, .ref s3, .int 1]))]) [5] rfl
      have hDc := hD.sub (ws' := [(st, .inr (6, [.ref dr, .ref s1, .ref s2, .ref s3, .int 1]))]) [5] (by decide) rfl
      refine raw_Vv (ci := 6) (q0 := 0) (nA := 0) (As := []) (rest := []) Z hl.1 (c_X6_forget l D cI cM cT st dr s1 s2 s3 1) (bw_V bw_500 bw_501 bw_502 bw_81 bw_503) ⟨by decide +kernel, by decide +kernel, by decide +kernel⟩ rfl ⟨Nat.le_of_ble_eq_true rfl, Nat.le_of_ble_eq_true rfl⟩ rfl rfl rfl hPc hDc hS rfl (Nat.le_of_ble_eq_true rfl) dX11_horse_73 ⟨Nat.le_of_ble_eq_true rfl, Nat.le_of_ble_eq_true rfl⟩ (fun u12 H1 locs1 h14 hku12 hP1 hD1 hS1 => ?_)
      obtain rfl := h14
      obtain ⟨hP, hD⟩ := z_join (wr := [(x, .inr (11, [.ref st, .ref dr, .ref nw, .ref kp, .ref rd, .ref tm, .ref co])), (nw, .inr (10, [.ref rO, .ref sT, .ref mA, .ref sB, .ref sA, .ref tH, .ref tF, .ref tS, .int 0, .int 0, .int (-1), .int 0, .int 0])), (sT, .inr (4, [.ref cO, .ref sH, .int 1])), (cO, .inl (cI, 6, .inl (upd (fun _ => 0) (0 : Int32).toNatClampNeg p0))), (sH, .inl (cI, 6, .inl (upd (fun _ => 0) (0 : Int32).toNatClampNeg p1)))]) Z hS hP hD [5] [0, 1, 2, 3, 4] rfl (by decide) rfl (by decide) (by decide) hku12 hP1 hD1
      have hS := hS1
      clear hS1
      generalize H1 = H at hP hS ⊢
      generalize locs1 = locs at hS ⊢
      have hP : va_P D vwCl ([(x, .inr (11, [.ref st, .ref dr, .ref nw, .ref kp, .ref rd, .ref tm, .ref co])), (nw, .inr (10, [.ref rO, .ref sT, .ref mA, .ref sB, .ref sA, .ref tH, .ref tF, .ref tS, .int 0, .int 0, .int (-1), .int 0, .int 0])), (sT, .inr (4, [.ref cO, .ref sH, .int 1])), (cO, .inl (cI, 6, .inl (upd (fun _ => 0) (0 : Int32).toNatClampNeg p0))), (sH, .inl (cI, 6, .inl (upd (fun _ => 0) (0 : Int32).toNatClampNeg p1))), (st, .inr (6, [.ref dr, .ref s1, .ref s2, .ref s3, .int (1 + 1)]))]) H := hP
      have hD : va_D A ([(x, .inr (11, [.ref st, .ref dr, .ref nw, .ref kp, .ref rd, .ref tm, .ref co])), (nw, .inr (10, [.ref rO, .ref sT, .ref mA, .ref sB, .ref sA, .ref tH, .ref tF, .ref tS, .int 0, .int 0, .int (-1), .int 0, .int 0])), (sT, .inr (4, [.ref cO, .ref sH, .int 1])), (cO, .inl (cI, 6, .inl (upd (fun _ => 0) (0 : Int32).toNatClampNeg p0))), (sH, .inl (cI, 6, .inl (upd (fun _ => 0) (0 : Int32).toNatClampNeg p1))), (st, .inr (6, [.ref dr, .ref s1, .ref s2, .ref s3, .int (1 + 1)]))]) := hD
      refine lv_aload_n hx hb dX11_horse_76 rfl (lv_at hl 0 rfl) ?_
      refine z_get Z i_X4 hP 2 rfl rfl 2 (by decide) bw_167 rfl dX11_horse_77 ?_
      refine lv_iconst (v := 1) hx hb dX11_horse_80 (by decide) ?_
      refine lv_isub hx hb dX11_horse_81 ?_
      refine z_topi (y := 0) (by decide) ?_
      exact z_ret Z rfl hP hD hS ((by first | rfl | assumption | (rw [if_pos (by (try simp only [zlt, zle, zeq, zl_0, zl_1, zl_2, zl_3, zl_4, zl_5, zl_6, zl_7, zl_8, zl_9, zl_10, zl_11, zl_12, zl_13, zl_19, zl_20, zl_30, zl_64, zl_99, zl_100, zl_299, zl_300, zl_399, zl_999, zl_9999, zl_m1, zl_m2, zl_m3, zl_32, zl_280] at c4 c5 c9 c10 c11 ⊢); omega)]; first | done | ((try simp only [zlt, zle, zeq, zl_0, zl_1, zl_2, zl_3, zl_4, zl_5, zl_6, zl_7, zl_8, zl_9, zl_10, zl_11, zl_12, zl_13, zl_19, zl_20, zl_30, zl_64, zl_99, zl_100, zl_299, zl_300, zl_399, zl_999, zl_9999, zl_m1, zl_m2, zl_m3, zl_32, zl_280] at c4 c5 c9 c10 c11 ⊢); omega)) | (rw [if_neg (by (try simp only [zlt, zle, zeq, zl_0, zl_1, zl_2, zl_3, zl_4, zl_5, zl_6, zl_7, zl_8, zl_9, zl_10, zl_11, zl_12, zl_13, zl_19, zl_20, zl_30, zl_64, zl_99, zl_100, zl_299, zl_300, zl_399, zl_999, zl_9999, zl_m1, zl_m2, zl_m3, zl_32, zl_280] at c4 c5 c9 c10 c11 ⊢); omega)]; first | done | ((try simp only [zlt, zle, zeq, zl_0, zl_1, zl_2, zl_3, zl_4, zl_5, zl_6, zl_7, zl_8, zl_9, zl_10, zl_11, zl_12, zl_13, zl_19, zl_20, zl_30, zl_64, zl_99, zl_100, zl_299, zl_300, zl_399, zl_999, zl_9999, zl_m1, zl_m2, zl_m3, zl_32, zl_280] at c4 c5 c9 c10 c11 ⊢); omega)))) dX11_horse_82 (Nat.le_of_ble_eq_true rfl) (Nat.le_of_ble_eq_true rfl)
    · obtain rfl : r7 = 0 := by rw [hrh8, if_neg c9]
      refine lv_if_eq (tgt := 37) hx hb dX11_horse_25 (by decide) (fun c15 => ?_) (fun h => absurd (by decide) h)
      refine lv_iconst (v := (-1)) hx hb dX11_horse_37 (by decide) ?_
      exact z_ret Z rfl hP hD hS ((by first | rfl | assumption | (rw [if_pos (by (try simp only [zlt, zle, zeq, zl_0, zl_1, zl_2, zl_3, zl_4, zl_5, zl_6, zl_7, zl_8, zl_9, zl_10, zl_11, zl_12, zl_13, zl_19, zl_20, zl_30, zl_64, zl_99, zl_100, zl_299, zl_300, zl_399, zl_999, zl_9999, zl_m1, zl_m2, zl_m3, zl_32, zl_280] at c4 c5 c9 c15 ⊢); omega)]; first | done | ((try simp only [zlt, zle, zeq, zl_0, zl_1, zl_2, zl_3, zl_4, zl_5, zl_6, zl_7, zl_8, zl_9, zl_10, zl_11, zl_12, zl_13, zl_19, zl_20, zl_30, zl_64, zl_99, zl_100, zl_299, zl_300, zl_399, zl_999, zl_9999, zl_m1, zl_m2, zl_m3, zl_32, zl_280] at c4 c5 c9 c15 ⊢); omega)) | (rw [if_neg (by (try simp only [zlt, zle, zeq, zl_0, zl_1, zl_2, zl_3, zl_4, zl_5, zl_6, zl_7, zl_8, zl_9, zl_10, zl_11, zl_12, zl_13, zl_19, zl_20, zl_30, zl_64, zl_99, zl_100, zl_299, zl_300, zl_399, zl_999, zl_9999, zl_m1, zl_m2, zl_m3, zl_32, zl_280] at c4 c5 c9 c15 ⊢); omega)]; first | done | ((try simp only [zlt, zle, zeq, zl_0, zl_1, zl_2, zl_3, zl_4, zl_5, zl_6, zl_7, zl_8, zl_9, zl_10, zl_11, zl_12, zl_13, zl_19, zl_20, zl_30, zl_64, zl_99, zl_100, zl_299, zl_300, zl_399, zl_999, zl_9999, zl_m1, zl_m2, zl_m3, zl_32, zl_280] at c4 c5 c9 c15 ⊢); omega)))) dX11_horse_38 (Nat.le_of_ble_eq_true rfl) (Nat.le_of_ble_eq_true rfl)
  · obtain rfl : r2 = 0 := by rw [hrh3, if_neg c4]
    refine lv_if_eq (tgt := 37) hx hb dX11_horse_15 (by decide) (fun c16 => ?_) (fun h => absurd (by decide) h)
    refine lv_iconst (v := (-1)) hx hb dX11_horse_37 (by decide) ?_
    exact z_ret Z rfl hP hD hS ((by first | rfl | assumption | (rw [if_pos (by (try simp only [zlt, zle, zeq, zl_0, zl_1, zl_2, zl_3, zl_4, zl_5, zl_6, zl_7, zl_8, zl_9, zl_10, zl_11, zl_12, zl_13, zl_19, zl_20, zl_30, zl_64, zl_99, zl_100, zl_299, zl_300, zl_399, zl_999, zl_9999, zl_m1, zl_m2, zl_m3, zl_32, zl_280] at c4 c16 ⊢); omega)]; first | done | ((try simp only [zlt, zle, zeq, zl_0, zl_1, zl_2, zl_3, zl_4, zl_5, zl_6, zl_7, zl_8, zl_9, zl_10, zl_11, zl_12, zl_13, zl_19, zl_20, zl_30, zl_64, zl_99, zl_100, zl_299, zl_300, zl_399, zl_999, zl_9999, zl_m1, zl_m2, zl_m3, zl_32, zl_280] at c4 c16 ⊢); omega)) | (rw [if_neg (by (try simp only [zlt, zle, zeq, zl_0, zl_1, zl_2, zl_3, zl_4, zl_5, zl_6, zl_7, zl_8, zl_9, zl_10, zl_11, zl_12, zl_13, zl_19, zl_20, zl_30, zl_64, zl_99, zl_100, zl_299, zl_300, zl_399, zl_999, zl_9999, zl_m1, zl_m2, zl_m3, zl_32, zl_280] at c4 c16 ⊢); omega)]; first | done | ((try simp only [zlt, zle, zeq, zl_0, zl_1, zl_2, zl_3, zl_4, zl_5, zl_6, zl_7, zl_8, zl_9, zl_10, zl_11, zl_12, zl_13, zl_19, zl_20, zl_30, zl_64, zl_99, zl_100, zl_299, zl_300, zl_399, zl_999, zl_9999, zl_m1, zl_m2, zl_m3, zl_32, zl_280] at c4 c16 ⊢); omega)))) dX11_horse_38 (Nat.le_of_ble_eq_true rfl) (Nat.le_of_ble_eq_true rfl)
set_option maxHeartbeats 4000000 in
set_option maxRecDepth 100000 in
theorem c_X11_weather (l : Launch) (D : va_G) (cI cM cT : ClassId) (x : Nat) (st : Nat) (dr : Nat) (nw : Nat) (kp : Nat) (rd : Nat) (tm : Nat) (co : Nat) (rO : Nat) (sT : Nat) (mA : Nat) (sB : Nat) (sA : Nat) (tH : Nat) (tF : Nat) (tS : Nat) (iA : Nat) (p0 : Int32) (p1 : Int32) : Ci l D (ty3 cI cM cT) yX11_weather cX11_weather 3 (some .boolean) 3 0 0 [.ref x, .int p0, .int p1] ([(x, .inr (11, [.ref st, .ref dr, .ref nw, .ref kp, .ref rd, .ref tm, .ref co])), (nw, .inr (10, [.ref rO, .ref sT, .ref mA, .ref sB, .ref sA, .ref tH, .ref tF, .ref tS, .int 0, .int 0, .int (-1), .int 0, .int 0])), (mA, .inr (1, [.ref iA, .int 0, .int 0, .int 0, .int 0, .int 0, .int 13]))]) (fun r u => r = (if (0 ≤ p0 ∧ p0 ≤ 10) ∧ (0 ≤ p1 ∧ p1 ≤ 9999) then 1 else 0)) := by
  refine Ci.of (by decide +kernel) (Nat.le_of_ble_eq_true rfl) ?_
  intro p e s m below meth c A ls Z hin hP hD hl
  have hx := Z.1
  have hb := Z.2.1
  have hS : va_S A s.heap s.heap [] := va_S.rf
  have hl : lv_has ls 3 [(0, .ref x), (1, .int p0), (2, .int p1)] := hl
  skip
  refine lv_iload_n hx hb dX11_weather_0 rfl (lv_at hl 1 rfl) ?_
  refine lv_iconst (v := 0) hx hb dX11_weather_1 (by decide) ?_
  refine lv_bipush (v := 10) hx hb dX11_weather_2 (by decide) ?_
  have hPc := hP.sub2 (wc := []) [] rfl
  have hDc := hD.sub (ws' := []) [] (by decide) rfl
  refine raw_Si (nA := 3) (As := [.int p0, .int 0, .int 10]) (rest := []) Z hl.1 (c_X11_isWithin l D cI cM cT p0 0 10) (bw_S bw_497 bw_498 bw_80 bw_499) ⟨by decide +kernel, by decide +kernel, by decide +kernel⟩ rfl ⟨Nat.le_of_ble_eq_true rfl, Nat.le_of_ble_eq_true rfl⟩ hPc hDc hS rfl (Nat.le_of_ble_eq_true rfl) dX11_weather_4 ⟨Nat.le_of_ble_eq_true rfl, Nat.le_of_ble_eq_true rfl⟩ (fun r2 u1 H1 locs1 h3 hku1 hP1 hD1 hS1 => ?_)
  obtain ⟨hrh3, rfl⟩ := h3
  obtain ⟨hP, hD⟩ := z_join (wr := [(x, .inr (11, [.ref st, .ref dr, .ref nw, .ref kp, .ref rd, .ref tm, .ref co])), (nw, .inr (10, [.ref rO, .ref sT, .ref mA, .ref sB, .ref sA, .ref tH, .ref tF, .ref tS, .int 0, .int 0, .int (-1), .int 0, .int 0])), (mA, .inr (1, [.ref iA, .int 0, .int 0, .int 0, .int 0, .int 0, .int 13]))]) Z hS hP hD [] [0, 1, 2] rfl (by decide) rfl (by decide) (by decide) hku1 hP1 hD1
  have hS := hS1
  clear hS1
  generalize H1 = H at hP hS ⊢
  generalize locs1 = locs at hS ⊢
  have hP : va_P D vwCl ([(x, .inr (11, [.ref st, .ref dr, .ref nw, .ref kp, .ref rd, .ref tm, .ref co])), (nw, .inr (10, [.ref rO, .ref sT, .ref mA, .ref sB, .ref sA, .ref tH, .ref tF, .ref tS, .int 0, .int 0, .int (-1), .int 0, .int 0])), (mA, .inr (1, [.ref iA, .int 0, .int 0, .int 0, .int 0, .int 0, .int 13]))]) H := hP
  have hD : va_D A ([(x, .inr (11, [.ref st, .ref dr, .ref nw, .ref kp, .ref rd, .ref tm, .ref co])), (nw, .inr (10, [.ref rO, .ref sT, .ref mA, .ref sB, .ref sA, .ref tH, .ref tF, .ref tS, .int 0, .int 0, .int (-1), .int 0, .int 0])), (mA, .inr (1, [.ref iA, .int 0, .int 0, .int 0, .int 0, .int 0, .int 13]))]) := hD
  by_cases c4 : 0 ≤ p0 ∧ p0 ≤ 10
  · obtain rfl : r2 = 1 := by rw [hrh3, if_pos c4]
    refine lv_if_eq (tgt := 21) hx hb dX11_weather_7 (by decide) (fun h => absurd h (by decide)) (fun c5 => ?_)
    refine lv_iload_n hx hb dX11_weather_10 rfl (lv_at hl 2 rfl) ?_
    refine lv_iconst (v := 0) hx hb dX11_weather_11 (by decide) ?_
    refine lv_sipush (v := 9999) hx hb dX11_weather_12 (by decide) ?_
    have hPc := hP.sub2 (wc := []) [] rfl
    have hDc := hD.sub (ws' := []) [] (by decide) rfl
    refine raw_Si (nA := 3) (As := [.int p1, .int 0, .int 9999]) (rest := []) Z hl.1 (c_X11_isWithin l D cI cM cT p1 0 9999) (bw_S bw_497 bw_498 bw_80 bw_499) ⟨by decide +kernel, by decide +kernel, by decide +kernel⟩ rfl ⟨Nat.le_of_ble_eq_true rfl, Nat.le_of_ble_eq_true rfl⟩ hPc hDc hS rfl (Nat.le_of_ble_eq_true rfl) dX11_weather_15 ⟨Nat.le_of_ble_eq_true rfl, Nat.le_of_ble_eq_true rfl⟩ (fun r7 u6 H1 locs1 h8 hku6 hP1 hD1 hS1 => ?_)
    obtain ⟨hrh8, rfl⟩ := h8
    obtain ⟨hP, hD⟩ := z_join (wr := [(x, .inr (11, [.ref st, .ref dr, .ref nw, .ref kp, .ref rd, .ref tm, .ref co])), (nw, .inr (10, [.ref rO, .ref sT, .ref mA, .ref sB, .ref sA, .ref tH, .ref tF, .ref tS, .int 0, .int 0, .int (-1), .int 0, .int 0])), (mA, .inr (1, [.ref iA, .int 0, .int 0, .int 0, .int 0, .int 0, .int 13]))]) Z hS hP hD [] [0, 1, 2] rfl (by decide) rfl (by decide) (by decide) hku6 hP1 hD1
    have hS := hS1
    clear hS1
    generalize H1 = H at hP hS ⊢
    generalize locs1 = locs at hS ⊢
    have hP : va_P D vwCl ([(x, .inr (11, [.ref st, .ref dr, .ref nw, .ref kp, .ref rd, .ref tm, .ref co])), (nw, .inr (10, [.ref rO, .ref sT, .ref mA, .ref sB, .ref sA, .ref tH, .ref tF, .ref tS, .int 0, .int 0, .int (-1), .int 0, .int 0])), (mA, .inr (1, [.ref iA, .int 0, .int 0, .int 0, .int 0, .int 0, .int 13]))]) H := hP
    have hD : va_D A ([(x, .inr (11, [.ref st, .ref dr, .ref nw, .ref kp, .ref rd, .ref tm, .ref co])), (nw, .inr (10, [.ref rO, .ref sT, .ref mA, .ref sB, .ref sA, .ref tH, .ref tF, .ref tS, .int 0, .int 0, .int (-1), .int 0, .int 0])), (mA, .inr (1, [.ref iA, .int 0, .int 0, .int 0, .int 0, .int 0, .int 13]))]) := hD
    by_cases c9 : 0 ≤ p1 ∧ p1 ≤ 9999
    · obtain rfl : r7 = 1 := by rw [hrh8, if_pos c9]
      refine lv_if_ne (tgt := 23) hx hb dX11_weather_18 (by decide) (fun c10 => ?_) (fun h => absurd h (by decide))
      refine lv_aload_n hx hb dX11_weather_23 rfl (lv_at hl 0 rfl) ?_
      refine z_get Z i_X11 hP 0 rfl rfl 2 (by decide) bw_470 rfl dX11_weather_24 ?_
      refine lv_iload_n hx hb dX11_weather_27 rfl (lv_at hl 1 rfl) ?_
      refine z_put Z i_X10 tyX10 tyX10_ok nmX10 hP hD hS 1 rfl rfl 8 (by decide) bw_253 rfl rfl rfl (Nat.le_of_ble_eq_true rfl) dX11_weather_28 (fun H locs hP hD hS => ?_)
      have hP : va_P D vwCl ([(x, .inr (11, [.ref st, .ref dr, .ref nw, .ref kp, .ref rd, .ref tm, .ref co])), (nw, .inr (10, [.ref rO, .ref sT, .ref mA, .ref sB, .ref sA, .ref tH, .ref tF, .ref tS, .int p0, .int 0, .int (-1), .int 0, .int 0])), (mA, .inr (1, [.ref iA, .int 0, .int 0, .int 0, .int 0, .int 0, .int 13]))]) H := hP
      have hD : va_D A ([(x, .inr (11, [.ref st, .ref dr, .ref nw, .ref kp, .ref rd, .ref tm, .ref co])), (nw, .inr (10, [.ref rO, .ref sT, .ref mA, .ref sB, .ref sA, .ref tH, .ref tF, .ref tS, .int p0, .int 0, .int (-1), .int 0, .int 0])), (mA, .inr (1, [.ref iA, .int 0, .int 0, .int 0, .int 0, .int 0, .int 13]))]) := hD
      refine lv_aload_n hx hb dX11_weather_31 rfl (lv_at hl 0 rfl) ?_
      refine z_get Z i_X11 hP 0 rfl rfl 2 (by decide) bw_470 rfl dX11_weather_32 ?_
      refine z_get Z i_X10 hP 1 rfl rfl 2 (by decide) bw_240 rfl dX11_weather_35 ?_
      refine lv_iload_n hx hb dX11_weather_38 rfl (lv_at hl 2 rfl) ?_
      refine lv_bipush (v := 7) hx hb dX11_weather_39 (by decide) ?_
      refine lv_imul hx hb dX11_weather_41 ?_
      refine lv_bipush (v := 13) hx hb dX11_weather_42 (by decide) ?_
      refine lv_iadd hx hb dX11_weather_44 ?_
      refine z_put Z i_X1 tyX1 tyX1_ok nmX1 hP hD hS 2 rfl rfl 6 (by decide) bw_195 rfl rfl rfl (Nat.le_of_ble_eq_true rfl) dX11_weather_45 (fun H locs hP hD hS => ?_)
      have hP : va_P D vwCl ([(x, .inr (11, [.ref st, .ref dr, .ref nw, .ref kp, .ref rd, .ref tm, .ref co])), (nw, .inr (10, [.ref rO, .ref sT, .ref mA, .ref sB, .ref sA, .ref tH, .ref tF, .ref tS, .int p0, .int 0, .int (-1), .int 0, .int 0])), (mA, .inr (1, [.ref iA, .int 0, .int 0, .int 0, .int 0, .int 0, .int ((p1 * 7) + 13)]))]) H := hP
      have hD : va_D A ([(x, .inr (11, [.ref st, .ref dr, .ref nw, .ref kp, .ref rd, .ref tm, .ref co])), (nw, .inr (10, [.ref rO, .ref sT, .ref mA, .ref sB, .ref sA, .ref tH, .ref tF, .ref tS, .int p0, .int 0, .int (-1), .int 0, .int 0])), (mA, .inr (1, [.ref iA, .int 0, .int 0, .int 0, .int 0, .int 0, .int ((p1 * 7) + 13)]))]) := hD
      refine lv_iconst (v := 1) hx hb dX11_weather_48 (by decide) ?_
      exact z_ret Z rfl hP hD hS ((by first | rfl | assumption | (rw [if_pos (by (try simp only [zlt, zle, zeq, zl_0, zl_1, zl_2, zl_3, zl_4, zl_5, zl_6, zl_7, zl_8, zl_9, zl_10, zl_11, zl_12, zl_13, zl_19, zl_20, zl_30, zl_64, zl_99, zl_100, zl_299, zl_300, zl_399, zl_999, zl_9999, zl_m1, zl_m2, zl_m3, zl_32, zl_280] at c4 c5 c9 c10 ⊢); omega)]; first | done | ((try simp only [zlt, zle, zeq, zl_0, zl_1, zl_2, zl_3, zl_4, zl_5, zl_6, zl_7, zl_8, zl_9, zl_10, zl_11, zl_12, zl_13, zl_19, zl_20, zl_30, zl_64, zl_99, zl_100, zl_299, zl_300, zl_399, zl_999, zl_9999, zl_m1, zl_m2, zl_m3, zl_32, zl_280] at c4 c5 c9 c10 ⊢); omega)) | (rw [if_neg (by (try simp only [zlt, zle, zeq, zl_0, zl_1, zl_2, zl_3, zl_4, zl_5, zl_6, zl_7, zl_8, zl_9, zl_10, zl_11, zl_12, zl_13, zl_19, zl_20, zl_30, zl_64, zl_99, zl_100, zl_299, zl_300, zl_399, zl_999, zl_9999, zl_m1, zl_m2, zl_m3, zl_32, zl_280] at c4 c5 c9 c10 ⊢); omega)]; first | done | ((try simp only [zlt, zle, zeq, zl_0, zl_1, zl_2, zl_3, zl_4, zl_5, zl_6, zl_7, zl_8, zl_9, zl_10, zl_11, zl_12, zl_13, zl_19, zl_20, zl_30, zl_64, zl_99, zl_100, zl_299, zl_300, zl_399, zl_999, zl_9999, zl_m1, zl_m2, zl_m3, zl_32, zl_280] at c4 c5 c9 c10 ⊢); omega)))) dX11_weather_49 (Nat.le_of_ble_eq_true rfl) (Nat.le_of_ble_eq_true rfl)
    · obtain rfl : r7 = 0 := by rw [hrh8, if_neg c9]
      refine lv_if_ne (tgt := 23) hx hb dX11_weather_18 (by decide) (fun h => absurd (by decide) h) (fun c11 => ?_)
      refine lv_iconst (v := 0) hx hb dX11_weather_21 (by decide) ?_
      exact z_ret Z rfl hP hD hS ((by first | rfl | assumption | (rw [if_pos (by (try simp only [zlt, zle, zeq, zl_0, zl_1, zl_2, zl_3, zl_4, zl_5, zl_6, zl_7, zl_8, zl_9, zl_10, zl_11, zl_12, zl_13, zl_19, zl_20, zl_30, zl_64, zl_99, zl_100, zl_299, zl_300, zl_399, zl_999, zl_9999, zl_m1, zl_m2, zl_m3, zl_32, zl_280] at c4 c5 c9 c11 ⊢); omega)]; first | done | ((try simp only [zlt, zle, zeq, zl_0, zl_1, zl_2, zl_3, zl_4, zl_5, zl_6, zl_7, zl_8, zl_9, zl_10, zl_11, zl_12, zl_13, zl_19, zl_20, zl_30, zl_64, zl_99, zl_100, zl_299, zl_300, zl_399, zl_999, zl_9999, zl_m1, zl_m2, zl_m3, zl_32, zl_280] at c4 c5 c9 c11 ⊢); omega)) | (rw [if_neg (by (try simp only [zlt, zle, zeq, zl_0, zl_1, zl_2, zl_3, zl_4, zl_5, zl_6, zl_7, zl_8, zl_9, zl_10, zl_11, zl_12, zl_13, zl_19, zl_20, zl_30, zl_64, zl_99, zl_100, zl_299, zl_300, zl_399, zl_999, zl_9999, zl_m1, zl_m2, zl_m3, zl_32, zl_280] at c4 c5 c9 c11 ⊢); omega)]; first | done | ((try simp only [zlt, zle, zeq, zl_0, zl_1, zl_2, zl_3, zl_4, zl_5, zl_6, zl_7, zl_8, zl_9, zl_10, zl_11, zl_12, zl_13, zl_19, zl_20, zl_30, zl_64, zl_99, zl_100, zl_299, zl_300, zl_399, zl_999, zl_9999, zl_m1, zl_m2, zl_m3, zl_32, zl_280] at c4 c5 c9 c11 ⊢); omega)))) dX11_weather_22 (Nat.le_of_ble_eq_true rfl) (Nat.le_of_ble_eq_true rfl)
  · obtain rfl : r2 = 0 := by rw [hrh3, if_neg c4]
    refine lv_if_eq (tgt := 21) hx hb dX11_weather_7 (by decide) (fun c12 => ?_) (fun h => absurd (by decide) h)
    refine lv_iconst (v := 0) hx hb dX11_weather_21 (by decide) ?_
    exact z_ret Z rfl hP hD hS ((by first | rfl | assumption | (rw [if_pos (by (try simp only [zlt, zle, zeq, zl_0, zl_1, zl_2, zl_3, zl_4, zl_5, zl_6, zl_7, zl_8, zl_9, zl_10, zl_11, zl_12, zl_13, zl_19, zl_20, zl_30, zl_64, zl_99, zl_100, zl_299, zl_300, zl_399, zl_999, zl_9999, zl_m1, zl_m2, zl_m3, zl_32, zl_280] at c4 c12 ⊢); omega)]; first | done | ((try simp only [zlt, zle, zeq, zl_0, zl_1, zl_2, zl_3, zl_4, zl_5, zl_6, zl_7, zl_8, zl_9, zl_10, zl_11, zl_12, zl_13, zl_19, zl_20, zl_30, zl_64, zl_99, zl_100, zl_299, zl_300, zl_399, zl_999, zl_9999, zl_m1, zl_m2, zl_m3, zl_32, zl_280] at c4 c12 ⊢); omega)) | (rw [if_neg (by (try simp only [zlt, zle, zeq, zl_0, zl_1, zl_2, zl_3, zl_4, zl_5, zl_6, zl_7, zl_8, zl_9, zl_10, zl_11, zl_12, zl_13, zl_19, zl_20, zl_30, zl_64, zl_99, zl_100, zl_299, zl_300, zl_399, zl_999, zl_9999, zl_m1, zl_m2, zl_m3, zl_32, zl_280] at c4 c12 ⊢); omega)]; first | done | ((try simp only [zlt, zle, zeq, zl_0, zl_1, zl_2, zl_3, zl_4, zl_5, zl_6, zl_7, zl_8, zl_9, zl_10, zl_11, zl_12, zl_13, zl_19, zl_20, zl_30, zl_64, zl_99, zl_100, zl_299, zl_300, zl_399, zl_999, zl_9999, zl_m1, zl_m2, zl_m3, zl_32, zl_280] at c4 c12 ⊢); omega)))) dX11_weather_22 (Nat.le_of_ble_eq_true rfl) (Nat.le_of_ble_eq_true rfl)
set_option maxHeartbeats 4000000 in
set_option maxRecDepth 100000 in
theorem c_X11_end (l : Launch) (D : va_G) (cI cM cT : ClassId) (x : Nat) (st : Nat) (dr : Nat) (nw : Nat) (kp : Nat) (rd : Nat) (tm : Nat) (co : Nat) (tP : Nat) (tX : Nat) (bY : Nat) (ki : Nat) (at_ : Nat) (nu : Nat) (p0 : Int32) : Ci l D (ty3 cI cM cT) yX11_end cX11_end 2 (some .int) 3 0 0 [.ref x, .int p0] ([(x, .inr (11, [.ref st, .ref dr, .ref nw, .ref kp, .ref rd, .ref tm, .ref co])), (rd, .inr (2, [.ref tP, .int (-1), .int (-1), .int 0, .int 37, .int 0, .ref tX])), (tP, .inr (7, [.ref bY, .ref ki, .ref at_, .ref nu, .int 0, .int 0]))]) (fun r u => r = (if p0 = 0 then 0 else (-1))) := by
  refine Ci.of (by decide +kernel) (Nat.le_of_ble_eq_true rfl) ?_
  intro p e s m below meth c A ls Z hin hP hD hl
  have hx := Z.1
  have hb := Z.2.1
  have hS : va_S A s.heap s.heap [] := va_S.rf
  have hl : lv_has ls 2 [(0, .ref x), (1, .int p0)] := hl
  skip
  refine lv_iload_n hx hb dX11_end_0 rfl (lv_at hl 1 rfl) ?_
  refine lv_iconst (v := 0) hx hb dX11_end_1 (by decide) ?_
  refine lv_aload_n hx hb dX11_end_2 rfl (lv_at hl 0 rfl) ?_
  refine z_get Z i_X11 hP 0 rfl rfl 4 (by decide) bw_472 rfl dX11_end_3 ?_
  refine z_get Z i_X2 hP 1 rfl rfl 0 (by decide) bw_422 rfl dX11_end_6 ?_
  refine z_get Z i_X7 hP 2 rfl rfl 4 (by decide) bw_403 rfl dX11_end_9 ?_
  have hPc := hP.sub2 (wc := []) [] rfl
  have hDc := hD.sub (ws' := []) [] (by decide) rfl
  refine raw_Si (nA := 3) (As := [.int p0, .int 0, .int 0]) (rest := []) Z hl.1 (c_X11_isWithin l D cI cM cT p0 0 0) (bw_S bw_497 bw_498 bw_80 bw_499) ⟨by decide +kernel, by decide +kernel, by decide +kernel⟩ rfl ⟨Nat.le_of_ble_eq_true rfl, Nat.le_of_ble_eq_true rfl⟩ hPc hDc hS rfl (Nat.le_of_ble_eq_true rfl) dX11_end_12 ⟨Nat.le_of_ble_eq_true rfl, Nat.le_of_ble_eq_true rfl⟩ (fun r2 u1 H1 locs1 h3 hku1 hP1 hD1 hS1 => ?_)
  obtain ⟨hrh3, rfl⟩ := h3
  obtain ⟨hP, hD⟩ := z_join (wr := [(x, .inr (11, [.ref st, .ref dr, .ref nw, .ref kp, .ref rd, .ref tm, .ref co])), (rd, .inr (2, [.ref tP, .int (-1), .int (-1), .int 0, .int 37, .int 0, .ref tX])), (tP, .inr (7, [.ref bY, .ref ki, .ref at_, .ref nu, .int 0, .int 0]))]) Z hS hP hD [] [0, 1, 2] rfl (by decide) rfl (by decide) (by decide) hku1 hP1 hD1
  have hS := hS1
  clear hS1
  generalize H1 = H at hP hS ⊢
  generalize locs1 = locs at hS ⊢
  have hP : va_P D vwCl ([(x, .inr (11, [.ref st, .ref dr, .ref nw, .ref kp, .ref rd, .ref tm, .ref co])), (rd, .inr (2, [.ref tP, .int (-1), .int (-1), .int 0, .int 37, .int 0, .ref tX])), (tP, .inr (7, [.ref bY, .ref ki, .ref at_, .ref nu, .int 0, .int 0]))]) H := hP
  have hD : va_D A ([(x, .inr (11, [.ref st, .ref dr, .ref nw, .ref kp, .ref rd, .ref tm, .ref co])), (rd, .inr (2, [.ref tP, .int (-1), .int (-1), .int 0, .int 37, .int 0, .ref tX])), (tP, .inr (7, [.ref bY, .ref ki, .ref at_, .ref nu, .int 0, .int 0]))]) := hD
  by_cases c4 : 0 ≤ p0 ∧ p0 ≤ 0
  · obtain rfl : r2 = 1 := by rw [hrh3, if_pos c4]
    refine lv_if_ne (tgt := 20) hx hb dX11_end_15 (by decide) (fun c5 => ?_) (fun h => absurd h (by decide))
    refine lv_aload_n hx hb dX11_end_20 rfl (lv_at hl 0 rfl) ?_
    refine z_get Z i_X11 hP 0 rfl rfl 4 (by decide) bw_472 rfl dX11_end_21 ?_
    refine z_get Z i_X2 hP 1 rfl rfl 0 (by decide) bw_422 rfl dX11_end_24 ?_
    refine lv_iload_n hx hb dX11_end_27 rfl (lv_at hl 1 rfl) ?_
    refine z_put Z i_X7 tyX7 tyX7_ok nmX7 hP hD hS 2 rfl rfl 4 (by decide) bw_403 rfl rfl rfl (Nat.le_of_ble_eq_true rfl) dX11_end_28 (fun H locs hP hD hS => ?_)
    have hP : va_P D vwCl ([(x, .inr (11, [.ref st, .ref dr, .ref nw, .ref kp, .ref rd, .ref tm, .ref co])), (rd, .inr (2, [.ref tP, .int (-1), .int (-1), .int 0, .int 37, .int 0, .ref tX])), (tP, .inr (7, [.ref bY, .ref ki, .ref at_, .ref nu, .int p0, .int 0]))]) H := hP
    have hD : va_D A ([(x, .inr (11, [.ref st, .ref dr, .ref nw, .ref kp, .ref rd, .ref tm, .ref co])), (rd, .inr (2, [.ref tP, .int (-1), .int (-1), .int 0, .int 37, .int 0, .ref tX])), (tP, .inr (7, [.ref bY, .ref ki, .ref at_, .ref nu, .int p0, .int 0]))]) := hD
    refine lv_iload_n hx hb dX11_end_31 rfl (lv_at hl 1 rfl) ?_
    exact z_ret Z rfl hP hD hS ((by first | rfl | assumption | (rw [if_pos (by (try simp only [zlt, zle, zeq, zl_0, zl_1, zl_2, zl_3, zl_4, zl_5, zl_6, zl_7, zl_8, zl_9, zl_10, zl_11, zl_12, zl_13, zl_19, zl_20, zl_30, zl_64, zl_99, zl_100, zl_299, zl_300, zl_399, zl_999, zl_9999, zl_m1, zl_m2, zl_m3, zl_32, zl_280] at c4 c5 ⊢); omega)]; first | done | ((try simp only [zlt, zle, zeq, zl_0, zl_1, zl_2, zl_3, zl_4, zl_5, zl_6, zl_7, zl_8, zl_9, zl_10, zl_11, zl_12, zl_13, zl_19, zl_20, zl_30, zl_64, zl_99, zl_100, zl_299, zl_300, zl_399, zl_999, zl_9999, zl_m1, zl_m2, zl_m3, zl_32, zl_280] at c4 c5 ⊢); omega)) | (rw [if_neg (by (try simp only [zlt, zle, zeq, zl_0, zl_1, zl_2, zl_3, zl_4, zl_5, zl_6, zl_7, zl_8, zl_9, zl_10, zl_11, zl_12, zl_13, zl_19, zl_20, zl_30, zl_64, zl_99, zl_100, zl_299, zl_300, zl_399, zl_999, zl_9999, zl_m1, zl_m2, zl_m3, zl_32, zl_280] at c4 c5 ⊢); omega)]; first | done | ((try simp only [zlt, zle, zeq, zl_0, zl_1, zl_2, zl_3, zl_4, zl_5, zl_6, zl_7, zl_8, zl_9, zl_10, zl_11, zl_12, zl_13, zl_19, zl_20, zl_30, zl_64, zl_99, zl_100, zl_299, zl_300, zl_399, zl_999, zl_9999, zl_m1, zl_m2, zl_m3, zl_32, zl_280] at c4 c5 ⊢); omega)))) dX11_end_32 (Nat.le_of_ble_eq_true rfl) (Nat.le_of_ble_eq_true rfl)
  · obtain rfl : r2 = 0 := by rw [hrh3, if_neg c4]
    refine lv_if_ne (tgt := 20) hx hb dX11_end_15 (by decide) (fun h => absurd (by decide) h) (fun c6 => ?_)
    refine lv_iconst (v := (-1)) hx hb dX11_end_18 (by decide) ?_
    exact z_ret Z rfl hP hD hS ((by first | rfl | assumption | (rw [if_pos (by (try simp only [zlt, zle, zeq, zl_0, zl_1, zl_2, zl_3, zl_4, zl_5, zl_6, zl_7, zl_8, zl_9, zl_10, zl_11, zl_12, zl_13, zl_19, zl_20, zl_30, zl_64, zl_99, zl_100, zl_299, zl_300, zl_399, zl_999, zl_9999, zl_m1, zl_m2, zl_m3, zl_32, zl_280] at c4 c6 ⊢); omega)]; first | done | ((try simp only [zlt, zle, zeq, zl_0, zl_1, zl_2, zl_3, zl_4, zl_5, zl_6, zl_7, zl_8, zl_9, zl_10, zl_11, zl_12, zl_13, zl_19, zl_20, zl_30, zl_64, zl_99, zl_100, zl_299, zl_300, zl_399, zl_999, zl_9999, zl_m1, zl_m2, zl_m3, zl_32, zl_280] at c4 c6 ⊢); omega)) | (rw [if_neg (by (try simp only [zlt, zle, zeq, zl_0, zl_1, zl_2, zl_3, zl_4, zl_5, zl_6, zl_7, zl_8, zl_9, zl_10, zl_11, zl_12, zl_13, zl_19, zl_20, zl_30, zl_64, zl_99, zl_100, zl_299, zl_300, zl_399, zl_999, zl_9999, zl_m1, zl_m2, zl_m3, zl_32, zl_280] at c4 c6 ⊢); omega)]; first | done | ((try simp only [zlt, zle, zeq, zl_0, zl_1, zl_2, zl_3, zl_4, zl_5, zl_6, zl_7, zl_8, zl_9, zl_10, zl_11, zl_12, zl_13, zl_19, zl_20, zl_30, zl_64, zl_99, zl_100, zl_299, zl_300, zl_399, zl_999, zl_9999, zl_m1, zl_m2, zl_m3, zl_32, zl_280] at c4 c6 ⊢); omega)))) dX11_end_19 (Nat.le_of_ble_eq_true rfl) (Nat.le_of_ble_eq_true rfl)
set_option maxHeartbeats 4000000 in
set_option maxRecDepth 100000 in
theorem c_X11_fault (l : Launch) (D : va_G) (cI cM cT : ClassId) (x : Nat) (st : Nat) (dr : Nat) (nw : Nat) (kp : Nat) (rd : Nat) (tm : Nat) (co : Nat) (tP : Nat) (tX : Nat) (p0 : Int32) : Ci l D (ty3 cI cM cT) yX11_fault cX11_fault 2 (some .int) 3 0 0 [.ref x, .int p0] ([(x, .inr (11, [.ref st, .ref dr, .ref nw, .ref kp, .ref rd, .ref tm, .ref co])), (rd, .inr (2, [.ref tP, .int (-1), .int (-1), .int 0, .int 37, .int 0, .ref tX]))]) (fun r u => r = (-1)) := by
  refine Ci.of (by decide +kernel) (Nat.le_of_ble_eq_true rfl) ?_
  intro p e s m below meth c A ls Z hin hP hD hl
  have hx := Z.1
  have hb := Z.2.1
  have hS : va_S A s.heap s.heap [] := va_S.rf
  have hl : lv_has ls 2 [(0, .ref x), (1, .int p0)] := hl
  skip
  refine lv_iload_n hx hb dX11_fault_0 rfl (lv_at hl 1 rfl) ?_
  refine lv_if_ne (tgt := 12) hx hb dX11_fault_1 (by decide) (fun c1 => ?_) (fun c1 => ?_)
  · refine lv_iload_n hx hb dX11_fault_12 rfl (lv_at hl 1 rfl) ?_
    refine lv_iconst (v := 1) hx hb dX11_fault_13 (by decide) ?_
    refine lv_icmp_ne (tgt := 27) hx hb dX11_fault_14 (by decide) (fun c2 => ?_) (fun c2 => ?_)
    · refine lv_iconst (v := (-1)) hx hb dX11_fault_27 (by decide) ?_
      exact z_ret Z rfl hP hD hS ((by first | rfl | assumption)) dX11_fault_28 (Nat.le_of_ble_eq_true rfl) (Nat.le_of_ble_eq_true rfl)
    · refine lv_aload_n hx hb dX11_fault_17 rfl (lv_at hl 0 rfl) ?_
      refine z_get Z i_X11 hP 0 rfl rfl 4 (by decide) bw_472 rfl dX11_fault_18 ?_
      refine z_get Z i_X2 hP 1 rfl rfl 2 (by decide) bw_426 rfl dX11_fault_21 ?_
      refine lv_goto (tgt := 28) hx hb dX11_fault_24 (by decide) ?_
      exact z_ret Z rfl hP hD hS ((by first | rfl | assumption)) dX11_fault_28 (Nat.le_of_ble_eq_true rfl) (Nat.le_of_ble_eq_true rfl)
  · refine lv_aload_n hx hb dX11_fault_4 rfl (lv_at hl 0 rfl) ?_
    refine z_get Z i_X11 hP 0 rfl rfl 4 (by decide) bw_472 rfl dX11_fault_5 ?_
    refine z_get Z i_X2 hP 1 rfl rfl 1 (by decide) bw_424 rfl dX11_fault_8 ?_
    exact z_ret Z rfl hP hD hS ((by first | rfl | assumption)) dX11_fault_11 (Nat.le_of_ble_eq_true rfl) (Nat.le_of_ble_eq_true rfl)
set_option maxHeartbeats 4000000 in
set_option maxRecDepth 100000 in
theorem c_X11_by (l : Launch) (D : va_G) (cI cM cT : ClassId) (x : Nat) (st : Nat) (dr : Nat) (nw : Nat) (kp : Nat) (rd : Nat) (tm : Nat) (co : Nat) (rO : Nat) (sT : Nat) (mA : Nat) (sB : Nat) (sA : Nat) (tH : Nat) (tF : Nat) (tS : Nat) (s1 : Nat) (s2 : Nat) (s3 : Nat) (p0 : Int32) : Ci l D (ty3 cI cM cT) yX11_by cX11_by 2 (some .boolean) 3 0 0 [.ref x, .int p0] ([(x, .inr (11, [.ref st, .ref dr, .ref nw, .ref kp, .ref rd, .ref tm, .ref co])), (nw, .inr (10, [.ref rO, .ref sT, .ref mA, .ref sB, .ref sA, .ref tH, .ref tF, .ref tS, .int 0, .int 0, .int (-1), .int 0, .int 0])), (st, .inr (6, [.ref dr, .ref s1, .ref s2, .ref s3, .int 1]))]) (fun r u => r = (if p0 = (-1) then 1 else 0)) := by
  refine Ci.of (by decide +kernel) (Nat.le_of_ble_eq_true rfl) ?_
  intro p e s m below meth c A ls Z hin hP hD hl
  have hx := Z.1
  have hb := Z.2.1
  have hS : va_S A s.heap s.heap [] := va_S.rf
  have hl : lv_has ls 2 [(0, .ref x), (1, .int p0)] := hl
  skip
  refine lv_iload_n hx hb dX11_by_0 rfl (lv_at hl 1 rfl) ?_
  refine lv_iconst (v := (-1)) hx hb dX11_by_1 (by decide) ?_
  refine lv_aload_n hx hb dX11_by_2 rfl (lv_at hl 0 rfl) ?_
  refine z_get Z i_X11 hP 0 rfl rfl 2 (by decide) bw_470 rfl dX11_by_3 ?_
  refine z_get Z i_X10 hP 1 rfl rfl 9 (by decide) bw_255 rfl dX11_by_6 ?_
  refine lv_iconst (v := 1) hx hb dX11_by_9 (by decide) ?_
  refine lv_isub hx hb dX11_by_10 ?_
  refine z_topi (y := (-1)) (by decide) ?_
  have hPc := hP.sub2 (wc := []) [] rfl
  have hDc := hD.sub (ws' := []) [] (by decide) rfl
  refine raw_Si (nA := 3) (As := [.int p0, .int (-1), .int (-1)]) (rest := []) Z hl.1 (c_X11_isWithin l D cI cM cT p0 (-1) (-1)) (bw_S bw_497 bw_498 bw_80 bw_499) ⟨by decide +kernel, by decide +kernel, by decide +kernel⟩ rfl ⟨Nat.le_of_ble_eq_true rfl, Nat.le_of_ble_eq_true rfl⟩ hPc hDc hS rfl (Nat.le_of_ble_eq_true rfl) dX11_by_11 ⟨Nat.le_of_ble_eq_true rfl, Nat.le_of_ble_eq_true rfl⟩ (fun r2 u1 H1 locs1 h3 hku1 hP1 hD1 hS1 => ?_)
  obtain ⟨hrh3, rfl⟩ := h3
  obtain ⟨hP, hD⟩ := z_join (wr := [(x, .inr (11, [.ref st, .ref dr, .ref nw, .ref kp, .ref rd, .ref tm, .ref co])), (nw, .inr (10, [.ref rO, .ref sT, .ref mA, .ref sB, .ref sA, .ref tH, .ref tF, .ref tS, .int 0, .int 0, .int (-1), .int 0, .int 0])), (st, .inr (6, [.ref dr, .ref s1, .ref s2, .ref s3, .int 1]))]) Z hS hP hD [] [0, 1, 2] rfl (by decide) rfl (by decide) (by decide) hku1 hP1 hD1
  have hS := hS1
  clear hS1
  generalize H1 = H at hP hS ⊢
  generalize locs1 = locs at hS ⊢
  have hP : va_P D vwCl ([(x, .inr (11, [.ref st, .ref dr, .ref nw, .ref kp, .ref rd, .ref tm, .ref co])), (nw, .inr (10, [.ref rO, .ref sT, .ref mA, .ref sB, .ref sA, .ref tH, .ref tF, .ref tS, .int 0, .int 0, .int (-1), .int 0, .int 0])), (st, .inr (6, [.ref dr, .ref s1, .ref s2, .ref s3, .int 1]))]) H := hP
  have hD : va_D A ([(x, .inr (11, [.ref st, .ref dr, .ref nw, .ref kp, .ref rd, .ref tm, .ref co])), (nw, .inr (10, [.ref rO, .ref sT, .ref mA, .ref sB, .ref sA, .ref tH, .ref tF, .ref tS, .int 0, .int 0, .int (-1), .int 0, .int 0])), (st, .inr (6, [.ref dr, .ref s1, .ref s2, .ref s3, .int 1]))]) := hD
  by_cases c4 : (-1) ≤ p0 ∧ p0 ≤ (-1)
  · obtain rfl : r2 = 1 := by rw [hrh3, if_pos c4]
    refine lv_if_ne (tgt := 19) hx hb dX11_by_14 (by decide) (fun c5 => ?_) (fun h => absurd h (by decide))
    refine lv_aload_n hx hb dX11_by_19 rfl (lv_at hl 0 rfl) ?_
    refine z_get Z i_X11 hP 0 rfl rfl 2 (by decide) bw_470 rfl dX11_by_20 ?_
    refine lv_iload_n hx hb dX11_by_23 rfl (lv_at hl 1 rfl) ?_
    refine z_put Z i_X10 tyX10 tyX10_ok nmX10 hP hD hS 1 rfl rfl 10 (by decide) bw_258 rfl rfl rfl (Nat.le_of_ble_eq_true rfl) dX11_by_24 (fun H locs hP hD hS => ?_)
    have hP : va_P D vwCl ([(x, .inr (11, [.ref st, .ref dr, .ref nw, .ref kp, .ref rd, .ref tm, .ref co])), (nw, .inr (10, [.ref rO, .ref sT, .ref mA, .ref sB, .ref sA, .ref tH, .ref tF, .ref tS, .int 0, .int 0, .int p0, .int 0, .int 0])), (st, .inr (6, [.ref dr, .ref s1, .ref s2, .ref s3, .int 1]))]) H := hP
    have hD : va_D A ([(x, .inr (11, [.ref st, .ref dr, .ref nw, .ref kp, .ref rd, .ref tm, .ref co])), (nw, .inr (10, [.ref rO, .ref sT, .ref mA, .ref sB, .ref sA, .ref tH, .ref tF, .ref tS, .int 0, .int 0, .int p0, .int 0, .int 0])), (st, .inr (6, [.ref dr, .ref s1, .ref s2, .ref s3, .int 1]))]) := hD
    refine lv_aload_n hx hb dX11_by_27 rfl (lv_at hl 0 rfl) ?_
    refine z_get Z i_X11 hP 0 rfl rfl 0 (by decide) bw_468 rfl dX11_by_28 ?_
    have hPc := hP.sub2 (wc := [(st, .inr (6, [.ref dr, .ref s1, .ref s2, .ref s3, .int 1]))]) [2] rfl
    have hDc := hD.sub (ws' := [(st, .inr (6, [.ref dr, .ref s1, .ref s2, .ref s3, .int 1]))]) [2] (by decide) rfl
    refine raw_Vv (ci := 6) (q0 := 0) (nA := 0) (As := []) (rest := []) Z hl.1 (c_X6_forget l D cI cM cT st dr s1 s2 s3 1) (bw_V bw_500 bw_501 bw_502 bw_81 bw_503) ⟨by decide +kernel, by decide +kernel, by decide +kernel⟩ rfl ⟨Nat.le_of_ble_eq_true rfl, Nat.le_of_ble_eq_true rfl⟩ rfl rfl rfl hPc hDc hS rfl (Nat.le_of_ble_eq_true rfl) dX11_by_31 ⟨Nat.le_of_ble_eq_true rfl, Nat.le_of_ble_eq_true rfl⟩ (fun u6 H1 locs1 h8 hku6 hP1 hD1 hS1 => ?_)
    obtain rfl := h8
    obtain ⟨hP, hD⟩ := z_join (wr := [(x, .inr (11, [.ref st, .ref dr, .ref nw, .ref kp, .ref rd, .ref tm, .ref co])), (nw, .inr (10, [.ref rO, .ref sT, .ref mA, .ref sB, .ref sA, .ref tH, .ref tF, .ref tS, .int 0, .int 0, .int p0, .int 0, .int 0]))]) Z hS hP hD [2] [0, 1] rfl (by decide) rfl (by decide) (by decide) hku6 hP1 hD1
    have hS := hS1
    clear hS1
    generalize H1 = H at hP hS ⊢
    generalize locs1 = locs at hS ⊢
    have hP : va_P D vwCl ([(x, .inr (11, [.ref st, .ref dr, .ref nw, .ref kp, .ref rd, .ref tm, .ref co])), (nw, .inr (10, [.ref rO, .ref sT, .ref mA, .ref sB, .ref sA, .ref tH, .ref tF, .ref tS, .int 0, .int 0, .int p0, .int 0, .int 0])), (st, .inr (6, [.ref dr, .ref s1, .ref s2, .ref s3, .int (1 + 1)]))]) H := hP
    have hD : va_D A ([(x, .inr (11, [.ref st, .ref dr, .ref nw, .ref kp, .ref rd, .ref tm, .ref co])), (nw, .inr (10, [.ref rO, .ref sT, .ref mA, .ref sB, .ref sA, .ref tH, .ref tF, .ref tS, .int 0, .int 0, .int p0, .int 0, .int 0])), (st, .inr (6, [.ref dr, .ref s1, .ref s2, .ref s3, .int (1 + 1)]))]) := hD
    refine lv_iconst (v := 1) hx hb dX11_by_34 (by decide) ?_
    exact z_ret Z rfl hP hD hS ((by first | rfl | assumption | (rw [if_pos (by (try simp only [zlt, zle, zeq, zl_0, zl_1, zl_2, zl_3, zl_4, zl_5, zl_6, zl_7, zl_8, zl_9, zl_10, zl_11, zl_12, zl_13, zl_19, zl_20, zl_30, zl_64, zl_99, zl_100, zl_299, zl_300, zl_399, zl_999, zl_9999, zl_m1, zl_m2, zl_m3, zl_32, zl_280] at c4 c5 ⊢); omega)]; first | done | ((try simp only [zlt, zle, zeq, zl_0, zl_1, zl_2, zl_3, zl_4, zl_5, zl_6, zl_7, zl_8, zl_9, zl_10, zl_11, zl_12, zl_13, zl_19, zl_20, zl_30, zl_64, zl_99, zl_100, zl_299, zl_300, zl_399, zl_999, zl_9999, zl_m1, zl_m2, zl_m3, zl_32, zl_280] at c4 c5 ⊢); omega)) | (rw [if_neg (by (try simp only [zlt, zle, zeq, zl_0, zl_1, zl_2, zl_3, zl_4, zl_5, zl_6, zl_7, zl_8, zl_9, zl_10, zl_11, zl_12, zl_13, zl_19, zl_20, zl_30, zl_64, zl_99, zl_100, zl_299, zl_300, zl_399, zl_999, zl_9999, zl_m1, zl_m2, zl_m3, zl_32, zl_280] at c4 c5 ⊢); omega)]; first | done | ((try simp only [zlt, zle, zeq, zl_0, zl_1, zl_2, zl_3, zl_4, zl_5, zl_6, zl_7, zl_8, zl_9, zl_10, zl_11, zl_12, zl_13, zl_19, zl_20, zl_30, zl_64, zl_99, zl_100, zl_299, zl_300, zl_399, zl_999, zl_9999, zl_m1, zl_m2, zl_m3, zl_32, zl_280] at c4 c5 ⊢); omega)))) dX11_by_35 (Nat.le_of_ble_eq_true rfl) (Nat.le_of_ble_eq_true rfl)
  · obtain rfl : r2 = 0 := by rw [hrh3, if_neg c4]
    refine lv_if_ne (tgt := 19) hx hb dX11_by_14 (by decide) (fun h => absurd (by decide) h) (fun c9 => ?_)
    refine lv_iconst (v := 0) hx hb dX11_by_17 (by decide) ?_
    exact z_ret Z rfl hP hD hS ((by first | rfl | assumption | (rw [if_pos (by (try simp only [zlt, zle, zeq, zl_0, zl_1, zl_2, zl_3, zl_4, zl_5, zl_6, zl_7, zl_8, zl_9, zl_10, zl_11, zl_12, zl_13, zl_19, zl_20, zl_30, zl_64, zl_99, zl_100, zl_299, zl_300, zl_399, zl_999, zl_9999, zl_m1, zl_m2, zl_m3, zl_32, zl_280] at c4 c9 ⊢); omega)]; first | done | ((try simp only [zlt, zle, zeq, zl_0, zl_1, zl_2, zl_3, zl_4, zl_5, zl_6, zl_7, zl_8, zl_9, zl_10, zl_11, zl_12, zl_13, zl_19, zl_20, zl_30, zl_64, zl_99, zl_100, zl_299, zl_300, zl_399, zl_999, zl_9999, zl_m1, zl_m2, zl_m3, zl_32, zl_280] at c4 c9 ⊢); omega)) | (rw [if_neg (by (try simp only [zlt, zle, zeq, zl_0, zl_1, zl_2, zl_3, zl_4, zl_5, zl_6, zl_7, zl_8, zl_9, zl_10, zl_11, zl_12, zl_13, zl_19, zl_20, zl_30, zl_64, zl_99, zl_100, zl_299, zl_300, zl_399, zl_999, zl_9999, zl_m1, zl_m2, zl_m3, zl_32, zl_280] at c4 c9 ⊢); omega)]; first | done | ((try simp only [zlt, zle, zeq, zl_0, zl_1, zl_2, zl_3, zl_4, zl_5, zl_6, zl_7, zl_8, zl_9, zl_10, zl_11, zl_12, zl_13, zl_19, zl_20, zl_30, zl_64, zl_99, zl_100, zl_299, zl_300, zl_399, zl_999, zl_9999, zl_m1, zl_m2, zl_m3, zl_32, zl_280] at c4 c9 ⊢); omega)))) dX11_by_18 (Nat.le_of_ble_eq_true rfl) (Nat.le_of_ble_eq_true rfl)
set_option maxHeartbeats 4000000 in
set_option maxRecDepth 100000 in
theorem c_X11_start (l : Launch) (D : va_G) (cI cM cT : ClassId) (x : Nat) (st : Nat) (dr : Nat) (nw : Nat) (kp : Nat) (rd : Nat) (tm : Nat) (co : Nat) (rO : Nat) (sT : Nat) (mA : Nat) (sB : Nat) (sA : Nat) (tH : Nat) (tF : Nat) (tS : Nat) (iA : Nat) (rG : Nat) (p0 : Int32) : Ci l D (ty3 cI cM cT) yX11_start cX11_start 2 (some .boolean) 3 0 0 [.ref x, .int p0] ([(x, .inr (11, [.ref st, .ref dr, .ref nw, .ref kp, .ref rd, .ref tm, .ref co])), (nw, .inr (10, [.ref rO, .ref sT, .ref mA, .ref sB, .ref sA, .ref tH, .ref tF, .ref tS, .int 0, .int 0, .int (-1), .int 0, .int 0])), (mA, .inr (1, [.ref iA, .int 0, .int 0, .int 0, .int 0, .int 0, .int 13])), (sB, .inr (5, [.ref rG, .int 0, .int 0]))]) (fun r u => r = (if 0 ≤ p0 ∧ p0 < 300 then 1 else 0)) := by
  refine Ci.of (by decide +kernel) (Nat.le_of_ble_eq_true rfl) ?_
  intro p e s m below meth c A ls Z hin hP hD hl
  have hx := Z.1
  have hb := Z.2.1
  have hS : va_S A s.heap s.heap [] := va_S.rf
  have hl : lv_has ls 2 [(0, .ref x), (1, .int p0)] := hl
  skip
  refine lv_iload_n hx hb dX11_start_0 rfl (lv_at hl 1 rfl) ?_
  have hPc := hP.sub2 (wc := []) [] rfl
  have hDc := hD.sub (ws' := []) [] (by decide) rfl
  refine raw_Si (nA := 1) (As := [.int p0]) (rest := []) Z hl.1 (c_X11_isPlace l D cI cM cT p0) (bw_S bw_494 bw_495 bw_80 bw_496) ⟨by decide +kernel, by decide +kernel, by decide +kernel⟩ rfl ⟨Nat.le_of_ble_eq_true rfl, Nat.le_of_ble_eq_true rfl⟩ hPc hDc hS rfl (Nat.le_of_ble_eq_true rfl) dX11_start_1 ⟨Nat.le_of_ble_eq_true rfl, Nat.le_of_ble_eq_true rfl⟩ (fun r2 u1 H1 locs1 h3 hku1 hP1 hD1 hS1 => ?_)
  obtain ⟨hrh3, rfl⟩ := h3
  obtain ⟨hP, hD⟩ := z_join (wr := [(x, .inr (11, [.ref st, .ref dr, .ref nw, .ref kp, .ref rd, .ref tm, .ref co])), (nw, .inr (10, [.ref rO, .ref sT, .ref mA, .ref sB, .ref sA, .ref tH, .ref tF, .ref tS, .int 0, .int 0, .int (-1), .int 0, .int 0])), (mA, .inr (1, [.ref iA, .int 0, .int 0, .int 0, .int 0, .int 0, .int 13])), (sB, .inr (5, [.ref rG, .int 0, .int 0]))]) Z hS hP hD [] [0, 1, 2, 3] rfl (by decide) rfl (by decide) (by decide) hku1 hP1 hD1
  have hS := hS1
  clear hS1
  generalize H1 = H at hP hS ⊢
  generalize locs1 = locs at hS ⊢
  have hP : va_P D vwCl ([(x, .inr (11, [.ref st, .ref dr, .ref nw, .ref kp, .ref rd, .ref tm, .ref co])), (nw, .inr (10, [.ref rO, .ref sT, .ref mA, .ref sB, .ref sA, .ref tH, .ref tF, .ref tS, .int 0, .int 0, .int (-1), .int 0, .int 0])), (mA, .inr (1, [.ref iA, .int 0, .int 0, .int 0, .int 0, .int 0, .int 13])), (sB, .inr (5, [.ref rG, .int 0, .int 0]))]) H := hP
  have hD : va_D A ([(x, .inr (11, [.ref st, .ref dr, .ref nw, .ref kp, .ref rd, .ref tm, .ref co])), (nw, .inr (10, [.ref rO, .ref sT, .ref mA, .ref sB, .ref sA, .ref tH, .ref tF, .ref tS, .int 0, .int 0, .int (-1), .int 0, .int 0])), (mA, .inr (1, [.ref iA, .int 0, .int 0, .int 0, .int 0, .int 0, .int 13])), (sB, .inr (5, [.ref rG, .int 0, .int 0]))]) := hD
  by_cases c4 : 0 ≤ p0 ∧ p0 < 300
  · obtain rfl : r2 = 1 := by rw [hrh3, if_pos c4]
    refine lv_if_ne (tgt := 9) hx hb dX11_start_4 (by decide) (fun c5 => ?_) (fun h => absurd h (by decide))
    refine lv_aload_n hx hb dX11_start_9 rfl (lv_at hl 0 rfl) ?_
    refine z_get Z i_X11 hP 0 rfl rfl 2 (by decide) bw_470 rfl dX11_start_10 ?_
    refine z_get Z i_X10 hP 1 rfl rfl 2 (by decide) bw_240 rfl dX11_start_13 ?_
    refine lv_iload_n hx hb dX11_start_16 rfl (lv_at hl 1 rfl) ?_
    refine z_put Z i_X1 tyX1 tyX1_ok nmX1 hP hD hS 2 rfl rfl 2 (by decide) bw_186 rfl rfl rfl (Nat.le_of_ble_eq_true rfl) dX11_start_17 (fun H locs hP hD hS => ?_)
    have hP : va_P D vwCl ([(x, .inr (11, [.ref st, .ref dr, .ref nw, .ref kp, .ref rd, .ref tm, .ref co])), (nw, .inr (10, [.ref rO, .ref sT, .ref mA, .ref sB, .ref sA, .ref tH, .ref tF, .ref tS, .int 0, .int 0, .int (-1), .int 0, .int 0])), (mA, .inr (1, [.ref iA, .int 0, .int p0, .int 0, .int 0, .int 0, .int 13])), (sB, .inr (5, [.ref rG, .int 0, .int 0]))]) H := hP
    have hD : va_D A ([(x, .inr (11, [.ref st, .ref dr, .ref nw, .ref kp, .ref rd, .ref tm, .ref co])), (nw, .inr (10, [.ref rO, .ref sT, .ref mA, .ref sB, .ref sA, .ref tH, .ref tF, .ref tS, .int 0, .int 0, .int (-1), .int 0, .int 0])), (mA, .inr (1, [.ref iA, .int 0, .int p0, .int 0, .int 0, .int 0, .int 13])), (sB, .inr (5, [.ref rG, .int 0, .int 0]))]) := hD
    refine lv_aload_n hx hb dX11_start_20 rfl (lv_at hl 0 rfl) ?_
    refine z_get Z i_X11 hP 0 rfl rfl 2 (by decide) bw_470 rfl dX11_start_21 ?_
    refine z_get Z i_X10 hP 1 rfl rfl 2 (by decide) bw_240 rfl dX11_start_24 ?_
    refine lv_iconst (v := 0) hx hb dX11_start_27 (by decide) ?_
    refine z_put Z i_X1 tyX1 tyX1_ok nmX1 hP hD hS 2 rfl rfl 3 (by decide) bw_188 rfl rfl rfl (Nat.le_of_ble_eq_true rfl) dX11_start_28 (fun H locs hP hD hS => ?_)
    have hP : va_P D vwCl ([(x, .inr (11, [.ref st, .ref dr, .ref nw, .ref kp, .ref rd, .ref tm, .ref co])), (nw, .inr (10, [.ref rO, .ref sT, .ref mA, .ref sB, .ref sA, .ref tH, .ref tF, .ref tS, .int 0, .int 0, .int (-1), .int 0, .int 0])), (mA, .inr (1, [.ref iA, .int 0, .int p0, .int 0, .int 0, .int 0, .int 13])), (sB, .inr (5, [.ref rG, .int 0, .int 0]))]) H := hP
    have hD : va_D A ([(x, .inr (11, [.ref st, .ref dr, .ref nw, .ref kp, .ref rd, .ref tm, .ref co])), (nw, .inr (10, [.ref rO, .ref sT, .ref mA, .ref sB, .ref sA, .ref tH, .ref tF, .ref tS, .int 0, .int 0, .int (-1), .int 0, .int 0])), (mA, .inr (1, [.ref iA, .int 0, .int p0, .int 0, .int 0, .int 0, .int 13])), (sB, .inr (5, [.ref rG, .int 0, .int 0]))]) := hD
    refine lv_aload_n hx hb dX11_start_31 rfl (lv_at hl 0 rfl) ?_
    refine z_get Z i_X11 hP 0 rfl rfl 2 (by decide) bw_470 rfl dX11_start_32 ?_
    refine z_get Z i_X10 hP 1 rfl rfl 2 (by decide) bw_240 rfl dX11_start_35 ?_
    refine lv_iconst (v := 0) hx hb dX11_start_38 (by decide) ?_
    refine z_put Z i_X1 tyX1 tyX1_ok nmX1 hP hD hS 2 rfl rfl 4 (by decide) bw_190 rfl rfl rfl (Nat.le_of_ble_eq_true rfl) dX11_start_39 (fun H locs hP hD hS => ?_)
    have hP : va_P D vwCl ([(x, .inr (11, [.ref st, .ref dr, .ref nw, .ref kp, .ref rd, .ref tm, .ref co])), (nw, .inr (10, [.ref rO, .ref sT, .ref mA, .ref sB, .ref sA, .ref tH, .ref tF, .ref tS, .int 0, .int 0, .int (-1), .int 0, .int 0])), (mA, .inr (1, [.ref iA, .int 0, .int p0, .int 0, .int 0, .int 0, .int 13])), (sB, .inr (5, [.ref rG, .int 0, .int 0]))]) H := hP
    have hD : va_D A ([(x, .inr (11, [.ref st, .ref dr, .ref nw, .ref kp, .ref rd, .ref tm, .ref co])), (nw, .inr (10, [.ref rO, .ref sT, .ref mA, .ref sB, .ref sA, .ref tH, .ref tF, .ref tS, .int 0, .int 0, .int (-1), .int 0, .int 0])), (mA, .inr (1, [.ref iA, .int 0, .int p0, .int 0, .int 0, .int 0, .int 13])), (sB, .inr (5, [.ref rG, .int 0, .int 0]))]) := hD
    refine lv_aload_n hx hb dX11_start_42 rfl (lv_at hl 0 rfl) ?_
    refine z_get Z i_X11 hP 0 rfl rfl 2 (by decide) bw_470 rfl dX11_start_43 ?_
    refine z_get Z i_X10 hP 1 rfl rfl 3 (by decide) bw_242 rfl dX11_start_46 ?_
    refine lv_iconst (v := 0) hx hb dX11_start_49 (by decide) ?_
    refine z_put Z i_X5 tyX5 tyX5_ok nmX5 hP hD hS 3 rfl rfl 2 (by decide) bw_223 rfl rfl rfl (Nat.le_of_ble_eq_true rfl) dX11_start_50 (fun H locs hP hD hS => ?_)
    have hP : va_P D vwCl ([(x, .inr (11, [.ref st, .ref dr, .ref nw, .ref kp, .ref rd, .ref tm, .ref co])), (nw, .inr (10, [.ref rO, .ref sT, .ref mA, .ref sB, .ref sA, .ref tH, .ref tF, .ref tS, .int 0, .int 0, .int (-1), .int 0, .int 0])), (mA, .inr (1, [.ref iA, .int 0, .int p0, .int 0, .int 0, .int 0, .int 13])), (sB, .inr (5, [.ref rG, .int 0, .int 0]))]) H := hP
    have hD : va_D A ([(x, .inr (11, [.ref st, .ref dr, .ref nw, .ref kp, .ref rd, .ref tm, .ref co])), (nw, .inr (10, [.ref rO, .ref sT, .ref mA, .ref sB, .ref sA, .ref tH, .ref tF, .ref tS, .int 0, .int 0, .int (-1), .int 0, .int 0])), (mA, .inr (1, [.ref iA, .int 0, .int p0, .int 0, .int 0, .int 0, .int 13])), (sB, .inr (5, [.ref rG, .int 0, .int 0]))]) := hD
    refine lv_iconst (v := 1) hx hb dX11_start_53 (by decide) ?_
    exact z_ret Z rfl hP hD hS ((by first | rfl | assumption | (rw [if_pos (by (try simp only [zlt, zle, zeq, zl_0, zl_1, zl_2, zl_3, zl_4, zl_5, zl_6, zl_7, zl_8, zl_9, zl_10, zl_11, zl_12, zl_13, zl_19, zl_20, zl_30, zl_64, zl_99, zl_100, zl_299, zl_300, zl_399, zl_999, zl_9999, zl_m1, zl_m2, zl_m3, zl_32, zl_280] at c4 c5 ⊢); omega)]; first | done | ((try simp only [zlt, zle, zeq, zl_0, zl_1, zl_2, zl_3, zl_4, zl_5, zl_6, zl_7, zl_8, zl_9, zl_10, zl_11, zl_12, zl_13, zl_19, zl_20, zl_30, zl_64, zl_99, zl_100, zl_299, zl_300, zl_399, zl_999, zl_9999, zl_m1, zl_m2, zl_m3, zl_32, zl_280] at c4 c5 ⊢); omega)) | (rw [if_neg (by (try simp only [zlt, zle, zeq, zl_0, zl_1, zl_2, zl_3, zl_4, zl_5, zl_6, zl_7, zl_8, zl_9, zl_10, zl_11, zl_12, zl_13, zl_19, zl_20, zl_30, zl_64, zl_99, zl_100, zl_299, zl_300, zl_399, zl_999, zl_9999, zl_m1, zl_m2, zl_m3, zl_32, zl_280] at c4 c5 ⊢); omega)]; first | done | ((try simp only [zlt, zle, zeq, zl_0, zl_1, zl_2, zl_3, zl_4, zl_5, zl_6, zl_7, zl_8, zl_9, zl_10, zl_11, zl_12, zl_13, zl_19, zl_20, zl_30, zl_64, zl_99, zl_100, zl_299, zl_300, zl_399, zl_999, zl_9999, zl_m1, zl_m2, zl_m3, zl_32, zl_280] at c4 c5 ⊢); omega)))) dX11_start_54 (Nat.le_of_ble_eq_true rfl) (Nat.le_of_ble_eq_true rfl)
  · obtain rfl : r2 = 0 := by rw [hrh3, if_neg c4]
    refine lv_if_ne (tgt := 9) hx hb dX11_start_4 (by decide) (fun h => absurd (by decide) h) (fun c6 => ?_)
    refine lv_iconst (v := 0) hx hb dX11_start_7 (by decide) ?_
    exact z_ret Z rfl hP hD hS ((by first | rfl | assumption | (rw [if_pos (by (try simp only [zlt, zle, zeq, zl_0, zl_1, zl_2, zl_3, zl_4, zl_5, zl_6, zl_7, zl_8, zl_9, zl_10, zl_11, zl_12, zl_13, zl_19, zl_20, zl_30, zl_64, zl_99, zl_100, zl_299, zl_300, zl_399, zl_999, zl_9999, zl_m1, zl_m2, zl_m3, zl_32, zl_280] at c4 c6 ⊢); omega)]; first | done | ((try simp only [zlt, zle, zeq, zl_0, zl_1, zl_2, zl_3, zl_4, zl_5, zl_6, zl_7, zl_8, zl_9, zl_10, zl_11, zl_12, zl_13, zl_19, zl_20, zl_30, zl_64, zl_99, zl_100, zl_299, zl_300, zl_399, zl_999, zl_9999, zl_m1, zl_m2, zl_m3, zl_32, zl_280] at c4 c6 ⊢); omega)) | (rw [if_neg (by (try simp only [zlt, zle, zeq, zl_0, zl_1, zl_2, zl_3, zl_4, zl_5, zl_6, zl_7, zl_8, zl_9, zl_10, zl_11, zl_12, zl_13, zl_19, zl_20, zl_30, zl_64, zl_99, zl_100, zl_299, zl_300, zl_399, zl_999, zl_9999, zl_m1, zl_m2, zl_m3, zl_32, zl_280] at c4 c6 ⊢); omega)]; first | done | ((try simp only [zlt, zle, zeq, zl_0, zl_1, zl_2, zl_3, zl_4, zl_5, zl_6, zl_7, zl_8, zl_9, zl_10, zl_11, zl_12, zl_13, zl_19, zl_20, zl_30, zl_64, zl_99, zl_100, zl_299, zl_300, zl_399, zl_999, zl_9999, zl_m1, zl_m2, zl_m3, zl_32, zl_280] at c4 c6 ⊢); omega)))) dX11_start_8 (Nat.le_of_ble_eq_true rfl) (Nat.le_of_ble_eq_true rfl)
set_option maxHeartbeats 4000000 in
set_option maxRecDepth 100000 in
theorem c_X11_would (l : Launch) (D : va_G) (cI cM cT : ClassId) (x : Nat) (st : Nat) (dr : Nat) (nw : Nat) (kp : Nat) (rd : Nat) (tm : Nat) (co : Nat) (rO : Nat) (sT : Nat) (mA : Nat) (sB : Nat) (sA : Nat) (tH : Nat) (tF : Nat) (tS : Nat) (cO : Nat) (sH : Nat) (p0 : Int32) (p1 : Int32) (p2 : Int32) : Ci l D (ty3 cI cM cT) yX11_would cX11_would 5 (some .int) 3 0 0 [.ref x, .int p0, .int p1, .int p2] ([(x, .inr (11, [.ref st, .ref dr, .ref nw, .ref kp, .ref rd, .ref tm, .ref co])), (nw, .inr (10, [.ref rO, .ref sT, .ref mA, .ref sB, .ref sA, .ref tH, .ref tF, .ref tS, .int 0, .int 0, .int (-1), .int 0, .int 0])), (sT, .inr (4, [.ref cO, .ref sH, .int 0]))]) (fun r u => r = (-1)) := by
  refine Ci.of (by decide +kernel) (Nat.le_of_ble_eq_true rfl) ?_
  intro p e s m below meth c A ls Z hin hP hD hl
  have hx := Z.1
  have hb := Z.2.1
  have hS : va_S A s.heap s.heap [] := va_S.rf
  have hl : lv_has ls 5 [(0, .ref x), (1, .int p0), (2, .int p1), (3, .int p2)] := hl
  skip
  refine lv_aload_n hx hb dX11_would_0 rfl (lv_at hl 0 rfl) ?_
  refine lv_iload_n hx hb dX11_would_1 rfl (lv_at hl 1 rfl) ?_
  have hPc := hP.sub2 (wc := [(x, .inr (11, [.ref st, .ref dr, .ref nw, .ref kp, .ref rd, .ref tm, .ref co])), (nw, .inr (10, [.ref rO, .ref sT, .ref mA, .ref sB, .ref sA, .ref tH, .ref tF, .ref tS, .int 0, .int 0, .int (-1), .int 0, .int 0])), (sT, .inr (4, [.ref cO, .ref sH, .int 0]))]) [0, 1, 2] rfl
  have hDc := hD.sub (ws' := [(x, .inr (11, [.ref st, .ref dr, .ref nw, .ref kp, .ref rd, .ref tm, .ref co])), (nw, .inr (10, [.ref rO, .ref sT, .ref mA, .ref sB, .ref sA, .ref tH, .ref tF, .ref tS, .int 0, .int 0, .int (-1), .int 0, .int 0])), (sT, .inr (4, [.ref cO, .ref sH, .int 0]))]) [0, 1, 2] (by decide) rfl
  refine raw_Vi (ci := 11) (q0 := 0) (nA := 1) (As := [.int p0]) (rest := []) Z hl.1 (c_X11_isHorse l D cI cM cT x st dr nw kp rd tm co rO sT mA sB sA tH tF tS cO sH p0) (bw_V bw_803 bw_805 bw_21 bw_80 bw_806) ⟨by decide +kernel, by decide +kernel, by decide +kernel⟩ rfl ⟨Nat.le_of_ble_eq_true rfl, Nat.le_of_ble_eq_true rfl⟩ rfl rfl rfl hPc hDc hS rfl (Nat.le_of_ble_eq_true rfl) dX11_would_2 ⟨Nat.le_of_ble_eq_true rfl, Nat.le_of_ble_eq_true rfl⟩ (fun r2 u1 H1 locs1 h3 hku1 hP1 hD1 hS1 => ?_)
  obtain ⟨rfl, rfl⟩ := h3
  obtain ⟨hP, hD⟩ := z_join (wr := []) Z hS hP hD [0, 1, 2] [] rfl (by decide) rfl (by decide) (by decide) hku1 hP1 hD1
  have hS := hS1
  clear hS1
  generalize H1 = H at hP hS ⊢
  generalize locs1 = locs at hS ⊢
  have hP : va_P D vwCl ([(x, .inr (11, [.ref st, .ref dr, .ref nw, .ref kp, .ref rd, .ref tm, .ref co])), (nw, .inr (10, [.ref rO, .ref sT, .ref mA, .ref sB, .ref sA, .ref tH, .ref tF, .ref tS, .int 0, .int 0, .int (-1), .int 0, .int 0])), (sT, .inr (4, [.ref cO, .ref sH, .int 0]))]) H := hP
  have hD : va_D A ([(x, .inr (11, [.ref st, .ref dr, .ref nw, .ref kp, .ref rd, .ref tm, .ref co])), (nw, .inr (10, [.ref rO, .ref sT, .ref mA, .ref sB, .ref sA, .ref tH, .ref tF, .ref tS, .int 0, .int 0, .int (-1), .int 0, .int 0])), (sT, .inr (4, [.ref cO, .ref sH, .int 0]))]) := hD
  refine lv_if_eq (tgt := 15) hx hb dX11_would_5 (by decide) (fun c4 => ?_) (fun h => absurd (by decide) h)
  refine lv_iconst (v := (-1)) hx hb dX11_would_15 (by decide) ?_
  exact z_ret Z rfl hP hD hS ((by first | rfl | assumption)) dX11_would_16 (Nat.le_of_ble_eq_true rfl) (Nat.le_of_ble_eq_true rfl)
set_option maxHeartbeats 4000000 in
set_option maxRecDepth 100000 in
theorem c_X11_driveByHand (l : Launch) (D : va_G) (cI cM cT : ClassId) (x : Nat) (st : Nat) (dr : Nat) (nw : Nat) (kp : Nat) (rd : Nat) (tm : Nat) (co : Nat) (rO : Nat) (sT : Nat) (mA : Nat) (sB : Nat) (sA : Nat) (tH : Nat) (tF : Nat) (tS : Nat) (cO : Nat) (sH : Nat) (iA : Nat) (p0 : Int32) : Ci l D (ty3 cI cM cT) yX11_driveByHand cX11_driveByHand 3 (some .boolean) 2 0 0 [.ref x, .int p0] ([(x, .inr (11, [.ref st, .ref dr, .ref nw, .ref kp, .ref rd, .ref tm, .ref co])), (nw, .inr (10, [.ref rO, .ref sT, .ref mA, .ref sB, .ref sA, .ref tH, .ref tF, .ref tS, .int 0, .int 0, .int (-1), .int 0, .int 0])), (sT, .inr (4, [.ref cO, .ref sH, .int 0])), (mA, .inr (1, [.ref iA, .int 0, .int 0, .int 0, .int 0, .int 0, .int 13]))]) (fun r u => r = 0 ∧ u = [(x, .inr (11, [.ref st, .ref dr, .ref nw, .ref kp, .ref rd, .ref tm, .ref co])), (nw, .inr (10, [.ref rO, .ref sT, .ref mA, .ref sB, .ref sA, .ref tH, .ref tF, .ref tS, .int 0, .int 0, .int (-1), .int 0, .int 0])), (sT, .inr (4, [.ref cO, .ref sH, .int 0])), (mA, .inr (1, [.ref iA, .int 0, .int 0, .int 0, .int 0, .int 0, .int 13]))]) := by
  refine Ci.of (by decide +kernel) (Nat.le_of_ble_eq_true rfl) ?_
  intro p e s m below meth c A ls Z hin hP hD hl
  have hx := Z.1
  have hb := Z.2.1
  have hS : va_S A s.heap s.heap [] := va_S.rf
  have hl : lv_has ls 3 [(0, .ref x), (1, .int p0)] := hl
  skip
  refine lv_aload_n hx hb dX11_driveByHand_0 rfl (lv_at hl 0 rfl) ?_
  refine z_get Z i_X11 hP 0 rfl rfl 2 (by decide) bw_470 rfl dX11_driveByHand_1 ?_
  refine z_get Z i_X10 hP 1 rfl rfl 2 (by decide) bw_240 rfl dX11_driveByHand_4 ?_
  refine lv_astore_n (lv' := [(2, .ref mA), (0, .ref x), (1, .int p0)]) hx hb dX11_driveByHand_7 rfl hl (by decide) rfl (fun ls hl => ?_)
  refine lv_aload_n hx hb dX11_driveByHand_8 rfl (lv_at hl 1 rfl) ?_
  refine lv_iload_n hx hb dX11_driveByHand_9 rfl (lv_at hl 2 rfl) ?_
  have hPc := hP.sub2 (wc := [(x, .inr (11, [.ref st, .ref dr, .ref nw, .ref kp, .ref rd, .ref tm, .ref co])), (nw, .inr (10, [.ref rO, .ref sT, .ref mA, .ref sB, .ref sA, .ref tH, .ref tF, .ref tS, .int 0, .int 0, .int (-1), .int 0, .int 0])), (sT, .inr (4, [.ref cO, .ref sH, .int 0]))]) [0, 1, 2] rfl
  have hDc := hD.sub (ws' := [(x, .inr (11, [.ref st, .ref dr, .ref nw, .ref kp, .ref rd, .ref tm, .ref co])), (nw, .inr (10, [.ref rO, .ref sT, .ref mA, .ref sB, .ref sA, .ref tH, .ref tF, .ref tS, .int 0, .int 0, .int (-1), .int 0, .int 0])), (sT, .inr (4, [.ref cO, .ref sH, .int 0]))]) [0, 1, 2] (by decide) rfl
  refine raw_Vi (ci := 11) (q0 := 0) (nA := 1) (As := [.int p0]) (rest := []) Z hl.1 (c_X11_isHorse l D cI cM cT x st dr nw kp rd tm co rO sT mA sB sA tH tF tS cO sH p0) (bw_V bw_803 bw_805 bw_21 bw_80 bw_806) ⟨by decide +kernel, by decide +kernel, by decide +kernel⟩ rfl ⟨Nat.le_of_ble_eq_true rfl, Nat.le_of_ble_eq_true rfl⟩ rfl rfl rfl hPc hDc hS rfl (Nat.le_of_ble_eq_true rfl) dX11_driveByHand_10 ⟨Nat.le_of_ble_eq_true rfl, Nat.le_of_ble_eq_true rfl⟩ (fun r2 u1 H1 locs1 h3 hku1 hP1 hD1 hS1 => ?_)
  obtain ⟨rfl, rfl⟩ := h3
  obtain ⟨hP, hD⟩ := z_join (wr := [(mA, .inr (1, [.ref iA, .int 0, .int 0, .int 0, .int 0, .int 0, .int 13]))]) Z hS hP hD [0, 1, 2] [3] rfl (by decide) rfl (by decide) (by decide) hku1 hP1 hD1
  have hS := hS1
  clear hS1
  generalize H1 = H at hP hS ⊢
  generalize locs1 = locs at hS ⊢
  have hP : va_P D vwCl ([(mA, .inr (1, [.ref iA, .int 0, .int 0, .int 0, .int 0, .int 0, .int 13])), (x, .inr (11, [.ref st, .ref dr, .ref nw, .ref kp, .ref rd, .ref tm, .ref co])), (nw, .inr (10, [.ref rO, .ref sT, .ref mA, .ref sB, .ref sA, .ref tH, .ref tF, .ref tS, .int 0, .int 0, .int (-1), .int 0, .int 0])), (sT, .inr (4, [.ref cO, .ref sH, .int 0]))]) H := hP
  have hD : va_D A ([(mA, .inr (1, [.ref iA, .int 0, .int 0, .int 0, .int 0, .int 0, .int 13])), (x, .inr (11, [.ref st, .ref dr, .ref nw, .ref kp, .ref rd, .ref tm, .ref co])), (nw, .inr (10, [.ref rO, .ref sT, .ref mA, .ref sB, .ref sA, .ref tH, .ref tF, .ref tS, .int 0, .int 0, .int (-1), .int 0, .int 0])), (sT, .inr (4, [.ref cO, .ref sH, .int 0]))]) := hD
  refine lv_if_eq (tgt := 26) hx hb dX11_driveByHand_13 (by decide) (fun c4 => ?_) (fun h => absurd (by decide) h)
  refine lv_iconst (v := 0) hx hb dX11_driveByHand_26 (by decide) ?_
  have hP := hP.sub2 (wc := [(x, .inr (11, [.ref st, .ref dr, .ref nw, .ref kp, .ref rd, .ref tm, .ref co])), (nw, .inr (10, [.ref rO, .ref sT, .ref mA, .ref sB, .ref sA, .ref tH, .ref tF, .ref tS, .int 0, .int 0, .int (-1), .int 0, .int 0])), (sT, .inr (4, [.ref cO, .ref sH, .int 0])), (mA, .inr (1, [.ref iA, .int 0, .int 0, .int 0, .int 0, .int 0, .int 13]))]) [1, 2, 3, 0] rfl
  have hD := hD.sub (ws' := [(x, .inr (11, [.ref st, .ref dr, .ref nw, .ref kp, .ref rd, .ref tm, .ref co])), (nw, .inr (10, [.ref rO, .ref sT, .ref mA, .ref sB, .ref sA, .ref tH, .ref tF, .ref tS, .int 0, .int 0, .int (-1), .int 0, .int 0])), (sT, .inr (4, [.ref cO, .ref sH, .int 0])), (mA, .inr (1, [.ref iA, .int 0, .int 0, .int 0, .int 0, .int 0, .int 13]))]) [1, 2, 3, 0] (by decide) rfl
  exact z_ret Z rfl hP hD hS (⟨rfl, rfl⟩) dX11_driveByHand_27 (Nat.le_of_ble_eq_true rfl) (Nat.le_of_ble_eq_true rfl)
set_option maxHeartbeats 4000000 in
set_option maxRecDepth 100000 in
theorem c_X11_drive (l : Launch) (D : va_G) (cI cM cT : ClassId) (x : Nat) (st : Nat) (dr : Nat) (nw : Nat) (kp : Nat) (rd : Nat) (tm : Nat) (co : Nat) (rO : Nat) (sT : Nat) (mA : Nat) (sB : Nat) (sA : Nat) (tH : Nat) (tF : Nat) (tS : Nat) (cO : Nat) (sH : Nat) (iA : Nat) (p0 : Int32) : Ci l D (ty3 cI cM cT) yX11_drive cX11_drive 2 (some .int) 4 0 0 [.ref x, .int p0] ([(x, .inr (11, [.ref st, .ref dr, .ref nw, .ref kp, .ref rd, .ref tm, .ref co])), (nw, .inr (10, [.ref rO, .ref sT, .ref mA, .ref sB, .ref sA, .ref tH, .ref tF, .ref tS, .int 0, .int 0, .int (-1), .int 0, .int 0])), (sT, .inr (4, [.ref cO, .ref sH, .int 0])), (mA, .inr (1, [.ref iA, .int 0, .int 0, .int 0, .int 0, .int 0, .int 13]))]) (fun r u => r = (-1)) := by
  refine Ci.of (by decide +kernel) (Nat.le_of_ble_eq_true rfl) ?_
  intro p e s m below meth c A ls Z hin hP hD hl
  have hx := Z.1
  have hb := Z.2.1
  have hS : va_S A s.heap s.heap [] := va_S.rf
  have hl : lv_has ls 2 [(0, .ref x), (1, .int p0)] := hl
  skip
  refine lv_aload_n hx hb dX11_drive_0 rfl (lv_at hl 0 rfl) ?_
  refine lv_iload_n hx hb dX11_drive_1 rfl (lv_at hl 1 rfl) ?_
  have hPc := hP.sub2 (wc := [(x, .inr (11, [.ref st, .ref dr, .ref nw, .ref kp, .ref rd, .ref tm, .ref co])), (nw, .inr (10, [.ref rO, .ref sT, .ref mA, .ref sB, .ref sA, .ref tH, .ref tF, .ref tS, .int 0, .int 0, .int (-1), .int 0, .int 0])), (sT, .inr (4, [.ref cO, .ref sH, .int 0])), (mA, .inr (1, [.ref iA, .int 0, .int 0, .int 0, .int 0, .int 0, .int 13]))]) [0, 1, 2, 3] rfl
  have hDc := hD.sub (ws' := [(x, .inr (11, [.ref st, .ref dr, .ref nw, .ref kp, .ref rd, .ref tm, .ref co])), (nw, .inr (10, [.ref rO, .ref sT, .ref mA, .ref sB, .ref sA, .ref tH, .ref tF, .ref tS, .int 0, .int 0, .int (-1), .int 0, .int 0])), (sT, .inr (4, [.ref cO, .ref sH, .int 0])), (mA, .inr (1, [.ref iA, .int 0, .int 0, .int 0, .int 0, .int 0, .int 13]))]) [0, 1, 2, 3] (by decide) rfl
  refine raw_Vi (ci := 11) (q0 := 0) (nA := 1) (As := [.int p0]) (rest := []) Z hl.1 (c_X11_driveByHand l D cI cM cT x st dr nw kp rd tm co rO sT mA sB sA tH tF tS cO sH iA p0) (bw_V bw_871 bw_873 bw_27 bw_80 bw_874) ⟨by decide +kernel, by decide +kernel, by decide +kernel⟩ rfl ⟨Nat.le_of_ble_eq_true rfl, Nat.le_of_ble_eq_true rfl⟩ rfl rfl rfl hPc hDc hS rfl (Nat.le_of_ble_eq_true rfl) dX11_drive_2 ⟨Nat.le_of_ble_eq_true rfl, Nat.le_of_ble_eq_true rfl⟩ (fun r2 u1 H1 locs1 h3 hku1 hP1 hD1 hS1 => ?_)
  obtain ⟨rfl, rfl⟩ := h3
  obtain ⟨hP, hD⟩ := z_join (wr := []) Z hS hP hD [0, 1, 2, 3] [] rfl (by decide) rfl (by decide) (by decide) hku1 hP1 hD1
  have hS := hS1
  clear hS1
  generalize H1 = H at hP hS ⊢
  generalize locs1 = locs at hS ⊢
  have hP : va_P D vwCl ([(x, .inr (11, [.ref st, .ref dr, .ref nw, .ref kp, .ref rd, .ref tm, .ref co])), (nw, .inr (10, [.ref rO, .ref sT, .ref mA, .ref sB, .ref sA, .ref tH, .ref tF, .ref tS, .int 0, .int 0, .int (-1), .int 0, .int 0])), (sT, .inr (4, [.ref cO, .ref sH, .int 0])), (mA, .inr (1, [.ref iA, .int 0, .int 0, .int 0, .int 0, .int 0, .int 13]))]) H := hP
  have hD : va_D A ([(x, .inr (11, [.ref st, .ref dr, .ref nw, .ref kp, .ref rd, .ref tm, .ref co])), (nw, .inr (10, [.ref rO, .ref sT, .ref mA, .ref sB, .ref sA, .ref tH, .ref tF, .ref tS, .int 0, .int 0, .int (-1), .int 0, .int 0])), (sT, .inr (4, [.ref cO, .ref sH, .int 0])), (mA, .inr (1, [.ref iA, .int 0, .int 0, .int 0, .int 0, .int 0, .int 13]))]) := hD
  refine lv_if_eq (tgt := 21) hx hb dX11_drive_5 (by decide) (fun c4 => ?_) (fun h => absurd (by decide) h)
  refine lv_iconst (v := (-1)) hx hb dX11_drive_21 (by decide) ?_
  exact z_ret Z rfl hP hD hS ((by first | rfl | assumption)) dX11_drive_22 (Nat.le_of_ble_eq_true rfl) (Nat.le_of_ble_eq_true rfl)
set_option maxHeartbeats 4000000 in
set_option maxRecDepth 100000 in
theorem c_X11_played (l : Launch) (D : va_G) (cI cM cT : ClassId) (x : Nat) (st : Nat) (dr : Nat) (nw : Nat) (kp : Nat) (rd : Nat) (tm : Nat) (co : Nat) (rO : Nat) (sT : Nat) (mA : Nat) (sB : Nat) (sA : Nat) (tH : Nat) (tF : Nat) (tS : Nat) (p0 : Int32) : Ci l D (ty3 cI cM cT) yX11_played cX11_played 6 (some .int) 3 0 0 [.ref x, .int p0] ([(x, .inr (11, [.ref st, .ref dr, .ref nw, .ref kp, .ref rd, .ref tm, .ref co])), (nw, .inr (10, [.ref rO, .ref sT, .ref mA, .ref sB, .ref sA, .ref tH, .ref tF, .ref tS, .int 0, .int 0, .int (-1), .int 0, .int 0]))]) (fun r u => r = (-2)) := by
  refine Ci.of (by decide +kernel) (Nat.le_of_ble_eq_true rfl) ?_
  intro p e s m below meth c A ls Z hin hP hD hl
  have hx := Z.1
  have hb := Z.2.1
  have hS : va_S A s.heap s.heap [] := va_S.rf
  have hl : lv_has ls 6 [(0, .ref x), (1, .int p0)] := hl
  skip
  refine lv_iload_n hx hb dX11_played_0 rfl (lv_at hl 1 rfl) ?_
  refine lv_iconst (v := 0) hx hb dX11_played_1 (by decide) ?_
  refine lv_aload_n hx hb dX11_played_2 rfl (lv_at hl 0 rfl) ?_
  refine z_get Z i_X11 hP 0 rfl rfl 2 (by decide) bw_470 rfl dX11_played_3 ?_
  refine z_get Z i_X10 hP 1 rfl rfl 9 (by decide) bw_255 rfl dX11_played_6 ?_
  refine lv_iconst (v := 1) hx hb dX11_played_9 (by decide) ?_
  refine lv_isub hx hb dX11_played_10 ?_
  refine z_topi (y := (-1)) (by decide) ?_
  have hPc := hP.sub2 (wc := []) [] rfl
  have hDc := hD.sub (ws' := []) [] (by decide) rfl
  refine raw_Si (nA := 3) (As := [.int p0, .int 0, .int (-1)]) (rest := []) Z hl.1 (c_X11_isWithin l D cI cM cT p0 0 (-1)) (bw_S bw_497 bw_498 bw_80 bw_499) ⟨by decide +kernel, by decide +kernel, by decide +kernel⟩ rfl ⟨Nat.le_of_ble_eq_true rfl, Nat.le_of_ble_eq_true rfl⟩ hPc hDc hS rfl (Nat.le_of_ble_eq_true rfl) dX11_played_11 ⟨Nat.le_of_ble_eq_true rfl, Nat.le_of_ble_eq_true rfl⟩ (fun r2 u1 H1 locs1 h3 hku1 hP1 hD1 hS1 => ?_)
  obtain ⟨hrh3, rfl⟩ := h3
  obtain ⟨hP, hD⟩ := z_join (wr := [(x, .inr (11, [.ref st, .ref dr, .ref nw, .ref kp, .ref rd, .ref tm, .ref co])), (nw, .inr (10, [.ref rO, .ref sT, .ref mA, .ref sB, .ref sA, .ref tH, .ref tF, .ref tS, .int 0, .int 0, .int (-1), .int 0, .int 0]))]) Z hS hP hD [] [0, 1] rfl (by decide) rfl (by decide) (by decide) hku1 hP1 hD1
  have hS := hS1
  clear hS1
  generalize H1 = H at hP hS ⊢
  generalize locs1 = locs at hS ⊢
  have hP : va_P D vwCl ([(x, .inr (11, [.ref st, .ref dr, .ref nw, .ref kp, .ref rd, .ref tm, .ref co])), (nw, .inr (10, [.ref rO, .ref sT, .ref mA, .ref sB, .ref sA, .ref tH, .ref tF, .ref tS, .int 0, .int 0, .int (-1), .int 0, .int 0]))]) H := hP
  have hD : va_D A ([(x, .inr (11, [.ref st, .ref dr, .ref nw, .ref kp, .ref rd, .ref tm, .ref co])), (nw, .inr (10, [.ref rO, .ref sT, .ref mA, .ref sB, .ref sA, .ref tH, .ref tF, .ref tS, .int 0, .int 0, .int (-1), .int 0, .int 0]))]) := hD
  obtain rfl : r2 = 0 := by rw [hrh3, if_neg (by simp only [zlt, zle, zeq, zl_0, zl_1, zl_2, zl_3, zl_4, zl_5, zl_6, zl_7, zl_8, zl_9, zl_10, zl_11, zl_12, zl_13, zl_19, zl_20, zl_30, zl_64, zl_99, zl_100, zl_299, zl_300, zl_399, zl_999, zl_9999, zl_m1, zl_m2, zl_m3, zl_32, zl_280]; omega)]
  refine lv_if_ne (tgt := 20) hx hb dX11_played_14 (by decide) (fun h => absurd (by decide) h) (fun c5 => ?_)
  refine lv_bipush (v := (-2)) hx hb dX11_played_17 (by decide) ?_
  exact z_ret Z rfl hP hD hS ((by first | rfl | assumption)) dX11_played_19 (Nat.le_of_ble_eq_true rfl) (Nat.le_of_ble_eq_true rfl)
set_option maxHeartbeats 4000000 in
set_option maxRecDepth 100000 in
theorem c_X11_coach (l : Launch) (D : va_G) (cI cM cT : ClassId) (x : Nat) (st : Nat) (dr : Nat) (nw : Nat) (kp : Nat) (rd : Nat) (tm : Nat) (co : Nat) (rO : Nat) (sT : Nat) (mA : Nat) (sB : Nat) (sA : Nat) (tH : Nat) (tF : Nat) (tS : Nat) (iA : Nat) (p0 : Int32) : Ci l D (ty3 cI cM cT) yX11_coach cX11_coach 2 (some .int) 3 0 0 [.ref x, .int p0] ([(x, .inr (11, [.ref st, .ref dr, .ref nw, .ref kp, .ref rd, .ref tm, .ref co])), (nw, .inr (10, [.ref rO, .ref sT, .ref mA, .ref sB, .ref sA, .ref tH, .ref tF, .ref tS, .int 0, .int 0, .int (-1), .int 0, .int 0])), (mA, .inr (1, [.ref iA, .int 0, .int 0, .int 0, .int 0, .int 0, .int 13]))]) (fun r u => r = (if p0 = 0 ∨ p0 = 1 ∨ p0 = 2 then 0 else (-1))) := by
  refine Ci.of (by decide +kernel) (Nat.le_of_ble_eq_true rfl) ?_
  intro p e s m below meth c A ls Z hin hP hD hl
  have hx := Z.1
  have hb := Z.2.1
  have hS : va_S A s.heap s.heap [] := va_S.rf
  have hl : lv_has ls 2 [(0, .ref x), (1, .int p0)] := hl
  skip
  refine lv_iload_n hx hb dX11_coach_0 rfl (lv_at hl 1 rfl) ?_
  by_cases c1 : p0.toInt < 0 ∨ 3 < p0.toInt
  · refine lv_tableOut (tgt := 76) hx hb dX11_coach_1 c1 (by decide) ?_
    refine lv_iconst (v := (-1)) hx hb dX11_coach_76 (by decide) ?_
    exact z_ret Z rfl hP hD hS ((by first | rfl | assumption | (rw [if_pos (by (try simp only [zlt, zle, zeq, zl_0, zl_1, zl_2, zl_3, zl_4, zl_5, zl_6, zl_7, zl_8, zl_9, zl_10, zl_11, zl_12, zl_13, zl_19, zl_20, zl_30, zl_64, zl_99, zl_100, zl_299, zl_300, zl_399, zl_999, zl_9999, zl_m1, zl_m2, zl_m3, zl_32, zl_280] at c1 ⊢); omega)]; first | done | ((try simp only [zlt, zle, zeq, zl_0, zl_1, zl_2, zl_3, zl_4, zl_5, zl_6, zl_7, zl_8, zl_9, zl_10, zl_11, zl_12, zl_13, zl_19, zl_20, zl_30, zl_64, zl_99, zl_100, zl_299, zl_300, zl_399, zl_999, zl_9999, zl_m1, zl_m2, zl_m3, zl_32, zl_280] at c1 ⊢); omega)) | (rw [if_neg (by (try simp only [zlt, zle, zeq, zl_0, zl_1, zl_2, zl_3, zl_4, zl_5, zl_6, zl_7, zl_8, zl_9, zl_10, zl_11, zl_12, zl_13, zl_19, zl_20, zl_30, zl_64, zl_99, zl_100, zl_299, zl_300, zl_399, zl_999, zl_9999, zl_m1, zl_m2, zl_m3, zl_32, zl_280] at c1 ⊢); omega)]; first | done | ((try simp only [zlt, zle, zeq, zl_0, zl_1, zl_2, zl_3, zl_4, zl_5, zl_6, zl_7, zl_8, zl_9, zl_10, zl_11, zl_12, zl_13, zl_19, zl_20, zl_30, zl_64, zl_99, zl_100, zl_299, zl_300, zl_399, zl_999, zl_9999, zl_m1, zl_m2, zl_m3, zl_32, zl_280] at c1 ⊢); omega)))) dX11_coach_77 (Nat.le_of_ble_eq_true rfl) (Nat.le_of_ble_eq_true rfl)
  · have hsw : p0 = 0 ∨ p0 = 1 ∨ p0 = 2 ∨ p0 = 3 := by simp only [zeq, zl_0, zl_1, zl_2, zl_3, zl_4, zl_5, zl_6, zl_7, zl_8, zl_9, zl_10, zl_11, zl_12, zl_13, zl_19, zl_20, zl_30, zl_64, zl_99, zl_100, zl_299, zl_300, zl_399, zl_999, zl_9999, zl_m1, zl_m2, zl_m3, zl_32, zl_280]; omega
    clear c1
    rcases hsw with rfl | rfl | rfl | rfl
    · refine lv_tableIn (off := 31) (tgt := 32) hx hb dX11_coach_1 (by decide) (by decide) rfl (by decide) ?_
      refine lv_aload_n hx hb dX11_coach_32 rfl (lv_at hl 0 rfl) ?_
      refine z_get Z i_X11 hP 0 rfl rfl 2 (by decide) bw_470 rfl dX11_coach_33 ?_
      refine z_get Z i_X10 hP 1 rfl rfl 2 (by decide) bw_240 rfl dX11_coach_36 ?_
      refine z_get Z i_X1 hP 2 rfl rfl 2 (by decide) bw_186 rfl dX11_coach_39 ?_
      exact z_ret Z rfl hP hD hS ((by first | rfl | assumption | (rw [if_pos (by (try simp only [zlt, zle, zeq, zl_0, zl_1, zl_2, zl_3, zl_4, zl_5, zl_6, zl_7, zl_8, zl_9, zl_10, zl_11, zl_12, zl_13, zl_19, zl_20, zl_30, zl_64, zl_99, zl_100, zl_299, zl_300, zl_399, zl_999, zl_9999, zl_m1, zl_m2, zl_m3, zl_32, zl_280]); omega)]; first | done | ((try simp only [zlt, zle, zeq, zl_0, zl_1, zl_2, zl_3, zl_4, zl_5, zl_6, zl_7, zl_8, zl_9, zl_10, zl_11, zl_12, zl_13, zl_19, zl_20, zl_30, zl_64, zl_99, zl_100, zl_299, zl_300, zl_399, zl_999, zl_9999, zl_m1, zl_m2, zl_m3, zl_32, zl_280]); omega)) | (rw [if_neg (by (try simp only [zlt, zle, zeq, zl_0, zl_1, zl_2, zl_3, zl_4, zl_5, zl_6, zl_7, zl_8, zl_9, zl_10, zl_11, zl_12, zl_13, zl_19, zl_20, zl_30, zl_64, zl_99, zl_100, zl_299, zl_300, zl_399, zl_999, zl_9999, zl_m1, zl_m2, zl_m3, zl_32, zl_280]); omega)]; first | done | ((try simp only [zlt, zle, zeq, zl_0, zl_1, zl_2, zl_3, zl_4, zl_5, zl_6, zl_7, zl_8, zl_9, zl_10, zl_11, zl_12, zl_13, zl_19, zl_20, zl_30, zl_64, zl_99, zl_100, zl_299, zl_300, zl_399, zl_999, zl_9999, zl_m1, zl_m2, zl_m3, zl_32, zl_280]); omega)))) dX11_coach_42 (Nat.le_of_ble_eq_true rfl) (Nat.le_of_ble_eq_true rfl)
    · refine lv_tableIn (off := 42) (tgt := 43) hx hb dX11_coach_1 (by decide) (by decide) rfl (by decide) ?_
      refine lv_aload_n hx hb dX11_coach_43 rfl (lv_at hl 0 rfl) ?_
      refine z_get Z i_X11 hP 0 rfl rfl 2 (by decide) bw_470 rfl dX11_coach_44 ?_
      refine z_get Z i_X10 hP 1 rfl rfl 2 (by decide) bw_240 rfl dX11_coach_47 ?_
      refine z_get Z i_X1 hP 2 rfl rfl 3 (by decide) bw_188 rfl dX11_coach_50 ?_
      exact z_ret Z rfl hP hD hS ((by first | rfl | assumption | (rw [if_pos (by (try simp only [zlt, zle, zeq, zl_0, zl_1, zl_2, zl_3, zl_4, zl_5, zl_6, zl_7, zl_8, zl_9, zl_10, zl_11, zl_12, zl_13, zl_19, zl_20, zl_30, zl_64, zl_99, zl_100, zl_299, zl_300, zl_399, zl_999, zl_9999, zl_m1, zl_m2, zl_m3, zl_32, zl_280]); omega)]; first | done | ((try simp only [zlt, zle, zeq, zl_0, zl_1, zl_2, zl_3, zl_4, zl_5, zl_6, zl_7, zl_8, zl_9, zl_10, zl_11, zl_12, zl_13, zl_19, zl_20, zl_30, zl_64, zl_99, zl_100, zl_299, zl_300, zl_399, zl_999, zl_9999, zl_m1, zl_m2, zl_m3, zl_32, zl_280]); omega)) | (rw [if_neg (by (try simp only [zlt, zle, zeq, zl_0, zl_1, zl_2, zl_3, zl_4, zl_5, zl_6, zl_7, zl_8, zl_9, zl_10, zl_11, zl_12, zl_13, zl_19, zl_20, zl_30, zl_64, zl_99, zl_100, zl_299, zl_300, zl_399, zl_999, zl_9999, zl_m1, zl_m2, zl_m3, zl_32, zl_280]); omega)]; first | done | ((try simp only [zlt, zle, zeq, zl_0, zl_1, zl_2, zl_3, zl_4, zl_5, zl_6, zl_7, zl_8, zl_9, zl_10, zl_11, zl_12, zl_13, zl_19, zl_20, zl_30, zl_64, zl_99, zl_100, zl_299, zl_300, zl_399, zl_999, zl_9999, zl_m1, zl_m2, zl_m3, zl_32, zl_280]); omega)))) dX11_coach_53 (Nat.le_of_ble_eq_true rfl) (Nat.le_of_ble_eq_true rfl)
    · refine lv_tableIn (off := 53) (tgt := 54) hx hb dX11_coach_1 (by decide) (by decide) rfl (by decide) ?_
      refine lv_aload_n hx hb dX11_coach_54 rfl (lv_at hl 0 rfl) ?_
      refine z_get Z i_X11 hP 0 rfl rfl 2 (by decide) bw_470 rfl dX11_coach_55 ?_
      refine z_get Z i_X10 hP 1 rfl rfl 2 (by decide) bw_240 rfl dX11_coach_58 ?_
      refine z_get Z i_X1 hP 2 rfl rfl 4 (by decide) bw_190 rfl dX11_coach_61 ?_
      exact z_ret Z rfl hP hD hS ((by first | rfl | assumption | (rw [if_pos (by (try simp only [zlt, zle, zeq, zl_0, zl_1, zl_2, zl_3, zl_4, zl_5, zl_6, zl_7, zl_8, zl_9, zl_10, zl_11, zl_12, zl_13, zl_19, zl_20, zl_30, zl_64, zl_99, zl_100, zl_299, zl_300, zl_399, zl_999, zl_9999, zl_m1, zl_m2, zl_m3, zl_32, zl_280]); omega)]; first | done | ((try simp only [zlt, zle, zeq, zl_0, zl_1, zl_2, zl_3, zl_4, zl_5, zl_6, zl_7, zl_8, zl_9, zl_10, zl_11, zl_12, zl_13, zl_19, zl_20, zl_30, zl_64, zl_99, zl_100, zl_299, zl_300, zl_399, zl_999, zl_9999, zl_m1, zl_m2, zl_m3, zl_32, zl_280]); omega)) | (rw [if_neg (by (try simp only [zlt, zle, zeq, zl_0, zl_1, zl_2, zl_3, zl_4, zl_5, zl_6, zl_7, zl_8, zl_9, zl_10, zl_11, zl_12, zl_13, zl_19, zl_20, zl_30, zl_64, zl_99, zl_100, zl_299, zl_300, zl_399, zl_999, zl_9999, zl_m1, zl_m2, zl_m3, zl_32, zl_280]); omega)]; first | done | ((try simp only [zlt, zle, zeq, zl_0, zl_1, zl_2, zl_3, zl_4, zl_5, zl_6, zl_7, zl_8, zl_9, zl_10, zl_11, zl_12, zl_13, zl_19, zl_20, zl_30, zl_64, zl_99, zl_100, zl_299, zl_300, zl_399, zl_999, zl_9999, zl_m1, zl_m2, zl_m3, zl_32, zl_280]); omega)))) dX11_coach_64 (Nat.le_of_ble_eq_true rfl) (Nat.le_of_ble_eq_true rfl)
    · refine lv_tableIn (off := 64) (tgt := 65) hx hb dX11_coach_1 (by decide) (by decide) rfl (by decide) ?_
      refine lv_aload_n hx hb dX11_coach_65 rfl (lv_at hl 0 rfl) ?_
      refine z_get Z i_X11 hP 0 rfl rfl 2 (by decide) bw_470 rfl dX11_coach_66 ?_
      refine z_get Z i_X10 hP 1 rfl rfl 2 (by decide) bw_240 rfl dX11_coach_69 ?_
      have hPc := hP.sub2 (wc := [(mA, .inr (1, [.ref iA, .int 0, .int 0, .int 0, .int 0, .int 0, .int 13]))]) [2] rfl
      have hDc := hD.sub (ws' := [(mA, .inr (1, [.ref iA, .int 0, .int 0, .int 0, .int 0, .int 0, .int 13]))]) [2] (by decide) rfl
      refine raw_Vi (ci := 1) (q0 := 0) (nA := 0) (As := []) (rest := []) Z hl.1 (c_X1_lowestInnHere l D cI cM cT mA iA) (bw_V bw_900 bw_901 bw_902 bw_86 bw_903) ⟨by decide +kernel, by decide +kernel, by decide +kernel⟩ rfl ⟨Nat.le_of_ble_eq_true rfl, Nat.le_of_ble_eq_true rfl⟩ rfl rfl rfl hPc hDc hS rfl (Nat.le_of_ble_eq_true rfl) dX11_coach_72 ⟨Nat.le_of_ble_eq_true rfl, Nat.le_of_ble_eq_true rfl⟩ (fun r3 u2 H1 locs1 h4 hku2 hP1 hD1 hS1 => ?_)
      obtain ⟨rfl, rfl⟩ := h4
      obtain ⟨hP, hD⟩ := z_join (wr := [(x, .inr (11, [.ref st, .ref dr, .ref nw, .ref kp, .ref rd, .ref tm, .ref co])), (nw, .inr (10, [.ref rO, .ref sT, .ref mA, .ref sB, .ref sA, .ref tH, .ref tF, .ref tS, .int 0, .int 0, .int (-1), .int 0, .int 0]))]) Z hS hP hD [2] [0, 1] rfl (by decide) rfl (by decide) (by decide) hku2 hP1 hD1
      have hS := hS1
      clear hS1
      generalize H1 = H at hP hS ⊢
      generalize locs1 = locs at hS ⊢
      have hP : va_P D vwCl ([(x, .inr (11, [.ref st, .ref dr, .ref nw, .ref kp, .ref rd, .ref tm, .ref co])), (nw, .inr (10, [.ref rO, .ref sT, .ref mA, .ref sB, .ref sA, .ref tH, .ref tF, .ref tS, .int 0, .int 0, .int (-1), .int 0, .int 0])), (mA, .inr (1, [.ref iA, .int 0, .int 0, .int 0, .int 0, .int 0, .int 13]))]) H := hP
      have hD : va_D A ([(x, .inr (11, [.ref st, .ref dr, .ref nw, .ref kp, .ref rd, .ref tm, .ref co])), (nw, .inr (10, [.ref rO, .ref sT, .ref mA, .ref sB, .ref sA, .ref tH, .ref tF, .ref tS, .int 0, .int 0, .int (-1), .int 0, .int 0])), (mA, .inr (1, [.ref iA, .int 0, .int 0, .int 0, .int 0, .int 0, .int 13]))]) := hD
      exact z_ret Z rfl hP hD hS ((by first | rfl | assumption | (rw [if_pos (by (try simp only [zlt, zle, zeq, zl_0, zl_1, zl_2, zl_3, zl_4, zl_5, zl_6, zl_7, zl_8, zl_9, zl_10, zl_11, zl_12, zl_13, zl_19, zl_20, zl_30, zl_64, zl_99, zl_100, zl_299, zl_300, zl_399, zl_999, zl_9999, zl_m1, zl_m2, zl_m3, zl_32, zl_280]); omega)]; first | done | ((try simp only [zlt, zle, zeq, zl_0, zl_1, zl_2, zl_3, zl_4, zl_5, zl_6, zl_7, zl_8, zl_9, zl_10, zl_11, zl_12, zl_13, zl_19, zl_20, zl_30, zl_64, zl_99, zl_100, zl_299, zl_300, zl_399, zl_999, zl_9999, zl_m1, zl_m2, zl_m3, zl_32, zl_280]); omega)) | (rw [if_neg (by (try simp only [zlt, zle, zeq, zl_0, zl_1, zl_2, zl_3, zl_4, zl_5, zl_6, zl_7, zl_8, zl_9, zl_10, zl_11, zl_12, zl_13, zl_19, zl_20, zl_30, zl_64, zl_99, zl_100, zl_299, zl_300, zl_399, zl_999, zl_9999, zl_m1, zl_m2, zl_m3, zl_32, zl_280]); omega)]; first | done | ((try simp only [zlt, zle, zeq, zl_0, zl_1, zl_2, zl_3, zl_4, zl_5, zl_6, zl_7, zl_8, zl_9, zl_10, zl_11, zl_12, zl_13, zl_19, zl_20, zl_30, zl_64, zl_99, zl_100, zl_299, zl_300, zl_399, zl_999, zl_9999, zl_m1, zl_m2, zl_m3, zl_32, zl_280]); omega)))) dX11_coach_75 (Nat.le_of_ble_eq_true rfl) (Nat.le_of_ble_eq_true rfl)
set_option maxHeartbeats 4000000 in
set_option maxRecDepth 100000 in
theorem c_X11_seen (l : Launch) (D : va_G) (cI cM cT : ClassId) (x : Nat) (st : Nat) (dr : Nat) (nw : Nat) (kp : Nat) (rd : Nat) (tm : Nat) (co : Nat) (rO : Nat) (sT : Nat) (mA : Nat) (sB : Nat) (sA : Nat) (tH : Nat) (tF : Nat) (tS : Nat) (p0 : Int32) : Ci l D (ty3 cI cM cT) yX11_seen cX11_seen 2 (some .int) 3 0 0 [.ref x, .int p0] ([(x, .inr (11, [.ref st, .ref dr, .ref nw, .ref kp, .ref rd, .ref tm, .ref co])), (nw, .inr (10, [.ref rO, .ref sT, .ref mA, .ref sB, .ref sA, .ref tH, .ref tF, .ref tS, .int 0, .int 0, .int (-1), .int 0, .int 0])), (sA, .inl (cI, 6, .inl (fun _ => 0)))]) (fun r u => r = (if p0 = (-1) then 0 else if 0 ≤ p0 ∧ p0 < 300 then 1 else (-2))) := by
  refine Ci.of (by decide +kernel) (Nat.le_of_ble_eq_true rfl) ?_
  intro p e s m below meth c A ls Z hin hP hD hl
  have hx := Z.1
  have hb := Z.2.1
  have hS : va_S A s.heap s.heap [] := va_S.rf
  have hl : lv_has ls 2 [(0, .ref x), (1, .int p0)] := hl
  skip
  refine lv_iload_n hx hb dX11_seen_0 rfl (lv_at hl 1 rfl) ?_
  refine lv_iconst (v := (-1)) hx hb dX11_seen_1 (by decide) ?_
  refine lv_icmp_ne (tgt := 15) hx hb dX11_seen_2 (by decide) (fun c1 => ?_) (fun c1 => ?_)
  · refine lv_iload_n hx hb dX11_seen_15 rfl (lv_at hl 1 rfl) ?_
    have hPc := hP.sub2 (wc := []) [] rfl
    have hDc := hD.sub (ws' := []) [] (by decide) rfl
    refine raw_Si (nA := 1) (As := [.int p0]) (rest := []) Z hl.1 (c_X11_isPlace l D cI cM cT p0) (bw_S bw_494 bw_495 bw_80 bw_496) ⟨by decide +kernel, by decide +kernel, by decide +kernel⟩ rfl ⟨Nat.le_of_ble_eq_true rfl, Nat.le_of_ble_eq_true rfl⟩ hPc hDc hS rfl (Nat.le_of_ble_eq_true rfl) dX11_seen_16 ⟨Nat.le_of_ble_eq_true rfl, Nat.le_of_ble_eq_true rfl⟩ (fun r3 u2 H1 locs1 h4 hku2 hP1 hD1 hS1 => ?_)
    obtain ⟨hrh4, rfl⟩ := h4
    obtain ⟨hP, hD⟩ := z_join (wr := [(x, .inr (11, [.ref st, .ref dr, .ref nw, .ref kp, .ref rd, .ref tm, .ref co])), (nw, .inr (10, [.ref rO, .ref sT, .ref mA, .ref sB, .ref sA, .ref tH, .ref tF, .ref tS, .int 0, .int 0, .int (-1), .int 0, .int 0])), (sA, .inl (cI, 6, .inl (fun _ => 0)))]) Z hS hP hD [] [0, 1, 2] rfl (by decide) rfl (by decide) (by decide) hku2 hP1 hD1
    have hS := hS1
    clear hS1
    generalize H1 = H at hP hS ⊢
    generalize locs1 = locs at hS ⊢
    have hP : va_P D vwCl ([(x, .inr (11, [.ref st, .ref dr, .ref nw, .ref kp, .ref rd, .ref tm, .ref co])), (nw, .inr (10, [.ref rO, .ref sT, .ref mA, .ref sB, .ref sA, .ref tH, .ref tF, .ref tS, .int 0, .int 0, .int (-1), .int 0, .int 0])), (sA, .inl (cI, 6, .inl (fun _ => 0)))]) H := hP
    have hD : va_D A ([(x, .inr (11, [.ref st, .ref dr, .ref nw, .ref kp, .ref rd, .ref tm, .ref co])), (nw, .inr (10, [.ref rO, .ref sT, .ref mA, .ref sB, .ref sA, .ref tH, .ref tF, .ref tS, .int 0, .int 0, .int (-1), .int 0, .int 0])), (sA, .inl (cI, 6, .inl (fun _ => 0)))]) := hD
    by_cases c5 : 0 ≤ p0 ∧ p0 < 300
    · obtain rfl : r3 = 1 := by rw [hrh4, if_pos c5]
      refine lv_if_eq (tgt := 34) hx hb dX11_seen_19 (by decide) (fun h => absurd h (by decide)) (fun c6 => ?_)
      refine lv_aload_n hx hb dX11_seen_22 rfl (lv_at hl 0 rfl) ?_
      refine z_get Z i_X11 hP 0 rfl rfl 2 (by decide) bw_470 rfl dX11_seen_23 ?_
      refine z_get Z i_X10 hP 1 rfl rfl 11 (by decide) bw_260 rfl dX11_seen_26 ?_
      refine lv_bipush (v := 6) hx hb dX11_seen_29 (by decide) ?_
      refine lv_icmp_lt (tgt := 37) hx hb dX11_seen_31 (by decide) (fun c7 => ?_) (fun h => absurd (by decide) h)
      refine lv_aload_n hx hb dX11_seen_37 rfl (lv_at hl 0 rfl) ?_
      refine z_get Z i_X11 hP 0 rfl rfl 2 (by decide) bw_470 rfl dX11_seen_38 ?_
      refine z_get Z i_X10 hP 1 rfl rfl 4 (by decide) bw_244 rfl dX11_seen_41 ?_
      refine lv_aload_n hx hb dX11_seen_44 rfl (lv_at hl 0 rfl) ?_
      refine z_get Z i_X11 hP 0 rfl rfl 2 (by decide) bw_470 rfl dX11_seen_45 ?_
      refine z_get Z i_X10 hP 1 rfl rfl 11 (by decide) bw_260 rfl dX11_seen_48 ?_
      refine lv_iload_n hx hb dX11_seen_51 rfl (lv_at hl 1 rfl) ?_
      refine z_iast Z hP hD hS 2 0 rfl rfl (vin (by decide)) dX11_seen_52 (fun H locs hP hD hS => ?_)
      have hP : va_P D vwCl ([(x, .inr (11, [.ref st, .ref dr, .ref nw, .ref kp, .ref rd, .ref tm, .ref co])), (nw, .inr (10, [.ref rO, .ref sT, .ref mA, .ref sB, .ref sA, .ref tH, .ref tF, .ref tS, .int 0, .int 0, .int (-1), .int 0, .int 0])), (sA, .inl (cI, 6, .inl (upd (fun _ => 0) (0 : Int32).toNatClampNeg p0)))]) H := hP
      have hD : va_D A ([(x, .inr (11, [.ref st, .ref dr, .ref nw, .ref kp, .ref rd, .ref tm, .ref co])), (nw, .inr (10, [.ref rO, .ref sT, .ref mA, .ref sB, .ref sA, .ref tH, .ref tF, .ref tS, .int 0, .int 0, .int (-1), .int 0, .int 0])), (sA, .inl (cI, 6, .inl (upd (fun _ => 0) (0 : Int32).toNatClampNeg p0)))]) := hD
      refine lv_aload_n hx hb dX11_seen_53 rfl (lv_at hl 0 rfl) ?_
      refine z_get Z i_X11 hP 0 rfl rfl 2 (by decide) bw_470 rfl dX11_seen_54 ?_
      refine lv_dup hx hb dX11_seen_57 rfl ?_
      refine z_get Z i_X10 hP 1 rfl rfl 11 (by decide) bw_260 rfl dX11_seen_58 ?_
      refine lv_iconst (v := 1) hx hb dX11_seen_61 (by decide) ?_
      refine lv_iadd hx hb dX11_seen_62 ?_
      refine z_topi (y := 1) (by decide) ?_
      refine z_put Z i_X10 tyX10 tyX10_ok nmX10 hP hD hS 1 rfl rfl 11 (by decide) bw_260 rfl rfl rfl (Nat.le_of_ble_eq_true rfl) dX11_seen_63 (fun H locs hP hD hS => ?_)
      have hP : va_P D vwCl ([(x, .inr (11, [.ref st, .ref dr, .ref nw, .ref kp, .ref rd, .ref tm, .ref co])), (nw, .inr (10, [.ref rO, .ref sT, .ref mA, .ref sB, .ref sA, .ref tH, .ref tF, .ref tS, .int 0, .int 0, .int (-1), .int 1, .int 0])), (sA, .inl (cI, 6, .inl (upd (fun _ => 0) (0 : Int32).toNatClampNeg p0)))]) H := hP
      have hD : va_D A ([(x, .inr (11, [.ref st, .ref dr, .ref nw, .ref kp, .ref rd, .ref tm, .ref co])), (nw, .inr (10, [.ref rO, .ref sT, .ref mA, .ref sB, .ref sA, .ref tH, .ref tF, .ref tS, .int 0, .int 0, .int (-1), .int 1, .int 0])), (sA, .inl (cI, 6, .inl (upd (fun _ => 0) (0 : Int32).toNatClampNeg p0)))]) := hD
      refine lv_aload_n hx hb dX11_seen_66 rfl (lv_at hl 0 rfl) ?_
      refine z_get Z i_X11 hP 0 rfl rfl 2 (by decide) bw_470 rfl dX11_seen_67 ?_
      refine z_get Z i_X10 hP 1 rfl rfl 11 (by decide) bw_260 rfl dX11_seen_70 ?_
      exact z_ret Z rfl hP hD hS ((by first | rfl | assumption | (rw [if_pos (by (try simp only [zlt, zle, zeq, zl_0, zl_1, zl_2, zl_3, zl_4, zl_5, zl_6, zl_7, zl_8, zl_9, zl_10, zl_11, zl_12, zl_13, zl_19, zl_20, zl_30, zl_64, zl_99, zl_100, zl_299, zl_300, zl_399, zl_999, zl_9999, zl_m1, zl_m2, zl_m3, zl_32, zl_280] at c1 c5 c6 c7 ⊢); omega)]; first | done | ((try simp only [zlt, zle, zeq, zl_0, zl_1, zl_2, zl_3, zl_4, zl_5, zl_6, zl_7, zl_8, zl_9, zl_10, zl_11, zl_12, zl_13, zl_19, zl_20, zl_30, zl_64, zl_99, zl_100, zl_299, zl_300, zl_399, zl_999, zl_9999, zl_m1, zl_m2, zl_m3, zl_32, zl_280] at c1 c5 c6 c7 ⊢); omega)) | (rw [if_neg (by (try simp only [zlt, zle, zeq, zl_0, zl_1, zl_2, zl_3, zl_4, zl_5, zl_6, zl_7, zl_8, zl_9, zl_10, zl_11, zl_12, zl_13, zl_19, zl_20, zl_30, zl_64, zl_99, zl_100, zl_299, zl_300, zl_399, zl_999, zl_9999, zl_m1, zl_m2, zl_m3, zl_32, zl_280] at c1 c5 c6 c7 ⊢); omega), if_pos (by (try simp only [zlt, zle, zeq, zl_0, zl_1, zl_2, zl_3, zl_4, zl_5, zl_6, zl_7, zl_8, zl_9, zl_10, zl_11, zl_12, zl_13, zl_19, zl_20, zl_30, zl_64, zl_99, zl_100, zl_299, zl_300, zl_399, zl_999, zl_9999, zl_m1, zl_m2, zl_m3, zl_32, zl_280] at c1 c5 c6 c7 ⊢); omega)]; first | done | ((try simp only [zlt, zle, zeq, zl_0, zl_1, zl_2, zl_3, zl_4, zl_5, zl_6, zl_7, zl_8, zl_9, zl_10, zl_11, zl_12, zl_13, zl_19, zl_20, zl_30, zl_64, zl_99, zl_100, zl_299, zl_300, zl_399, zl_999, zl_9999, zl_m1, zl_m2, zl_m3, zl_32, zl_280] at c1 c5 c6 c7 ⊢); omega)) | (rw [if_neg (by (try simp only [zlt, zle, zeq, zl_0, zl_1, zl_2, zl_3, zl_4, zl_5, zl_6, zl_7, zl_8, zl_9, zl_10, zl_11, zl_12, zl_13, zl_19, zl_20, zl_30, zl_64, zl_99, zl_100, zl_299, zl_300, zl_399, zl_999, zl_9999, zl_m1, zl_m2, zl_m3, zl_32, zl_280] at c1 c5 c6 c7 ⊢); omega), if_neg (by (try simp only [zlt, zle, zeq, zl_0, zl_1, zl_2, zl_3, zl_4, zl_5, zl_6, zl_7, zl_8, zl_9, zl_10, zl_11, zl_12, zl_13, zl_19, zl_20, zl_30, zl_64, zl_99, zl_100, zl_299, zl_300, zl_399, zl_999, zl_9999, zl_m1, zl_m2, zl_m3, zl_32, zl_280] at c1 c5 c6 c7 ⊢); omega)]; first | done | ((try simp only [zlt, zle, zeq, zl_0, zl_1, zl_2, zl_3, zl_4, zl_5, zl_6, zl_7, zl_8, zl_9, zl_10, zl_11, zl_12, zl_13, zl_19, zl_20, zl_30, zl_64, zl_99, zl_100, zl_299, zl_300, zl_399, zl_999, zl_9999, zl_m1, zl_m2, zl_m3, zl_32, zl_280] at c1 c5 c6 c7 ⊢); omega)))) dX11_seen_73 (Nat.le_of_ble_eq_true rfl) (Nat.le_of_ble_eq_true rfl)
    · obtain rfl : r3 = 0 := by rw [hrh4, if_neg c5]
      refine lv_if_eq (tgt := 34) hx hb dX11_seen_19 (by decide) (fun c8 => ?_) (fun h => absurd (by decide) h)
      refine lv_bipush (v := (-2)) hx hb dX11_seen_34 (by decide) ?_
      exact z_ret Z rfl hP hD hS ((by first | rfl | assumption | (rw [if_pos (by (try simp only [zlt, zle, zeq, zl_0, zl_1, zl_2, zl_3, zl_4, zl_5, zl_6, zl_7, zl_8, zl_9, zl_10, zl_11, zl_12, zl_13, zl_19, zl_20, zl_30, zl_64, zl_99, zl_100, zl_299, zl_300, zl_399, zl_999, zl_9999, zl_m1, zl_m2, zl_m3, zl_32, zl_280] at c1 c5 c8 ⊢); omega)]; first | done | ((try simp only [zlt, zle, zeq, zl_0, zl_1, zl_2, zl_3, zl_4, zl_5, zl_6, zl_7, zl_8, zl_9, zl_10, zl_11, zl_12, zl_13, zl_19, zl_20, zl_30, zl_64, zl_99, zl_100, zl_299, zl_300, zl_399, zl_999, zl_9999, zl_m1, zl_m2, zl_m3, zl_32, zl_280] at c1 c5 c8 ⊢); omega)) | (rw [if_neg (by (try simp only [zlt, zle, zeq, zl_0, zl_1, zl_2, zl_3, zl_4, zl_5, zl_6, zl_7, zl_8, zl_9, zl_10, zl_11, zl_12, zl_13, zl_19, zl_20, zl_30, zl_64, zl_99, zl_100, zl_299, zl_300, zl_399, zl_999, zl_9999, zl_m1, zl_m2, zl_m3, zl_32, zl_280] at c1 c5 c8 ⊢); omega), if_pos (by (try simp only [zlt, zle, zeq, zl_0, zl_1, zl_2, zl_3, zl_4, zl_5, zl_6, zl_7, zl_8, zl_9, zl_10, zl_11, zl_12, zl_13, zl_19, zl_20, zl_30, zl_64, zl_99, zl_100, zl_299, zl_300, zl_399, zl_999, zl_9999, zl_m1, zl_m2, zl_m3, zl_32, zl_280] at c1 c5 c8 ⊢); omega)]; first | done | ((try simp only [zlt, zle, zeq, zl_0, zl_1, zl_2, zl_3, zl_4, zl_5, zl_6, zl_7, zl_8, zl_9, zl_10, zl_11, zl_12, zl_13, zl_19, zl_20, zl_30, zl_64, zl_99, zl_100, zl_299, zl_300, zl_399, zl_999, zl_9999, zl_m1, zl_m2, zl_m3, zl_32, zl_280] at c1 c5 c8 ⊢); omega)) | (rw [if_neg (by (try simp only [zlt, zle, zeq, zl_0, zl_1, zl_2, zl_3, zl_4, zl_5, zl_6, zl_7, zl_8, zl_9, zl_10, zl_11, zl_12, zl_13, zl_19, zl_20, zl_30, zl_64, zl_99, zl_100, zl_299, zl_300, zl_399, zl_999, zl_9999, zl_m1, zl_m2, zl_m3, zl_32, zl_280] at c1 c5 c8 ⊢); omega), if_neg (by (try simp only [zlt, zle, zeq, zl_0, zl_1, zl_2, zl_3, zl_4, zl_5, zl_6, zl_7, zl_8, zl_9, zl_10, zl_11, zl_12, zl_13, zl_19, zl_20, zl_30, zl_64, zl_99, zl_100, zl_299, zl_300, zl_399, zl_999, zl_9999, zl_m1, zl_m2, zl_m3, zl_32, zl_280] at c1 c5 c8 ⊢); omega)]; first | done | ((try simp only [zlt, zle, zeq, zl_0, zl_1, zl_2, zl_3, zl_4, zl_5, zl_6, zl_7, zl_8, zl_9, zl_10, zl_11, zl_12, zl_13, zl_19, zl_20, zl_30, zl_64, zl_99, zl_100, zl_299, zl_300, zl_399, zl_999, zl_9999, zl_m1, zl_m2, zl_m3, zl_32, zl_280] at c1 c5 c8 ⊢); omega)))) dX11_seen_36 (Nat.le_of_ble_eq_true rfl) (Nat.le_of_ble_eq_true rfl)
  · refine lv_aload_n hx hb dX11_seen_5 rfl (lv_at hl 0 rfl) ?_
    refine z_get Z i_X11 hP 0 rfl rfl 2 (by decide) bw_470 rfl dX11_seen_6 ?_
    refine lv_iconst (v := 0) hx hb dX11_seen_9 (by decide) ?_
    refine z_put Z i_X10 tyX10 tyX10_ok nmX10 hP hD hS 1 rfl rfl 11 (by decide) bw_260 rfl rfl rfl (Nat.le_of_ble_eq_true rfl) dX11_seen_10 (fun H locs hP hD hS => ?_)
    have hP : va_P D vwCl ([(x, .inr (11, [.ref st, .ref dr, .ref nw, .ref kp, .ref rd, .ref tm, .ref co])), (nw, .inr (10, [.ref rO, .ref sT, .ref mA, .ref sB, .ref sA, .ref tH, .ref tF, .ref tS, .int 0, .int 0, .int (-1), .int 0, .int 0])), (sA, .inl (cI, 6, .inl (fun _ => 0)))]) H := hP
    have hD : va_D A ([(x, .inr (11, [.ref st, .ref dr, .ref nw, .ref kp, .ref rd, .ref tm, .ref co])), (nw, .inr (10, [.ref rO, .ref sT, .ref mA, .ref sB, .ref sA, .ref tH, .ref tF, .ref tS, .int 0, .int 0, .int (-1), .int 0, .int 0])), (sA, .inl (cI, 6, .inl (fun _ => 0)))]) := hD
    refine lv_iconst (v := 0) hx hb dX11_seen_13 (by decide) ?_
    exact z_ret Z rfl hP hD hS ((by first | rfl | assumption | (rw [if_pos (by (try simp only [zlt, zle, zeq, zl_0, zl_1, zl_2, zl_3, zl_4, zl_5, zl_6, zl_7, zl_8, zl_9, zl_10, zl_11, zl_12, zl_13, zl_19, zl_20, zl_30, zl_64, zl_99, zl_100, zl_299, zl_300, zl_399, zl_999, zl_9999, zl_m1, zl_m2, zl_m3, zl_32, zl_280] at c1 ⊢); omega)]; first | done | ((try simp only [zlt, zle, zeq, zl_0, zl_1, zl_2, zl_3, zl_4, zl_5, zl_6, zl_7, zl_8, zl_9, zl_10, zl_11, zl_12, zl_13, zl_19, zl_20, zl_30, zl_64, zl_99, zl_100, zl_299, zl_300, zl_399, zl_999, zl_9999, zl_m1, zl_m2, zl_m3, zl_32, zl_280] at c1 ⊢); omega)) | (rw [if_neg (by (try simp only [zlt, zle, zeq, zl_0, zl_1, zl_2, zl_3, zl_4, zl_5, zl_6, zl_7, zl_8, zl_9, zl_10, zl_11, zl_12, zl_13, zl_19, zl_20, zl_30, zl_64, zl_99, zl_100, zl_299, zl_300, zl_399, zl_999, zl_9999, zl_m1, zl_m2, zl_m3, zl_32, zl_280] at c1 ⊢); omega), if_pos (by (try simp only [zlt, zle, zeq, zl_0, zl_1, zl_2, zl_3, zl_4, zl_5, zl_6, zl_7, zl_8, zl_9, zl_10, zl_11, zl_12, zl_13, zl_19, zl_20, zl_30, zl_64, zl_99, zl_100, zl_299, zl_300, zl_399, zl_999, zl_9999, zl_m1, zl_m2, zl_m3, zl_32, zl_280] at c1 ⊢); omega)]; first | done | ((try simp only [zlt, zle, zeq, zl_0, zl_1, zl_2, zl_3, zl_4, zl_5, zl_6, zl_7, zl_8, zl_9, zl_10, zl_11, zl_12, zl_13, zl_19, zl_20, zl_30, zl_64, zl_99, zl_100, zl_299, zl_300, zl_399, zl_999, zl_9999, zl_m1, zl_m2, zl_m3, zl_32, zl_280] at c1 ⊢); omega)) | (rw [if_neg (by (try simp only [zlt, zle, zeq, zl_0, zl_1, zl_2, zl_3, zl_4, zl_5, zl_6, zl_7, zl_8, zl_9, zl_10, zl_11, zl_12, zl_13, zl_19, zl_20, zl_30, zl_64, zl_99, zl_100, zl_299, zl_300, zl_399, zl_999, zl_9999, zl_m1, zl_m2, zl_m3, zl_32, zl_280] at c1 ⊢); omega), if_neg (by (try simp only [zlt, zle, zeq, zl_0, zl_1, zl_2, zl_3, zl_4, zl_5, zl_6, zl_7, zl_8, zl_9, zl_10, zl_11, zl_12, zl_13, zl_19, zl_20, zl_30, zl_64, zl_99, zl_100, zl_299, zl_300, zl_399, zl_999, zl_9999, zl_m1, zl_m2, zl_m3, zl_32, zl_280] at c1 ⊢); omega)]; first | done | ((try simp only [zlt, zle, zeq, zl_0, zl_1, zl_2, zl_3, zl_4, zl_5, zl_6, zl_7, zl_8, zl_9, zl_10, zl_11, zl_12, zl_13, zl_19, zl_20, zl_30, zl_64, zl_99, zl_100, zl_299, zl_300, zl_399, zl_999, zl_9999, zl_m1, zl_m2, zl_m3, zl_32, zl_280] at c1 ⊢); omega)))) dX11_seen_14 (Nat.le_of_ble_eq_true rfl) (Nat.le_of_ble_eq_true rfl)
set_option maxHeartbeats 4000000 in
set_option maxRecDepth 100000 in
theorem c_X11_tried (l : Launch) (D : va_G) (cI cM cT : ClassId) (x : Nat) (st : Nat) (dr : Nat) (nw : Nat) (kp : Nat) (rd : Nat) (tm : Nat) (co : Nat) (rO : Nat) (sT : Nat) (mA : Nat) (sB : Nat) (sA : Nat) (tH : Nat) (tF : Nat) (tS : Nat) (cO : Nat) (sH : Nat) (p0 : Int32) (p1 : Int32) (p2 : Int32) : Ci l D (ty3 cI cM cT) yX11_tried cX11_tried 4 (some .int) 3 0 0 [.ref x, .int p0, .int p1, .int p2] ([(x, .inr (11, [.ref st, .ref dr, .ref nw, .ref kp, .ref rd, .ref tm, .ref co])), (nw, .inr (10, [.ref rO, .ref sT, .ref mA, .ref sB, .ref sA, .ref tH, .ref tF, .ref tS, .int 0, .int 0, .int (-1), .int 0, .int 0])), (sT, .inr (4, [.ref cO, .ref sH, .int 0]))]) (fun r u => r = (if p0 = (-1) then 0 else (-2))) := by
  refine Ci.of (by decide +kernel) (Nat.le_of_ble_eq_true rfl) ?_
  intro p e s m below meth c A ls Z hin hP hD hl
  have hx := Z.1
  have hb := Z.2.1
  have hS : va_S A s.heap s.heap [] := va_S.rf
  have hl : lv_has ls 4 [(0, .ref x), (1, .int p0), (2, .int p1), (3, .int p2)] := hl
  skip
  refine lv_iload_n hx hb dX11_tried_0 rfl (lv_at hl 1 rfl) ?_
  refine lv_iconst (v := (-1)) hx hb dX11_tried_1 (by decide) ?_
  refine lv_icmp_ne (tgt := 15) hx hb dX11_tried_2 (by decide) (fun c1 => ?_) (fun c1 => ?_)
  · refine lv_aload_n hx hb dX11_tried_15 rfl (lv_at hl 0 rfl) ?_
    refine lv_iload_n hx hb dX11_tried_16 rfl (lv_at hl 1 rfl) ?_
    have hPc := hP.sub2 (wc := [(x, .inr (11, [.ref st, .ref dr, .ref nw, .ref kp, .ref rd, .ref tm, .ref co])), (nw, .inr (10, [.ref rO, .ref sT, .ref mA, .ref sB, .ref sA, .ref tH, .ref tF, .ref tS, .int 0, .int 0, .int (-1), .int 0, .int 0])), (sT, .inr (4, [.ref cO, .ref sH, .int 0]))]) [0, 1, 2] rfl
    have hDc := hD.sub (ws' := [(x, .inr (11, [.ref st, .ref dr, .ref nw, .ref kp, .ref rd, .ref tm, .ref co])), (nw, .inr (10, [.ref rO, .ref sT, .ref mA, .ref sB, .ref sA, .ref tH, .ref tF, .ref tS, .int 0, .int 0, .int (-1), .int 0, .int 0])), (sT, .inr (4, [.ref cO, .ref sH, .int 0]))]) [0, 1, 2] (by decide) rfl
    refine raw_Vi (ci := 11) (q0 := 0) (nA := 1) (As := [.int p0]) (rest := []) Z hl.1 (c_X11_isHorse l D cI cM cT x st dr nw kp rd tm co rO sT mA sB sA tH tF tS cO sH p0) (bw_V bw_803 bw_805 bw_21 bw_80 bw_806) ⟨by decide +kernel, by decide +kernel, by decide +kernel⟩ rfl ⟨Nat.le_of_ble_eq_true rfl, Nat.le_of_ble_eq_true rfl⟩ rfl rfl rfl hPc hDc hS rfl (Nat.le_of_ble_eq_true rfl) dX11_tried_17 ⟨Nat.le_of_ble_eq_true rfl, Nat.le_of_ble_eq_true rfl⟩ (fun r3 u2 H1 locs1 h4 hku2 hP1 hD1 hS1 => ?_)
    obtain ⟨rfl, rfl⟩ := h4
    obtain ⟨hP, hD⟩ := z_join (wr := []) Z hS hP hD [0, 1, 2] [] rfl (by decide) rfl (by decide) (by decide) hku2 hP1 hD1
    have hS := hS1
    clear hS1
    generalize H1 = H at hP hS ⊢
    generalize locs1 = locs at hS ⊢
    have hP : va_P D vwCl ([(x, .inr (11, [.ref st, .ref dr, .ref nw, .ref kp, .ref rd, .ref tm, .ref co])), (nw, .inr (10, [.ref rO, .ref sT, .ref mA, .ref sB, .ref sA, .ref tH, .ref tF, .ref tS, .int 0, .int 0, .int (-1), .int 0, .int 0])), (sT, .inr (4, [.ref cO, .ref sH, .int 0]))]) H := hP
    have hD : va_D A ([(x, .inr (11, [.ref st, .ref dr, .ref nw, .ref kp, .ref rd, .ref tm, .ref co])), (nw, .inr (10, [.ref rO, .ref sT, .ref mA, .ref sB, .ref sA, .ref tH, .ref tF, .ref tS, .int 0, .int 0, .int (-1), .int 0, .int 0])), (sT, .inr (4, [.ref cO, .ref sH, .int 0]))]) := hD
    refine lv_if_eq (tgt := 49) hx hb dX11_tried_20 (by decide) (fun c5 => ?_) (fun h => absurd (by decide) h)
    refine lv_bipush (v := (-2)) hx hb dX11_tried_49 (by decide) ?_
    exact z_ret Z rfl hP hD hS ((by first | rfl | assumption | (rw [if_pos (by (try simp only [zlt, zle, zeq, zl_0, zl_1, zl_2, zl_3, zl_4, zl_5, zl_6, zl_7, zl_8, zl_9, zl_10, zl_11, zl_12, zl_13, zl_19, zl_20, zl_30, zl_64, zl_99, zl_100, zl_299, zl_300, zl_399, zl_999, zl_9999, zl_m1, zl_m2, zl_m3, zl_32, zl_280] at c1 c5 ⊢); omega)]; first | done | ((try simp only [zlt, zle, zeq, zl_0, zl_1, zl_2, zl_3, zl_4, zl_5, zl_6, zl_7, zl_8, zl_9, zl_10, zl_11, zl_12, zl_13, zl_19, zl_20, zl_30, zl_64, zl_99, zl_100, zl_299, zl_300, zl_399, zl_999, zl_9999, zl_m1, zl_m2, zl_m3, zl_32, zl_280] at c1 c5 ⊢); omega)) | (rw [if_neg (by (try simp only [zlt, zle, zeq, zl_0, zl_1, zl_2, zl_3, zl_4, zl_5, zl_6, zl_7, zl_8, zl_9, zl_10, zl_11, zl_12, zl_13, zl_19, zl_20, zl_30, zl_64, zl_99, zl_100, zl_299, zl_300, zl_399, zl_999, zl_9999, zl_m1, zl_m2, zl_m3, zl_32, zl_280] at c1 c5 ⊢); omega)]; first | done | ((try simp only [zlt, zle, zeq, zl_0, zl_1, zl_2, zl_3, zl_4, zl_5, zl_6, zl_7, zl_8, zl_9, zl_10, zl_11, zl_12, zl_13, zl_19, zl_20, zl_30, zl_64, zl_99, zl_100, zl_299, zl_300, zl_399, zl_999, zl_9999, zl_m1, zl_m2, zl_m3, zl_32, zl_280] at c1 c5 ⊢); omega)))) dX11_tried_51 (Nat.le_of_ble_eq_true rfl) (Nat.le_of_ble_eq_true rfl)
  · refine lv_aload_n hx hb dX11_tried_5 rfl (lv_at hl 0 rfl) ?_
    refine z_get Z i_X11 hP 0 rfl rfl 2 (by decide) bw_470 rfl dX11_tried_6 ?_
    refine lv_iconst (v := 0) hx hb dX11_tried_9 (by decide) ?_
    refine z_put Z i_X10 tyX10 tyX10_ok nmX10 hP hD hS 1 rfl rfl 12 (by decide) bw_262 rfl rfl rfl (Nat.le_of_ble_eq_true rfl) dX11_tried_10 (fun H locs hP hD hS => ?_)
    have hP : va_P D vwCl ([(x, .inr (11, [.ref st, .ref dr, .ref nw, .ref kp, .ref rd, .ref tm, .ref co])), (nw, .inr (10, [.ref rO, .ref sT, .ref mA, .ref sB, .ref sA, .ref tH, .ref tF, .ref tS, .int 0, .int 0, .int (-1), .int 0, .int 0])), (sT, .inr (4, [.ref cO, .ref sH, .int 0]))]) H := hP
    have hD : va_D A ([(x, .inr (11, [.ref st, .ref dr, .ref nw, .ref kp, .ref rd, .ref tm, .ref co])), (nw, .inr (10, [.ref rO, .ref sT, .ref mA, .ref sB, .ref sA, .ref tH, .ref tF, .ref tS, .int 0, .int 0, .int (-1), .int 0, .int 0])), (sT, .inr (4, [.ref cO, .ref sH, .int 0]))]) := hD
    refine lv_iconst (v := 0) hx hb dX11_tried_13 (by decide) ?_
    exact z_ret Z rfl hP hD hS ((by first | rfl | assumption | (rw [if_pos (by (try simp only [zlt, zle, zeq, zl_0, zl_1, zl_2, zl_3, zl_4, zl_5, zl_6, zl_7, zl_8, zl_9, zl_10, zl_11, zl_12, zl_13, zl_19, zl_20, zl_30, zl_64, zl_99, zl_100, zl_299, zl_300, zl_399, zl_999, zl_9999, zl_m1, zl_m2, zl_m3, zl_32, zl_280] at c1 ⊢); omega)]; first | done | ((try simp only [zlt, zle, zeq, zl_0, zl_1, zl_2, zl_3, zl_4, zl_5, zl_6, zl_7, zl_8, zl_9, zl_10, zl_11, zl_12, zl_13, zl_19, zl_20, zl_30, zl_64, zl_99, zl_100, zl_299, zl_300, zl_399, zl_999, zl_9999, zl_m1, zl_m2, zl_m3, zl_32, zl_280] at c1 ⊢); omega)) | (rw [if_neg (by (try simp only [zlt, zle, zeq, zl_0, zl_1, zl_2, zl_3, zl_4, zl_5, zl_6, zl_7, zl_8, zl_9, zl_10, zl_11, zl_12, zl_13, zl_19, zl_20, zl_30, zl_64, zl_99, zl_100, zl_299, zl_300, zl_399, zl_999, zl_9999, zl_m1, zl_m2, zl_m3, zl_32, zl_280] at c1 ⊢); omega)]; first | done | ((try simp only [zlt, zle, zeq, zl_0, zl_1, zl_2, zl_3, zl_4, zl_5, zl_6, zl_7, zl_8, zl_9, zl_10, zl_11, zl_12, zl_13, zl_19, zl_20, zl_30, zl_64, zl_99, zl_100, zl_299, zl_300, zl_399, zl_999, zl_9999, zl_m1, zl_m2, zl_m3, zl_32, zl_280] at c1 ⊢); omega)))) dX11_tried_14 (Nat.le_of_ble_eq_true rfl) (Nat.le_of_ble_eq_true rfl)
set_option maxHeartbeats 4000000 in
set_option maxRecDepth 100000 in
theorem c_X11_taught (l : Launch) (D : va_G) (cI cM cT : ClassId) (x : Nat) (st : Nat) (dr : Nat) (nw : Nat) (kp : Nat) (rd : Nat) (tm : Nat) (co : Nat) (rO : Nat) (sT : Nat) (mA : Nat) (sB : Nat) (sA : Nat) (tH : Nat) (tF : Nat) (tS : Nat) : Ci l D (ty3 cI cM cT) yX11_taught cX11_taught 3 (some .int) 3 0 0 [.ref x] ([(x, .inr (11, [.ref st, .ref dr, .ref nw, .ref kp, .ref rd, .ref tm, .ref co])), (nw, .inr (10, [.ref rO, .ref sT, .ref mA, .ref sB, .ref sA, .ref tH, .ref tF, .ref tS, .int 0, .int 0, .int (-1), .int 0, .int 0]))]) (fun r u => r = 0) := by
  refine Ci.of (by decide +kernel) (Nat.le_of_ble_eq_true rfl) ?_
  intro p e s m below meth c A ls Z hin hP hD hl
  have hx := Z.1
  have hb := Z.2.1
  have hS : va_S A s.heap s.heap [] := va_S.rf
  have hl : lv_has ls 3 [(0, .ref x)] := hl
  skip
  refine lv_iconst (v := 0) hx hb dX11_taught_0 (by decide) ?_
  refine lv_istore_n (lv' := [(1, .int 0), (0, .ref x)]) hx hb dX11_taught_1 rfl hl (by decide) rfl (fun ls hl => ?_)
  refine lv_iconst (v := 0) hx hb dX11_taught_2 (by decide) ?_
  refine lv_istore_n (lv' := [(2, .int 0), (1, .int 0), (0, .ref x)]) hx hb dX11_taught_3 rfl hl (by decide) rfl (fun ls hl => ?_)
  refine lv_iload_n hx hb dX11_taught_4 rfl (lv_at hl 0 rfl) ?_
  refine lv_aload_n hx hb dX11_taught_5 rfl (lv_at hl 2 rfl) ?_
  refine z_get Z i_X11 hP 0 rfl rfl 2 (by decide) bw_470 rfl dX11_taught_6 ?_
  refine z_get Z i_X10 hP 1 rfl rfl 9 (by decide) bw_255 rfl dX11_taught_9 ?_
  refine lv_icmp_ge (tgt := 43) hx hb dX11_taught_12 (by decide) (fun c1 => ?_) (fun h => absurd (by decide) h)
  refine lv_iload_n hx hb dX11_taught_43 rfl (lv_at hl 1 rfl) ?_
  exact z_ret Z rfl hP hD hS ((by first | rfl | assumption)) dX11_taught_44 (Nat.le_of_ble_eq_true rfl) (Nat.le_of_ble_eq_true rfl)
set_option maxHeartbeats 4000000 in
set_option maxRecDepth 100000 in
theorem c_X11_never (l : Launch) (D : va_G) (cI cM cT : ClassId) (x : Nat) (st : Nat) (dr : Nat) (nw : Nat) (kp : Nat) (rd : Nat) (tm : Nat) (co : Nat) (rO : Nat) (sT : Nat) (mA : Nat) (sB : Nat) (sA : Nat) (tH : Nat) (tF : Nat) (tS : Nat) (iA : Nat) : Ci l D (ty3 cI cM cT) yX11_never cX11_never 3 (some .int) 3 0 0 [.ref x] ([(x, .inr (11, [.ref st, .ref dr, .ref nw, .ref kp, .ref rd, .ref tm, .ref co])), (nw, .inr (10, [.ref rO, .ref sT, .ref mA, .ref sB, .ref sA, .ref tH, .ref tF, .ref tS, .int 0, .int 0, .int (-1), .int 0, .int 0])), (mA, .inr (1, [.ref iA, .int 0, .int 0, .int 0, .int 0, .int 0, .int 13]))]) (fun r u => r = 0) := by
  refine Ci.of (by decide +kernel) (Nat.le_of_ble_eq_true rfl) ?_
  intro p e s m below meth c A ls Z hin hP hD hl
  have hx := Z.1
  have hb := Z.2.1
  have hS : va_S A s.heap s.heap [] := va_S.rf
  have hl : lv_has ls 3 [(0, .ref x)] := hl
  skip
  refine lv_iconst (v := 0) hx hb dX11_never_0 (by decide) ?_
  refine lv_istore_n (lv' := [(1, .int 0), (0, .ref x)]) hx hb dX11_never_1 rfl hl (by decide) rfl (fun ls hl => ?_)
  refine lv_iconst (v := 0) hx hb dX11_never_2 (by decide) ?_
  refine lv_istore_n (lv' := [(2, .int 0), (1, .int 0), (0, .ref x)]) hx hb dX11_never_3 rfl hl (by decide) rfl (fun ls hl => ?_)
  refine lv_iload_n hx hb dX11_never_4 rfl (lv_at hl 0 rfl) ?_
  refine lv_aload_n hx hb dX11_never_5 rfl (lv_at hl 2 rfl) ?_
  refine z_get Z i_X11 hP 0 rfl rfl 2 (by decide) bw_470 rfl dX11_never_6 ?_
  refine z_get Z i_X10 hP 1 rfl rfl 2 (by decide) bw_240 rfl dX11_never_9 ?_
  refine z_get Z i_X1 hP 2 rfl rfl 1 (by decide) bw_184 rfl dX11_never_12 ?_
  refine lv_icmp_ge (tgt := 49) hx hb dX11_never_15 (by decide) (fun c1 => ?_) (fun h => absurd (by decide) h)
  refine lv_iload_n hx hb dX11_never_49 rfl (lv_at hl 1 rfl) ?_
  exact z_ret Z rfl hP hD hS ((by first | rfl | assumption)) dX11_never_50 (Nat.le_of_ble_eq_true rfl) (Nat.le_of_ble_eq_true rfl)
set_option maxHeartbeats 4000000 in
set_option maxRecDepth 100000 in
theorem c_X5_takeBack (l : Launch) (D : va_G) (cI cM cT : ClassId) (sB : Nat) (rG : Nat) (mA : Nat) (iA : Nat) : Ci l D (ty3 cI cM cT) yX5_takeBack cX5_takeBack 2 (some .boolean) 1 0 0 [.ref sB, .ref mA] ([(sB, .inr (5, [.ref rG, .int 0, .int 0])), (mA, .inr (1, [.ref iA, .int 0, .int 0, .int 0, .int 0, .int 0, .int 13]))]) (fun r u => r = 0 ∧ u = [(sB, .inr (5, [.ref rG, .int 0, .int 0])), (mA, .inr (1, [.ref iA, .int 0, .int 0, .int 0, .int 0, .int 0, .int 13]))]) := by
  refine Ci.of (by decide +kernel) (Nat.le_of_ble_eq_true rfl) ?_
  intro p e s m below meth c A ls Z hin hP hD hl
  have hx := Z.1
  have hb := Z.2.1
  have hS : va_S A s.heap s.heap [] := va_S.rf
  have hl : lv_has ls 2 [(0, .ref sB), (1, .ref mA)] := hl
  skip
  refine lv_aload_n hx hb dX5_takeBack_0 rfl (lv_at hl 0 rfl) ?_
  refine z_get Z i_X5 hP 0 rfl rfl 2 (by decide) bw_222 rfl dX5_takeBack_1 ?_
  refine lv_if_ne (tgt := 9) hx hb dX5_takeBack_4 (by decide) (fun h => absurd (by decide) h) (fun c1 => ?_)
  refine lv_iconst (v := 0) hx hb dX5_takeBack_7 (by decide) ?_
  exact z_ret Z rfl hP hD hS (⟨rfl, rfl⟩) dX5_takeBack_8 (Nat.le_of_ble_eq_true rfl) (Nat.le_of_ble_eq_true rfl)
set_option maxHeartbeats 4000000 in
set_option maxRecDepth 100000 in
theorem c_X11_undo (l : Launch) (D : va_G) (cI cM cT : ClassId) (x : Nat) (st : Nat) (dr : Nat) (nw : Nat) (kp : Nat) (rd : Nat) (tm : Nat) (co : Nat) (rO : Nat) (sT : Nat) (mA : Nat) (sB : Nat) (sA : Nat) (tH : Nat) (tF : Nat) (tS : Nat) (rG : Nat) (iA : Nat) : Ci l D (ty3 cI cM cT) yX11_undo cX11_undo 1 (some .int) 3 0 0 [.ref x] ([(x, .inr (11, [.ref st, .ref dr, .ref nw, .ref kp, .ref rd, .ref tm, .ref co])), (nw, .inr (10, [.ref rO, .ref sT, .ref mA, .ref sB, .ref sA, .ref tH, .ref tF, .ref tS, .int 0, .int 0, .int (-1), .int 0, .int 0])), (sB, .inr (5, [.ref rG, .int 0, .int 0])), (mA, .inr (1, [.ref iA, .int 0, .int 0, .int 0, .int 0, .int 0, .int 13]))]) (fun r u => r = (-1)) := by
  refine Ci.of (by decide +kernel) (Nat.le_of_ble_eq_true rfl) ?_
  intro p e s m below meth c A ls Z hin hP hD hl
  have hx := Z.1
  have hb := Z.2.1
  have hS : va_S A s.heap s.heap [] := va_S.rf
  have hl : lv_has ls 1 [(0, .ref x)] := hl
  skip
  refine lv_aload_n hx hb dX11_undo_0 rfl (lv_at hl 0 rfl) ?_
  refine z_get Z i_X11 hP 0 rfl rfl 2 (by decide) bw_470 rfl dX11_undo_1 ?_
  refine z_get Z i_X10 hP 1 rfl rfl 3 (by decide) bw_242 rfl dX11_undo_4 ?_
  refine lv_aload_n hx hb dX11_undo_7 rfl (lv_at hl 0 rfl) ?_
  refine z_get Z i_X11 hP 0 rfl rfl 2 (by decide) bw_470 rfl dX11_undo_8 ?_
  refine z_get Z i_X10 hP 1 rfl rfl 2 (by decide) bw_240 rfl dX11_undo_11 ?_
  have hPc := hP.sub2 (wc := [(sB, .inr (5, [.ref rG, .int 0, .int 0])), (mA, .inr (1, [.ref iA, .int 0, .int 0, .int 0, .int 0, .int 0, .int 13]))]) [2, 3] rfl
  have hDc := hD.sub (ws' := [(sB, .inr (5, [.ref rG, .int 0, .int 0])), (mA, .inr (1, [.ref iA, .int 0, .int 0, .int 0, .int 0, .int 0, .int 13]))]) [2, 3] (by decide) rfl
  refine raw_Vi (ci := 5) (q0 := 0) (nA := 1) (As := [.ref mA]) (rest := []) Z hl.1 (c_X5_takeBack l D cI cM cT sB rG mA iA) (bw_V bw_892 bw_893 bw_894 bw_87 bw_895) ⟨by decide +kernel, by decide +kernel, by decide +kernel⟩ rfl ⟨Nat.le_of_ble_eq_true rfl, Nat.le_of_ble_eq_true rfl⟩ rfl rfl rfl hPc hDc hS rfl (Nat.le_of_ble_eq_true rfl) dX11_undo_14 ⟨Nat.le_of_ble_eq_true rfl, Nat.le_of_ble_eq_true rfl⟩ (fun r2 u1 H1 locs1 h3 hku1 hP1 hD1 hS1 => ?_)
  obtain ⟨rfl, rfl⟩ := h3
  obtain ⟨hP, hD⟩ := z_join (wr := [(x, .inr (11, [.ref st, .ref dr, .ref nw, .ref kp, .ref rd, .ref tm, .ref co])), (nw, .inr (10, [.ref rO, .ref sT, .ref mA, .ref sB, .ref sA, .ref tH, .ref tF, .ref tS, .int 0, .int 0, .int (-1), .int 0, .int 0]))]) Z hS hP hD [2, 3] [0, 1] rfl (by decide) rfl (by decide) (by decide) hku1 hP1 hD1
  have hS := hS1
  clear hS1
  generalize H1 = H at hP hS ⊢
  generalize locs1 = locs at hS ⊢
  have hP : va_P D vwCl ([(x, .inr (11, [.ref st, .ref dr, .ref nw, .ref kp, .ref rd, .ref tm, .ref co])), (nw, .inr (10, [.ref rO, .ref sT, .ref mA, .ref sB, .ref sA, .ref tH, .ref tF, .ref tS, .int 0, .int 0, .int (-1), .int 0, .int 0])), (sB, .inr (5, [.ref rG, .int 0, .int 0])), (mA, .inr (1, [.ref iA, .int 0, .int 0, .int 0, .int 0, .int 0, .int 13]))]) H := hP
  have hD : va_D A ([(x, .inr (11, [.ref st, .ref dr, .ref nw, .ref kp, .ref rd, .ref tm, .ref co])), (nw, .inr (10, [.ref rO, .ref sT, .ref mA, .ref sB, .ref sA, .ref tH, .ref tF, .ref tS, .int 0, .int 0, .int (-1), .int 0, .int 0])), (sB, .inr (5, [.ref rG, .int 0, .int 0])), (mA, .inr (1, [.ref iA, .int 0, .int 0, .int 0, .int 0, .int 0, .int 13]))]) := hD
  refine lv_if_ne (tgt := 22) hx hb dX11_undo_17 (by decide) (fun h => absurd (by decide) h) (fun c4 => ?_)
  refine lv_iconst (v := (-1)) hx hb dX11_undo_20 (by decide) ?_
  exact z_ret Z rfl hP hD hS ((by first | rfl | assumption)) dX11_undo_21 (Nat.le_of_ble_eq_true rfl) (Nat.le_of_ble_eq_true rfl)
set_option maxHeartbeats 4000000 in
set_option maxRecDepth 100000 in
theorem c_X11_ordersFrom (l : Launch) (D : va_G) (cI cM cT : ClassId) (x : Nat) (st : Nat) (dr : Nat) (nw : Nat) (kp : Nat) (rd : Nat) (tm : Nat) (co : Nat) (rO : Nat) (sT : Nat) (mA : Nat) (sB : Nat) (sA : Nat) (tH : Nat) (tF : Nat) (tS : Nat) (p0 : Int32) : Ci l D (ty3 cI cM cT) yX11_ordersFrom cX11_ordersFrom 7 (some .int) 1 0 0 [.ref x, .int p0, .int 0, .int 0] ([(x, .inr (11, [.ref st, .ref dr, .ref nw, .ref kp, .ref rd, .ref tm, .ref co])), (nw, .inr (10, [.ref rO, .ref sT, .ref mA, .ref sB, .ref sA, .ref tH, .ref tF, .ref tS, .int 0, .int 0, .int (-1), .int 0, .int 0]))]) (fun r u => r = 1 ∧ u = [(x, .inr (11, [.ref st, .ref dr, .ref nw, .ref kp, .ref rd, .ref tm, .ref co])), (nw, .inr (10, [.ref rO, .ref sT, .ref mA, .ref sB, .ref sA, .ref tH, .ref tF, .ref tS, .int 0, .int 0, .int (-1), .int 0, .int 0]))]) := by
  refine Ci.of (by decide +kernel) (Nat.le_of_ble_eq_true rfl) ?_
  intro p e s m below meth c A ls Z hin hP hD hl
  have hx := Z.1
  have hb := Z.2.1
  have hS : va_S A s.heap s.heap [] := va_S.rf
  have hl : lv_has ls 7 [(0, .ref x), (1, .int p0), (2, .int 0), (3, .int 0)] := hl
  skip
  refine lv_iload_n hx hb dX11_ordersFrom_0 rfl (lv_at hl 2 rfl) ?_
  refine lv_aload_n hx hb dX11_ordersFrom_1 rfl (lv_at hl 0 rfl) ?_
  refine z_get Z i_X11 hP 0 rfl rfl 2 (by decide) bw_470 rfl dX11_ordersFrom_2 ?_
  refine z_get Z i_X10 hP 1 rfl rfl 11 (by decide) bw_260 rfl dX11_ordersFrom_5 ?_
  refine lv_icmp_lt (tgt := 13) hx hb dX11_ordersFrom_8 (by decide) (fun h => absurd h (by decide)) (fun c1 => ?_)
  refine lv_iconst (v := 1) hx hb dX11_ordersFrom_11 (by decide) ?_
  exact z_ret Z rfl hP hD hS (⟨rfl, rfl⟩) dX11_ordersFrom_12 (Nat.le_of_ble_eq_true rfl) (Nat.le_of_ble_eq_true rfl)
set_option maxHeartbeats 4000000 in
set_option maxRecDepth 100000 in
theorem c_X11_who (l : Launch) (D : va_G) (cI cM cT : ClassId) (x : Nat) (st : Nat) (dr : Nat) (nw : Nat) (kp : Nat) (rd : Nat) (tm : Nat) (co : Nat) (rO : Nat) (sT : Nat) (mA : Nat) (sB : Nat) (sA : Nat) (tH : Nat) (tF : Nat) (tS : Nat) (p0 : Int32) (p1 : Int32) : Ci l D (ty3 cI cM cT) yX11_who cX11_who 6 (some .int) 3 0 0 [.ref x, .int p0, .int p1] ([(x, .inr (11, [.ref st, .ref dr, .ref nw, .ref kp, .ref rd, .ref tm, .ref co])), (nw, .inr (10, [.ref rO, .ref sT, .ref mA, .ref sB, .ref sA, .ref tH, .ref tF, .ref tS, .int 0, .int 0, .int (-1), .int 0, .int 0]))]) (fun r u => r = (if (0 ≤ p0 ∧ p0 < 300) ∧ p1 = (-1) then 1 else (-2))) := by
  refine Ci.of (by decide +kernel) (Nat.le_of_ble_eq_true rfl) ?_
  intro p e s m below meth c A ls Z hin hP hD hl
  have hx := Z.1
  have hb := Z.2.1
  have hS : va_S A s.heap s.heap [] := va_S.rf
  have hl : lv_has ls 6 [(0, .ref x), (1, .int p0), (2, .int p1)] := hl
  skip
  refine lv_iload_n hx hb dX11_who_0 rfl (lv_at hl 1 rfl) ?_
  have hPc := hP.sub2 (wc := []) [] rfl
  have hDc := hD.sub (ws' := []) [] (by decide) rfl
  refine raw_Si (nA := 1) (As := [.int p0]) (rest := []) Z hl.1 (c_X11_isPlace l D cI cM cT p0) (bw_S bw_494 bw_495 bw_80 bw_496) ⟨by decide +kernel, by decide +kernel, by decide +kernel⟩ rfl ⟨Nat.le_of_ble_eq_true rfl, Nat.le_of_ble_eq_true rfl⟩ hPc hDc hS rfl (Nat.le_of_ble_eq_true rfl) dX11_who_1 ⟨Nat.le_of_ble_eq_true rfl, Nat.le_of_ble_eq_true rfl⟩ (fun r2 u1 H1 locs1 h3 hku1 hP1 hD1 hS1 => ?_)
  obtain ⟨hrh3, rfl⟩ := h3
  obtain ⟨hP, hD⟩ := z_join (wr := [(x, .inr (11, [.ref st, .ref dr, .ref nw, .ref kp, .ref rd, .ref tm, .ref co])), (nw, .inr (10, [.ref rO, .ref sT, .ref mA, .ref sB, .ref sA, .ref tH, .ref tF, .ref tS, .int 0, .int 0, .int (-1), .int 0, .int 0]))]) Z hS hP hD [] [0, 1] rfl (by decide) rfl (by decide) (by decide) hku1 hP1 hD1
  have hS := hS1
  clear hS1
  generalize H1 = H at hP hS ⊢
  generalize locs1 = locs at hS ⊢
  have hP : va_P D vwCl ([(x, .inr (11, [.ref st, .ref dr, .ref nw, .ref kp, .ref rd, .ref tm, .ref co])), (nw, .inr (10, [.ref rO, .ref sT, .ref mA, .ref sB, .ref sA, .ref tH, .ref tF, .ref tS, .int 0, .int 0, .int (-1), .int 0, .int 0]))]) H := hP
  have hD : va_D A ([(x, .inr (11, [.ref st, .ref dr, .ref nw, .ref kp, .ref rd, .ref tm, .ref co])), (nw, .inr (10, [.ref rO, .ref sT, .ref mA, .ref sB, .ref sA, .ref tH, .ref tF, .ref tS, .int 0, .int 0, .int (-1), .int 0, .int 0]))]) := hD
  by_cases c4 : 0 ≤ p0 ∧ p0 < 300
  · obtain rfl : r2 = 1 := by rw [hrh3, if_pos c4]
    refine lv_if_eq (tgt := 24) hx hb dX11_who_4 (by decide) (fun h => absurd h (by decide)) (fun c5 => ?_)
    refine lv_iload_n hx hb dX11_who_7 rfl (lv_at hl 2 rfl) ?_
    refine lv_iconst (v := (-1)) hx hb dX11_who_8 (by decide) ?_
    refine lv_aload_n hx hb dX11_who_9 rfl (lv_at hl 0 rfl) ?_
    refine z_get Z i_X11 hP 0 rfl rfl 2 (by decide) bw_470 rfl dX11_who_10 ?_
    refine z_get Z i_X10 hP 1 rfl rfl 11 (by decide) bw_260 rfl dX11_who_13 ?_
    refine lv_iconst (v := 1) hx hb dX11_who_16 (by decide) ?_
    refine lv_isub hx hb dX11_who_17 ?_
    refine z_topi (y := (-1)) (by decide) ?_
    have hPc := hP.sub2 (wc := []) [] rfl
    have hDc := hD.sub (ws' := []) [] (by decide) rfl
    refine raw_Si (nA := 3) (As := [.int p1, .int (-1), .int (-1)]) (rest := []) Z hl.1 (c_X11_isWithin l D cI cM cT p1 (-1) (-1)) (bw_S bw_497 bw_498 bw_80 bw_499) ⟨by decide +kernel, by decide +kernel, by decide +kernel⟩ rfl ⟨Nat.le_of_ble_eq_true rfl, Nat.le_of_ble_eq_true rfl⟩ hPc hDc hS rfl (Nat.le_of_ble_eq_true rfl) dX11_who_18 ⟨Nat.le_of_ble_eq_true rfl, Nat.le_of_ble_eq_true rfl⟩ (fun r7 u6 H1 locs1 h8 hku6 hP1 hD1 hS1 => ?_)
    obtain ⟨hrh8, rfl⟩ := h8
    obtain ⟨hP, hD⟩ := z_join (wr := [(x, .inr (11, [.ref st, .ref dr, .ref nw, .ref kp, .ref rd, .ref tm, .ref co])), (nw, .inr (10, [.ref rO, .ref sT, .ref mA, .ref sB, .ref sA, .ref tH, .ref tF, .ref tS, .int 0, .int 0, .int (-1), .int 0, .int 0]))]) Z hS hP hD [] [0, 1] rfl (by decide) rfl (by decide) (by decide) hku6 hP1 hD1
    have hS := hS1
    clear hS1
    generalize H1 = H at hP hS ⊢
    generalize locs1 = locs at hS ⊢
    have hP : va_P D vwCl ([(x, .inr (11, [.ref st, .ref dr, .ref nw, .ref kp, .ref rd, .ref tm, .ref co])), (nw, .inr (10, [.ref rO, .ref sT, .ref mA, .ref sB, .ref sA, .ref tH, .ref tF, .ref tS, .int 0, .int 0, .int (-1), .int 0, .int 0]))]) H := hP
    have hD : va_D A ([(x, .inr (11, [.ref st, .ref dr, .ref nw, .ref kp, .ref rd, .ref tm, .ref co])), (nw, .inr (10, [.ref rO, .ref sT, .ref mA, .ref sB, .ref sA, .ref tH, .ref tF, .ref tS, .int 0, .int 0, .int (-1), .int 0, .int 0]))]) := hD
    by_cases c9 : (-1) ≤ p1 ∧ p1 ≤ (-1)
    · obtain rfl : r7 = 1 := by rw [hrh8, if_pos c9]
      refine lv_if_ne (tgt := 27) hx hb dX11_who_21 (by decide) (fun c10 => ?_) (fun h => absurd h (by decide))
      refine lv_iload_n hx hb dX11_who_27 rfl (lv_at hl 2 rfl) ?_
      refine lv_iconst (v := (-1)) hx hb dX11_who_28 (by decide) ?_
      refine lv_icmp_ne (tgt := 40) hx hb dX11_who_29 (by decide) (fun h => absurd (show p1 = (-1) by (try simp only [zlt, zle, zeq, zl_0, zl_1, zl_2, zl_3, zl_4, zl_5, zl_6, zl_7, zl_8, zl_9, zl_10, zl_11, zl_12, zl_13, zl_19, zl_20, zl_30, zl_64, zl_99, zl_100, zl_299, zl_300, zl_399, zl_999, zl_9999, zl_m1, zl_m2, zl_m3, zl_32, zl_280] at c4 c5 c9 c10 ⊢); omega) h) (fun c11 => ?_)
      refine lv_aload_n hx hb dX11_who_32 rfl (lv_at hl 0 rfl) ?_
      refine lv_iload_n hx hb dX11_who_33 rfl (lv_at hl 1 rfl) ?_
      refine lv_iconst (v := 0) hx hb dX11_who_34 (by decide) ?_
      refine lv_iconst (v := 0) hx hb dX11_who_35 (by decide) ?_
      have hPc := hP.sub2 (wc := [(x, .inr (11, [.ref st, .ref dr, .ref nw, .ref kp, .ref rd, .ref tm, .ref co])), (nw, .inr (10, [.ref rO, .ref sT, .ref mA, .ref sB, .ref sA, .ref tH, .ref tF, .ref tS, .int 0, .int 0, .int (-1), .int 0, .int 0]))]) [0, 1] rfl
      have hDc := hD.sub (ws' := [(x, .inr (11, [.ref st, .ref dr, .ref nw, .ref kp, .ref rd, .ref tm, .ref co])), (nw, .inr (10, [.ref rO, .ref sT, .ref mA, .ref sB, .ref sA, .ref tH, .ref tF, .ref tS, .int 0, .int 0, .int (-1), .int 0, .int 0]))]) [0, 1] (by decide) rfl
      refine raw_Vi (ci := 11) (q0 := 0) (nA := 3) (As := [.int p0, .int 0, .int 0]) (rest := []) Z hl.1 (c_X11_ordersFrom l D cI cM cT x st dr nw kp rd tm co rO sT mA sB sA tH tF tS p0) (bw_V bw_954 bw_956 bw_33 bw_80 bw_957) ⟨by decide +kernel, by decide +kernel, by decide +kernel⟩ rfl ⟨Nat.le_of_ble_eq_true rfl, Nat.le_of_ble_eq_true rfl⟩ rfl rfl rfl hPc hDc hS rfl (Nat.le_of_ble_eq_true rfl) dX11_who_36 ⟨Nat.le_of_ble_eq_true rfl, Nat.le_of_ble_eq_true rfl⟩ (fun r13 u12 H1 locs1 h14 hku12 hP1 hD1 hS1 => ?_)
      obtain ⟨rfl, rfl⟩ := h14
      obtain ⟨hP, hD⟩ := z_join (wr := []) Z hS hP hD [0, 1] [] rfl (by decide) rfl (by decide) (by decide) hku12 hP1 hD1
      have hS := hS1
      clear hS1
      generalize H1 = H at hP hS ⊢
      generalize locs1 = locs at hS ⊢
      have hP : va_P D vwCl ([(x, .inr (11, [.ref st, .ref dr, .ref nw, .ref kp, .ref rd, .ref tm, .ref co])), (nw, .inr (10, [.ref rO, .ref sT, .ref mA, .ref sB, .ref sA, .ref tH, .ref tF, .ref tS, .int 0, .int 0, .int (-1), .int 0, .int 0]))]) H := hP
      have hD : va_D A ([(x, .inr (11, [.ref st, .ref dr, .ref nw, .ref kp, .ref rd, .ref tm, .ref co])), (nw, .inr (10, [.ref rO, .ref sT, .ref mA, .ref sB, .ref sA, .ref tH, .ref tF, .ref tS, .int 0, .int 0, .int (-1), .int 0, .int 0]))]) := hD
      exact z_ret Z rfl hP hD hS ((by first | rfl | assumption | (rw [if_pos (by (try simp only [zlt, zle, zeq, zl_0, zl_1, zl_2, zl_3, zl_4, zl_5, zl_6, zl_7, zl_8, zl_9, zl_10, zl_11, zl_12, zl_13, zl_19, zl_20, zl_30, zl_64, zl_99, zl_100, zl_299, zl_300, zl_399, zl_999, zl_9999, zl_m1, zl_m2, zl_m3, zl_32, zl_280] at c4 c5 c9 c10 c11 ⊢); omega)]; first | done | ((try simp only [zlt, zle, zeq, zl_0, zl_1, zl_2, zl_3, zl_4, zl_5, zl_6, zl_7, zl_8, zl_9, zl_10, zl_11, zl_12, zl_13, zl_19, zl_20, zl_30, zl_64, zl_99, zl_100, zl_299, zl_300, zl_399, zl_999, zl_9999, zl_m1, zl_m2, zl_m3, zl_32, zl_280] at c4 c5 c9 c10 c11 ⊢); omega)) | (rw [if_neg (by (try simp only [zlt, zle, zeq, zl_0, zl_1, zl_2, zl_3, zl_4, zl_5, zl_6, zl_7, zl_8, zl_9, zl_10, zl_11, zl_12, zl_13, zl_19, zl_20, zl_30, zl_64, zl_99, zl_100, zl_299, zl_300, zl_399, zl_999, zl_9999, zl_m1, zl_m2, zl_m3, zl_32, zl_280] at c4 c5 c9 c10 c11 ⊢); omega)]; first | done | ((try simp only [zlt, zle, zeq, zl_0, zl_1, zl_2, zl_3, zl_4, zl_5, zl_6, zl_7, zl_8, zl_9, zl_10, zl_11, zl_12, zl_13, zl_19, zl_20, zl_30, zl_64, zl_99, zl_100, zl_299, zl_300, zl_399, zl_999, zl_9999, zl_m1, zl_m2, zl_m3, zl_32, zl_280] at c4 c5 c9 c10 c11 ⊢); omega)))) dX11_who_39 (Nat.le_of_ble_eq_true rfl) (Nat.le_of_ble_eq_true rfl)
    · obtain rfl : r7 = 0 := by rw [hrh8, if_neg c9]
      refine lv_if_ne (tgt := 27) hx hb dX11_who_21 (by decide) (fun h => absurd (by decide) h) (fun c15 => ?_)
      refine lv_bipush (v := (-2)) hx hb dX11_who_24 (by decide) ?_
      exact z_ret Z rfl hP hD hS ((by first | rfl | assumption | (rw [if_pos (by (try simp only [zlt, zle, zeq, zl_0, zl_1, zl_2, zl_3, zl_4, zl_5, zl_6, zl_7, zl_8, zl_9, zl_10, zl_11, zl_12, zl_13, zl_19, zl_20, zl_30, zl_64, zl_99, zl_100, zl_299, zl_300, zl_399, zl_999, zl_9999, zl_m1, zl_m2, zl_m3, zl_32, zl_280] at c4 c5 c9 c15 ⊢); omega)]; first | done | ((try simp only [zlt, zle, zeq, zl_0, zl_1, zl_2, zl_3, zl_4, zl_5, zl_6, zl_7, zl_8, zl_9, zl_10, zl_11, zl_12, zl_13, zl_19, zl_20, zl_30, zl_64, zl_99, zl_100, zl_299, zl_300, zl_399, zl_999, zl_9999, zl_m1, zl_m2, zl_m3, zl_32, zl_280] at c4 c5 c9 c15 ⊢); omega)) | (rw [if_neg (by (try simp only [zlt, zle, zeq, zl_0, zl_1, zl_2, zl_3, zl_4, zl_5, zl_6, zl_7, zl_8, zl_9, zl_10, zl_11, zl_12, zl_13, zl_19, zl_20, zl_30, zl_64, zl_99, zl_100, zl_299, zl_300, zl_399, zl_999, zl_9999, zl_m1, zl_m2, zl_m3, zl_32, zl_280] at c4 c5 c9 c15 ⊢); omega)]; first | done | ((try simp only [zlt, zle, zeq, zl_0, zl_1, zl_2, zl_3, zl_4, zl_5, zl_6, zl_7, zl_8, zl_9, zl_10, zl_11, zl_12, zl_13, zl_19, zl_20, zl_30, zl_64, zl_99, zl_100, zl_299, zl_300, zl_399, zl_999, zl_9999, zl_m1, zl_m2, zl_m3, zl_32, zl_280] at c4 c5 c9 c15 ⊢); omega)))) dX11_who_26 (Nat.le_of_ble_eq_true rfl) (Nat.le_of_ble_eq_true rfl)
  · obtain rfl : r2 = 0 := by rw [hrh3, if_neg c4]
    refine lv_if_eq (tgt := 24) hx hb dX11_who_4 (by decide) (fun c16 => ?_) (fun h => absurd (by decide) h)
    refine lv_bipush (v := (-2)) hx hb dX11_who_24 (by decide) ?_
    exact z_ret Z rfl hP hD hS ((by first | rfl | assumption | (rw [if_pos (by (try simp only [zlt, zle, zeq, zl_0, zl_1, zl_2, zl_3, zl_4, zl_5, zl_6, zl_7, zl_8, zl_9, zl_10, zl_11, zl_12, zl_13, zl_19, zl_20, zl_30, zl_64, zl_99, zl_100, zl_299, zl_300, zl_399, zl_999, zl_9999, zl_m1, zl_m2, zl_m3, zl_32, zl_280] at c4 c16 ⊢); omega)]; first | done | ((try simp only [zlt, zle, zeq, zl_0, zl_1, zl_2, zl_3, zl_4, zl_5, zl_6, zl_7, zl_8, zl_9, zl_10, zl_11, zl_12, zl_13, zl_19, zl_20, zl_30, zl_64, zl_99, zl_100, zl_299, zl_300, zl_399, zl_999, zl_9999, zl_m1, zl_m2, zl_m3, zl_32, zl_280] at c4 c16 ⊢); omega)) | (rw [if_neg (by (try simp only [zlt, zle, zeq, zl_0, zl_1, zl_2, zl_3, zl_4, zl_5, zl_6, zl_7, zl_8, zl_9, zl_10, zl_11, zl_12, zl_13, zl_19, zl_20, zl_30, zl_64, zl_99, zl_100, zl_299, zl_300, zl_399, zl_999, zl_9999, zl_m1, zl_m2, zl_m3, zl_32, zl_280] at c4 c16 ⊢); omega)]; first | done | ((try simp only [zlt, zle, zeq, zl_0, zl_1, zl_2, zl_3, zl_4, zl_5, zl_6, zl_7, zl_8, zl_9, zl_10, zl_11, zl_12, zl_13, zl_19, zl_20, zl_30, zl_64, zl_99, zl_100, zl_299, zl_300, zl_399, zl_999, zl_9999, zl_m1, zl_m2, zl_m3, zl_32, zl_280] at c4 c16 ⊢); omega)))) dX11_who_26 (Nat.le_of_ble_eq_true rfl) (Nat.le_of_ble_eq_true rfl)
