theorem dX6_forget_0 : decode cX6_forget 0 = .ok (.aload_n 0, 1) := by decide +kernel
theorem dX6_forget_1 : decode cX6_forget 1 = .ok (.dup, 1) := by decide +kernel
theorem dX6_forget_2 : decode cX6_forget 2 = .ok (.getfield 28, 3) := by decide +kernel
theorem dX6_forget_5 : decode cX6_forget 5 = .ok (.iconst 1, 1) := by decide +kernel
theorem dX6_forget_6 : decode cX6_forget 6 = .ok (.iadd, 1) := by decide +kernel
theorem dX6_forget_7 : decode cX6_forget 7 = .ok (.putfield 28, 3) := by decide +kernel
theorem dX6_forget_10 : decode cX6_forget 10 = .ok (.return_, 1) := by decide +kernel
theorem dX11_isHorse_0 : decode cX11_isHorse 0 = .ok (.iload_n 1, 1) := by decide +kernel
theorem dX11_isHorse_1 : decode cX11_isHorse 1 = .ok (.ifCond .lt 21, 3) := by decide +kernel
theorem dX11_isHorse_4 : decode cX11_isHorse 4 = .ok (.iload_n 1, 1) := by decide +kernel
theorem dX11_isHorse_5 : decode cX11_isHorse 5 = .ok (.aload_n 0, 1) := by decide +kernel
theorem dX11_isHorse_6 : decode cX11_isHorse 6 = .ok (.getfield 27, 3) := by decide +kernel
theorem dX11_isHorse_9 : decode cX11_isHorse 9 = .ok (.getfield 106, 3) := by decide +kernel
theorem dX11_isHorse_12 : decode cX11_isHorse 12 = .ok (.getfield 110, 3) := by decide +kernel
theorem dX11_isHorse_15 : decode cX11_isHorse 15 = .ok (.if_icmp .ge 7, 3) := by decide +kernel
theorem dX11_isHorse_18 : decode cX11_isHorse 18 = .ok (.iconst 1, 1) := by decide +kernel
theorem dX11_isHorse_19 : decode cX11_isHorse 19 = .ok (.goto 4, 3) := by decide +kernel
theorem dX11_isHorse_22 : decode cX11_isHorse 22 = .ok (.iconst 0, 1) := by decide +kernel
theorem dX11_isHorse_23 : decode cX11_isHorse 23 = .ok (.ireturn, 1) := by decide +kernel
theorem dX1_lowestInnHere_0 : decode cX1_lowestInnHere 0 = .ok (.iconst 0, 1) := by decide +kernel
theorem dX1_lowestInnHere_1 : decode cX1_lowestInnHere 1 = .ok (.istore_n 1, 1) := by decide +kernel
theorem dX1_lowestInnHere_2 : decode cX1_lowestInnHere 2 = .ok (.iload_n 1, 1) := by decide +kernel
theorem dX1_lowestInnHere_3 : decode cX1_lowestInnHere 3 = .ok (.aload_n 0, 1) := by decide +kernel
theorem dX1_lowestInnHere_4 : decode cX1_lowestInnHere 4 = .ok (.getfield 15, 3) := by decide +kernel
theorem dX1_lowestInnHere_7 : decode cX1_lowestInnHere 7 = .ok (.if_icmp .ge 24, 3) := by decide +kernel
theorem dX1_lowestInnHere_10 : decode cX1_lowestInnHere 10 = .ok (.aload_n 0, 1) := by decide +kernel
theorem dX1_lowestInnHere_11 : decode cX1_lowestInnHere 11 = .ok (.getfield 9, 3) := by decide +kernel
theorem dX1_lowestInnHere_14 : decode cX1_lowestInnHere 14 = .ok (.iload_n 1, 1) := by decide +kernel
theorem dX1_lowestInnHere_15 : decode cX1_lowestInnHere 15 = .ok (.iaload, 1) := by decide +kernel
theorem dX1_lowestInnHere_16 : decode cX1_lowestInnHere 16 = .ok (.aload_n 0, 1) := by decide +kernel
theorem dX1_lowestInnHere_17 : decode cX1_lowestInnHere 17 = .ok (.getfield 19, 3) := by decide +kernel
theorem dX1_lowestInnHere_20 : decode cX1_lowestInnHere 20 = .ok (.if_icmp .ne 5, 3) := by decide +kernel
theorem dX1_lowestInnHere_23 : decode cX1_lowestInnHere 23 = .ok (.iload_n 1, 1) := by decide +kernel
theorem dX1_lowestInnHere_24 : decode cX1_lowestInnHere 24 = .ok (.ireturn, 1) := by decide +kernel
theorem dX1_lowestInnHere_25 : decode cX1_lowestInnHere 25 = .ok (.iinc 1 1, 3) := by decide +kernel
theorem dX1_lowestInnHere_28 : decode cX1_lowestInnHere 28 = .ok (.goto (-26), 3) := by decide +kernel
theorem dX1_lowestInnHere_31 : decode cX1_lowestInnHere 31 = .ok (.iconst (-1), 1) := by decide +kernel
theorem dX1_lowestInnHere_32 : decode cX1_lowestInnHere 32 = .ok (.ireturn, 1) := by decide +kernel
theorem dX11_mud_0 : decode cX11_mud 0 = .ok (.iload_n 1, 1) := by decide +kernel
theorem dX11_mud_1 : decode cX11_mud 1 = .ok (.invokestatic 54, 3) := by decide +kernel
theorem dX11_mud_4 : decode cX11_mud 4 = .ok (.ifCond .eq 25, 3) := by decide +kernel
theorem dX11_mud_7 : decode cX11_mud 7 = .ok (.iload_n 2, 1) := by decide +kernel
theorem dX11_mud_8 : decode cX11_mud 8 = .ok (.invokestatic 54, 3) := by decide +kernel
theorem dX11_mud_11 : decode cX11_mud 11 = .ok (.ifCond .eq 18, 3) := by decide +kernel
theorem dX11_mud_14 : decode cX11_mud 14 = .ok (.iload_n 1, 1) := by decide +kernel
theorem dX11_mud_15 : decode cX11_mud 15 = .ok (.iload_n 2, 1) := by decide +kernel
theorem dX11_mud_16 : decode cX11_mud 16 = .ok (.if_icmp .gt 13, 3) := by decide +kernel
theorem dX11_mud_19 : decode cX11_mud 19 = .ok (.iload_n 3, 1) := by decide +kernel
theorem dX11_mud_20 : decode cX11_mud 20 = .ok (.iconst 0, 1) := by decide +kernel
theorem dX11_mud_21 : decode cX11_mud 21 = .ok (.bipush 9, 2) := by decide +kernel
theorem dX11_mud_23 : decode cX11_mud 23 = .ok (.invokestatic 58, 3) := by decide +kernel
theorem dX11_mud_26 : decode cX11_mud 26 = .ok (.ifCond .ne 5, 3) := by decide +kernel
theorem dX11_mud_29 : decode cX11_mud 29 = .ok (.iconst 0, 1) := by decide +kernel
theorem dX11_mud_30 : decode cX11_mud 30 = .ok (.ireturn, 1) := by decide +kernel
theorem dX11_mud_31 : decode cX11_mud 31 = .ok (.iload_n 1, 1) := by decide +kernel
theorem dX11_mud_32 : decode cX11_mud 32 = .ok (.istore 4, 2) := by decide +kernel
theorem dX11_mud_34 : decode cX11_mud 34 = .ok (.iload 4, 2) := by decide +kernel
theorem dX11_mud_36 : decode cX11_mud 36 = .ok (.iload_n 2, 1) := by decide +kernel
theorem dX11_mud_37 : decode cX11_mud 37 = .ok (.if_icmp .gt 23, 3) := by decide +kernel
theorem dX11_mud_40 : decode cX11_mud 40 = .ok (.aload_n 0, 1) := by decide +kernel
theorem dX11_mud_41 : decode cX11_mud 41 = .ok (.getfield 27, 3) := by decide +kernel
theorem dX11_mud_44 : decode cX11_mud 44 = .ok (.getfield 62, 3) := by decide +kernel
theorem dX11_mud_47 : decode cX11_mud 47 = .ok (.getfield 66, 3) := by decide +kernel
theorem dX11_mud_50 : decode cX11_mud 50 = .ok (.iload 4, 2) := by decide +kernel
theorem dX11_mud_52 : decode cX11_mud 52 = .ok (.iload_n 3, 1) := by decide +kernel
theorem dX11_mud_53 : decode cX11_mud 53 = .ok (.iastore, 1) := by decide +kernel
theorem dX11_mud_54 : decode cX11_mud 54 = .ok (.iinc 4 1, 3) := by decide +kernel
theorem dX11_mud_57 : decode cX11_mud 57 = .ok (.goto (-23), 3) := by decide +kernel
theorem dX11_mud_60 : decode cX11_mud 60 = .ok (.aload_n 0, 1) := by decide +kernel
theorem dX11_mud_61 : decode cX11_mud 61 = .ok (.getfield 10, 3) := by decide +kernel
theorem dX11_mud_64 : decode cX11_mud 64 = .ok (.invokevirtual 71, 3) := by decide +kernel
theorem dX11_mud_67 : decode cX11_mud 67 = .ok (.iconst 1, 1) := by decide +kernel
theorem dX11_mud_68 : decode cX11_mud 68 = .ok (.ireturn, 1) := by decide +kernel
theorem dX11_bridge_0 : decode cX11_bridge 0 = .ok (.aload_n 0, 1) := by decide +kernel
theorem dX11_bridge_1 : decode cX11_bridge 1 = .ok (.getfield 27, 3) := by decide +kernel
theorem dX11_bridge_4 : decode cX11_bridge 4 = .ok (.getfield 62, 3) := by decide +kernel
theorem dX11_bridge_7 : decode cX11_bridge 7 = .ok (.astore_n 3, 1) := by decide +kernel
theorem dX11_bridge_8 : decode cX11_bridge 8 = .ok (.iload_n 1, 1) := by decide +kernel
theorem dX11_bridge_9 : decode cX11_bridge 9 = .ok (.invokestatic 54, 3) := by decide +kernel
theorem dX11_bridge_12 : decode cX11_bridge 12 = .ok (.ifCond .eq 23, 3) := by decide +kernel
theorem dX11_bridge_15 : decode cX11_bridge 15 = .ok (.iload_n 2, 1) := by decide +kernel
theorem dX11_bridge_16 : decode cX11_bridge 16 = .ok (.invokestatic 54, 3) := by decide +kernel
theorem dX11_bridge_19 : decode cX11_bridge 19 = .ok (.ifCond .eq 16, 3) := by decide +kernel
theorem dX11_bridge_22 : decode cX11_bridge 22 = .ok (.iload_n 1, 1) := by decide +kernel
theorem dX11_bridge_23 : decode cX11_bridge 23 = .ok (.iload_n 2, 1) := by decide +kernel
theorem dX11_bridge_24 : decode cX11_bridge 24 = .ok (.if_icmp .ge 11, 3) := by decide +kernel
theorem dX11_bridge_27 : decode cX11_bridge 27 = .ok (.aload_n 3, 1) := by decide +kernel
theorem dX11_bridge_28 : decode cX11_bridge 28 = .ok (.getfield 74, 3) := by decide +kernel
theorem dX11_bridge_31 : decode cX11_bridge 31 = .ok (.iconst 4, 1) := by decide +kernel
theorem dX11_bridge_32 : decode cX11_bridge 32 = .ok (.if_icmp .lt 5, 3) := by decide +kernel
theorem dX11_bridge_35 : decode cX11_bridge 35 = .ok (.iconst (-1), 1) := by decide +kernel
theorem dX11_bridge_36 : decode cX11_bridge 36 = .ok (.ireturn, 1) := by decide +kernel
theorem dX11_bridge_37 : decode cX11_bridge 37 = .ok (.aload_n 3, 1) := by decide +kernel
theorem dX11_bridge_38 : decode cX11_bridge 38 = .ok (.getfield 78, 3) := by decide +kernel
theorem dX11_bridge_41 : decode cX11_bridge 41 = .ok (.aload_n 3, 1) := by decide +kernel
theorem dX11_bridge_42 : decode cX11_bridge 42 = .ok (.getfield 74, 3) := by decide +kernel
theorem dX11_bridge_45 : decode cX11_bridge 45 = .ok (.iload_n 1, 1) := by decide +kernel
theorem dX11_bridge_46 : decode cX11_bridge 46 = .ok (.iastore, 1) := by decide +kernel
theorem dX11_bridge_47 : decode cX11_bridge 47 = .ok (.aload_n 3, 1) := by decide +kernel
theorem dX11_bridge_48 : decode cX11_bridge 48 = .ok (.getfield 81, 3) := by decide +kernel
theorem dX11_bridge_51 : decode cX11_bridge 51 = .ok (.aload_n 3, 1) := by decide +kernel
theorem dX11_bridge_52 : decode cX11_bridge 52 = .ok (.getfield 74, 3) := by decide +kernel
theorem dX11_bridge_55 : decode cX11_bridge 55 = .ok (.iload_n 2, 1) := by decide +kernel
theorem dX11_bridge_56 : decode cX11_bridge 56 = .ok (.iastore, 1) := by decide +kernel
theorem dX11_bridge_57 : decode cX11_bridge 57 = .ok (.aload_n 3, 1) := by decide +kernel
theorem dX11_bridge_58 : decode cX11_bridge 58 = .ok (.dup, 1) := by decide +kernel
theorem dX11_bridge_59 : decode cX11_bridge 59 = .ok (.getfield 74, 3) := by decide +kernel
theorem dX11_bridge_62 : decode cX11_bridge 62 = .ok (.iconst 1, 1) := by decide +kernel
theorem dX11_bridge_63 : decode cX11_bridge 63 = .ok (.iadd, 1) := by decide +kernel
theorem dX11_bridge_64 : decode cX11_bridge 64 = .ok (.putfield 74, 3) := by decide +kernel
theorem dX11_bridge_67 : decode cX11_bridge 67 = .ok (.aload_n 0, 1) := by decide +kernel
theorem dX11_bridge_68 : decode cX11_bridge 68 = .ok (.getfield 10, 3) := by decide +kernel
theorem dX11_bridge_71 : decode cX11_bridge 71 = .ok (.invokevirtual 71, 3) := by decide +kernel
theorem dX11_bridge_74 : decode cX11_bridge 74 = .ok (.aload_n 3, 1) := by decide +kernel
theorem dX11_bridge_75 : decode cX11_bridge 75 = .ok (.getfield 74, 3) := by decide +kernel
theorem dX11_bridge_78 : decode cX11_bridge 78 = .ok (.ireturn, 1) := by decide +kernel
theorem dX11_inn_0 : decode cX11_inn 0 = .ok (.aload_n 0, 1) := by decide +kernel
theorem dX11_inn_1 : decode cX11_inn 1 = .ok (.getfield 27, 3) := by decide +kernel
theorem dX11_inn_4 : decode cX11_inn 4 = .ok (.getfield 84, 3) := by decide +kernel
theorem dX11_inn_7 : decode cX11_inn 7 = .ok (.astore_n 2, 1) := by decide +kernel
theorem dX11_inn_8 : decode cX11_inn 8 = .ok (.iload_n 1, 1) := by decide +kernel
theorem dX11_inn_9 : decode cX11_inn 9 = .ok (.invokestatic 54, 3) := by decide +kernel
theorem dX11_inn_12 : decode cX11_inn 12 = .ok (.ifCond .eq 12, 3) := by decide +kernel
theorem dX11_inn_15 : decode cX11_inn 15 = .ok (.aload_n 2, 1) := by decide +kernel
theorem dX11_inn_16 : decode cX11_inn 16 = .ok (.getfield 88, 3) := by decide +kernel
theorem dX11_inn_19 : decode cX11_inn 19 = .ok (.bipush 10, 2) := by decide +kernel
theorem dX11_inn_21 : decode cX11_inn 21 = .ok (.if_icmp .lt 5, 3) := by decide +kernel
theorem dX11_inn_24 : decode cX11_inn 24 = .ok (.iconst (-1), 1) := by decide +kernel
theorem dX11_inn_25 : decode cX11_inn 25 = .ok (.ireturn, 1) := by decide +kernel
theorem dX11_inn_26 : decode cX11_inn 26 = .ok (.aload_n 2, 1) := by decide +kernel
theorem dX11_inn_27 : decode cX11_inn 27 = .ok (.getfield 93, 3) := by decide +kernel
theorem dX11_inn_30 : decode cX11_inn 30 = .ok (.aload_n 2, 1) := by decide +kernel
theorem dX11_inn_31 : decode cX11_inn 31 = .ok (.getfield 88, 3) := by decide +kernel
theorem dX11_inn_34 : decode cX11_inn 34 = .ok (.iload_n 1, 1) := by decide +kernel
theorem dX11_inn_35 : decode cX11_inn 35 = .ok (.iastore, 1) := by decide +kernel
theorem dX11_inn_36 : decode cX11_inn 36 = .ok (.aload_n 2, 1) := by decide +kernel
theorem dX11_inn_37 : decode cX11_inn 37 = .ok (.dup, 1) := by decide +kernel
theorem dX11_inn_38 : decode cX11_inn 38 = .ok (.getfield 88, 3) := by decide +kernel
theorem dX11_inn_41 : decode cX11_inn 41 = .ok (.iconst 1, 1) := by decide +kernel
theorem dX11_inn_42 : decode cX11_inn 42 = .ok (.iadd, 1) := by decide +kernel
theorem dX11_inn_43 : decode cX11_inn 43 = .ok (.putfield 88, 3) := by decide +kernel
theorem dX11_inn_46 : decode cX11_inn 46 = .ok (.aload_n 2, 1) := by decide +kernel
theorem dX11_inn_47 : decode cX11_inn 47 = .ok (.getfield 88, 3) := by decide +kernel
theorem dX11_inn_50 : decode cX11_inn 50 = .ok (.ireturn, 1) := by decide +kernel
theorem dX11_horse_0 : decode cX11_horse 0 = .ok (.aload_n 0, 1) := by decide +kernel
theorem dX11_horse_1 : decode cX11_horse 1 = .ok (.getfield 27, 3) := by decide +kernel
theorem dX11_horse_4 : decode cX11_horse 4 = .ok (.getfield 106, 3) := by decide +kernel
theorem dX11_horse_7 : decode cX11_horse 7 = .ok (.astore_n 3, 1) := by decide +kernel
theorem dX11_horse_8 : decode cX11_horse 8 = .ok (.iload_n 1, 1) := by decide +kernel
theorem dX11_horse_9 : decode cX11_horse 9 = .ok (.iconst 1, 1) := by decide +kernel
theorem dX11_horse_10 : decode cX11_horse 10 = .ok (.bipush 99, 2) := by decide +kernel
theorem dX11_horse_12 : decode cX11_horse 12 = .ok (.invokestatic 58, 3) := by decide +kernel
theorem dX11_horse_15 : decode cX11_horse 15 = .ok (.ifCond .eq 22, 3) := by decide +kernel
theorem dX11_horse_18 : decode cX11_horse 18 = .ok (.iload_n 2, 1) := by decide +kernel
theorem dX11_horse_19 : decode cX11_horse 19 = .ok (.iconst 1, 1) := by decide +kernel
theorem dX11_horse_20 : decode cX11_horse 20 = .ok (.bipush 9, 2) := by decide +kernel
theorem dX11_horse_22 : decode cX11_horse 22 = .ok (.invokestatic 58, 3) := by decide +kernel
theorem dX11_horse_25 : decode cX11_horse 25 = .ok (.ifCond .eq 12, 3) := by decide +kernel
theorem dX11_horse_28 : decode cX11_horse 28 = .ok (.aload_n 3, 1) := by decide +kernel
theorem dX11_horse_29 : decode cX11_horse 29 = .ok (.getfield 110, 3) := by decide +kernel
theorem dX11_horse_32 : decode cX11_horse 32 = .ok (.bipush 6, 2) := by decide +kernel
theorem dX11_horse_34 : decode cX11_horse 34 = .ok (.if_icmp .lt 5, 3) := by decide +kernel
theorem dX11_horse_37 : decode cX11_horse 37 = .ok (.iconst (-1), 1) := by decide +kernel
theorem dX11_horse_38 : decode cX11_horse 38 = .ok (.ireturn, 1) := by decide +kernel
theorem dX11_horse_39 : decode cX11_horse 39 = .ok (.aload_n 3, 1) := by decide +kernel
theorem dX11_horse_40 : decode cX11_horse 40 = .ok (.getfield 115, 3) := by decide +kernel
theorem dX11_horse_43 : decode cX11_horse 43 = .ok (.aload_n 3, 1) := by decide +kernel
theorem dX11_horse_44 : decode cX11_horse 44 = .ok (.getfield 110, 3) := by decide +kernel
theorem dX11_horse_47 : decode cX11_horse 47 = .ok (.iload_n 1, 1) := by decide +kernel
theorem dX11_horse_48 : decode cX11_horse 48 = .ok (.iastore, 1) := by decide +kernel
theorem dX11_horse_49 : decode cX11_horse 49 = .ok (.aload_n 3, 1) := by decide +kernel
theorem dX11_horse_50 : decode cX11_horse 50 = .ok (.getfield 118, 3) := by decide +kernel
theorem dX11_horse_53 : decode cX11_horse 53 = .ok (.aload_n 3, 1) := by decide +kernel
theorem dX11_horse_54 : decode cX11_horse 54 = .ok (.getfield 110, 3) := by decide +kernel
theorem dX11_horse_57 : decode cX11_horse 57 = .ok (.iload_n 2, 1) := by decide +kernel
theorem dX11_horse_58 : decode cX11_horse 58 = .ok (.iastore, 1) := by decide +kernel
theorem dX11_horse_59 : decode cX11_horse 59 = .ok (.aload_n 3, 1) := by decide +kernel
theorem dX11_horse_60 : decode cX11_horse 60 = .ok (.dup, 1) := by decide +kernel
theorem dX11_horse_61 : decode cX11_horse 61 = .ok (.getfield 110, 3) := by decide +kernel
theorem dX11_horse_64 : decode cX11_horse 64 = .ok (.iconst 1, 1) := by decide +kernel
theorem dX11_horse_65 : decode cX11_horse 65 = .ok (.iadd, 1) := by decide +kernel
theorem dX11_horse_66 : decode cX11_horse 66 = .ok (.putfield 110, 3) := by decide +kernel
theorem dX11_horse_69 : decode cX11_horse 69 = .ok (.aload_n 0, 1) := by decide +kernel
theorem dX11_horse_70 : decode cX11_horse 70 = .ok (.getfield 10, 3) := by decide +kernel
theorem dX11_horse_73 : decode cX11_horse 73 = .ok (.invokevirtual 71, 3) := by decide +kernel
theorem dX11_horse_76 : decode cX11_horse 76 = .ok (.aload_n 3, 1) := by decide +kernel
theorem dX11_horse_77 : decode cX11_horse 77 = .ok (.getfield 110, 3) := by decide +kernel
theorem dX11_horse_80 : decode cX11_horse 80 = .ok (.iconst 1, 1) := by decide +kernel
theorem dX11_horse_81 : decode cX11_horse 81 = .ok (.isub, 1) := by decide +kernel
theorem dX11_horse_82 : decode cX11_horse 82 = .ok (.ireturn, 1) := by decide +kernel
theorem dX11_weather_0 : decode cX11_weather 0 = .ok (.iload_n 1, 1) := by decide +kernel
theorem dX11_weather_1 : decode cX11_weather 1 = .ok (.iconst 0, 1) := by decide +kernel
theorem dX11_weather_2 : decode cX11_weather 2 = .ok (.bipush 10, 2) := by decide +kernel
theorem dX11_weather_4 : decode cX11_weather 4 = .ok (.invokestatic 58, 3) := by decide +kernel
theorem dX11_weather_7 : decode cX11_weather 7 = .ok (.ifCond .eq 14, 3) := by decide +kernel
theorem dX11_weather_10 : decode cX11_weather 10 = .ok (.iload_n 2, 1) := by decide +kernel
theorem dX11_weather_11 : decode cX11_weather 11 = .ok (.iconst 0, 1) := by decide +kernel
theorem dX11_weather_12 : decode cX11_weather 12 = .ok (.sipush 9999, 3) := by decide +kernel
theorem dX11_weather_15 : decode cX11_weather 15 = .ok (.invokestatic 58, 3) := by decide +kernel
theorem dX11_weather_18 : decode cX11_weather 18 = .ok (.ifCond .ne 5, 3) := by decide +kernel
theorem dX11_weather_21 : decode cX11_weather 21 = .ok (.iconst 0, 1) := by decide +kernel
theorem dX11_weather_22 : decode cX11_weather 22 = .ok (.ireturn, 1) := by decide +kernel
theorem dX11_weather_23 : decode cX11_weather 23 = .ok (.aload_n 0, 1) := by decide +kernel
theorem dX11_weather_24 : decode cX11_weather 24 = .ok (.getfield 27, 3) := by decide +kernel
theorem dX11_weather_27 : decode cX11_weather 27 = .ok (.iload_n 1, 1) := by decide +kernel
theorem dX11_weather_28 : decode cX11_weather 28 = .ok (.putfield 121, 3) := by decide +kernel
theorem dX11_weather_31 : decode cX11_weather 31 = .ok (.aload_n 0, 1) := by decide +kernel
theorem dX11_weather_32 : decode cX11_weather 32 = .ok (.getfield 27, 3) := by decide +kernel
theorem dX11_weather_35 : decode cX11_weather 35 = .ok (.getfield 84, 3) := by decide +kernel
theorem dX11_weather_38 : decode cX11_weather 38 = .ok (.iload_n 2, 1) := by decide +kernel
theorem dX11_weather_39 : decode cX11_weather 39 = .ok (.bipush 7, 2) := by decide +kernel
theorem dX11_weather_41 : decode cX11_weather 41 = .ok (.imul, 1) := by decide +kernel
theorem dX11_weather_42 : decode cX11_weather 42 = .ok (.bipush 13, 2) := by decide +kernel
theorem dX11_weather_44 : decode cX11_weather 44 = .ok (.iadd, 1) := by decide +kernel
theorem dX11_weather_45 : decode cX11_weather 45 = .ok (.putfield 124, 3) := by decide +kernel
theorem dX11_weather_48 : decode cX11_weather 48 = .ok (.iconst 1, 1) := by decide +kernel
theorem dX11_weather_49 : decode cX11_weather 49 = .ok (.ireturn, 1) := by decide +kernel
theorem dX11_end_0 : decode cX11_end 0 = .ok (.iload_n 1, 1) := by decide +kernel
theorem dX11_end_1 : decode cX11_end 1 = .ok (.iconst 0, 1) := by decide +kernel
theorem dX11_end_2 : decode cX11_end 2 = .ok (.aload_n 0, 1) := by decide +kernel
theorem dX11_end_3 : decode cX11_end 3 = .ok (.getfield 39, 3) := by decide +kernel
theorem dX11_end_6 : decode cX11_end 6 = .ok (.getfield 127, 3) := by decide +kernel
theorem dX11_end_9 : decode cX11_end 9 = .ok (.getfield 131, 3) := by decide +kernel
theorem dX11_end_12 : decode cX11_end 12 = .ok (.invokestatic 58, 3) := by decide +kernel
theorem dX11_end_15 : decode cX11_end 15 = .ok (.ifCond .ne 5, 3) := by decide +kernel
theorem dX11_end_18 : decode cX11_end 18 = .ok (.iconst (-1), 1) := by decide +kernel
theorem dX11_end_19 : decode cX11_end 19 = .ok (.ireturn, 1) := by decide +kernel
theorem dX11_end_20 : decode cX11_end 20 = .ok (.aload_n 0, 1) := by decide +kernel
theorem dX11_end_21 : decode cX11_end 21 = .ok (.getfield 39, 3) := by decide +kernel
theorem dX11_end_24 : decode cX11_end 24 = .ok (.getfield 127, 3) := by decide +kernel
theorem dX11_end_27 : decode cX11_end 27 = .ok (.iload_n 1, 1) := by decide +kernel
theorem dX11_end_28 : decode cX11_end 28 = .ok (.putfield 131, 3) := by decide +kernel
theorem dX11_end_31 : decode cX11_end 31 = .ok (.iload_n 1, 1) := by decide +kernel
theorem dX11_end_32 : decode cX11_end 32 = .ok (.ireturn, 1) := by decide +kernel
theorem dX11_fault_0 : decode cX11_fault 0 = .ok (.iload_n 1, 1) := by decide +kernel
theorem dX11_fault_1 : decode cX11_fault 1 = .ok (.ifCond .ne 11, 3) := by decide +kernel
theorem dX11_fault_4 : decode cX11_fault 4 = .ok (.aload_n 0, 1) := by decide +kernel
theorem dX11_fault_5 : decode cX11_fault 5 = .ok (.getfield 39, 3) := by decide +kernel
theorem dX11_fault_8 : decode cX11_fault 8 = .ok (.getfield 150, 3) := by decide +kernel
theorem dX11_fault_11 : decode cX11_fault 11 = .ok (.ireturn, 1) := by decide +kernel
theorem dX11_fault_12 : decode cX11_fault 12 = .ok (.iload_n 1, 1) := by decide +kernel
theorem dX11_fault_13 : decode cX11_fault 13 = .ok (.iconst 1, 1) := by decide +kernel
theorem dX11_fault_14 : decode cX11_fault 14 = .ok (.if_icmp .ne 13, 3) := by decide +kernel
theorem dX11_fault_17 : decode cX11_fault 17 = .ok (.aload_n 0, 1) := by decide +kernel
theorem dX11_fault_18 : decode cX11_fault 18 = .ok (.getfield 39, 3) := by decide +kernel
theorem dX11_fault_21 : decode cX11_fault 21 = .ok (.getfield 153, 3) := by decide +kernel
theorem dX11_fault_24 : decode cX11_fault 24 = .ok (.goto 4, 3) := by decide +kernel
theorem dX11_fault_27 : decode cX11_fault 27 = .ok (.iconst (-1), 1) := by decide +kernel
theorem dX11_fault_28 : decode cX11_fault 28 = .ok (.ireturn, 1) := by decide +kernel
theorem dX11_by_0 : decode cX11_by 0 = .ok (.iload_n 1, 1) := by decide +kernel
theorem dX11_by_1 : decode cX11_by 1 = .ok (.iconst (-1), 1) := by decide +kernel
theorem dX11_by_2 : decode cX11_by 2 = .ok (.aload_n 0, 1) := by decide +kernel
theorem dX11_by_3 : decode cX11_by 3 = .ok (.getfield 27, 3) := by decide +kernel
theorem dX11_by_6 : decode cX11_by 6 = .ok (.getfield 140, 3) := by decide +kernel
theorem dX11_by_9 : decode cX11_by 9 = .ok (.iconst 1, 1) := by decide +kernel
theorem dX11_by_10 : decode cX11_by 10 = .ok (.isub, 1) := by decide +kernel
theorem dX11_by_11 : decode cX11_by 11 = .ok (.invokestatic 58, 3) := by decide +kernel
theorem dX11_by_14 : decode cX11_by 14 = .ok (.ifCond .ne 5, 3) := by decide +kernel
theorem dX11_by_17 : decode cX11_by 17 = .ok (.iconst 0, 1) := by decide +kernel
theorem dX11_by_18 : decode cX11_by 18 = .ok (.ireturn, 1) := by decide +kernel
theorem dX11_by_19 : decode cX11_by 19 = .ok (.aload_n 0, 1) := by decide +kernel
theorem dX11_by_20 : decode cX11_by 20 = .ok (.getfield 27, 3) := by decide +kernel
theorem dX11_by_23 : decode cX11_by 23 = .ok (.iload_n 1, 1) := by decide +kernel
theorem dX11_by_24 : decode cX11_by 24 = .ok (.putfield 156, 3) := by decide +kernel
theorem dX11_by_27 : decode cX11_by 27 = .ok (.aload_n 0, 1) := by decide +kernel
theorem dX11_by_28 : decode cX11_by 28 = .ok (.getfield 10, 3) := by decide +kernel
theorem dX11_by_31 : decode cX11_by 31 = .ok (.invokevirtual 71, 3) := by decide +kernel
theorem dX11_by_34 : decode cX11_by 34 = .ok (.iconst 1, 1) := by decide +kernel
theorem dX11_by_35 : decode cX11_by 35 = .ok (.ireturn, 1) := by decide +kernel
theorem dX11_start_0 : decode cX11_start 0 = .ok (.iload_n 1, 1) := by decide +kernel
theorem dX11_start_1 : decode cX11_start 1 = .ok (.invokestatic 54, 3) := by decide +kernel
theorem dX11_start_4 : decode cX11_start 4 = .ok (.ifCond .ne 5, 3) := by decide +kernel
theorem dX11_start_7 : decode cX11_start 7 = .ok (.iconst 0, 1) := by decide +kernel
theorem dX11_start_8 : decode cX11_start 8 = .ok (.ireturn, 1) := by decide +kernel
theorem dX11_start_9 : decode cX11_start 9 = .ok (.aload_n 0, 1) := by decide +kernel
theorem dX11_start_10 : decode cX11_start 10 = .ok (.getfield 27, 3) := by decide +kernel
theorem dX11_start_13 : decode cX11_start 13 = .ok (.getfield 84, 3) := by decide +kernel
theorem dX11_start_16 : decode cX11_start 16 = .ok (.iload_n 1, 1) := by decide +kernel
theorem dX11_start_17 : decode cX11_start 17 = .ok (.putfield 159, 3) := by decide +kernel
theorem dX11_start_20 : decode cX11_start 20 = .ok (.aload_n 0, 1) := by decide +kernel
theorem dX11_start_21 : decode cX11_start 21 = .ok (.getfield 27, 3) := by decide +kernel
theorem dX11_start_24 : decode cX11_start 24 = .ok (.getfield 84, 3) := by decide +kernel
theorem dX11_start_27 : decode cX11_start 27 = .ok (.iconst 0, 1) := by decide +kernel
theorem dX11_start_28 : decode cX11_start 28 = .ok (.putfield 162, 3) := by decide +kernel
theorem dX11_start_31 : decode cX11_start 31 = .ok (.aload_n 0, 1) := by decide +kernel
theorem dX11_start_32 : decode cX11_start 32 = .ok (.getfield 27, 3) := by decide +kernel
theorem dX11_start_35 : decode cX11_start 35 = .ok (.getfield 84, 3) := by decide +kernel
theorem dX11_start_38 : decode cX11_start 38 = .ok (.iconst 0, 1) := by decide +kernel
theorem dX11_start_39 : decode cX11_start 39 = .ok (.putfield 165, 3) := by decide +kernel
theorem dX11_start_42 : decode cX11_start 42 = .ok (.aload_n 0, 1) := by decide +kernel
theorem dX11_start_43 : decode cX11_start 43 = .ok (.getfield 27, 3) := by decide +kernel
theorem dX11_start_46 : decode cX11_start 46 = .ok (.getfield 96, 3) := by decide +kernel
theorem dX11_start_49 : decode cX11_start 49 = .ok (.iconst 0, 1) := by decide +kernel
theorem dX11_start_50 : decode cX11_start 50 = .ok (.putfield 168, 3) := by decide +kernel
theorem dX11_start_53 : decode cX11_start 53 = .ok (.iconst 1, 1) := by decide +kernel
theorem dX11_start_54 : decode cX11_start 54 = .ok (.ireturn, 1) := by decide +kernel
theorem dX11_seen_0 : decode cX11_seen 0 = .ok (.iload_n 1, 1) := by decide +kernel
theorem dX11_seen_1 : decode cX11_seen 1 = .ok (.iconst (-1), 1) := by decide +kernel
theorem dX11_seen_2 : decode cX11_seen 2 = .ok (.if_icmp .ne 13, 3) := by decide +kernel
theorem dX11_seen_5 : decode cX11_seen 5 = .ok (.aload_n 0, 1) := by decide +kernel
theorem dX11_seen_6 : decode cX11_seen 6 = .ok (.getfield 27, 3) := by decide +kernel
theorem dX11_seen_9 : decode cX11_seen 9 = .ok (.iconst 0, 1) := by decide +kernel
theorem dX11_seen_10 : decode cX11_seen 10 = .ok (.putfield 247, 3) := by decide +kernel
theorem dX11_seen_13 : decode cX11_seen 13 = .ok (.iconst 0, 1) := by decide +kernel
theorem dX11_seen_14 : decode cX11_seen 14 = .ok (.ireturn, 1) := by decide +kernel
theorem dX11_seen_15 : decode cX11_seen 15 = .ok (.iload_n 1, 1) := by decide +kernel
theorem dX11_seen_16 : decode cX11_seen 16 = .ok (.invokestatic 54, 3) := by decide +kernel
theorem dX11_seen_19 : decode cX11_seen 19 = .ok (.ifCond .eq 15, 3) := by decide +kernel
theorem dX11_seen_22 : decode cX11_seen 22 = .ok (.aload_n 0, 1) := by decide +kernel
theorem dX11_seen_23 : decode cX11_seen 23 = .ok (.getfield 27, 3) := by decide +kernel
theorem dX11_seen_26 : decode cX11_seen 26 = .ok (.getfield 247, 3) := by decide +kernel
theorem dX11_seen_29 : decode cX11_seen 29 = .ok (.bipush 6, 2) := by decide +kernel
theorem dX11_seen_31 : decode cX11_seen 31 = .ok (.if_icmp .lt 6, 3) := by decide +kernel
theorem dX11_seen_34 : decode cX11_seen 34 = .ok (.bipush (-2), 2) := by decide +kernel
theorem dX11_seen_36 : decode cX11_seen 36 = .ok (.ireturn, 1) := by decide +kernel
theorem dX11_seen_37 : decode cX11_seen 37 = .ok (.aload_n 0, 1) := by decide +kernel
theorem dX11_seen_38 : decode cX11_seen 38 = .ok (.getfield 27, 3) := by decide +kernel
theorem dX11_seen_41 : decode cX11_seen 41 = .ok (.getfield 250, 3) := by decide +kernel
theorem dX11_seen_44 : decode cX11_seen 44 = .ok (.aload_n 0, 1) := by decide +kernel
theorem dX11_seen_45 : decode cX11_seen 45 = .ok (.getfield 27, 3) := by decide +kernel
theorem dX11_seen_48 : decode cX11_seen 48 = .ok (.getfield 247, 3) := by decide +kernel
theorem dX11_seen_51 : decode cX11_seen 51 = .ok (.iload_n 1, 1) := by decide +kernel
theorem dX11_seen_52 : decode cX11_seen 52 = .ok (.iastore, 1) := by decide +kernel
theorem dX11_seen_53 : decode cX11_seen 53 = .ok (.aload_n 0, 1) := by decide +kernel
theorem dX11_seen_54 : decode cX11_seen 54 = .ok (.getfield 27, 3) := by decide +kernel
theorem dX11_seen_57 : decode cX11_seen 57 = .ok (.dup, 1) := by decide +kernel
theorem dX11_seen_58 : decode cX11_seen 58 = .ok (.getfield 247, 3) := by decide +kernel
theorem dX11_seen_61 : decode cX11_seen 61 = .ok (.iconst 1, 1) := by decide +kernel
theorem dX11_seen_62 : decode cX11_seen 62 = .ok (.iadd, 1) := by decide +kernel
theorem dX11_seen_63 : decode cX11_seen 63 = .ok (.putfield 247, 3) := by decide +kernel
theorem dX11_seen_66 : decode cX11_seen 66 = .ok (.aload_n 0, 1) := by decide +kernel
theorem dX11_seen_67 : decode cX11_seen 67 = .ok (.getfield 27, 3) := by decide +kernel
theorem dX11_seen_70 : decode cX11_seen 70 = .ok (.getfield 247, 3) := by decide +kernel
theorem dX11_seen_73 : decode cX11_seen 73 = .ok (.ireturn, 1) := by decide +kernel
theorem bw_81 : Cond.initialized "CountingHorses$Stops" ∈ BW := bw_at 81 (by decide +kernel) (by decide +kernel)
theorem bw_135 : Cond.fieldLink "CountingHorses" 66 "CountingHorses$Road" "mud" "[I" ∈ BW := bw_at 135 (by decide +kernel) (by decide +kernel)
theorem bw_138 : Cond.fieldLink "CountingHorses" 78 "CountingHorses$Road" "bridgeFrom" "[I" ∈ BW := bw_at 138 (by decide +kernel) (by decide +kernel)
theorem bw_140 : Cond.fieldLink "CountingHorses" 81 "CountingHorses$Road" "bridgeTo" "[I" ∈ BW := bw_at 140 (by decide +kernel) (by decide +kernel)
theorem bw_142 : Cond.fieldLink "CountingHorses" 74 "CountingHorses$Road" "bridges" "I" ∈ BW := bw_at 142 (by decide +kernel) (by decide +kernel)
theorem bw_161 : Cond.fieldLink "CountingHorses" 115 "CountingHorses$Stable" "count" "[I" ∈ BW := bw_at 161 (by decide +kernel) (by decide +kernel)
theorem bw_164 : Cond.fieldLink "CountingHorses" 118 "CountingHorses$Stable" "shoe" "[I" ∈ BW := bw_at 164 (by decide +kernel) (by decide +kernel)
theorem bw_167 : Cond.fieldLink "CountingHorses" 110 "CountingHorses$Stable" "horses" "I" ∈ BW := bw_at 167 (by decide +kernel) (by decide +kernel)
theorem bw_181 : Cond.fieldLink "CountingHorses$Mail" 9 "CountingHorses$Mail" "innAt" "[I" ∈ BW := bw_at 181 (by decide +kernel) (by decide +kernel)
theorem bw_182 : Cond.fieldLink "CountingHorses" 93 "CountingHorses$Mail" "innAt" "[I" ∈ BW := bw_at 182 (by decide +kernel) (by decide +kernel)
theorem bw_183 : Cond.fieldLink "CountingHorses$Mail" 15 "CountingHorses$Mail" "inns" "I" ∈ BW := bw_at 183 (by decide +kernel) (by decide +kernel)
theorem bw_184 : Cond.fieldLink "CountingHorses" 88 "CountingHorses$Mail" "inns" "I" ∈ BW := bw_at 184 (by decide +kernel) (by decide +kernel)
theorem bw_185 : Cond.fieldLink "CountingHorses$Mail" 19 "CountingHorses$Mail" "place" "I" ∈ BW := bw_at 185 (by decide +kernel) (by decide +kernel)
theorem bw_186 : Cond.fieldLink "CountingHorses" 159 "CountingHorses$Mail" "place" "I" ∈ BW := bw_at 186 (by decide +kernel) (by decide +kernel)
theorem bw_188 : Cond.fieldLink "CountingHorses" 162 "CountingHorses$Mail" "oats" "I" ∈ BW := bw_at 188 (by decide +kernel) (by decide +kernel)
theorem bw_190 : Cond.fieldLink "CountingHorses" 165 "CountingHorses$Mail" "drives" "I" ∈ BW := bw_at 190 (by decide +kernel) (by decide +kernel)
theorem bw_195 : Cond.fieldLink "CountingHorses" 124 "CountingHorses$Mail" "x" "I" ∈ BW := bw_at 195 (by decide +kernel) (by decide +kernel)
theorem bw_223 : Cond.fieldLink "CountingHorses" 168 "CountingHorses$StepsBack" "size" "I" ∈ BW := bw_at 223 (by decide +kernel) (by decide +kernel)
theorem bw_232 : Cond.fieldLink "CountingHorses" 62 "CountingHorses$World" "road" "LCountingHorses$Road;" ∈ BW := bw_at 232 (by decide +kernel) (by decide +kernel)
theorem bw_237 : Cond.fieldLink "CountingHorses" 106 "CountingHorses$World" "stable" "LCountingHorses$Stable;" ∈ BW := bw_at 237 (by decide +kernel) (by decide +kernel)
theorem bw_240 : Cond.fieldLink "CountingHorses" 84 "CountingHorses$World" "mail" "LCountingHorses$Mail;" ∈ BW := bw_at 240 (by decide +kernel) (by decide +kernel)
theorem bw_242 : Cond.fieldLink "CountingHorses" 96 "CountingHorses$World" "stepsBack" "LCountingHorses$StepsBack;" ∈ BW := bw_at 242 (by decide +kernel) (by decide +kernel)
theorem bw_244 : Cond.fieldLink "CountingHorses" 250 "CountingHorses$World" "seenAt" "[I" ∈ BW := bw_at 244 (by decide +kernel) (by decide +kernel)
theorem bw_253 : Cond.fieldLink "CountingHorses" 121 "CountingHorses$World" "slip" "I" ∈ BW := bw_at 253 (by decide +kernel) (by decide +kernel)
theorem bw_255 : Cond.fieldLink "CountingHorses" 140 "CountingHorses$World" "texts" "I" ∈ BW := bw_at 255 (by decide +kernel) (by decide +kernel)
theorem bw_258 : Cond.fieldLink "CountingHorses" 156 "CountingHorses$World" "ruling" "I" ∈ BW := bw_at 258 (by decide +kernel) (by decide +kernel)
theorem bw_260 : Cond.fieldLink "CountingHorses" 247 "CountingHorses$World" "seen" "I" ∈ BW := bw_at 260 (by decide +kernel) (by decide +kernel)
theorem bw_403 : Cond.fieldLink "CountingHorses" 131 "CountingHorses$Tape" "length" "I" ∈ BW := bw_at 403 (by decide +kernel) (by decide +kernel)
theorem bw_422 : Cond.fieldLink "CountingHorses" 127 "CountingHorses$Reader" "tape" "LCountingHorses$Tape;" ∈ BW := bw_at 422 (by decide +kernel) (by decide +kernel)
theorem bw_424 : Cond.fieldLink "CountingHorses" 150 "CountingHorses$Reader" "fault" "I" ∈ BW := bw_at 424 (by decide +kernel) (by decide +kernel)
theorem bw_426 : Cond.fieldLink "CountingHorses" 153 "CountingHorses$Reader" "faultAt" "I" ∈ BW := bw_at 426 (by decide +kernel) (by decide +kernel)
theorem bw_468 : Cond.fieldLink "CountingHorses" 10 "CountingHorses" "stops" "LCountingHorses$Stops;" ∈ BW := bw_at 468 (by decide +kernel) (by decide +kernel)
theorem bw_470 : Cond.fieldLink "CountingHorses" 27 "CountingHorses" "now" "LCountingHorses$World;" ∈ BW := bw_at 470 (by decide +kernel) (by decide +kernel)
theorem bw_472 : Cond.fieldLink "CountingHorses" 39 "CountingHorses" "reader" "LCountingHorses$Reader;" ∈ BW := bw_at 472 (by decide +kernel) (by decide +kernel)
theorem bw_494 : Cond.methodLink "CountingHorses" 54 ⟨"CountingHorses", "isPlace", "(I)Z"⟩ ∈ BW := bw_at 494 (by decide +kernel) (by decide +kernel)
theorem bw_495 : Cond.static ⟨"CountingHorses", "isPlace", "(I)Z"⟩ ∈ BW := bw_at 495 (by decide +kernel) (by decide +kernel)
theorem bw_496 : Cond.code ⟨"CountingHorses", "isPlace", "(I)Z"⟩ prog_1_method_33_code 1 (some .boolean) ∈ BW := bw_at 496 (by decide +kernel) (by decide +kernel)
theorem bw_497 : Cond.methodLink "CountingHorses" 58 ⟨"CountingHorses", "isWithin", "(III)Z"⟩ ∈ BW := bw_at 497 (by decide +kernel) (by decide +kernel)
theorem bw_500 : Cond.methodLink "CountingHorses" 71 ⟨"CountingHorses$Stops", "forget", "()V"⟩ ∈ BW := bw_at 500 (by decide +kernel) (by decide +kernel)
theorem bw_501 : Cond.instanceMethod ⟨"CountingHorses$Stops", "forget", "()V"⟩ ∈ BW := bw_at 501 (by decide +kernel) (by decide +kernel)
theorem bw_502 : Cond.selects "CountingHorses$Stops" ⟨"CountingHorses$Stops", "forget", "()V"⟩ ⟨"CountingHorses$Stops", "forget", "()V"⟩ ∈ BW := bw_at 502 (by decide +kernel) (by decide +kernel)
theorem bw_503 : Cond.code ⟨"CountingHorses$Stops", "forget", "()V"⟩ prog_8_method_2_code 1 none ∈ BW := bw_at 503 (by decide +kernel) (by decide +kernel)
set_option maxHeartbeats 4000000 in
set_option maxRecDepth 100000 in
theorem c_X6_forget (l : Launch) (D : va_G) (cI cM cT cJ cZ : ClassId) (st : Nat) (dr : Nat) (s1 : Nat) (s2 : Nat) (s3 : Nat) (ag : Int32) : Cv l D (ty3 cI cM cT cJ cZ) yX6_forget cX6_forget 1 0 0 0 [.ref st] ([(st, .inr (6, [.ref dr, .ref s1, .ref s2, .ref s3, .int ag]))]) (fun u => ∃ (ag_n : Int32), u = [(st, .inr (6, [.ref dr, .ref s1, .ref s2, .ref s3, .int ag_n]))]) := by
  refine Cv.of (by decide +kernel) (Nat.le_of_ble_eq_true rfl) ?_
  intro p e s m below meth c A ls Z hin hP hD hl
  have hx := Z.1
  have hb := Z.2.1
  have hS : va_S A s.heap s.heap [] := va_S.rf
  have hl : lv_has ls 1 [(0, .ref st)] := hl
  skip
  refine lv_aload_n hx hb dX6_forget_0 rfl (lv_at hl 0 rfl) ?_
  refine lv_dup hx hb dX6_forget_1 rfl ?_
  refine z_get Z i_X6 hP 0 rfl rfl 4 (by decide) bw_369 rfl dX6_forget_2 ?_
  refine lv_iconst (v := 1) hx hb dX6_forget_5 (by decide) ?_
  refine lv_iadd hx hb dX6_forget_6 ?_
  refine lv_topi (fun z1 ez1 => ?_)
  refine z_put Z i_X6 tyX6 tyX6_ok nmX6 hP hD hS 0 rfl rfl 4 (by decide) bw_369 rfl rfl rfl (Nat.le_of_ble_eq_true rfl) dX6_forget_7 (fun H locs hP hD hS => ?_)
  have hP : va_P D vwCl ([(st, .inr (6, [.ref dr, .ref s1, .ref s2, .ref s3, .int z1]))]) H := hP
  have hD : va_D A ([(st, .inr (6, [.ref dr, .ref s1, .ref s2, .ref s3, .int z1]))]) := hD
  exact z_vret Z hP hD hS (⟨z1, rfl⟩) dX6_forget_10 (Nat.le_of_ble_eq_true rfl) (Nat.le_of_ble_eq_true rfl)
set_option maxHeartbeats 4000000 in
set_option maxRecDepth 100000 in
theorem c_X11_isHorse (l : Launch) (D : va_G) (cI cM cT cJ cZ : ClassId) (x : Nat) (p0 : Int32) (st : Nat) (dr : Nat) (nw : Nat) (kp : Nat) (rd : Nat) (tm : Nat) (co : Nat) (rO : Nat) (sT : Nat) (mA : Nat) (sB : Nat) (sA : Nat) (tH : Nat) (tF : Nat) (tS : Nat) (sp : Int32) (tn : Int32) (ru : Int32) (se : Int32) (tr : Int32) (cO : Nat) (sH : Nat) (ho : Int32) (hi_tn : 0 ≤ tn.toInt ∧ tn.toInt ≤ 4) (hi_se : 0 ≤ se.toInt ∧ se.toInt ≤ 6) (hi_tr : 0 ≤ tr.toInt ∧ tr.toInt ≤ 10) (hi_ho : 0 ≤ ho.toInt ∧ ho.toInt ≤ 6) : Ci l D (ty3 cI cM cT cJ cZ) yX11_isHorse cX11_isHorse 2 (some .boolean) 0 0 0 [.ref x, .int p0] ([(x, .inr (11, [.ref st, .ref dr, .ref nw, .ref kp, .ref rd, .ref tm, .ref co])), (nw, .inr (10, [.ref rO, .ref sT, .ref mA, .ref sB, .ref sA, .ref tH, .ref tF, .ref tS, .int sp, .int tn, .int ru, .int se, .int tr])), (sT, .inr (4, [.ref cO, .ref sH, .int ho]))]) (fun r u => r = (if 0 ≤ p0 ∧ p0 < ho then 1 else 0) ∧ u = [(x, .inr (11, [.ref st, .ref dr, .ref nw, .ref kp, .ref rd, .ref tm, .ref co])), (nw, .inr (10, [.ref rO, .ref sT, .ref mA, .ref sB, .ref sA, .ref tH, .ref tF, .ref tS, .int sp, .int tn, .int ru, .int se, .int tr])), (sT, .inr (4, [.ref cO, .ref sH, .int ho]))]) := by
  refine Ci.of (by decide +kernel) (Nat.le_of_ble_eq_true rfl) ?_
  intro p e s m below meth c A ls Z hin hP hD hl
  have hx := Z.1
  have hb := Z.2.1
  have hS : va_S A s.heap s.heap [] := va_S.rf
  have hl : lv_has ls 2 [(0, .ref x), (1, .int p0)] := hl
  skip
  refine lv_iload_n hx hb dX11_isHorse_0 rfl (lv_at hl 1 rfl) ?_
  refine lv_if_lt (tgt := 22) hx hb dX11_isHorse_1 (by decide) (fun c1 => ?_) (fun c1 => ?_)
  · refine lv_iconst (v := 0) hx hb dX11_isHorse_22 (by decide) ?_
    exact z_ret Z rfl hP hD hS (⟨(if_neg (by first | with_reducible assumption | ((try simp only [zlt, zle, zeq, zl_0, zl_1, zl_2, zl_3, zl_4, zl_5, zl_6, zl_7, zl_8, zl_9, zl_10, zl_11, zl_12, zl_13, zl_14, zl_15, zl_16, zl_17, zl_18, zl_19, zl_20, zl_21, zl_22, zl_23, zl_24, zl_25, zl_26, zl_27, zl_28, zl_29, zl_30, zl_31, zl_32, zl_33, zl_34, zl_35, zl_36, zl_37, zl_38, zl_39, zl_40, zl_41, zl_42, zl_43, zl_44, zl_45, zl_46, zl_47, zl_48, zl_49, zl_50, zl_51, zl_52, zl_53, zl_54, zl_55, zl_56, zl_57, zl_58, zl_59, zl_60, zl_61, zl_62, zl_63, zl_64, zl_65, zl_82, zl_99, zl_100, zl_160, zl_299, zl_300, zl_301, zl_382, zl_398, zl_399, zl_464, zl_680, zl_862, zl_999, zl_1000, zl_9999, zl_10000, zl_1000000, zl_m1, zl_m2, zl_m3, zl_m8] at hi_tn hi_se hi_tr hi_ho c1 ⊢); omega))).symm, rfl⟩) dX11_isHorse_23 (Nat.le_of_ble_eq_true rfl) (Nat.le_of_ble_eq_true rfl)
  · refine lv_iload_n hx hb dX11_isHorse_4 rfl (lv_at hl 1 rfl) ?_
    refine lv_aload_n hx hb dX11_isHorse_5 rfl (lv_at hl 0 rfl) ?_
    refine z_get Z i_X11 hP 0 rfl rfl 2 (by decide) bw_470 rfl dX11_isHorse_6 ?_
    refine z_get Z i_X10 hP 1 rfl rfl 1 (by decide) bw_237 rfl dX11_isHorse_9 ?_
    refine z_get Z i_X4 hP 2 rfl rfl 2 (by decide) bw_167 rfl dX11_isHorse_12 ?_
    refine lv_icmp_ge (tgt := 22) hx hb dX11_isHorse_15 (by decide) (fun c2 => ?_) (fun c2 => ?_)
    · refine lv_iconst (v := 0) hx hb dX11_isHorse_22 (by decide) ?_
      exact z_ret Z rfl hP hD hS (⟨(if_neg (by first | with_reducible assumption | ((try simp only [zlt, zle, zeq, zl_0, zl_1, zl_2, zl_3, zl_4, zl_5, zl_6, zl_7, zl_8, zl_9, zl_10, zl_11, zl_12, zl_13, zl_14, zl_15, zl_16, zl_17, zl_18, zl_19, zl_20, zl_21, zl_22, zl_23, zl_24, zl_25, zl_26, zl_27, zl_28, zl_29, zl_30, zl_31, zl_32, zl_33, zl_34, zl_35, zl_36, zl_37, zl_38, zl_39, zl_40, zl_41, zl_42, zl_43, zl_44, zl_45, zl_46, zl_47, zl_48, zl_49, zl_50, zl_51, zl_52, zl_53, zl_54, zl_55, zl_56, zl_57, zl_58, zl_59, zl_60, zl_61, zl_62, zl_63, zl_64, zl_65, zl_82, zl_99, zl_100, zl_160, zl_299, zl_300, zl_301, zl_382, zl_398, zl_399, zl_464, zl_680, zl_862, zl_999, zl_1000, zl_9999, zl_10000, zl_1000000, zl_m1, zl_m2, zl_m3, zl_m8] at hi_tn hi_se hi_tr hi_ho c1 c2 ⊢); omega))).symm, rfl⟩) dX11_isHorse_23 (Nat.le_of_ble_eq_true rfl) (Nat.le_of_ble_eq_true rfl)
    · refine lv_iconst (v := 1) hx hb dX11_isHorse_18 (by decide) ?_
      refine lv_goto (tgt := 23) hx hb dX11_isHorse_19 (by decide) ?_
      exact z_ret Z rfl hP hD hS (⟨(if_pos (by first | with_reducible assumption | ((try simp only [zlt, zle, zeq, zl_0, zl_1, zl_2, zl_3, zl_4, zl_5, zl_6, zl_7, zl_8, zl_9, zl_10, zl_11, zl_12, zl_13, zl_14, zl_15, zl_16, zl_17, zl_18, zl_19, zl_20, zl_21, zl_22, zl_23, zl_24, zl_25, zl_26, zl_27, zl_28, zl_29, zl_30, zl_31, zl_32, zl_33, zl_34, zl_35, zl_36, zl_37, zl_38, zl_39, zl_40, zl_41, zl_42, zl_43, zl_44, zl_45, zl_46, zl_47, zl_48, zl_49, zl_50, zl_51, zl_52, zl_53, zl_54, zl_55, zl_56, zl_57, zl_58, zl_59, zl_60, zl_61, zl_62, zl_63, zl_64, zl_65, zl_82, zl_99, zl_100, zl_160, zl_299, zl_300, zl_301, zl_382, zl_398, zl_399, zl_464, zl_680, zl_862, zl_999, zl_1000, zl_9999, zl_10000, zl_1000000, zl_m1, zl_m2, zl_m3, zl_m8] at hi_tn hi_se hi_tr hi_ho c1 c2 ⊢); omega))).symm, rfl⟩) dX11_isHorse_23 (Nat.le_of_ble_eq_true rfl) (Nat.le_of_ble_eq_true rfl)
set_option maxHeartbeats 4000000 in
set_option maxRecDepth 100000 in
theorem lp_X1_lowest {p : Program} (l : Launch) {e : Env} {s : State} {m : MethodId} {below : List Frame} {meth : Method} {c : Code} {A : Nat → Prop} (D : va_G) (cI cM cT cJ cZ : ClassId) (mA : Nat) (iA : Nat) (in_ : Int32) (pl : Int32) (oa : Int32) (dv : Int32) (dy : Int32) (xx : Int32) (fia : Nat → Int32) (Z : Zx p s m ([.ref mA] : List Value).toArray meth c cX1_lowestInnHere 2 (some .int) yX1_lowestInnHere.cls A (ty3 cI cM cT cJ cZ) D) (hi_in_ : 0 ≤ in_.toInt ∧ in_.toInt ≤ 10) (hi_pl : 0 ≤ pl.toInt ∧ pl.toInt ≤ 299) (hr_fia : Rng 0 299 10 fia) : ∀ (n0 : Nat) (j : Int32) (h0 : 0 ≤ j.toInt ∧ j.toInt ≤ 10), (10 - j.toInt).toNat < n0 → ∀ (H : Heap) (locs : List Loc) (ls : Array Slot), va_P D vwCl ([(mA, .inr (1, [.ref iA, .int in_, .int pl, .int oa, .int dv, .int dy, .int xx])), (iA, .inl (cI, 10, .inl fia))]) H → va_D A ([(mA, .inr (1, [.ref iA, .int in_, .int pl, .int oa, .int dv, .int dy, .int xx])), (iA, .inl (cI, 10, .inl fia))]) → va_S A s.heap H locs → lv_has ls 2 [(0, .ref mA), (1, .int j)] → W p l e (rmv 0 0 0) s m ([.ref mA] : List Value).toArray below meth c H locs 0 0 (MQ below (va_Qi (fun r u => u = [(mA, .inr (1, [.ref iA, .int in_, .int pl, .int oa, .int dv, .int dy, .int xx])), (iA, .inl (cI, 10, .inl fia))]) (cB D (ty3 cI cM cT cJ cZ) A) A) ([.ref mA] : List Value).toArray s 0 0 A) (F0 m 2 ls []) := by
  have hx := Z.1
  have hb := Z.2.1
  intro n0
  induction n0 with
  | zero => intro j h0 hm; exact absurd hm (Nat.not_lt_zero _)
  | succ n0 ih =>
    intro j h0 hm H locs ls hP hD hS hl
    refine lv_iload_n hx hb dX1_lowestInnHere_2 rfl (lv_at hl 1 rfl) ?_
    refine lv_aload_n hx hb dX1_lowestInnHere_3 rfl (lv_at hl 0 rfl) ?_
    refine z_get Z i_X1 hP 0 rfl rfl 1 (by decide) bw_183 rfl dX1_lowestInnHere_4 ?_
    refine lv_icmp_ge (tgt := 31) hx hb dX1_lowestInnHere_7 (by decide) (fun c1 => ?_) (fun c1 => ?_)
    · refine lv_iconst (v := (-1)) hx hb dX1_lowestInnHere_31 (by decide) ?_
      exact z_ret Z rfl hP hD hS (rfl) dX1_lowestInnHere_32 (Nat.le_of_ble_eq_true rfl) (Nat.le_of_ble_eq_true rfl)
    · refine lv_aload_n hx hb dX1_lowestInnHere_10 rfl (lv_at hl 0 rfl) ?_
      refine z_get Z i_X1 hP 0 rfl rfl 0 (by decide) bw_181 rfl dX1_lowestInnHere_11 ?_
      refine lv_iload_n hx hb dX1_lowestInnHere_14 rfl (lv_at hl 1 rfl) ?_
      refine z_iald Z hP 1 0 rfl rfl (vp_in_iff.mpr (by first | with_reducible assumption | ((try simp only [zlt, zle, zeq, zl_0, zl_1, zl_2, zl_3, zl_4, zl_5, zl_6, zl_7, zl_8, zl_9, zl_10, zl_11, zl_12, zl_13, zl_14, zl_15, zl_16, zl_17, zl_18, zl_19, zl_20, zl_21, zl_22, zl_23, zl_24, zl_25, zl_26, zl_27, zl_28, zl_29, zl_30, zl_31, zl_32, zl_33, zl_34, zl_35, zl_36, zl_37, zl_38, zl_39, zl_40, zl_41, zl_42, zl_43, zl_44, zl_45, zl_46, zl_47, zl_48, zl_49, zl_50, zl_51, zl_52, zl_53, zl_54, zl_55, zl_56, zl_57, zl_58, zl_59, zl_60, zl_61, zl_62, zl_63, zl_64, zl_65, zl_82, zl_99, zl_100, zl_160, zl_299, zl_300, zl_301, zl_382, zl_398, zl_399, zl_464, zl_680, zl_862, zl_999, zl_1000, zl_9999, zl_10000, zl_1000000, zl_m1, zl_m2, zl_m3, zl_m8] at hi_in_ h0 hm c1 ⊢); omega))) dX1_lowestInnHere_15 ?_
      refine lv_topi (fun z2 ez2 => ?_)
      have hz2 : 0 ≤ z2.toInt ∧ z2.toInt ≤ 299 := by rw [ez2]; exact hr_fia _ (zclt (by first | with_reducible assumption | ((try simp only [zlt, zle, zeq, zl_0, zl_1, zl_2, zl_3, zl_4, zl_5, zl_6, zl_7, zl_8, zl_9, zl_10, zl_11, zl_12, zl_13, zl_14, zl_15, zl_16, zl_17, zl_18, zl_19, zl_20, zl_21, zl_22, zl_23, zl_24, zl_25, zl_26, zl_27, zl_28, zl_29, zl_30, zl_31, zl_32, zl_33, zl_34, zl_35, zl_36, zl_37, zl_38, zl_39, zl_40, zl_41, zl_42, zl_43, zl_44, zl_45, zl_46, zl_47, zl_48, zl_49, zl_50, zl_51, zl_52, zl_53, zl_54, zl_55, zl_56, zl_57, zl_58, zl_59, zl_60, zl_61, zl_62, zl_63, zl_64, zl_65, zl_82, zl_99, zl_100, zl_160, zl_299, zl_300, zl_301, zl_382, zl_398, zl_399, zl_464, zl_680, zl_862, zl_999, zl_1000, zl_9999, zl_10000, zl_1000000, zl_m1, zl_m2, zl_m3, zl_m8] at hi_in_ h0 hm c1 ⊢); omega)) (by first | with_reducible assumption | ((try simp only [zlt, zle, zeq, zl_0, zl_1, zl_2, zl_3, zl_4, zl_5, zl_6, zl_7, zl_8, zl_9, zl_10, zl_11, zl_12, zl_13, zl_14, zl_15, zl_16, zl_17, zl_18, zl_19, zl_20, zl_21, zl_22, zl_23, zl_24, zl_25, zl_26, zl_27, zl_28, zl_29, zl_30, zl_31, zl_32, zl_33, zl_34, zl_35, zl_36, zl_37, zl_38, zl_39, zl_40, zl_41, zl_42, zl_43, zl_44, zl_45, zl_46, zl_47, zl_48, zl_49, zl_50, zl_51, zl_52, zl_53, zl_54, zl_55, zl_56, zl_57, zl_58, zl_59, zl_60, zl_61, zl_62, zl_63, zl_64, zl_65, zl_82, zl_99, zl_100, zl_160, zl_299, zl_300, zl_301, zl_382, zl_398, zl_399, zl_464, zl_680, zl_862, zl_999, zl_1000, zl_9999, zl_10000, zl_1000000, zl_m1, zl_m2, zl_m3, zl_m8] at hi_in_ h0 hm c1 ⊢); omega)))
      refine lv_aload_n hx hb dX1_lowestInnHere_16 rfl (lv_at hl 0 rfl) ?_
      refine z_get Z i_X1 hP 0 rfl rfl 2 (by decide) bw_185 rfl dX1_lowestInnHere_17 ?_
      refine lv_icmp_ne (tgt := 25) hx hb dX1_lowestInnHere_20 (by decide) (fun c3 => ?_) (fun c3 => ?_)
      · obtain ⟨z4, ez4⟩ : ∃ y : Int32, y = j + 1 := ⟨_, rfl⟩
        have hz4 : z4.toInt = j.toInt + 1 := by rw [ez4]; exact zaddg (by first | with_reducible assumption | ((try simp only [zlt, zle, zeq, zl_0, zl_1, zl_2, zl_3, zl_4, zl_5, zl_6, zl_7, zl_8, zl_9, zl_10, zl_11, zl_12, zl_13, zl_14, zl_15, zl_16, zl_17, zl_18, zl_19, zl_20, zl_21, zl_22, zl_23, zl_24, zl_25, zl_26, zl_27, zl_28, zl_29, zl_30, zl_31, zl_32, zl_33, zl_34, zl_35, zl_36, zl_37, zl_38, zl_39, zl_40, zl_41, zl_42, zl_43, zl_44, zl_45, zl_46, zl_47, zl_48, zl_49, zl_50, zl_51, zl_52, zl_53, zl_54, zl_55, zl_56, zl_57, zl_58, zl_59, zl_60, zl_61, zl_62, zl_63, zl_64, zl_65, zl_82, zl_99, zl_100, zl_160, zl_299, zl_300, zl_301, zl_382, zl_398, zl_399, zl_464, zl_680, zl_862, zl_999, zl_1000, zl_9999, zl_10000, zl_1000000, zl_m1, zl_m2, zl_m3, zl_m8] at hi_in_ h0 hm c1 hz2 c3 ⊢); omega)) (by first | with_reducible assumption | ((try simp only [zlt, zle, zeq, zl_0, zl_1, zl_2, zl_3, zl_4, zl_5, zl_6, zl_7, zl_8, zl_9, zl_10, zl_11, zl_12, zl_13, zl_14, zl_15, zl_16, zl_17, zl_18, zl_19, zl_20, zl_21, zl_22, zl_23, zl_24, zl_25, zl_26, zl_27, zl_28, zl_29, zl_30, zl_31, zl_32, zl_33, zl_34, zl_35, zl_36, zl_37, zl_38, zl_39, zl_40, zl_41, zl_42, zl_43, zl_44, zl_45, zl_46, zl_47, zl_48, zl_49, zl_50, zl_51, zl_52, zl_53, zl_54, zl_55, zl_56, zl_57, zl_58, zl_59, zl_60, zl_61, zl_62, zl_63, zl_64, zl_65, zl_82, zl_99, zl_100, zl_160, zl_299, zl_300, zl_301, zl_382, zl_398, zl_399, zl_464, zl_680, zl_862, zl_999, zl_1000, zl_9999, zl_10000, zl_1000000, zl_m1, zl_m2, zl_m3, zl_m8] at hi_in_ h0 hm c1 hz2 c3 ⊢); omega))
        refine lv_iinc (v := z4) (lv' := [(1, .int z4), (0, .ref mA)]) hx hb dX1_lowestInnHere_25 hl (k := 1) rfl (by rw [ez4]; rfl) (by decide) rfl (fun ls hl => ?_)
        refine lv_goto (tgt := 2) hx hb dX1_lowestInnHere_28 (by decide) ?_
        exact ih z4 (by first | with_reducible assumption | ((try simp only [zlt, zle, zeq, zl_0, zl_1, zl_2, zl_3, zl_4, zl_5, zl_6, zl_7, zl_8, zl_9, zl_10, zl_11, zl_12, zl_13, zl_14, zl_15, zl_16, zl_17, zl_18, zl_19, zl_20, zl_21, zl_22, zl_23, zl_24, zl_25, zl_26, zl_27, zl_28, zl_29, zl_30, zl_31, zl_32, zl_33, zl_34, zl_35, zl_36, zl_37, zl_38, zl_39, zl_40, zl_41, zl_42, zl_43, zl_44, zl_45, zl_46, zl_47, zl_48, zl_49, zl_50, zl_51, zl_52, zl_53, zl_54, zl_55, zl_56, zl_57, zl_58, zl_59, zl_60, zl_61, zl_62, zl_63, zl_64, zl_65, zl_82, zl_99, zl_100, zl_160, zl_299, zl_300, zl_301, zl_382, zl_398, zl_399, zl_464, zl_680, zl_862, zl_999, zl_1000, zl_9999, zl_10000, zl_1000000, zl_m1, zl_m2, zl_m3, zl_m8] at hi_in_ h0 hm c1 hz2 c3 hz4 ⊢); omega)) (by first | with_reducible assumption | ((try simp only [zlt, zle, zeq, zl_0, zl_1, zl_2, zl_3, zl_4, zl_5, zl_6, zl_7, zl_8, zl_9, zl_10, zl_11, zl_12, zl_13, zl_14, zl_15, zl_16, zl_17, zl_18, zl_19, zl_20, zl_21, zl_22, zl_23, zl_24, zl_25, zl_26, zl_27, zl_28, zl_29, zl_30, zl_31, zl_32, zl_33, zl_34, zl_35, zl_36, zl_37, zl_38, zl_39, zl_40, zl_41, zl_42, zl_43, zl_44, zl_45, zl_46, zl_47, zl_48, zl_49, zl_50, zl_51, zl_52, zl_53, zl_54, zl_55, zl_56, zl_57, zl_58, zl_59, zl_60, zl_61, zl_62, zl_63, zl_64, zl_65, zl_82, zl_99, zl_100, zl_160, zl_299, zl_300, zl_301, zl_382, zl_398, zl_399, zl_464, zl_680, zl_862, zl_999, zl_1000, zl_9999, zl_10000, zl_1000000, zl_m1, zl_m2, zl_m3, zl_m8] at hi_in_ h0 hm c1 hz2 c3 hz4 ⊢); omega)) _ _ _ hP hD hS (lv_sub hl [1, 0] rfl)
      · refine lv_iload_n hx hb dX1_lowestInnHere_23 rfl (lv_at hl 1 rfl) ?_
        exact z_ret Z rfl hP hD hS (rfl) dX1_lowestInnHere_24 (Nat.le_of_ble_eq_true rfl) (Nat.le_of_ble_eq_true rfl)
set_option maxHeartbeats 4000000 in
set_option maxRecDepth 100000 in
theorem c_X1_lowestInnHere (l : Launch) (D : va_G) (cI cM cT cJ cZ : ClassId) (mA : Nat) (iA : Nat) (in_ : Int32) (pl : Int32) (oa : Int32) (dv : Int32) (dy : Int32) (xx : Int32) (fia : Nat → Int32) (hi_in_ : 0 ≤ in_.toInt ∧ in_.toInt ≤ 10) (hi_pl : 0 ≤ pl.toInt ∧ pl.toInt ≤ 299) (hr_fia : Rng 0 299 10 fia) : Ci l D (ty3 cI cM cT cJ cZ) yX1_lowestInnHere cX1_lowestInnHere 2 (some .int) 0 0 0 [.ref mA] ([(mA, .inr (1, [.ref iA, .int in_, .int pl, .int oa, .int dv, .int dy, .int xx])), (iA, .inl (cI, 10, .inl fia))]) (fun r u => u = [(mA, .inr (1, [.ref iA, .int in_, .int pl, .int oa, .int dv, .int dy, .int xx])), (iA, .inl (cI, 10, .inl fia))]) := by
  refine Ci.of (by decide +kernel) (Nat.le_of_ble_eq_true rfl) ?_
  intro p e s m below meth c A ls Z hin hP hD hl
  have hx := Z.1
  have hb := Z.2.1
  have hS : va_S A s.heap s.heap [] := va_S.rf
  have hl : lv_has ls 2 [(0, .ref mA)] := hl
  skip
  refine lv_iconst (v := 0) hx hb dX1_lowestInnHere_0 (by decide) ?_
  refine lv_istore_n (lv' := [(1, .int 0), (0, .ref mA)]) hx hb dX1_lowestInnHere_1 rfl hl (by decide) rfl (fun ls hl => ?_)
  refine W.widen (k := 0) (n := 0) (Nat.le_of_ble_eq_true rfl) (Nat.le_of_ble_eq_true rfl) ?_
  exact lp_X1_lowest l D cI cM cT cJ cZ mA iA in_ pl oa dv dy xx fia Z hi_in_ hi_pl hr_fia  _ 0 (by first | with_reducible assumption | ((try simp only [zlt, zle, zeq, zl_0, zl_1, zl_2, zl_3, zl_4, zl_5, zl_6, zl_7, zl_8, zl_9, zl_10, zl_11, zl_12, zl_13, zl_14, zl_15, zl_16, zl_17, zl_18, zl_19, zl_20, zl_21, zl_22, zl_23, zl_24, zl_25, zl_26, zl_27, zl_28, zl_29, zl_30, zl_31, zl_32, zl_33, zl_34, zl_35, zl_36, zl_37, zl_38, zl_39, zl_40, zl_41, zl_42, zl_43, zl_44, zl_45, zl_46, zl_47, zl_48, zl_49, zl_50, zl_51, zl_52, zl_53, zl_54, zl_55, zl_56, zl_57, zl_58, zl_59, zl_60, zl_61, zl_62, zl_63, zl_64, zl_65, zl_82, zl_99, zl_100, zl_160, zl_299, zl_300, zl_301, zl_382, zl_398, zl_399, zl_464, zl_680, zl_862, zl_999, zl_1000, zl_9999, zl_10000, zl_1000000, zl_m1, zl_m2, zl_m3, zl_m8] at hi_in_ hi_pl ⊢); omega)) (Nat.lt_succ_self _) _ _ _ hP hD hS (lv_sub hl [1, 0] rfl)
set_option maxHeartbeats 4000000 in
set_option maxRecDepth 100000 in
theorem lp_X11_mud {p : Program} (l : Launch) {e : Env} {s : State} {m : MethodId} {below : List Frame} {meth : Method} {c : Code} {A : Nat → Prop} (D : va_G) (cI cM cT cJ cZ : ClassId) (x : Nat) (p0 : Int32) (p1 : Int32) (p2 : Int32) (st : Nat) (dr : Nat) (nw : Nat) (kp : Nat) (rd : Nat) (tm : Nat) (co : Nat) (rO : Nat) (sT : Nat) (mA : Nat) (sB : Nat) (sA : Nat) (tH : Nat) (tF : Nat) (tS : Nat) (sp : Int32) (tn : Int32) (ru : Int32) (se : Int32) (tr : Int32) (mU : Nat) (bF : Nat) (bT : Nat) (br : Int32) (fmu : Nat → Int32) (s1 : Nat) (s2 : Nat) (s3 : Nat) (ag : Int32) (Z : Zx p s m ([.ref x, .int p0, .int p1, .int p2] : List Value).toArray meth c cX11_mud 5 (some .boolean) yX11_mud.cls A (ty3 cI cM cT cJ cZ) D) (hi_tn : 0 ≤ tn.toInt ∧ tn.toInt ≤ 4) (hi_se : 0 ≤ se.toInt ∧ se.toInt ≤ 6) (hi_tr : 0 ≤ tr.toInt ∧ tr.toInt ≤ 10) (hi_br : 0 ≤ br.toInt ∧ br.toInt ≤ 4) (hr_fmu : Rng 0 9 300 fmu) (hc : (0 ≤ p0 ∧ p0 < 300) ∧ (0 ≤ p1 ∧ p1 < 300) ∧ p0 ≤ p1 ∧ (0 ≤ p2 ∧ p2 ≤ 9)) : ∀ (n0 : Nat) (j : Int32) (g : Nat → Int32) (h0 : 0 ≤ j.toInt ∧ j.toInt ≤ 300) (hg : Rng 0 9 300 g), (300 - j.toInt).toNat < n0 → ∀ (H : Heap) (locs : List Loc) (ls : Array Slot), va_P D vwCl ([(x, .inr (11, [.ref st, .ref dr, .ref nw, .ref kp, .ref rd, .ref tm, .ref co])), (nw, .inr (10, [.ref rO, .ref sT, .ref mA, .ref sB, .ref sA, .ref tH, .ref tF, .ref tS, .int sp, .int tn, .int ru, .int se, .int tr])), (rO, .inr (3, [.ref mU, .ref bF, .ref bT, .int br])), (mU, .inl (cI, 300, .inl g)), (st, .inr (6, [.ref dr, .ref s1, .ref s2, .ref s3, .int ag]))]) H → va_D A ([(x, .inr (11, [.ref st, .ref dr, .ref nw, .ref kp, .ref rd, .ref tm, .ref co])), (nw, .inr (10, [.ref rO, .ref sT, .ref mA, .ref sB, .ref sA, .ref tH, .ref tF, .ref tS, .int sp, .int tn, .int ru, .int se, .int tr])), (rO, .inr (3, [.ref mU, .ref bF, .ref bT, .int br])), (mU, .inl (cI, 300, .inl g)), (st, .inr (6, [.ref dr, .ref s1, .ref s2, .ref s3, .int ag]))]) → va_S A s.heap H locs → lv_has ls 5 [(0, .ref x), (1, .int p0), (2, .int p1), (3, .int p2), (4, .int j)] → W p l e (rmv 2 0 0) s m ([.ref x, .int p0, .int p1, .int p2] : List Value).toArray below meth c H locs 0 0 (MQ below (va_Qi (fun r u => ∃ (fmu_n : Nat → Int32) (ag_n : Int32), (0 ≤ r.toInt ∧ r.toInt ≤ 1) ∧ u = [(x, .inr (11, [.ref st, .ref dr, .ref nw, .ref kp, .ref rd, .ref tm, .ref co])), (nw, .inr (10, [.ref rO, .ref sT, .ref mA, .ref sB, .ref sA, .ref tH, .ref tF, .ref tS, .int sp, .int tn, .int ru, .int se, .int tr])), (rO, .inr (3, [.ref mU, .ref bF, .ref bT, .int br])), (mU, .inl (cI, 300, .inl fmu_n)), (st, .inr (6, [.ref dr, .ref s1, .ref s2, .ref s3, .int ag_n]))] ∧ Rng 0 9 300 fmu_n ∧ ((((0 ≤ p0.toInt ∧ p0.toInt ≤ 299) ∧ (0 ≤ p1.toInt ∧ p1.toInt ≤ 299) ∧ p0.toInt ≤ p1.toInt ∧ (0 ≤ p2.toInt ∧ p2.toInt ≤ 9)) ∧ r.toInt = 1) ∨ (¬ ((0 ≤ p0.toInt ∧ p0.toInt ≤ 299) ∧ (0 ≤ p1.toInt ∧ p1.toInt ≤ 299) ∧ p0.toInt ≤ p1.toInt ∧ (0 ≤ p2.toInt ∧ p2.toInt ≤ 9)) ∧ r.toInt = 0))) (cB D (ty3 cI cM cT cJ cZ) A) A) ([.ref x, .int p0, .int p1, .int p2] : List Value).toArray s 0 0 A) (F0 m 34 ls []) := by
  have hx := Z.1
  have hb := Z.2.1
  intro n0
  induction n0 with
  | zero => intro j g h0 hg hm; exact absurd hm (Nat.not_lt_zero _)
  | succ n0 ih =>
    intro j g h0 hg hm H locs ls hP hD hS hl
    refine lv_iload hx hb dX11_mud_34 (lv_at hl 4 rfl) ?_
    refine lv_iload_n hx hb dX11_mud_36 rfl (lv_at hl 2 rfl) ?_
    refine lv_icmp_gt (tgt := 60) hx hb dX11_mud_37 (by decide) (fun c1 => ?_) (fun c1 => ?_)
    · refine lv_aload_n hx hb dX11_mud_60 rfl (lv_at hl 0 rfl) ?_
      refine z_get Z i_X11 hP 0 rfl rfl 0 (by decide) bw_468 rfl dX11_mud_61 ?_
      have hPc := hP.sub2 (wc := [(st, .inr (6, [.ref dr, .ref s1, .ref s2, .ref s3, .int ag]))]) [4] rfl
      have hDc := hD.sub (ws' := [(st, .inr (6, [.ref dr, .ref s1, .ref s2, .ref s3, .int ag]))]) [4] (by decide) rfl
      refine raw_Vv (ci := 6) (q0 := 0) (nA := 0) (As := []) (rest := []) Z hl.1 (c_X6_forget l D cI cM cT cJ cZ st dr s1 s2 s3 ag) (bw_V bw_500 bw_501 bw_502 bw_81 bw_503) ⟨by decide +kernel, by decide +kernel, by decide +kernel⟩ rfl ⟨Nat.le_of_ble_eq_true rfl, Nat.le_of_ble_eq_true rfl⟩ rfl rfl rfl hPc hDc hS rfl (Nat.le_of_ble_eq_true rfl) dX11_mud_64 ⟨Nat.le_of_ble_eq_true rfl, Nat.le_of_ble_eq_true rfl⟩ (fun u2 H locs h4 hku2 hP1 hD1 hS1 => ?_)
      obtain ⟨ag_n_5, rfl⟩ := h4
      obtain ⟨hP, hD⟩ := z_join (wr := [(x, .inr (11, [.ref st, .ref dr, .ref nw, .ref kp, .ref rd, .ref tm, .ref co])), (nw, .inr (10, [.ref rO, .ref sT, .ref mA, .ref sB, .ref sA, .ref tH, .ref tF, .ref tS, .int sp, .int tn, .int ru, .int se, .int tr])), (rO, .inr (3, [.ref mU, .ref bF, .ref bT, .int br])), (mU, .inl (cI, 300, .inl g))]) Z hS hP hD [4] [0, 1, 2, 3] rfl (by decide) rfl (by decide) (by decide) hku2 hP1 hD1
      have hS := hS1
      clear hS1
      have hP : va_P D vwCl ([(x, .inr (11, [.ref st, .ref dr, .ref nw, .ref kp, .ref rd, .ref tm, .ref co])), (nw, .inr (10, [.ref rO, .ref sT, .ref mA, .ref sB, .ref sA, .ref tH, .ref tF, .ref tS, .int sp, .int tn, .int ru, .int se, .int tr])), (rO, .inr (3, [.ref mU, .ref bF, .ref bT, .int br])), (mU, .inl (cI, 300, .inl g)), (st, .inr (6, [.ref dr, .ref s1, .ref s2, .ref s3, .int ag_n_5]))]) H := hP
      have hD : va_D A ([(x, .inr (11, [.ref st, .ref dr, .ref nw, .ref kp, .ref rd, .ref tm, .ref co])), (nw, .inr (10, [.ref rO, .ref sT, .ref mA, .ref sB, .ref sA, .ref tH, .ref tF, .ref tS, .int sp, .int tn, .int ru, .int se, .int tr])), (rO, .inr (3, [.ref mU, .ref bF, .ref bT, .int br])), (mU, .inl (cI, 300, .inl g)), (st, .inr (6, [.ref dr, .ref s1, .ref s2, .ref s3, .int ag_n_5]))]) := hD
      refine lv_iconst (v := 1) hx hb dX11_mud_67 (by decide) ?_
      exact z_ret Z rfl hP hD hS (⟨g, ag_n_5, (by decide), rfl, hg, (by (try simp only [zlt, zle, zeq, zl_0, zl_1, zl_2, zl_3, zl_4, zl_5, zl_6, zl_7, zl_8, zl_9, zl_10, zl_11, zl_12, zl_13, zl_14, zl_15, zl_16, zl_17, zl_18, zl_19, zl_20, zl_21, zl_22, zl_23, zl_24, zl_25, zl_26, zl_27, zl_28, zl_29, zl_30, zl_31, zl_32, zl_33, zl_34, zl_35, zl_36, zl_37, zl_38, zl_39, zl_40, zl_41, zl_42, zl_43, zl_44, zl_45, zl_46, zl_47, zl_48, zl_49, zl_50, zl_51, zl_52, zl_53, zl_54, zl_55, zl_56, zl_57, zl_58, zl_59, zl_60, zl_61, zl_62, zl_63, zl_64, zl_65, zl_82, zl_99, zl_100, zl_160, zl_299, zl_300, zl_301, zl_382, zl_398, zl_399, zl_464, zl_680, zl_862, zl_999, zl_1000, zl_9999, zl_10000, zl_1000000, zl_m1, zl_m2, zl_m3, zl_m8, and_true, true_and, and_false, false_and, or_false, false_or, or_true, true_or, not_true_eq_false, not_false_eq_true] at hc h0 hm c1 ⊢) <;> omega)⟩) dX11_mud_68 (Nat.le_of_ble_eq_true rfl) (Nat.le_of_ble_eq_true rfl)
    · refine lv_aload_n hx hb dX11_mud_40 rfl (lv_at hl 0 rfl) ?_
      refine z_get Z i_X11 hP 0 rfl rfl 2 (by decide) bw_470 rfl dX11_mud_41 ?_
      refine z_get Z i_X10 hP 1 rfl rfl 0 (by decide) bw_232 rfl dX11_mud_44 ?_
      refine z_get Z i_X3 hP 2 rfl rfl 0 (by decide) bw_135 rfl dX11_mud_47 ?_
      refine lv_iload hx hb dX11_mud_50 (lv_at hl 4 rfl) ?_
      refine lv_iload_n hx hb dX11_mud_52 rfl (lv_at hl 3 rfl) ?_
      refine z_iast Z hP hD hS 3 0 rfl rfl (vp_in_iff.mpr (by first | with_reducible assumption | ((try simp only [zlt, zle, zeq, zl_0, zl_1, zl_2, zl_3, zl_4, zl_5, zl_6, zl_7, zl_8, zl_9, zl_10, zl_11, zl_12, zl_13, zl_14, zl_15, zl_16, zl_17, zl_18, zl_19, zl_20, zl_21, zl_22, zl_23, zl_24, zl_25, zl_26, zl_27, zl_28, zl_29, zl_30, zl_31, zl_32, zl_33, zl_34, zl_35, zl_36, zl_37, zl_38, zl_39, zl_40, zl_41, zl_42, zl_43, zl_44, zl_45, zl_46, zl_47, zl_48, zl_49, zl_50, zl_51, zl_52, zl_53, zl_54, zl_55, zl_56, zl_57, zl_58, zl_59, zl_60, zl_61, zl_62, zl_63, zl_64, zl_65, zl_82, zl_99, zl_100, zl_160, zl_299, zl_300, zl_301, zl_382, zl_398, zl_399, zl_464, zl_680, zl_862, zl_999, zl_1000, zl_9999, zl_10000, zl_1000000, zl_m1, zl_m2, zl_m3, zl_m8] at hc h0 hm c1 ⊢); omega))) dX11_mud_53 (fun H locs hP hD hS => ?_)
      have hrg6 := rng_upd (k := (j : Int32).toNatClampNeg) (v := p2) hg (by first | with_reducible assumption | ((try simp only [zlt, zle, zeq, zl_0, zl_1, zl_2, zl_3, zl_4, zl_5, zl_6, zl_7, zl_8, zl_9, zl_10, zl_11, zl_12, zl_13, zl_14, zl_15, zl_16, zl_17, zl_18, zl_19, zl_20, zl_21, zl_22, zl_23, zl_24, zl_25, zl_26, zl_27, zl_28, zl_29, zl_30, zl_31, zl_32, zl_33, zl_34, zl_35, zl_36, zl_37, zl_38, zl_39, zl_40, zl_41, zl_42, zl_43, zl_44, zl_45, zl_46, zl_47, zl_48, zl_49, zl_50, zl_51, zl_52, zl_53, zl_54, zl_55, zl_56, zl_57, zl_58, zl_59, zl_60, zl_61, zl_62, zl_63, zl_64, zl_65, zl_82, zl_99, zl_100, zl_160, zl_299, zl_300, zl_301, zl_382, zl_398, zl_399, zl_464, zl_680, zl_862, zl_999, zl_1000, zl_9999, zl_10000, zl_1000000, zl_m1, zl_m2, zl_m3, zl_m8] at hc h0 hm c1 ⊢); omega))
      generalize upd g (j : Int32).toNatClampNeg p2 = g6 at hP hD hrg6
      have hP : va_P D vwCl ([(x, .inr (11, [.ref st, .ref dr, .ref nw, .ref kp, .ref rd, .ref tm, .ref co])), (nw, .inr (10, [.ref rO, .ref sT, .ref mA, .ref sB, .ref sA, .ref tH, .ref tF, .ref tS, .int sp, .int tn, .int ru, .int se, .int tr])), (rO, .inr (3, [.ref mU, .ref bF, .ref bT, .int br])), (mU, .inl (cI, 300, .inl g6)), (st, .inr (6, [.ref dr, .ref s1, .ref s2, .ref s3, .int ag]))]) H := hP
      have hD : va_D A ([(x, .inr (11, [.ref st, .ref dr, .ref nw, .ref kp, .ref rd, .ref tm, .ref co])), (nw, .inr (10, [.ref rO, .ref sT, .ref mA, .ref sB, .ref sA, .ref tH, .ref tF, .ref tS, .int sp, .int tn, .int ru, .int se, .int tr])), (rO, .inr (3, [.ref mU, .ref bF, .ref bT, .int br])), (mU, .inl (cI, 300, .inl g6)), (st, .inr (6, [.ref dr, .ref s1, .ref s2, .ref s3, .int ag]))]) := hD
      obtain ⟨z7, ez7⟩ : ∃ y : Int32, y = j + 1 := ⟨_, rfl⟩
      have hz7 : z7.toInt = j.toInt + 1 := by rw [ez7]; exact zaddg (by first | with_reducible assumption | ((try simp only [zlt, zle, zeq, zl_0, zl_1, zl_2, zl_3, zl_4, zl_5, zl_6, zl_7, zl_8, zl_9, zl_10, zl_11, zl_12, zl_13, zl_14, zl_15, zl_16, zl_17, zl_18, zl_19, zl_20, zl_21, zl_22, zl_23, zl_24, zl_25, zl_26, zl_27, zl_28, zl_29, zl_30, zl_31, zl_32, zl_33, zl_34, zl_35, zl_36, zl_37, zl_38, zl_39, zl_40, zl_41, zl_42, zl_43, zl_44, zl_45, zl_46, zl_47, zl_48, zl_49, zl_50, zl_51, zl_52, zl_53, zl_54, zl_55, zl_56, zl_57, zl_58, zl_59, zl_60, zl_61, zl_62, zl_63, zl_64, zl_65, zl_82, zl_99, zl_100, zl_160, zl_299, zl_300, zl_301, zl_382, zl_398, zl_399, zl_464, zl_680, zl_862, zl_999, zl_1000, zl_9999, zl_10000, zl_1000000, zl_m1, zl_m2, zl_m3, zl_m8] at hc h0 hm c1 ⊢); omega)) (by first | with_reducible assumption | ((try simp only [zlt, zle, zeq, zl_0, zl_1, zl_2, zl_3, zl_4, zl_5, zl_6, zl_7, zl_8, zl_9, zl_10, zl_11, zl_12, zl_13, zl_14, zl_15, zl_16, zl_17, zl_18, zl_19, zl_20, zl_21, zl_22, zl_23, zl_24, zl_25, zl_26, zl_27, zl_28, zl_29, zl_30, zl_31, zl_32, zl_33, zl_34, zl_35, zl_36, zl_37, zl_38, zl_39, zl_40, zl_41, zl_42, zl_43, zl_44, zl_45, zl_46, zl_47, zl_48, zl_49, zl_50, zl_51, zl_52, zl_53, zl_54, zl_55, zl_56, zl_57, zl_58, zl_59, zl_60, zl_61, zl_62, zl_63, zl_64, zl_65, zl_82, zl_99, zl_100, zl_160, zl_299, zl_300, zl_301, zl_382, zl_398, zl_399, zl_464, zl_680, zl_862, zl_999, zl_1000, zl_9999, zl_10000, zl_1000000, zl_m1, zl_m2, zl_m3, zl_m8] at hc h0 hm c1 ⊢); omega))
      refine lv_iinc (v := z7) (lv' := [(4, .int z7), (0, .ref x), (1, .int p0), (2, .int p1), (3, .int p2)]) hx hb dX11_mud_54 hl (k := 4) rfl (by rw [ez7]; rfl) (by decide) rfl (fun ls hl => ?_)
      refine lv_goto (tgt := 34) hx hb dX11_mud_57 (by decide) ?_
      exact ih z7 g6 (by first | with_reducible assumption | ((try simp only [zlt, zle, zeq, zl_0, zl_1, zl_2, zl_3, zl_4, zl_5, zl_6, zl_7, zl_8, zl_9, zl_10, zl_11, zl_12, zl_13, zl_14, zl_15, zl_16, zl_17, zl_18, zl_19, zl_20, zl_21, zl_22, zl_23, zl_24, zl_25, zl_26, zl_27, zl_28, zl_29, zl_30, zl_31, zl_32, zl_33, zl_34, zl_35, zl_36, zl_37, zl_38, zl_39, zl_40, zl_41, zl_42, zl_43, zl_44, zl_45, zl_46, zl_47, zl_48, zl_49, zl_50, zl_51, zl_52, zl_53, zl_54, zl_55, zl_56, zl_57, zl_58, zl_59, zl_60, zl_61, zl_62, zl_63, zl_64, zl_65, zl_82, zl_99, zl_100, zl_160, zl_299, zl_300, zl_301, zl_382, zl_398, zl_399, zl_464, zl_680, zl_862, zl_999, zl_1000, zl_9999, zl_10000, zl_1000000, zl_m1, zl_m2, zl_m3, zl_m8] at hc h0 hm c1 hz7 ⊢); omega)) hrg6 (by first | with_reducible assumption | ((try simp only [zlt, zle, zeq, zl_0, zl_1, zl_2, zl_3, zl_4, zl_5, zl_6, zl_7, zl_8, zl_9, zl_10, zl_11, zl_12, zl_13, zl_14, zl_15, zl_16, zl_17, zl_18, zl_19, zl_20, zl_21, zl_22, zl_23, zl_24, zl_25, zl_26, zl_27, zl_28, zl_29, zl_30, zl_31, zl_32, zl_33, zl_34, zl_35, zl_36, zl_37, zl_38, zl_39, zl_40, zl_41, zl_42, zl_43, zl_44, zl_45, zl_46, zl_47, zl_48, zl_49, zl_50, zl_51, zl_52, zl_53, zl_54, zl_55, zl_56, zl_57, zl_58, zl_59, zl_60, zl_61, zl_62, zl_63, zl_64, zl_65, zl_82, zl_99, zl_100, zl_160, zl_299, zl_300, zl_301, zl_382, zl_398, zl_399, zl_464, zl_680, zl_862, zl_999, zl_1000, zl_9999, zl_10000, zl_1000000, zl_m1, zl_m2, zl_m3, zl_m8] at hc h0 hm c1 hz7 ⊢); omega)) _ _ _ hP hD hS (lv_sub hl [1, 2, 3, 4, 0] rfl)
set_option maxHeartbeats 4000000 in
set_option maxRecDepth 100000 in
theorem c_X11_mud (l : Launch) (D : va_G) (cI cM cT cJ cZ : ClassId) (x : Nat) (p0 : Int32) (p1 : Int32) (p2 : Int32) (st : Nat) (dr : Nat) (nw : Nat) (kp : Nat) (rd : Nat) (tm : Nat) (co : Nat) (rO : Nat) (sT : Nat) (mA : Nat) (sB : Nat) (sA : Nat) (tH : Nat) (tF : Nat) (tS : Nat) (sp : Int32) (tn : Int32) (ru : Int32) (se : Int32) (tr : Int32) (mU : Nat) (bF : Nat) (bT : Nat) (br : Int32) (fmu : Nat → Int32) (s1 : Nat) (s2 : Nat) (s3 : Nat) (ag : Int32) (hi_tn : 0 ≤ tn.toInt ∧ tn.toInt ≤ 4) (hi_se : 0 ≤ se.toInt ∧ se.toInt ≤ 6) (hi_tr : 0 ≤ tr.toInt ∧ tr.toInt ≤ 10) (hi_br : 0 ≤ br.toInt ∧ br.toInt ≤ 4) (hr_fmu : Rng 0 9 300 fmu) : Ci l D (ty3 cI cM cT cJ cZ) yX11_mud cX11_mud 5 (some .boolean) 2 0 0 [.ref x, .int p0, .int p1, .int p2] ([(x, .inr (11, [.ref st, .ref dr, .ref nw, .ref kp, .ref rd, .ref tm, .ref co])), (nw, .inr (10, [.ref rO, .ref sT, .ref mA, .ref sB, .ref sA, .ref tH, .ref tF, .ref tS, .int sp, .int tn, .int ru, .int se, .int tr])), (rO, .inr (3, [.ref mU, .ref bF, .ref bT, .int br])), (mU, .inl (cI, 300, .inl fmu)), (st, .inr (6, [.ref dr, .ref s1, .ref s2, .ref s3, .int ag]))]) (fun r u => ∃ (fmu_n : Nat → Int32) (ag_n : Int32), (0 ≤ r.toInt ∧ r.toInt ≤ 1) ∧ u = [(x, .inr (11, [.ref st, .ref dr, .ref nw, .ref kp, .ref rd, .ref tm, .ref co])), (nw, .inr (10, [.ref rO, .ref sT, .ref mA, .ref sB, .ref sA, .ref tH, .ref tF, .ref tS, .int sp, .int tn, .int ru, .int se, .int tr])), (rO, .inr (3, [.ref mU, .ref bF, .ref bT, .int br])), (mU, .inl (cI, 300, .inl fmu_n)), (st, .inr (6, [.ref dr, .ref s1, .ref s2, .ref s3, .int ag_n]))] ∧ Rng 0 9 300 fmu_n ∧ ((((0 ≤ p0.toInt ∧ p0.toInt ≤ 299) ∧ (0 ≤ p1.toInt ∧ p1.toInt ≤ 299) ∧ p0.toInt ≤ p1.toInt ∧ (0 ≤ p2.toInt ∧ p2.toInt ≤ 9)) ∧ r.toInt = 1) ∨ (¬ ((0 ≤ p0.toInt ∧ p0.toInt ≤ 299) ∧ (0 ≤ p1.toInt ∧ p1.toInt ≤ 299) ∧ p0.toInt ≤ p1.toInt ∧ (0 ≤ p2.toInt ∧ p2.toInt ≤ 9)) ∧ r.toInt = 0))) := by
  refine Ci.of (by decide +kernel) (Nat.le_of_ble_eq_true rfl) ?_
  intro p e s m below meth c A ls Z hin hP hD hl
  have hx := Z.1
  have hb := Z.2.1
  have hS : va_S A s.heap s.heap [] := va_S.rf
  have hl : lv_has ls 5 [(0, .ref x), (1, .int p0), (2, .int p1), (3, .int p2)] := hl
  skip
  refine lv_iload_n hx hb dX11_mud_0 rfl (lv_at hl 1 rfl) ?_
  have hPc := hP.sub2 (wc := []) [] rfl
  have hDc := hD.sub (ws' := []) [] (by decide) rfl
  refine raw_Si (nA := 1) (As := [.int p0]) (rest := []) Z hl.1 (c_X11_isPlace l D cI cM cT cJ cZ p0) (bw_S bw_494 bw_495 bw_80 bw_496) ⟨by decide +kernel, by decide +kernel, by decide +kernel⟩ rfl ⟨Nat.le_of_ble_eq_true rfl, Nat.le_of_ble_eq_true rfl⟩ hPc hDc hS rfl (Nat.le_of_ble_eq_true rfl) dX11_mud_1 ⟨Nat.le_of_ble_eq_true rfl, Nat.le_of_ble_eq_true rfl⟩ (fun r2 u1 H locs h3 hku1 hP1 hD1 hS1 => ?_)
  obtain ⟨hrh3, rfl⟩ := h3
  obtain ⟨hP, hD⟩ := z_join (wr := [(x, .inr (11, [.ref st, .ref dr, .ref nw, .ref kp, .ref rd, .ref tm, .ref co])), (nw, .inr (10, [.ref rO, .ref sT, .ref mA, .ref sB, .ref sA, .ref tH, .ref tF, .ref tS, .int sp, .int tn, .int ru, .int se, .int tr])), (rO, .inr (3, [.ref mU, .ref bF, .ref bT, .int br])), (mU, .inl (cI, 300, .inl fmu)), (st, .inr (6, [.ref dr, .ref s1, .ref s2, .ref s3, .int ag]))]) Z hS hP hD [] [0, 1, 2, 3, 4] rfl (by decide +kernel) rfl (by decide +kernel) (by decide +kernel) hku1 hP1 hD1
  have hS := hS1
  clear hS1
  have hP : va_P D vwCl ([(x, .inr (11, [.ref st, .ref dr, .ref nw, .ref kp, .ref rd, .ref tm, .ref co])), (nw, .inr (10, [.ref rO, .ref sT, .ref mA, .ref sB, .ref sA, .ref tH, .ref tF, .ref tS, .int sp, .int tn, .int ru, .int se, .int tr])), (rO, .inr (3, [.ref mU, .ref bF, .ref bT, .int br])), (mU, .inl (cI, 300, .inl fmu)), (st, .inr (6, [.ref dr, .ref s1, .ref s2, .ref s3, .int ag]))]) H := hP
  have hD : va_D A ([(x, .inr (11, [.ref st, .ref dr, .ref nw, .ref kp, .ref rd, .ref tm, .ref co])), (nw, .inr (10, [.ref rO, .ref sT, .ref mA, .ref sB, .ref sA, .ref tH, .ref tF, .ref tS, .int sp, .int tn, .int ru, .int se, .int tr])), (rO, .inr (3, [.ref mU, .ref bF, .ref bT, .int br])), (mU, .inl (cI, 300, .inl fmu)), (st, .inr (6, [.ref dr, .ref s1, .ref s2, .ref s3, .int ag]))]) := hD
  by_cases c4 : 0 ≤ p0 ∧ p0 < 300
  · obtain rfl : r2 = 1 := by rw [hrh3, if_pos c4]
    refine lv_if_eq (tgt := 29) hx hb dX11_mud_4 (by decide) (fun h => absurd h (by decide)) (fun c5 => ?_)
    refine lv_iload_n hx hb dX11_mud_7 rfl (lv_at hl 2 rfl) ?_
    have hPc := hP.sub2 (wc := []) [] rfl
    have hDc := hD.sub (ws' := []) [] (by decide) rfl
    refine raw_Si (nA := 1) (As := [.int p1]) (rest := []) Z hl.1 (c_X11_isPlace l D cI cM cT cJ cZ p1) (bw_S bw_494 bw_495 bw_80 bw_496) ⟨by decide +kernel, by decide +kernel, by decide +kernel⟩ rfl ⟨Nat.le_of_ble_eq_true rfl, Nat.le_of_ble_eq_true rfl⟩ hPc hDc hS rfl (Nat.le_of_ble_eq_true rfl) dX11_mud_8 ⟨Nat.le_of_ble_eq_true rfl, Nat.le_of_ble_eq_true rfl⟩ (fun r7 u6 H locs h8 hku6 hP1 hD1 hS1 => ?_)
    obtain ⟨hrh8, rfl⟩ := h8
    obtain ⟨hP, hD⟩ := z_join (wr := [(x, .inr (11, [.ref st, .ref dr, .ref nw, .ref kp, .ref rd, .ref tm, .ref co])), (nw, .inr (10, [.ref rO, .ref sT, .ref mA, .ref sB, .ref sA, .ref tH, .ref tF, .ref tS, .int sp, .int tn, .int ru, .int se, .int tr])), (rO, .inr (3, [.ref mU, .ref bF, .ref bT, .int br])), (mU, .inl (cI, 300, .inl fmu)), (st, .inr (6, [.ref dr, .ref s1, .ref s2, .ref s3, .int ag]))]) Z hS hP hD [] [0, 1, 2, 3, 4] rfl (by decide +kernel) rfl (by decide +kernel) (by decide +kernel) hku6 hP1 hD1
    have hS := hS1
    clear hS1
    have hP : va_P D vwCl ([(x, .inr (11, [.ref st, .ref dr, .ref nw, .ref kp, .ref rd, .ref tm, .ref co])), (nw, .inr (10, [.ref rO, .ref sT, .ref mA, .ref sB, .ref sA, .ref tH, .ref tF, .ref tS, .int sp, .int tn, .int ru, .int se, .int tr])), (rO, .inr (3, [.ref mU, .ref bF, .ref bT, .int br])), (mU, .inl (cI, 300, .inl fmu)), (st, .inr (6, [.ref dr, .ref s1, .ref s2, .ref s3, .int ag]))]) H := hP
    have hD : va_D A ([(x, .inr (11, [.ref st, .ref dr, .ref nw, .ref kp, .ref rd, .ref tm, .ref co])), (nw, .inr (10, [.ref rO, .ref sT, .ref mA, .ref sB, .ref sA, .ref tH, .ref tF, .ref tS, .int sp, .int tn, .int ru, .int se, .int tr])), (rO, .inr (3, [.ref mU, .ref bF, .ref bT, .int br])), (mU, .inl (cI, 300, .inl fmu)), (st, .inr (6, [.ref dr, .ref s1, .ref s2, .ref s3, .int ag]))]) := hD
    by_cases c9 : 0 ≤ p1 ∧ p1 < 300
    · obtain rfl : r7 = 1 := by rw [hrh8, if_pos c9]
      refine lv_if_eq (tgt := 29) hx hb dX11_mud_11 (by decide) (fun h => absurd h (by decide)) (fun c10 => ?_)
      refine lv_iload_n hx hb dX11_mud_14 rfl (lv_at hl 1 rfl) ?_
      refine lv_iload_n hx hb dX11_mud_15 rfl (lv_at hl 2 rfl) ?_
      refine lv_icmp_gt (tgt := 29) hx hb dX11_mud_16 (by decide) (fun c11 => ?_) (fun c11 => ?_)
      · refine lv_iconst (v := 0) hx hb dX11_mud_29 (by decide) ?_
        exact z_ret Z rfl hP hD hS (⟨fmu, ag, (by decide), rfl, hr_fmu, (by (try simp only [zlt, zle, zeq, zl_0, zl_1, zl_2, zl_3, zl_4, zl_5, zl_6, zl_7, zl_8, zl_9, zl_10, zl_11, zl_12, zl_13, zl_14, zl_15, zl_16, zl_17, zl_18, zl_19, zl_20, zl_21, zl_22, zl_23, zl_24, zl_25, zl_26, zl_27, zl_28, zl_29, zl_30, zl_31, zl_32, zl_33, zl_34, zl_35, zl_36, zl_37, zl_38, zl_39, zl_40, zl_41, zl_42, zl_43, zl_44, zl_45, zl_46, zl_47, zl_48, zl_49, zl_50, zl_51, zl_52, zl_53, zl_54, zl_55, zl_56, zl_57, zl_58, zl_59, zl_60, zl_61, zl_62, zl_63, zl_64, zl_65, zl_82, zl_99, zl_100, zl_160, zl_299, zl_300, zl_301, zl_382, zl_398, zl_399, zl_464, zl_680, zl_862, zl_999, zl_1000, zl_9999, zl_10000, zl_1000000, zl_m1, zl_m2, zl_m3, zl_m8, and_true, true_and, and_false, false_and, or_false, false_or, or_true, true_or, not_true_eq_false, not_false_eq_true] at hi_tn hi_se hi_tr hi_br c4 c5 c9 c10 c11 ⊢) <;> omega)⟩) dX11_mud_30 (Nat.le_of_ble_eq_true rfl) (Nat.le_of_ble_eq_true rfl)
      · refine lv_iload_n hx hb dX11_mud_19 rfl (lv_at hl 3 rfl) ?_
        refine lv_iconst (v := 0) hx hb dX11_mud_20 (by decide) ?_
        refine lv_bipush (v := 9) hx hb dX11_mud_21 (by decide) ?_
        have hPc := hP.sub2 (wc := []) [] rfl
        have hDc := hD.sub (ws' := []) [] (by decide) rfl
        refine raw_Si (nA := 3) (As := [.int p2, .int 0, .int 9]) (rest := []) Z hl.1 (c_X11_isWithin l D cI cM cT cJ cZ p2 0 9) (bw_S bw_497 bw_498 bw_80 bw_499) ⟨by decide +kernel, by decide +kernel, by decide +kernel⟩ rfl ⟨Nat.le_of_ble_eq_true rfl, Nat.le_of_ble_eq_true rfl⟩ hPc hDc hS rfl (Nat.le_of_ble_eq_true rfl) dX11_mud_23 ⟨Nat.le_of_ble_eq_true rfl, Nat.le_of_ble_eq_true rfl⟩ (fun r13 u12 H locs h14 hku12 hP1 hD1 hS1 => ?_)
        obtain ⟨hrh14, rfl⟩ := h14
        obtain ⟨hP, hD⟩ := z_join (wr := [(x, .inr (11, [.ref st, .ref dr, .ref nw, .ref kp, .ref rd, .ref tm, .ref co])), (nw, .inr (10, [.ref rO, .ref sT, .ref mA, .ref sB, .ref sA, .ref tH, .ref tF, .ref tS, .int sp, .int tn, .int ru, .int se, .int tr])), (rO, .inr (3, [.ref mU, .ref bF, .ref bT, .int br])), (mU, .inl (cI, 300, .inl fmu)), (st, .inr (6, [.ref dr, .ref s1, .ref s2, .ref s3, .int ag]))]) Z hS hP hD [] [0, 1, 2, 3, 4] rfl (by decide +kernel) rfl (by decide +kernel) (by decide +kernel) hku12 hP1 hD1
        have hS := hS1
        clear hS1
        have hP : va_P D vwCl ([(x, .inr (11, [.ref st, .ref dr, .ref nw, .ref kp, .ref rd, .ref tm, .ref co])), (nw, .inr (10, [.ref rO, .ref sT, .ref mA, .ref sB, .ref sA, .ref tH, .ref tF, .ref tS, .int sp, .int tn, .int ru, .int se, .int tr])), (rO, .inr (3, [.ref mU, .ref bF, .ref bT, .int br])), (mU, .inl (cI, 300, .inl fmu)), (st, .inr (6, [.ref dr, .ref s1, .ref s2, .ref s3, .int ag]))]) H := hP
        have hD : va_D A ([(x, .inr (11, [.ref st, .ref dr, .ref nw, .ref kp, .ref rd, .ref tm, .ref co])), (nw, .inr (10, [.ref rO, .ref sT, .ref mA, .ref sB, .ref sA, .ref tH, .ref tF, .ref tS, .int sp, .int tn, .int ru, .int se, .int tr])), (rO, .inr (3, [.ref mU, .ref bF, .ref bT, .int br])), (mU, .inl (cI, 300, .inl fmu)), (st, .inr (6, [.ref dr, .ref s1, .ref s2, .ref s3, .int ag]))]) := hD
        by_cases c15 : 0 ≤ p2 ∧ p2 ≤ 9
        · obtain rfl : r13 = 1 := by rw [hrh14, if_pos c15]
          refine lv_if_ne (tgt := 31) hx hb dX11_mud_26 (by decide) (fun c16 => ?_) (fun h => absurd h (by decide))
          refine lv_iload_n hx hb dX11_mud_31 rfl (lv_at hl 1 rfl) ?_
          refine lv_istore (lv' := [(4, .int p0), (0, .ref x), (1, .int p0), (2, .int p1), (3, .int p2)]) hx hb dX11_mud_32 hl (by decide) rfl (fun ls hl => ?_)
          refine W.widen (k := 0) (n := 0) (Nat.le_of_ble_eq_true rfl) (Nat.le_of_ble_eq_true rfl) ?_
          exact lp_X11_mud l D cI cM cT cJ cZ x p0 p1 p2 st dr nw kp rd tm co rO sT mA sB sA tH tF tS sp tn ru se tr mU bF bT br fmu s1 s2 s3 ag Z hi_tn hi_se hi_tr hi_br hr_fmu (by first | with_reducible assumption | ((try simp only [zlt, zle, zeq, zl_0, zl_1, zl_2, zl_3, zl_4, zl_5, zl_6, zl_7, zl_8, zl_9, zl_10, zl_11, zl_12, zl_13, zl_14, zl_15, zl_16, zl_17, zl_18, zl_19, zl_20, zl_21, zl_22, zl_23, zl_24, zl_25, zl_26, zl_27, zl_28, zl_29, zl_30, zl_31, zl_32, zl_33, zl_34, zl_35, zl_36, zl_37, zl_38, zl_39, zl_40, zl_41, zl_42, zl_43, zl_44, zl_45, zl_46, zl_47, zl_48, zl_49, zl_50, zl_51, zl_52, zl_53, zl_54, zl_55, zl_56, zl_57, zl_58, zl_59, zl_60, zl_61, zl_62, zl_63, zl_64, zl_65, zl_82, zl_99, zl_100, zl_160, zl_299, zl_300, zl_301, zl_382, zl_398, zl_399, zl_464, zl_680, zl_862, zl_999, zl_1000, zl_9999, zl_10000, zl_1000000, zl_m1, zl_m2, zl_m3, zl_m8] at hi_tn hi_se hi_tr hi_br c4 c5 c9 c10 c11 c15 c16 ⊢); omega)) _ p0 fmu (by first | with_reducible assumption | ((try simp only [zlt, zle, zeq, zl_0, zl_1, zl_2, zl_3, zl_4, zl_5, zl_6, zl_7, zl_8, zl_9, zl_10, zl_11, zl_12, zl_13, zl_14, zl_15, zl_16, zl_17, zl_18, zl_19, zl_20, zl_21, zl_22, zl_23, zl_24, zl_25, zl_26, zl_27, zl_28, zl_29, zl_30, zl_31, zl_32, zl_33, zl_34, zl_35, zl_36, zl_37, zl_38, zl_39, zl_40, zl_41, zl_42, zl_43, zl_44, zl_45, zl_46, zl_47, zl_48, zl_49, zl_50, zl_51, zl_52, zl_53, zl_54, zl_55, zl_56, zl_57, zl_58, zl_59, zl_60, zl_61, zl_62, zl_63, zl_64, zl_65, zl_82, zl_99, zl_100, zl_160, zl_299, zl_300, zl_301, zl_382, zl_398, zl_399, zl_464, zl_680, zl_862, zl_999, zl_1000, zl_9999, zl_10000, zl_1000000, zl_m1, zl_m2, zl_m3, zl_m8] at hi_tn hi_se hi_tr hi_br c4 c5 c9 c10 c11 c15 c16 ⊢); omega)) hr_fmu (Nat.lt_succ_self _) _ _ _ hP hD hS (lv_sub hl [1, 2, 3, 4, 0] rfl)
        · obtain rfl : r13 = 0 := by rw [hrh14, if_neg c15]
          refine lv_if_ne (tgt := 31) hx hb dX11_mud_26 (by decide) (fun h => absurd (by decide) h) (fun c17 => ?_)
          refine lv_iconst (v := 0) hx hb dX11_mud_29 (by decide) ?_
          exact z_ret Z rfl hP hD hS (⟨fmu, ag, (by decide), rfl, hr_fmu, (by (try simp only [zlt, zle, zeq, zl_0, zl_1, zl_2, zl_3, zl_4, zl_5, zl_6, zl_7, zl_8, zl_9, zl_10, zl_11, zl_12, zl_13, zl_14, zl_15, zl_16, zl_17, zl_18, zl_19, zl_20, zl_21, zl_22, zl_23, zl_24, zl_25, zl_26, zl_27, zl_28, zl_29, zl_30, zl_31, zl_32, zl_33, zl_34, zl_35, zl_36, zl_37, zl_38, zl_39, zl_40, zl_41, zl_42, zl_43, zl_44, zl_45, zl_46, zl_47, zl_48, zl_49, zl_50, zl_51, zl_52, zl_53, zl_54, zl_55, zl_56, zl_57, zl_58, zl_59, zl_60, zl_61, zl_62, zl_63, zl_64, zl_65, zl_82, zl_99, zl_100, zl_160, zl_299, zl_300, zl_301, zl_382, zl_398, zl_399, zl_464, zl_680, zl_862, zl_999, zl_1000, zl_9999, zl_10000, zl_1000000, zl_m1, zl_m2, zl_m3, zl_m8, and_true, true_and, and_false, false_and, or_false, false_or, or_true, true_or, not_true_eq_false, not_false_eq_true] at hi_tn hi_se hi_tr hi_br c4 c5 c9 c10 c11 c15 c17 ⊢) <;> omega)⟩) dX11_mud_30 (Nat.le_of_ble_eq_true rfl) (Nat.le_of_ble_eq_true rfl)
    · obtain rfl : r7 = 0 := by rw [hrh8, if_neg c9]
      refine lv_if_eq (tgt := 29) hx hb dX11_mud_11 (by decide) (fun c18 => ?_) (fun h => absurd (by decide) h)
      refine lv_iconst (v := 0) hx hb dX11_mud_29 (by decide) ?_
      exact z_ret Z rfl hP hD hS (⟨fmu, ag, (by decide), rfl, hr_fmu, (by (try simp only [zlt, zle, zeq, zl_0, zl_1, zl_2, zl_3, zl_4, zl_5, zl_6, zl_7, zl_8, zl_9, zl_10, zl_11, zl_12, zl_13, zl_14, zl_15, zl_16, zl_17, zl_18, zl_19, zl_20, zl_21, zl_22, zl_23, zl_24, zl_25, zl_26, zl_27, zl_28, zl_29, zl_30, zl_31, zl_32, zl_33, zl_34, zl_35, zl_36, zl_37, zl_38, zl_39, zl_40, zl_41, zl_42, zl_43, zl_44, zl_45, zl_46, zl_47, zl_48, zl_49, zl_50, zl_51, zl_52, zl_53, zl_54, zl_55, zl_56, zl_57, zl_58, zl_59, zl_60, zl_61, zl_62, zl_63, zl_64, zl_65, zl_82, zl_99, zl_100, zl_160, zl_299, zl_300, zl_301, zl_382, zl_398, zl_399, zl_464, zl_680, zl_862, zl_999, zl_1000, zl_9999, zl_10000, zl_1000000, zl_m1, zl_m2, zl_m3, zl_m8, and_true, true_and, and_false, false_and, or_false, false_or, or_true, true_or, not_true_eq_false, not_false_eq_true] at hi_tn hi_se hi_tr hi_br c4 c5 c9 c18 ⊢) <;> omega)⟩) dX11_mud_30 (Nat.le_of_ble_eq_true rfl) (Nat.le_of_ble_eq_true rfl)
  · obtain rfl : r2 = 0 := by rw [hrh3, if_neg c4]
    refine lv_if_eq (tgt := 29) hx hb dX11_mud_4 (by decide) (fun c19 => ?_) (fun h => absurd (by decide) h)
    refine lv_iconst (v := 0) hx hb dX11_mud_29 (by decide) ?_
    exact z_ret Z rfl hP hD hS (⟨fmu, ag, (by decide), rfl, hr_fmu, (by (try simp only [zlt, zle, zeq, zl_0, zl_1, zl_2, zl_3, zl_4, zl_5, zl_6, zl_7, zl_8, zl_9, zl_10, zl_11, zl_12, zl_13, zl_14, zl_15, zl_16, zl_17, zl_18, zl_19, zl_20, zl_21, zl_22, zl_23, zl_24, zl_25, zl_26, zl_27, zl_28, zl_29, zl_30, zl_31, zl_32, zl_33, zl_34, zl_35, zl_36, zl_37, zl_38, zl_39, zl_40, zl_41, zl_42, zl_43, zl_44, zl_45, zl_46, zl_47, zl_48, zl_49, zl_50, zl_51, zl_52, zl_53, zl_54, zl_55, zl_56, zl_57, zl_58, zl_59, zl_60, zl_61, zl_62, zl_63, zl_64, zl_65, zl_82, zl_99, zl_100, zl_160, zl_299, zl_300, zl_301, zl_382, zl_398, zl_399, zl_464, zl_680, zl_862, zl_999, zl_1000, zl_9999, zl_10000, zl_1000000, zl_m1, zl_m2, zl_m3, zl_m8, and_true, true_and, and_false, false_and, or_false, false_or, or_true, true_or, not_true_eq_false, not_false_eq_true] at hi_tn hi_se hi_tr hi_br c4 c19 ⊢) <;> omega)⟩) dX11_mud_30 (Nat.le_of_ble_eq_true rfl) (Nat.le_of_ble_eq_true rfl)
set_option maxHeartbeats 4000000 in
set_option maxRecDepth 100000 in
theorem c_X11_bridge (l : Launch) (D : va_G) (cI cM cT cJ cZ : ClassId) (x : Nat) (p0 : Int32) (p1 : Int32) (st : Nat) (dr : Nat) (nw : Nat) (kp : Nat) (rd : Nat) (tm : Nat) (co : Nat) (rO : Nat) (sT : Nat) (mA : Nat) (sB : Nat) (sA : Nat) (tH : Nat) (tF : Nat) (tS : Nat) (sp : Int32) (tn : Int32) (ru : Int32) (se : Int32) (tr : Int32) (mU : Nat) (bF : Nat) (bT : Nat) (br : Int32) (fbf : Nat → Int32) (fbt : Nat → Int32) (s1 : Nat) (s2 : Nat) (s3 : Nat) (ag : Int32) (hi_tn : 0 ≤ tn.toInt ∧ tn.toInt ≤ 4) (hi_se : 0 ≤ se.toInt ∧ se.toInt ≤ 6) (hi_tr : 0 ≤ tr.toInt ∧ tr.toInt ≤ 10) (hi_br : 0 ≤ br.toInt ∧ br.toInt ≤ 4) (hr_fbt : Rng 0 299 4 fbt) : Ci l D (ty3 cI cM cT cJ cZ) yX11_bridge cX11_bridge 4 (some .int) 2 0 0 [.ref x, .int p0, .int p1] ([(x, .inr (11, [.ref st, .ref dr, .ref nw, .ref kp, .ref rd, .ref tm, .ref co])), (nw, .inr (10, [.ref rO, .ref sT, .ref mA, .ref sB, .ref sA, .ref tH, .ref tF, .ref tS, .int sp, .int tn, .int ru, .int se, .int tr])), (rO, .inr (3, [.ref mU, .ref bF, .ref bT, .int br])), (bF, .inl (cI, 4, .inl fbf)), (bT, .inl (cI, 4, .inl fbt)), (st, .inr (6, [.ref dr, .ref s1, .ref s2, .ref s3, .int ag]))]) (fun r u => ∃ (br_n : Int32) (fbf_n : Nat → Int32) (fbt_n : Nat → Int32) (ag_n : Int32), u = [(x, .inr (11, [.ref st, .ref dr, .ref nw, .ref kp, .ref rd, .ref tm, .ref co])), (nw, .inr (10, [.ref rO, .ref sT, .ref mA, .ref sB, .ref sA, .ref tH, .ref tF, .ref tS, .int sp, .int tn, .int ru, .int se, .int tr])), (rO, .inr (3, [.ref mU, .ref bF, .ref bT, .int br_n])), (bF, .inl (cI, 4, .inl fbf_n)), (bT, .inl (cI, 4, .inl fbt_n)), (st, .inr (6, [.ref dr, .ref s1, .ref s2, .ref s3, .int ag_n]))] ∧ (0 ≤ br_n.toInt ∧ br_n.toInt ≤ 4) ∧ Rng 0 299 4 fbt_n ∧ ((((0 ≤ p0.toInt ∧ p0.toInt ≤ 299) ∧ (0 ≤ p1.toInt ∧ p1.toInt ≤ 299) ∧ p0.toInt < p1.toInt ∧ br.toInt < 4) ∧ r.toInt = br.toInt + 1 ∧ br_n.toInt = br.toInt + 1) ∨ (¬ ((0 ≤ p0.toInt ∧ p0.toInt ≤ 299) ∧ (0 ≤ p1.toInt ∧ p1.toInt ≤ 299) ∧ p0.toInt < p1.toInt ∧ br.toInt < 4) ∧ r.toInt = -1 ∧ br_n.toInt = br.toInt))) := by
  refine Ci.of (by decide +kernel) (Nat.le_of_ble_eq_true rfl) ?_
  intro p e s m below meth c A ls Z hin hP hD hl
  have hx := Z.1
  have hb := Z.2.1
  have hS : va_S A s.heap s.heap [] := va_S.rf
  have hl : lv_has ls 4 [(0, .ref x), (1, .int p0), (2, .int p1)] := hl
  skip
  refine lv_aload_n hx hb dX11_bridge_0 rfl (lv_at hl 0 rfl) ?_
  refine z_get Z i_X11 hP 0 rfl rfl 2 (by decide) bw_470 rfl dX11_bridge_1 ?_
  refine z_get Z i_X10 hP 1 rfl rfl 0 (by decide) bw_232 rfl dX11_bridge_4 ?_
  refine lv_astore_n (lv' := [(3, .ref rO), (0, .ref x), (1, .int p0), (2, .int p1)]) hx hb dX11_bridge_7 rfl hl (by decide) rfl (fun ls hl => ?_)
  refine lv_iload_n hx hb dX11_bridge_8 rfl (lv_at hl 2 rfl) ?_
  have hPc := hP.sub2 (wc := []) [] rfl
  have hDc := hD.sub (ws' := []) [] (by decide) rfl
  refine raw_Si (nA := 1) (As := [.int p0]) (rest := []) Z hl.1 (c_X11_isPlace l D cI cM cT cJ cZ p0) (bw_S bw_494 bw_495 bw_80 bw_496) ⟨by decide +kernel, by decide +kernel, by decide +kernel⟩ rfl ⟨Nat.le_of_ble_eq_true rfl, Nat.le_of_ble_eq_true rfl⟩ hPc hDc hS rfl (Nat.le_of_ble_eq_true rfl) dX11_bridge_9 ⟨Nat.le_of_ble_eq_true rfl, Nat.le_of_ble_eq_true rfl⟩ (fun r2 u1 H locs h3 hku1 hP1 hD1 hS1 => ?_)
  obtain ⟨hrh3, rfl⟩ := h3
  obtain ⟨hP, hD⟩ := z_join (wr := [(x, .inr (11, [.ref st, .ref dr, .ref nw, .ref kp, .ref rd, .ref tm, .ref co])), (nw, .inr (10, [.ref rO, .ref sT, .ref mA, .ref sB, .ref sA, .ref tH, .ref tF, .ref tS, .int sp, .int tn, .int ru, .int se, .int tr])), (rO, .inr (3, [.ref mU, .ref bF, .ref bT, .int br])), (bF, .inl (cI, 4, .inl fbf)), (bT, .inl (cI, 4, .inl fbt)), (st, .inr (6, [.ref dr, .ref s1, .ref s2, .ref s3, .int ag]))]) Z hS hP hD [] [0, 1, 2, 3, 4, 5] rfl (by decide +kernel) rfl (by decide +kernel) (by decide +kernel) hku1 hP1 hD1
  have hS := hS1
  clear hS1
  have hP : va_P D vwCl ([(x, .inr (11, [.ref st, .ref dr, .ref nw, .ref kp, .ref rd, .ref tm, .ref co])), (nw, .inr (10, [.ref rO, .ref sT, .ref mA, .ref sB, .ref sA, .ref tH, .ref tF, .ref tS, .int sp, .int tn, .int ru, .int se, .int tr])), (rO, .inr (3, [.ref mU, .ref bF, .ref bT, .int br])), (bF, .inl (cI, 4, .inl fbf)), (bT, .inl (cI, 4, .inl fbt)), (st, .inr (6, [.ref dr, .ref s1, .ref s2, .ref s3, .int ag]))]) H := hP
  have hD : va_D A ([(x, .inr (11, [.ref st, .ref dr, .ref nw, .ref kp, .ref rd, .ref tm, .ref co])), (nw, .inr (10, [.ref rO, .ref sT, .ref mA, .ref sB, .ref sA, .ref tH, .ref tF, .ref tS, .int sp, .int tn, .int ru, .int se, .int tr])), (rO, .inr (3, [.ref mU, .ref bF, .ref bT, .int br])), (bF, .inl (cI, 4, .inl fbf)), (bT, .inl (cI, 4, .inl fbt)), (st, .inr (6, [.ref dr, .ref s1, .ref s2, .ref s3, .int ag]))]) := hD
  by_cases c4 : 0 ≤ p0 ∧ p0 < 300
  · obtain rfl : r2 = 1 := by rw [hrh3, if_pos c4]
    refine lv_if_eq (tgt := 35) hx hb dX11_bridge_12 (by decide) (fun h => absurd h (by decide)) (fun c5 => ?_)
    refine lv_iload_n hx hb dX11_bridge_15 rfl (lv_at hl 3 rfl) ?_
    have hPc := hP.sub2 (wc := []) [] rfl
    have hDc := hD.sub (ws' := []) [] (by decide) rfl
    refine raw_Si (nA := 1) (As := [.int p1]) (rest := []) Z hl.1 (c_X11_isPlace l D cI cM cT cJ cZ p1) (bw_S bw_494 bw_495 bw_80 bw_496) ⟨by decide +kernel, by decide +kernel, by decide +kernel⟩ rfl ⟨Nat.le_of_ble_eq_true rfl, Nat.le_of_ble_eq_true rfl⟩ hPc hDc hS rfl (Nat.le_of_ble_eq_true rfl) dX11_bridge_16 ⟨Nat.le_of_ble_eq_true rfl, Nat.le_of_ble_eq_true rfl⟩ (fun r7 u6 H locs h8 hku6 hP1 hD1 hS1 => ?_)
    obtain ⟨hrh8, rfl⟩ := h8
    obtain ⟨hP, hD⟩ := z_join (wr := [(x, .inr (11, [.ref st, .ref dr, .ref nw, .ref kp, .ref rd, .ref tm, .ref co])), (nw, .inr (10, [.ref rO, .ref sT, .ref mA, .ref sB, .ref sA, .ref tH, .ref tF, .ref tS, .int sp, .int tn, .int ru, .int se, .int tr])), (rO, .inr (3, [.ref mU, .ref bF, .ref bT, .int br])), (bF, .inl (cI, 4, .inl fbf)), (bT, .inl (cI, 4, .inl fbt)), (st, .inr (6, [.ref dr, .ref s1, .ref s2, .ref s3, .int ag]))]) Z hS hP hD [] [0, 1, 2, 3, 4, 5] rfl (by decide +kernel) rfl (by decide +kernel) (by decide +kernel) hku6 hP1 hD1
    have hS := hS1
    clear hS1
    have hP : va_P D vwCl ([(x, .inr (11, [.ref st, .ref dr, .ref nw, .ref kp, .ref rd, .ref tm, .ref co])), (nw, .inr (10, [.ref rO, .ref sT, .ref mA, .ref sB, .ref sA, .ref tH, .ref tF, .ref tS, .int sp, .int tn, .int ru, .int se, .int tr])), (rO, .inr (3, [.ref mU, .ref bF, .ref bT, .int br])), (bF, .inl (cI, 4, .inl fbf)), (bT, .inl (cI, 4, .inl fbt)), (st, .inr (6, [.ref dr, .ref s1, .ref s2, .ref s3, .int ag]))]) H := hP
    have hD : va_D A ([(x, .inr (11, [.ref st, .ref dr, .ref nw, .ref kp, .ref rd, .ref tm, .ref co])), (nw, .inr (10, [.ref rO, .ref sT, .ref mA, .ref sB, .ref sA, .ref tH, .ref tF, .ref tS, .int sp, .int tn, .int ru, .int se, .int tr])), (rO, .inr (3, [.ref mU, .ref bF, .ref bT, .int br])), (bF, .inl (cI, 4, .inl fbf)), (bT, .inl (cI, 4, .inl fbt)), (st, .inr (6, [.ref dr, .ref s1, .ref s2, .ref s3, .int ag]))]) := hD
    by_cases c9 : 0 ≤ p1 ∧ p1 < 300
    · obtain rfl : r7 = 1 := by rw [hrh8, if_pos c9]
      refine lv_if_eq (tgt := 35) hx hb dX11_bridge_19 (by decide) (fun h => absurd h (by decide)) (fun c10 => ?_)
      refine lv_iload_n hx hb dX11_bridge_22 rfl (lv_at hl 2 rfl) ?_
      refine lv_iload_n hx hb dX11_bridge_23 rfl (lv_at hl 3 rfl) ?_
      refine lv_icmp_ge (tgt := 35) hx hb dX11_bridge_24 (by decide) (fun c11 => ?_) (fun c11 => ?_)
      · refine lv_iconst (v := (-1)) hx hb dX11_bridge_35 (by decide) ?_
        exact z_ret Z rfl hP hD hS (⟨br, fbf, fbt, ag, rfl, (by first | with_reducible assumption | ((try simp only [zlt, zle, zeq, zl_0, zl_1, zl_2, zl_3, zl_4, zl_5, zl_6, zl_7, zl_8, zl_9, zl_10, zl_11, zl_12, zl_13, zl_14, zl_15, zl_16, zl_17, zl_18, zl_19, zl_20, zl_21, zl_22, zl_23, zl_24, zl_25, zl_26, zl_27, zl_28, zl_29, zl_30, zl_31, zl_32, zl_33, zl_34, zl_35, zl_36, zl_37, zl_38, zl_39, zl_40, zl_41, zl_42, zl_43, zl_44, zl_45, zl_46, zl_47, zl_48, zl_49, zl_50, zl_51, zl_52, zl_53, zl_54, zl_55, zl_56, zl_57, zl_58, zl_59, zl_60, zl_61, zl_62, zl_63, zl_64, zl_65, zl_82, zl_99, zl_100, zl_160, zl_299, zl_300, zl_301, zl_382, zl_398, zl_399, zl_464, zl_680, zl_862, zl_999, zl_1000, zl_9999, zl_10000, zl_1000000, zl_m1, zl_m2, zl_m3, zl_m8] at hi_tn hi_se hi_tr hi_br c4 c5 c9 c10 c11 ⊢); omega)), hr_fbt, (by (try simp only [zlt, zle, zeq, zl_0, zl_1, zl_2, zl_3, zl_4, zl_5, zl_6, zl_7, zl_8, zl_9, zl_10, zl_11, zl_12, zl_13, zl_14, zl_15, zl_16, zl_17, zl_18, zl_19, zl_20, zl_21, zl_22, zl_23, zl_24, zl_25, zl_26, zl_27, zl_28, zl_29, zl_30, zl_31, zl_32, zl_33, zl_34, zl_35, zl_36, zl_37, zl_38, zl_39, zl_40, zl_41, zl_42, zl_43, zl_44, zl_45, zl_46, zl_47, zl_48, zl_49, zl_50, zl_51, zl_52, zl_53, zl_54, zl_55, zl_56, zl_57, zl_58, zl_59, zl_60, zl_61, zl_62, zl_63, zl_64, zl_65, zl_82, zl_99, zl_100, zl_160, zl_299, zl_300, zl_301, zl_382, zl_398, zl_399, zl_464, zl_680, zl_862, zl_999, zl_1000, zl_9999, zl_10000, zl_1000000, zl_m1, zl_m2, zl_m3, zl_m8, and_true, true_and, and_false, false_and, or_false, false_or, or_true, true_or, not_true_eq_false, not_false_eq_true] at hi_tn hi_se hi_tr hi_br c4 c5 c9 c10 c11 ⊢) <;> omega)⟩) dX11_bridge_36 (Nat.le_of_ble_eq_true rfl) (Nat.le_of_ble_eq_true rfl)
      · refine lv_aload_n hx hb dX11_bridge_27 rfl (lv_at hl 0 rfl) ?_
        refine z_get Z i_X3 hP 2 rfl rfl 3 (by decide) bw_142 rfl dX11_bridge_28 ?_
        refine lv_iconst (v := 4) hx hb dX11_bridge_31 (by decide) ?_
        refine lv_icmp_lt (tgt := 37) hx hb dX11_bridge_32 (by decide) (fun c12 => ?_) (fun c12 => ?_)
        · refine lv_aload_n hx hb dX11_bridge_37 rfl (lv_at hl 0 rfl) ?_
          refine z_get Z i_X3 hP 2 rfl rfl 1 (by decide) bw_138 rfl dX11_bridge_38 ?_
          refine lv_aload_n hx hb dX11_bridge_41 rfl (lv_at hl 0 rfl) ?_
          refine z_get Z i_X3 hP 2 rfl rfl 3 (by decide) bw_142 rfl dX11_bridge_42 ?_
          refine lv_iload_n hx hb dX11_bridge_45 rfl (lv_at hl 2 rfl) ?_
          refine z_iast Z hP hD hS 3 0 rfl rfl (vp_in_iff.mpr (by first | with_reducible assumption | ((try simp only [zlt, zle, zeq, zl_0, zl_1, zl_2, zl_3, zl_4, zl_5, zl_6, zl_7, zl_8, zl_9, zl_10, zl_11, zl_12, zl_13, zl_14, zl_15, zl_16, zl_17, zl_18, zl_19, zl_20, zl_21, zl_22, zl_23, zl_24, zl_25, zl_26, zl_27, zl_28, zl_29, zl_30, zl_31, zl_32, zl_33, zl_34, zl_35, zl_36, zl_37, zl_38, zl_39, zl_40, zl_41, zl_42, zl_43, zl_44, zl_45, zl_46, zl_47, zl_48, zl_49, zl_50, zl_51, zl_52, zl_53, zl_54, zl_55, zl_56, zl_57, zl_58, zl_59, zl_60, zl_61, zl_62, zl_63, zl_64, zl_65, zl_82, zl_99, zl_100, zl_160, zl_299, zl_300, zl_301, zl_382, zl_398, zl_399, zl_464, zl_680, zl_862, zl_999, zl_1000, zl_9999, zl_10000, zl_1000000, zl_m1, zl_m2, zl_m3, zl_m8] at hi_tn hi_se hi_tr hi_br c4 c5 c9 c10 c11 c12 ⊢); omega))) dX11_bridge_46 (fun H locs hP hD hS => ?_)
          generalize upd fbf (br : Int32).toNatClampNeg p0 = g13 at hP hD
          have hP : va_P D vwCl ([(x, .inr (11, [.ref st, .ref dr, .ref nw, .ref kp, .ref rd, .ref tm, .ref co])), (nw, .inr (10, [.ref rO, .ref sT, .ref mA, .ref sB, .ref sA, .ref tH, .ref tF, .ref tS, .int sp, .int tn, .int ru, .int se, .int tr])), (rO, .inr (3, [.ref mU, .ref bF, .ref bT, .int br])), (bF, .inl (cI, 4, .inl g13)), (bT, .inl (cI, 4, .inl fbt)), (st, .inr (6, [.ref dr, .ref s1, .ref s2, .ref s3, .int ag]))]) H := hP
          have hD : va_D A ([(x, .inr (11, [.ref st, .ref dr, .ref nw, .ref kp, .ref rd, .ref tm, .ref co])), (nw, .inr (10, [.ref rO, .ref sT, .ref mA, .ref sB, .ref sA, .ref tH, .ref tF, .ref tS, .int sp, .int tn, .int ru, .int se, .int tr])), (rO, .inr (3, [.ref mU, .ref bF, .ref bT, .int br])), (bF, .inl (cI, 4, .inl g13)), (bT, .inl (cI, 4, .inl fbt)), (st, .inr (6, [.ref dr, .ref s1, .ref s2, .ref s3, .int ag]))]) := hD
          refine lv_aload_n hx hb dX11_bridge_47 rfl (lv_at hl 0 rfl) ?_
          refine z_get Z i_X3 hP 2 rfl rfl 2 (by decide) bw_140 rfl dX11_bridge_48 ?_
          refine lv_aload_n hx hb dX11_bridge_51 rfl (lv_at hl 0 rfl) ?_
          refine z_get Z i_X3 hP 2 rfl rfl 3 (by decide) bw_142 rfl dX11_bridge_52 ?_
          refine lv_iload_n hx hb dX11_bridge_55 rfl (lv_at hl 3 rfl) ?_
          refine z_iast Z hP hD hS 4 0 rfl rfl (vp_in_iff.mpr (by first | with_reducible assumption | ((try simp only [zlt, zle, zeq, zl_0, zl_1, zl_2, zl_3, zl_4, zl_5, zl_6, zl_7, zl_8, zl_9, zl_10, zl_11, zl_12, zl_13, zl_14, zl_15, zl_16, zl_17, zl_18, zl_19, zl_20, zl_21, zl_22, zl_23, zl_24, zl_25, zl_26, zl_27, zl_28, zl_29, zl_30, zl_31, zl_32, zl_33, zl_34, zl_35, zl_36, zl_37, zl_38, zl_39, zl_40, zl_41, zl_42, zl_43, zl_44, zl_45, zl_46, zl_47, zl_48, zl_49, zl_50, zl_51, zl_52, zl_53, zl_54, zl_55, zl_56, zl_57, zl_58, zl_59, zl_60, zl_61, zl_62, zl_63, zl_64, zl_65, zl_82, zl_99, zl_100, zl_160, zl_299, zl_300, zl_301, zl_382, zl_398, zl_399, zl_464, zl_680, zl_862, zl_999, zl_1000, zl_9999, zl_10000, zl_1000000, zl_m1, zl_m2, zl_m3, zl_m8] at hi_tn hi_se hi_tr hi_br c4 c5 c9 c10 c11 c12 ⊢); omega))) dX11_bridge_56 (fun H locs hP hD hS => ?_)
          have hrg14 := rng_upd (k := (br : Int32).toNatClampNeg) (v := p1) hr_fbt (by first | with_reducible assumption | ((try simp only [zlt, zle, zeq, zl_0, zl_1, zl_2, zl_3, zl_4, zl_5, zl_6, zl_7, zl_8, zl_9, zl_10, zl_11, zl_12, zl_13, zl_14, zl_15, zl_16, zl_17, zl_18, zl_19, zl_20, zl_21, zl_22, zl_23, zl_24, zl_25, zl_26, zl_27, zl_28, zl_29, zl_30, zl_31, zl_32, zl_33, zl_34, zl_35, zl_36, zl_37, zl_38, zl_39, zl_40, zl_41, zl_42, zl_43, zl_44, zl_45, zl_46, zl_47, zl_48, zl_49, zl_50, zl_51, zl_52, zl_53, zl_54, zl_55, zl_56, zl_57, zl_58, zl_59, zl_60, zl_61, zl_62, zl_63, zl_64, zl_65, zl_82, zl_99, zl_100, zl_160, zl_299, zl_300, zl_301, zl_382, zl_398, zl_399, zl_464, zl_680, zl_862, zl_999, zl_1000, zl_9999, zl_10000, zl_1000000, zl_m1, zl_m2, zl_m3, zl_m8] at hi_tn hi_se hi_tr hi_br c4 c5 c9 c10 c11 c12 ⊢); omega))
          generalize upd fbt (br : Int32).toNatClampNeg p1 = g14 at hP hD hrg14
          have hP : va_P D vwCl ([(x, .inr (11, [.ref st, .ref dr, .ref nw, .ref kp, .ref rd, .ref tm, .ref co])), (nw, .inr (10, [.ref rO, .ref sT, .ref mA, .ref sB, .ref sA, .ref tH, .ref tF, .ref tS, .int sp, .int tn, .int ru, .int se, .int tr])), (rO, .inr (3, [.ref mU, .ref bF, .ref bT, .int br])), (bF, .inl (cI, 4, .inl g13)), (bT, .inl (cI, 4, .inl g14)), (st, .inr (6, [.ref dr, .ref s1, .ref s2, .ref s3, .int ag]))]) H := hP
          have hD : va_D A ([(x, .inr (11, [.ref st, .ref dr, .ref nw, .ref kp, .ref rd, .ref tm, .ref co])), (nw, .inr (10, [.ref rO, .ref sT, .ref mA, .ref sB, .ref sA, .ref tH, .ref tF, .ref tS, .int sp, .int tn, .int ru, .int se, .int tr])), (rO, .inr (3, [.ref mU, .ref bF, .ref bT, .int br])), (bF, .inl (cI, 4, .inl g13)), (bT, .inl (cI, 4, .inl g14)), (st, .inr (6, [.ref dr, .ref s1, .ref s2, .ref s3, .int ag]))]) := hD
          refine lv_aload_n hx hb dX11_bridge_57 rfl (lv_at hl 0 rfl) ?_
          refine lv_dup hx hb dX11_bridge_58 rfl ?_
          refine z_get Z i_X3 hP 2 rfl rfl 3 (by decide) bw_142 rfl dX11_bridge_59 ?_
          refine lv_iconst (v := 1) hx hb dX11_bridge_62 (by decide) ?_
          refine lv_iadd hx hb dX11_bridge_63 ?_
          refine lv_topi (fun z15 ez15 => ?_)
          have hz15 : z15.toInt = br.toInt + 1 := by rw [ez15]; exact zaddg (by first | with_reducible assumption | ((try simp only [zlt, zle, zeq, zl_0, zl_1, zl_2, zl_3, zl_4, zl_5, zl_6, zl_7, zl_8, zl_9, zl_10, zl_11, zl_12, zl_13, zl_14, zl_15, zl_16, zl_17, zl_18, zl_19, zl_20, zl_21, zl_22, zl_23, zl_24, zl_25, zl_26, zl_27, zl_28, zl_29, zl_30, zl_31, zl_32, zl_33, zl_34, zl_35, zl_36, zl_37, zl_38, zl_39, zl_40, zl_41, zl_42, zl_43, zl_44, zl_45, zl_46, zl_47, zl_48, zl_49, zl_50, zl_51, zl_52, zl_53, zl_54, zl_55, zl_56, zl_57, zl_58, zl_59, zl_60, zl_61, zl_62, zl_63, zl_64, zl_65, zl_82, zl_99, zl_100, zl_160, zl_299, zl_300, zl_301, zl_382, zl_398, zl_399, zl_464, zl_680, zl_862, zl_999, zl_1000, zl_9999, zl_10000, zl_1000000, zl_m1, zl_m2, zl_m3, zl_m8] at hi_tn hi_se hi_tr hi_br c4 c5 c9 c10 c11 c12 ⊢); omega)) (by first | with_reducible assumption | ((try simp only [zlt, zle, zeq, zl_0, zl_1, zl_2, zl_3, zl_4, zl_5, zl_6, zl_7, zl_8, zl_9, zl_10, zl_11, zl_12, zl_13, zl_14, zl_15, zl_16, zl_17, zl_18, zl_19, zl_20, zl_21, zl_22, zl_23, zl_24, zl_25, zl_26, zl_27, zl_28, zl_29, zl_30, zl_31, zl_32, zl_33, zl_34, zl_35, zl_36, zl_37, zl_38, zl_39, zl_40, zl_41, zl_42, zl_43, zl_44, zl_45, zl_46, zl_47, zl_48, zl_49, zl_50, zl_51, zl_52, zl_53, zl_54, zl_55, zl_56, zl_57, zl_58, zl_59, zl_60, zl_61, zl_62, zl_63, zl_64, zl_65, zl_82, zl_99, zl_100, zl_160, zl_299, zl_300, zl_301, zl_382, zl_398, zl_399, zl_464, zl_680, zl_862, zl_999, zl_1000, zl_9999, zl_10000, zl_1000000, zl_m1, zl_m2, zl_m3, zl_m8] at hi_tn hi_se hi_tr hi_br c4 c5 c9 c10 c11 c12 ⊢); omega))
          refine z_put Z i_X3 tyX3 tyX3_ok nmX3 hP hD hS 2 rfl rfl 3 (by decide) bw_142 rfl rfl rfl (Nat.le_of_ble_eq_true rfl) dX11_bridge_64 (fun H locs hP hD hS => ?_)
          have hP : va_P D vwCl ([(x, .inr (11, [.ref st, .ref dr, .ref nw, .ref kp, .ref rd, .ref tm, .ref co])), (nw, .inr (10, [.ref rO, .ref sT, .ref mA, .ref sB, .ref sA, .ref tH, .ref tF, .ref tS, .int sp, .int tn, .int ru, .int se, .int tr])), (rO, .inr (3, [.ref mU, .ref bF, .ref bT, .int z15])), (bF, .inl (cI, 4, .inl g13)), (bT, .inl (cI, 4, .inl g14)), (st, .inr (6, [.ref dr, .ref s1, .ref s2, .ref s3, .int ag]))]) H := hP
          have hD : va_D A ([(x, .inr (11, [.ref st, .ref dr, .ref nw, .ref kp, .ref rd, .ref tm, .ref co])), (nw, .inr (10, [.ref rO, .ref sT, .ref mA, .ref sB, .ref sA, .ref tH, .ref tF, .ref tS, .int sp, .int tn, .int ru, .int se, .int tr])), (rO, .inr (3, [.ref mU, .ref bF, .ref bT, .int z15])), (bF, .inl (cI, 4, .inl g13)), (bT, .inl (cI, 4, .inl g14)), (st, .inr (6, [.ref dr, .ref s1, .ref s2, .ref s3, .int ag]))]) := hD
          refine lv_aload_n hx hb dX11_bridge_67 rfl (lv_at hl 1 rfl) ?_
          refine z_get Z i_X11 hP 0 rfl rfl 0 (by decide) bw_468 rfl dX11_bridge_68 ?_
          have hPc := hP.sub2 (wc := [(st, .inr (6, [.ref dr, .ref s1, .ref s2, .ref s3, .int ag]))]) [5] rfl
          have hDc := hD.sub (ws' := [(st, .inr (6, [.ref dr, .ref s1, .ref s2, .ref s3, .int ag]))]) [5] (by decide) rfl
          refine raw_Vv (ci := 6) (q0 := 0) (nA := 0) (As := []) (rest := []) Z hl.1 (c_X6_forget l D cI cM cT cJ cZ st dr s1 s2 s3 ag) (bw_V bw_500 bw_501 bw_502 bw_81 bw_503) ⟨by decide +kernel, by decide +kernel, by decide +kernel⟩ rfl ⟨Nat.le_of_ble_eq_true rfl, Nat.le_of_ble_eq_true rfl⟩ rfl rfl rfl hPc hDc hS rfl (Nat.le_of_ble_eq_true rfl) dX11_bridge_71 ⟨Nat.le_of_ble_eq_true rfl, Nat.le_of_ble_eq_true rfl⟩ (fun u16 H locs h18 hku16 hP1 hD1 hS1 => ?_)
          obtain ⟨ag_n_19, rfl⟩ := h18
          obtain ⟨hP, hD⟩ := z_join (wr := [(x, .inr (11, [.ref st, .ref dr, .ref nw, .ref kp, .ref rd, .ref tm, .ref co])), (nw, .inr (10, [.ref rO, .ref sT, .ref mA, .ref sB, .ref sA, .ref tH, .ref tF, .ref tS, .int sp, .int tn, .int ru, .int se, .int tr])), (rO, .inr (3, [.ref mU, .ref bF, .ref bT, .int z15])), (bF, .inl (cI, 4, .inl g13)), (bT, .inl (cI, 4, .inl g14))]) Z hS hP hD [5] [0, 1, 2, 3, 4] rfl (by decide +kernel) rfl (by decide +kernel) (by decide +kernel) hku16 hP1 hD1
          have hS := hS1
          clear hS1
          have hP : va_P D vwCl ([(x, .inr (11, [.ref st, .ref dr, .ref nw, .ref kp, .ref rd, .ref tm, .ref co])), (nw, .inr (10, [.ref rO, .ref sT, .ref mA, .ref sB, .ref sA, .ref tH, .ref tF, .ref tS, .int sp, .int tn, .int ru, .int se, .int tr])), (rO, .inr (3, [.ref mU, .ref bF, .ref bT, .int z15])), (bF, .inl (cI, 4, .inl g13)), (bT, .inl (cI, 4, .inl g14)), (st, .inr (6, [.ref dr, .ref s1, .ref s2, .ref s3, .int ag_n_19]))]) H := hP
          have hD : va_D A ([(x, .inr (11, [.ref st, .ref dr, .ref nw, .ref kp, .ref rd, .ref tm, .ref co])), (nw, .inr (10, [.ref rO, .ref sT, .ref mA, .ref sB, .ref sA, .ref tH, .ref tF, .ref tS, .int sp, .int tn, .int ru, .int se, .int tr])), (rO, .inr (3, [.ref mU, .ref bF, .ref bT, .int z15])), (bF, .inl (cI, 4, .inl g13)), (bT, .inl (cI, 4, .inl g14)), (st, .inr (6, [.ref dr, .ref s1, .ref s2, .ref s3, .int ag_n_19]))]) := hD
          refine lv_aload_n hx hb dX11_bridge_74 rfl (lv_at hl 0 rfl) ?_
          refine z_get Z i_X3 hP 2 rfl rfl 3 (by decide) bw_142 rfl dX11_bridge_75 ?_
          exact z_ret Z rfl hP hD hS (⟨z15, g13, g14, ag_n_19, rfl, (by first | with_reducible assumption | ((try simp only [zlt, zle, zeq, zl_0, zl_1, zl_2, zl_3, zl_4, zl_5, zl_6, zl_7, zl_8, zl_9, zl_10, zl_11, zl_12, zl_13, zl_14, zl_15, zl_16, zl_17, zl_18, zl_19, zl_20, zl_21, zl_22, zl_23, zl_24, zl_25, zl_26, zl_27, zl_28, zl_29, zl_30, zl_31, zl_32, zl_33, zl_34, zl_35, zl_36, zl_37, zl_38, zl_39, zl_40, zl_41, zl_42, zl_43, zl_44, zl_45, zl_46, zl_47, zl_48, zl_49, zl_50, zl_51, zl_52, zl_53, zl_54, zl_55, zl_56, zl_57, zl_58, zl_59, zl_60, zl_61, zl_62, zl_63, zl_64, zl_65, zl_82, zl_99, zl_100, zl_160, zl_299, zl_300, zl_301, zl_382, zl_398, zl_399, zl_464, zl_680, zl_862, zl_999, zl_1000, zl_9999, zl_10000, zl_1000000, zl_m1, zl_m2, zl_m3, zl_m8] at hi_tn hi_se hi_tr hi_br c4 c5 c9 c10 c11 c12 hz15 ⊢); omega)), hrg14, (by (try simp only [zlt, zle, zeq, zl_0, zl_1, zl_2, zl_3, zl_4, zl_5, zl_6, zl_7, zl_8, zl_9, zl_10, zl_11, zl_12, zl_13, zl_14, zl_15, zl_16, zl_17, zl_18, zl_19, zl_20, zl_21, zl_22, zl_23, zl_24, zl_25, zl_26, zl_27, zl_28, zl_29, zl_30, zl_31, zl_32, zl_33, zl_34, zl_35, zl_36, zl_37, zl_38, zl_39, zl_40, zl_41, zl_42, zl_43, zl_44, zl_45, zl_46, zl_47, zl_48, zl_49, zl_50, zl_51, zl_52, zl_53, zl_54, zl_55, zl_56, zl_57, zl_58, zl_59, zl_60, zl_61, zl_62, zl_63, zl_64, zl_65, zl_82, zl_99, zl_100, zl_160, zl_299, zl_300, zl_301, zl_382, zl_398, zl_399, zl_464, zl_680, zl_862, zl_999, zl_1000, zl_9999, zl_10000, zl_1000000, zl_m1, zl_m2, zl_m3, zl_m8, and_true, true_and, and_false, false_and, or_false, false_or, or_true, true_or, not_true_eq_false, not_false_eq_true] at hi_tn hi_se hi_tr hi_br c4 c5 c9 c10 c11 c12 hz15 ⊢) <;> omega)⟩) dX11_bridge_78 (Nat.le_of_ble_eq_true rfl) (Nat.le_of_ble_eq_true rfl)
        · refine lv_iconst (v := (-1)) hx hb dX11_bridge_35 (by decide) ?_
          exact z_ret Z rfl hP hD hS (⟨br, fbf, fbt, ag, rfl, (by first | with_reducible assumption | ((try simp only [zlt, zle, zeq, zl_0, zl_1, zl_2, zl_3, zl_4, zl_5, zl_6, zl_7, zl_8, zl_9, zl_10, zl_11, zl_12, zl_13, zl_14, zl_15, zl_16, zl_17, zl_18, zl_19, zl_20, zl_21, zl_22, zl_23, zl_24, zl_25, zl_26, zl_27, zl_28, zl_29, zl_30, zl_31, zl_32, zl_33, zl_34, zl_35, zl_36, zl_37, zl_38, zl_39, zl_40, zl_41, zl_42, zl_43, zl_44, zl_45, zl_46, zl_47, zl_48, zl_49, zl_50, zl_51, zl_52, zl_53, zl_54, zl_55, zl_56, zl_57, zl_58, zl_59, zl_60, zl_61, zl_62, zl_63, zl_64, zl_65, zl_82, zl_99, zl_100, zl_160, zl_299, zl_300, zl_301, zl_382, zl_398, zl_399, zl_464, zl_680, zl_862, zl_999, zl_1000, zl_9999, zl_10000, zl_1000000, zl_m1, zl_m2, zl_m3, zl_m8] at hi_tn hi_se hi_tr hi_br c4 c5 c9 c10 c11 c12 ⊢); omega)), hr_fbt, (by (try simp only [zlt, zle, zeq, zl_0, zl_1, zl_2, zl_3, zl_4, zl_5, zl_6, zl_7, zl_8, zl_9, zl_10, zl_11, zl_12, zl_13, zl_14, zl_15, zl_16, zl_17, zl_18, zl_19, zl_20, zl_21, zl_22, zl_23, zl_24, zl_25, zl_26, zl_27, zl_28, zl_29, zl_30, zl_31, zl_32, zl_33, zl_34, zl_35, zl_36, zl_37, zl_38, zl_39, zl_40, zl_41, zl_42, zl_43, zl_44, zl_45, zl_46, zl_47, zl_48, zl_49, zl_50, zl_51, zl_52, zl_53, zl_54, zl_55, zl_56, zl_57, zl_58, zl_59, zl_60, zl_61, zl_62, zl_63, zl_64, zl_65, zl_82, zl_99, zl_100, zl_160, zl_299, zl_300, zl_301, zl_382, zl_398, zl_399, zl_464, zl_680, zl_862, zl_999, zl_1000, zl_9999, zl_10000, zl_1000000, zl_m1, zl_m2, zl_m3, zl_m8, and_true, true_and, and_false, false_and, or_false, false_or, or_true, true_or, not_true_eq_false, not_false_eq_true] at hi_tn hi_se hi_tr hi_br c4 c5 c9 c10 c11 c12 ⊢) <;> omega)⟩) dX11_bridge_36 (Nat.le_of_ble_eq_true rfl) (Nat.le_of_ble_eq_true rfl)
    · obtain rfl : r7 = 0 := by rw [hrh8, if_neg c9]
      refine lv_if_eq (tgt := 35) hx hb dX11_bridge_19 (by decide) (fun c20 => ?_) (fun h => absurd (by decide) h)
      refine lv_iconst (v := (-1)) hx hb dX11_bridge_35 (by decide) ?_
      exact z_ret Z rfl hP hD hS (⟨br, fbf, fbt, ag, rfl, (by first | with_reducible assumption | ((try simp only [zlt, zle, zeq, zl_0, zl_1, zl_2, zl_3, zl_4, zl_5, zl_6, zl_7, zl_8, zl_9, zl_10, zl_11, zl_12, zl_13, zl_14, zl_15, zl_16, zl_17, zl_18, zl_19, zl_20, zl_21, zl_22, zl_23, zl_24, zl_25, zl_26, zl_27, zl_28, zl_29, zl_30, zl_31, zl_32, zl_33, zl_34, zl_35, zl_36, zl_37, zl_38, zl_39, zl_40, zl_41, zl_42, zl_43, zl_44, zl_45, zl_46, zl_47, zl_48, zl_49, zl_50, zl_51, zl_52, zl_53, zl_54, zl_55, zl_56, zl_57, zl_58, zl_59, zl_60, zl_61, zl_62, zl_63, zl_64, zl_65, zl_82, zl_99, zl_100, zl_160, zl_299, zl_300, zl_301, zl_382, zl_398, zl_399, zl_464, zl_680, zl_862, zl_999, zl_1000, zl_9999, zl_10000, zl_1000000, zl_m1, zl_m2, zl_m3, zl_m8] at hi_tn hi_se hi_tr hi_br c4 c5 c9 c20 ⊢); omega)), hr_fbt, (by (try simp only [zlt, zle, zeq, zl_0, zl_1, zl_2, zl_3, zl_4, zl_5, zl_6, zl_7, zl_8, zl_9, zl_10, zl_11, zl_12, zl_13, zl_14, zl_15, zl_16, zl_17, zl_18, zl_19, zl_20, zl_21, zl_22, zl_23, zl_24, zl_25, zl_26, zl_27, zl_28, zl_29, zl_30, zl_31, zl_32, zl_33, zl_34, zl_35, zl_36, zl_37, zl_38, zl_39, zl_40, zl_41, zl_42, zl_43, zl_44, zl_45, zl_46, zl_47, zl_48, zl_49, zl_50, zl_51, zl_52, zl_53, zl_54, zl_55, zl_56, zl_57, zl_58, zl_59, zl_60, zl_61, zl_62, zl_63, zl_64, zl_65, zl_82, zl_99, zl_100, zl_160, zl_299, zl_300, zl_301, zl_382, zl_398, zl_399, zl_464, zl_680, zl_862, zl_999, zl_1000, zl_9999, zl_10000, zl_1000000, zl_m1, zl_m2, zl_m3, zl_m8, and_true, true_and, and_false, false_and, or_false, false_or, or_true, true_or, not_true_eq_false, not_false_eq_true] at hi_tn hi_se hi_tr hi_br c4 c5 c9 c20 ⊢) <;> omega)⟩) dX11_bridge_36 (Nat.le_of_ble_eq_true rfl) (Nat.le_of_ble_eq_true rfl)
  · obtain rfl : r2 = 0 := by rw [hrh3, if_neg c4]
    refine lv_if_eq (tgt := 35) hx hb dX11_bridge_12 (by decide) (fun c21 => ?_) (fun h => absurd (by decide) h)
    refine lv_iconst (v := (-1)) hx hb dX11_bridge_35 (by decide) ?_
    exact z_ret Z rfl hP hD hS (⟨br, fbf, fbt, ag, rfl, (by first | with_reducible assumption | ((try simp only [zlt, zle, zeq, zl_0, zl_1, zl_2, zl_3, zl_4, zl_5, zl_6, zl_7, zl_8, zl_9, zl_10, zl_11, zl_12, zl_13, zl_14, zl_15, zl_16, zl_17, zl_18, zl_19, zl_20, zl_21, zl_22, zl_23, zl_24, zl_25, zl_26, zl_27, zl_28, zl_29, zl_30, zl_31, zl_32, zl_33, zl_34, zl_35, zl_36, zl_37, zl_38, zl_39, zl_40, zl_41, zl_42, zl_43, zl_44, zl_45, zl_46, zl_47, zl_48, zl_49, zl_50, zl_51, zl_52, zl_53, zl_54, zl_55, zl_56, zl_57, zl_58, zl_59, zl_60, zl_61, zl_62, zl_63, zl_64, zl_65, zl_82, zl_99, zl_100, zl_160, zl_299, zl_300, zl_301, zl_382, zl_398, zl_399, zl_464, zl_680, zl_862, zl_999, zl_1000, zl_9999, zl_10000, zl_1000000, zl_m1, zl_m2, zl_m3, zl_m8] at hi_tn hi_se hi_tr hi_br c4 c21 ⊢); omega)), hr_fbt, (by (try simp only [zlt, zle, zeq, zl_0, zl_1, zl_2, zl_3, zl_4, zl_5, zl_6, zl_7, zl_8, zl_9, zl_10, zl_11, zl_12, zl_13, zl_14, zl_15, zl_16, zl_17, zl_18, zl_19, zl_20, zl_21, zl_22, zl_23, zl_24, zl_25, zl_26, zl_27, zl_28, zl_29, zl_30, zl_31, zl_32, zl_33, zl_34, zl_35, zl_36, zl_37, zl_38, zl_39, zl_40, zl_41, zl_42, zl_43, zl_44, zl_45, zl_46, zl_47, zl_48, zl_49, zl_50, zl_51, zl_52, zl_53, zl_54, zl_55, zl_56, zl_57, zl_58, zl_59, zl_60, zl_61, zl_62, zl_63, zl_64, zl_65, zl_82, zl_99, zl_100, zl_160, zl_299, zl_300, zl_301, zl_382, zl_398, zl_399, zl_464, zl_680, zl_862, zl_999, zl_1000, zl_9999, zl_10000, zl_1000000, zl_m1, zl_m2, zl_m3, zl_m8, and_true, true_and, and_false, false_and, or_false, false_or, or_true, true_or, not_true_eq_false, not_false_eq_true] at hi_tn hi_se hi_tr hi_br c4 c21 ⊢) <;> omega)⟩) dX11_bridge_36 (Nat.le_of_ble_eq_true rfl) (Nat.le_of_ble_eq_true rfl)
set_option maxHeartbeats 4000000 in
set_option maxRecDepth 100000 in
theorem c_X11_inn (l : Launch) (D : va_G) (cI cM cT cJ cZ : ClassId) (x : Nat) (p0 : Int32) (st : Nat) (dr : Nat) (nw : Nat) (kp : Nat) (rd : Nat) (tm : Nat) (co : Nat) (rO : Nat) (sT : Nat) (mA : Nat) (sB : Nat) (sA : Nat) (tH : Nat) (tF : Nat) (tS : Nat) (sp : Int32) (tn : Int32) (ru : Int32) (se : Int32) (tr : Int32) (iA : Nat) (in_ : Int32) (pl : Int32) (oa : Int32) (dv : Int32) (dy : Int32) (xx : Int32) (fia : Nat → Int32) (hi_tn : 0 ≤ tn.toInt ∧ tn.toInt ≤ 4) (hi_se : 0 ≤ se.toInt ∧ se.toInt ≤ 6) (hi_tr : 0 ≤ tr.toInt ∧ tr.toInt ≤ 10) (hi_in_ : 0 ≤ in_.toInt ∧ in_.toInt ≤ 10) (hi_pl : 0 ≤ pl.toInt ∧ pl.toInt ≤ 299) (hr_fia : Rng 0 299 10 fia) : Ci l D (ty3 cI cM cT cJ cZ) yX11_inn cX11_inn 3 (some .int) 2 0 0 [.ref x, .int p0] ([(x, .inr (11, [.ref st, .ref dr, .ref nw, .ref kp, .ref rd, .ref tm, .ref co])), (nw, .inr (10, [.ref rO, .ref sT, .ref mA, .ref sB, .ref sA, .ref tH, .ref tF, .ref tS, .int sp, .int tn, .int ru, .int se, .int tr])), (mA, .inr (1, [.ref iA, .int in_, .int pl, .int oa, .int dv, .int dy, .int xx])), (iA, .inl (cI, 10, .inl fia))]) (fun r u => ∃ (in__n : Int32) (fia_n : Nat → Int32), u = [(x, .inr (11, [.ref st, .ref dr, .ref nw, .ref kp, .ref rd, .ref tm, .ref co])), (nw, .inr (10, [.ref rO, .ref sT, .ref mA, .ref sB, .ref sA, .ref tH, .ref tF, .ref tS, .int sp, .int tn, .int ru, .int se, .int tr])), (mA, .inr (1, [.ref iA, .int in__n, .int pl, .int oa, .int dv, .int dy, .int xx])), (iA, .inl (cI, 10, .inl fia_n))] ∧ (0 ≤ in__n.toInt ∧ in__n.toInt ≤ 10) ∧ Rng 0 299 10 fia_n) := by
  refine Ci.of (by decide +kernel) (Nat.le_of_ble_eq_true rfl) ?_
  intro p e s m below meth c A ls Z hin hP hD hl
  have hx := Z.1
  have hb := Z.2.1
  have hS : va_S A s.heap s.heap [] := va_S.rf
  have hl : lv_has ls 3 [(0, .ref x), (1, .int p0)] := hl
  skip
  refine lv_aload_n hx hb dX11_inn_0 rfl (lv_at hl 0 rfl) ?_
  refine z_get Z i_X11 hP 0 rfl rfl 2 (by decide) bw_470 rfl dX11_inn_1 ?_
  refine z_get Z i_X10 hP 1 rfl rfl 2 (by decide) bw_240 rfl dX11_inn_4 ?_
  refine lv_astore_n (lv' := [(2, .ref mA), (0, .ref x), (1, .int p0)]) hx hb dX11_inn_7 rfl hl (by decide) rfl (fun ls hl => ?_)
  refine lv_iload_n hx hb dX11_inn_8 rfl (lv_at hl 2 rfl) ?_
  have hPc := hP.sub2 (wc := []) [] rfl
  have hDc := hD.sub (ws' := []) [] (by decide) rfl
  refine raw_Si (nA := 1) (As := [.int p0]) (rest := []) Z hl.1 (c_X11_isPlace l D cI cM cT cJ cZ p0) (bw_S bw_494 bw_495 bw_80 bw_496) ⟨by decide +kernel, by decide +kernel, by decide +kernel⟩ rfl ⟨Nat.le_of_ble_eq_true rfl, Nat.le_of_ble_eq_true rfl⟩ hPc hDc hS rfl (Nat.le_of_ble_eq_true rfl) dX11_inn_9 ⟨Nat.le_of_ble_eq_true rfl, Nat.le_of_ble_eq_true rfl⟩ (fun r2 u1 H locs h3 hku1 hP1 hD1 hS1 => ?_)
  obtain ⟨hrh3, rfl⟩ := h3
  obtain ⟨hP, hD⟩ := z_join (wr := [(x, .inr (11, [.ref st, .ref dr, .ref nw, .ref kp, .ref rd, .ref tm, .ref co])), (nw, .inr (10, [.ref rO, .ref sT, .ref mA, .ref sB, .ref sA, .ref tH, .ref tF, .ref tS, .int sp, .int tn, .int ru, .int se, .int tr])), (mA, .inr (1, [.ref iA, .int in_, .int pl, .int oa, .int dv, .int dy, .int xx])), (iA, .inl (cI, 10, .inl fia))]) Z hS hP hD [] [0, 1, 2, 3] rfl (by decide) rfl (by decide) (by decide) hku1 hP1 hD1
  have hS := hS1
  clear hS1
  have hP : va_P D vwCl ([(x, .inr (11, [.ref st, .ref dr, .ref nw, .ref kp, .ref rd, .ref tm, .ref co])), (nw, .inr (10, [.ref rO, .ref sT, .ref mA, .ref sB, .ref sA, .ref tH, .ref tF, .ref tS, .int sp, .int tn, .int ru, .int se, .int tr])), (mA, .inr (1, [.ref iA, .int in_, .int pl, .int oa, .int dv, .int dy, .int xx])), (iA, .inl (cI, 10, .inl fia))]) H := hP
  have hD : va_D A ([(x, .inr (11, [.ref st, .ref dr, .ref nw, .ref kp, .ref rd, .ref tm, .ref co])), (nw, .inr (10, [.ref rO, .ref sT, .ref mA, .ref sB, .ref sA, .ref tH, .ref tF, .ref tS, .int sp, .int tn, .int ru, .int se, .int tr])), (mA, .inr (1, [.ref iA, .int in_, .int pl, .int oa, .int dv, .int dy, .int xx])), (iA, .inl (cI, 10, .inl fia))]) := hD
  by_cases c4 : 0 ≤ p0 ∧ p0 < 300
  · obtain rfl : r2 = 1 := by rw [hrh3, if_pos c4]
    refine lv_if_eq (tgt := 24) hx hb dX11_inn_12 (by decide) (fun h => absurd h (by decide)) (fun c5 => ?_)
    refine lv_aload_n hx hb dX11_inn_15 rfl (lv_at hl 0 rfl) ?_
    refine z_get Z i_X1 hP 2 rfl rfl 1 (by decide) bw_184 rfl dX11_inn_16 ?_
    refine lv_bipush (v := 10) hx hb dX11_inn_19 (by decide) ?_
    refine lv_icmp_lt (tgt := 26) hx hb dX11_inn_21 (by decide) (fun c6 => ?_) (fun c6 => ?_)
    · refine lv_aload_n hx hb dX11_inn_26 rfl (lv_at hl 0 rfl) ?_
      refine z_get Z i_X1 hP 2 rfl rfl 0 (by decide) bw_182 rfl dX11_inn_27 ?_
      refine lv_aload_n hx hb dX11_inn_30 rfl (lv_at hl 0 rfl) ?_
      refine z_get Z i_X1 hP 2 rfl rfl 1 (by decide) bw_184 rfl dX11_inn_31 ?_
      refine lv_iload_n hx hb dX11_inn_34 rfl (lv_at hl 2 rfl) ?_
      refine z_iast Z hP hD hS 3 0 rfl rfl (vp_in_iff.mpr (by first | with_reducible assumption | ((try simp only [zlt, zle, zeq, zl_0, zl_1, zl_2, zl_3, zl_4, zl_5, zl_6, zl_7, zl_8, zl_9, zl_10, zl_11, zl_12, zl_13, zl_14, zl_15, zl_16, zl_17, zl_18, zl_19, zl_20, zl_21, zl_22, zl_23, zl_24, zl_25, zl_26, zl_27, zl_28, zl_29, zl_30, zl_31, zl_32, zl_33, zl_34, zl_35, zl_36, zl_37, zl_38, zl_39, zl_40, zl_41, zl_42, zl_43, zl_44, zl_45, zl_46, zl_47, zl_48, zl_49, zl_50, zl_51, zl_52, zl_53, zl_54, zl_55, zl_56, zl_57, zl_58, zl_59, zl_60, zl_61, zl_62, zl_63, zl_64, zl_65, zl_82, zl_99, zl_100, zl_160, zl_299, zl_300, zl_301, zl_382, zl_398, zl_399, zl_464, zl_680, zl_862, zl_999, zl_1000, zl_9999, zl_10000, zl_1000000, zl_m1, zl_m2, zl_m3, zl_m8] at hi_tn hi_se hi_tr hi_in_ hi_pl c4 c5 c6 ⊢); omega))) dX11_inn_35 (fun H locs hP hD hS => ?_)
      have hrg7 := rng_upd (k := (in_ : Int32).toNatClampNeg) (v := p0) hr_fia (by first | with_reducible assumption | ((try simp only [zlt, zle, zeq, zl_0, zl_1, zl_2, zl_3, zl_4, zl_5, zl_6, zl_7, zl_8, zl_9, zl_10, zl_11, zl_12, zl_13, zl_14, zl_15, zl_16, zl_17, zl_18, zl_19, zl_20, zl_21, zl_22, zl_23, zl_24, zl_25, zl_26, zl_27, zl_28, zl_29, zl_30, zl_31, zl_32, zl_33, zl_34, zl_35, zl_36, zl_37, zl_38, zl_39, zl_40, zl_41, zl_42, zl_43, zl_44, zl_45, zl_46, zl_47, zl_48, zl_49, zl_50, zl_51, zl_52, zl_53, zl_54, zl_55, zl_56, zl_57, zl_58, zl_59, zl_60, zl_61, zl_62, zl_63, zl_64, zl_65, zl_82, zl_99, zl_100, zl_160, zl_299, zl_300, zl_301, zl_382, zl_398, zl_399, zl_464, zl_680, zl_862, zl_999, zl_1000, zl_9999, zl_10000, zl_1000000, zl_m1, zl_m2, zl_m3, zl_m8] at hi_tn hi_se hi_tr hi_in_ hi_pl c4 c5 c6 ⊢); omega))
      generalize upd fia (in_ : Int32).toNatClampNeg p0 = g7 at hP hD hrg7
      have hP : va_P D vwCl ([(x, .inr (11, [.ref st, .ref dr, .ref nw, .ref kp, .ref rd, .ref tm, .ref co])), (nw, .inr (10, [.ref rO, .ref sT, .ref mA, .ref sB, .ref sA, .ref tH, .ref tF, .ref tS, .int sp, .int tn, .int ru, .int se, .int tr])), (mA, .inr (1, [.ref iA, .int in_, .int pl, .int oa, .int dv, .int dy, .int xx])), (iA, .inl (cI, 10, .inl g7))]) H := hP
      have hD : va_D A ([(x, .inr (11, [.ref st, .ref dr, .ref nw, .ref kp, .ref rd, .ref tm, .ref co])), (nw, .inr (10, [.ref rO, .ref sT, .ref mA, .ref sB, .ref sA, .ref tH, .ref tF, .ref tS, .int sp, .int tn, .int ru, .int se, .int tr])), (mA, .inr (1, [.ref iA, .int in_, .int pl, .int oa, .int dv, .int dy, .int xx])), (iA, .inl (cI, 10, .inl g7))]) := hD
      refine lv_aload_n hx hb dX11_inn_36 rfl (lv_at hl 0 rfl) ?_
      refine lv_dup hx hb dX11_inn_37 rfl ?_
      refine z_get Z i_X1 hP 2 rfl rfl 1 (by decide) bw_184 rfl dX11_inn_38 ?_
      refine lv_iconst (v := 1) hx hb dX11_inn_41 (by decide) ?_
      refine lv_iadd hx hb dX11_inn_42 ?_
      refine lv_topi (fun z8 ez8 => ?_)
      have hz8 : z8.toInt = in_.toInt + 1 := by rw [ez8]; exact zaddg (by first | with_reducible assumption | ((try simp only [zlt, zle, zeq, zl_0, zl_1, zl_2, zl_3, zl_4, zl_5, zl_6, zl_7, zl_8, zl_9, zl_10, zl_11, zl_12, zl_13, zl_14, zl_15, zl_16, zl_17, zl_18, zl_19, zl_20, zl_21, zl_22, zl_23, zl_24, zl_25, zl_26, zl_27, zl_28, zl_29, zl_30, zl_31, zl_32, zl_33, zl_34, zl_35, zl_36, zl_37, zl_38, zl_39, zl_40, zl_41, zl_42, zl_43, zl_44, zl_45, zl_46, zl_47, zl_48, zl_49, zl_50, zl_51, zl_52, zl_53, zl_54, zl_55, zl_56, zl_57, zl_58, zl_59, zl_60, zl_61, zl_62, zl_63, zl_64, zl_65, zl_82, zl_99, zl_100, zl_160, zl_299, zl_300, zl_301, zl_382, zl_398, zl_399, zl_464, zl_680, zl_862, zl_999, zl_1000, zl_9999, zl_10000, zl_1000000, zl_m1, zl_m2, zl_m3, zl_m8] at hi_tn hi_se hi_tr hi_in_ hi_pl c4 c5 c6 ⊢); omega)) (by first | with_reducible assumption | ((try simp only [zlt, zle, zeq, zl_0, zl_1, zl_2, zl_3, zl_4, zl_5, zl_6, zl_7, zl_8, zl_9, zl_10, zl_11, zl_12, zl_13, zl_14, zl_15, zl_16, zl_17, zl_18, zl_19, zl_20, zl_21, zl_22, zl_23, zl_24, zl_25, zl_26, zl_27, zl_28, zl_29, zl_30, zl_31, zl_32, zl_33, zl_34, zl_35, zl_36, zl_37, zl_38, zl_39, zl_40, zl_41, zl_42, zl_43, zl_44, zl_45, zl_46, zl_47, zl_48, zl_49, zl_50, zl_51, zl_52, zl_53, zl_54, zl_55, zl_56, zl_57, zl_58, zl_59, zl_60, zl_61, zl_62, zl_63, zl_64, zl_65, zl_82, zl_99, zl_100, zl_160, zl_299, zl_300, zl_301, zl_382, zl_398, zl_399, zl_464, zl_680, zl_862, zl_999, zl_1000, zl_9999, zl_10000, zl_1000000, zl_m1, zl_m2, zl_m3, zl_m8] at hi_tn hi_se hi_tr hi_in_ hi_pl c4 c5 c6 ⊢); omega))
      refine z_put Z i_X1 tyX1 tyX1_ok nmX1 hP hD hS 2 rfl rfl 1 (by decide) bw_184 rfl rfl rfl (Nat.le_of_ble_eq_true rfl) dX11_inn_43 (fun H locs hP hD hS => ?_)
      have hP : va_P D vwCl ([(x, .inr (11, [.ref st, .ref dr, .ref nw, .ref kp, .ref rd, .ref tm, .ref co])), (nw, .inr (10, [.ref rO, .ref sT, .ref mA, .ref sB, .ref sA, .ref tH, .ref tF, .ref tS, .int sp, .int tn, .int ru, .int se, .int tr])), (mA, .inr (1, [.ref iA, .int z8, .int pl, .int oa, .int dv, .int dy, .int xx])), (iA, .inl (cI, 10, .inl g7))]) H := hP
      have hD : va_D A ([(x, .inr (11, [.ref st, .ref dr, .ref nw, .ref kp, .ref rd, .ref tm, .ref co])), (nw, .inr (10, [.ref rO, .ref sT, .ref mA, .ref sB, .ref sA, .ref tH, .ref tF, .ref tS, .int sp, .int tn, .int ru, .int se, .int tr])), (mA, .inr (1, [.ref iA, .int z8, .int pl, .int oa, .int dv, .int dy, .int xx])), (iA, .inl (cI, 10, .inl g7))]) := hD
      refine lv_aload_n hx hb dX11_inn_46 rfl (lv_at hl 0 rfl) ?_
      refine z_get Z i_X1 hP 2 rfl rfl 1 (by decide) bw_184 rfl dX11_inn_47 ?_
      exact z_ret Z rfl hP hD hS (⟨z8, g7, rfl, (by first | with_reducible assumption | ((try simp only [zlt, zle, zeq, zl_0, zl_1, zl_2, zl_3, zl_4, zl_5, zl_6, zl_7, zl_8, zl_9, zl_10, zl_11, zl_12, zl_13, zl_14, zl_15, zl_16, zl_17, zl_18, zl_19, zl_20, zl_21, zl_22, zl_23, zl_24, zl_25, zl_26, zl_27, zl_28, zl_29, zl_30, zl_31, zl_32, zl_33, zl_34, zl_35, zl_36, zl_37, zl_38, zl_39, zl_40, zl_41, zl_42, zl_43, zl_44, zl_45, zl_46, zl_47, zl_48, zl_49, zl_50, zl_51, zl_52, zl_53, zl_54, zl_55, zl_56, zl_57, zl_58, zl_59, zl_60, zl_61, zl_62, zl_63, zl_64, zl_65, zl_82, zl_99, zl_100, zl_160, zl_299, zl_300, zl_301, zl_382, zl_398, zl_399, zl_464, zl_680, zl_862, zl_999, zl_1000, zl_9999, zl_10000, zl_1000000, zl_m1, zl_m2, zl_m3, zl_m8] at hi_tn hi_se hi_tr hi_in_ hi_pl c4 c5 c6 hz8 ⊢); omega)), hrg7⟩) dX11_inn_50 (Nat.le_of_ble_eq_true rfl) (Nat.le_of_ble_eq_true rfl)
    · refine lv_iconst (v := (-1)) hx hb dX11_inn_24 (by decide) ?_
      exact z_ret Z rfl hP hD hS (⟨in_, fia, rfl, (by first | with_reducible assumption | ((try simp only [zlt, zle, zeq, zl_0, zl_1, zl_2, zl_3, zl_4, zl_5, zl_6, zl_7, zl_8, zl_9, zl_10, zl_11, zl_12, zl_13, zl_14, zl_15, zl_16, zl_17, zl_18, zl_19, zl_20, zl_21, zl_22, zl_23, zl_24, zl_25, zl_26, zl_27, zl_28, zl_29, zl_30, zl_31, zl_32, zl_33, zl_34, zl_35, zl_36, zl_37, zl_38, zl_39, zl_40, zl_41, zl_42, zl_43, zl_44, zl_45, zl_46, zl_47, zl_48, zl_49, zl_50, zl_51, zl_52, zl_53, zl_54, zl_55, zl_56, zl_57, zl_58, zl_59, zl_60, zl_61, zl_62, zl_63, zl_64, zl_65, zl_82, zl_99, zl_100, zl_160, zl_299, zl_300, zl_301, zl_382, zl_398, zl_399, zl_464, zl_680, zl_862, zl_999, zl_1000, zl_9999, zl_10000, zl_1000000, zl_m1, zl_m2, zl_m3, zl_m8] at hi_tn hi_se hi_tr hi_in_ hi_pl c4 c5 c6 ⊢); omega)), hr_fia⟩) dX11_inn_25 (Nat.le_of_ble_eq_true rfl) (Nat.le_of_ble_eq_true rfl)
  · obtain rfl : r2 = 0 := by rw [hrh3, if_neg c4]
    refine lv_if_eq (tgt := 24) hx hb dX11_inn_12 (by decide) (fun c9 => ?_) (fun h => absurd (by decide) h)
    refine lv_iconst (v := (-1)) hx hb dX11_inn_24 (by decide) ?_
    exact z_ret Z rfl hP hD hS (⟨in_, fia, rfl, (by first | with_reducible assumption | ((try simp only [zlt, zle, zeq, zl_0, zl_1, zl_2, zl_3, zl_4, zl_5, zl_6, zl_7, zl_8, zl_9, zl_10, zl_11, zl_12, zl_13, zl_14, zl_15, zl_16, zl_17, zl_18, zl_19, zl_20, zl_21, zl_22, zl_23, zl_24, zl_25, zl_26, zl_27, zl_28, zl_29, zl_30, zl_31, zl_32, zl_33, zl_34, zl_35, zl_36, zl_37, zl_38, zl_39, zl_40, zl_41, zl_42, zl_43, zl_44, zl_45, zl_46, zl_47, zl_48, zl_49, zl_50, zl_51, zl_52, zl_53, zl_54, zl_55, zl_56, zl_57, zl_58, zl_59, zl_60, zl_61, zl_62, zl_63, zl_64, zl_65, zl_82, zl_99, zl_100, zl_160, zl_299, zl_300, zl_301, zl_382, zl_398, zl_399, zl_464, zl_680, zl_862, zl_999, zl_1000, zl_9999, zl_10000, zl_1000000, zl_m1, zl_m2, zl_m3, zl_m8] at hi_tn hi_se hi_tr hi_in_ hi_pl c4 c9 ⊢); omega)), hr_fia⟩) dX11_inn_25 (Nat.le_of_ble_eq_true rfl) (Nat.le_of_ble_eq_true rfl)
set_option maxHeartbeats 4000000 in
set_option maxRecDepth 100000 in
theorem c_X11_horse (l : Launch) (D : va_G) (cI cM cT cJ cZ : ClassId) (x : Nat) (p0 : Int32) (p1 : Int32) (st : Nat) (dr : Nat) (nw : Nat) (kp : Nat) (rd : Nat) (tm : Nat) (co : Nat) (rO : Nat) (sT : Nat) (mA : Nat) (sB : Nat) (sA : Nat) (tH : Nat) (tF : Nat) (tS : Nat) (sp : Int32) (tn : Int32) (ru : Int32) (se : Int32) (tr : Int32) (cO : Nat) (sH : Nat) (ho : Int32) (fco : Nat → Int32) (fsh : Nat → Int32) (s1 : Nat) (s2 : Nat) (s3 : Nat) (ag : Int32) (hi_tn : 0 ≤ tn.toInt ∧ tn.toInt ≤ 4) (hi_se : 0 ≤ se.toInt ∧ se.toInt ≤ 6) (hi_tr : 0 ≤ tr.toInt ∧ tr.toInt ≤ 10) (hi_ho : 0 ≤ ho.toInt ∧ ho.toInt ≤ 6) (hr_fco : Rng 0 99 6 fco) (hr_fsh : Rng 0 9 6 fsh) : Ci l D (ty3 cI cM cT cJ cZ) yX11_horse cX11_horse 4 (some .int) 2 0 0 [.ref x, .int p0, .int p1] ([(x, .inr (11, [.ref st, .ref dr, .ref nw, .ref kp, .ref rd, .ref tm, .ref co])), (nw, .inr (10, [.ref rO, .ref sT, .ref mA, .ref sB, .ref sA, .ref tH, .ref tF, .ref tS, .int sp, .int tn, .int ru, .int se, .int tr])), (sT, .inr (4, [.ref cO, .ref sH, .int ho])), (cO, .inl (cI, 6, .inl fco)), (sH, .inl (cI, 6, .inl fsh)), (st, .inr (6, [.ref dr, .ref s1, .ref s2, .ref s3, .int ag]))]) (fun r u => ∃ (ho_n : Int32) (fco_n : Nat → Int32) (fsh_n : Nat → Int32) (ag_n : Int32), u = [(x, .inr (11, [.ref st, .ref dr, .ref nw, .ref kp, .ref rd, .ref tm, .ref co])), (nw, .inr (10, [.ref rO, .ref sT, .ref mA, .ref sB, .ref sA, .ref tH, .ref tF, .ref tS, .int sp, .int tn, .int ru, .int se, .int tr])), (sT, .inr (4, [.ref cO, .ref sH, .int ho_n])), (cO, .inl (cI, 6, .inl fco_n)), (sH, .inl (cI, 6, .inl fsh_n)), (st, .inr (6, [.ref dr, .ref s1, .ref s2, .ref s3, .int ag_n]))] ∧ (0 ≤ ho_n.toInt ∧ ho_n.toInt ≤ 6) ∧ Rng 0 99 6 fco_n ∧ Rng 0 9 6 fsh_n ∧ ((((1 ≤ p0.toInt ∧ p0.toInt ≤ 99) ∧ (1 ≤ p1.toInt ∧ p1.toInt ≤ 9) ∧ ho.toInt < 6) ∧ r.toInt = ho.toInt ∧ ho_n.toInt = ho.toInt + 1) ∨ (¬ ((1 ≤ p0.toInt ∧ p0.toInt ≤ 99) ∧ (1 ≤ p1.toInt ∧ p1.toInt ≤ 9) ∧ ho.toInt < 6) ∧ r.toInt = -1 ∧ ho_n.toInt = ho.toInt))) := by
  refine Ci.of (by decide +kernel) (Nat.le_of_ble_eq_true rfl) ?_
  intro p e s m below meth c A ls Z hin hP hD hl
  have hx := Z.1
  have hb := Z.2.1
  have hS : va_S A s.heap s.heap [] := va_S.rf
  have hl : lv_has ls 4 [(0, .ref x), (1, .int p0), (2, .int p1)] := hl
  skip
  refine lv_aload_n hx hb dX11_horse_0 rfl (lv_at hl 0 rfl) ?_
  refine z_get Z i_X11 hP 0 rfl rfl 2 (by decide) bw_470 rfl dX11_horse_1 ?_
  refine z_get Z i_X10 hP 1 rfl rfl 1 (by decide) bw_237 rfl dX11_horse_4 ?_
  refine lv_astore_n (lv' := [(3, .ref sT), (0, .ref x), (1, .int p0), (2, .int p1)]) hx hb dX11_horse_7 rfl hl (by decide) rfl (fun ls hl => ?_)
  refine lv_iload_n hx hb dX11_horse_8 rfl (lv_at hl 2 rfl) ?_
  refine lv_iconst (v := 1) hx hb dX11_horse_9 (by decide) ?_
  refine lv_bipush (v := 99) hx hb dX11_horse_10 (by decide) ?_
  have hPc := hP.sub2 (wc := []) [] rfl
  have hDc := hD.sub (ws' := []) [] (by decide) rfl
  refine raw_Si (nA := 3) (As := [.int p0, .int 1, .int 99]) (rest := []) Z hl.1 (c_X11_isWithin l D cI cM cT cJ cZ p0 1 99) (bw_S bw_497 bw_498 bw_80 bw_499) ⟨by decide +kernel, by decide +kernel, by decide +kernel⟩ rfl ⟨Nat.le_of_ble_eq_true rfl, Nat.le_of_ble_eq_true rfl⟩ hPc hDc hS rfl (Nat.le_of_ble_eq_true rfl) dX11_horse_12 ⟨Nat.le_of_ble_eq_true rfl, Nat.le_of_ble_eq_true rfl⟩ (fun r2 u1 H locs h3 hku1 hP1 hD1 hS1 => ?_)
  obtain ⟨hrh3, rfl⟩ := h3
  obtain ⟨hP, hD⟩ := z_join (wr := [(x, .inr (11, [.ref st, .ref dr, .ref nw, .ref kp, .ref rd, .ref tm, .ref co])), (nw, .inr (10, [.ref rO, .ref sT, .ref mA, .ref sB, .ref sA, .ref tH, .ref tF, .ref tS, .int sp, .int tn, .int ru, .int se, .int tr])), (sT, .inr (4, [.ref cO, .ref sH, .int ho])), (cO, .inl (cI, 6, .inl fco)), (sH, .inl (cI, 6, .inl fsh)), (st, .inr (6, [.ref dr, .ref s1, .ref s2, .ref s3, .int ag]))]) Z hS hP hD [] [0, 1, 2, 3, 4, 5] rfl (by decide +kernel) rfl (by decide +kernel) (by decide +kernel) hku1 hP1 hD1
  have hS := hS1
  clear hS1
  have hP : va_P D vwCl ([(x, .inr (11, [.ref st, .ref dr, .ref nw, .ref kp, .ref rd, .ref tm, .ref co])), (nw, .inr (10, [.ref rO, .ref sT, .ref mA, .ref sB, .ref sA, .ref tH, .ref tF, .ref tS, .int sp, .int tn, .int ru, .int se, .int tr])), (sT, .inr (4, [.ref cO, .ref sH, .int ho])), (cO, .inl (cI, 6, .inl fco)), (sH, .inl (cI, 6, .inl fsh)), (st, .inr (6, [.ref dr, .ref s1, .ref s2, .ref s3, .int ag]))]) H := hP
  have hD : va_D A ([(x, .inr (11, [.ref st, .ref dr, .ref nw, .ref kp, .ref rd, .ref tm, .ref co])), (nw, .inr (10, [.ref rO, .ref sT, .ref mA, .ref sB, .ref sA, .ref tH, .ref tF, .ref tS, .int sp, .int tn, .int ru, .int se, .int tr])), (sT, .inr (4, [.ref cO, .ref sH, .int ho])), (cO, .inl (cI, 6, .inl fco)), (sH, .inl (cI, 6, .inl fsh)), (st, .inr (6, [.ref dr, .ref s1, .ref s2, .ref s3, .int ag]))]) := hD
  by_cases c4 : 1 ≤ p0 ∧ p0 ≤ 99
  · obtain rfl : r2 = 1 := by rw [hrh3, if_pos c4]
    refine lv_if_eq (tgt := 37) hx hb dX11_horse_15 (by decide) (fun h => absurd h (by decide)) (fun c5 => ?_)
    refine lv_iload_n hx hb dX11_horse_18 rfl (lv_at hl 3 rfl) ?_
    refine lv_iconst (v := 1) hx hb dX11_horse_19 (by decide) ?_
    refine lv_bipush (v := 9) hx hb dX11_horse_20 (by decide) ?_
    have hPc := hP.sub2 (wc := []) [] rfl
    have hDc := hD.sub (ws' := []) [] (by decide) rfl
    refine raw_Si (nA := 3) (As := [.int p1, .int 1, .int 9]) (rest := []) Z hl.1 (c_X11_isWithin l D cI cM cT cJ cZ p1 1 9) (bw_S bw_497 bw_498 bw_80 bw_499) ⟨by decide +kernel, by decide +kernel, by decide +kernel⟩ rfl ⟨Nat.le_of_ble_eq_true rfl, Nat.le_of_ble_eq_true rfl⟩ hPc hDc hS rfl (Nat.le_of_ble_eq_true rfl) dX11_horse_22 ⟨Nat.le_of_ble_eq_true rfl, Nat.le_of_ble_eq_true rfl⟩ (fun r7 u6 H locs h8 hku6 hP1 hD1 hS1 => ?_)
    obtain ⟨hrh8, rfl⟩ := h8
    obtain ⟨hP, hD⟩ := z_join (wr := [(x, .inr (11, [.ref st, .ref dr, .ref nw, .ref kp, .ref rd, .ref tm, .ref co])), (nw, .inr (10, [.ref rO, .ref sT, .ref mA, .ref sB, .ref sA, .ref tH, .ref tF, .ref tS, .int sp, .int tn, .int ru, .int se, .int tr])), (sT, .inr (4, [.ref cO, .ref sH, .int ho])), (cO, .inl (cI, 6, .inl fco)), (sH, .inl (cI, 6, .inl fsh)), (st, .inr (6, [.ref dr, .ref s1, .ref s2, .ref s3, .int ag]))]) Z hS hP hD [] [0, 1, 2, 3, 4, 5] rfl (by decide +kernel) rfl (by decide +kernel) (by decide +kernel) hku6 hP1 hD1
    have hS := hS1
    clear hS1
    have hP : va_P D vwCl ([(x, .inr (11, [.ref st, .ref dr, .ref nw, .ref kp, .ref rd, .ref tm, .ref co])), (nw, .inr (10, [.ref rO, .ref sT, .ref mA, .ref sB, .ref sA, .ref tH, .ref tF, .ref tS, .int sp, .int tn, .int ru, .int se, .int tr])), (sT, .inr (4, [.ref cO, .ref sH, .int ho])), (cO, .inl (cI, 6, .inl fco)), (sH, .inl (cI, 6, .inl fsh)), (st, .inr (6, [.ref dr, .ref s1, .ref s2, .ref s3, .int ag]))]) H := hP
    have hD : va_D A ([(x, .inr (11, [.ref st, .ref dr, .ref nw, .ref kp, .ref rd, .ref tm, .ref co])), (nw, .inr (10, [.ref rO, .ref sT, .ref mA, .ref sB, .ref sA, .ref tH, .ref tF, .ref tS, .int sp, .int tn, .int ru, .int se, .int tr])), (sT, .inr (4, [.ref cO, .ref sH, .int ho])), (cO, .inl (cI, 6, .inl fco)), (sH, .inl (cI, 6, .inl fsh)), (st, .inr (6, [.ref dr, .ref s1, .ref s2, .ref s3, .int ag]))]) := hD
    by_cases c9 : 1 ≤ p1 ∧ p1 ≤ 9
    · obtain rfl : r7 = 1 := by rw [hrh8, if_pos c9]
      refine lv_if_eq (tgt := 37) hx hb dX11_horse_25 (by decide) (fun h => absurd h (by decide)) (fun c10 => ?_)
      refine lv_aload_n hx hb dX11_horse_28 rfl (lv_at hl 0 rfl) ?_
      refine z_get Z i_X4 hP 2 rfl rfl 2 (by decide) bw_167 rfl dX11_horse_29 ?_
      refine lv_bipush (v := 6) hx hb dX11_horse_32 (by decide) ?_
      refine lv_icmp_lt (tgt := 39) hx hb dX11_horse_34 (by decide) (fun c11 => ?_) (fun c11 => ?_)
      · refine lv_aload_n hx hb dX11_horse_39 rfl (lv_at hl 0 rfl) ?_
        refine z_get Z i_X4 hP 2 rfl rfl 0 (by decide) bw_161 rfl dX11_horse_40 ?_
        refine lv_aload_n hx hb dX11_horse_43 rfl (lv_at hl 0 rfl) ?_
        refine z_get Z i_X4 hP 2 rfl rfl 2 (by decide) bw_167 rfl dX11_horse_44 ?_
        refine lv_iload_n hx hb dX11_horse_47 rfl (lv_at hl 2 rfl) ?_
        refine z_iast Z hP hD hS 3 0 rfl rfl (vp_in_iff.mpr (by first | with_reducible assumption | ((try simp only [zlt, zle, zeq, zl_0, zl_1, zl_2, zl_3, zl_4, zl_5, zl_6, zl_7, zl_8, zl_9, zl_10, zl_11, zl_12, zl_13, zl_14, zl_15, zl_16, zl_17, zl_18, zl_19, zl_20, zl_21, zl_22, zl_23, zl_24, zl_25, zl_26, zl_27, zl_28, zl_29, zl_30, zl_31, zl_32, zl_33, zl_34, zl_35, zl_36, zl_37, zl_38, zl_39, zl_40, zl_41, zl_42, zl_43, zl_44, zl_45, zl_46, zl_47, zl_48, zl_49, zl_50, zl_51, zl_52, zl_53, zl_54, zl_55, zl_56, zl_57, zl_58, zl_59, zl_60, zl_61, zl_62, zl_63, zl_64, zl_65, zl_82, zl_99, zl_100, zl_160, zl_299, zl_300, zl_301, zl_382, zl_398, zl_399, zl_464, zl_680, zl_862, zl_999, zl_1000, zl_9999, zl_10000, zl_1000000, zl_m1, zl_m2, zl_m3, zl_m8] at hi_tn hi_se hi_tr hi_ho c4 c5 c9 c10 c11 ⊢); omega))) dX11_horse_48 (fun H locs hP hD hS => ?_)
        have hrg12 := rng_upd (k := (ho : Int32).toNatClampNeg) (v := p0) hr_fco (by first | with_reducible assumption | ((try simp only [zlt, zle, zeq, zl_0, zl_1, zl_2, zl_3, zl_4, zl_5, zl_6, zl_7, zl_8, zl_9, zl_10, zl_11, zl_12, zl_13, zl_14, zl_15, zl_16, zl_17, zl_18, zl_19, zl_20, zl_21, zl_22, zl_23, zl_24, zl_25, zl_26, zl_27, zl_28, zl_29, zl_30, zl_31, zl_32, zl_33, zl_34, zl_35, zl_36, zl_37, zl_38, zl_39, zl_40, zl_41, zl_42, zl_43, zl_44, zl_45, zl_46, zl_47, zl_48, zl_49, zl_50, zl_51, zl_52, zl_53, zl_54, zl_55, zl_56, zl_57, zl_58, zl_59, zl_60, zl_61, zl_62, zl_63, zl_64, zl_65, zl_82, zl_99, zl_100, zl_160, zl_299, zl_300, zl_301, zl_382, zl_398, zl_399, zl_464, zl_680, zl_862, zl_999, zl_1000, zl_9999, zl_10000, zl_1000000, zl_m1, zl_m2, zl_m3, zl_m8] at hi_tn hi_se hi_tr hi_ho c4 c5 c9 c10 c11 ⊢); omega))
        generalize upd fco (ho : Int32).toNatClampNeg p0 = g12 at hP hD hrg12
        have hP : va_P D vwCl ([(x, .inr (11, [.ref st, .ref dr, .ref nw, .ref kp, .ref rd, .ref tm, .ref co])), (nw, .inr (10, [.ref rO, .ref sT, .ref mA, .ref sB, .ref sA, .ref tH, .ref tF, .ref tS, .int sp, .int tn, .int ru, .int se, .int tr])), (sT, .inr (4, [.ref cO, .ref sH, .int ho])), (cO, .inl (cI, 6, .inl g12)), (sH, .inl (cI, 6, .inl fsh)), (st, .inr (6, [.ref dr, .ref s1, .ref s2, .ref s3, .int ag]))]) H := hP
        have hD : va_D A ([(x, .inr (11, [.ref st, .ref dr, .ref nw, .ref kp, .ref rd, .ref tm, .ref co])), (nw, .inr (10, [.ref rO, .ref sT, .ref mA, .ref sB, .ref sA, .ref tH, .ref tF, .ref tS, .int sp, .int tn, .int ru, .int se, .int tr])), (sT, .inr (4, [.ref cO, .ref sH, .int ho])), (cO, .inl (cI, 6, .inl g12)), (sH, .inl (cI, 6, .inl fsh)), (st, .inr (6, [.ref dr, .ref s1, .ref s2, .ref s3, .int ag]))]) := hD
        refine lv_aload_n hx hb dX11_horse_49 rfl (lv_at hl 0 rfl) ?_
        refine z_get Z i_X4 hP 2 rfl rfl 1 (by decide) bw_164 rfl dX11_horse_50 ?_
        refine lv_aload_n hx hb dX11_horse_53 rfl (lv_at hl 0 rfl) ?_
        refine z_get Z i_X4 hP 2 rfl rfl 2 (by decide) bw_167 rfl dX11_horse_54 ?_
        refine lv_iload_n hx hb dX11_horse_57 rfl (lv_at hl 3 rfl) ?_
        refine z_iast Z hP hD hS 4 0 rfl rfl (vp_in_iff.mpr (by first | with_reducible assumption | ((try simp only [zlt, zle, zeq, zl_0, zl_1, zl_2, zl_3, zl_4, zl_5, zl_6, zl_7, zl_8, zl_9, zl_10, zl_11, zl_12, zl_13, zl_14, zl_15, zl_16, zl_17, zl_18, zl_19, zl_20, zl_21, zl_22, zl_23, zl_24, zl_25, zl_26, zl_27, zl_28, zl_29, zl_30, zl_31, zl_32, zl_33, zl_34, zl_35, zl_36, zl_37, zl_38, zl_39, zl_40, zl_41, zl_42, zl_43, zl_44, zl_45, zl_46, zl_47, zl_48, zl_49, zl_50, zl_51, zl_52, zl_53, zl_54, zl_55, zl_56, zl_57, zl_58, zl_59, zl_60, zl_61, zl_62, zl_63, zl_64, zl_65, zl_82, zl_99, zl_100, zl_160, zl_299, zl_300, zl_301, zl_382, zl_398, zl_399, zl_464, zl_680, zl_862, zl_999, zl_1000, zl_9999, zl_10000, zl_1000000, zl_m1, zl_m2, zl_m3, zl_m8] at hi_tn hi_se hi_tr hi_ho c4 c5 c9 c10 c11 ⊢); omega))) dX11_horse_58 (fun H locs hP hD hS => ?_)
        have hrg13 := rng_upd (k := (ho : Int32).toNatClampNeg) (v := p1) hr_fsh (by first | with_reducible assumption | ((try simp only [zlt, zle, zeq, zl_0, zl_1, zl_2, zl_3, zl_4, zl_5, zl_6, zl_7, zl_8, zl_9, zl_10, zl_11, zl_12, zl_13, zl_14, zl_15, zl_16, zl_17, zl_18, zl_19, zl_20, zl_21, zl_22, zl_23, zl_24, zl_25, zl_26, zl_27, zl_28, zl_29, zl_30, zl_31, zl_32, zl_33, zl_34, zl_35, zl_36, zl_37, zl_38, zl_39, zl_40, zl_41, zl_42, zl_43, zl_44, zl_45, zl_46, zl_47, zl_48, zl_49, zl_50, zl_51, zl_52, zl_53, zl_54, zl_55, zl_56, zl_57, zl_58, zl_59, zl_60, zl_61, zl_62, zl_63, zl_64, zl_65, zl_82, zl_99, zl_100, zl_160, zl_299, zl_300, zl_301, zl_382, zl_398, zl_399, zl_464, zl_680, zl_862, zl_999, zl_1000, zl_9999, zl_10000, zl_1000000, zl_m1, zl_m2, zl_m3, zl_m8] at hi_tn hi_se hi_tr hi_ho c4 c5 c9 c10 c11 ⊢); omega))
        generalize upd fsh (ho : Int32).toNatClampNeg p1 = g13 at hP hD hrg13
        have hP : va_P D vwCl ([(x, .inr (11, [.ref st, .ref dr, .ref nw, .ref kp, .ref rd, .ref tm, .ref co])), (nw, .inr (10, [.ref rO, .ref sT, .ref mA, .ref sB, .ref sA, .ref tH, .ref tF, .ref tS, .int sp, .int tn, .int ru, .int se, .int tr])), (sT, .inr (4, [.ref cO, .ref sH, .int ho])), (cO, .inl (cI, 6, .inl g12)), (sH, .inl (cI, 6, .inl g13)), (st, .inr (6, [.ref dr, .ref s1, .ref s2, .ref s3, .int ag]))]) H := hP
        have hD : va_D A ([(x, .inr (11, [.ref st, .ref dr, .ref nw, .ref kp, .ref rd, .ref tm, .ref co])), (nw, .inr (10, [.ref rO, .ref sT, .ref mA, .ref sB, .ref sA, .ref tH, .ref tF, .ref tS, .int sp, .int tn, .int ru, .int se, .int tr])), (sT, .inr (4, [.ref cO, .ref sH, .int ho])), (cO, .inl (cI, 6, .inl g12)), (sH, .inl (cI, 6, .inl g13)), (st, .inr (6, [.ref dr, .ref s1, .ref s2, .ref s3, .int ag]))]) := hD
        refine lv_aload_n hx hb dX11_horse_59 rfl (lv_at hl 0 rfl) ?_
        refine lv_dup hx hb dX11_horse_60 rfl ?_
        refine z_get Z i_X4 hP 2 rfl rfl 2 (by decide) bw_167 rfl dX11_horse_61 ?_
        refine lv_iconst (v := 1) hx hb dX11_horse_64 (by decide) ?_
        refine lv_iadd hx hb dX11_horse_65 ?_
        refine lv_topi (fun z14 ez14 => ?_)
        have hz14 : z14.toInt = ho.toInt + 1 := by rw [ez14]; exact zaddg (by first | with_reducible assumption | ((try simp only [zlt, zle, zeq, zl_0, zl_1, zl_2, zl_3, zl_4, zl_5, zl_6, zl_7, zl_8, zl_9, zl_10, zl_11, zl_12, zl_13, zl_14, zl_15, zl_16, zl_17, zl_18, zl_19, zl_20, zl_21, zl_22, zl_23, zl_24, zl_25, zl_26, zl_27, zl_28, zl_29, zl_30, zl_31, zl_32, zl_33, zl_34, zl_35, zl_36, zl_37, zl_38, zl_39, zl_40, zl_41, zl_42, zl_43, zl_44, zl_45, zl_46, zl_47, zl_48, zl_49, zl_50, zl_51, zl_52, zl_53, zl_54, zl_55, zl_56, zl_57, zl_58, zl_59, zl_60, zl_61, zl_62, zl_63, zl_64, zl_65, zl_82, zl_99, zl_100, zl_160, zl_299, zl_300, zl_301, zl_382, zl_398, zl_399, zl_464, zl_680, zl_862, zl_999, zl_1000, zl_9999, zl_10000, zl_1000000, zl_m1, zl_m2, zl_m3, zl_m8] at hi_tn hi_se hi_tr hi_ho c4 c5 c9 c10 c11 ⊢); omega)) (by first | with_reducible assumption | ((try simp only [zlt, zle, zeq, zl_0, zl_1, zl_2, zl_3, zl_4, zl_5, zl_6, zl_7, zl_8, zl_9, zl_10, zl_11, zl_12, zl_13, zl_14, zl_15, zl_16, zl_17, zl_18, zl_19, zl_20, zl_21, zl_22, zl_23, zl_24, zl_25, zl_26, zl_27, zl_28, zl_29, zl_30, zl_31, zl_32, zl_33, zl_34, zl_35, zl_36, zl_37, zl_38, zl_39, zl_40, zl_41, zl_42, zl_43, zl_44, zl_45, zl_46, zl_47, zl_48, zl_49, zl_50, zl_51, zl_52, zl_53, zl_54, zl_55, zl_56, zl_57, zl_58, zl_59, zl_60, zl_61, zl_62, zl_63, zl_64, zl_65, zl_82, zl_99, zl_100, zl_160, zl_299, zl_300, zl_301, zl_382, zl_398, zl_399, zl_464, zl_680, zl_862, zl_999, zl_1000, zl_9999, zl_10000, zl_1000000, zl_m1, zl_m2, zl_m3, zl_m8] at hi_tn hi_se hi_tr hi_ho c4 c5 c9 c10 c11 ⊢); omega))
        refine z_put Z i_X4 tyX4 tyX4_ok nmX4 hP hD hS 2 rfl rfl 2 (by decide) bw_167 rfl rfl rfl (Nat.le_of_ble_eq_true rfl) dX11_horse_66 (fun H locs hP hD hS => ?_)
        have hP : va_P D vwCl ([(x, .inr (11, [.ref st, .ref dr, .ref nw, .ref kp, .ref rd, .ref tm, .ref co])), (nw, .inr (10, [.ref rO, .ref sT, .ref mA, .ref sB, .ref sA, .ref tH, .ref tF, .ref tS, .int sp, .int tn, .int ru, .int se, .int tr])), (sT, .inr (4, [.ref cO, .ref sH, .int z14])), (cO, .inl (cI, 6, .inl g12)), (sH, .inl (cI, 6, .inl g13)), (st, .inr (6, [.ref dr, .ref s1, .ref s2, .ref s3, .int ag]))]) H := hP
        have hD : va_D A ([(x, .inr (11, [.ref st, .ref dr, .ref nw, .ref kp, .ref rd, .ref tm, .ref co])), (nw, .inr (10, [.ref rO, .ref sT, .ref mA, .ref sB, .ref sA, .ref tH, .ref tF, .ref tS, .int sp, .int tn, .int ru, .int se, .int tr])), (sT, .inr (4, [.ref cO, .ref sH, .int z14])), (cO, .inl (cI, 6, .inl g12)), (sH, .inl (cI, 6, .inl g13)), (st, .inr (6, [.ref dr, .ref s1, .ref s2, .ref s3, .int ag]))]) := hD
        refine lv_aload_n hx hb dX11_horse_69 rfl (lv_at hl 1 rfl) ?_
        refine z_get Z i_X11 hP 0 rfl rfl 0 (by decide) bw_468 rfl dX11_horse_70 ?_
        have hPc := hP.sub2 (wc := [(st, .inr (6, [.ref dr, .ref s1, .ref s2, .ref s3, .int ag]))]) [5] rfl
        have hDc := hD.sub (ws' := [(st, .inr (6, [.ref dr, .ref s1, .ref s2, .ref s3, .int ag]))]) [5] (by decide) rfl
        refine raw_Vv (ci := 6) (q0 := 0) (nA := 0) (As := []) (rest := []) Z hl.1 (c_X6_forget l D cI cM cT cJ cZ st dr s1 s2 s3 ag) (bw_V bw_500 bw_501 bw_502 bw_81 bw_503) ⟨by decide +kernel, by decide +kernel, by decide +kernel⟩ rfl ⟨Nat.le_of_ble_eq_true rfl, Nat.le_of_ble_eq_true rfl⟩ rfl rfl rfl hPc hDc hS rfl (Nat.le_of_ble_eq_true rfl) dX11_horse_73 ⟨Nat.le_of_ble_eq_true rfl, Nat.le_of_ble_eq_true rfl⟩ (fun u15 H locs h17 hku15 hP1 hD1 hS1 => ?_)
        obtain ⟨ag_n_18, rfl⟩ := h17
        obtain ⟨hP, hD⟩ := z_join (wr := [(x, .inr (11, [.ref st, .ref dr, .ref nw, .ref kp, .ref rd, .ref tm, .ref co])), (nw, .inr (10, [.ref rO, .ref sT, .ref mA, .ref sB, .ref sA, .ref tH, .ref tF, .ref tS, .int sp, .int tn, .int ru, .int se, .int tr])), (sT, .inr (4, [.ref cO, .ref sH, .int z14])), (cO, .inl (cI, 6, .inl g12)), (sH, .inl (cI, 6, .inl g13))]) Z hS hP hD [5] [0, 1, 2, 3, 4] rfl (by decide +kernel) rfl (by decide +kernel) (by decide +kernel) hku15 hP1 hD1
        have hS := hS1
        clear hS1
        have hP : va_P D vwCl ([(x, .inr (11, [.ref st, .ref dr, .ref nw, .ref kp, .ref rd, .ref tm, .ref co])), (nw, .inr (10, [.ref rO, .ref sT, .ref mA, .ref sB, .ref sA, .ref tH, .ref tF, .ref tS, .int sp, .int tn, .int ru, .int se, .int tr])), (sT, .inr (4, [.ref cO, .ref sH, .int z14])), (cO, .inl (cI, 6, .inl g12)), (sH, .inl (cI, 6, .inl g13)), (st, .inr (6, [.ref dr, .ref s1, .ref s2, .ref s3, .int ag_n_18]))]) H := hP
        have hD : va_D A ([(x, .inr (11, [.ref st, .ref dr, .ref nw, .ref kp, .ref rd, .ref tm, .ref co])), (nw, .inr (10, [.ref rO, .ref sT, .ref mA, .ref sB, .ref sA, .ref tH, .ref tF, .ref tS, .int sp, .int tn, .int ru, .int se, .int tr])), (sT, .inr (4, [.ref cO, .ref sH, .int z14])), (cO, .inl (cI, 6, .inl g12)), (sH, .inl (cI, 6, .inl g13)), (st, .inr (6, [.ref dr, .ref s1, .ref s2, .ref s3, .int ag_n_18]))]) := hD
        refine lv_aload_n hx hb dX11_horse_76 rfl (lv_at hl 0 rfl) ?_
        refine z_get Z i_X4 hP 2 rfl rfl 2 (by decide) bw_167 rfl dX11_horse_77 ?_
        refine lv_iconst (v := 1) hx hb dX11_horse_80 (by decide) ?_
        refine lv_isub hx hb dX11_horse_81 ?_
        refine lv_topi (fun z19 ez19 => ?_)
        have hz19 : z19.toInt = z14.toInt - 1 := by rw [ez19]; exact zsubg (by first | with_reducible assumption | ((try simp only [zlt, zle, zeq, zl_0, zl_1, zl_2, zl_3, zl_4, zl_5, zl_6, zl_7, zl_8, zl_9, zl_10, zl_11, zl_12, zl_13, zl_14, zl_15, zl_16, zl_17, zl_18, zl_19, zl_20, zl_21, zl_22, zl_23, zl_24, zl_25, zl_26, zl_27, zl_28, zl_29, zl_30, zl_31, zl_32, zl_33, zl_34, zl_35, zl_36, zl_37, zl_38, zl_39, zl_40, zl_41, zl_42, zl_43, zl_44, zl_45, zl_46, zl_47, zl_48, zl_49, zl_50, zl_51, zl_52, zl_53, zl_54, zl_55, zl_56, zl_57, zl_58, zl_59, zl_60, zl_61, zl_62, zl_63, zl_64, zl_65, zl_82, zl_99, zl_100, zl_160, zl_299, zl_300, zl_301, zl_382, zl_398, zl_399, zl_464, zl_680, zl_862, zl_999, zl_1000, zl_9999, zl_10000, zl_1000000, zl_m1, zl_m2, zl_m3, zl_m8] at hi_tn hi_se hi_tr hi_ho c4 c5 c9 c10 c11 hz14 ⊢); omega)) (by first | with_reducible assumption | ((try simp only [zlt, zle, zeq, zl_0, zl_1, zl_2, zl_3, zl_4, zl_5, zl_6, zl_7, zl_8, zl_9, zl_10, zl_11, zl_12, zl_13, zl_14, zl_15, zl_16, zl_17, zl_18, zl_19, zl_20, zl_21, zl_22, zl_23, zl_24, zl_25, zl_26, zl_27, zl_28, zl_29, zl_30, zl_31, zl_32, zl_33, zl_34, zl_35, zl_36, zl_37, zl_38, zl_39, zl_40, zl_41, zl_42, zl_43, zl_44, zl_45, zl_46, zl_47, zl_48, zl_49, zl_50, zl_51, zl_52, zl_53, zl_54, zl_55, zl_56, zl_57, zl_58, zl_59, zl_60, zl_61, zl_62, zl_63, zl_64, zl_65, zl_82, zl_99, zl_100, zl_160, zl_299, zl_300, zl_301, zl_382, zl_398, zl_399, zl_464, zl_680, zl_862, zl_999, zl_1000, zl_9999, zl_10000, zl_1000000, zl_m1, zl_m2, zl_m3, zl_m8] at hi_tn hi_se hi_tr hi_ho c4 c5 c9 c10 c11 hz14 ⊢); omega))
        exact z_ret Z rfl hP hD hS (⟨z14, g12, g13, ag_n_18, rfl, (by first | with_reducible assumption | ((try simp only [zlt, zle, zeq, zl_0, zl_1, zl_2, zl_3, zl_4, zl_5, zl_6, zl_7, zl_8, zl_9, zl_10, zl_11, zl_12, zl_13, zl_14, zl_15, zl_16, zl_17, zl_18, zl_19, zl_20, zl_21, zl_22, zl_23, zl_24, zl_25, zl_26, zl_27, zl_28, zl_29, zl_30, zl_31, zl_32, zl_33, zl_34, zl_35, zl_36, zl_37, zl_38, zl_39, zl_40, zl_41, zl_42, zl_43, zl_44, zl_45, zl_46, zl_47, zl_48, zl_49, zl_50, zl_51, zl_52, zl_53, zl_54, zl_55, zl_56, zl_57, zl_58, zl_59, zl_60, zl_61, zl_62, zl_63, zl_64, zl_65, zl_82, zl_99, zl_100, zl_160, zl_299, zl_300, zl_301, zl_382, zl_398, zl_399, zl_464, zl_680, zl_862, zl_999, zl_1000, zl_9999, zl_10000, zl_1000000, zl_m1, zl_m2, zl_m3, zl_m8] at hi_tn hi_se hi_tr hi_ho c4 c5 c9 c10 c11 hz14 hz19 ⊢); omega)), hrg12, hrg13, (by (try simp only [zlt, zle, zeq, zl_0, zl_1, zl_2, zl_3, zl_4, zl_5, zl_6, zl_7, zl_8, zl_9, zl_10, zl_11, zl_12, zl_13, zl_14, zl_15, zl_16, zl_17, zl_18, zl_19, zl_20, zl_21, zl_22, zl_23, zl_24, zl_25, zl_26, zl_27, zl_28, zl_29, zl_30, zl_31, zl_32, zl_33, zl_34, zl_35, zl_36, zl_37, zl_38, zl_39, zl_40, zl_41, zl_42, zl_43, zl_44, zl_45, zl_46, zl_47, zl_48, zl_49, zl_50, zl_51, zl_52, zl_53, zl_54, zl_55, zl_56, zl_57, zl_58, zl_59, zl_60, zl_61, zl_62, zl_63, zl_64, zl_65, zl_82, zl_99, zl_100, zl_160, zl_299, zl_300, zl_301, zl_382, zl_398, zl_399, zl_464, zl_680, zl_862, zl_999, zl_1000, zl_9999, zl_10000, zl_1000000, zl_m1, zl_m2, zl_m3, zl_m8, and_true, true_and, and_false, false_and, or_false, false_or, or_true, true_or, not_true_eq_false, not_false_eq_true] at hi_tn hi_se hi_tr hi_ho c4 c5 c9 c10 c11 hz14 hz19 ⊢) <;> omega)⟩) dX11_horse_82 (Nat.le_of_ble_eq_true rfl) (Nat.le_of_ble_eq_true rfl)
      · refine lv_iconst (v := (-1)) hx hb dX11_horse_37 (by decide) ?_
        exact z_ret Z rfl hP hD hS (⟨ho, fco, fsh, ag, rfl, (by first | with_reducible assumption | ((try simp only [zlt, zle, zeq, zl_0, zl_1, zl_2, zl_3, zl_4, zl_5, zl_6, zl_7, zl_8, zl_9, zl_10, zl_11, zl_12, zl_13, zl_14, zl_15, zl_16, zl_17, zl_18, zl_19, zl_20, zl_21, zl_22, zl_23, zl_24, zl_25, zl_26, zl_27, zl_28, zl_29, zl_30, zl_31, zl_32, zl_33, zl_34, zl_35, zl_36, zl_37, zl_38, zl_39, zl_40, zl_41, zl_42, zl_43, zl_44, zl_45, zl_46, zl_47, zl_48, zl_49, zl_50, zl_51, zl_52, zl_53, zl_54, zl_55, zl_56, zl_57, zl_58, zl_59, zl_60, zl_61, zl_62, zl_63, zl_64, zl_65, zl_82, zl_99, zl_100, zl_160, zl_299, zl_300, zl_301, zl_382, zl_398, zl_399, zl_464, zl_680, zl_862, zl_999, zl_1000, zl_9999, zl_10000, zl_1000000, zl_m1, zl_m2, zl_m3, zl_m8] at hi_tn hi_se hi_tr hi_ho c4 c5 c9 c10 c11 ⊢); omega)), hr_fco, hr_fsh, (by (try simp only [zlt, zle, zeq, zl_0, zl_1, zl_2, zl_3, zl_4, zl_5, zl_6, zl_7, zl_8, zl_9, zl_10, zl_11, zl_12, zl_13, zl_14, zl_15, zl_16, zl_17, zl_18, zl_19, zl_20, zl_21, zl_22, zl_23, zl_24, zl_25, zl_26, zl_27, zl_28, zl_29, zl_30, zl_31, zl_32, zl_33, zl_34, zl_35, zl_36, zl_37, zl_38, zl_39, zl_40, zl_41, zl_42, zl_43, zl_44, zl_45, zl_46, zl_47, zl_48, zl_49, zl_50, zl_51, zl_52, zl_53, zl_54, zl_55, zl_56, zl_57, zl_58, zl_59, zl_60, zl_61, zl_62, zl_63, zl_64, zl_65, zl_82, zl_99, zl_100, zl_160, zl_299, zl_300, zl_301, zl_382, zl_398, zl_399, zl_464, zl_680, zl_862, zl_999, zl_1000, zl_9999, zl_10000, zl_1000000, zl_m1, zl_m2, zl_m3, zl_m8, and_true, true_and, and_false, false_and, or_false, false_or, or_true, true_or, not_true_eq_false, not_false_eq_true] at hi_tn hi_se hi_tr hi_ho c4 c5 c9 c10 c11 ⊢) <;> omega)⟩) dX11_horse_38 (Nat.le_of_ble_eq_true rfl) (Nat.le_of_ble_eq_true rfl)
    · obtain rfl : r7 = 0 := by rw [hrh8, if_neg c9]
      refine lv_if_eq (tgt := 37) hx hb dX11_horse_25 (by decide) (fun c20 => ?_) (fun h => absurd (by decide) h)
      refine lv_iconst (v := (-1)) hx hb dX11_horse_37 (by decide) ?_
      exact z_ret Z rfl hP hD hS (⟨ho, fco, fsh, ag, rfl, (by first | with_reducible assumption | ((try simp only [zlt, zle, zeq, zl_0, zl_1, zl_2, zl_3, zl_4, zl_5, zl_6, zl_7, zl_8, zl_9, zl_10, zl_11, zl_12, zl_13, zl_14, zl_15, zl_16, zl_17, zl_18, zl_19, zl_20, zl_21, zl_22, zl_23, zl_24, zl_25, zl_26, zl_27, zl_28, zl_29, zl_30, zl_31, zl_32, zl_33, zl_34, zl_35, zl_36, zl_37, zl_38, zl_39, zl_40, zl_41, zl_42, zl_43, zl_44, zl_45, zl_46, zl_47, zl_48, zl_49, zl_50, zl_51, zl_52, zl_53, zl_54, zl_55, zl_56, zl_57, zl_58, zl_59, zl_60, zl_61, zl_62, zl_63, zl_64, zl_65, zl_82, zl_99, zl_100, zl_160, zl_299, zl_300, zl_301, zl_382, zl_398, zl_399, zl_464, zl_680, zl_862, zl_999, zl_1000, zl_9999, zl_10000, zl_1000000, zl_m1, zl_m2, zl_m3, zl_m8] at hi_tn hi_se hi_tr hi_ho c4 c5 c9 c20 ⊢); omega)), hr_fco, hr_fsh, (by (try simp only [zlt, zle, zeq, zl_0, zl_1, zl_2, zl_3, zl_4, zl_5, zl_6, zl_7, zl_8, zl_9, zl_10, zl_11, zl_12, zl_13, zl_14, zl_15, zl_16, zl_17, zl_18, zl_19, zl_20, zl_21, zl_22, zl_23, zl_24, zl_25, zl_26, zl_27, zl_28, zl_29, zl_30, zl_31, zl_32, zl_33, zl_34, zl_35, zl_36, zl_37, zl_38, zl_39, zl_40, zl_41, zl_42, zl_43, zl_44, zl_45, zl_46, zl_47, zl_48, zl_49, zl_50, zl_51, zl_52, zl_53, zl_54, zl_55, zl_56, zl_57, zl_58, zl_59, zl_60, zl_61, zl_62, zl_63, zl_64, zl_65, zl_82, zl_99, zl_100, zl_160, zl_299, zl_300, zl_301, zl_382, zl_398, zl_399, zl_464, zl_680, zl_862, zl_999, zl_1000, zl_9999, zl_10000, zl_1000000, zl_m1, zl_m2, zl_m3, zl_m8, and_true, true_and, and_false, false_and, or_false, false_or, or_true, true_or, not_true_eq_false, not_false_eq_true] at hi_tn hi_se hi_tr hi_ho c4 c5 c9 c20 ⊢) <;> omega)⟩) dX11_horse_38 (Nat.le_of_ble_eq_true rfl) (Nat.le_of_ble_eq_true rfl)
  · obtain rfl : r2 = 0 := by rw [hrh3, if_neg c4]
    refine lv_if_eq (tgt := 37) hx hb dX11_horse_15 (by decide) (fun c21 => ?_) (fun h => absurd (by decide) h)
    refine lv_iconst (v := (-1)) hx hb dX11_horse_37 (by decide) ?_
    exact z_ret Z rfl hP hD hS (⟨ho, fco, fsh, ag, rfl, (by first | with_reducible assumption | ((try simp only [zlt, zle, zeq, zl_0, zl_1, zl_2, zl_3, zl_4, zl_5, zl_6, zl_7, zl_8, zl_9, zl_10, zl_11, zl_12, zl_13, zl_14, zl_15, zl_16, zl_17, zl_18, zl_19, zl_20, zl_21, zl_22, zl_23, zl_24, zl_25, zl_26, zl_27, zl_28, zl_29, zl_30, zl_31, zl_32, zl_33, zl_34, zl_35, zl_36, zl_37, zl_38, zl_39, zl_40, zl_41, zl_42, zl_43, zl_44, zl_45, zl_46, zl_47, zl_48, zl_49, zl_50, zl_51, zl_52, zl_53, zl_54, zl_55, zl_56, zl_57, zl_58, zl_59, zl_60, zl_61, zl_62, zl_63, zl_64, zl_65, zl_82, zl_99, zl_100, zl_160, zl_299, zl_300, zl_301, zl_382, zl_398, zl_399, zl_464, zl_680, zl_862, zl_999, zl_1000, zl_9999, zl_10000, zl_1000000, zl_m1, zl_m2, zl_m3, zl_m8] at hi_tn hi_se hi_tr hi_ho c4 c21 ⊢); omega)), hr_fco, hr_fsh, (by (try simp only [zlt, zle, zeq, zl_0, zl_1, zl_2, zl_3, zl_4, zl_5, zl_6, zl_7, zl_8, zl_9, zl_10, zl_11, zl_12, zl_13, zl_14, zl_15, zl_16, zl_17, zl_18, zl_19, zl_20, zl_21, zl_22, zl_23, zl_24, zl_25, zl_26, zl_27, zl_28, zl_29, zl_30, zl_31, zl_32, zl_33, zl_34, zl_35, zl_36, zl_37, zl_38, zl_39, zl_40, zl_41, zl_42, zl_43, zl_44, zl_45, zl_46, zl_47, zl_48, zl_49, zl_50, zl_51, zl_52, zl_53, zl_54, zl_55, zl_56, zl_57, zl_58, zl_59, zl_60, zl_61, zl_62, zl_63, zl_64, zl_65, zl_82, zl_99, zl_100, zl_160, zl_299, zl_300, zl_301, zl_382, zl_398, zl_399, zl_464, zl_680, zl_862, zl_999, zl_1000, zl_9999, zl_10000, zl_1000000, zl_m1, zl_m2, zl_m3, zl_m8, and_true, true_and, and_false, false_and, or_false, false_or, or_true, true_or, not_true_eq_false, not_false_eq_true] at hi_tn hi_se hi_tr hi_ho c4 c21 ⊢) <;> omega)⟩) dX11_horse_38 (Nat.le_of_ble_eq_true rfl) (Nat.le_of_ble_eq_true rfl)
set_option maxHeartbeats 4000000 in
set_option maxRecDepth 100000 in
theorem c_X11_weather (l : Launch) (D : va_G) (cI cM cT cJ cZ : ClassId) (x : Nat) (p0 : Int32) (p1 : Int32) (st : Nat) (dr : Nat) (nw : Nat) (kp : Nat) (rd : Nat) (tm : Nat) (co : Nat) (rO : Nat) (sT : Nat) (mA : Nat) (sB : Nat) (sA : Nat) (tH : Nat) (tF : Nat) (tS : Nat) (sp : Int32) (tn : Int32) (ru : Int32) (se : Int32) (tr : Int32) (iA : Nat) (in_ : Int32) (pl : Int32) (oa : Int32) (dv : Int32) (dy : Int32) (xx : Int32) (hi_tn : 0 ≤ tn.toInt ∧ tn.toInt ≤ 4) (hi_se : 0 ≤ se.toInt ∧ se.toInt ≤ 6) (hi_tr : 0 ≤ tr.toInt ∧ tr.toInt ≤ 10) (hi_in_ : 0 ≤ in_.toInt ∧ in_.toInt ≤ 10) (hi_pl : 0 ≤ pl.toInt ∧ pl.toInt ≤ 299) : Ci l D (ty3 cI cM cT cJ cZ) yX11_weather cX11_weather 3 (some .boolean) 2 0 0 [.ref x, .int p0, .int p1] ([(x, .inr (11, [.ref st, .ref dr, .ref nw, .ref kp, .ref rd, .ref tm, .ref co])), (nw, .inr (10, [.ref rO, .ref sT, .ref mA, .ref sB, .ref sA, .ref tH, .ref tF, .ref tS, .int sp, .int tn, .int ru, .int se, .int tr])), (mA, .inr (1, [.ref iA, .int in_, .int pl, .int oa, .int dv, .int dy, .int xx]))]) (fun r u => ∃ (sp_n : Int32) (xx_n : Int32), (0 ≤ r.toInt ∧ r.toInt ≤ 1) ∧ u = [(x, .inr (11, [.ref st, .ref dr, .ref nw, .ref kp, .ref rd, .ref tm, .ref co])), (nw, .inr (10, [.ref rO, .ref sT, .ref mA, .ref sB, .ref sA, .ref tH, .ref tF, .ref tS, .int sp_n, .int tn, .int ru, .int se, .int tr])), (mA, .inr (1, [.ref iA, .int in_, .int pl, .int oa, .int dv, .int dy, .int xx_n]))] ∧ ((((0 ≤ p0.toInt ∧ p0.toInt ≤ 10) ∧ (0 ≤ p1.toInt ∧ p1.toInt ≤ 9999)) ∧ r.toInt = 1) ∨ (¬ ((0 ≤ p0.toInt ∧ p0.toInt ≤ 10) ∧ (0 ≤ p1.toInt ∧ p1.toInt ≤ 9999)) ∧ r.toInt = 0))) := by
  refine Ci.of (by decide +kernel) (Nat.le_of_ble_eq_true rfl) ?_
  intro p e s m below meth c A ls Z hin hP hD hl
  have hx := Z.1
  have hb := Z.2.1
  have hS : va_S A s.heap s.heap [] := va_S.rf
  have hl : lv_has ls 3 [(0, .ref x), (1, .int p0), (2, .int p1)] := hl
  skip
  refine lv_iload_n hx hb dX11_weather_0 rfl (lv_at hl 1 rfl) ?_
  refine lv_iconst (v := 0) hx hb dX11_weather_1 (by decide) ?_
  refine lv_bipush (v := 10) hx hb dX11_weather_2 (by decide) ?_
  have hPc := hP.sub2 (wc := []) [] rfl
  have hDc := hD.sub (ws' := []) [] (by decide) rfl
  refine raw_Si (nA := 3) (As := [.int p0, .int 0, .int 10]) (rest := []) Z hl.1 (c_X11_isWithin l D cI cM cT cJ cZ p0 0 10) (bw_S bw_497 bw_498 bw_80 bw_499) ⟨by decide +kernel, by decide +kernel, by decide +kernel⟩ rfl ⟨Nat.le_of_ble_eq_true rfl, Nat.le_of_ble_eq_true rfl⟩ hPc hDc hS rfl (Nat.le_of_ble_eq_true rfl) dX11_weather_4 ⟨Nat.le_of_ble_eq_true rfl, Nat.le_of_ble_eq_true rfl⟩ (fun r2 u1 H locs h3 hku1 hP1 hD1 hS1 => ?_)
  obtain ⟨hrh3, rfl⟩ := h3
  obtain ⟨hP, hD⟩ := z_join (wr := [(x, .inr (11, [.ref st, .ref dr, .ref nw, .ref kp, .ref rd, .ref tm, .ref co])), (nw, .inr (10, [.ref rO, .ref sT, .ref mA, .ref sB, .ref sA, .ref tH, .ref tF, .ref tS, .int sp, .int tn, .int ru, .int se, .int tr])), (mA, .inr (1, [.ref iA, .int in_, .int pl, .int oa, .int dv, .int dy, .int xx]))]) Z hS hP hD [] [0, 1, 2] rfl (by decide) rfl (by decide) (by decide) hku1 hP1 hD1
  have hS := hS1
  clear hS1
  have hP : va_P D vwCl ([(x, .inr (11, [.ref st, .ref dr, .ref nw, .ref kp, .ref rd, .ref tm, .ref co])), (nw, .inr (10, [.ref rO, .ref sT, .ref mA, .ref sB, .ref sA, .ref tH, .ref tF, .ref tS, .int sp, .int tn, .int ru, .int se, .int tr])), (mA, .inr (1, [.ref iA, .int in_, .int pl, .int oa, .int dv, .int dy, .int xx]))]) H := hP
  have hD : va_D A ([(x, .inr (11, [.ref st, .ref dr, .ref nw, .ref kp, .ref rd, .ref tm, .ref co])), (nw, .inr (10, [.ref rO, .ref sT, .ref mA, .ref sB, .ref sA, .ref tH, .ref tF, .ref tS, .int sp, .int tn, .int ru, .int se, .int tr])), (mA, .inr (1, [.ref iA, .int in_, .int pl, .int oa, .int dv, .int dy, .int xx]))]) := hD
  by_cases c4 : 0 ≤ p0 ∧ p0 ≤ 10
  · obtain rfl : r2 = 1 := by rw [hrh3, if_pos c4]
    refine lv_if_eq (tgt := 21) hx hb dX11_weather_7 (by decide) (fun h => absurd h (by decide)) (fun c5 => ?_)
    refine lv_iload_n hx hb dX11_weather_10 rfl (lv_at hl 2 rfl) ?_
    refine lv_iconst (v := 0) hx hb dX11_weather_11 (by decide) ?_
    refine lv_sipush (v := 9999) hx hb dX11_weather_12 (by decide) ?_
    have hPc := hP.sub2 (wc := []) [] rfl
    have hDc := hD.sub (ws' := []) [] (by decide) rfl
    refine raw_Si (nA := 3) (As := [.int p1, .int 0, .int 9999]) (rest := []) Z hl.1 (c_X11_isWithin l D cI cM cT cJ cZ p1 0 9999) (bw_S bw_497 bw_498 bw_80 bw_499) ⟨by decide +kernel, by decide +kernel, by decide +kernel⟩ rfl ⟨Nat.le_of_ble_eq_true rfl, Nat.le_of_ble_eq_true rfl⟩ hPc hDc hS rfl (Nat.le_of_ble_eq_true rfl) dX11_weather_15 ⟨Nat.le_of_ble_eq_true rfl, Nat.le_of_ble_eq_true rfl⟩ (fun r7 u6 H locs h8 hku6 hP1 hD1 hS1 => ?_)
    obtain ⟨hrh8, rfl⟩ := h8
    obtain ⟨hP, hD⟩ := z_join (wr := [(x, .inr (11, [.ref st, .ref dr, .ref nw, .ref kp, .ref rd, .ref tm, .ref co])), (nw, .inr (10, [.ref rO, .ref sT, .ref mA, .ref sB, .ref sA, .ref tH, .ref tF, .ref tS, .int sp, .int tn, .int ru, .int se, .int tr])), (mA, .inr (1, [.ref iA, .int in_, .int pl, .int oa, .int dv, .int dy, .int xx]))]) Z hS hP hD [] [0, 1, 2] rfl (by decide) rfl (by decide) (by decide) hku6 hP1 hD1
    have hS := hS1
    clear hS1
    have hP : va_P D vwCl ([(x, .inr (11, [.ref st, .ref dr, .ref nw, .ref kp, .ref rd, .ref tm, .ref co])), (nw, .inr (10, [.ref rO, .ref sT, .ref mA, .ref sB, .ref sA, .ref tH, .ref tF, .ref tS, .int sp, .int tn, .int ru, .int se, .int tr])), (mA, .inr (1, [.ref iA, .int in_, .int pl, .int oa, .int dv, .int dy, .int xx]))]) H := hP
    have hD : va_D A ([(x, .inr (11, [.ref st, .ref dr, .ref nw, .ref kp, .ref rd, .ref tm, .ref co])), (nw, .inr (10, [.ref rO, .ref sT, .ref mA, .ref sB, .ref sA, .ref tH, .ref tF, .ref tS, .int sp, .int tn, .int ru, .int se, .int tr])), (mA, .inr (1, [.ref iA, .int in_, .int pl, .int oa, .int dv, .int dy, .int xx]))]) := hD
    by_cases c9 : 0 ≤ p1 ∧ p1 ≤ 9999
    · obtain rfl : r7 = 1 := by rw [hrh8, if_pos c9]
      refine lv_if_ne (tgt := 23) hx hb dX11_weather_18 (by decide) (fun c10 => ?_) (fun h => absurd h (by decide))
      refine lv_aload_n hx hb dX11_weather_23 rfl (lv_at hl 0 rfl) ?_
      refine z_get Z i_X11 hP 0 rfl rfl 2 (by decide) bw_470 rfl dX11_weather_24 ?_
      refine lv_iload_n hx hb dX11_weather_27 rfl (lv_at hl 1 rfl) ?_
      refine z_put Z i_X10 tyX10 tyX10_ok nmX10 hP hD hS 1 rfl rfl 8 (by decide) bw_253 rfl rfl rfl (Nat.le_of_ble_eq_true rfl) dX11_weather_28 (fun H locs hP hD hS => ?_)
      have hP : va_P D vwCl ([(x, .inr (11, [.ref st, .ref dr, .ref nw, .ref kp, .ref rd, .ref tm, .ref co])), (nw, .inr (10, [.ref rO, .ref sT, .ref mA, .ref sB, .ref sA, .ref tH, .ref tF, .ref tS, .int p0, .int tn, .int ru, .int se, .int tr])), (mA, .inr (1, [.ref iA, .int in_, .int pl, .int oa, .int dv, .int dy, .int xx]))]) H := hP
      have hD : va_D A ([(x, .inr (11, [.ref st, .ref dr, .ref nw, .ref kp, .ref rd, .ref tm, .ref co])), (nw, .inr (10, [.ref rO, .ref sT, .ref mA, .ref sB, .ref sA, .ref tH, .ref tF, .ref tS, .int p0, .int tn, .int ru, .int se, .int tr])), (mA, .inr (1, [.ref iA, .int in_, .int pl, .int oa, .int dv, .int dy, .int xx]))]) := hD
      refine lv_aload_n hx hb dX11_weather_31 rfl (lv_at hl 0 rfl) ?_
      refine z_get Z i_X11 hP 0 rfl rfl 2 (by decide) bw_470 rfl dX11_weather_32 ?_
      refine z_get Z i_X10 hP 1 rfl rfl 2 (by decide) bw_240 rfl dX11_weather_35 ?_
      refine lv_iload_n hx hb dX11_weather_38 rfl (lv_at hl 2 rfl) ?_
      refine lv_bipush (v := 7) hx hb dX11_weather_39 (by decide) ?_
      refine lv_imul hx hb dX11_weather_41 ?_
      refine lv_topi (fun z11 ez11 => ?_)
      refine lv_bipush (v := 13) hx hb dX11_weather_42 (by decide) ?_
      refine lv_iadd hx hb dX11_weather_44 ?_
      refine lv_topi (fun z12 ez12 => ?_)
      refine z_put Z i_X1 tyX1 tyX1_ok nmX1 hP hD hS 2 rfl rfl 6 (by decide) bw_195 rfl rfl rfl (Nat.le_of_ble_eq_true rfl) dX11_weather_45 (fun H locs hP hD hS => ?_)
      have hP : va_P D vwCl ([(x, .inr (11, [.ref st, .ref dr, .ref nw, .ref kp, .ref rd, .ref tm, .ref co])), (nw, .inr (10, [.ref rO, .ref sT, .ref mA, .ref sB, .ref sA, .ref tH, .ref tF, .ref tS, .int p0, .int tn, .int ru, .int se, .int tr])), (mA, .inr (1, [.ref iA, .int in_, .int pl, .int oa, .int dv, .int dy, .int z12]))]) H := hP
      have hD : va_D A ([(x, .inr (11, [.ref st, .ref dr, .ref nw, .ref kp, .ref rd, .ref tm, .ref co])), (nw, .inr (10, [.ref rO, .ref sT, .ref mA, .ref sB, .ref sA, .ref tH, .ref tF, .ref tS, .int p0, .int tn, .int ru, .int se, .int tr])), (mA, .inr (1, [.ref iA, .int in_, .int pl, .int oa, .int dv, .int dy, .int z12]))]) := hD
      refine lv_iconst (v := 1) hx hb dX11_weather_48 (by decide) ?_
      exact z_ret Z rfl hP hD hS (⟨p0, z12, (by decide), rfl, (by (try simp only [zlt, zle, zeq, zl_0, zl_1, zl_2, zl_3, zl_4, zl_5, zl_6, zl_7, zl_8, zl_9, zl_10, zl_11, zl_12, zl_13, zl_14, zl_15, zl_16, zl_17, zl_18, zl_19, zl_20, zl_21, zl_22, zl_23, zl_24, zl_25, zl_26, zl_27, zl_28, zl_29, zl_30, zl_31, zl_32, zl_33, zl_34, zl_35, zl_36, zl_37, zl_38, zl_39, zl_40, zl_41, zl_42, zl_43, zl_44, zl_45, zl_46, zl_47, zl_48, zl_49, zl_50, zl_51, zl_52, zl_53, zl_54, zl_55, zl_56, zl_57, zl_58, zl_59, zl_60, zl_61, zl_62, zl_63, zl_64, zl_65, zl_82, zl_99, zl_100, zl_160, zl_299, zl_300, zl_301, zl_382, zl_398, zl_399, zl_464, zl_680, zl_862, zl_999, zl_1000, zl_9999, zl_10000, zl_1000000, zl_m1, zl_m2, zl_m3, zl_m8, and_true, true_and, and_false, false_and, or_false, false_or, or_true, true_or, not_true_eq_false, not_false_eq_true] at hi_tn hi_se hi_tr hi_in_ hi_pl c4 c5 c9 c10 ⊢) <;> omega)⟩) dX11_weather_49 (Nat.le_of_ble_eq_true rfl) (Nat.le_of_ble_eq_true rfl)
    · obtain rfl : r7 = 0 := by rw [hrh8, if_neg c9]
      refine lv_if_ne (tgt := 23) hx hb dX11_weather_18 (by decide) (fun h => absurd (by decide) h) (fun c13 => ?_)
      refine lv_iconst (v := 0) hx hb dX11_weather_21 (by decide) ?_
      exact z_ret Z rfl hP hD hS (⟨sp, xx, (by decide), rfl, (by (try simp only [zlt, zle, zeq, zl_0, zl_1, zl_2, zl_3, zl_4, zl_5, zl_6, zl_7, zl_8, zl_9, zl_10, zl_11, zl_12, zl_13, zl_14, zl_15, zl_16, zl_17, zl_18, zl_19, zl_20, zl_21, zl_22, zl_23, zl_24, zl_25, zl_26, zl_27, zl_28, zl_29, zl_30, zl_31, zl_32, zl_33, zl_34, zl_35, zl_36, zl_37, zl_38, zl_39, zl_40, zl_41, zl_42, zl_43, zl_44, zl_45, zl_46, zl_47, zl_48, zl_49, zl_50, zl_51, zl_52, zl_53, zl_54, zl_55, zl_56, zl_57, zl_58, zl_59, zl_60, zl_61, zl_62, zl_63, zl_64, zl_65, zl_82, zl_99, zl_100, zl_160, zl_299, zl_300, zl_301, zl_382, zl_398, zl_399, zl_464, zl_680, zl_862, zl_999, zl_1000, zl_9999, zl_10000, zl_1000000, zl_m1, zl_m2, zl_m3, zl_m8, and_true, true_and, and_false, false_and, or_false, false_or, or_true, true_or, not_true_eq_false, not_false_eq_true] at hi_tn hi_se hi_tr hi_in_ hi_pl c4 c5 c9 c13 ⊢) <;> omega)⟩) dX11_weather_22 (Nat.le_of_ble_eq_true rfl) (Nat.le_of_ble_eq_true rfl)
  · obtain rfl : r2 = 0 := by rw [hrh3, if_neg c4]
    refine lv_if_eq (tgt := 21) hx hb dX11_weather_7 (by decide) (fun c14 => ?_) (fun h => absurd (by decide) h)
    refine lv_iconst (v := 0) hx hb dX11_weather_21 (by decide) ?_
    exact z_ret Z rfl hP hD hS (⟨sp, xx, (by decide), rfl, (by (try simp only [zlt, zle, zeq, zl_0, zl_1, zl_2, zl_3, zl_4, zl_5, zl_6, zl_7, zl_8, zl_9, zl_10, zl_11, zl_12, zl_13, zl_14, zl_15, zl_16, zl_17, zl_18, zl_19, zl_20, zl_21, zl_22, zl_23, zl_24, zl_25, zl_26, zl_27, zl_28, zl_29, zl_30, zl_31, zl_32, zl_33, zl_34, zl_35, zl_36, zl_37, zl_38, zl_39, zl_40, zl_41, zl_42, zl_43, zl_44, zl_45, zl_46, zl_47, zl_48, zl_49, zl_50, zl_51, zl_52, zl_53, zl_54, zl_55, zl_56, zl_57, zl_58, zl_59, zl_60, zl_61, zl_62, zl_63, zl_64, zl_65, zl_82, zl_99, zl_100, zl_160, zl_299, zl_300, zl_301, zl_382, zl_398, zl_399, zl_464, zl_680, zl_862, zl_999, zl_1000, zl_9999, zl_10000, zl_1000000, zl_m1, zl_m2, zl_m3, zl_m8, and_true, true_and, and_false, false_and, or_false, false_or, or_true, true_or, not_true_eq_false, not_false_eq_true] at hi_tn hi_se hi_tr hi_in_ hi_pl c4 c14 ⊢) <;> omega)⟩) dX11_weather_22 (Nat.le_of_ble_eq_true rfl) (Nat.le_of_ble_eq_true rfl)
set_option maxHeartbeats 4000000 in
set_option maxRecDepth 100000 in
theorem c_X11_end (l : Launch) (D : va_G) (cI cM cT cJ cZ : ClassId) (x : Nat) (p0 : Int32) (st : Nat) (dr : Nat) (nw : Nat) (kp : Nat) (rd : Nat) (tm : Nat) (co : Nat) (tP : Nat) (fa : Int32) (fb : Int32) (tk : Int32) (kd : Int32) (nb : Int32) (tX : Nat) (bY : Nat) (ki : Nat) (a_t : Nat) (nu : Nat) (le : Int32) (tks : Int32) (hi_le : 0 ≤ le.toInt ∧ le.toInt ≤ 300) : Ci l D (ty3 cI cM cT cJ cZ) yX11_end cX11_end 2 (some .int) 2 0 0 [.ref x, .int p0] ([(x, .inr (11, [.ref st, .ref dr, .ref nw, .ref kp, .ref rd, .ref tm, .ref co])), (rd, .inr (2, [.ref tP, .int fa, .int fb, .int tk, .int kd, .int nb, .ref tX])), (tP, .inr (7, [.ref bY, .ref ki, .ref a_t, .ref nu, .int le, .int tks]))]) (fun r u => ∃ (le_n : Int32), u = [(x, .inr (11, [.ref st, .ref dr, .ref nw, .ref kp, .ref rd, .ref tm, .ref co])), (rd, .inr (2, [.ref tP, .int fa, .int fb, .int tk, .int kd, .int nb, .ref tX])), (tP, .inr (7, [.ref bY, .ref ki, .ref a_t, .ref nu, .int le_n, .int tks]))] ∧ (0 ≤ le_n.toInt ∧ le_n.toInt ≤ 300) ∧ ((r.toInt = -1 ∧ (p0.toInt < 0 ∨ le.toInt < p0.toInt) ∧ le_n.toInt = le.toInt) ∨ (0 ≤ p0.toInt ∧ p0.toInt ≤ le.toInt ∧ r.toInt = p0.toInt ∧ le_n.toInt = p0.toInt))) := by
  refine Ci.of (by decide +kernel) (Nat.le_of_ble_eq_true rfl) ?_
  intro p e s m below meth c A ls Z hin hP hD hl
  have hx := Z.1
  have hb := Z.2.1
  have hS : va_S A s.heap s.heap [] := va_S.rf
  have hl : lv_has ls 2 [(0, .ref x), (1, .int p0)] := hl
  skip
  refine lv_iload_n hx hb dX11_end_0 rfl (lv_at hl 1 rfl) ?_
  refine lv_iconst (v := 0) hx hb dX11_end_1 (by decide) ?_
  refine lv_aload_n hx hb dX11_end_2 rfl (lv_at hl 0 rfl) ?_
  refine z_get Z i_X11 hP 0 rfl rfl 4 (by decide) bw_472 rfl dX11_end_3 ?_
  refine z_get Z i_X2 hP 1 rfl rfl 0 (by decide) bw_422 rfl dX11_end_6 ?_
  refine z_get Z i_X7 hP 2 rfl rfl 4 (by decide) bw_403 rfl dX11_end_9 ?_
  have hPc := hP.sub2 (wc := []) [] rfl
  have hDc := hD.sub (ws' := []) [] (by decide) rfl
  refine raw_Si (nA := 3) (As := [.int p0, .int 0, .int le]) (rest := []) Z hl.1 (c_X11_isWithin l D cI cM cT cJ cZ p0 0 le) (bw_S bw_497 bw_498 bw_80 bw_499) ⟨by decide +kernel, by decide +kernel, by decide +kernel⟩ rfl ⟨Nat.le_of_ble_eq_true rfl, Nat.le_of_ble_eq_true rfl⟩ hPc hDc hS rfl (Nat.le_of_ble_eq_true rfl) dX11_end_12 ⟨Nat.le_of_ble_eq_true rfl, Nat.le_of_ble_eq_true rfl⟩ (fun r2 u1 H locs h3 hku1 hP1 hD1 hS1 => ?_)
  obtain ⟨hrh3, rfl⟩ := h3
  obtain ⟨hP, hD⟩ := z_join (wr := [(x, .inr (11, [.ref st, .ref dr, .ref nw, .ref kp, .ref rd, .ref tm, .ref co])), (rd, .inr (2, [.ref tP, .int fa, .int fb, .int tk, .int kd, .int nb, .ref tX])), (tP, .inr (7, [.ref bY, .ref ki, .ref a_t, .ref nu, .int le, .int tks]))]) Z hS hP hD [] [0, 1, 2] rfl (by decide) rfl (by decide) (by decide) hku1 hP1 hD1
  have hS := hS1
  clear hS1
  have hP : va_P D vwCl ([(x, .inr (11, [.ref st, .ref dr, .ref nw, .ref kp, .ref rd, .ref tm, .ref co])), (rd, .inr (2, [.ref tP, .int fa, .int fb, .int tk, .int kd, .int nb, .ref tX])), (tP, .inr (7, [.ref bY, .ref ki, .ref a_t, .ref nu, .int le, .int tks]))]) H := hP
  have hD : va_D A ([(x, .inr (11, [.ref st, .ref dr, .ref nw, .ref kp, .ref rd, .ref tm, .ref co])), (rd, .inr (2, [.ref tP, .int fa, .int fb, .int tk, .int kd, .int nb, .ref tX])), (tP, .inr (7, [.ref bY, .ref ki, .ref a_t, .ref nu, .int le, .int tks]))]) := hD
  by_cases c4 : 0 ≤ p0 ∧ p0 ≤ le
  · obtain rfl : r2 = 1 := by rw [hrh3, if_pos c4]
    refine lv_if_ne (tgt := 20) hx hb dX11_end_15 (by decide) (fun c5 => ?_) (fun h => absurd h (by decide))
    refine lv_aload_n hx hb dX11_end_20 rfl (lv_at hl 0 rfl) ?_
    refine z_get Z i_X11 hP 0 rfl rfl 4 (by decide) bw_472 rfl dX11_end_21 ?_
    refine z_get Z i_X2 hP 1 rfl rfl 0 (by decide) bw_422 rfl dX11_end_24 ?_
    refine lv_iload_n hx hb dX11_end_27 rfl (lv_at hl 1 rfl) ?_
    refine z_put Z i_X7 tyX7 tyX7_ok nmX7 hP hD hS 2 rfl rfl 4 (by decide) bw_403 rfl rfl rfl (Nat.le_of_ble_eq_true rfl) dX11_end_28 (fun H locs hP hD hS => ?_)
    have hP : va_P D vwCl ([(x, .inr (11, [.ref st, .ref dr, .ref nw, .ref kp, .ref rd, .ref tm, .ref co])), (rd, .inr (2, [.ref tP, .int fa, .int fb, .int tk, .int kd, .int nb, .ref tX])), (tP, .inr (7, [.ref bY, .ref ki, .ref a_t, .ref nu, .int p0, .int tks]))]) H := hP
    have hD : va_D A ([(x, .inr (11, [.ref st, .ref dr, .ref nw, .ref kp, .ref rd, .ref tm, .ref co])), (rd, .inr (2, [.ref tP, .int fa, .int fb, .int tk, .int kd, .int nb, .ref tX])), (tP, .inr (7, [.ref bY, .ref ki, .ref a_t, .ref nu, .int p0, .int tks]))]) := hD
    refine lv_iload_n hx hb dX11_end_31 rfl (lv_at hl 1 rfl) ?_
    exact z_ret Z rfl hP hD hS (⟨p0, rfl, (by first | with_reducible assumption | ((try simp only [zlt, zle, zeq, zl_0, zl_1, zl_2, zl_3, zl_4, zl_5, zl_6, zl_7, zl_8, zl_9, zl_10, zl_11, zl_12, zl_13, zl_14, zl_15, zl_16, zl_17, zl_18, zl_19, zl_20, zl_21, zl_22, zl_23, zl_24, zl_25, zl_26, zl_27, zl_28, zl_29, zl_30, zl_31, zl_32, zl_33, zl_34, zl_35, zl_36, zl_37, zl_38, zl_39, zl_40, zl_41, zl_42, zl_43, zl_44, zl_45, zl_46, zl_47, zl_48, zl_49, zl_50, zl_51, zl_52, zl_53, zl_54, zl_55, zl_56, zl_57, zl_58, zl_59, zl_60, zl_61, zl_62, zl_63, zl_64, zl_65, zl_82, zl_99, zl_100, zl_160, zl_299, zl_300, zl_301, zl_382, zl_398, zl_399, zl_464, zl_680, zl_862, zl_999, zl_1000, zl_9999, zl_10000, zl_1000000, zl_m1, zl_m2, zl_m3, zl_m8] at hi_le c4 c5 ⊢); omega)), (by (try simp only [zlt, zle, zeq, zl_0, zl_1, zl_2, zl_3, zl_4, zl_5, zl_6, zl_7, zl_8, zl_9, zl_10, zl_11, zl_12, zl_13, zl_14, zl_15, zl_16, zl_17, zl_18, zl_19, zl_20, zl_21, zl_22, zl_23, zl_24, zl_25, zl_26, zl_27, zl_28, zl_29, zl_30, zl_31, zl_32, zl_33, zl_34, zl_35, zl_36, zl_37, zl_38, zl_39, zl_40, zl_41, zl_42, zl_43, zl_44, zl_45, zl_46, zl_47, zl_48, zl_49, zl_50, zl_51, zl_52, zl_53, zl_54, zl_55, zl_56, zl_57, zl_58, zl_59, zl_60, zl_61, zl_62, zl_63, zl_64, zl_65, zl_82, zl_99, zl_100, zl_160, zl_299, zl_300, zl_301, zl_382, zl_398, zl_399, zl_464, zl_680, zl_862, zl_999, zl_1000, zl_9999, zl_10000, zl_1000000, zl_m1, zl_m2, zl_m3, zl_m8, and_true, true_and, and_false, false_and, or_false, false_or, or_true, true_or, not_true_eq_false, not_false_eq_true] at hi_le c4 c5 ⊢) <;> omega)⟩) dX11_end_32 (Nat.le_of_ble_eq_true rfl) (Nat.le_of_ble_eq_true rfl)
  · obtain rfl : r2 = 0 := by rw [hrh3, if_neg c4]
    refine lv_if_ne (tgt := 20) hx hb dX11_end_15 (by decide) (fun h => absurd (by decide) h) (fun c6 => ?_)
    refine lv_iconst (v := (-1)) hx hb dX11_end_18 (by decide) ?_
    exact z_ret Z rfl hP hD hS (⟨le, rfl, (by first | with_reducible assumption | ((try simp only [zlt, zle, zeq, zl_0, zl_1, zl_2, zl_3, zl_4, zl_5, zl_6, zl_7, zl_8, zl_9, zl_10, zl_11, zl_12, zl_13, zl_14, zl_15, zl_16, zl_17, zl_18, zl_19, zl_20, zl_21, zl_22, zl_23, zl_24, zl_25, zl_26, zl_27, zl_28, zl_29, zl_30, zl_31, zl_32, zl_33, zl_34, zl_35, zl_36, zl_37, zl_38, zl_39, zl_40, zl_41, zl_42, zl_43, zl_44, zl_45, zl_46, zl_47, zl_48, zl_49, zl_50, zl_51, zl_52, zl_53, zl_54, zl_55, zl_56, zl_57, zl_58, zl_59, zl_60, zl_61, zl_62, zl_63, zl_64, zl_65, zl_82, zl_99, zl_100, zl_160, zl_299, zl_300, zl_301, zl_382, zl_398, zl_399, zl_464, zl_680, zl_862, zl_999, zl_1000, zl_9999, zl_10000, zl_1000000, zl_m1, zl_m2, zl_m3, zl_m8] at hi_le c4 c6 ⊢); omega)), (by (try simp only [zlt, zle, zeq, zl_0, zl_1, zl_2, zl_3, zl_4, zl_5, zl_6, zl_7, zl_8, zl_9, zl_10, zl_11, zl_12, zl_13, zl_14, zl_15, zl_16, zl_17, zl_18, zl_19, zl_20, zl_21, zl_22, zl_23, zl_24, zl_25, zl_26, zl_27, zl_28, zl_29, zl_30, zl_31, zl_32, zl_33, zl_34, zl_35, zl_36, zl_37, zl_38, zl_39, zl_40, zl_41, zl_42, zl_43, zl_44, zl_45, zl_46, zl_47, zl_48, zl_49, zl_50, zl_51, zl_52, zl_53, zl_54, zl_55, zl_56, zl_57, zl_58, zl_59, zl_60, zl_61, zl_62, zl_63, zl_64, zl_65, zl_82, zl_99, zl_100, zl_160, zl_299, zl_300, zl_301, zl_382, zl_398, zl_399, zl_464, zl_680, zl_862, zl_999, zl_1000, zl_9999, zl_10000, zl_1000000, zl_m1, zl_m2, zl_m3, zl_m8, and_true, true_and, and_false, false_and, or_false, false_or, or_true, true_or, not_true_eq_false, not_false_eq_true] at hi_le c4 c6 ⊢) <;> omega)⟩) dX11_end_19 (Nat.le_of_ble_eq_true rfl) (Nat.le_of_ble_eq_true rfl)
set_option maxHeartbeats 4000000 in
set_option maxRecDepth 100000 in
theorem c_X11_fault (l : Launch) (D : va_G) (cI cM cT cJ cZ : ClassId) (x : Nat) (p0 : Int32) (st : Nat) (dr : Nat) (nw : Nat) (kp : Nat) (rd : Nat) (tm : Nat) (co : Nat) (tP : Nat) (fa : Int32) (fb : Int32) (tk : Int32) (kd : Int32) (nb : Int32) (tX : Nat) : Ci l D (ty3 cI cM cT cJ cZ) yX11_fault cX11_fault 2 (some .int) 2 0 0 [.ref x, .int p0] ([(x, .inr (11, [.ref st, .ref dr, .ref nw, .ref kp, .ref rd, .ref tm, .ref co])), (rd, .inr (2, [.ref tP, .int fa, .int fb, .int tk, .int kd, .int nb, .ref tX]))]) (fun r u => u = [(x, .inr (11, [.ref st, .ref dr, .ref nw, .ref kp, .ref rd, .ref tm, .ref co])), (rd, .inr (2, [.ref tP, .int fa, .int fb, .int tk, .int kd, .int nb, .ref tX]))] ∧ ((p0.toInt = 0 ∧ r.toInt = fa.toInt) ∨ (p0.toInt = 1 ∧ r.toInt = fb.toInt) ∨ (p0.toInt ≠ 0 ∧ p0.toInt ≠ 1 ∧ r.toInt = -1))) := by
  refine Ci.of (by decide +kernel) (Nat.le_of_ble_eq_true rfl) ?_
  intro p e s m below meth c A ls Z hin hP hD hl
  have hx := Z.1
  have hb := Z.2.1
  have hS : va_S A s.heap s.heap [] := va_S.rf
  have hl : lv_has ls 2 [(0, .ref x), (1, .int p0)] := hl
  skip
  refine lv_iload_n hx hb dX11_fault_0 rfl (lv_at hl 1 rfl) ?_
  refine lv_if_ne (tgt := 12) hx hb dX11_fault_1 (by decide) (fun c1 => ?_) (fun c1 => ?_)
  · refine lv_iload_n hx hb dX11_fault_12 rfl (lv_at hl 1 rfl) ?_
    refine lv_iconst (v := 1) hx hb dX11_fault_13 (by decide) ?_
    refine lv_icmp_ne (tgt := 27) hx hb dX11_fault_14 (by decide) (fun c2 => ?_) (fun c2 => ?_)
    · refine lv_iconst (v := (-1)) hx hb dX11_fault_27 (by decide) ?_
      exact z_ret Z rfl hP hD hS (⟨rfl, (by (try simp only [zlt, zle, zeq, zl_0, zl_1, zl_2, zl_3, zl_4, zl_5, zl_6, zl_7, zl_8, zl_9, zl_10, zl_11, zl_12, zl_13, zl_14, zl_15, zl_16, zl_17, zl_18, zl_19, zl_20, zl_21, zl_22, zl_23, zl_24, zl_25, zl_26, zl_27, zl_28, zl_29, zl_30, zl_31, zl_32, zl_33, zl_34, zl_35, zl_36, zl_37, zl_38, zl_39, zl_40, zl_41, zl_42, zl_43, zl_44, zl_45, zl_46, zl_47, zl_48, zl_49, zl_50, zl_51, zl_52, zl_53, zl_54, zl_55, zl_56, zl_57, zl_58, zl_59, zl_60, zl_61, zl_62, zl_63, zl_64, zl_65, zl_82, zl_99, zl_100, zl_160, zl_299, zl_300, zl_301, zl_382, zl_398, zl_399, zl_464, zl_680, zl_862, zl_999, zl_1000, zl_9999, zl_10000, zl_1000000, zl_m1, zl_m2, zl_m3, zl_m8, and_true, true_and, and_false, false_and, or_false, false_or, or_true, true_or, not_true_eq_false, not_false_eq_true] at c1 c2 ⊢) <;> omega)⟩) dX11_fault_28 (Nat.le_of_ble_eq_true rfl) (Nat.le_of_ble_eq_true rfl)
    · refine lv_aload_n hx hb dX11_fault_17 rfl (lv_at hl 0 rfl) ?_
      refine z_get Z i_X11 hP 0 rfl rfl 4 (by decide) bw_472 rfl dX11_fault_18 ?_
      refine z_get Z i_X2 hP 1 rfl rfl 2 (by decide) bw_426 rfl dX11_fault_21 ?_
      refine lv_goto (tgt := 28) hx hb dX11_fault_24 (by decide) ?_
      exact z_ret Z rfl hP hD hS (⟨rfl, (by (try simp only [zlt, zle, zeq, zl_0, zl_1, zl_2, zl_3, zl_4, zl_5, zl_6, zl_7, zl_8, zl_9, zl_10, zl_11, zl_12, zl_13, zl_14, zl_15, zl_16, zl_17, zl_18, zl_19, zl_20, zl_21, zl_22, zl_23, zl_24, zl_25, zl_26, zl_27, zl_28, zl_29, zl_30, zl_31, zl_32, zl_33, zl_34, zl_35, zl_36, zl_37, zl_38, zl_39, zl_40, zl_41, zl_42, zl_43, zl_44, zl_45, zl_46, zl_47, zl_48, zl_49, zl_50, zl_51, zl_52, zl_53, zl_54, zl_55, zl_56, zl_57, zl_58, zl_59, zl_60, zl_61, zl_62, zl_63, zl_64, zl_65, zl_82, zl_99, zl_100, zl_160, zl_299, zl_300, zl_301, zl_382, zl_398, zl_399, zl_464, zl_680, zl_862, zl_999, zl_1000, zl_9999, zl_10000, zl_1000000, zl_m1, zl_m2, zl_m3, zl_m8, and_true, true_and, and_false, false_and, or_false, false_or, or_true, true_or, not_true_eq_false, not_false_eq_true] at c1 c2 ⊢) <;> omega)⟩) dX11_fault_28 (Nat.le_of_ble_eq_true rfl) (Nat.le_of_ble_eq_true rfl)
  · refine lv_aload_n hx hb dX11_fault_4 rfl (lv_at hl 0 rfl) ?_
    refine z_get Z i_X11 hP 0 rfl rfl 4 (by decide) bw_472 rfl dX11_fault_5 ?_
    refine z_get Z i_X2 hP 1 rfl rfl 1 (by decide) bw_424 rfl dX11_fault_8 ?_
    exact z_ret Z rfl hP hD hS (⟨rfl, (by (try simp only [zlt, zle, zeq, zl_0, zl_1, zl_2, zl_3, zl_4, zl_5, zl_6, zl_7, zl_8, zl_9, zl_10, zl_11, zl_12, zl_13, zl_14, zl_15, zl_16, zl_17, zl_18, zl_19, zl_20, zl_21, zl_22, zl_23, zl_24, zl_25, zl_26, zl_27, zl_28, zl_29, zl_30, zl_31, zl_32, zl_33, zl_34, zl_35, zl_36, zl_37, zl_38, zl_39, zl_40, zl_41, zl_42, zl_43, zl_44, zl_45, zl_46, zl_47, zl_48, zl_49, zl_50, zl_51, zl_52, zl_53, zl_54, zl_55, zl_56, zl_57, zl_58, zl_59, zl_60, zl_61, zl_62, zl_63, zl_64, zl_65, zl_82, zl_99, zl_100, zl_160, zl_299, zl_300, zl_301, zl_382, zl_398, zl_399, zl_464, zl_680, zl_862, zl_999, zl_1000, zl_9999, zl_10000, zl_1000000, zl_m1, zl_m2, zl_m3, zl_m8, and_true, true_and, and_false, false_and, or_false, false_or, or_true, true_or, not_true_eq_false, not_false_eq_true] at c1 ⊢) <;> omega)⟩) dX11_fault_11 (Nat.le_of_ble_eq_true rfl) (Nat.le_of_ble_eq_true rfl)
set_option maxHeartbeats 4000000 in
set_option maxRecDepth 100000 in
theorem c_X11_by (l : Launch) (D : va_G) (cI cM cT cJ cZ : ClassId) (x : Nat) (p0 : Int32) (st : Nat) (dr : Nat) (nw : Nat) (kp : Nat) (rd : Nat) (tm : Nat) (co : Nat) (rO : Nat) (sT : Nat) (mA : Nat) (sB : Nat) (sA : Nat) (tH : Nat) (tF : Nat) (tS : Nat) (sp : Int32) (tn : Int32) (ru : Int32) (se : Int32) (tr : Int32) (s1 : Nat) (s2 : Nat) (s3 : Nat) (ag : Int32) (hi_tn : 0 ≤ tn.toInt ∧ tn.toInt ≤ 4) (hi_se : 0 ≤ se.toInt ∧ se.toInt ≤ 6) (hi_tr : 0 ≤ tr.toInt ∧ tr.toInt ≤ 10) : Ci l D (ty3 cI cM cT cJ cZ) yX11_by cX11_by 2 (some .boolean) 2 0 0 [.ref x, .int p0] ([(x, .inr (11, [.ref st, .ref dr, .ref nw, .ref kp, .ref rd, .ref tm, .ref co])), (nw, .inr (10, [.ref rO, .ref sT, .ref mA, .ref sB, .ref sA, .ref tH, .ref tF, .ref tS, .int sp, .int tn, .int ru, .int se, .int tr])), (st, .inr (6, [.ref dr, .ref s1, .ref s2, .ref s3, .int ag]))]) (fun r u => ∃ (ru_n : Int32) (ag_n : Int32), (0 ≤ r.toInt ∧ r.toInt ≤ 1) ∧ u = [(x, .inr (11, [.ref st, .ref dr, .ref nw, .ref kp, .ref rd, .ref tm, .ref co])), (nw, .inr (10, [.ref rO, .ref sT, .ref mA, .ref sB, .ref sA, .ref tH, .ref tF, .ref tS, .int sp, .int tn, .int ru_n, .int se, .int tr])), (st, .inr (6, [.ref dr, .ref s1, .ref s2, .ref s3, .int ag_n]))] ∧ ((r.toInt = 1 ∧ -1 ≤ p0.toInt ∧ p0.toInt < tn.toInt) ∨ (r.toInt = 0 ∧ (p0.toInt < -1 ∨ tn.toInt ≤ p0.toInt)))) := by
  refine Ci.of (by decide +kernel) (Nat.le_of_ble_eq_true rfl) ?_
  intro p e s m below meth c A ls Z hin hP hD hl
  have hx := Z.1
  have hb := Z.2.1
  have hS : va_S A s.heap s.heap [] := va_S.rf
  have hl : lv_has ls 2 [(0, .ref x), (1, .int p0)] := hl
  skip
  refine lv_iload_n hx hb dX11_by_0 rfl (lv_at hl 1 rfl) ?_
  refine lv_iconst (v := (-1)) hx hb dX11_by_1 (by decide) ?_
  refine lv_aload_n hx hb dX11_by_2 rfl (lv_at hl 0 rfl) ?_
  refine z_get Z i_X11 hP 0 rfl rfl 2 (by decide) bw_470 rfl dX11_by_3 ?_
  refine z_get Z i_X10 hP 1 rfl rfl 9 (by decide) bw_255 rfl dX11_by_6 ?_
  refine lv_iconst (v := 1) hx hb dX11_by_9 (by decide) ?_
  refine lv_isub hx hb dX11_by_10 ?_
  refine lv_topi (fun z1 ez1 => ?_)
  have hz1 : z1.toInt = tn.toInt - 1 := by rw [ez1]; exact zsubg (by first | with_reducible assumption | ((try simp only [zlt, zle, zeq, zl_0, zl_1, zl_2, zl_3, zl_4, zl_5, zl_6, zl_7, zl_8, zl_9, zl_10, zl_11, zl_12, zl_13, zl_14, zl_15, zl_16, zl_17, zl_18, zl_19, zl_20, zl_21, zl_22, zl_23, zl_24, zl_25, zl_26, zl_27, zl_28, zl_29, zl_30, zl_31, zl_32, zl_33, zl_34, zl_35, zl_36, zl_37, zl_38, zl_39, zl_40, zl_41, zl_42, zl_43, zl_44, zl_45, zl_46, zl_47, zl_48, zl_49, zl_50, zl_51, zl_52, zl_53, zl_54, zl_55, zl_56, zl_57, zl_58, zl_59, zl_60, zl_61, zl_62, zl_63, zl_64, zl_65, zl_82, zl_99, zl_100, zl_160, zl_299, zl_300, zl_301, zl_382, zl_398, zl_399, zl_464, zl_680, zl_862, zl_999, zl_1000, zl_9999, zl_10000, zl_1000000, zl_m1, zl_m2, zl_m3, zl_m8] at hi_tn hi_se hi_tr ⊢); omega)) (by first | with_reducible assumption | ((try simp only [zlt, zle, zeq, zl_0, zl_1, zl_2, zl_3, zl_4, zl_5, zl_6, zl_7, zl_8, zl_9, zl_10, zl_11, zl_12, zl_13, zl_14, zl_15, zl_16, zl_17, zl_18, zl_19, zl_20, zl_21, zl_22, zl_23, zl_24, zl_25, zl_26, zl_27, zl_28, zl_29, zl_30, zl_31, zl_32, zl_33, zl_34, zl_35, zl_36, zl_37, zl_38, zl_39, zl_40, zl_41, zl_42, zl_43, zl_44, zl_45, zl_46, zl_47, zl_48, zl_49, zl_50, zl_51, zl_52, zl_53, zl_54, zl_55, zl_56, zl_57, zl_58, zl_59, zl_60, zl_61, zl_62, zl_63, zl_64, zl_65, zl_82, zl_99, zl_100, zl_160, zl_299, zl_300, zl_301, zl_382, zl_398, zl_399, zl_464, zl_680, zl_862, zl_999, zl_1000, zl_9999, zl_10000, zl_1000000, zl_m1, zl_m2, zl_m3, zl_m8] at hi_tn hi_se hi_tr ⊢); omega))
  have hPc := hP.sub2 (wc := []) [] rfl
  have hDc := hD.sub (ws' := []) [] (by decide) rfl
  refine raw_Si (nA := 3) (As := [.int p0, .int (-1), .int z1]) (rest := []) Z hl.1 (c_X11_isWithin l D cI cM cT cJ cZ p0 (-1) z1) (bw_S bw_497 bw_498 bw_80 bw_499) ⟨by decide +kernel, by decide +kernel, by decide +kernel⟩ rfl ⟨Nat.le_of_ble_eq_true rfl, Nat.le_of_ble_eq_true rfl⟩ hPc hDc hS rfl (Nat.le_of_ble_eq_true rfl) dX11_by_11 ⟨Nat.le_of_ble_eq_true rfl, Nat.le_of_ble_eq_true rfl⟩ (fun r3 u2 H locs h4 hku2 hP1 hD1 hS1 => ?_)
  obtain ⟨hrh4, rfl⟩ := h4
  obtain ⟨hP, hD⟩ := z_join (wr := [(x, .inr (11, [.ref st, .ref dr, .ref nw, .ref kp, .ref rd, .ref tm, .ref co])), (nw, .inr (10, [.ref rO, .ref sT, .ref mA, .ref sB, .ref sA, .ref tH, .ref tF, .ref tS, .int sp, .int tn, .int ru, .int se, .int tr])), (st, .inr (6, [.ref dr, .ref s1, .ref s2, .ref s3, .int ag]))]) Z hS hP hD [] [0, 1, 2] rfl (by decide) rfl (by decide) (by decide) hku2 hP1 hD1
  have hS := hS1
  clear hS1
  have hP : va_P D vwCl ([(x, .inr (11, [.ref st, .ref dr, .ref nw, .ref kp, .ref rd, .ref tm, .ref co])), (nw, .inr (10, [.ref rO, .ref sT, .ref mA, .ref sB, .ref sA, .ref tH, .ref tF, .ref tS, .int sp, .int tn, .int ru, .int se, .int tr])), (st, .inr (6, [.ref dr, .ref s1, .ref s2, .ref s3, .int ag]))]) H := hP
  have hD : va_D A ([(x, .inr (11, [.ref st, .ref dr, .ref nw, .ref kp, .ref rd, .ref tm, .ref co])), (nw, .inr (10, [.ref rO, .ref sT, .ref mA, .ref sB, .ref sA, .ref tH, .ref tF, .ref tS, .int sp, .int tn, .int ru, .int se, .int tr])), (st, .inr (6, [.ref dr, .ref s1, .ref s2, .ref s3, .int ag]))]) := hD
  by_cases c5 : (-1) ≤ p0 ∧ p0 ≤ z1
  · obtain rfl : r3 = 1 := by rw [hrh4, if_pos c5]
    refine lv_if_ne (tgt := 19) hx hb dX11_by_14 (by decide) (fun c6 => ?_) (fun h => absurd h (by decide))
    refine lv_aload_n hx hb dX11_by_19 rfl (lv_at hl 0 rfl) ?_
    refine z_get Z i_X11 hP 0 rfl rfl 2 (by decide) bw_470 rfl dX11_by_20 ?_
    refine lv_iload_n hx hb dX11_by_23 rfl (lv_at hl 1 rfl) ?_
    refine z_put Z i_X10 tyX10 tyX10_ok nmX10 hP hD hS 1 rfl rfl 10 (by decide) bw_258 rfl rfl rfl (Nat.le_of_ble_eq_true rfl) dX11_by_24 (fun H locs hP hD hS => ?_)
    have hP : va_P D vwCl ([(x, .inr (11, [.ref st, .ref dr, .ref nw, .ref kp, .ref rd, .ref tm, .ref co])), (nw, .inr (10, [.ref rO, .ref sT, .ref mA, .ref sB, .ref sA, .ref tH, .ref tF, .ref tS, .int sp, .int tn, .int p0, .int se, .int tr])), (st, .inr (6, [.ref dr, .ref s1, .ref s2, .ref s3, .int ag]))]) H := hP
    have hD : va_D A ([(x, .inr (11, [.ref st, .ref dr, .ref nw, .ref kp, .ref rd, .ref tm, .ref co])), (nw, .inr (10, [.ref rO, .ref sT, .ref mA, .ref sB, .ref sA, .ref tH, .ref tF, .ref tS, .int sp, .int tn, .int p0, .int se, .int tr])), (st, .inr (6, [.ref dr, .ref s1, .ref s2, .ref s3, .int ag]))]) := hD
    refine lv_aload_n hx hb dX11_by_27 rfl (lv_at hl 0 rfl) ?_
    refine z_get Z i_X11 hP 0 rfl rfl 0 (by decide) bw_468 rfl dX11_by_28 ?_
    have hPc := hP.sub2 (wc := [(st, .inr (6, [.ref dr, .ref s1, .ref s2, .ref s3, .int ag]))]) [2] rfl
    have hDc := hD.sub (ws' := [(st, .inr (6, [.ref dr, .ref s1, .ref s2, .ref s3, .int ag]))]) [2] (by decide) rfl
    refine raw_Vv (ci := 6) (q0 := 0) (nA := 0) (As := []) (rest := []) Z hl.1 (c_X6_forget l D cI cM cT cJ cZ st dr s1 s2 s3 ag) (bw_V bw_500 bw_501 bw_502 bw_81 bw_503) ⟨by decide +kernel, by decide +kernel, by decide +kernel⟩ rfl ⟨Nat.le_of_ble_eq_true rfl, Nat.le_of_ble_eq_true rfl⟩ rfl rfl rfl hPc hDc hS rfl (Nat.le_of_ble_eq_true rfl) dX11_by_31 ⟨Nat.le_of_ble_eq_true rfl, Nat.le_of_ble_eq_true rfl⟩ (fun u7 H locs h9 hku7 hP1 hD1 hS1 => ?_)
    obtain ⟨ag_n_10, rfl⟩ := h9
    obtain ⟨hP, hD⟩ := z_join (wr := [(x, .inr (11, [.ref st, .ref dr, .ref nw, .ref kp, .ref rd, .ref tm, .ref co])), (nw, .inr (10, [.ref rO, .ref sT, .ref mA, .ref sB, .ref sA, .ref tH, .ref tF, .ref tS, .int sp, .int tn, .int p0, .int se, .int tr]))]) Z hS hP hD [2] [0, 1] rfl (by decide) rfl (by decide) (by decide) hku7 hP1 hD1
    have hS := hS1
    clear hS1
    have hP : va_P D vwCl ([(x, .inr (11, [.ref st, .ref dr, .ref nw, .ref kp, .ref rd, .ref tm, .ref co])), (nw, .inr (10, [.ref rO, .ref sT, .ref mA, .ref sB, .ref sA, .ref tH, .ref tF, .ref tS, .int sp, .int tn, .int p0, .int se, .int tr])), (st, .inr (6, [.ref dr, .ref s1, .ref s2, .ref s3, .int ag_n_10]))]) H := hP
    have hD : va_D A ([(x, .inr (11, [.ref st, .ref dr, .ref nw, .ref kp, .ref rd, .ref tm, .ref co])), (nw, .inr (10, [.ref rO, .ref sT, .ref mA, .ref sB, .ref sA, .ref tH, .ref tF, .ref tS, .int sp, .int tn, .int p0, .int se, .int tr])), (st, .inr (6, [.ref dr, .ref s1, .ref s2, .ref s3, .int ag_n_10]))]) := hD
    refine lv_iconst (v := 1) hx hb dX11_by_34 (by decide) ?_
    exact z_ret Z rfl hP hD hS (⟨p0, ag_n_10, (by decide), rfl, (by (try simp only [zlt, zle, zeq, zl_0, zl_1, zl_2, zl_3, zl_4, zl_5, zl_6, zl_7, zl_8, zl_9, zl_10, zl_11, zl_12, zl_13, zl_14, zl_15, zl_16, zl_17, zl_18, zl_19, zl_20, zl_21, zl_22, zl_23, zl_24, zl_25, zl_26, zl_27, zl_28, zl_29, zl_30, zl_31, zl_32, zl_33, zl_34, zl_35, zl_36, zl_37, zl_38, zl_39, zl_40, zl_41, zl_42, zl_43, zl_44, zl_45, zl_46, zl_47, zl_48, zl_49, zl_50, zl_51, zl_52, zl_53, zl_54, zl_55, zl_56, zl_57, zl_58, zl_59, zl_60, zl_61, zl_62, zl_63, zl_64, zl_65, zl_82, zl_99, zl_100, zl_160, zl_299, zl_300, zl_301, zl_382, zl_398, zl_399, zl_464, zl_680, zl_862, zl_999, zl_1000, zl_9999, zl_10000, zl_1000000, zl_m1, zl_m2, zl_m3, zl_m8, and_true, true_and, and_false, false_and, or_false, false_or, or_true, true_or, not_true_eq_false, not_false_eq_true] at hi_tn hi_se hi_tr hz1 c5 c6 ⊢) <;> omega)⟩) dX11_by_35 (Nat.le_of_ble_eq_true rfl) (Nat.le_of_ble_eq_true rfl)
  · obtain rfl : r3 = 0 := by rw [hrh4, if_neg c5]
    refine lv_if_ne (tgt := 19) hx hb dX11_by_14 (by decide) (fun h => absurd (by decide) h) (fun c11 => ?_)
    refine lv_iconst (v := 0) hx hb dX11_by_17 (by decide) ?_
    exact z_ret Z rfl hP hD hS (⟨ru, ag, (by decide), rfl, (by (try simp only [zlt, zle, zeq, zl_0, zl_1, zl_2, zl_3, zl_4, zl_5, zl_6, zl_7, zl_8, zl_9, zl_10, zl_11, zl_12, zl_13, zl_14, zl_15, zl_16, zl_17, zl_18, zl_19, zl_20, zl_21, zl_22, zl_23, zl_24, zl_25, zl_26, zl_27, zl_28, zl_29, zl_30, zl_31, zl_32, zl_33, zl_34, zl_35, zl_36, zl_37, zl_38, zl_39, zl_40, zl_41, zl_42, zl_43, zl_44, zl_45, zl_46, zl_47, zl_48, zl_49, zl_50, zl_51, zl_52, zl_53, zl_54, zl_55, zl_56, zl_57, zl_58, zl_59, zl_60, zl_61, zl_62, zl_63, zl_64, zl_65, zl_82, zl_99, zl_100, zl_160, zl_299, zl_300, zl_301, zl_382, zl_398, zl_399, zl_464, zl_680, zl_862, zl_999, zl_1000, zl_9999, zl_10000, zl_1000000, zl_m1, zl_m2, zl_m3, zl_m8, and_true, true_and, and_false, false_and, or_false, false_or, or_true, true_or, not_true_eq_false, not_false_eq_true] at hi_tn hi_se hi_tr hz1 c5 c11 ⊢) <;> omega)⟩) dX11_by_18 (Nat.le_of_ble_eq_true rfl) (Nat.le_of_ble_eq_true rfl)
set_option maxHeartbeats 4000000 in
set_option maxRecDepth 100000 in
theorem c_X11_start (l : Launch) (D : va_G) (cI cM cT cJ cZ : ClassId) (x : Nat) (p0 : Int32) (st : Nat) (dr : Nat) (nw : Nat) (kp : Nat) (rd : Nat) (tm : Nat) (co : Nat) (rO : Nat) (sT : Nat) (mA : Nat) (sB : Nat) (sA : Nat) (tH : Nat) (tF : Nat) (tS : Nat) (sp : Int32) (tn : Int32) (ru : Int32) (se : Int32) (tr : Int32) (iA : Nat) (in_ : Int32) (pl : Int32) (oa : Int32) (dv : Int32) (dy : Int32) (xx : Int32) (rG : Nat) (nx : Int32) (sz : Int32) (hi_tn : 0 ≤ tn.toInt ∧ tn.toInt ≤ 4) (hi_se : 0 ≤ se.toInt ∧ se.toInt ≤ 6) (hi_tr : 0 ≤ tr.toInt ∧ tr.toInt ≤ 10) (hi_in_ : 0 ≤ in_.toInt ∧ in_.toInt ≤ 10) (hi_pl : 0 ≤ pl.toInt ∧ pl.toInt ≤ 299) (hi_nx : 0 ≤ nx.toInt ∧ nx.toInt ≤ 29) : Ci l D (ty3 cI cM cT cJ cZ) yX11_start cX11_start 2 (some .boolean) 2 0 0 [.ref x, .int p0] ([(x, .inr (11, [.ref st, .ref dr, .ref nw, .ref kp, .ref rd, .ref tm, .ref co])), (nw, .inr (10, [.ref rO, .ref sT, .ref mA, .ref sB, .ref sA, .ref tH, .ref tF, .ref tS, .int sp, .int tn, .int ru, .int se, .int tr])), (mA, .inr (1, [.ref iA, .int in_, .int pl, .int oa, .int dv, .int dy, .int xx])), (sB, .inr (5, [.ref rG, .int nx, .int sz]))]) (fun r u => ∃ (pl_n : Int32) (oa_n : Int32) (dv_n : Int32) (sz_n : Int32), r = (if 0 ≤ p0 ∧ p0 < 300 then 1 else 0) ∧ u = [(x, .inr (11, [.ref st, .ref dr, .ref nw, .ref kp, .ref rd, .ref tm, .ref co])), (nw, .inr (10, [.ref rO, .ref sT, .ref mA, .ref sB, .ref sA, .ref tH, .ref tF, .ref tS, .int sp, .int tn, .int ru, .int se, .int tr])), (mA, .inr (1, [.ref iA, .int in_, .int pl_n, .int oa_n, .int dv_n, .int dy, .int xx])), (sB, .inr (5, [.ref rG, .int nx, .int sz_n]))] ∧ (0 ≤ pl_n.toInt ∧ pl_n.toInt ≤ 299)) := by
  refine Ci.of (by decide +kernel) (Nat.le_of_ble_eq_true rfl) ?_
  intro p e s m below meth c A ls Z hin hP hD hl
  have hx := Z.1
  have hb := Z.2.1
  have hS : va_S A s.heap s.heap [] := va_S.rf
  have hl : lv_has ls 2 [(0, .ref x), (1, .int p0)] := hl
  skip
  refine lv_iload_n hx hb dX11_start_0 rfl (lv_at hl 1 rfl) ?_
  have hPc := hP.sub2 (wc := []) [] rfl
  have hDc := hD.sub (ws' := []) [] (by decide) rfl
  refine raw_Si (nA := 1) (As := [.int p0]) (rest := []) Z hl.1 (c_X11_isPlace l D cI cM cT cJ cZ p0) (bw_S bw_494 bw_495 bw_80 bw_496) ⟨by decide +kernel, by decide +kernel, by decide +kernel⟩ rfl ⟨Nat.le_of_ble_eq_true rfl, Nat.le_of_ble_eq_true rfl⟩ hPc hDc hS rfl (Nat.le_of_ble_eq_true rfl) dX11_start_1 ⟨Nat.le_of_ble_eq_true rfl, Nat.le_of_ble_eq_true rfl⟩ (fun r2 u1 H locs h3 hku1 hP1 hD1 hS1 => ?_)
  obtain ⟨hrh3, rfl⟩ := h3
  obtain ⟨hP, hD⟩ := z_join (wr := [(x, .inr (11, [.ref st, .ref dr, .ref nw, .ref kp, .ref rd, .ref tm, .ref co])), (nw, .inr (10, [.ref rO, .ref sT, .ref mA, .ref sB, .ref sA, .ref tH, .ref tF, .ref tS, .int sp, .int tn, .int ru, .int se, .int tr])), (mA, .inr (1, [.ref iA, .int in_, .int pl, .int oa, .int dv, .int dy, .int xx])), (sB, .inr (5, [.ref rG, .int nx, .int sz]))]) Z hS hP hD [] [0, 1, 2, 3] rfl (by decide) rfl (by decide) (by decide) hku1 hP1 hD1
  have hS := hS1
  clear hS1
  have hP : va_P D vwCl ([(x, .inr (11, [.ref st, .ref dr, .ref nw, .ref kp, .ref rd, .ref tm, .ref co])), (nw, .inr (10, [.ref rO, .ref sT, .ref mA, .ref sB, .ref sA, .ref tH, .ref tF, .ref tS, .int sp, .int tn, .int ru, .int se, .int tr])), (mA, .inr (1, [.ref iA, .int in_, .int pl, .int oa, .int dv, .int dy, .int xx])), (sB, .inr (5, [.ref rG, .int nx, .int sz]))]) H := hP
  have hD : va_D A ([(x, .inr (11, [.ref st, .ref dr, .ref nw, .ref kp, .ref rd, .ref tm, .ref co])), (nw, .inr (10, [.ref rO, .ref sT, .ref mA, .ref sB, .ref sA, .ref tH, .ref tF, .ref tS, .int sp, .int tn, .int ru, .int se, .int tr])), (mA, .inr (1, [.ref iA, .int in_, .int pl, .int oa, .int dv, .int dy, .int xx])), (sB, .inr (5, [.ref rG, .int nx, .int sz]))]) := hD
  by_cases c4 : 0 ≤ p0 ∧ p0 < 300
  · obtain rfl : r2 = 1 := by rw [hrh3, if_pos c4]
    refine lv_if_ne (tgt := 9) hx hb dX11_start_4 (by decide) (fun c5 => ?_) (fun h => absurd h (by decide))
    refine lv_aload_n hx hb dX11_start_9 rfl (lv_at hl 0 rfl) ?_
    refine z_get Z i_X11 hP 0 rfl rfl 2 (by decide) bw_470 rfl dX11_start_10 ?_
    refine z_get Z i_X10 hP 1 rfl rfl 2 (by decide) bw_240 rfl dX11_start_13 ?_
    refine lv_iload_n hx hb dX11_start_16 rfl (lv_at hl 1 rfl) ?_
    refine z_put Z i_X1 tyX1 tyX1_ok nmX1 hP hD hS 2 rfl rfl 2 (by decide) bw_186 rfl rfl rfl (Nat.le_of_ble_eq_true rfl) dX11_start_17 (fun H locs hP hD hS => ?_)
    have hP : va_P D vwCl ([(x, .inr (11, [.ref st, .ref dr, .ref nw, .ref kp, .ref rd, .ref tm, .ref co])), (nw, .inr (10, [.ref rO, .ref sT, .ref mA, .ref sB, .ref sA, .ref tH, .ref tF, .ref tS, .int sp, .int tn, .int ru, .int se, .int tr])), (mA, .inr (1, [.ref iA, .int in_, .int p0, .int oa, .int dv, .int dy, .int xx])), (sB, .inr (5, [.ref rG, .int nx, .int sz]))]) H := hP
    have hD : va_D A ([(x, .inr (11, [.ref st, .ref dr, .ref nw, .ref kp, .ref rd, .ref tm, .ref co])), (nw, .inr (10, [.ref rO, .ref sT, .ref mA, .ref sB, .ref sA, .ref tH, .ref tF, .ref tS, .int sp, .int tn, .int ru, .int se, .int tr])), (mA, .inr (1, [.ref iA, .int in_, .int p0, .int oa, .int dv, .int dy, .int xx])), (sB, .inr (5, [.ref rG, .int nx, .int sz]))]) := hD
    refine lv_aload_n hx hb dX11_start_20 rfl (lv_at hl 0 rfl) ?_
    refine z_get Z i_X11 hP 0 rfl rfl 2 (by decide) bw_470 rfl dX11_start_21 ?_
    refine z_get Z i_X10 hP 1 rfl rfl 2 (by decide) bw_240 rfl dX11_start_24 ?_
    refine lv_iconst (v := 0) hx hb dX11_start_27 (by decide) ?_
    refine z_put Z i_X1 tyX1 tyX1_ok nmX1 hP hD hS 2 rfl rfl 3 (by decide) bw_188 rfl rfl rfl (Nat.le_of_ble_eq_true rfl) dX11_start_28 (fun H locs hP hD hS => ?_)
    have hP : va_P D vwCl ([(x, .inr (11, [.ref st, .ref dr, .ref nw, .ref kp, .ref rd, .ref tm, .ref co])), (nw, .inr (10, [.ref rO, .ref sT, .ref mA, .ref sB, .ref sA, .ref tH, .ref tF, .ref tS, .int sp, .int tn, .int ru, .int se, .int tr])), (mA, .inr (1, [.ref iA, .int in_, .int p0, .int 0, .int dv, .int dy, .int xx])), (sB, .inr (5, [.ref rG, .int nx, .int sz]))]) H := hP
    have hD : va_D A ([(x, .inr (11, [.ref st, .ref dr, .ref nw, .ref kp, .ref rd, .ref tm, .ref co])), (nw, .inr (10, [.ref rO, .ref sT, .ref mA, .ref sB, .ref sA, .ref tH, .ref tF, .ref tS, .int sp, .int tn, .int ru, .int se, .int tr])), (mA, .inr (1, [.ref iA, .int in_, .int p0, .int 0, .int dv, .int dy, .int xx])), (sB, .inr (5, [.ref rG, .int nx, .int sz]))]) := hD
    refine lv_aload_n hx hb dX11_start_31 rfl (lv_at hl 0 rfl) ?_
    refine z_get Z i_X11 hP 0 rfl rfl 2 (by decide) bw_470 rfl dX11_start_32 ?_
    refine z_get Z i_X10 hP 1 rfl rfl 2 (by decide) bw_240 rfl dX11_start_35 ?_
    refine lv_iconst (v := 0) hx hb dX11_start_38 (by decide) ?_
    refine z_put Z i_X1 tyX1 tyX1_ok nmX1 hP hD hS 2 rfl rfl 4 (by decide) bw_190 rfl rfl rfl (Nat.le_of_ble_eq_true rfl) dX11_start_39 (fun H locs hP hD hS => ?_)
    have hP : va_P D vwCl ([(x, .inr (11, [.ref st, .ref dr, .ref nw, .ref kp, .ref rd, .ref tm, .ref co])), (nw, .inr (10, [.ref rO, .ref sT, .ref mA, .ref sB, .ref sA, .ref tH, .ref tF, .ref tS, .int sp, .int tn, .int ru, .int se, .int tr])), (mA, .inr (1, [.ref iA, .int in_, .int p0, .int 0, .int 0, .int dy, .int xx])), (sB, .inr (5, [.ref rG, .int nx, .int sz]))]) H := hP
    have hD : va_D A ([(x, .inr (11, [.ref st, .ref dr, .ref nw, .ref kp, .ref rd, .ref tm, .ref co])), (nw, .inr (10, [.ref rO, .ref sT, .ref mA, .ref sB, .ref sA, .ref tH, .ref tF, .ref tS, .int sp, .int tn, .int ru, .int se, .int tr])), (mA, .inr (1, [.ref iA, .int in_, .int p0, .int 0, .int 0, .int dy, .int xx])), (sB, .inr (5, [.ref rG, .int nx, .int sz]))]) := hD
    refine lv_aload_n hx hb dX11_start_42 rfl (lv_at hl 0 rfl) ?_
    refine z_get Z i_X11 hP 0 rfl rfl 2 (by decide) bw_470 rfl dX11_start_43 ?_
    refine z_get Z i_X10 hP 1 rfl rfl 3 (by decide) bw_242 rfl dX11_start_46 ?_
    refine lv_iconst (v := 0) hx hb dX11_start_49 (by decide) ?_
    refine z_put Z i_X5 tyX5 tyX5_ok nmX5 hP hD hS 3 rfl rfl 2 (by decide) bw_223 rfl rfl rfl (Nat.le_of_ble_eq_true rfl) dX11_start_50 (fun H locs hP hD hS => ?_)
    have hP : va_P D vwCl ([(x, .inr (11, [.ref st, .ref dr, .ref nw, .ref kp, .ref rd, .ref tm, .ref co])), (nw, .inr (10, [.ref rO, .ref sT, .ref mA, .ref sB, .ref sA, .ref tH, .ref tF, .ref tS, .int sp, .int tn, .int ru, .int se, .int tr])), (mA, .inr (1, [.ref iA, .int in_, .int p0, .int 0, .int 0, .int dy, .int xx])), (sB, .inr (5, [.ref rG, .int nx, .int 0]))]) H := hP
    have hD : va_D A ([(x, .inr (11, [.ref st, .ref dr, .ref nw, .ref kp, .ref rd, .ref tm, .ref co])), (nw, .inr (10, [.ref rO, .ref sT, .ref mA, .ref sB, .ref sA, .ref tH, .ref tF, .ref tS, .int sp, .int tn, .int ru, .int se, .int tr])), (mA, .inr (1, [.ref iA, .int in_, .int p0, .int 0, .int 0, .int dy, .int xx])), (sB, .inr (5, [.ref rG, .int nx, .int 0]))]) := hD
    refine lv_iconst (v := 1) hx hb dX11_start_53 (by decide) ?_
    exact z_ret Z rfl hP hD hS (⟨p0, 0, 0, 0, (if_pos (by first | with_reducible assumption | ((try simp only [zlt, zle, zeq, zl_0, zl_1, zl_2, zl_3, zl_4, zl_5, zl_6, zl_7, zl_8, zl_9, zl_10, zl_11, zl_12, zl_13, zl_14, zl_15, zl_16, zl_17, zl_18, zl_19, zl_20, zl_21, zl_22, zl_23, zl_24, zl_25, zl_26, zl_27, zl_28, zl_29, zl_30, zl_31, zl_32, zl_33, zl_34, zl_35, zl_36, zl_37, zl_38, zl_39, zl_40, zl_41, zl_42, zl_43, zl_44, zl_45, zl_46, zl_47, zl_48, zl_49, zl_50, zl_51, zl_52, zl_53, zl_54, zl_55, zl_56, zl_57, zl_58, zl_59, zl_60, zl_61, zl_62, zl_63, zl_64, zl_65, zl_82, zl_99, zl_100, zl_160, zl_299, zl_300, zl_301, zl_382, zl_398, zl_399, zl_464, zl_680, zl_862, zl_999, zl_1000, zl_9999, zl_10000, zl_1000000, zl_m1, zl_m2, zl_m3, zl_m8] at hi_tn hi_se hi_tr hi_in_ hi_pl hi_nx c4 c5 ⊢); omega))).symm, rfl, (by first | with_reducible assumption | ((try simp only [zlt, zle, zeq, zl_0, zl_1, zl_2, zl_3, zl_4, zl_5, zl_6, zl_7, zl_8, zl_9, zl_10, zl_11, zl_12, zl_13, zl_14, zl_15, zl_16, zl_17, zl_18, zl_19, zl_20, zl_21, zl_22, zl_23, zl_24, zl_25, zl_26, zl_27, zl_28, zl_29, zl_30, zl_31, zl_32, zl_33, zl_34, zl_35, zl_36, zl_37, zl_38, zl_39, zl_40, zl_41, zl_42, zl_43, zl_44, zl_45, zl_46, zl_47, zl_48, zl_49, zl_50, zl_51, zl_52, zl_53, zl_54, zl_55, zl_56, zl_57, zl_58, zl_59, zl_60, zl_61, zl_62, zl_63, zl_64, zl_65, zl_82, zl_99, zl_100, zl_160, zl_299, zl_300, zl_301, zl_382, zl_398, zl_399, zl_464, zl_680, zl_862, zl_999, zl_1000, zl_9999, zl_10000, zl_1000000, zl_m1, zl_m2, zl_m3, zl_m8] at hi_tn hi_se hi_tr hi_in_ hi_pl hi_nx c4 c5 ⊢); omega))⟩) dX11_start_54 (Nat.le_of_ble_eq_true rfl) (Nat.le_of_ble_eq_true rfl)
  · obtain rfl : r2 = 0 := by rw [hrh3, if_neg c4]
    refine lv_if_ne (tgt := 9) hx hb dX11_start_4 (by decide) (fun h => absurd (by decide) h) (fun c6 => ?_)
    refine lv_iconst (v := 0) hx hb dX11_start_7 (by decide) ?_
    exact z_ret Z rfl hP hD hS (⟨pl, oa, dv, sz, (if_neg (by first | with_reducible assumption | ((try simp only [zlt, zle, zeq, zl_0, zl_1, zl_2, zl_3, zl_4, zl_5, zl_6, zl_7, zl_8, zl_9, zl_10, zl_11, zl_12, zl_13, zl_14, zl_15, zl_16, zl_17, zl_18, zl_19, zl_20, zl_21, zl_22, zl_23, zl_24, zl_25, zl_26, zl_27, zl_28, zl_29, zl_30, zl_31, zl_32, zl_33, zl_34, zl_35, zl_36, zl_37, zl_38, zl_39, zl_40, zl_41, zl_42, zl_43, zl_44, zl_45, zl_46, zl_47, zl_48, zl_49, zl_50, zl_51, zl_52, zl_53, zl_54, zl_55, zl_56, zl_57, zl_58, zl_59, zl_60, zl_61, zl_62, zl_63, zl_64, zl_65, zl_82, zl_99, zl_100, zl_160, zl_299, zl_300, zl_301, zl_382, zl_398, zl_399, zl_464, zl_680, zl_862, zl_999, zl_1000, zl_9999, zl_10000, zl_1000000, zl_m1, zl_m2, zl_m3, zl_m8] at hi_tn hi_se hi_tr hi_in_ hi_pl hi_nx c4 c6 ⊢); omega))).symm, rfl, (by first | with_reducible assumption | ((try simp only [zlt, zle, zeq, zl_0, zl_1, zl_2, zl_3, zl_4, zl_5, zl_6, zl_7, zl_8, zl_9, zl_10, zl_11, zl_12, zl_13, zl_14, zl_15, zl_16, zl_17, zl_18, zl_19, zl_20, zl_21, zl_22, zl_23, zl_24, zl_25, zl_26, zl_27, zl_28, zl_29, zl_30, zl_31, zl_32, zl_33, zl_34, zl_35, zl_36, zl_37, zl_38, zl_39, zl_40, zl_41, zl_42, zl_43, zl_44, zl_45, zl_46, zl_47, zl_48, zl_49, zl_50, zl_51, zl_52, zl_53, zl_54, zl_55, zl_56, zl_57, zl_58, zl_59, zl_60, zl_61, zl_62, zl_63, zl_64, zl_65, zl_82, zl_99, zl_100, zl_160, zl_299, zl_300, zl_301, zl_382, zl_398, zl_399, zl_464, zl_680, zl_862, zl_999, zl_1000, zl_9999, zl_10000, zl_1000000, zl_m1, zl_m2, zl_m3, zl_m8] at hi_tn hi_se hi_tr hi_in_ hi_pl hi_nx c4 c6 ⊢); omega))⟩) dX11_start_8 (Nat.le_of_ble_eq_true rfl) (Nat.le_of_ble_eq_true rfl)
set_option maxHeartbeats 4000000 in
set_option maxRecDepth 100000 in
theorem c_X11_seen (l : Launch) (D : va_G) (cI cM cT cJ cZ : ClassId) (x : Nat) (p0 : Int32) (st : Nat) (dr : Nat) (nw : Nat) (kp : Nat) (rd : Nat) (tm : Nat) (co : Nat) (rO : Nat) (sT : Nat) (mA : Nat) (sB : Nat) (sA : Nat) (tH : Nat) (tF : Nat) (tS : Nat) (sp : Int32) (tn : Int32) (ru : Int32) (se : Int32) (tr : Int32) (fsa : Nat → Int32) (hi_tn : 0 ≤ tn.toInt ∧ tn.toInt ≤ 4) (hi_se : 0 ≤ se.toInt ∧ se.toInt ≤ 6) (hi_tr : 0 ≤ tr.toInt ∧ tr.toInt ≤ 10) (hr_fsa : Rng 0 299 6 fsa) : Ci l D (ty3 cI cM cT cJ cZ) yX11_seen cX11_seen 2 (some .int) 2 0 0 [.ref x, .int p0] ([(x, .inr (11, [.ref st, .ref dr, .ref nw, .ref kp, .ref rd, .ref tm, .ref co])), (nw, .inr (10, [.ref rO, .ref sT, .ref mA, .ref sB, .ref sA, .ref tH, .ref tF, .ref tS, .int sp, .int tn, .int ru, .int se, .int tr])), (sA, .inl (cI, 6, .inl fsa))]) (fun r u => ∃ (se_n : Int32) (fsa_n : Nat → Int32), u = [(x, .inr (11, [.ref st, .ref dr, .ref nw, .ref kp, .ref rd, .ref tm, .ref co])), (nw, .inr (10, [.ref rO, .ref sT, .ref mA, .ref sB, .ref sA, .ref tH, .ref tF, .ref tS, .int sp, .int tn, .int ru, .int se_n, .int tr])), (sA, .inl (cI, 6, .inl fsa_n))] ∧ (0 ≤ se_n.toInt ∧ se_n.toInt ≤ 6) ∧ Rng 0 299 6 fsa_n ∧ ((p0.toInt = -1 ∧ r.toInt = 0 ∧ se_n.toInt = 0) ∨ (p0.toInt ≠ -1 ∧ ((((0 ≤ p0.toInt ∧ p0.toInt ≤ 299) ∧ se.toInt < 6) ∧ r.toInt = se.toInt + 1 ∧ se_n.toInt = se.toInt + 1) ∨ (¬ ((0 ≤ p0.toInt ∧ p0.toInt ≤ 299) ∧ se.toInt < 6) ∧ r.toInt = -2 ∧ se_n.toInt = se.toInt))))) := by
  refine Ci.of (by decide +kernel) (Nat.le_of_ble_eq_true rfl) ?_
  intro p e s m below meth c A ls Z hin hP hD hl
  have hx := Z.1
  have hb := Z.2.1
  have hS : va_S A s.heap s.heap [] := va_S.rf
  have hl : lv_has ls 2 [(0, .ref x), (1, .int p0)] := hl
  skip
  refine lv_iload_n hx hb dX11_seen_0 rfl (lv_at hl 1 rfl) ?_
  refine lv_iconst (v := (-1)) hx hb dX11_seen_1 (by decide) ?_
  refine lv_icmp_ne (tgt := 15) hx hb dX11_seen_2 (by decide) (fun c1 => ?_) (fun c1 => ?_)
  · refine lv_iload_n hx hb dX11_seen_15 rfl (lv_at hl 1 rfl) ?_
    have hPc := hP.sub2 (wc := []) [] rfl
    have hDc := hD.sub (ws' := []) [] (by decide) rfl
    refine raw_Si (nA := 1) (As := [.int p0]) (rest := []) Z hl.1 (c_X11_isPlace l D cI cM cT cJ cZ p0) (bw_S bw_494 bw_495 bw_80 bw_496) ⟨by decide +kernel, by decide +kernel, by decide +kernel⟩ rfl ⟨Nat.le_of_ble_eq_true rfl, Nat.le_of_ble_eq_true rfl⟩ hPc hDc hS rfl (Nat.le_of_ble_eq_true rfl) dX11_seen_16 ⟨Nat.le_of_ble_eq_true rfl, Nat.le_of_ble_eq_true rfl⟩ (fun r3 u2 H locs h4 hku2 hP1 hD1 hS1 => ?_)
    obtain ⟨hrh4, rfl⟩ := h4
    obtain ⟨hP, hD⟩ := z_join (wr := [(x, .inr (11, [.ref st, .ref dr, .ref nw, .ref kp, .ref rd, .ref tm, .ref co])), (nw, .inr (10, [.ref rO, .ref sT, .ref mA, .ref sB, .ref sA, .ref tH, .ref tF, .ref tS, .int sp, .int tn, .int ru, .int se, .int tr])), (sA, .inl (cI, 6, .inl fsa))]) Z hS hP hD [] [0, 1, 2] rfl (by decide) rfl (by decide) (by decide) hku2 hP1 hD1
    have hS := hS1
    clear hS1
    have hP : va_P D vwCl ([(x, .inr (11, [.ref st, .ref dr, .ref nw, .ref kp, .ref rd, .ref tm, .ref co])), (nw, .inr (10, [.ref rO, .ref sT, .ref mA, .ref sB, .ref sA, .ref tH, .ref tF, .ref tS, .int sp, .int tn, .int ru, .int se, .int tr])), (sA, .inl (cI, 6, .inl fsa))]) H := hP
    have hD : va_D A ([(x, .inr (11, [.ref st, .ref dr, .ref nw, .ref kp, .ref rd, .ref tm, .ref co])), (nw, .inr (10, [.ref rO, .ref sT, .ref mA, .ref sB, .ref sA, .ref tH, .ref tF, .ref tS, .int sp, .int tn, .int ru, .int se, .int tr])), (sA, .inl (cI, 6, .inl fsa))]) := hD
    by_cases c5 : 0 ≤ p0 ∧ p0 < 300
    · obtain rfl : r3 = 1 := by rw [hrh4, if_pos c5]
      refine lv_if_eq (tgt := 34) hx hb dX11_seen_19 (by decide) (fun h => absurd h (by decide)) (fun c6 => ?_)
      refine lv_aload_n hx hb dX11_seen_22 rfl (lv_at hl 0 rfl) ?_
      refine z_get Z i_X11 hP 0 rfl rfl 2 (by decide) bw_470 rfl dX11_seen_23 ?_
      refine z_get Z i_X10 hP 1 rfl rfl 11 (by decide) bw_260 rfl dX11_seen_26 ?_
      refine lv_bipush (v := 6) hx hb dX11_seen_29 (by decide) ?_
      refine lv_icmp_lt (tgt := 37) hx hb dX11_seen_31 (by decide) (fun c7 => ?_) (fun c7 => ?_)
      · refine lv_aload_n hx hb dX11_seen_37 rfl (lv_at hl 0 rfl) ?_
        refine z_get Z i_X11 hP 0 rfl rfl 2 (by decide) bw_470 rfl dX11_seen_38 ?_
        refine z_get Z i_X10 hP 1 rfl rfl 4 (by decide) bw_244 rfl dX11_seen_41 ?_
        refine lv_aload_n hx hb dX11_seen_44 rfl (lv_at hl 0 rfl) ?_
        refine z_get Z i_X11 hP 0 rfl rfl 2 (by decide) bw_470 rfl dX11_seen_45 ?_
        refine z_get Z i_X10 hP 1 rfl rfl 11 (by decide) bw_260 rfl dX11_seen_48 ?_
        refine lv_iload_n hx hb dX11_seen_51 rfl (lv_at hl 1 rfl) ?_
        refine z_iast Z hP hD hS 2 0 rfl rfl (vp_in_iff.mpr (by first | with_reducible assumption | ((try simp only [zlt, zle, zeq, zl_0, zl_1, zl_2, zl_3, zl_4, zl_5, zl_6, zl_7, zl_8, zl_9, zl_10, zl_11, zl_12, zl_13, zl_14, zl_15, zl_16, zl_17, zl_18, zl_19, zl_20, zl_21, zl_22, zl_23, zl_24, zl_25, zl_26, zl_27, zl_28, zl_29, zl_30, zl_31, zl_32, zl_33, zl_34, zl_35, zl_36, zl_37, zl_38, zl_39, zl_40, zl_41, zl_42, zl_43, zl_44, zl_45, zl_46, zl_47, zl_48, zl_49, zl_50, zl_51, zl_52, zl_53, zl_54, zl_55, zl_56, zl_57, zl_58, zl_59, zl_60, zl_61, zl_62, zl_63, zl_64, zl_65, zl_82, zl_99, zl_100, zl_160, zl_299, zl_300, zl_301, zl_382, zl_398, zl_399, zl_464, zl_680, zl_862, zl_999, zl_1000, zl_9999, zl_10000, zl_1000000, zl_m1, zl_m2, zl_m3, zl_m8] at hi_tn hi_se hi_tr c1 c5 c6 c7 ⊢); omega))) dX11_seen_52 (fun H locs hP hD hS => ?_)
        have hrg8 := rng_upd (k := (se : Int32).toNatClampNeg) (v := p0) hr_fsa (by first | with_reducible assumption | ((try simp only [zlt, zle, zeq, zl_0, zl_1, zl_2, zl_3, zl_4, zl_5, zl_6, zl_7, zl_8, zl_9, zl_10, zl_11, zl_12, zl_13, zl_14, zl_15, zl_16, zl_17, zl_18, zl_19, zl_20, zl_21, zl_22, zl_23, zl_24, zl_25, zl_26, zl_27, zl_28, zl_29, zl_30, zl_31, zl_32, zl_33, zl_34, zl_35, zl_36, zl_37, zl_38, zl_39, zl_40, zl_41, zl_42, zl_43, zl_44, zl_45, zl_46, zl_47, zl_48, zl_49, zl_50, zl_51, zl_52, zl_53, zl_54, zl_55, zl_56, zl_57, zl_58, zl_59, zl_60, zl_61, zl_62, zl_63, zl_64, zl_65, zl_82, zl_99, zl_100, zl_160, zl_299, zl_300, zl_301, zl_382, zl_398, zl_399, zl_464, zl_680, zl_862, zl_999, zl_1000, zl_9999, zl_10000, zl_1000000, zl_m1, zl_m2, zl_m3, zl_m8] at hi_tn hi_se hi_tr c1 c5 c6 c7 ⊢); omega))
        generalize upd fsa (se : Int32).toNatClampNeg p0 = g8 at hP hD hrg8
        have hP : va_P D vwCl ([(x, .inr (11, [.ref st, .ref dr, .ref nw, .ref kp, .ref rd, .ref tm, .ref co])), (nw, .inr (10, [.ref rO, .ref sT, .ref mA, .ref sB, .ref sA, .ref tH, .ref tF, .ref tS, .int sp, .int tn, .int ru, .int se, .int tr])), (sA, .inl (cI, 6, .inl g8))]) H := hP
        have hD : va_D A ([(x, .inr (11, [.ref st, .ref dr, .ref nw, .ref kp, .ref rd, .ref tm, .ref co])), (nw, .inr (10, [.ref rO, .ref sT, .ref mA, .ref sB, .ref sA, .ref tH, .ref tF, .ref tS, .int sp, .int tn, .int ru, .int se, .int tr])), (sA, .inl (cI, 6, .inl g8))]) := hD
        refine lv_aload_n hx hb dX11_seen_53 rfl (lv_at hl 0 rfl) ?_
        refine z_get Z i_X11 hP 0 rfl rfl 2 (by decide) bw_470 rfl dX11_seen_54 ?_
        refine lv_dup hx hb dX11_seen_57 rfl ?_
        refine z_get Z i_X10 hP 1 rfl rfl 11 (by decide) bw_260 rfl dX11_seen_58 ?_
        refine lv_iconst (v := 1) hx hb dX11_seen_61 (by decide) ?_
        refine lv_iadd hx hb dX11_seen_62 ?_
        refine lv_topi (fun z9 ez9 => ?_)
        have hz9 : z9.toInt = se.toInt + 1 := by rw [ez9]; exact zaddg (by first | with_reducible assumption | ((try simp only [zlt, zle, zeq, zl_0, zl_1, zl_2, zl_3, zl_4, zl_5, zl_6, zl_7, zl_8, zl_9, zl_10, zl_11, zl_12, zl_13, zl_14, zl_15, zl_16, zl_17, zl_18, zl_19, zl_20, zl_21, zl_22, zl_23, zl_24, zl_25, zl_26, zl_27, zl_28, zl_29, zl_30, zl_31, zl_32, zl_33, zl_34, zl_35, zl_36, zl_37, zl_38, zl_39, zl_40, zl_41, zl_42, zl_43, zl_44, zl_45, zl_46, zl_47, zl_48, zl_49, zl_50, zl_51, zl_52, zl_53, zl_54, zl_55, zl_56, zl_57, zl_58, zl_59, zl_60, zl_61, zl_62, zl_63, zl_64, zl_65, zl_82, zl_99, zl_100, zl_160, zl_299, zl_300, zl_301, zl_382, zl_398, zl_399, zl_464, zl_680, zl_862, zl_999, zl_1000, zl_9999, zl_10000, zl_1000000, zl_m1, zl_m2, zl_m3, zl_m8] at hi_tn hi_se hi_tr c1 c5 c6 c7 ⊢); omega)) (by first | with_reducible assumption | ((try simp only [zlt, zle, zeq, zl_0, zl_1, zl_2, zl_3, zl_4, zl_5, zl_6, zl_7, zl_8, zl_9, zl_10, zl_11, zl_12, zl_13, zl_14, zl_15, zl_16, zl_17, zl_18, zl_19, zl_20, zl_21, zl_22, zl_23, zl_24, zl_25, zl_26, zl_27, zl_28, zl_29, zl_30, zl_31, zl_32, zl_33, zl_34, zl_35, zl_36, zl_37, zl_38, zl_39, zl_40, zl_41, zl_42, zl_43, zl_44, zl_45, zl_46, zl_47, zl_48, zl_49, zl_50, zl_51, zl_52, zl_53, zl_54, zl_55, zl_56, zl_57, zl_58, zl_59, zl_60, zl_61, zl_62, zl_63, zl_64, zl_65, zl_82, zl_99, zl_100, zl_160, zl_299, zl_300, zl_301, zl_382, zl_398, zl_399, zl_464, zl_680, zl_862, zl_999, zl_1000, zl_9999, zl_10000, zl_1000000, zl_m1, zl_m2, zl_m3, zl_m8] at hi_tn hi_se hi_tr c1 c5 c6 c7 ⊢); omega))
        refine z_put Z i_X10 tyX10 tyX10_ok nmX10 hP hD hS 1 rfl rfl 11 (by decide) bw_260 rfl rfl rfl (Nat.le_of_ble_eq_true rfl) dX11_seen_63 (fun H locs hP hD hS => ?_)
        have hP : va_P D vwCl ([(x, .inr (11, [.ref st, .ref dr, .ref nw, .ref kp, .ref rd, .ref tm, .ref co])), (nw, .inr (10, [.ref rO, .ref sT, .ref mA, .ref sB, .ref sA, .ref tH, .ref tF, .ref tS, .int sp, .int tn, .int ru, .int z9, .int tr])), (sA, .inl (cI, 6, .inl g8))]) H := hP
        have hD : va_D A ([(x, .inr (11, [.ref st, .ref dr, .ref nw, .ref kp, .ref rd, .ref tm, .ref co])), (nw, .inr (10, [.ref rO, .ref sT, .ref mA, .ref sB, .ref sA, .ref tH, .ref tF, .ref tS, .int sp, .int tn, .int ru, .int z9, .int tr])), (sA, .inl (cI, 6, .inl g8))]) := hD
        refine lv_aload_n hx hb dX11_seen_66 rfl (lv_at hl 0 rfl) ?_
        refine z_get Z i_X11 hP 0 rfl rfl 2 (by decide) bw_470 rfl dX11_seen_67 ?_
        refine z_get Z i_X10 hP 1 rfl rfl 11 (by decide) bw_260 rfl dX11_seen_70 ?_
        exact z_ret Z rfl hP hD hS (⟨z9, g8, rfl, (by first | with_reducible assumption | ((try simp only [zlt, zle, zeq, zl_0, zl_1, zl_2, zl_3, zl_4, zl_5, zl_6, zl_7, zl_8, zl_9, zl_10, zl_11, zl_12, zl_13, zl_14, zl_15, zl_16, zl_17, zl_18, zl_19, zl_20, zl_21, zl_22, zl_23, zl_24, zl_25, zl_26, zl_27, zl_28, zl_29, zl_30, zl_31, zl_32, zl_33, zl_34, zl_35, zl_36, zl_37, zl_38, zl_39, zl_40, zl_41, zl_42, zl_43, zl_44, zl_45, zl_46, zl_47, zl_48, zl_49, zl_50, zl_51, zl_52, zl_53, zl_54, zl_55, zl_56, zl_57, zl_58, zl_59, zl_60, zl_61, zl_62, zl_63, zl_64, zl_65, zl_82, zl_99, zl_100, zl_160, zl_299, zl_300, zl_301, zl_382, zl_398, zl_399, zl_464, zl_680, zl_862, zl_999, zl_1000, zl_9999, zl_10000, zl_1000000, zl_m1, zl_m2, zl_m3, zl_m8] at hi_tn hi_se hi_tr c1 c5 c6 c7 hz9 ⊢); omega)), hrg8, (by (try simp only [zlt, zle, zeq, zl_0, zl_1, zl_2, zl_3, zl_4, zl_5, zl_6, zl_7, zl_8, zl_9, zl_10, zl_11, zl_12, zl_13, zl_14, zl_15, zl_16, zl_17, zl_18, zl_19, zl_20, zl_21, zl_22, zl_23, zl_24, zl_25, zl_26, zl_27, zl_28, zl_29, zl_30, zl_31, zl_32, zl_33, zl_34, zl_35, zl_36, zl_37, zl_38, zl_39, zl_40, zl_41, zl_42, zl_43, zl_44, zl_45, zl_46, zl_47, zl_48, zl_49, zl_50, zl_51, zl_52, zl_53, zl_54, zl_55, zl_56, zl_57, zl_58, zl_59, zl_60, zl_61, zl_62, zl_63, zl_64, zl_65, zl_82, zl_99, zl_100, zl_160, zl_299, zl_300, zl_301, zl_382, zl_398, zl_399, zl_464, zl_680, zl_862, zl_999, zl_1000, zl_9999, zl_10000, zl_1000000, zl_m1, zl_m2, zl_m3, zl_m8, and_true, true_and, and_false, false_and, or_false, false_or, or_true, true_or, not_true_eq_false, not_false_eq_true] at hi_tn hi_se hi_tr c1 c5 c6 c7 hz9 ⊢) <;> omega)⟩) dX11_seen_73 (Nat.le_of_ble_eq_true rfl) (Nat.le_of_ble_eq_true rfl)
      · refine lv_bipush (v := (-2)) hx hb dX11_seen_34 (by decide) ?_
        exact z_ret Z rfl hP hD hS (⟨se, fsa, rfl, (by first | with_reducible assumption | ((try simp only [zlt, zle, zeq, zl_0, zl_1, zl_2, zl_3, zl_4, zl_5, zl_6, zl_7, zl_8, zl_9, zl_10, zl_11, zl_12, zl_13, zl_14, zl_15, zl_16, zl_17, zl_18, zl_19, zl_20, zl_21, zl_22, zl_23, zl_24, zl_25, zl_26, zl_27, zl_28, zl_29, zl_30, zl_31, zl_32, zl_33, zl_34, zl_35, zl_36, zl_37, zl_38, zl_39, zl_40, zl_41, zl_42, zl_43, zl_44, zl_45, zl_46, zl_47, zl_48, zl_49, zl_50, zl_51, zl_52, zl_53, zl_54, zl_55, zl_56, zl_57, zl_58, zl_59, zl_60, zl_61, zl_62, zl_63, zl_64, zl_65, zl_82, zl_99, zl_100, zl_160, zl_299, zl_300, zl_301, zl_382, zl_398, zl_399, zl_464, zl_680, zl_862, zl_999, zl_1000, zl_9999, zl_10000, zl_1000000, zl_m1, zl_m2, zl_m3, zl_m8] at hi_tn hi_se hi_tr c1 c5 c6 c7 ⊢); omega)), hr_fsa, (by (try simp only [zlt, zle, zeq, zl_0, zl_1, zl_2, zl_3, zl_4, zl_5, zl_6, zl_7, zl_8, zl_9, zl_10, zl_11, zl_12, zl_13, zl_14, zl_15, zl_16, zl_17, zl_18, zl_19, zl_20, zl_21, zl_22, zl_23, zl_24, zl_25, zl_26, zl_27, zl_28, zl_29, zl_30, zl_31, zl_32, zl_33, zl_34, zl_35, zl_36, zl_37, zl_38, zl_39, zl_40, zl_41, zl_42, zl_43, zl_44, zl_45, zl_46, zl_47, zl_48, zl_49, zl_50, zl_51, zl_52, zl_53, zl_54, zl_55, zl_56, zl_57, zl_58, zl_59, zl_60, zl_61, zl_62, zl_63, zl_64, zl_65, zl_82, zl_99, zl_100, zl_160, zl_299, zl_300, zl_301, zl_382, zl_398, zl_399, zl_464, zl_680, zl_862, zl_999, zl_1000, zl_9999, zl_10000, zl_1000000, zl_m1, zl_m2, zl_m3, zl_m8, and_true, true_and, and_false, false_and, or_false, false_or, or_true, true_or, not_true_eq_false, not_false_eq_true] at hi_tn hi_se hi_tr c1 c5 c6 c7 ⊢) <;> omega)⟩) dX11_seen_36 (Nat.le_of_ble_eq_true rfl) (Nat.le_of_ble_eq_true rfl)
    · obtain rfl : r3 = 0 := by rw [hrh4, if_neg c5]
      refine lv_if_eq (tgt := 34) hx hb dX11_seen_19 (by decide) (fun c10 => ?_) (fun h => absurd (by decide) h)
      refine lv_bipush (v := (-2)) hx hb dX11_seen_34 (by decide) ?_
      exact z_ret Z rfl hP hD hS (⟨se, fsa, rfl, (by first | with_reducible assumption | ((try simp only [zlt, zle, zeq, zl_0, zl_1, zl_2, zl_3, zl_4, zl_5, zl_6, zl_7, zl_8, zl_9, zl_10, zl_11, zl_12, zl_13, zl_14, zl_15, zl_16, zl_17, zl_18, zl_19, zl_20, zl_21, zl_22, zl_23, zl_24, zl_25, zl_26, zl_27, zl_28, zl_29, zl_30, zl_31, zl_32, zl_33, zl_34, zl_35, zl_36, zl_37, zl_38, zl_39, zl_40, zl_41, zl_42, zl_43, zl_44, zl_45, zl_46, zl_47, zl_48, zl_49, zl_50, zl_51, zl_52, zl_53, zl_54, zl_55, zl_56, zl_57, zl_58, zl_59, zl_60, zl_61, zl_62, zl_63, zl_64, zl_65, zl_82, zl_99, zl_100, zl_160, zl_299, zl_300, zl_301, zl_382, zl_398, zl_399, zl_464, zl_680, zl_862, zl_999, zl_1000, zl_9999, zl_10000, zl_1000000, zl_m1, zl_m2, zl_m3, zl_m8] at hi_tn hi_se hi_tr c1 c5 c10 ⊢); omega)), hr_fsa, (by (try simp only [zlt, zle, zeq, zl_0, zl_1, zl_2, zl_3, zl_4, zl_5, zl_6, zl_7, zl_8, zl_9, zl_10, zl_11, zl_12, zl_13, zl_14, zl_15, zl_16, zl_17, zl_18, zl_19, zl_20, zl_21, zl_22, zl_23, zl_24, zl_25, zl_26, zl_27, zl_28, zl_29, zl_30, zl_31, zl_32, zl_33, zl_34, zl_35, zl_36, zl_37, zl_38, zl_39, zl_40, zl_41, zl_42, zl_43, zl_44, zl_45, zl_46, zl_47, zl_48, zl_49, zl_50, zl_51, zl_52, zl_53, zl_54, zl_55, zl_56, zl_57, zl_58, zl_59, zl_60, zl_61, zl_62, zl_63, zl_64, zl_65, zl_82, zl_99, zl_100, zl_160, zl_299, zl_300, zl_301, zl_382, zl_398, zl_399, zl_464, zl_680, zl_862, zl_999, zl_1000, zl_9999, zl_10000, zl_1000000, zl_m1, zl_m2, zl_m3, zl_m8, and_true, true_and, and_false, false_and, or_false, false_or, or_true, true_or, not_true_eq_false, not_false_eq_true] at hi_tn hi_se hi_tr c1 c5 c10 ⊢) <;> omega)⟩) dX11_seen_36 (Nat.le_of_ble_eq_true rfl) (Nat.le_of_ble_eq_true rfl)
  · refine lv_aload_n hx hb dX11_seen_5 rfl (lv_at hl 0 rfl) ?_
    refine z_get Z i_X11 hP 0 rfl rfl 2 (by decide) bw_470 rfl dX11_seen_6 ?_
    refine lv_iconst (v := 0) hx hb dX11_seen_9 (by decide) ?_
    refine z_put Z i_X10 tyX10 tyX10_ok nmX10 hP hD hS 1 rfl rfl 11 (by decide) bw_260 rfl rfl rfl (Nat.le_of_ble_eq_true rfl) dX11_seen_10 (fun H locs hP hD hS => ?_)
    have hP : va_P D vwCl ([(x, .inr (11, [.ref st, .ref dr, .ref nw, .ref kp, .ref rd, .ref tm, .ref co])), (nw, .inr (10, [.ref rO, .ref sT, .ref mA, .ref sB, .ref sA, .ref tH, .ref tF, .ref tS, .int sp, .int tn, .int ru, .int 0, .int tr])), (sA, .inl (cI, 6, .inl fsa))]) H := hP
    have hD : va_D A ([(x, .inr (11, [.ref st, .ref dr, .ref nw, .ref kp, .ref rd, .ref tm, .ref co])), (nw, .inr (10, [.ref rO, .ref sT, .ref mA, .ref sB, .ref sA, .ref tH, .ref tF, .ref tS, .int sp, .int tn, .int ru, .int 0, .int tr])), (sA, .inl (cI, 6, .inl fsa))]) := hD
    refine lv_iconst (v := 0) hx hb dX11_seen_13 (by decide) ?_
    exact z_ret Z rfl hP hD hS (⟨0, fsa, rfl, (by decide), hr_fsa, (by (try simp only [zlt, zle, zeq, zl_0, zl_1, zl_2, zl_3, zl_4, zl_5, zl_6, zl_7, zl_8, zl_9, zl_10, zl_11, zl_12, zl_13, zl_14, zl_15, zl_16, zl_17, zl_18, zl_19, zl_20, zl_21, zl_22, zl_23, zl_24, zl_25, zl_26, zl_27, zl_28, zl_29, zl_30, zl_31, zl_32, zl_33, zl_34, zl_35, zl_36, zl_37, zl_38, zl_39, zl_40, zl_41, zl_42, zl_43, zl_44, zl_45, zl_46, zl_47, zl_48, zl_49, zl_50, zl_51, zl_52, zl_53, zl_54, zl_55, zl_56, zl_57, zl_58, zl_59, zl_60, zl_61, zl_62, zl_63, zl_64, zl_65, zl_82, zl_99, zl_100, zl_160, zl_299, zl_300, zl_301, zl_382, zl_398, zl_399, zl_464, zl_680, zl_862, zl_999, zl_1000, zl_9999, zl_10000, zl_1000000, zl_m1, zl_m2, zl_m3, zl_m8, and_true, true_and, and_false, false_and, or_false, false_or, or_true, true_or, not_true_eq_false, not_false_eq_true] at hi_tn hi_se hi_tr c1 ⊢) <;> omega)⟩) dX11_seen_14 (Nat.le_of_ble_eq_true rfl) (Nat.le_of_ble_eq_true rfl)
