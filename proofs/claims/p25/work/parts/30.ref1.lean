theorem dX12_isHorse_0 : decode cX12_isHorse 0 = .ok (.iload_n 1, 1) := by decide +kernel
theorem dX12_isHorse_1 : decode cX12_isHorse 1 = .ok (.iconst 0, 1) := by decide +kernel
theorem dX12_isHorse_2 : decode cX12_isHorse 2 = .ok (.aload_n 0, 1) := by decide +kernel
theorem dX12_isHorse_3 : decode cX12_isHorse 3 = .ok (.getfield 7, 3) := by decide +kernel
theorem dX12_isHorse_6 : decode cX12_isHorse 6 = .ok (.iconst 0, 1) := by decide +kernel
theorem dX12_isHorse_7 : decode cX12_isHorse 7 = .ok (.iaload, 1) := by decide +kernel
theorem dX12_isHorse_8 : decode cX12_isHorse 8 = .ok (.iconst 1, 1) := by decide +kernel
theorem dX12_isHorse_9 : decode cX12_isHorse 9 = .ok (.isub, 1) := by decide +kernel
theorem dX12_isHorse_10 : decode cX12_isHorse 10 = .ok (.invokestatic 71, 3) := by decide +kernel
theorem dX12_isHorse_13 : decode cX12_isHorse 13 = .ok (.ireturn, 1) := by decide +kernel
theorem dX12_mud_0 : decode cX12_mud 0 = .ok (.iload_n 1, 1) := by decide +kernel
theorem dX12_mud_1 : decode cX12_mud 1 = .ok (.invokestatic 75, 3) := by decide +kernel
theorem dX12_mud_4 : decode cX12_mud 4 = .ok (.ifCond .eq 25, 3) := by decide +kernel
theorem dX12_mud_7 : decode cX12_mud 7 = .ok (.iload_n 2, 1) := by decide +kernel
theorem dX12_mud_8 : decode cX12_mud 8 = .ok (.invokestatic 75, 3) := by decide +kernel
theorem dX12_mud_11 : decode cX12_mud 11 = .ok (.ifCond .eq 18, 3) := by decide +kernel
theorem dX12_mud_14 : decode cX12_mud 14 = .ok (.iload_n 2, 1) := by decide +kernel
theorem dX12_mud_15 : decode cX12_mud 15 = .ok (.iload_n 1, 1) := by decide +kernel
theorem dX12_mud_16 : decode cX12_mud 16 = .ok (.if_icmp .lt 13, 3) := by decide +kernel
theorem dX12_mud_19 : decode cX12_mud 19 = .ok (.iload_n 3, 1) := by decide +kernel
theorem dX12_mud_20 : decode cX12_mud 20 = .ok (.iconst 0, 1) := by decide +kernel
theorem dX12_mud_21 : decode cX12_mud 21 = .ok (.bipush 9, 2) := by decide +kernel
theorem dX12_mud_23 : decode cX12_mud 23 = .ok (.invokestatic 71, 3) := by decide +kernel
theorem dX12_mud_26 : decode cX12_mud 26 = .ok (.ifCond .ne 5, 3) := by decide +kernel
theorem dX12_mud_29 : decode cX12_mud 29 = .ok (.iconst 0, 1) := by decide +kernel
theorem dX12_mud_30 : decode cX12_mud 30 = .ok (.ireturn, 1) := by decide +kernel
theorem dX12_mud_31 : decode cX12_mud 31 = .ok (.iload_n 1, 1) := by decide +kernel
theorem dX12_mud_32 : decode cX12_mud 32 = .ok (.istore 4, 2) := by decide +kernel
theorem dX12_mud_34 : decode cX12_mud 34 = .ok (.iload 4, 2) := by decide +kernel
theorem dX12_mud_36 : decode cX12_mud 36 = .ok (.iload_n 2, 1) := by decide +kernel
theorem dX12_mud_37 : decode cX12_mud 37 = .ok (.if_icmp .gt 20, 3) := by decide +kernel
theorem dX12_mud_40 : decode cX12_mud 40 = .ok (.aload_n 0, 1) := by decide +kernel
theorem dX12_mud_41 : decode cX12_mud 41 = .ok (.getfield 7, 3) := by decide +kernel
theorem dX12_mud_44 : decode cX12_mud 44 = .ok (.bipush 82, 2) := by decide +kernel
theorem dX12_mud_46 : decode cX12_mud 46 = .ok (.iload 4, 2) := by decide +kernel
theorem dX12_mud_48 : decode cX12_mud 48 = .ok (.iadd, 1) := by decide +kernel
theorem dX12_mud_49 : decode cX12_mud 49 = .ok (.iload_n 3, 1) := by decide +kernel
theorem dX12_mud_50 : decode cX12_mud 50 = .ok (.iastore, 1) := by decide +kernel
theorem dX12_mud_51 : decode cX12_mud 51 = .ok (.iinc 4 1, 3) := by decide +kernel
theorem dX12_mud_54 : decode cX12_mud 54 = .ok (.goto (-20), 3) := by decide +kernel
theorem dX12_mud_57 : decode cX12_mud 57 = .ok (.iconst 1, 1) := by decide +kernel
theorem dX12_mud_58 : decode cX12_mud 58 = .ok (.ireturn, 1) := by decide +kernel
theorem dX12_bridge_0 : decode cX12_bridge 0 = .ok (.iload_n 1, 1) := by decide +kernel
theorem dX12_bridge_1 : decode cX12_bridge 1 = .ok (.invokestatic 75, 3) := by decide +kernel
theorem dX12_bridge_4 : decode cX12_bridge 4 = .ok (.ifCond .eq 25, 3) := by decide +kernel
theorem dX12_bridge_7 : decode cX12_bridge 7 = .ok (.iload_n 2, 1) := by decide +kernel
theorem dX12_bridge_8 : decode cX12_bridge 8 = .ok (.invokestatic 75, 3) := by decide +kernel
theorem dX12_bridge_11 : decode cX12_bridge 11 = .ok (.ifCond .eq 18, 3) := by decide +kernel
theorem dX12_bridge_14 : decode cX12_bridge 14 = .ok (.iload_n 2, 1) := by decide +kernel
theorem dX12_bridge_15 : decode cX12_bridge 15 = .ok (.iload_n 1, 1) := by decide +kernel
theorem dX12_bridge_16 : decode cX12_bridge 16 = .ok (.if_icmp .le 13, 3) := by decide +kernel
theorem dX12_bridge_19 : decode cX12_bridge 19 = .ok (.aload_n 0, 1) := by decide +kernel
theorem dX12_bridge_20 : decode cX12_bridge 20 = .ok (.getfield 7, 3) := by decide +kernel
theorem dX12_bridge_23 : decode cX12_bridge 23 = .ok (.iconst 1, 1) := by decide +kernel
theorem dX12_bridge_24 : decode cX12_bridge 24 = .ok (.iaload, 1) := by decide +kernel
theorem dX12_bridge_25 : decode cX12_bridge 25 = .ok (.iconst 4, 1) := by decide +kernel
theorem dX12_bridge_26 : decode cX12_bridge 26 = .ok (.if_icmp .ne 5, 3) := by decide +kernel
theorem dX12_bridge_29 : decode cX12_bridge 29 = .ok (.iconst (-1), 1) := by decide +kernel
theorem dX12_bridge_30 : decode cX12_bridge 30 = .ok (.ireturn, 1) := by decide +kernel
theorem dX12_bridge_31 : decode cX12_bridge 31 = .ok (.aload_n 0, 1) := by decide +kernel
theorem dX12_bridge_32 : decode cX12_bridge 32 = .ok (.getfield 7, 3) := by decide +kernel
theorem dX12_bridge_35 : decode cX12_bridge 35 = .ok (.bipush 16, 2) := by decide +kernel
theorem dX12_bridge_37 : decode cX12_bridge 37 = .ok (.iconst 2, 1) := by decide +kernel
theorem dX12_bridge_38 : decode cX12_bridge 38 = .ok (.aload_n 0, 1) := by decide +kernel
theorem dX12_bridge_39 : decode cX12_bridge 39 = .ok (.getfield 7, 3) := by decide +kernel
theorem dX12_bridge_42 : decode cX12_bridge 42 = .ok (.iconst 1, 1) := by decide +kernel
theorem dX12_bridge_43 : decode cX12_bridge 43 = .ok (.iaload, 1) := by decide +kernel
theorem dX12_bridge_44 : decode cX12_bridge 44 = .ok (.imul, 1) := by decide +kernel
theorem dX12_bridge_45 : decode cX12_bridge 45 = .ok (.iadd, 1) := by decide +kernel
theorem dX12_bridge_46 : decode cX12_bridge 46 = .ok (.iload_n 1, 1) := by decide +kernel
theorem dX12_bridge_47 : decode cX12_bridge 47 = .ok (.iastore, 1) := by decide +kernel
theorem dX12_bridge_48 : decode cX12_bridge 48 = .ok (.aload_n 0, 1) := by decide +kernel
theorem dX12_bridge_49 : decode cX12_bridge 49 = .ok (.getfield 7, 3) := by decide +kernel
theorem dX12_bridge_52 : decode cX12_bridge 52 = .ok (.bipush 16, 2) := by decide +kernel
theorem dX12_bridge_54 : decode cX12_bridge 54 = .ok (.iconst 2, 1) := by decide +kernel
theorem dX12_bridge_55 : decode cX12_bridge 55 = .ok (.aload_n 0, 1) := by decide +kernel
theorem dX12_bridge_56 : decode cX12_bridge 56 = .ok (.getfield 7, 3) := by decide +kernel
theorem dX12_bridge_59 : decode cX12_bridge 59 = .ok (.iconst 1, 1) := by decide +kernel
theorem dX12_bridge_60 : decode cX12_bridge 60 = .ok (.iaload, 1) := by decide +kernel
theorem dX12_bridge_61 : decode cX12_bridge 61 = .ok (.imul, 1) := by decide +kernel
theorem dX12_bridge_62 : decode cX12_bridge 62 = .ok (.iadd, 1) := by decide +kernel
theorem dX12_bridge_63 : decode cX12_bridge 63 = .ok (.iconst 1, 1) := by decide +kernel
theorem dX12_bridge_64 : decode cX12_bridge 64 = .ok (.iadd, 1) := by decide +kernel
theorem dX12_bridge_65 : decode cX12_bridge 65 = .ok (.iload_n 2, 1) := by decide +kernel
theorem dX12_bridge_66 : decode cX12_bridge 66 = .ok (.iastore, 1) := by decide +kernel
theorem dX12_bridge_67 : decode cX12_bridge 67 = .ok (.aload_n 0, 1) := by decide +kernel
theorem dX12_bridge_68 : decode cX12_bridge 68 = .ok (.getfield 7, 3) := by decide +kernel
theorem dX12_bridge_71 : decode cX12_bridge 71 = .ok (.iconst 1, 1) := by decide +kernel
theorem dX12_bridge_72 : decode cX12_bridge 72 = .ok (.dup2, 1) := by decide +kernel
theorem dX12_bridge_73 : decode cX12_bridge 73 = .ok (.iaload, 1) := by decide +kernel
theorem dX12_bridge_74 : decode cX12_bridge 74 = .ok (.iconst 1, 1) := by decide +kernel
theorem dX12_bridge_75 : decode cX12_bridge 75 = .ok (.iadd, 1) := by decide +kernel
theorem dX12_bridge_76 : decode cX12_bridge 76 = .ok (.iastore, 1) := by decide +kernel
theorem dX12_bridge_77 : decode cX12_bridge 77 = .ok (.aload_n 0, 1) := by decide +kernel
theorem dX12_bridge_78 : decode cX12_bridge 78 = .ok (.getfield 7, 3) := by decide +kernel
theorem dX12_bridge_81 : decode cX12_bridge 81 = .ok (.iconst 1, 1) := by decide +kernel
theorem dX12_bridge_82 : decode cX12_bridge 82 = .ok (.iaload, 1) := by decide +kernel
theorem dX12_bridge_83 : decode cX12_bridge 83 = .ok (.ireturn, 1) := by decide +kernel
theorem dX12_inn_0 : decode cX12_inn 0 = .ok (.iload_n 1, 1) := by decide +kernel
theorem dX12_inn_1 : decode cX12_inn 1 = .ok (.invokestatic 75, 3) := by decide +kernel
theorem dX12_inn_4 : decode cX12_inn 4 = .ok (.ifCond .eq 14, 3) := by decide +kernel
theorem dX12_inn_7 : decode cX12_inn 7 = .ok (.aload_n 0, 1) := by decide +kernel
theorem dX12_inn_8 : decode cX12_inn 8 = .ok (.getfield 7, 3) := by decide +kernel
theorem dX12_inn_11 : decode cX12_inn 11 = .ok (.iconst 2, 1) := by decide +kernel
theorem dX12_inn_12 : decode cX12_inn 12 = .ok (.iaload, 1) := by decide +kernel
theorem dX12_inn_13 : decode cX12_inn 13 = .ok (.bipush 10, 2) := by decide +kernel
theorem dX12_inn_15 : decode cX12_inn 15 = .ok (.if_icmp .ne 5, 3) := by decide +kernel
theorem dX12_inn_18 : decode cX12_inn 18 = .ok (.iconst (-1), 1) := by decide +kernel
theorem dX12_inn_19 : decode cX12_inn 19 = .ok (.ireturn, 1) := by decide +kernel
theorem dX12_inn_20 : decode cX12_inn 20 = .ok (.aload_n 0, 1) := by decide +kernel
theorem dX12_inn_21 : decode cX12_inn 21 = .ok (.getfield 7, 3) := by decide +kernel
theorem dX12_inn_24 : decode cX12_inn 24 = .ok (.bipush 24, 2) := by decide +kernel
theorem dX12_inn_26 : decode cX12_inn 26 = .ok (.aload_n 0, 1) := by decide +kernel
theorem dX12_inn_27 : decode cX12_inn 27 = .ok (.getfield 7, 3) := by decide +kernel
theorem dX12_inn_30 : decode cX12_inn 30 = .ok (.iconst 2, 1) := by decide +kernel
theorem dX12_inn_31 : decode cX12_inn 31 = .ok (.iaload, 1) := by decide +kernel
theorem dX12_inn_32 : decode cX12_inn 32 = .ok (.iadd, 1) := by decide +kernel
theorem dX12_inn_33 : decode cX12_inn 33 = .ok (.iload_n 1, 1) := by decide +kernel
theorem dX12_inn_34 : decode cX12_inn 34 = .ok (.iastore, 1) := by decide +kernel
theorem dX12_inn_35 : decode cX12_inn 35 = .ok (.aload_n 0, 1) := by decide +kernel
theorem dX12_inn_36 : decode cX12_inn 36 = .ok (.getfield 7, 3) := by decide +kernel
theorem dX12_inn_39 : decode cX12_inn 39 = .ok (.iconst 2, 1) := by decide +kernel
theorem dX12_inn_40 : decode cX12_inn 40 = .ok (.dup2, 1) := by decide +kernel
theorem dX12_inn_41 : decode cX12_inn 41 = .ok (.iaload, 1) := by decide +kernel
theorem dX12_inn_42 : decode cX12_inn 42 = .ok (.iconst 1, 1) := by decide +kernel
theorem dX12_inn_43 : decode cX12_inn 43 = .ok (.iadd, 1) := by decide +kernel
theorem dX12_inn_44 : decode cX12_inn 44 = .ok (.iastore, 1) := by decide +kernel
theorem dX12_inn_45 : decode cX12_inn 45 = .ok (.aload_n 0, 1) := by decide +kernel
theorem dX12_inn_46 : decode cX12_inn 46 = .ok (.getfield 7, 3) := by decide +kernel
theorem dX12_inn_49 : decode cX12_inn 49 = .ok (.iconst 2, 1) := by decide +kernel
theorem dX12_inn_50 : decode cX12_inn 50 = .ok (.iaload, 1) := by decide +kernel
theorem dX12_inn_51 : decode cX12_inn 51 = .ok (.ireturn, 1) := by decide +kernel
theorem dX12_horse_0 : decode cX12_horse 0 = .ok (.iload_n 1, 1) := by decide +kernel
theorem dX12_horse_1 : decode cX12_horse 1 = .ok (.iconst 1, 1) := by decide +kernel
theorem dX12_horse_2 : decode cX12_horse 2 = .ok (.bipush 99, 2) := by decide +kernel
theorem dX12_horse_4 : decode cX12_horse 4 = .ok (.invokestatic 71, 3) := by decide +kernel
theorem dX12_horse_7 : decode cX12_horse 7 = .ok (.ifCond .eq 24, 3) := by decide +kernel
theorem dX12_horse_10 : decode cX12_horse 10 = .ok (.iload_n 2, 1) := by decide +kernel
theorem dX12_horse_11 : decode cX12_horse 11 = .ok (.iconst 1, 1) := by decide +kernel
theorem dX12_horse_12 : decode cX12_horse 12 = .ok (.bipush 9, 2) := by decide +kernel
theorem dX12_horse_14 : decode cX12_horse 14 = .ok (.invokestatic 71, 3) := by decide +kernel
theorem dX12_horse_17 : decode cX12_horse 17 = .ok (.ifCond .eq 14, 3) := by decide +kernel
theorem dX12_horse_20 : decode cX12_horse 20 = .ok (.aload_n 0, 1) := by decide +kernel
theorem dX12_horse_21 : decode cX12_horse 21 = .ok (.getfield 7, 3) := by decide +kernel
theorem dX12_horse_24 : decode cX12_horse 24 = .ok (.iconst 0, 1) := by decide +kernel
theorem dX12_horse_25 : decode cX12_horse 25 = .ok (.iaload, 1) := by decide +kernel
theorem dX12_horse_26 : decode cX12_horse 26 = .ok (.bipush 6, 2) := by decide +kernel
theorem dX12_horse_28 : decode cX12_horse 28 = .ok (.if_icmp .ne 5, 3) := by decide +kernel
theorem dX12_horse_31 : decode cX12_horse 31 = .ok (.iconst (-1), 1) := by decide +kernel
theorem dX12_horse_32 : decode cX12_horse 32 = .ok (.ireturn, 1) := by decide +kernel
theorem dX12_horse_33 : decode cX12_horse 33 = .ok (.aload_n 0, 1) := by decide +kernel
theorem dX12_horse_34 : decode cX12_horse 34 = .ok (.getfield 7, 3) := by decide +kernel
theorem dX12_horse_37 : decode cX12_horse 37 = .ok (.bipush 34, 2) := by decide +kernel
theorem dX12_horse_39 : decode cX12_horse 39 = .ok (.iconst 2, 1) := by decide +kernel
theorem dX12_horse_40 : decode cX12_horse 40 = .ok (.aload_n 0, 1) := by decide +kernel
theorem dX12_horse_41 : decode cX12_horse 41 = .ok (.getfield 7, 3) := by decide +kernel
theorem dX12_horse_44 : decode cX12_horse 44 = .ok (.iconst 0, 1) := by decide +kernel
theorem dX12_horse_45 : decode cX12_horse 45 = .ok (.iaload, 1) := by decide +kernel
theorem dX12_horse_46 : decode cX12_horse 46 = .ok (.imul, 1) := by decide +kernel
theorem dX12_horse_47 : decode cX12_horse 47 = .ok (.iadd, 1) := by decide +kernel
theorem dX12_horse_48 : decode cX12_horse 48 = .ok (.iload_n 1, 1) := by decide +kernel
theorem dX12_horse_49 : decode cX12_horse 49 = .ok (.iastore, 1) := by decide +kernel
theorem dX12_horse_50 : decode cX12_horse 50 = .ok (.aload_n 0, 1) := by decide +kernel
theorem dX12_horse_51 : decode cX12_horse 51 = .ok (.getfield 7, 3) := by decide +kernel
theorem dX12_horse_54 : decode cX12_horse 54 = .ok (.bipush 34, 2) := by decide +kernel
theorem dX12_horse_56 : decode cX12_horse 56 = .ok (.iconst 2, 1) := by decide +kernel
theorem dX12_horse_57 : decode cX12_horse 57 = .ok (.aload_n 0, 1) := by decide +kernel
theorem dX12_horse_58 : decode cX12_horse 58 = .ok (.getfield 7, 3) := by decide +kernel
theorem dX12_horse_61 : decode cX12_horse 61 = .ok (.iconst 0, 1) := by decide +kernel
theorem dX12_horse_62 : decode cX12_horse 62 = .ok (.iaload, 1) := by decide +kernel
theorem dX12_horse_63 : decode cX12_horse 63 = .ok (.imul, 1) := by decide +kernel
theorem dX12_horse_64 : decode cX12_horse 64 = .ok (.iadd, 1) := by decide +kernel
theorem dX12_horse_65 : decode cX12_horse 65 = .ok (.iconst 1, 1) := by decide +kernel
theorem dX12_horse_66 : decode cX12_horse 66 = .ok (.iadd, 1) := by decide +kernel
theorem dX12_horse_67 : decode cX12_horse 67 = .ok (.iload_n 2, 1) := by decide +kernel
theorem dX12_horse_68 : decode cX12_horse 68 = .ok (.iastore, 1) := by decide +kernel
theorem dX12_horse_69 : decode cX12_horse 69 = .ok (.aload_n 0, 1) := by decide +kernel
theorem dX12_horse_70 : decode cX12_horse 70 = .ok (.getfield 7, 3) := by decide +kernel
theorem dX12_horse_73 : decode cX12_horse 73 = .ok (.iconst 0, 1) := by decide +kernel
theorem dX12_horse_74 : decode cX12_horse 74 = .ok (.dup2, 1) := by decide +kernel
theorem dX12_horse_75 : decode cX12_horse 75 = .ok (.iaload, 1) := by decide +kernel
theorem dX12_horse_76 : decode cX12_horse 76 = .ok (.iconst 1, 1) := by decide +kernel
theorem dX12_horse_77 : decode cX12_horse 77 = .ok (.iadd, 1) := by decide +kernel
theorem dX12_horse_78 : decode cX12_horse 78 = .ok (.iastore, 1) := by decide +kernel
theorem dX12_horse_79 : decode cX12_horse 79 = .ok (.aload_n 0, 1) := by decide +kernel
theorem dX12_horse_80 : decode cX12_horse 80 = .ok (.getfield 7, 3) := by decide +kernel
theorem dX12_horse_83 : decode cX12_horse 83 = .ok (.iconst 0, 1) := by decide +kernel
theorem dX12_horse_84 : decode cX12_horse 84 = .ok (.iaload, 1) := by decide +kernel
theorem dX12_horse_85 : decode cX12_horse 85 = .ok (.iconst 1, 1) := by decide +kernel
theorem dX12_horse_86 : decode cX12_horse 86 = .ok (.isub, 1) := by decide +kernel
theorem dX12_horse_87 : decode cX12_horse 87 = .ok (.ireturn, 1) := by decide +kernel
theorem dX12_weather_0 : decode cX12_weather 0 = .ok (.iload_n 1, 1) := by decide +kernel
theorem dX12_weather_1 : decode cX12_weather 1 = .ok (.iconst 0, 1) := by decide +kernel
theorem dX12_weather_2 : decode cX12_weather 2 = .ok (.bipush 10, 2) := by decide +kernel
theorem dX12_weather_4 : decode cX12_weather 4 = .ok (.invokestatic 71, 3) := by decide +kernel
theorem dX12_weather_7 : decode cX12_weather 7 = .ok (.ifCond .eq 14, 3) := by decide +kernel
theorem dX12_weather_10 : decode cX12_weather 10 = .ok (.iload_n 2, 1) := by decide +kernel
theorem dX12_weather_11 : decode cX12_weather 11 = .ok (.iconst 0, 1) := by decide +kernel
theorem dX12_weather_12 : decode cX12_weather 12 = .ok (.sipush 9999, 3) := by decide +kernel
theorem dX12_weather_15 : decode cX12_weather 15 = .ok (.invokestatic 71, 3) := by decide +kernel
theorem dX12_weather_18 : decode cX12_weather 18 = .ok (.ifCond .ne 5, 3) := by decide +kernel
theorem dX12_weather_21 : decode cX12_weather 21 = .ok (.iconst 0, 1) := by decide +kernel
theorem dX12_weather_22 : decode cX12_weather 22 = .ok (.ireturn, 1) := by decide +kernel
theorem dX12_weather_23 : decode cX12_weather 23 = .ok (.aload_n 0, 1) := by decide +kernel
theorem dX12_weather_24 : decode cX12_weather 24 = .ok (.getfield 7, 3) := by decide +kernel
theorem dX12_weather_27 : decode cX12_weather 27 = .ok (.iconst 4, 1) := by decide +kernel
theorem dX12_weather_28 : decode cX12_weather 28 = .ok (.iload_n 1, 1) := by decide +kernel
theorem dX12_weather_29 : decode cX12_weather 29 = .ok (.iastore, 1) := by decide +kernel
theorem dX12_weather_30 : decode cX12_weather 30 = .ok (.aload_n 0, 1) := by decide +kernel
theorem dX12_weather_31 : decode cX12_weather 31 = .ok (.getfield 7, 3) := by decide +kernel
theorem dX12_weather_34 : decode cX12_weather 34 = .ok (.iconst 5, 1) := by decide +kernel
theorem dX12_weather_35 : decode cX12_weather 35 = .ok (.iload_n 2, 1) := by decide +kernel
theorem dX12_weather_36 : decode cX12_weather 36 = .ok (.bipush 7, 2) := by decide +kernel
theorem dX12_weather_38 : decode cX12_weather 38 = .ok (.imul, 1) := by decide +kernel
theorem dX12_weather_39 : decode cX12_weather 39 = .ok (.bipush 13, 2) := by decide +kernel
theorem dX12_weather_41 : decode cX12_weather 41 = .ok (.iadd, 1) := by decide +kernel
theorem dX12_weather_42 : decode cX12_weather 42 = .ok (.iastore, 1) := by decide +kernel
theorem dX12_weather_43 : decode cX12_weather 43 = .ok (.iconst 1, 1) := by decide +kernel
theorem dX12_weather_44 : decode cX12_weather 44 = .ok (.ireturn, 1) := by decide +kernel
theorem dX12_four_0 : decode cX12_four 0 = .ok (.bipush 24, 2) := by decide +kernel
theorem dX12_four_2 : decode cX12_four 2 = .ok (.istore_n 2, 1) := by decide +kernel
theorem dX12_four_3 : decode cX12_four 3 = .ok (.iload_n 2, 1) := by decide +kernel
theorem dX12_four_4 : decode cX12_four 4 = .ok (.ifCond .lt 35, 3) := by decide +kernel
theorem dX12_four_7 : decode cX12_four 7 = .ok (.aload_n 0, 1) := by decide +kernel
theorem dX12_four_8 : decode cX12_four 8 = .ok (.getfield 19, 3) := by decide +kernel
theorem dX12_four_11 : decode cX12_four 11 = .ok (.aload_n 0, 1) := by decide +kernel
theorem dX12_four_12 : decode cX12_four 12 = .ok (.getfield 79, 3) := by decide +kernel
theorem dX12_four_15 : decode cX12_four 15 = .ok (.iload_n 1, 1) := by decide +kernel
theorem dX12_four_16 : decode cX12_four 16 = .ok (.iload_n 2, 1) := by decide +kernel
theorem dX12_four_17 : decode cX12_four 17 = .ok (.ishr, 1) := by decide +kernel
theorem dX12_four_18 : decode cX12_four 18 = .ok (.sipush 255, 3) := by decide +kernel
theorem dX12_four_21 : decode cX12_four 21 = .ok (.iand, 1) := by decide +kernel
theorem dX12_four_22 : decode cX12_four 22 = .ok (.iastore, 1) := by decide +kernel
theorem dX12_four_23 : decode cX12_four 23 = .ok (.aload_n 0, 1) := by decide +kernel
theorem dX12_four_24 : decode cX12_four 24 = .ok (.dup, 1) := by decide +kernel
theorem dX12_four_25 : decode cX12_four 25 = .ok (.getfield 79, 3) := by decide +kernel
theorem dX12_four_28 : decode cX12_four 28 = .ok (.iconst 1, 1) := by decide +kernel
theorem dX12_four_29 : decode cX12_four 29 = .ok (.iadd, 1) := by decide +kernel
theorem dX12_four_30 : decode cX12_four 30 = .ok (.putfield 79, 3) := by decide +kernel
theorem dX12_four_33 : decode cX12_four 33 = .ok (.iinc 2 (-8), 3) := by decide +kernel
theorem dX12_four_36 : decode cX12_four 36 = .ok (.goto (-33), 3) := by decide +kernel
theorem dX12_four_39 : decode cX12_four 39 = .ok (.return_, 1) := by decide +kernel
theorem dX12_feed_0 : decode cX12_feed 0 = .ok (.aload_n 0, 1) := by decide +kernel
theorem dX12_feed_1 : decode cX12_feed 1 = .ok (.getfield 79, 3) := by decide +kernel
theorem dX12_feed_4 : decode cX12_feed 4 = .ok (.bipush 20, 2) := by decide +kernel
theorem dX12_feed_6 : decode cX12_feed 6 = .ok (.iadd, 1) := by decide +kernel
theorem dX12_feed_7 : decode cX12_feed 7 = .ok (.sipush 300, 3) := by decide +kernel
theorem dX12_feed_10 : decode cX12_feed 10 = .ok (.if_icmp .le 5, 3) := by decide +kernel
theorem dX12_feed_13 : decode cX12_feed 13 = .ok (.iconst (-1), 1) := by decide +kernel
theorem dX12_feed_14 : decode cX12_feed 14 = .ok (.ireturn, 1) := by decide +kernel
theorem dX12_feed_15 : decode cX12_feed 15 = .ok (.aload_n 0, 1) := by decide +kernel
theorem dX12_feed_16 : decode cX12_feed 16 = .ok (.iload_n 1, 1) := by decide +kernel
theorem dX12_feed_17 : decode cX12_feed 17 = .ok (.invokevirtual 82, 3) := by decide +kernel
theorem dX12_feed_20 : decode cX12_feed 20 = .ok (.aload_n 0, 1) := by decide +kernel
theorem dX12_feed_21 : decode cX12_feed 21 = .ok (.iload_n 2, 1) := by decide +kernel
theorem dX12_feed_22 : decode cX12_feed 22 = .ok (.invokevirtual 82, 3) := by decide +kernel
theorem dX12_feed_25 : decode cX12_feed 25 = .ok (.aload_n 0, 1) := by decide +kernel
theorem dX12_feed_26 : decode cX12_feed 26 = .ok (.iload_n 3, 1) := by decide +kernel
theorem dX12_feed_27 : decode cX12_feed 27 = .ok (.invokevirtual 82, 3) := by decide +kernel
theorem dX12_feed_30 : decode cX12_feed 30 = .ok (.aload_n 0, 1) := by decide +kernel
theorem dX12_feed_31 : decode cX12_feed 31 = .ok (.iload 4, 2) := by decide +kernel
theorem dX12_feed_33 : decode cX12_feed 33 = .ok (.invokevirtual 82, 3) := by decide +kernel
theorem dX12_feed_36 : decode cX12_feed 36 = .ok (.aload_n 0, 1) := by decide +kernel
theorem dX12_feed_37 : decode cX12_feed 37 = .ok (.iload 5, 2) := by decide +kernel
theorem dX12_feed_39 : decode cX12_feed 39 = .ok (.invokevirtual 82, 3) := by decide +kernel
theorem dX12_feed_42 : decode cX12_feed 42 = .ok (.aload_n 0, 1) := by decide +kernel
theorem dX12_feed_43 : decode cX12_feed 43 = .ok (.getfield 79, 3) := by decide +kernel
theorem dX12_feed_46 : decode cX12_feed 46 = .ok (.ireturn, 1) := by decide +kernel
theorem dX12_end_0 : decode cX12_end 0 = .ok (.iload_n 1, 1) := by decide +kernel
theorem dX12_end_1 : decode cX12_end 1 = .ok (.iconst 0, 1) := by decide +kernel
theorem dX12_end_2 : decode cX12_end 2 = .ok (.aload_n 0, 1) := by decide +kernel
theorem dX12_end_3 : decode cX12_end 3 = .ok (.getfield 79, 3) := by decide +kernel
theorem dX12_end_6 : decode cX12_end 6 = .ok (.invokestatic 71, 3) := by decide +kernel
theorem dX12_end_9 : decode cX12_end 9 = .ok (.ifCond .ne 5, 3) := by decide +kernel
theorem dX12_end_12 : decode cX12_end 12 = .ok (.iconst (-1), 1) := by decide +kernel
theorem dX12_end_13 : decode cX12_end 13 = .ok (.ireturn, 1) := by decide +kernel
theorem dX12_end_14 : decode cX12_end 14 = .ok (.aload_n 0, 1) := by decide +kernel
theorem dX12_end_15 : decode cX12_end 15 = .ok (.iload_n 1, 1) := by decide +kernel
theorem dX12_end_16 : decode cX12_end 16 = .ok (.putfield 79, 3) := by decide +kernel
theorem dX12_end_19 : decode cX12_end 19 = .ok (.iload_n 1, 1) := by decide +kernel
theorem dX12_end_20 : decode cX12_end 20 = .ok (.ireturn, 1) := by decide +kernel
theorem dX12_fault_0 : decode cX12_fault 0 = .ok (.iload_n 1, 1) := by decide +kernel
theorem dX12_fault_1 : decode cX12_fault 1 = .ok (.ifCond .ne 10, 3) := by decide +kernel
theorem dX12_fault_4 : decode cX12_fault 4 = .ok (.aload_n 0, 1) := by decide +kernel
theorem dX12_fault_5 : decode cX12_fault 5 = .ok (.getfield 22, 3) := by decide +kernel
theorem dX12_fault_8 : decode cX12_fault 8 = .ok (.goto 16, 3) := by decide +kernel
theorem dX12_fault_11 : decode cX12_fault 11 = .ok (.iload_n 1, 1) := by decide +kernel
theorem dX12_fault_12 : decode cX12_fault 12 = .ok (.iconst 1, 1) := by decide +kernel
theorem dX12_fault_13 : decode cX12_fault 13 = .ok (.if_icmp .ne 10, 3) := by decide +kernel
theorem dX12_fault_16 : decode cX12_fault 16 = .ok (.aload_n 0, 1) := by decide +kernel
theorem dX12_fault_17 : decode cX12_fault 17 = .ok (.getfield 26, 3) := by decide +kernel
theorem dX12_fault_20 : decode cX12_fault 20 = .ok (.goto 4, 3) := by decide +kernel
theorem dX12_fault_23 : decode cX12_fault 23 = .ok (.iconst (-1), 1) := by decide +kernel
theorem dX12_fault_24 : decode cX12_fault 24 = .ok (.ireturn, 1) := by decide +kernel
theorem dX12_by_0 : decode cX12_by 0 = .ok (.iload_n 1, 1) := by decide +kernel
theorem dX12_by_1 : decode cX12_by 1 = .ok (.iconst (-1), 1) := by decide +kernel
theorem dX12_by_2 : decode cX12_by 2 = .ok (.aload_n 0, 1) := by decide +kernel
theorem dX12_by_3 : decode cX12_by 3 = .ok (.getfield 7, 3) := by decide +kernel
theorem dX12_by_6 : decode cX12_by 6 = .ok (.bipush 6, 2) := by decide +kernel
theorem dX12_by_8 : decode cX12_by 8 = .ok (.iaload, 1) := by decide +kernel
theorem dX12_by_9 : decode cX12_by 9 = .ok (.iconst 1, 1) := by decide +kernel
theorem dX12_by_10 : decode cX12_by 10 = .ok (.isub, 1) := by decide +kernel
theorem dX12_by_11 : decode cX12_by 11 = .ok (.invokestatic 71, 3) := by decide +kernel
theorem dX12_by_14 : decode cX12_by 14 = .ok (.ifCond .ne 5, 3) := by decide +kernel
theorem dX12_by_17 : decode cX12_by 17 = .ok (.iconst 0, 1) := by decide +kernel
theorem dX12_by_18 : decode cX12_by 18 = .ok (.ireturn, 1) := by decide +kernel
theorem dX12_by_19 : decode cX12_by 19 = .ok (.aload_n 0, 1) := by decide +kernel
theorem dX12_by_20 : decode cX12_by 20 = .ok (.getfield 7, 3) := by decide +kernel
theorem dX12_by_23 : decode cX12_by 23 = .ok (.bipush 7, 2) := by decide +kernel
theorem dX12_by_25 : decode cX12_by 25 = .ok (.iload_n 1, 1) := by decide +kernel
theorem dX12_by_26 : decode cX12_by 26 = .ok (.iastore, 1) := by decide +kernel
theorem dX12_by_27 : decode cX12_by 27 = .ok (.iconst 1, 1) := by decide +kernel
theorem dX12_by_28 : decode cX12_by 28 = .ok (.ireturn, 1) := by decide +kernel
theorem dX12_start_0 : decode cX12_start 0 = .ok (.iload_n 1, 1) := by decide +kernel
theorem dX12_start_1 : decode cX12_start 1 = .ok (.invokestatic 75, 3) := by decide +kernel
theorem dX12_start_4 : decode cX12_start 4 = .ok (.ifCond .ne 5, 3) := by decide +kernel
theorem dX12_start_7 : decode cX12_start 7 = .ok (.iconst 0, 1) := by decide +kernel
theorem dX12_start_8 : decode cX12_start 8 = .ok (.ireturn, 1) := by decide +kernel
theorem dX12_start_9 : decode cX12_start 9 = .ok (.aload_n 0, 1) := by decide +kernel
theorem dX12_start_10 : decode cX12_start 10 = .ok (.getfield 7, 3) := by decide +kernel
theorem dX12_start_13 : decode cX12_start 13 = .ok (.bipush 12, 2) := by decide +kernel
theorem dX12_start_15 : decode cX12_start 15 = .ok (.iload_n 1, 1) := by decide +kernel
theorem dX12_start_16 : decode cX12_start 16 = .ok (.iastore, 1) := by decide +kernel
theorem dX12_start_17 : decode cX12_start 17 = .ok (.aload_n 0, 1) := by decide +kernel
theorem dX12_start_18 : decode cX12_start 18 = .ok (.getfield 7, 3) := by decide +kernel
theorem dX12_start_21 : decode cX12_start 21 = .ok (.bipush 13, 2) := by decide +kernel
theorem dX12_start_23 : decode cX12_start 23 = .ok (.iconst 0, 1) := by decide +kernel
theorem dX12_start_24 : decode cX12_start 24 = .ok (.iastore, 1) := by decide +kernel
theorem dX12_start_25 : decode cX12_start 25 = .ok (.aload_n 0, 1) := by decide +kernel
theorem dX12_start_26 : decode cX12_start 26 = .ok (.getfield 7, 3) := by decide +kernel
theorem dX12_start_29 : decode cX12_start 29 = .ok (.bipush 14, 2) := by decide +kernel
theorem dX12_start_31 : decode cX12_start 31 = .ok (.iconst 0, 1) := by decide +kernel
theorem dX12_start_32 : decode cX12_start 32 = .ok (.iastore, 1) := by decide +kernel
theorem dX12_start_33 : decode cX12_start 33 = .ok (.aload_n 0, 1) := by decide +kernel
theorem dX12_start_34 : decode cX12_start 34 = .ok (.getfield 7, 3) := by decide +kernel
theorem dX12_start_37 : decode cX12_start 37 = .ok (.bipush 8, 2) := by decide +kernel
theorem dX12_start_39 : decode cX12_start 39 = .ok (.iconst 0, 1) := by decide +kernel
theorem dX12_start_40 : decode cX12_start 40 = .ok (.iastore, 1) := by decide +kernel
theorem dX12_start_41 : decode cX12_start 41 = .ok (.iconst 1, 1) := by decide +kernel
theorem dX12_start_42 : decode cX12_start 42 = .ok (.ireturn, 1) := by decide +kernel
theorem dX12_seen_0 : decode cX12_seen 0 = .ok (.iload_n 1, 1) := by decide +kernel
theorem dX12_seen_1 : decode cX12_seen 1 = .ok (.iconst (-1), 1) := by decide +kernel
theorem dX12_seen_2 : decode cX12_seen 2 = .ok (.if_icmp .ne 13, 3) := by decide +kernel
theorem dX12_seen_5 : decode cX12_seen 5 = .ok (.aload_n 0, 1) := by decide +kernel
theorem dX12_seen_6 : decode cX12_seen 6 = .ok (.getfield 7, 3) := by decide +kernel
theorem dX12_seen_9 : decode cX12_seen 9 = .ok (.bipush 9, 2) := by decide +kernel
theorem dX12_seen_11 : decode cX12_seen 11 = .ok (.iconst 0, 1) := by decide +kernel
theorem dX12_seen_12 : decode cX12_seen 12 = .ok (.iastore, 1) := by decide +kernel
theorem dX12_seen_13 : decode cX12_seen 13 = .ok (.iconst 0, 1) := by decide +kernel
theorem dX12_seen_14 : decode cX12_seen 14 = .ok (.ireturn, 1) := by decide +kernel
theorem dX12_seen_15 : decode cX12_seen 15 = .ok (.iload_n 1, 1) := by decide +kernel
theorem dX12_seen_16 : decode cX12_seen 16 = .ok (.invokestatic 75, 3) := by decide +kernel
theorem dX12_seen_19 : decode cX12_seen 19 = .ok (.ifCond .eq 15, 3) := by decide +kernel
theorem dX12_seen_22 : decode cX12_seen 22 = .ok (.aload_n 0, 1) := by decide +kernel
theorem dX12_seen_23 : decode cX12_seen 23 = .ok (.getfield 7, 3) := by decide +kernel
theorem dX12_seen_26 : decode cX12_seen 26 = .ok (.bipush 9, 2) := by decide +kernel
theorem dX12_seen_28 : decode cX12_seen 28 = .ok (.iaload, 1) := by decide +kernel
theorem dX12_seen_29 : decode cX12_seen 29 = .ok (.bipush 6, 2) := by decide +kernel
theorem dX12_seen_31 : decode cX12_seen 31 = .ok (.if_icmp .ne 6, 3) := by decide +kernel
theorem dX12_seen_34 : decode cX12_seen 34 = .ok (.bipush (-2), 2) := by decide +kernel
theorem dX12_seen_36 : decode cX12_seen 36 = .ok (.ireturn, 1) := by decide +kernel
theorem dX12_seen_37 : decode cX12_seen 37 = .ok (.aload_n 0, 1) := by decide +kernel
theorem dX12_seen_38 : decode cX12_seen 38 = .ok (.getfield 7, 3) := by decide +kernel
theorem dX12_seen_41 : decode cX12_seen 41 = .ok (.bipush 46, 2) := by decide +kernel
theorem dX12_seen_43 : decode cX12_seen 43 = .ok (.aload_n 0, 1) := by decide +kernel
theorem dX12_seen_44 : decode cX12_seen 44 = .ok (.getfield 7, 3) := by decide +kernel
theorem dX12_seen_47 : decode cX12_seen 47 = .ok (.bipush 9, 2) := by decide +kernel
theorem dX12_seen_49 : decode cX12_seen 49 = .ok (.iaload, 1) := by decide +kernel
theorem dX12_seen_50 : decode cX12_seen 50 = .ok (.iadd, 1) := by decide +kernel
theorem dX12_seen_51 : decode cX12_seen 51 = .ok (.iload_n 1, 1) := by decide +kernel
theorem dX12_seen_52 : decode cX12_seen 52 = .ok (.iastore, 1) := by decide +kernel
theorem dX12_seen_53 : decode cX12_seen 53 = .ok (.aload_n 0, 1) := by decide +kernel
theorem dX12_seen_54 : decode cX12_seen 54 = .ok (.getfield 7, 3) := by decide +kernel
theorem dX12_seen_57 : decode cX12_seen 57 = .ok (.bipush 9, 2) := by decide +kernel
theorem dX12_seen_59 : decode cX12_seen 59 = .ok (.dup2, 1) := by decide +kernel
theorem dX12_seen_60 : decode cX12_seen 60 = .ok (.iaload, 1) := by decide +kernel
theorem dX12_seen_61 : decode cX12_seen 61 = .ok (.iconst 1, 1) := by decide +kernel
theorem dX12_seen_62 : decode cX12_seen 62 = .ok (.iadd, 1) := by decide +kernel
theorem dX12_seen_63 : decode cX12_seen 63 = .ok (.iastore, 1) := by decide +kernel
theorem dX12_seen_64 : decode cX12_seen 64 = .ok (.aload_n 0, 1) := by decide +kernel
theorem dX12_seen_65 : decode cX12_seen 65 = .ok (.getfield 7, 3) := by decide +kernel
theorem dX12_seen_68 : decode cX12_seen 68 = .ok (.bipush 9, 2) := by decide +kernel
theorem dX12_seen_70 : decode cX12_seen 70 = .ok (.iaload, 1) := by decide +kernel
theorem dX12_seen_71 : decode cX12_seen 71 = .ok (.ireturn, 1) := by decide +kernel
theorem dX12_tried_0 : decode cX12_tried 0 = .ok (.iload_n 1, 1) := by decide +kernel
theorem dX12_tried_1 : decode cX12_tried 1 = .ok (.iconst (-1), 1) := by decide +kernel
theorem dX12_tried_2 : decode cX12_tried 2 = .ok (.if_icmp .ne 13, 3) := by decide +kernel
theorem dX12_tried_5 : decode cX12_tried 5 = .ok (.aload_n 0, 1) := by decide +kernel
theorem dX12_tried_6 : decode cX12_tried 6 = .ok (.getfield 7, 3) := by decide +kernel
theorem dX12_tried_9 : decode cX12_tried 9 = .ok (.bipush 10, 2) := by decide +kernel
theorem dX12_tried_11 : decode cX12_tried 11 = .ok (.iconst 0, 1) := by decide +kernel
theorem dX12_tried_12 : decode cX12_tried 12 = .ok (.iastore, 1) := by decide +kernel
theorem dX12_tried_13 : decode cX12_tried 13 = .ok (.iconst 0, 1) := by decide +kernel
theorem dX12_tried_14 : decode cX12_tried 14 = .ok (.ireturn, 1) := by decide +kernel
theorem dX12_tried_15 : decode cX12_tried 15 = .ok (.aload_n 0, 1) := by decide +kernel
theorem dX12_tried_16 : decode cX12_tried 16 = .ok (.iload_n 1, 1) := by decide +kernel
theorem dX12_tried_17 : decode cX12_tried 17 = .ok (.invokevirtual 284, 3) := by decide +kernel
theorem dX12_tried_20 : decode cX12_tried 20 = .ok (.ifCond .eq 29, 3) := by decide +kernel
theorem dX12_tried_23 : decode cX12_tried 23 = .ok (.iload_n 2, 1) := by decide +kernel
theorem dX12_tried_24 : decode cX12_tried 24 = .ok (.invokestatic 75, 3) := by decide +kernel
theorem dX12_tried_27 : decode cX12_tried 27 = .ok (.ifCond .eq 22, 3) := by decide +kernel
theorem dX12_tried_30 : decode cX12_tried 30 = .ok (.iload_n 3, 1) := by decide +kernel
theorem dX12_tried_31 : decode cX12_tried 31 = .ok (.invokestatic 75, 3) := by decide +kernel
theorem dX12_tried_34 : decode cX12_tried 34 = .ok (.ifCond .eq 15, 3) := by decide +kernel
theorem dX12_tried_37 : decode cX12_tried 37 = .ok (.aload_n 0, 1) := by decide +kernel
theorem dX12_tried_38 : decode cX12_tried 38 = .ok (.getfield 7, 3) := by decide +kernel
theorem dX12_tried_41 : decode cX12_tried 41 = .ok (.bipush 10, 2) := by decide +kernel
theorem dX12_tried_43 : decode cX12_tried 43 = .ok (.iaload, 1) := by decide +kernel
theorem dX12_tried_44 : decode cX12_tried 44 = .ok (.bipush 10, 2) := by decide +kernel
theorem dX12_tried_46 : decode cX12_tried 46 = .ok (.if_icmp .ne 6, 3) := by decide +kernel
theorem dX12_tried_49 : decode cX12_tried 49 = .ok (.bipush (-2), 2) := by decide +kernel
theorem dX12_tried_51 : decode cX12_tried 51 = .ok (.ireturn, 1) := by decide +kernel
theorem dX12_tried_52 : decode cX12_tried 52 = .ok (.bipush 52, 2) := by decide +kernel
theorem dX12_tried_54 : decode cX12_tried 54 = .ok (.iconst 3, 1) := by decide +kernel
theorem dX12_tried_55 : decode cX12_tried 55 = .ok (.aload_n 0, 1) := by decide +kernel
theorem dX12_tried_56 : decode cX12_tried 56 = .ok (.getfield 7, 3) := by decide +kernel
theorem dX12_tried_59 : decode cX12_tried 59 = .ok (.bipush 10, 2) := by decide +kernel
theorem dX12_tried_61 : decode cX12_tried 61 = .ok (.iaload, 1) := by decide +kernel
theorem dX12_tried_62 : decode cX12_tried 62 = .ok (.imul, 1) := by decide +kernel
theorem dX12_tried_63 : decode cX12_tried 63 = .ok (.iadd, 1) := by decide +kernel
theorem dX12_tried_64 : decode cX12_tried 64 = .ok (.istore 4, 2) := by decide +kernel
theorem dX12_tried_66 : decode cX12_tried 66 = .ok (.aload_n 0, 1) := by decide +kernel
theorem dX12_tried_67 : decode cX12_tried 67 = .ok (.getfield 7, 3) := by decide +kernel
theorem dX12_tried_70 : decode cX12_tried 70 = .ok (.iload 4, 2) := by decide +kernel
theorem dX12_tried_72 : decode cX12_tried 72 = .ok (.iload_n 1, 1) := by decide +kernel
theorem dX12_tried_73 : decode cX12_tried 73 = .ok (.iastore, 1) := by decide +kernel
theorem dX12_tried_74 : decode cX12_tried 74 = .ok (.aload_n 0, 1) := by decide +kernel
theorem dX12_tried_75 : decode cX12_tried 75 = .ok (.getfield 7, 3) := by decide +kernel
theorem dX12_tried_78 : decode cX12_tried 78 = .ok (.iload 4, 2) := by decide +kernel
theorem dX12_tried_80 : decode cX12_tried 80 = .ok (.iconst 1, 1) := by decide +kernel
theorem dX12_tried_81 : decode cX12_tried 81 = .ok (.iadd, 1) := by decide +kernel
theorem dX12_tried_82 : decode cX12_tried 82 = .ok (.iload_n 2, 1) := by decide +kernel
theorem dX12_tried_83 : decode cX12_tried 83 = .ok (.iastore, 1) := by decide +kernel
theorem dX12_tried_84 : decode cX12_tried 84 = .ok (.aload_n 0, 1) := by decide +kernel
theorem dX12_tried_85 : decode cX12_tried 85 = .ok (.getfield 7, 3) := by decide +kernel
theorem dX12_tried_88 : decode cX12_tried 88 = .ok (.iload 4, 2) := by decide +kernel
theorem dX12_tried_90 : decode cX12_tried 90 = .ok (.iconst 2, 1) := by decide +kernel
theorem dX12_tried_91 : decode cX12_tried 91 = .ok (.iadd, 1) := by decide +kernel
theorem dX12_tried_92 : decode cX12_tried 92 = .ok (.iload_n 3, 1) := by decide +kernel
theorem dX12_tried_93 : decode cX12_tried 93 = .ok (.iastore, 1) := by decide +kernel
theorem dX12_tried_94 : decode cX12_tried 94 = .ok (.aload_n 0, 1) := by decide +kernel
theorem dX12_tried_95 : decode cX12_tried 95 = .ok (.getfield 7, 3) := by decide +kernel
theorem dX12_tried_98 : decode cX12_tried 98 = .ok (.bipush 10, 2) := by decide +kernel
theorem dX12_tried_100 : decode cX12_tried 100 = .ok (.dup2, 1) := by decide +kernel
theorem dX12_tried_101 : decode cX12_tried 101 = .ok (.iaload, 1) := by decide +kernel
theorem dX12_tried_102 : decode cX12_tried 102 = .ok (.iconst 1, 1) := by decide +kernel
theorem dX12_tried_103 : decode cX12_tried 103 = .ok (.iadd, 1) := by decide +kernel
theorem dX12_tried_104 : decode cX12_tried 104 = .ok (.iastore, 1) := by decide +kernel
theorem dX12_tried_105 : decode cX12_tried 105 = .ok (.aload_n 0, 1) := by decide +kernel
theorem dX12_tried_106 : decode cX12_tried 106 = .ok (.getfield 7, 3) := by decide +kernel
theorem dX12_tried_109 : decode cX12_tried 109 = .ok (.bipush 10, 2) := by decide +kernel
theorem dX12_tried_111 : decode cX12_tried 111 = .ok (.iaload, 1) := by decide +kernel
theorem dX12_tried_112 : decode cX12_tried 112 = .ok (.ireturn, 1) := by decide +kernel
theorem dX12_innAt_0 : decode cX12_innAt 0 = .ok (.iconst 0, 1) := by decide +kernel
theorem dX12_innAt_1 : decode cX12_innAt 1 = .ok (.istore_n 2, 1) := by decide +kernel
theorem dX12_innAt_2 : decode cX12_innAt 2 = .ok (.iload_n 2, 1) := by decide +kernel
theorem dX12_innAt_3 : decode cX12_innAt 3 = .ok (.aload_n 0, 1) := by decide +kernel
theorem dX12_innAt_4 : decode cX12_innAt 4 = .ok (.getfield 7, 3) := by decide +kernel
theorem dX12_innAt_7 : decode cX12_innAt 7 = .ok (.iconst 2, 1) := by decide +kernel
theorem dX12_innAt_8 : decode cX12_innAt 8 = .ok (.iaload, 1) := by decide +kernel
theorem dX12_innAt_9 : decode cX12_innAt 9 = .ok (.if_icmp .ge 24, 3) := by decide +kernel
theorem dX12_innAt_12 : decode cX12_innAt 12 = .ok (.aload_n 0, 1) := by decide +kernel
theorem dX12_innAt_13 : decode cX12_innAt 13 = .ok (.getfield 7, 3) := by decide +kernel
theorem dX12_innAt_16 : decode cX12_innAt 16 = .ok (.bipush 24, 2) := by decide +kernel
theorem dX12_innAt_18 : decode cX12_innAt 18 = .ok (.iload_n 2, 1) := by decide +kernel
theorem dX12_innAt_19 : decode cX12_innAt 19 = .ok (.iadd, 1) := by decide +kernel
theorem dX12_innAt_20 : decode cX12_innAt 20 = .ok (.iaload, 1) := by decide +kernel
theorem dX12_innAt_21 : decode cX12_innAt 21 = .ok (.iload_n 1, 1) := by decide +kernel
theorem dX12_innAt_22 : decode cX12_innAt 22 = .ok (.if_icmp .ne 5, 3) := by decide +kernel
theorem dX12_innAt_25 : decode cX12_innAt 25 = .ok (.iload_n 2, 1) := by decide +kernel
theorem dX12_innAt_26 : decode cX12_innAt 26 = .ok (.ireturn, 1) := by decide +kernel
theorem dX12_innAt_27 : decode cX12_innAt 27 = .ok (.iinc 2 1, 3) := by decide +kernel
theorem dX12_innAt_30 : decode cX12_innAt 30 = .ok (.goto (-28), 3) := by decide +kernel
theorem dX12_innAt_33 : decode cX12_innAt 33 = .ok (.iconst (-1), 1) := by decide +kernel
theorem dX12_innAt_34 : decode cX12_innAt 34 = .ok (.ireturn, 1) := by decide +kernel
theorem dX12_coach_0 : decode cX12_coach 0 = .ok (.iload_n 1, 1) := by decide +kernel
theorem dX12_coach_1 : decode cX12_coach 1 = .ok (.iconst 0, 1) := by decide +kernel
theorem dX12_coach_2 : decode cX12_coach 2 = .ok (.iconst 2, 1) := by decide +kernel
theorem dX12_coach_3 : decode cX12_coach 3 = .ok (.invokestatic 71, 3) := by decide +kernel
theorem dX12_coach_6 : decode cX12_coach 6 = .ok (.ifCond .eq 15, 3) := by decide +kernel
theorem dX12_coach_9 : decode cX12_coach 9 = .ok (.aload_n 0, 1) := by decide +kernel
theorem dX12_coach_10 : decode cX12_coach 10 = .ok (.getfield 7, 3) := by decide +kernel
theorem dX12_coach_13 : decode cX12_coach 13 = .ok (.bipush 12, 2) := by decide +kernel
theorem dX12_coach_15 : decode cX12_coach 15 = .ok (.iload_n 1, 1) := by decide +kernel
theorem dX12_coach_16 : decode cX12_coach 16 = .ok (.iadd, 1) := by decide +kernel
theorem dX12_coach_17 : decode cX12_coach 17 = .ok (.iaload, 1) := by decide +kernel
theorem dX12_coach_18 : decode cX12_coach 18 = .ok (.goto 23, 3) := by decide +kernel
theorem dX12_coach_21 : decode cX12_coach 21 = .ok (.iload_n 1, 1) := by decide +kernel
theorem dX12_coach_22 : decode cX12_coach 22 = .ok (.iconst 3, 1) := by decide +kernel
theorem dX12_coach_23 : decode cX12_coach 23 = .ok (.if_icmp .ne 17, 3) := by decide +kernel
theorem dX12_coach_26 : decode cX12_coach 26 = .ok (.aload_n 0, 1) := by decide +kernel
theorem dX12_coach_27 : decode cX12_coach 27 = .ok (.aload_n 0, 1) := by decide +kernel
theorem dX12_coach_28 : decode cX12_coach 28 = .ok (.getfield 7, 3) := by decide +kernel
theorem dX12_coach_31 : decode cX12_coach 31 = .ok (.bipush 12, 2) := by decide +kernel
theorem dX12_coach_33 : decode cX12_coach 33 = .ok (.iaload, 1) := by decide +kernel
theorem dX12_coach_34 : decode cX12_coach 34 = .ok (.invokevirtual 299, 3) := by decide +kernel
theorem dX12_coach_37 : decode cX12_coach 37 = .ok (.goto 4, 3) := by decide +kernel
theorem dX12_coach_40 : decode cX12_coach 40 = .ok (.iconst (-1), 1) := by decide +kernel
theorem dX12_coach_41 : decode cX12_coach 41 = .ok (.ireturn, 1) := by decide +kernel
theorem dX12_about_0 : decode cX12_about 0 = .ok (.iload_n 1, 1) := by decide +kernel
theorem dX12_about_1 : decode cX12_about 1 = .ok (.bipush 20, 2) := by decide +kernel
theorem dX12_about_3 : decode cX12_about 3 = .ok (.bipush 19, 2) := by decide +kernel
theorem dX12_about_5 : decode cX12_about 5 = .ok (.aload_n 0, 1) := by decide +kernel
theorem dX12_about_6 : decode cX12_about 6 = .ok (.getfield 7, 3) := by decide +kernel
theorem dX12_about_9 : decode cX12_about 9 = .ok (.iconst 2, 1) := by decide +kernel
theorem dX12_about_10 : decode cX12_about 10 = .ok (.iaload, 1) := by decide +kernel
theorem dX12_about_11 : decode cX12_about 11 = .ok (.iadd, 1) := by decide +kernel
theorem dX12_about_12 : decode cX12_about 12 = .ok (.invokestatic 71, 3) := by decide +kernel
theorem dX12_about_15 : decode cX12_about 15 = .ok (.ifCond .eq 16, 3) := by decide +kernel
theorem dX12_about_18 : decode cX12_about 18 = .ok (.aload_n 0, 1) := by decide +kernel
theorem dX12_about_19 : decode cX12_about 19 = .ok (.getfield 7, 3) := by decide +kernel
theorem dX12_about_22 : decode cX12_about 22 = .ok (.bipush 24, 2) := by decide +kernel
theorem dX12_about_24 : decode cX12_about 24 = .ok (.iload_n 1, 1) := by decide +kernel
theorem dX12_about_25 : decode cX12_about 25 = .ok (.iadd, 1) := by decide +kernel
theorem dX12_about_26 : decode cX12_about 26 = .ok (.bipush 20, 2) := by decide +kernel
theorem dX12_about_28 : decode cX12_about 28 = .ok (.isub, 1) := by decide +kernel
theorem dX12_about_29 : decode cX12_about 29 = .ok (.iaload, 1) := by decide +kernel
theorem dX12_about_30 : decode cX12_about 30 = .ok (.ireturn, 1) := by decide +kernel
theorem dX12_about_31 : decode cX12_about 31 = .ok (.iload_n 1, 1) := by decide +kernel
theorem dX12_about_32 : decode cX12_about 32 = .ok (.bipush 100, 2) := by decide +kernel
theorem dX12_about_34 : decode cX12_about 34 = .ok (.sipush 399, 3) := by decide +kernel
theorem dX12_about_37 : decode cX12_about 37 = .ok (.invokestatic 71, 3) := by decide +kernel
theorem dX12_about_40 : decode cX12_about 40 = .ok (.ifCond .eq 16, 3) := by decide +kernel
theorem dX12_about_43 : decode cX12_about 43 = .ok (.aload_n 0, 1) := by decide +kernel
theorem dX12_about_44 : decode cX12_about 44 = .ok (.getfield 7, 3) := by decide +kernel
theorem dX12_about_47 : decode cX12_about 47 = .ok (.bipush 82, 2) := by decide +kernel
theorem dX12_about_49 : decode cX12_about 49 = .ok (.iload_n 1, 1) := by decide +kernel
theorem dX12_about_50 : decode cX12_about 50 = .ok (.iadd, 1) := by decide +kernel
theorem dX12_about_51 : decode cX12_about 51 = .ok (.bipush 100, 2) := by decide +kernel
theorem dX12_about_53 : decode cX12_about 53 = .ok (.isub, 1) := by decide +kernel
theorem dX12_about_54 : decode cX12_about 54 = .ok (.iaload, 1) := by decide +kernel
theorem dX12_about_55 : decode cX12_about 55 = .ok (.ireturn, 1) := by decide +kernel
theorem dX12_about_56 : decode cX12_about 56 = .ok (.iload_n 1, 1) := by decide +kernel
theorem dX12_about_57 : decode cX12_about 57 = .ok (.iconst 0, 1) := by decide +kernel
theorem dX12_about_58 : decode cX12_about 58 = .ok (.bipush 10, 2) := by decide +kernel
theorem dX12_about_60 : decode cX12_about 60 = .ok (.invokestatic 71, 3) := by decide +kernel
theorem dX12_about_63 : decode cX12_about 63 = .ok (.ifCond .eq 12, 3) := by decide +kernel
theorem dX12_about_66 : decode cX12_about 66 = .ok (.aload_n 0, 1) := by decide +kernel
theorem dX12_about_67 : decode cX12_about 67 = .ok (.getfield 7, 3) := by decide +kernel
theorem dX12_about_70 : decode cX12_about 70 = .ok (.iload_n 1, 1) := by decide +kernel
theorem dX12_about_71 : decode cX12_about 71 = .ok (.iaload, 1) := by decide +kernel
theorem dX12_about_72 : decode cX12_about 72 = .ok (.goto 18, 3) := by decide +kernel
theorem dX12_about_75 : decode cX12_about 75 = .ok (.iload_n 1, 1) := by decide +kernel
theorem dX12_about_76 : decode cX12_about 76 = .ok (.bipush 11, 2) := by decide +kernel
theorem dX12_about_78 : decode cX12_about 78 = .ok (.if_icmp .ne 10, 3) := by decide +kernel
theorem dX12_about_81 : decode cX12_about 81 = .ok (.aload_n 0, 1) := by decide +kernel
theorem dX12_about_82 : decode cX12_about 82 = .ok (.getfield 79, 3) := by decide +kernel
theorem dX12_about_85 : decode cX12_about 85 = .ok (.goto 5, 3) := by decide +kernel
theorem dX12_about_88 : decode cX12_about 88 = .ok (.bipush (-2), 2) := by decide +kernel
theorem dX12_about_90 : decode cX12_about 90 = .ok (.ireturn, 1) := by decide +kernel
theorem bw_36 : Cond.selects "CountingHorsesModel" ⟨"CountingHorsesModel", "four", "(I)V"⟩ ⟨"CountingHorsesModel", "four", "(I)V"⟩ ∈ BW := bw_at 36 (by decide +kernel) (by decide +kernel)
theorem bw_60 : Cond.selects "CountingHorsesModel" ⟨"CountingHorsesModel", "isHorse", "(I)Z"⟩ ⟨"CountingHorsesModel", "isHorse", "(I)Z"⟩ ∈ BW := bw_at 60 (by decide +kernel) (by decide +kernel)
theorem bw_70 : Cond.selects "CountingHorsesModel" ⟨"CountingHorsesModel", "innAt", "(I)I"⟩ ⟨"CountingHorsesModel", "innAt", "(I)I"⟩ ∈ BW := bw_at 70 (by decide +kernel) (by decide +kernel)
theorem bw_1019 : Cond.fieldLink "CountingHorsesModel" 7 "CountingHorsesModel" "a" "[I" ∈ BW := bw_at 1019 (by decide +kernel) (by decide +kernel)
theorem bw_1022 : Cond.fieldLink "CountingHorsesModel" 19 "CountingHorsesModel" "tape" "[I" ∈ BW := bw_at 1022 (by decide +kernel) (by decide +kernel)
theorem bw_1023 : Cond.fieldLink "CountingHorsesModel" 79 "CountingHorsesModel" "taped" "I" ∈ BW := bw_at 1023 (by decide +kernel) (by decide +kernel)
theorem bw_1024 : Cond.fieldLink "CountingHorsesModel" 22 "CountingHorsesModel" "fault" "I" ∈ BW := bw_at 1024 (by decide +kernel) (by decide +kernel)
theorem bw_1025 : Cond.fieldLink "CountingHorsesModel" 26 "CountingHorsesModel" "faultPlace" "I" ∈ BW := bw_at 1025 (by decide +kernel) (by decide +kernel)
theorem bw_1132 : Cond.methodLink "CountingHorsesModel" 75 ⟨"CountingHorsesModel", "isPlace", "(I)Z"⟩ ∈ BW := bw_at 1132 (by decide +kernel) (by decide +kernel)
theorem bw_1133 : Cond.static ⟨"CountingHorsesModel", "isPlace", "(I)Z"⟩ ∈ BW := bw_at 1133 (by decide +kernel) (by decide +kernel)
theorem bw_1134 : Cond.code ⟨"CountingHorsesModel", "isPlace", "(I)Z"⟩ prog_14_method_8_code 1 (some .boolean) ∈ BW := bw_at 1134 (by decide +kernel) (by decide +kernel)
theorem bw_1158 : Cond.methodLink "CountingHorsesModel" 82 ⟨"CountingHorsesModel", "four", "(I)V"⟩ ∈ BW := bw_at 1158 (by decide +kernel) (by decide +kernel)
theorem bw_1160 : Cond.instanceMethod ⟨"CountingHorsesModel", "four", "(I)V"⟩ ∈ BW := bw_at 1160 (by decide +kernel) (by decide +kernel)
theorem bw_1161 : Cond.code ⟨"CountingHorsesModel", "four", "(I)V"⟩ prog_14_method_14_code 3 none ∈ BW := bw_at 1161 (by decide +kernel) (by decide +kernel)
theorem bw_1298 : Cond.methodLink "CountingHorsesModel" 284 ⟨"CountingHorsesModel", "isHorse", "(I)Z"⟩ ∈ BW := bw_at 1298 (by decide +kernel) (by decide +kernel)
theorem bw_1300 : Cond.instanceMethod ⟨"CountingHorsesModel", "isHorse", "(I)Z"⟩ ∈ BW := bw_at 1300 (by decide +kernel) (by decide +kernel)
theorem bw_1301 : Cond.code ⟨"CountingHorsesModel", "isHorse", "(I)Z"⟩ prog_14_method_7_code 2 (some .boolean) ∈ BW := bw_at 1301 (by decide +kernel) (by decide +kernel)
theorem bw_1382 : Cond.methodLink "CountingHorsesModel" 299 ⟨"CountingHorsesModel", "innAt", "(I)I"⟩ ∈ BW := bw_at 1382 (by decide +kernel) (by decide +kernel)
theorem bw_1384 : Cond.instanceMethod ⟨"CountingHorsesModel", "innAt", "(I)I"⟩ ∈ BW := bw_at 1384 (by decide +kernel) (by decide +kernel)
theorem bw_1385 : Cond.code ⟨"CountingHorsesModel", "innAt", "(I)I"⟩ prog_14_method_70_code 3 (some .int) ∈ BW := bw_at 1385 (by decide +kernel) (by decide +kernel)
/-! ===== contracts with a long for their answer ===== -/
def Cl (l : Launch) (D : va_G) (tys : vw_Y) (y : MethodName) (bytes : ByteArray) (maxL : Nat) (ret : Option FieldType) (k mc ms : Nat) (av : List Value) (wc : va_W) (post : Int64 → va_W → Prop) : Prop := ∀ sz : Nat, Met l y (bws y bytes maxL ret) (rmv k mc ms) (cPc D tys av wc sz) (va_Ql post (cB D tys (va_A wc sz)) (va_A wc sz)) mc ms (va_A wc sz)
theorem Cl.of {l : Launch} {D : va_G} {tys : vw_Y} {y : MethodName} {bytes : ByteArray} {maxL : Nat} {ret : Option FieldType} {k mc ms : Nat} {av : List Value} {wc : va_W} {post : Int64 → va_W → Prop} (hy : plainName y.cls = true) (hav : (lg_sl av).length ≤ maxL)
    (body : ∀ (p : Program) (e : Env) (s : State) (m : MethodId) (below : List Frame) (meth : Method) (c : Code) (A : Nat → Prop) (ls : Array Slot), Zx p s m av.toArray meth c bytes maxL ret y.cls A tys D → meth.name = y.name → va_P D vwCl wc s.heap → va_D A wc → lv_has ls maxL (lv_args 0 av) →
      W p l e (rmv k mc ms) s m av.toArray below meth c s.heap [] 0 0 (MQ below (va_Ql post (cB D tys A) A) av.toArray s mc ms A) (F0 m 0 ls []))   : Cl l D tys y bytes maxL ret k mc ms av wc post := by
  intro sz
  refine Met.ofW (cc := bytes) (maxL := maxL) (ret := ret) hy rfl ?_
  intro p e s m args below meth c s₁ B hml hv
  obtain ⟨rfl, hsz, hP, hK, hD0, hN⟩ := hv
  subst hsz
  have hts := atoms_spec (ws := bws y bytes maxL ret) B.pre
  have hown : s.vm.findClass y.cls = some m.cls := findClass_of_methodNamed B.named
  have hin : meth.name = y.name := (name_of_methodNamed B.named B.method).1
  have hl := lv_entry av (n := maxL) hav
  rw [lg_entry_eq]
  exact body p e s m below meth c _ _ ⟨B.exec, B.bytes, hml, hown, fun w h => hts w (List.mem_cons_of_mem _ h), hN, hK, fun q h => Or.inr h, B.notSynchronized, B.returns⟩ hin hP hD0.self hl
section ZL
variable {p : Program} {l : Launch} {e : Env} {R : Room} {s : State} {m : MethodId} {args : Array Value} {below : List Frame} {meth : Method} {c : Code} {H : Heap} {locs : List Loc} {cells slots : Nat} {Q : State → Prop}
variable {cc : ByteArray} {pc nL : Nat} {rt : Option FieldType} {ls : Array Slot} {rest st0 : List Value} {D : va_G} {A : Nat → Prop} {tys : vw_Y} {ws wc wr : va_W} {own : String}
variable {y : MethodName} {bytes : ByteArray} {maxL k mc ms index b nA : Nat} {ret : Option FieldType} {As : List Value} {post : Int64 → va_W → Prop}
theorem raw_Sl (Z : Zx p s m args meth c cc nL rt own A tys D) (hl : ls.size = nL) (hM : Cl l D tys y bytes maxL ret k mc ms As wc post) (g : GoodIn BW (va_wsS own index y (bws y bytes maxL ret)))
    (hd : y.cls ≠ "java/lang/invoke/MethodHandle" ∧ y.cls ≠ "java/lang/invoke/VarHandle" ∧ (parseMethodDescriptor y.desc).map (fun d => d.parameters.length) = some nA) (hnA : As.length = nA) (hR : k + 1 ≤ R.frames ∧ 8 + (maxL + 11) + 100 * k ≤ R.locals)
    (hPc : va_P D vwCl wc H) (hDc : va_D A wc) (hS : va_S A s.heap H locs)
    (hst : st0 = As.reverse ++ rest) (hrm : (rest.map fun v => v.category).sum ≤ 8) (hdg : decode cc pc = .ok (.invokestatic index, 3)) (hcs : cells + mc ≤ R.cells ∧ slots + ms ≤ R.slots)
    (kk : ∀ (r : Int64) (u : va_W) (H1 : Heap) (locs1 : List Loc), post r u → (∀ q : Nat, q < H.size → ¬ va_A wc H.size q → H1[q]? = H[q]?) → va_P D vwCl u H1 → va_D (va_A wc H.size) u → va_S A s.heap H1 locs1 → W p l e R s m args below meth c H1 locs1 (cells + mc) (slots + ms) Q (F0 m (pc + 3) ls (.long r :: rest))) :
    W p l e R s m args below meth c H locs cells slots Q (F0 m pc ls st0) := by
  obtain ⟨hx, hb, hml, hown, hw, hN, hK, hA, -, -⟩ := Z
  have hFc := raw_free hDc hA hS
  refine va_calll (va_runS (As := As) (rest := rest) ⟨hx, hb, hml, hown, hw⟩ (hM H.size) (va_cwS nA hw g rfl rfl rfl hd hR) ⟨cPc_blind, fun U hU hW => ⟨rfl, by rw [hU], by rw [hU]; exact hPc, va_K.moved hW.alike hK, hDc.weaken (fun _ _ _ _ => trivial), hN.call hS hFc hU hW⟩⟩ rfl hnA hl hst (lv_room hrm) hdg hcs) hS (fun q _ h => hFc q h) hFc (fun r u t H1 locs1 ht hvm hw1 hB hz1 hk1 hS1 => ?_)
  obtain ⟨hP1, hD1⟩ := hB
  rw [ht] at hP1
  exact kk r u H1 locs1 hw1 hk1 hP1 hD1 hS1
theorem z_lret {v : Int64} {u : va_W} (Z : Zx p s m args meth c cc nL (some .long) own A tys D) (hP : va_P D vwCl u H) (hD : va_D A u) (hS : va_S A s.heap H locs) (hpost : post v u) (hdg : decode cc pc = .ok (.lreturn, 1)) (hc : cells ≤ mc) (hs : slots ≤ ms) :
    W p l e R s m args below meth c H locs cells slots (MQ below (va_Ql post (cB D tys A) A) args s mc ms A) (F0 m pc ls [.long v]) := by
  refine W.widen hc hs ?_
  have hlocks := Z.2.2.2.2.2.2.2.2.1
  exact W.lret Z.1 Z.2.1 Z.2.2.2.2.2.2.2.2.2 (fun t ht hW => ⟨⟨v, u, rfl, hpost, by rw [ht]; exact hP, hD⟩, hS.F ht⟩) hS.2.2 hdg hlocks
end ZL
/-! ===== the reference's state row ===== -/
def RAi (i : Int) (x : Int32) : Prop := (i = 12 → 0 ≤ x.toInt ∧ x.toInt ≤ 299) ∧ (i = 2 → 0 ≤ x.toInt ∧ x.toInt ≤ 10) ∧ (i = 8 → 0 ≤ x.toInt ∧ x.toInt ≤ 30) ∧ (16 ≤ i ∧ i ≤ 33 → 0 ≤ x.toInt ∧ x.toInt ≤ 299) ∧ (34 ≤ i ∧ i ≤ 45 → 0 ≤ x.toInt ∧ x.toInt ≤ 99) ∧ (46 ≤ i ∧ i ≤ 51 → 0 ≤ x.toInt ∧ x.toInt ≤ 299) ∧ (52 ≤ i ∧ i ≤ 81 ∧ (i - 52) % 3 = 0 → 0 ≤ x.toInt ∧ x.toInt ≤ 5) ∧ (52 ≤ i ∧ i ≤ 81 ∧ (i - 52) % 3 = 1 → 0 ≤ x.toInt ∧ x.toInt ≤ 299) ∧ (82 ≤ i ∧ i ≤ 381 → 0 ≤ x.toInt ∧ x.toInt ≤ 9) ∧ (382 ≤ i ∧ (i - 382) % 16 = 0 → 0 ≤ x.toInt ∧ x.toInt ≤ 299) ∧ (382 ≤ i ∧ (i - 382) % 16 = 5 → 0 ≤ x.toInt ∧ x.toInt ≤ 10) ∧ (382 ≤ i ∧ 6 ≤ (i - 382) % 16 → 0 ≤ x.toInt ∧ x.toInt ≤ 299)
def AK (c0 c1 c6 c9 c10 : Int) (f : Nat → Int32) : Prop := ((0 ≤ c0 ∧ c0 ≤ 6) ∧ (0 ≤ c1 ∧ c1 ≤ 4) ∧ (0 ≤ c6 ∧ c6 ≤ 4) ∧ (0 ≤ c9 ∧ c9 ≤ 6) ∧ (0 ≤ c10 ∧ c10 ≤ 10)) ∧ (f 0).toInt = c0 ∧ (f 1).toInt = c1 ∧ (f 6).toInt = c6 ∧ (f 9).toInt = c9 ∧ (f 10).toInt = c10 ∧ (-1 ≤ (f 7).toInt ∧ (f 7).toInt < c6) ∧ ∀ j : Nat, j < 862 → RAi (j : Int) (f j)
section ZAK
variable {c0 c1 c6 c9 c10 : Int} {f : Nat → Int32} {x v : Int32}
theorem AK.rng (h : AK c0 c1 c6 c9 c10 f) : (0 ≤ c0 ∧ c0 ≤ 6) ∧ (0 ≤ c1 ∧ c1 ≤ 4) ∧ (0 ≤ c6 ∧ c6 ≤ 4) ∧ (0 ≤ c9 ∧ c9 ≤ 6) ∧ (0 ≤ c10 ∧ c10 ≤ 10) := h.1
theorem AK.k0 (h : AK c0 c1 c6 c9 c10 f) : (f (0 : Int32).toNatClampNeg).toInt = c0 := h.2.1
theorem AK.k1 (h : AK c0 c1 c6 c9 c10 f) : (f (1 : Int32).toNatClampNeg).toInt = c1 := h.2.2.1
theorem AK.k6 (h : AK c0 c1 c6 c9 c10 f) : (f (6 : Int32).toNatClampNeg).toInt = c6 := h.2.2.2.1
theorem AK.k9 (h : AK c0 c1 c6 c9 c10 f) : (f (9 : Int32).toNatClampNeg).toInt = c9 := h.2.2.2.2.1
theorem AK.k10 (h : AK c0 c1 c6 c9 c10 f) : (f (10 : Int32).toNatClampNeg).toInt = c10 := h.2.2.2.2.2.1
theorem AK.k7 (h : AK c0 c1 c6 c9 c10 f) : -1 ≤ (f (7 : Int32).toNatClampNeg).toInt ∧ (f (7 : Int32).toNatClampNeg).toInt < c6 := h.2.2.2.2.2.2.1
theorem AK.all (h : AK c0 c1 c6 c9 c10 f) : ∀ j : Nat, j < 862 → RAi (j : Int) (f j) := h.2.2.2.2.2.2.2
theorem AK.k2 (h : AK c0 c1 c6 c9 c10 f) : 0 ≤ (f (2 : Int32).toNatClampNeg).toInt ∧ (f (2 : Int32).toNatClampNeg).toInt ≤ 10 := (h.all 2 (by decide)).2.1 rfl
theorem AK.k8 (h : AK c0 c1 c6 c9 c10 f) : 0 ≤ (f (8 : Int32).toNatClampNeg).toInt ∧ (f (8 : Int32).toNatClampNeg).toInt ≤ 30 := (h.all 8 (by decide)).2.2.1 rfl
theorem AK.k12 (h : AK c0 c1 c6 c9 c10 f) : 0 ≤ (f (12 : Int32).toNatClampNeg).toInt ∧ (f (12 : Int32).toNatClampNeg).toInt ≤ 299 := (h.all 12 (by decide)).1 rfl
theorem AK.at (h : AK c0 c1 c6 c9 c10 f) (h0 : 0 ≤ x.toInt) (h1 : x.toInt < 862) : RAi x.toInt (f x.toNatClampNeg) := by
  have e := zcl h0
  have h2 := h.all x.toNatClampNeg (by omega)
  rw [e] at h2
  exact h2
theorem AK.l_bi (h : AK c0 c1 c6 c9 c10 f) (hx : 16 ≤ x.toInt ∧ x.toInt ≤ 33) : 0 ≤ (f x.toNatClampNeg).toInt ∧ (f x.toNatClampNeg).toInt ≤ 299 := by
  have h2 := h.at (x := x) (by omega) (by omega)
  unfold RAi at h2
  exact h2.2.2.2.1 (by omega)
theorem AK.l_ho (h : AK c0 c1 c6 c9 c10 f) (hx : 34 ≤ x.toInt ∧ x.toInt ≤ 45) : 0 ≤ (f x.toNatClampNeg).toInt ∧ (f x.toNatClampNeg).toInt ≤ 99 := by
  have h2 := h.at (x := x) (by omega) (by omega)
  unfold RAi at h2
  exact h2.2.2.2.2.1 (by omega)
theorem AK.l_si (h : AK c0 c1 c6 c9 c10 f) (hx : 46 ≤ x.toInt ∧ x.toInt ≤ 51) : 0 ≤ (f x.toNatClampNeg).toInt ∧ (f x.toNatClampNeg).toInt ≤ 299 := by
  have h2 := h.at (x := x) (by omega) (by omega)
  unfold RAi at h2
  exact h2.2.2.2.2.2.1 (by omega)
theorem AK.l_t0 (h : AK c0 c1 c6 c9 c10 f) (hx : 52 ≤ x.toInt ∧ x.toInt ≤ 81 ∧ (x.toInt - 52) % 3 = 0) : 0 ≤ (f x.toNatClampNeg).toInt ∧ (f x.toNatClampNeg).toInt ≤ 5 := by
  have h2 := h.at (x := x) (by omega) (by omega)
  unfold RAi at h2
  exact h2.2.2.2.2.2.2.1 (by omega)
theorem AK.l_t1 (h : AK c0 c1 c6 c9 c10 f) (hx : 52 ≤ x.toInt ∧ x.toInt ≤ 81 ∧ (x.toInt - 52) % 3 = 1) : 0 ≤ (f x.toNatClampNeg).toInt ∧ (f x.toNatClampNeg).toInt ≤ 299 := by
  have h2 := h.at (x := x) (by omega) (by omega)
  unfold RAi at h2
  exact h2.2.2.2.2.2.2.2.1 (by omega)
theorem AK.l_mu (h : AK c0 c1 c6 c9 c10 f) (hx : 82 ≤ x.toInt ∧ x.toInt ≤ 381) : 0 ≤ (f x.toNatClampNeg).toInt ∧ (f x.toNatClampNeg).toInt ≤ 9 := by
  have h2 := h.at (x := x) (by omega) (by omega)
  unfold RAi at h2
  exact h2.2.2.2.2.2.2.2.2.1 (by omega)
theorem AK.l_s0 (h : AK c0 c1 c6 c9 c10 f) (hx : 382 ≤ x.toInt ∧ x.toInt < 862 ∧ (x.toInt - 382) % 16 = 0) : 0 ≤ (f x.toNatClampNeg).toInt ∧ (f x.toNatClampNeg).toInt ≤ 299 := by
  have h2 := h.at (x := x) (by omega) (by omega)
  unfold RAi at h2
  exact h2.2.2.2.2.2.2.2.2.2.1 (by omega)
theorem AK.l_s5 (h : AK c0 c1 c6 c9 c10 f) (hx : 382 ≤ x.toInt ∧ x.toInt < 862 ∧ (x.toInt - 382) % 16 = 5) : 0 ≤ (f x.toNatClampNeg).toInt ∧ (f x.toNatClampNeg).toInt ≤ 10 := by
  have h2 := h.at (x := x) (by omega) (by omega)
  unfold RAi at h2
  exact h2.2.2.2.2.2.2.2.2.2.2.1 (by omega)
theorem AK.l_s6 (h : AK c0 c1 c6 c9 c10 f) (hx : 382 ≤ x.toInt ∧ x.toInt < 862 ∧ 6 ≤ (x.toInt - 382) % 16) : 0 ≤ (f x.toNatClampNeg).toInt ∧ (f x.toNatClampNeg).toInt ≤ 299 := by
  have h2 := h.at (x := x) (by omega) (by omega)
  unfold RAi at h2
  exact h2.2.2.2.2.2.2.2.2.2.2.2 (by omega)
theorem AK.st (h : AK c0 c1 c6 c9 c10 f) (hx : 0 ≤ x.toInt ∧ x.toInt < 862 ∧ x.toInt ≠ 0 ∧ x.toInt ≠ 1 ∧ x.toInt ≠ 6 ∧ x.toInt ≠ 7 ∧ x.toInt ≠ 9 ∧ x.toInt ≠ 10) (hR : RAi x.toInt v) : AK c0 c1 c6 c9 c10 (upd f x.toNatClampNeg v) := by
  have e := zcl hx.1
  obtain ⟨h0, a0, a1, a6, a9, a10, a7, hA⟩ := h
  refine ⟨h0, ?_, ?_, ?_, ?_, ?_, ?_, fun j hj => ?_⟩
  · rw [pk_un (by omega)]; exact a0
  · rw [pk_un (by omega)]; exact a1
  · rw [pk_un (by omega)]; exact a6
  · rw [pk_un (by omega)]; exact a9
  · rw [pk_un (by omega)]; exact a10
  · rw [pk_un (by omega)]; exact a7
  · by_cases q : j = x.toNatClampNeg
    · subst q; rw [pk_us, e]; exact hR
    · rw [pk_un q]; exact hA j hj
theorem AK.s0 (h : AK c0 c1 c6 c9 c10 f) (hv : 0 ≤ v.toInt ∧ v.toInt ≤ 6) : AK (v : Int32).toInt c1 c6 c9 c10 (upd f (0 : Int32).toNatClampNeg v) := by
  obtain ⟨h0, a0, a1, a6, a9, a10, a7, hA⟩ := h
  refine ⟨⟨hv, h0.2.1, h0.2.2.1, h0.2.2.2.1, h0.2.2.2.2⟩, ?_, ?_, ?_, ?_, ?_, ?_, fun j hj => ?_⟩
  · show _; rw [show ((0 : Int32).toNatClampNeg) = 0 by decide]; rw [pk_us]
  · show _; rw [show ((0 : Int32).toNatClampNeg) = 0 by decide]; rw [pk_un (by decide)]; exact a1
  · show _; rw [show ((0 : Int32).toNatClampNeg) = 0 by decide]; rw [pk_un (by decide)]; exact a6
  · show _; rw [show ((0 : Int32).toNatClampNeg) = 0 by decide]; rw [pk_un (by decide)]; exact a9
  · show _; rw [show ((0 : Int32).toNatClampNeg) = 0 by decide]; rw [pk_un (by decide)]; exact a10
  · show _; rw [show ((0 : Int32).toNatClampNeg) = 0 by decide]; rw [pk_un (by decide)]; exact a7
  · rw [show ((0 : Int32).toNatClampNeg) = 0 by decide]
    by_cases q : j = 0
    · subst q; unfold RAi; omega
    · rw [pk_un q]; exact hA j hj
theorem AK.s1 (h : AK c0 c1 c6 c9 c10 f) (hv : 0 ≤ v.toInt ∧ v.toInt ≤ 4) : AK c0 (v : Int32).toInt c6 c9 c10 (upd f (1 : Int32).toNatClampNeg v) := by
  obtain ⟨h0, a0, a1, a6, a9, a10, a7, hA⟩ := h
  refine ⟨⟨h0.1, hv, h0.2.2.1, h0.2.2.2.1, h0.2.2.2.2⟩, ?_, ?_, ?_, ?_, ?_, ?_, fun j hj => ?_⟩
  · show _; rw [show ((1 : Int32).toNatClampNeg) = 1 by decide]; rw [pk_un (by decide)]; exact a0
  · show _; rw [show ((1 : Int32).toNatClampNeg) = 1 by decide]; rw [pk_us]
  · show _; rw [show ((1 : Int32).toNatClampNeg) = 1 by decide]; rw [pk_un (by decide)]; exact a6
  · show _; rw [show ((1 : Int32).toNatClampNeg) = 1 by decide]; rw [pk_un (by decide)]; exact a9
  · show _; rw [show ((1 : Int32).toNatClampNeg) = 1 by decide]; rw [pk_un (by decide)]; exact a10
  · show _; rw [show ((1 : Int32).toNatClampNeg) = 1 by decide]; rw [pk_un (by decide)]; exact a7
  · rw [show ((1 : Int32).toNatClampNeg) = 1 by decide]
    by_cases q : j = 1
    · subst q; unfold RAi; omega
    · rw [pk_un q]; exact hA j hj
theorem AK.s9 (h : AK c0 c1 c6 c9 c10 f) (hv : 0 ≤ v.toInt ∧ v.toInt ≤ 6) : AK c0 c1 c6 (v : Int32).toInt c10 (upd f (9 : Int32).toNatClampNeg v) := by
  obtain ⟨h0, a0, a1, a6, a9, a10, a7, hA⟩ := h
  refine ⟨⟨h0.1, h0.2.1, h0.2.2.1, hv, h0.2.2.2.2⟩, ?_, ?_, ?_, ?_, ?_, ?_, fun j hj => ?_⟩
  · show _; rw [show ((9 : Int32).toNatClampNeg) = 9 by decide]; rw [pk_un (by decide)]; exact a0
  · show _; rw [show ((9 : Int32).toNatClampNeg) = 9 by decide]; rw [pk_un (by decide)]; exact a1
  · show _; rw [show ((9 : Int32).toNatClampNeg) = 9 by decide]; rw [pk_un (by decide)]; exact a6
  · show _; rw [show ((9 : Int32).toNatClampNeg) = 9 by decide]; rw [pk_us]
  · show _; rw [show ((9 : Int32).toNatClampNeg) = 9 by decide]; rw [pk_un (by decide)]; exact a10
  · show _; rw [show ((9 : Int32).toNatClampNeg) = 9 by decide]; rw [pk_un (by decide)]; exact a7
  · rw [show ((9 : Int32).toNatClampNeg) = 9 by decide]
    by_cases q : j = 9
    · subst q; unfold RAi; omega
    · rw [pk_un q]; exact hA j hj
theorem AK.s10 (h : AK c0 c1 c6 c9 c10 f) (hv : 0 ≤ v.toInt ∧ v.toInt ≤ 10) : AK c0 c1 c6 c9 (v : Int32).toInt (upd f (10 : Int32).toNatClampNeg v) := by
  obtain ⟨h0, a0, a1, a6, a9, a10, a7, hA⟩ := h
  refine ⟨⟨h0.1, h0.2.1, h0.2.2.1, h0.2.2.2.1, hv⟩, ?_, ?_, ?_, ?_, ?_, ?_, fun j hj => ?_⟩
  · show _; rw [show ((10 : Int32).toNatClampNeg) = 10 by decide]; rw [pk_un (by decide)]; exact a0
  · show _; rw [show ((10 : Int32).toNatClampNeg) = 10 by decide]; rw [pk_un (by decide)]; exact a1
  · show _; rw [show ((10 : Int32).toNatClampNeg) = 10 by decide]; rw [pk_un (by decide)]; exact a6
  · show _; rw [show ((10 : Int32).toNatClampNeg) = 10 by decide]; rw [pk_un (by decide)]; exact a9
  · show _; rw [show ((10 : Int32).toNatClampNeg) = 10 by decide]; rw [pk_us]
  · show _; rw [show ((10 : Int32).toNatClampNeg) = 10 by decide]; rw [pk_un (by decide)]; exact a7
  · rw [show ((10 : Int32).toNatClampNeg) = 10 by decide]
    by_cases q : j = 10
    · subst q; unfold RAi; omega
    · rw [pk_un q]; exact hA j hj
theorem AK.s6 (h : AK c0 c1 c6 c9 c10 f) (hv : c6 ≤ v.toInt ∧ v.toInt ≤ 4) : AK c0 c1 (v : Int32).toInt c9 c10 (upd f (6 : Int32).toNatClampNeg v) := by
  obtain ⟨h0, a0, a1, a6, a9, a10, a7, hA⟩ := h
  refine ⟨⟨h0.1, h0.2.1, by omega, h0.2.2.2.1, h0.2.2.2.2⟩, ?_, ?_, ?_, ?_, ?_, ?_, fun j hj => ?_⟩
  · rw [show ((6 : Int32).toNatClampNeg) = 6 by decide]; rw [pk_un (by decide)]; exact a0
  · rw [show ((6 : Int32).toNatClampNeg) = 6 by decide]; rw [pk_un (by decide)]; exact a1
  · rw [show ((6 : Int32).toNatClampNeg) = 6 by decide]; rw [pk_us]
  · rw [show ((6 : Int32).toNatClampNeg) = 6 by decide]; rw [pk_un (by decide)]; exact a9
  · rw [show ((6 : Int32).toNatClampNeg) = 6 by decide]; rw [pk_un (by decide)]; exact a10
  · rw [show ((6 : Int32).toNatClampNeg) = 6 by decide, pk_un (by decide)]; omega
  · rw [show ((6 : Int32).toNatClampNeg) = 6 by decide]
    by_cases q : j = 6
    · subst q; unfold RAi; omega
    · rw [pk_un q]; exact hA j hj
theorem AK.s7 (h : AK c0 c1 c6 c9 c10 f) (hv : -1 ≤ v.toInt ∧ v.toInt < c6) : AK c0 c1 c6 c9 c10 (upd f (7 : Int32).toNatClampNeg v) := by
  obtain ⟨h0, a0, a1, a6, a9, a10, a7, hA⟩ := h
  refine ⟨h0, ?_, ?_, ?_, ?_, ?_, ?_, fun j hj => ?_⟩
  · rw [show ((7 : Int32).toNatClampNeg) = 7 by decide]; rw [pk_un (by decide)]; exact a0
  · rw [show ((7 : Int32).toNatClampNeg) = 7 by decide]; rw [pk_un (by decide)]; exact a1
  · rw [show ((7 : Int32).toNatClampNeg) = 7 by decide]; rw [pk_un (by decide)]; exact a6
  · rw [show ((7 : Int32).toNatClampNeg) = 7 by decide]; rw [pk_un (by decide)]; exact a9
  · rw [show ((7 : Int32).toNatClampNeg) = 7 by decide]; rw [pk_un (by decide)]; exact a10
  · rw [show ((7 : Int32).toNatClampNeg) = 7 by decide]; rw [pk_us]; exact hv
  · rw [show ((7 : Int32).toNatClampNeg) = 7 by decide]
    by_cases q : j = 7
    · subst q; unfold RAi; omega
    · rw [pk_un q]; exact hA j hj
theorem AK.ext {g : Nat → Int32} (h : AK c0 c1 c6 c9 c10 f) (e : ∀ j, j < 862 → g j = f j) : AK c0 c1 c6 c9 c10 g := by
  obtain ⟨h0, a0, a1, a6, a9, a10, a7, hA⟩ := h
  refine ⟨h0, ?_, ?_, ?_, ?_, ?_, ?_, fun j hj => ?_⟩
  · rw [e 0 (by decide)]; exact a0
  · rw [e 1 (by decide)]; exact a1
  · rw [e 6 (by decide)]; exact a6
  · rw [e 9 (by decide)]; exact a9
  · rw [e 10 (by decide)]; exact a10
  · rw [e 7 (by decide)]; exact a7
  · rw [e j hj]; exact hA j hj
/-- a step's record goes one place down -/
theorem RAi.down {i : Int} (h : RAi (i + 16) v) (hi : 382 ≤ i) : RAi i v := by
  unfold RAi at h ⊢
  have e : (i + 16 - 382) % 16 = (i - 382) % 16 := by omega
  obtain ⟨-, -, -, -, -, -, -, -, -, b1, b2, b3⟩ := h
  rw [e] at b1 b2 b3
  refine ⟨by omega, by omega, by omega, by omega, by omega, by omega, by omega, by omega, by omega, fun h => b1 (by omega), fun h => b2 (by omega), fun h => b3 (by omega)⟩
end ZAK
def NK (f : Nat → Int32) : Prop := (0 ≤ (f 1).toInt ∧ (f 1).toInt ≤ 99) ∧ (0 ≤ (f 2).toInt ∧ (f 2).toInt ≤ 99) ∧ (0 ≤ (f 4).toInt ∧ (f 4).toInt ≤ 9)
theorem NK.l1 {f : Nat → Int32} (h : NK f) : 0 ≤ (f (1 : Int32).toNatClampNeg).toInt ∧ (f (1 : Int32).toNatClampNeg).toInt ≤ 99 := h.1
theorem NK.l2 {f : Nat → Int32} (h : NK f) : 0 ≤ (f (2 : Int32).toNatClampNeg).toInt ∧ (f (2 : Int32).toNatClampNeg).toInt ≤ 99 := h.2.1
theorem NK.l4 {f : Nat → Int32} (h : NK f) : 0 ≤ (f (4 : Int32).toNatClampNeg).toInt ∧ (f (4 : Int32).toNatClampNeg).toInt ≤ 9 := h.2.2
theorem NK.st {f : Nat → Int32} {k : Nat} {v : Int32} (h : NK f) (hk : k ≠ 1 ∧ k ≠ 2 ∧ k ≠ 4) : NK (upd f k v) := by
  obtain ⟨h1, h2, h4⟩ := h
  refine ⟨?_, ?_, ?_⟩
  · rw [pk_un (Ne.symm hk.1)]; exact h1
  · rw [pk_un (Ne.symm hk.2.1)]; exact h2
  · rw [pk_un (Ne.symm hk.2.2)]; exact h4
theorem NK.s1 {f : Nat → Int32} {v : Int32} (h : NK f) (hv : 0 ≤ v.toInt ∧ v.toInt ≤ 99) : NK (upd f (1 : Int32).toNatClampNeg v) := by
  rw [show (1 : Int32).toNatClampNeg = 1 by decide]
  exact ⟨by rw [pk_us]; exact hv, by rw [pk_un (by decide)]; exact h.2.1, by rw [pk_un (by decide)]; exact h.2.2⟩
theorem NK.s2 {f : Nat → Int32} {v : Int32} (h : NK f) (hv : 0 ≤ v.toInt ∧ v.toInt ≤ 99) : NK (upd f (2 : Int32).toNatClampNeg v) := by
  rw [show (2 : Int32).toNatClampNeg = 2 by decide]
  exact ⟨by rw [pk_un (by decide)]; exact h.1, by rw [pk_us]; exact hv, by rw [pk_un (by decide)]; exact h.2.2⟩
theorem NK.s4 {f : Nat → Int32} {v : Int32} (h : NK f) (hv : 0 ≤ v.toInt ∧ v.toInt ≤ 9) : NK (upd f (4 : Int32).toNatClampNeg v) := by
  rw [show (4 : Int32).toNatClampNeg = 4 by decide]
  exact ⟨by rw [pk_un (by decide)]; exact h.1, by rw [pk_un (by decide)]; exact h.2.1, by rw [pk_us]; exact hv⟩
theorem btw {v : Int64} {t : Int32} (h1 : 0 ≤ lg_cmp v 0) (h2 : lg_cmp v t.toInt64 ≤ 0) : 0 ≤ v.toInt32.toInt ∧ v.toInt32.toInt ≤ t.toInt := by
  have a1 := (lg_cmp_ge v 0).mp h1
  have a2 := (lg_cmp_le v t.toInt64).mp h2
  rw [Int64.le_iff_toInt_le] at a1 a2
  rw [Int32.toInt_toInt64] at a2
  rw [Int64.toInt_zero] at a1
  have a3 : t.toInt < 2147483648 := Int32.toInt_lt t
  rw [Int64.toInt_toInt32, Int.bmod_eq_of_le (by omega) (by omega)]
  exact ⟨a1, a2⟩
/-! ===== the code of a law: a good program for two piles ===== -/
def StI (o v : Int32) (n b n2 b2 : Int) : Prop := (o.toInt = 0 ∧ n2 = n + 1 ∧ b2 = b) ∨ (o.toInt = 1 ∧ 0 ≤ v.toInt ∧ v.toInt ≤ 7 ∧ n2 = n + 1 ∧ b2 = b) ∨ (o.toInt = 2 ∧ 1 ≤ n ∧ n2 = n ∧ b2 = b) ∨ (3 ≤ o.toInt ∧ o.toInt ≤ 6 ∧ 2 ≤ n ∧ n2 + 1 = n ∧ b2 = b) ∨ (10 ≤ o.toInt ∧ o.toInt ≤ 15 ∧ 2 ≤ n ∧ n2 + 2 = n ∧ b2 = b + 1) ∨ (o.toInt = 20 ∧ 1 ≤ b ∧ n2 = n ∧ b2 = b) ∨ (o.toInt = 23 ∧ 2 ≤ n ∧ 1 ≤ b ∧ n2 + 1 = n ∧ b2 + 1 = b) ∨ (21 ≤ o.toInt ∧ o.toInt ≤ 22 ∧ 2 ≤ b ∧ n2 = n ∧ b2 + 1 = b)
def Good (t : Nat → Int32) (c F T : Nat) (N B : Nat → Int) : Prop := N F = 0 ∧ B F = 0 ∧ ∀ i, F ≤ i → i < T → StI (t (c + 2 * i)) (t (c + 2 * i + 1)) (N i) (B i) (N (i + 1)) (B (i + 1))
def ClauseOK (t : Nat → Int32) (k n : Nat) : Prop := ∃ (F T : Nat) (N B : Nat → Int), (t (680 * k + 1 + 3 * n + 1)).toInt = (F : Int) ∧ (t (680 * k + 1 + 3 * n + 2)).toInt = (T : Int) ∧ F ≤ T ∧ T ≤ 301 ∧ Good t (680 * k + 75) F T N B
def TextOK (t : Nat → Int32) (k : Nat) : Prop := (0 ≤ (t (680 * k)).toInt ∧ (t (680 * k)).toInt ≤ 24) ∧ ∀ n : Nat, (n : Int) < (t (680 * k)).toInt → (t (680 * k + 1 + 3 * n)).toInt ≤ 2 → ClauseOK t k n
def TOK (c6 : Int) (t : Nat → Int32) : Prop := ∀ k : Nat, (k : Int) < c6 → TextOK t k

set_option maxHeartbeats 4000000 in
set_option maxRecDepth 100000 in
theorem c_X12_isHorse (l : Launch) (D : va_G) (cI cM cT cJ cZ : ClassId) (q : Nat) (p0 : Int32) (aA : Nat) (aI : Nat) (xT : Nat) (tP_ : Nat) (td : Int32) (fu : Int32) (fp : Int32) (at_ : Int32) (plc : Int32) (tok : Int32) (num : Int32) (wrd : Int64) (tx0 : Int32) (cls : Int32) (wri : Int32) (cam : Int32) (pI : Nat) (pid : Int32) (ope : Int32) (isw : Int32) (so0 : Int32) (onc : Int32) (nm : Nat) (vL : Nat) (tR : Nat) (spp : Int32) (eat : Int32) (ste : Int32) (rW : Nat) (sP : Nat) (oT : Nat) (bS : Nat) (aS : Nat) (aO : Nat) (cS : Nat) (wY : Nat) (fa : Nat → Int32) (kc0 : Int) (kc1 : Int) (kc6 : Int) (kc9 : Int) (kc10 : Int) (hi_td : 0 ≤ td.toInt ∧ td.toInt ≤ 300) (hi_spp : 0 ≤ spp.toInt ∧ spp.toInt ≤ 299) (hr_fa : AK kc0 kc1 kc6 kc9 kc10 fa) : Ci l D (ty3 cI cM cT cJ cZ) yX12_isHorse cX12_isHorse 2 (some .boolean) 1 0 0 [.ref q, .int p0] ([(q, .inr (12, [.ref aA, .ref aI, .ref xT, .ref tP_, .int td, .int fu, .int fp, .int at_, .int plc, .int tok, .int num, .long wrd, .int tx0, .int cls, .int wri, .int cam, .ref pI, .int pid, .int ope, .int isw, .int so0, .int onc, .ref nm, .ref vL, .ref tR, .int spp, .int eat, .int ste, .ref rW, .ref sP, .ref oT, .ref bS, .ref aS, .ref aO, .ref cS, .ref wY])), (aA, .inl (cI, 862, .inl fa))]) (fun r u => r = (if 0 ≤ p0.toInt ∧ p0.toInt < kc0 then 1 else 0) ∧ u = [(q, .inr (12, [.ref aA, .ref aI, .ref xT, .ref tP_, .int td, .int fu, .int fp, .int at_, .int plc, .int tok, .int num, .long wrd, .int tx0, .int cls, .int wri, .int cam, .ref pI, .int pid, .int ope, .int isw, .int so0, .int onc, .ref nm, .ref vL, .ref tR, .int spp, .int eat, .int ste, .ref rW, .ref sP, .ref oT, .ref bS, .ref aS, .ref aO, .ref cS, .ref wY])), (aA, .inl (cI, 862, .inl fa))]) := by
  refine Ci.of (by decide +kernel) (Nat.le_of_ble_eq_true rfl) ?_
  intro p e s m below meth c A ls Z hin hP hD hl
  have hx := Z.1
  have hb := Z.2.1
  have hS : va_S A s.heap s.heap [] := va_S.rf
  have hl : lv_has ls 2 [(0, .ref q), (1, .int p0)] := hl
  skip
  have hk_fa := AK.rng hr_fa
  refine lv_iload_n hx hb dX12_isHorse_0 rfl (lv_at hl 1 rfl) ?_
  refine lv_iconst (v := 0) hx hb dX12_isHorse_1 (by decide) ?_
  refine lv_aload_n hx hb dX12_isHorse_2 rfl (lv_at hl 0 rfl) ?_
  refine z_get Z i_X12 hP 0 rfl rfl 0 (by decide) bw_1019 rfl dX12_isHorse_3 ?_
  refine lv_iconst (v := 0) hx hb dX12_isHorse_6 (by decide) ?_
  refine z_iald Z hP 1 0 rfl rfl (vin (by decide)) dX12_isHorse_7 ?_
  refine lv_topi (fun z1 ez1 => ?_)
  have hz1 : z1.toInt = kc0 := by rw [ez1]; exact AK.k0 hr_fa
  refine lv_iconst (v := 1) hx hb dX12_isHorse_8 (by decide) ?_
  refine lv_isub hx hb dX12_isHorse_9 ?_
  refine lv_topi (fun z2 ez2 => ?_)
  have hz2 : z2.toInt = z1.toInt - 1 := by rw [ez2]; exact zsubg (by first | with_reducible assumption | ((try simp only [zlt, zle, zeq, zl_0, zl_1, zl_2, zl_3, zl_4, zl_5, zl_6, zl_7, zl_8, zl_9, zl_10, zl_11, zl_12, zl_13, zl_14, zl_15, zl_16, zl_17, zl_18, zl_19, zl_20, zl_21, zl_22, zl_23, zl_24, zl_25, zl_26, zl_27, zl_28, zl_29, zl_30, zl_31, zl_32, zl_33, zl_34, zl_35, zl_36, zl_37, zl_38, zl_39, zl_40, zl_41, zl_42, zl_43, zl_44, zl_45, zl_46, zl_47, zl_48, zl_49, zl_50, zl_51, zl_52, zl_53, zl_54, zl_55, zl_56, zl_57, zl_58, zl_59, zl_60, zl_61, zl_62, zl_63, zl_64, zl_65, zl_82, zl_99, zl_100, zl_160, zl_299, zl_300, zl_301, zl_382, zl_398, zl_399, zl_464, zl_680, zl_862, zl_999, zl_1000, zl_9999, zl_10000, zl_1000000, zl_m1, zl_m2, zl_m3, zl_m8, zl_87, zl_88] at hi_td hi_spp hk_fa hz1 ⊢); omega)) (by first | with_reducible assumption | ((try simp only [zlt, zle, zeq, zl_0, zl_1, zl_2, zl_3, zl_4, zl_5, zl_6, zl_7, zl_8, zl_9, zl_10, zl_11, zl_12, zl_13, zl_14, zl_15, zl_16, zl_17, zl_18, zl_19, zl_20, zl_21, zl_22, zl_23, zl_24, zl_25, zl_26, zl_27, zl_28, zl_29, zl_30, zl_31, zl_32, zl_33, zl_34, zl_35, zl_36, zl_37, zl_38, zl_39, zl_40, zl_41, zl_42, zl_43, zl_44, zl_45, zl_46, zl_47, zl_48, zl_49, zl_50, zl_51, zl_52, zl_53, zl_54, zl_55, zl_56, zl_57, zl_58, zl_59, zl_60, zl_61, zl_62, zl_63, zl_64, zl_65, zl_82, zl_99, zl_100, zl_160, zl_299, zl_300, zl_301, zl_382, zl_398, zl_399, zl_464, zl_680, zl_862, zl_999, zl_1000, zl_9999, zl_10000, zl_1000000, zl_m1, zl_m2, zl_m3, zl_m8, zl_87, zl_88] at hi_td hi_spp hk_fa hz1 ⊢); omega))
  have hPc := hP.sub2 (wc := []) [] rfl
  have hDc := hD.sub (ws' := []) [] (by decide) rfl
  refine raw_Si (nA := 3) (As := [.int p0, .int 0, .int z2]) (rest := []) Z hl.1 (c_X12_isIn l D cI cM cT cJ cZ p0 0 z2) (bw_S bw_1135 bw_1136 bw_92 bw_1137) ⟨by decide +kernel, by decide +kernel, by decide +kernel⟩ rfl ⟨Nat.le_of_ble_eq_true rfl, Nat.le_of_ble_eq_true rfl⟩ hPc hDc hS rfl (Nat.le_of_ble_eq_true rfl) dX12_isHorse_10 ⟨Nat.le_of_ble_eq_true rfl, Nat.le_of_ble_eq_true rfl⟩ (fun r4 u3 H1 locs1 h5 hku3 hP1 hD1 hS1 => ?_)
  obtain ⟨hrh5, rfl⟩ := h5
  obtain ⟨hP, hD⟩ := z_join (wr := [(q, .inr (12, [.ref aA, .ref aI, .ref xT, .ref tP_, .int td, .int fu, .int fp, .int at_, .int plc, .int tok, .int num, .long wrd, .int tx0, .int cls, .int wri, .int cam, .ref pI, .int pid, .int ope, .int isw, .int so0, .int onc, .ref nm, .ref vL, .ref tR, .int spp, .int eat, .int ste, .ref rW, .ref sP, .ref oT, .ref bS, .ref aS, .ref aO, .ref cS, .ref wY])), (aA, .inl (cI, 862, .inl fa))]) Z hS hP hD [] [0, 1] rfl (by decide) rfl (by decide) (by decide) hku3 hP1 hD1
  have hS := hS1
  clear hS1
  generalize H1 = H at hP hS ⊢
  generalize locs1 = locs at hS ⊢
  have hP : va_P D vwCl ([(q, .inr (12, [.ref aA, .ref aI, .ref xT, .ref tP_, .int td, .int fu, .int fp, .int at_, .int plc, .int tok, .int num, .long wrd, .int tx0, .int cls, .int wri, .int cam, .ref pI, .int pid, .int ope, .int isw, .int so0, .int onc, .ref nm, .ref vL, .ref tR, .int spp, .int eat, .int ste, .ref rW, .ref sP, .ref oT, .ref bS, .ref aS, .ref aO, .ref cS, .ref wY])), (aA, .inl (cI, 862, .inl fa))]) H := hP
  have hD : va_D A ([(q, .inr (12, [.ref aA, .ref aI, .ref xT, .ref tP_, .int td, .int fu, .int fp, .int at_, .int plc, .int tok, .int num, .long wrd, .int tx0, .int cls, .int wri, .int cam, .ref pI, .int pid, .int ope, .int isw, .int so0, .int onc, .ref nm, .ref vL, .ref tR, .int spp, .int eat, .int ste, .ref rW, .ref sP, .ref oT, .ref bS, .ref aS, .ref aO, .ref cS, .ref wY])), (aA, .inl (cI, 862, .inl fa))]) := hD
  by_cases c6 : 0 ≤ p0 ∧ p0 ≤ z2
  · obtain rfl : r4 = 1 := by rw [hrh5, if_pos c6]
    exact z_ret Z rfl hP hD hS (⟨(if_pos (by first | with_reducible assumption | ((try simp only [zlt, zle, zeq, zl_0, zl_1, zl_2, zl_3, zl_4, zl_5, zl_6, zl_7, zl_8, zl_9, zl_10, zl_11, zl_12, zl_13, zl_14, zl_15, zl_16, zl_17, zl_18, zl_19, zl_20, zl_21, zl_22, zl_23, zl_24, zl_25, zl_26, zl_27, zl_28, zl_29, zl_30, zl_31, zl_32, zl_33, zl_34, zl_35, zl_36, zl_37, zl_38, zl_39, zl_40, zl_41, zl_42, zl_43, zl_44, zl_45, zl_46, zl_47, zl_48, zl_49, zl_50, zl_51, zl_52, zl_53, zl_54, zl_55, zl_56, zl_57, zl_58, zl_59, zl_60, zl_61, zl_62, zl_63, zl_64, zl_65, zl_82, zl_99, zl_100, zl_160, zl_299, zl_300, zl_301, zl_382, zl_398, zl_399, zl_464, zl_680, zl_862, zl_999, zl_1000, zl_9999, zl_10000, zl_1000000, zl_m1, zl_m2, zl_m3, zl_m8, zl_87, zl_88] at hi_td hi_spp hk_fa hz1 hz2 c6 ⊢); omega))).symm, rfl⟩) dX12_isHorse_13 (Nat.le_of_ble_eq_true rfl) (Nat.le_of_ble_eq_true rfl)
  · obtain rfl : r4 = 0 := by rw [hrh5, if_neg c6]
    exact z_ret Z rfl hP hD hS (⟨(if_neg (by first | with_reducible assumption | ((try simp only [zlt, zle, zeq, zl_0, zl_1, zl_2, zl_3, zl_4, zl_5, zl_6, zl_7, zl_8, zl_9, zl_10, zl_11, zl_12, zl_13, zl_14, zl_15, zl_16, zl_17, zl_18, zl_19, zl_20, zl_21, zl_22, zl_23, zl_24, zl_25, zl_26, zl_27, zl_28, zl_29, zl_30, zl_31, zl_32, zl_33, zl_34, zl_35, zl_36, zl_37, zl_38, zl_39, zl_40, zl_41, zl_42, zl_43, zl_44, zl_45, zl_46, zl_47, zl_48, zl_49, zl_50, zl_51, zl_52, zl_53, zl_54, zl_55, zl_56, zl_57, zl_58, zl_59, zl_60, zl_61, zl_62, zl_63, zl_64, zl_65, zl_82, zl_99, zl_100, zl_160, zl_299, zl_300, zl_301, zl_382, zl_398, zl_399, zl_464, zl_680, zl_862, zl_999, zl_1000, zl_9999, zl_10000, zl_1000000, zl_m1, zl_m2, zl_m3, zl_m8, zl_87, zl_88] at hi_td hi_spp hk_fa hz1 hz2 c6 ⊢); omega))).symm, rfl⟩) dX12_isHorse_13 (Nat.le_of_ble_eq_true rfl) (Nat.le_of_ble_eq_true rfl)
set_option maxHeartbeats 4000000 in
set_option maxRecDepth 100000 in
theorem lp_X12_mud {p : Program} (l : Launch) {e : Env} {s : State} {m : MethodId} {below : List Frame} {meth : Method} {c : Code} {A : Nat → Prop} (D : va_G) (cI cM cT cJ cZ : ClassId) (q : Nat) (p0 : Int32) (p1 : Int32) (p2 : Int32) (aA : Nat) (aI : Nat) (xT : Nat) (tP_ : Nat) (td : Int32) (fu : Int32) (fp : Int32) (at_ : Int32) (plc : Int32) (tok : Int32) (num : Int32) (wrd : Int64) (tx0 : Int32) (cls : Int32) (wri : Int32) (cam : Int32) (pI : Nat) (pid : Int32) (ope : Int32) (isw : Int32) (so0 : Int32) (onc : Int32) (nm : Nat) (vL : Nat) (tR : Nat) (spp : Int32) (eat : Int32) (ste : Int32) (rW : Nat) (sP : Nat) (oT : Nat) (bS : Nat) (aS : Nat) (aO : Nat) (cS : Nat) (wY : Nat) (fa : Nat → Int32) (kc0 : Int) (kc1 : Int) (kc6 : Int) (kc9 : Int) (kc10 : Int) (Z : Zx p s m ([.ref q, .int p0, .int p1, .int p2] : List Value).toArray meth c cX12_mud 5 (some .boolean) yX12_mud.cls A (ty3 cI cM cT cJ cZ) D) (hi_td : 0 ≤ td.toInt ∧ td.toInt ≤ 300) (hi_spp : 0 ≤ spp.toInt ∧ spp.toInt ≤ 299) (hr_fa : AK kc0 kc1 kc6 kc9 kc10 fa) (hc : (0 ≤ p0.toInt ∧ p0.toInt ≤ 299) ∧ (0 ≤ p1.toInt ∧ p1.toInt ≤ 299) ∧ p0.toInt ≤ p1.toInt ∧ (0 ≤ p2.toInt ∧ p2.toInt ≤ 9)) : ∀ (n0 : Nat) (j : Int32) (vfa : Nat → Int32) (h0 : 0 ≤ j.toInt ∧ j.toInt ≤ 300) (hv_fa : AK kc0 kc1 kc6 kc9 kc10 vfa), (300 - j.toInt).toNat < n0 → ∀ (H : Heap) (locs : List Loc) (ls : Array Slot), va_P D vwCl ([(q, .inr (12, [.ref aA, .ref aI, .ref xT, .ref tP_, .int td, .int fu, .int fp, .int at_, .int plc, .int tok, .int num, .long wrd, .int tx0, .int cls, .int wri, .int cam, .ref pI, .int pid, .int ope, .int isw, .int so0, .int onc, .ref nm, .ref vL, .ref tR, .int spp, .int eat, .int ste, .ref rW, .ref sP, .ref oT, .ref bS, .ref aS, .ref aO, .ref cS, .ref wY])), (aA, .inl (cI, 862, .inl vfa))]) H → va_D A ([(q, .inr (12, [.ref aA, .ref aI, .ref xT, .ref tP_, .int td, .int fu, .int fp, .int at_, .int plc, .int tok, .int num, .long wrd, .int tx0, .int cls, .int wri, .int cam, .ref pI, .int pid, .int ope, .int isw, .int so0, .int onc, .ref nm, .ref vL, .ref tR, .int spp, .int eat, .int ste, .ref rW, .ref sP, .ref oT, .ref bS, .ref aS, .ref aO, .ref cS, .ref wY])), (aA, .inl (cI, 862, .inl vfa))]) → va_S A s.heap H locs → lv_has ls 5 [(0, .ref q), (1, .int p0), (2, .int p1), (3, .int p2), (4, .int j)] → W p l e (rmv 2 0 0) s m ([.ref q, .int p0, .int p1, .int p2] : List Value).toArray below meth c H locs 0 0 (MQ below (va_Qi (fun r u => ∃ (fa_n : Nat → Int32), (0 ≤ r.toInt ∧ r.toInt ≤ 1) ∧ u = [(q, .inr (12, [.ref aA, .ref aI, .ref xT, .ref tP_, .int td, .int fu, .int fp, .int at_, .int plc, .int tok, .int num, .long wrd, .int tx0, .int cls, .int wri, .int cam, .ref pI, .int pid, .int ope, .int isw, .int so0, .int onc, .ref nm, .ref vL, .ref tR, .int spp, .int eat, .int ste, .ref rW, .ref sP, .ref oT, .ref bS, .ref aS, .ref aO, .ref cS, .ref wY])), (aA, .inl (cI, 862, .inl fa_n))] ∧ AK kc0 kc1 kc6 kc9 kc10 fa_n ∧ ((((0 ≤ p0.toInt ∧ p0.toInt ≤ 299) ∧ (0 ≤ p1.toInt ∧ p1.toInt ≤ 299) ∧ p0.toInt ≤ p1.toInt ∧ (0 ≤ p2.toInt ∧ p2.toInt ≤ 9)) ∧ r.toInt = 1) ∨ (¬ ((0 ≤ p0.toInt ∧ p0.toInt ≤ 299) ∧ (0 ≤ p1.toInt ∧ p1.toInt ≤ 299) ∧ p0.toInt ≤ p1.toInt ∧ (0 ≤ p2.toInt ∧ p2.toInt ≤ 9)) ∧ r.toInt = 0))) (cB D (ty3 cI cM cT cJ cZ) A) A) ([.ref q, .int p0, .int p1, .int p2] : List Value).toArray s 0 0 A) (F0 m 34 ls []) := by
  have hx := Z.1
  have hb := Z.2.1
  intro n0
  induction n0 with
  | zero => intro j vfa h0 hv_fa hm; exact absurd hm (Nat.not_lt_zero _)
  | succ n0 ih =>
    intro j vfa h0 hv_fa hm H locs ls hP hD hS hl
    have hk_fa := AK.rng hr_fa
    refine lv_iload hx hb dX12_mud_34 (lv_at hl 4 rfl) ?_
    refine lv_iload_n hx hb dX12_mud_36 rfl (lv_at hl 2 rfl) ?_
    refine lv_icmp_gt (tgt := 57) hx hb dX12_mud_37 (by decide) (fun c1 => ?_) (fun c1 => ?_)
    · refine lv_iconst (v := 1) hx hb dX12_mud_57 (by decide) ?_
      exact z_ret Z rfl hP hD hS (⟨vfa, (by decide), rfl, hv_fa, (by (try simp only [zlt, zle, zeq, zl_0, zl_1, zl_2, zl_3, zl_4, zl_5, zl_6, zl_7, zl_8, zl_9, zl_10, zl_11, zl_12, zl_13, zl_14, zl_15, zl_16, zl_17, zl_18, zl_19, zl_20, zl_21, zl_22, zl_23, zl_24, zl_25, zl_26, zl_27, zl_28, zl_29, zl_30, zl_31, zl_32, zl_33, zl_34, zl_35, zl_36, zl_37, zl_38, zl_39, zl_40, zl_41, zl_42, zl_43, zl_44, zl_45, zl_46, zl_47, zl_48, zl_49, zl_50, zl_51, zl_52, zl_53, zl_54, zl_55, zl_56, zl_57, zl_58, zl_59, zl_60, zl_61, zl_62, zl_63, zl_64, zl_65, zl_82, zl_99, zl_100, zl_160, zl_299, zl_300, zl_301, zl_382, zl_398, zl_399, zl_464, zl_680, zl_862, zl_999, zl_1000, zl_9999, zl_10000, zl_1000000, zl_m1, zl_m2, zl_m3, zl_m8, zl_87, zl_88, and_true, true_and, and_false, false_and, or_false, false_or, or_true, true_or, not_true_eq_false, not_false_eq_true] at hi_td hi_spp hk_fa h0 hm hc c1 ⊢) <;> omega)⟩) dX12_mud_58 (Nat.le_of_ble_eq_true rfl) (Nat.le_of_ble_eq_true rfl)
    · refine lv_aload_n hx hb dX12_mud_40 rfl (lv_at hl 0 rfl) ?_
      refine z_get Z i_X12 hP 0 rfl rfl 0 (by decide) bw_1019 rfl dX12_mud_41 ?_
      refine lv_bipush (v := 82) hx hb dX12_mud_44 (by decide) ?_
      refine lv_iload hx hb dX12_mud_46 (lv_at hl 4 rfl) ?_
      refine lv_iadd hx hb dX12_mud_48 ?_
      refine lv_topi (fun z2 ez2 => ?_)
      have hz2 : z2.toInt = 82 + j.toInt := by rw [ez2]; exact zaddg (by first | with_reducible assumption | ((try simp only [zlt, zle, zeq, zl_0, zl_1, zl_2, zl_3, zl_4, zl_5, zl_6, zl_7, zl_8, zl_9, zl_10, zl_11, zl_12, zl_13, zl_14, zl_15, zl_16, zl_17, zl_18, zl_19, zl_20, zl_21, zl_22, zl_23, zl_24, zl_25, zl_26, zl_27, zl_28, zl_29, zl_30, zl_31, zl_32, zl_33, zl_34, zl_35, zl_36, zl_37, zl_38, zl_39, zl_40, zl_41, zl_42, zl_43, zl_44, zl_45, zl_46, zl_47, zl_48, zl_49, zl_50, zl_51, zl_52, zl_53, zl_54, zl_55, zl_56, zl_57, zl_58, zl_59, zl_60, zl_61, zl_62, zl_63, zl_64, zl_65, zl_82, zl_99, zl_100, zl_160, zl_299, zl_300, zl_301, zl_382, zl_398, zl_399, zl_464, zl_680, zl_862, zl_999, zl_1000, zl_9999, zl_10000, zl_1000000, zl_m1, zl_m2, zl_m3, zl_m8, zl_87, zl_88] at hi_td hi_spp hk_fa h0 hm hc c1 ⊢); omega)) (by first | with_reducible assumption | ((try simp only [zlt, zle, zeq, zl_0, zl_1, zl_2, zl_3, zl_4, zl_5, zl_6, zl_7, zl_8, zl_9, zl_10, zl_11, zl_12, zl_13, zl_14, zl_15, zl_16, zl_17, zl_18, zl_19, zl_20, zl_21, zl_22, zl_23, zl_24, zl_25, zl_26, zl_27, zl_28, zl_29, zl_30, zl_31, zl_32, zl_33, zl_34, zl_35, zl_36, zl_37, zl_38, zl_39, zl_40, zl_41, zl_42, zl_43, zl_44, zl_45, zl_46, zl_47, zl_48, zl_49, zl_50, zl_51, zl_52, zl_53, zl_54, zl_55, zl_56, zl_57, zl_58, zl_59, zl_60, zl_61, zl_62, zl_63, zl_64, zl_65, zl_82, zl_99, zl_100, zl_160, zl_299, zl_300, zl_301, zl_382, zl_398, zl_399, zl_464, zl_680, zl_862, zl_999, zl_1000, zl_9999, zl_10000, zl_1000000, zl_m1, zl_m2, zl_m3, zl_m8, zl_87, zl_88] at hi_td hi_spp hk_fa h0 hm hc c1 ⊢); omega))
      refine lv_iload_n hx hb dX12_mud_49 rfl (lv_at hl 3 rfl) ?_
      refine z_iast Z hP hD hS 1 0 rfl rfl (vp_in_iff.mpr (by first | with_reducible assumption | ((try simp only [zlt, zle, zeq, zl_0, zl_1, zl_2, zl_3, zl_4, zl_5, zl_6, zl_7, zl_8, zl_9, zl_10, zl_11, zl_12, zl_13, zl_14, zl_15, zl_16, zl_17, zl_18, zl_19, zl_20, zl_21, zl_22, zl_23, zl_24, zl_25, zl_26, zl_27, zl_28, zl_29, zl_30, zl_31, zl_32, zl_33, zl_34, zl_35, zl_36, zl_37, zl_38, zl_39, zl_40, zl_41, zl_42, zl_43, zl_44, zl_45, zl_46, zl_47, zl_48, zl_49, zl_50, zl_51, zl_52, zl_53, zl_54, zl_55, zl_56, zl_57, zl_58, zl_59, zl_60, zl_61, zl_62, zl_63, zl_64, zl_65, zl_82, zl_99, zl_100, zl_160, zl_299, zl_300, zl_301, zl_382, zl_398, zl_399, zl_464, zl_680, zl_862, zl_999, zl_1000, zl_9999, zl_10000, zl_1000000, zl_m1, zl_m2, zl_m3, zl_m8, zl_87, zl_88] at hi_td hi_spp hk_fa h0 hm hc c1 hz2 ⊢); omega))) dX12_mud_50 (fun H locs hP hD hS => ?_)
      have hrg3 := AK.st (x := z2) (v := p2) hv_fa (by first | with_reducible assumption | ((try simp only [zlt, zle, zeq, zl_0, zl_1, zl_2, zl_3, zl_4, zl_5, zl_6, zl_7, zl_8, zl_9, zl_10, zl_11, zl_12, zl_13, zl_14, zl_15, zl_16, zl_17, zl_18, zl_19, zl_20, zl_21, zl_22, zl_23, zl_24, zl_25, zl_26, zl_27, zl_28, zl_29, zl_30, zl_31, zl_32, zl_33, zl_34, zl_35, zl_36, zl_37, zl_38, zl_39, zl_40, zl_41, zl_42, zl_43, zl_44, zl_45, zl_46, zl_47, zl_48, zl_49, zl_50, zl_51, zl_52, zl_53, zl_54, zl_55, zl_56, zl_57, zl_58, zl_59, zl_60, zl_61, zl_62, zl_63, zl_64, zl_65, zl_82, zl_99, zl_100, zl_160, zl_299, zl_300, zl_301, zl_382, zl_398, zl_399, zl_464, zl_680, zl_862, zl_999, zl_1000, zl_9999, zl_10000, zl_1000000, zl_m1, zl_m2, zl_m3, zl_m8, zl_87, zl_88] at hi_td hi_spp hk_fa h0 hm hc c1 hz2 ⊢); omega)) (by unfold RAi; (try simp only [zlt, zle, zeq, zl_0, zl_1, zl_2, zl_3, zl_4, zl_5, zl_6, zl_7, zl_8, zl_9, zl_10, zl_11, zl_12, zl_13, zl_14, zl_15, zl_16, zl_17, zl_18, zl_19, zl_20, zl_21, zl_22, zl_23, zl_24, zl_25, zl_26, zl_27, zl_28, zl_29, zl_30, zl_31, zl_32, zl_33, zl_34, zl_35, zl_36, zl_37, zl_38, zl_39, zl_40, zl_41, zl_42, zl_43, zl_44, zl_45, zl_46, zl_47, zl_48, zl_49, zl_50, zl_51, zl_52, zl_53, zl_54, zl_55, zl_56, zl_57, zl_58, zl_59, zl_60, zl_61, zl_62, zl_63, zl_64, zl_65, zl_82, zl_99, zl_100, zl_160, zl_299, zl_300, zl_301, zl_382, zl_398, zl_399, zl_464, zl_680, zl_862, zl_999, zl_1000, zl_9999, zl_10000, zl_1000000, zl_m1, zl_m2, zl_m3, zl_m8, zl_87, zl_88] at hi_td hi_spp hk_fa h0 hm hc c1 hz2 ⊢); omega)
      generalize upd vfa (z2 : Int32).toNatClampNeg p2 = g3 at hP hD hrg3
      have hP : va_P D vwCl ([(q, .inr (12, [.ref aA, .ref aI, .ref xT, .ref tP_, .int td, .int fu, .int fp, .int at_, .int plc, .int tok, .int num, .long wrd, .int tx0, .int cls, .int wri, .int cam, .ref pI, .int pid, .int ope, .int isw, .int so0, .int onc, .ref nm, .ref vL, .ref tR, .int spp, .int eat, .int ste, .ref rW, .ref sP, .ref oT, .ref bS, .ref aS, .ref aO, .ref cS, .ref wY])), (aA, .inl (cI, 862, .inl g3))]) H := hP
      have hD : va_D A ([(q, .inr (12, [.ref aA, .ref aI, .ref xT, .ref tP_, .int td, .int fu, .int fp, .int at_, .int plc, .int tok, .int num, .long wrd, .int tx0, .int cls, .int wri, .int cam, .ref pI, .int pid, .int ope, .int isw, .int so0, .int onc, .ref nm, .ref vL, .ref tR, .int spp, .int eat, .int ste, .ref rW, .ref sP, .ref oT, .ref bS, .ref aS, .ref aO, .ref cS, .ref wY])), (aA, .inl (cI, 862, .inl g3))]) := hD
      obtain ⟨z4, ez4⟩ : ∃ y : Int32, y = j + 1 := ⟨_, rfl⟩
      have hz4 : z4.toInt = j.toInt + 1 := by rw [ez4]; exact zaddg (by first | with_reducible assumption | ((try simp only [zlt, zle, zeq, zl_0, zl_1, zl_2, zl_3, zl_4, zl_5, zl_6, zl_7, zl_8, zl_9, zl_10, zl_11, zl_12, zl_13, zl_14, zl_15, zl_16, zl_17, zl_18, zl_19, zl_20, zl_21, zl_22, zl_23, zl_24, zl_25, zl_26, zl_27, zl_28, zl_29, zl_30, zl_31, zl_32, zl_33, zl_34, zl_35, zl_36, zl_37, zl_38, zl_39, zl_40, zl_41, zl_42, zl_43, zl_44, zl_45, zl_46, zl_47, zl_48, zl_49, zl_50, zl_51, zl_52, zl_53, zl_54, zl_55, zl_56, zl_57, zl_58, zl_59, zl_60, zl_61, zl_62, zl_63, zl_64, zl_65, zl_82, zl_99, zl_100, zl_160, zl_299, zl_300, zl_301, zl_382, zl_398, zl_399, zl_464, zl_680, zl_862, zl_999, zl_1000, zl_9999, zl_10000, zl_1000000, zl_m1, zl_m2, zl_m3, zl_m8, zl_87, zl_88] at hi_td hi_spp hk_fa h0 hm hc c1 hz2 ⊢); omega)) (by first | with_reducible assumption | ((try simp only [zlt, zle, zeq, zl_0, zl_1, zl_2, zl_3, zl_4, zl_5, zl_6, zl_7, zl_8, zl_9, zl_10, zl_11, zl_12, zl_13, zl_14, zl_15, zl_16, zl_17, zl_18, zl_19, zl_20, zl_21, zl_22, zl_23, zl_24, zl_25, zl_26, zl_27, zl_28, zl_29, zl_30, zl_31, zl_32, zl_33, zl_34, zl_35, zl_36, zl_37, zl_38, zl_39, zl_40, zl_41, zl_42, zl_43, zl_44, zl_45, zl_46, zl_47, zl_48, zl_49, zl_50, zl_51, zl_52, zl_53, zl_54, zl_55, zl_56, zl_57, zl_58, zl_59, zl_60, zl_61, zl_62, zl_63, zl_64, zl_65, zl_82, zl_99, zl_100, zl_160, zl_299, zl_300, zl_301, zl_382, zl_398, zl_399, zl_464, zl_680, zl_862, zl_999, zl_1000, zl_9999, zl_10000, zl_1000000, zl_m1, zl_m2, zl_m3, zl_m8, zl_87, zl_88] at hi_td hi_spp hk_fa h0 hm hc c1 hz2 ⊢); omega))
      refine lv_iinc (v := z4) (lv' := [(4, .int z4), (0, .ref q), (1, .int p0), (2, .int p1), (3, .int p2)]) hx hb dX12_mud_51 hl (k := 4) rfl (by rw [ez4]; rfl) (by decide) rfl (fun ls hl => ?_)
      refine lv_goto (tgt := 34) hx hb dX12_mud_54 (by decide) ?_
      exact ih z4 g3 (by first | with_reducible assumption | ((try simp only [zlt, zle, zeq, zl_0, zl_1, zl_2, zl_3, zl_4, zl_5, zl_6, zl_7, zl_8, zl_9, zl_10, zl_11, zl_12, zl_13, zl_14, zl_15, zl_16, zl_17, zl_18, zl_19, zl_20, zl_21, zl_22, zl_23, zl_24, zl_25, zl_26, zl_27, zl_28, zl_29, zl_30, zl_31, zl_32, zl_33, zl_34, zl_35, zl_36, zl_37, zl_38, zl_39, zl_40, zl_41, zl_42, zl_43, zl_44, zl_45, zl_46, zl_47, zl_48, zl_49, zl_50, zl_51, zl_52, zl_53, zl_54, zl_55, zl_56, zl_57, zl_58, zl_59, zl_60, zl_61, zl_62, zl_63, zl_64, zl_65, zl_82, zl_99, zl_100, zl_160, zl_299, zl_300, zl_301, zl_382, zl_398, zl_399, zl_464, zl_680, zl_862, zl_999, zl_1000, zl_9999, zl_10000, zl_1000000, zl_m1, zl_m2, zl_m3, zl_m8, zl_87, zl_88] at hi_td hi_spp hk_fa h0 hm hc c1 hz2 hz4 ⊢); omega)) hrg3 (by first | with_reducible assumption | ((try simp only [zlt, zle, zeq, zl_0, zl_1, zl_2, zl_3, zl_4, zl_5, zl_6, zl_7, zl_8, zl_9, zl_10, zl_11, zl_12, zl_13, zl_14, zl_15, zl_16, zl_17, zl_18, zl_19, zl_20, zl_21, zl_22, zl_23, zl_24, zl_25, zl_26, zl_27, zl_28, zl_29, zl_30, zl_31, zl_32, zl_33, zl_34, zl_35, zl_36, zl_37, zl_38, zl_39, zl_40, zl_41, zl_42, zl_43, zl_44, zl_45, zl_46, zl_47, zl_48, zl_49, zl_50, zl_51, zl_52, zl_53, zl_54, zl_55, zl_56, zl_57, zl_58, zl_59, zl_60, zl_61, zl_62, zl_63, zl_64, zl_65, zl_82, zl_99, zl_100, zl_160, zl_299, zl_300, zl_301, zl_382, zl_398, zl_399, zl_464, zl_680, zl_862, zl_999, zl_1000, zl_9999, zl_10000, zl_1000000, zl_m1, zl_m2, zl_m3, zl_m8, zl_87, zl_88] at hi_td hi_spp hk_fa h0 hm hc c1 hz2 hz4 ⊢); omega)) _ _ _ hP hD hS (lv_sub hl [1, 2, 3, 4, 0] rfl)
set_option maxHeartbeats 4000000 in
set_option maxRecDepth 100000 in
theorem c_X12_mud (l : Launch) (D : va_G) (cI cM cT cJ cZ : ClassId) (q : Nat) (p0 : Int32) (p1 : Int32) (p2 : Int32) (aA : Nat) (aI : Nat) (xT : Nat) (tP_ : Nat) (td : Int32) (fu : Int32) (fp : Int32) (at_ : Int32) (plc : Int32) (tok : Int32) (num : Int32) (wrd : Int64) (tx0 : Int32) (cls : Int32) (wri : Int32) (cam : Int32) (pI : Nat) (pid : Int32) (ope : Int32) (isw : Int32) (so0 : Int32) (onc : Int32) (nm : Nat) (vL : Nat) (tR : Nat) (spp : Int32) (eat : Int32) (ste : Int32) (rW : Nat) (sP : Nat) (oT : Nat) (bS : Nat) (aS : Nat) (aO : Nat) (cS : Nat) (wY : Nat) (fa : Nat → Int32) (kc0 : Int) (kc1 : Int) (kc6 : Int) (kc9 : Int) (kc10 : Int) (hi_td : 0 ≤ td.toInt ∧ td.toInt ≤ 300) (hi_spp : 0 ≤ spp.toInt ∧ spp.toInt ≤ 299) (hr_fa : AK kc0 kc1 kc6 kc9 kc10 fa) : Ci l D (ty3 cI cM cT cJ cZ) yX12_mud cX12_mud 5 (some .boolean) 2 0 0 [.ref q, .int p0, .int p1, .int p2] ([(q, .inr (12, [.ref aA, .ref aI, .ref xT, .ref tP_, .int td, .int fu, .int fp, .int at_, .int plc, .int tok, .int num, .long wrd, .int tx0, .int cls, .int wri, .int cam, .ref pI, .int pid, .int ope, .int isw, .int so0, .int onc, .ref nm, .ref vL, .ref tR, .int spp, .int eat, .int ste, .ref rW, .ref sP, .ref oT, .ref bS, .ref aS, .ref aO, .ref cS, .ref wY])), (aA, .inl (cI, 862, .inl fa))]) (fun r u => ∃ (fa_n : Nat → Int32), (0 ≤ r.toInt ∧ r.toInt ≤ 1) ∧ u = [(q, .inr (12, [.ref aA, .ref aI, .ref xT, .ref tP_, .int td, .int fu, .int fp, .int at_, .int plc, .int tok, .int num, .long wrd, .int tx0, .int cls, .int wri, .int cam, .ref pI, .int pid, .int ope, .int isw, .int so0, .int onc, .ref nm, .ref vL, .ref tR, .int spp, .int eat, .int ste, .ref rW, .ref sP, .ref oT, .ref bS, .ref aS, .ref aO, .ref cS, .ref wY])), (aA, .inl (cI, 862, .inl fa_n))] ∧ AK kc0 kc1 kc6 kc9 kc10 fa_n ∧ ((((0 ≤ p0.toInt ∧ p0.toInt ≤ 299) ∧ (0 ≤ p1.toInt ∧ p1.toInt ≤ 299) ∧ p0.toInt ≤ p1.toInt ∧ (0 ≤ p2.toInt ∧ p2.toInt ≤ 9)) ∧ r.toInt = 1) ∨ (¬ ((0 ≤ p0.toInt ∧ p0.toInt ≤ 299) ∧ (0 ≤ p1.toInt ∧ p1.toInt ≤ 299) ∧ p0.toInt ≤ p1.toInt ∧ (0 ≤ p2.toInt ∧ p2.toInt ≤ 9)) ∧ r.toInt = 0))) := by
  refine Ci.of (by decide +kernel) (Nat.le_of_ble_eq_true rfl) ?_
  intro p e s m below meth c A ls Z hin hP hD hl
  have hx := Z.1
  have hb := Z.2.1
  have hS : va_S A s.heap s.heap [] := va_S.rf
  have hl : lv_has ls 5 [(0, .ref q), (1, .int p0), (2, .int p1), (3, .int p2)] := hl
  skip
  have hk_fa := AK.rng hr_fa
  refine lv_iload_n hx hb dX12_mud_0 rfl (lv_at hl 1 rfl) ?_
  have hPc := hP.sub2 (wc := []) [] rfl
  have hDc := hD.sub (ws' := []) [] (by decide) rfl
  refine raw_Si (nA := 1) (As := [.int p0]) (rest := []) Z hl.1 (c_X12_isPlace l D cI cM cT cJ cZ p0) (bw_S bw_1132 bw_1133 bw_92 bw_1134) ⟨by decide +kernel, by decide +kernel, by decide +kernel⟩ rfl ⟨Nat.le_of_ble_eq_true rfl, Nat.le_of_ble_eq_true rfl⟩ hPc hDc hS rfl (Nat.le_of_ble_eq_true rfl) dX12_mud_1 ⟨Nat.le_of_ble_eq_true rfl, Nat.le_of_ble_eq_true rfl⟩ (fun r2 u1 H1 locs1 h3 hku1 hP1 hD1 hS1 => ?_)
  obtain ⟨hrh3, rfl⟩ := h3
  obtain ⟨hP, hD⟩ := z_join (wr := [(q, .inr (12, [.ref aA, .ref aI, .ref xT, .ref tP_, .int td, .int fu, .int fp, .int at_, .int plc, .int tok, .int num, .long wrd, .int tx0, .int cls, .int wri, .int cam, .ref pI, .int pid, .int ope, .int isw, .int so0, .int onc, .ref nm, .ref vL, .ref tR, .int spp, .int eat, .int ste, .ref rW, .ref sP, .ref oT, .ref bS, .ref aS, .ref aO, .ref cS, .ref wY])), (aA, .inl (cI, 862, .inl fa))]) Z hS hP hD [] [0, 1] rfl (by decide) rfl (by decide) (by decide) hku1 hP1 hD1
  have hS := hS1
  clear hS1
  generalize H1 = H at hP hS ⊢
  generalize locs1 = locs at hS ⊢
  have hP : va_P D vwCl ([(q, .inr (12, [.ref aA, .ref aI, .ref xT, .ref tP_, .int td, .int fu, .int fp, .int at_, .int plc, .int tok, .int num, .long wrd, .int tx0, .int cls, .int wri, .int cam, .ref pI, .int pid, .int ope, .int isw, .int so0, .int onc, .ref nm, .ref vL, .ref tR, .int spp, .int eat, .int ste, .ref rW, .ref sP, .ref oT, .ref bS, .ref aS, .ref aO, .ref cS, .ref wY])), (aA, .inl (cI, 862, .inl fa))]) H := hP
  have hD : va_D A ([(q, .inr (12, [.ref aA, .ref aI, .ref xT, .ref tP_, .int td, .int fu, .int fp, .int at_, .int plc, .int tok, .int num, .long wrd, .int tx0, .int cls, .int wri, .int cam, .ref pI, .int pid, .int ope, .int isw, .int so0, .int onc, .ref nm, .ref vL, .ref tR, .int spp, .int eat, .int ste, .ref rW, .ref sP, .ref oT, .ref bS, .ref aS, .ref aO, .ref cS, .ref wY])), (aA, .inl (cI, 862, .inl fa))]) := hD
  by_cases c4 : 0 ≤ p0 ∧ p0 ≤ 299
  · obtain rfl : r2 = 1 := by rw [hrh3, if_pos c4]
    refine lv_if_eq (tgt := 29) hx hb dX12_mud_4 (by decide) (fun h => absurd h (by decide)) (fun c5 => ?_)
    refine lv_iload_n hx hb dX12_mud_7 rfl (lv_at hl 2 rfl) ?_
    have hPc := hP.sub2 (wc := []) [] rfl
    have hDc := hD.sub (ws' := []) [] (by decide) rfl
    refine raw_Si (nA := 1) (As := [.int p1]) (rest := []) Z hl.1 (c_X12_isPlace l D cI cM cT cJ cZ p1) (bw_S bw_1132 bw_1133 bw_92 bw_1134) ⟨by decide +kernel, by decide +kernel, by decide +kernel⟩ rfl ⟨Nat.le_of_ble_eq_true rfl, Nat.le_of_ble_eq_true rfl⟩ hPc hDc hS rfl (Nat.le_of_ble_eq_true rfl) dX12_mud_8 ⟨Nat.le_of_ble_eq_true rfl, Nat.le_of_ble_eq_true rfl⟩ (fun r7 u6 H1 locs1 h8 hku6 hP1 hD1 hS1 => ?_)
    obtain ⟨hrh8, rfl⟩ := h8
    obtain ⟨hP, hD⟩ := z_join (wr := [(q, .inr (12, [.ref aA, .ref aI, .ref xT, .ref tP_, .int td, .int fu, .int fp, .int at_, .int plc, .int tok, .int num, .long wrd, .int tx0, .int cls, .int wri, .int cam, .ref pI, .int pid, .int ope, .int isw, .int so0, .int onc, .ref nm, .ref vL, .ref tR, .int spp, .int eat, .int ste, .ref rW, .ref sP, .ref oT, .ref bS, .ref aS, .ref aO, .ref cS, .ref wY])), (aA, .inl (cI, 862, .inl fa))]) Z hS hP hD [] [0, 1] rfl (by decide) rfl (by decide) (by decide) hku6 hP1 hD1
    have hS := hS1
    clear hS1
    generalize H1 = H at hP hS ⊢
    generalize locs1 = locs at hS ⊢
    have hP : va_P D vwCl ([(q, .inr (12, [.ref aA, .ref aI, .ref xT, .ref tP_, .int td, .int fu, .int fp, .int at_, .int plc, .int tok, .int num, .long wrd, .int tx0, .int cls, .int wri, .int cam, .ref pI, .int pid, .int ope, .int isw, .int so0, .int onc, .ref nm, .ref vL, .ref tR, .int spp, .int eat, .int ste, .ref rW, .ref sP, .ref oT, .ref bS, .ref aS, .ref aO, .ref cS, .ref wY])), (aA, .inl (cI, 862, .inl fa))]) H := hP
    have hD : va_D A ([(q, .inr (12, [.ref aA, .ref aI, .ref xT, .ref tP_, .int td, .int fu, .int fp, .int at_, .int plc, .int tok, .int num, .long wrd, .int tx0, .int cls, .int wri, .int cam, .ref pI, .int pid, .int ope, .int isw, .int so0, .int onc, .ref nm, .ref vL, .ref tR, .int spp, .int eat, .int ste, .ref rW, .ref sP, .ref oT, .ref bS, .ref aS, .ref aO, .ref cS, .ref wY])), (aA, .inl (cI, 862, .inl fa))]) := hD
    by_cases c9 : 0 ≤ p1 ∧ p1 ≤ 299
    · obtain rfl : r7 = 1 := by rw [hrh8, if_pos c9]
      refine lv_if_eq (tgt := 29) hx hb dX12_mud_11 (by decide) (fun h => absurd h (by decide)) (fun c10 => ?_)
      refine lv_iload_n hx hb dX12_mud_14 rfl (lv_at hl 2 rfl) ?_
      refine lv_iload_n hx hb dX12_mud_15 rfl (lv_at hl 1 rfl) ?_
      refine lv_icmp_lt (tgt := 29) hx hb dX12_mud_16 (by decide) (fun c11 => ?_) (fun c11 => ?_)
      · refine lv_iconst (v := 0) hx hb dX12_mud_29 (by decide) ?_
        exact z_ret Z rfl hP hD hS (⟨fa, (by decide), rfl, hr_fa, (by (try simp only [zlt, zle, zeq, zl_0, zl_1, zl_2, zl_3, zl_4, zl_5, zl_6, zl_7, zl_8, zl_9, zl_10, zl_11, zl_12, zl_13, zl_14, zl_15, zl_16, zl_17, zl_18, zl_19, zl_20, zl_21, zl_22, zl_23, zl_24, zl_25, zl_26, zl_27, zl_28, zl_29, zl_30, zl_31, zl_32, zl_33, zl_34, zl_35, zl_36, zl_37, zl_38, zl_39, zl_40, zl_41, zl_42, zl_43, zl_44, zl_45, zl_46, zl_47, zl_48, zl_49, zl_50, zl_51, zl_52, zl_53, zl_54, zl_55, zl_56, zl_57, zl_58, zl_59, zl_60, zl_61, zl_62, zl_63, zl_64, zl_65, zl_82, zl_99, zl_100, zl_160, zl_299, zl_300, zl_301, zl_382, zl_398, zl_399, zl_464, zl_680, zl_862, zl_999, zl_1000, zl_9999, zl_10000, zl_1000000, zl_m1, zl_m2, zl_m3, zl_m8, zl_87, zl_88, and_true, true_and, and_false, false_and, or_false, false_or, or_true, true_or, not_true_eq_false, not_false_eq_true] at hi_td hi_spp hk_fa c4 c5 c9 c10 c11 ⊢) <;> omega)⟩) dX12_mud_30 (Nat.le_of_ble_eq_true rfl) (Nat.le_of_ble_eq_true rfl)
      · refine lv_iload_n hx hb dX12_mud_19 rfl (lv_at hl 3 rfl) ?_
        refine lv_iconst (v := 0) hx hb dX12_mud_20 (by decide) ?_
        refine lv_bipush (v := 9) hx hb dX12_mud_21 (by decide) ?_
        have hPc := hP.sub2 (wc := []) [] rfl
        have hDc := hD.sub (ws' := []) [] (by decide) rfl
        refine raw_Si (nA := 3) (As := [.int p2, .int 0, .int 9]) (rest := []) Z hl.1 (c_X12_isIn l D cI cM cT cJ cZ p2 0 9) (bw_S bw_1135 bw_1136 bw_92 bw_1137) ⟨by decide +kernel, by decide +kernel, by decide +kernel⟩ rfl ⟨Nat.le_of_ble_eq_true rfl, Nat.le_of_ble_eq_true rfl⟩ hPc hDc hS rfl (Nat.le_of_ble_eq_true rfl) dX12_mud_23 ⟨Nat.le_of_ble_eq_true rfl, Nat.le_of_ble_eq_true rfl⟩ (fun r13 u12 H1 locs1 h14 hku12 hP1 hD1 hS1 => ?_)
        obtain ⟨hrh14, rfl⟩ := h14
        obtain ⟨hP, hD⟩ := z_join (wr := [(q, .inr (12, [.ref aA, .ref aI, .ref xT, .ref tP_, .int td, .int fu, .int fp, .int at_, .int plc, .int tok, .int num, .long wrd, .int tx0, .int cls, .int wri, .int cam, .ref pI, .int pid, .int ope, .int isw, .int so0, .int onc, .ref nm, .ref vL, .ref tR, .int spp, .int eat, .int ste, .ref rW, .ref sP, .ref oT, .ref bS, .ref aS, .ref aO, .ref cS, .ref wY])), (aA, .inl (cI, 862, .inl fa))]) Z hS hP hD [] [0, 1] rfl (by decide) rfl (by decide) (by decide) hku12 hP1 hD1
        have hS := hS1
        clear hS1
        generalize H1 = H at hP hS ⊢
        generalize locs1 = locs at hS ⊢
        have hP : va_P D vwCl ([(q, .inr (12, [.ref aA, .ref aI, .ref xT, .ref tP_, .int td, .int fu, .int fp, .int at_, .int plc, .int tok, .int num, .long wrd, .int tx0, .int cls, .int wri, .int cam, .ref pI, .int pid, .int ope, .int isw, .int so0, .int onc, .ref nm, .ref vL, .ref tR, .int spp, .int eat, .int ste, .ref rW, .ref sP, .ref oT, .ref bS, .ref aS, .ref aO, .ref cS, .ref wY])), (aA, .inl (cI, 862, .inl fa))]) H := hP
        have hD : va_D A ([(q, .inr (12, [.ref aA, .ref aI, .ref xT, .ref tP_, .int td, .int fu, .int fp, .int at_, .int plc, .int tok, .int num, .long wrd, .int tx0, .int cls, .int wri, .int cam, .ref pI, .int pid, .int ope, .int isw, .int so0, .int onc, .ref nm, .ref vL, .ref tR, .int spp, .int eat, .int ste, .ref rW, .ref sP, .ref oT, .ref bS, .ref aS, .ref aO, .ref cS, .ref wY])), (aA, .inl (cI, 862, .inl fa))]) := hD
        by_cases c15 : 0 ≤ p2 ∧ p2 ≤ 9
        · obtain rfl : r13 = 1 := by rw [hrh14, if_pos c15]
          refine lv_if_ne (tgt := 31) hx hb dX12_mud_26 (by decide) (fun c16 => ?_) (fun h => absurd h (by decide))
          refine lv_iload_n hx hb dX12_mud_31 rfl (lv_at hl 1 rfl) ?_
          refine lv_istore (lv' := [(4, .int p0), (0, .ref q), (1, .int p0), (2, .int p1), (3, .int p2)]) hx hb dX12_mud_32 hl (by decide) rfl (fun ls hl => ?_)
          refine W.widen (k := 0) (n := 0) (Nat.le_of_ble_eq_true rfl) (Nat.le_of_ble_eq_true rfl) ?_
          exact lp_X12_mud l D cI cM cT cJ cZ q p0 p1 p2 aA aI xT tP_ td fu fp at_ plc tok num wrd tx0 cls wri cam pI pid ope isw so0 onc nm vL tR spp eat ste rW sP oT bS aS aO cS wY fa kc0 kc1 kc6 kc9 kc10 Z hi_td hi_spp hr_fa (by first | with_reducible assumption | ((try simp only [zlt, zle, zeq, zl_0, zl_1, zl_2, zl_3, zl_4, zl_5, zl_6, zl_7, zl_8, zl_9, zl_10, zl_11, zl_12, zl_13, zl_14, zl_15, zl_16, zl_17, zl_18, zl_19, zl_20, zl_21, zl_22, zl_23, zl_24, zl_25, zl_26, zl_27, zl_28, zl_29, zl_30, zl_31, zl_32, zl_33, zl_34, zl_35, zl_36, zl_37, zl_38, zl_39, zl_40, zl_41, zl_42, zl_43, zl_44, zl_45, zl_46, zl_47, zl_48, zl_49, zl_50, zl_51, zl_52, zl_53, zl_54, zl_55, zl_56, zl_57, zl_58, zl_59, zl_60, zl_61, zl_62, zl_63, zl_64, zl_65, zl_82, zl_99, zl_100, zl_160, zl_299, zl_300, zl_301, zl_382, zl_398, zl_399, zl_464, zl_680, zl_862, zl_999, zl_1000, zl_9999, zl_10000, zl_1000000, zl_m1, zl_m2, zl_m3, zl_m8, zl_87, zl_88] at hi_td hi_spp hk_fa c4 c5 c9 c10 c11 c15 c16 ⊢); omega)) _ p0 fa (by first | with_reducible assumption | ((try simp only [zlt, zle, zeq, zl_0, zl_1, zl_2, zl_3, zl_4, zl_5, zl_6, zl_7, zl_8, zl_9, zl_10, zl_11, zl_12, zl_13, zl_14, zl_15, zl_16, zl_17, zl_18, zl_19, zl_20, zl_21, zl_22, zl_23, zl_24, zl_25, zl_26, zl_27, zl_28, zl_29, zl_30, zl_31, zl_32, zl_33, zl_34, zl_35, zl_36, zl_37, zl_38, zl_39, zl_40, zl_41, zl_42, zl_43, zl_44, zl_45, zl_46, zl_47, zl_48, zl_49, zl_50, zl_51, zl_52, zl_53, zl_54, zl_55, zl_56, zl_57, zl_58, zl_59, zl_60, zl_61, zl_62, zl_63, zl_64, zl_65, zl_82, zl_99, zl_100, zl_160, zl_299, zl_300, zl_301, zl_382, zl_398, zl_399, zl_464, zl_680, zl_862, zl_999, zl_1000, zl_9999, zl_10000, zl_1000000, zl_m1, zl_m2, zl_m3, zl_m8, zl_87, zl_88] at hi_td hi_spp hk_fa c4 c5 c9 c10 c11 c15 c16 ⊢); omega)) hr_fa (Nat.lt_succ_self _) _ _ _ hP hD hS (lv_sub hl [1, 2, 3, 4, 0] rfl)
        · obtain rfl : r13 = 0 := by rw [hrh14, if_neg c15]
          refine lv_if_ne (tgt := 31) hx hb dX12_mud_26 (by decide) (fun h => absurd (by decide) h) (fun c17 => ?_)
          refine lv_iconst (v := 0) hx hb dX12_mud_29 (by decide) ?_
          exact z_ret Z rfl hP hD hS (⟨fa, (by decide), rfl, hr_fa, (by (try simp only [zlt, zle, zeq, zl_0, zl_1, zl_2, zl_3, zl_4, zl_5, zl_6, zl_7, zl_8, zl_9, zl_10, zl_11, zl_12, zl_13, zl_14, zl_15, zl_16, zl_17, zl_18, zl_19, zl_20, zl_21, zl_22, zl_23, zl_24, zl_25, zl_26, zl_27, zl_28, zl_29, zl_30, zl_31, zl_32, zl_33, zl_34, zl_35, zl_36, zl_37, zl_38, zl_39, zl_40, zl_41, zl_42, zl_43, zl_44, zl_45, zl_46, zl_47, zl_48, zl_49, zl_50, zl_51, zl_52, zl_53, zl_54, zl_55, zl_56, zl_57, zl_58, zl_59, zl_60, zl_61, zl_62, zl_63, zl_64, zl_65, zl_82, zl_99, zl_100, zl_160, zl_299, zl_300, zl_301, zl_382, zl_398, zl_399, zl_464, zl_680, zl_862, zl_999, zl_1000, zl_9999, zl_10000, zl_1000000, zl_m1, zl_m2, zl_m3, zl_m8, zl_87, zl_88, and_true, true_and, and_false, false_and, or_false, false_or, or_true, true_or, not_true_eq_false, not_false_eq_true] at hi_td hi_spp hk_fa c4 c5 c9 c10 c11 c15 c17 ⊢) <;> omega)⟩) dX12_mud_30 (Nat.le_of_ble_eq_true rfl) (Nat.le_of_ble_eq_true rfl)
    · obtain rfl : r7 = 0 := by rw [hrh8, if_neg c9]
      refine lv_if_eq (tgt := 29) hx hb dX12_mud_11 (by decide) (fun c18 => ?_) (fun h => absurd (by decide) h)
      refine lv_iconst (v := 0) hx hb dX12_mud_29 (by decide) ?_
      exact z_ret Z rfl hP hD hS (⟨fa, (by decide), rfl, hr_fa, (by (try simp only [zlt, zle, zeq, zl_0, zl_1, zl_2, zl_3, zl_4, zl_5, zl_6, zl_7, zl_8, zl_9, zl_10, zl_11, zl_12, zl_13, zl_14, zl_15, zl_16, zl_17, zl_18, zl_19, zl_20, zl_21, zl_22, zl_23, zl_24, zl_25, zl_26, zl_27, zl_28, zl_29, zl_30, zl_31, zl_32, zl_33, zl_34, zl_35, zl_36, zl_37, zl_38, zl_39, zl_40, zl_41, zl_42, zl_43, zl_44, zl_45, zl_46, zl_47, zl_48, zl_49, zl_50, zl_51, zl_52, zl_53, zl_54, zl_55, zl_56, zl_57, zl_58, zl_59, zl_60, zl_61, zl_62, zl_63, zl_64, zl_65, zl_82, zl_99, zl_100, zl_160, zl_299, zl_300, zl_301, zl_382, zl_398, zl_399, zl_464, zl_680, zl_862, zl_999, zl_1000, zl_9999, zl_10000, zl_1000000, zl_m1, zl_m2, zl_m3, zl_m8, zl_87, zl_88, and_true, true_and, and_false, false_and, or_false, false_or, or_true, true_or, not_true_eq_false, not_false_eq_true] at hi_td hi_spp hk_fa c4 c5 c9 c18 ⊢) <;> omega)⟩) dX12_mud_30 (Nat.le_of_ble_eq_true rfl) (Nat.le_of_ble_eq_true rfl)
  · obtain rfl : r2 = 0 := by rw [hrh3, if_neg c4]
    refine lv_if_eq (tgt := 29) hx hb dX12_mud_4 (by decide) (fun c19 => ?_) (fun h => absurd (by decide) h)
    refine lv_iconst (v := 0) hx hb dX12_mud_29 (by decide) ?_
    exact z_ret Z rfl hP hD hS (⟨fa, (by decide), rfl, hr_fa, (by (try simp only [zlt, zle, zeq, zl_0, zl_1, zl_2, zl_3, zl_4, zl_5, zl_6, zl_7, zl_8, zl_9, zl_10, zl_11, zl_12, zl_13, zl_14, zl_15, zl_16, zl_17, zl_18, zl_19, zl_20, zl_21, zl_22, zl_23, zl_24, zl_25, zl_26, zl_27, zl_28, zl_29, zl_30, zl_31, zl_32, zl_33, zl_34, zl_35, zl_36, zl_37, zl_38, zl_39, zl_40, zl_41, zl_42, zl_43, zl_44, zl_45, zl_46, zl_47, zl_48, zl_49, zl_50, zl_51, zl_52, zl_53, zl_54, zl_55, zl_56, zl_57, zl_58, zl_59, zl_60, zl_61, zl_62, zl_63, zl_64, zl_65, zl_82, zl_99, zl_100, zl_160, zl_299, zl_300, zl_301, zl_382, zl_398, zl_399, zl_464, zl_680, zl_862, zl_999, zl_1000, zl_9999, zl_10000, zl_1000000, zl_m1, zl_m2, zl_m3, zl_m8, zl_87, zl_88, and_true, true_and, and_false, false_and, or_false, false_or, or_true, true_or, not_true_eq_false, not_false_eq_true] at hi_td hi_spp hk_fa c4 c19 ⊢) <;> omega)⟩) dX12_mud_30 (Nat.le_of_ble_eq_true rfl) (Nat.le_of_ble_eq_true rfl)
set_option maxHeartbeats 4000000 in
set_option maxRecDepth 100000 in
theorem c_X12_bridge (l : Launch) (D : va_G) (cI cM cT cJ cZ : ClassId) (q : Nat) (p0 : Int32) (p1 : Int32) (aA : Nat) (aI : Nat) (xT : Nat) (tP_ : Nat) (td : Int32) (fu : Int32) (fp : Int32) (at_ : Int32) (plc : Int32) (tok : Int32) (num : Int32) (wrd : Int64) (tx0 : Int32) (cls : Int32) (wri : Int32) (cam : Int32) (pI : Nat) (pid : Int32) (ope : Int32) (isw : Int32) (so0 : Int32) (onc : Int32) (nm : Nat) (vL : Nat) (tR : Nat) (spp : Int32) (eat : Int32) (ste : Int32) (rW : Nat) (sP : Nat) (oT : Nat) (bS : Nat) (aS : Nat) (aO : Nat) (cS : Nat) (wY : Nat) (fa : Nat → Int32) (kc0 : Int) (kc1 : Int) (kc6 : Int) (kc9 : Int) (kc10 : Int) (hi_td : 0 ≤ td.toInt ∧ td.toInt ≤ 300) (hi_spp : 0 ≤ spp.toInt ∧ spp.toInt ≤ 299) (hr_fa : AK kc0 kc1 kc6 kc9 kc10 fa) : Ci l D (ty3 cI cM cT cJ cZ) yX12_bridge cX12_bridge 3 (some .int) 2 0 0 [.ref q, .int p0, .int p1] ([(q, .inr (12, [.ref aA, .ref aI, .ref xT, .ref tP_, .int td, .int fu, .int fp, .int at_, .int plc, .int tok, .int num, .long wrd, .int tx0, .int cls, .int wri, .int cam, .ref pI, .int pid, .int ope, .int isw, .int so0, .int onc, .ref nm, .ref vL, .ref tR, .int spp, .int eat, .int ste, .ref rW, .ref sP, .ref oT, .ref bS, .ref aS, .ref aO, .ref cS, .ref wY])), (aA, .inl (cI, 862, .inl fa))]) (fun r u => ∃ (fa_n : Nat → Int32) (kc1_n : Int), u = [(q, .inr (12, [.ref aA, .ref aI, .ref xT, .ref tP_, .int td, .int fu, .int fp, .int at_, .int plc, .int tok, .int num, .long wrd, .int tx0, .int cls, .int wri, .int cam, .ref pI, .int pid, .int ope, .int isw, .int so0, .int onc, .ref nm, .ref vL, .ref tR, .int spp, .int eat, .int ste, .ref rW, .ref sP, .ref oT, .ref bS, .ref aS, .ref aO, .ref cS, .ref wY])), (aA, .inl (cI, 862, .inl fa_n))] ∧ AK kc0 kc1_n kc6 kc9 kc10 fa_n ∧ ((((0 ≤ p0.toInt ∧ p0.toInt ≤ 299) ∧ (0 ≤ p1.toInt ∧ p1.toInt ≤ 299) ∧ p0.toInt < p1.toInt ∧ kc1 < 4) ∧ r.toInt = kc1 + 1 ∧ kc1_n = kc1 + 1) ∨ (¬ ((0 ≤ p0.toInt ∧ p0.toInt ≤ 299) ∧ (0 ≤ p1.toInt ∧ p1.toInt ≤ 299) ∧ p0.toInt < p1.toInt ∧ kc1 < 4) ∧ r.toInt = -1 ∧ kc1_n = kc1))) := by
  refine Ci.of (by decide +kernel) (Nat.le_of_ble_eq_true rfl) ?_
  intro p e s m below meth c A ls Z hin hP hD hl
  have hx := Z.1
  have hb := Z.2.1
  have hS : va_S A s.heap s.heap [] := va_S.rf
  have hl : lv_has ls 3 [(0, .ref q), (1, .int p0), (2, .int p1)] := hl
  skip
  have hk_fa := AK.rng hr_fa
  refine lv_iload_n hx hb dX12_bridge_0 rfl (lv_at hl 1 rfl) ?_
  have hPc := hP.sub2 (wc := []) [] rfl
  have hDc := hD.sub (ws' := []) [] (by decide) rfl
  refine raw_Si (nA := 1) (As := [.int p0]) (rest := []) Z hl.1 (c_X12_isPlace l D cI cM cT cJ cZ p0) (bw_S bw_1132 bw_1133 bw_92 bw_1134) ⟨by decide +kernel, by decide +kernel, by decide +kernel⟩ rfl ⟨Nat.le_of_ble_eq_true rfl, Nat.le_of_ble_eq_true rfl⟩ hPc hDc hS rfl (Nat.le_of_ble_eq_true rfl) dX12_bridge_1 ⟨Nat.le_of_ble_eq_true rfl, Nat.le_of_ble_eq_true rfl⟩ (fun r2 u1 H1 locs1 h3 hku1 hP1 hD1 hS1 => ?_)
  obtain ⟨hrh3, rfl⟩ := h3
  obtain ⟨hP, hD⟩ := z_join (wr := [(q, .inr (12, [.ref aA, .ref aI, .ref xT, .ref tP_, .int td, .int fu, .int fp, .int at_, .int plc, .int tok, .int num, .long wrd, .int tx0, .int cls, .int wri, .int cam, .ref pI, .int pid, .int ope, .int isw, .int so0, .int onc, .ref nm, .ref vL, .ref tR, .int spp, .int eat, .int ste, .ref rW, .ref sP, .ref oT, .ref bS, .ref aS, .ref aO, .ref cS, .ref wY])), (aA, .inl (cI, 862, .inl fa))]) Z hS hP hD [] [0, 1] rfl (by decide) rfl (by decide) (by decide) hku1 hP1 hD1
  have hS := hS1
  clear hS1
  generalize H1 = H at hP hS ⊢
  generalize locs1 = locs at hS ⊢
  have hP : va_P D vwCl ([(q, .inr (12, [.ref aA, .ref aI, .ref xT, .ref tP_, .int td, .int fu, .int fp, .int at_, .int plc, .int tok, .int num, .long wrd, .int tx0, .int cls, .int wri, .int cam, .ref pI, .int pid, .int ope, .int isw, .int so0, .int onc, .ref nm, .ref vL, .ref tR, .int spp, .int eat, .int ste, .ref rW, .ref sP, .ref oT, .ref bS, .ref aS, .ref aO, .ref cS, .ref wY])), (aA, .inl (cI, 862, .inl fa))]) H := hP
  have hD : va_D A ([(q, .inr (12, [.ref aA, .ref aI, .ref xT, .ref tP_, .int td, .int fu, .int fp, .int at_, .int plc, .int tok, .int num, .long wrd, .int tx0, .int cls, .int wri, .int cam, .ref pI, .int pid, .int ope, .int isw, .int so0, .int onc, .ref nm, .ref vL, .ref tR, .int spp, .int eat, .int ste, .ref rW, .ref sP, .ref oT, .ref bS, .ref aS, .ref aO, .ref cS, .ref wY])), (aA, .inl (cI, 862, .inl fa))]) := hD
  by_cases c4 : 0 ≤ p0 ∧ p0 ≤ 299
  · obtain rfl : r2 = 1 := by rw [hrh3, if_pos c4]
    refine lv_if_eq (tgt := 29) hx hb dX12_bridge_4 (by decide) (fun h => absurd h (by decide)) (fun c5 => ?_)
    refine lv_iload_n hx hb dX12_bridge_7 rfl (lv_at hl 2 rfl) ?_
    have hPc := hP.sub2 (wc := []) [] rfl
    have hDc := hD.sub (ws' := []) [] (by decide) rfl
    refine raw_Si (nA := 1) (As := [.int p1]) (rest := []) Z hl.1 (c_X12_isPlace l D cI cM cT cJ cZ p1) (bw_S bw_1132 bw_1133 bw_92 bw_1134) ⟨by decide +kernel, by decide +kernel, by decide +kernel⟩ rfl ⟨Nat.le_of_ble_eq_true rfl, Nat.le_of_ble_eq_true rfl⟩ hPc hDc hS rfl (Nat.le_of_ble_eq_true rfl) dX12_bridge_8 ⟨Nat.le_of_ble_eq_true rfl, Nat.le_of_ble_eq_true rfl⟩ (fun r7 u6 H1 locs1 h8 hku6 hP1 hD1 hS1 => ?_)
    obtain ⟨hrh8, rfl⟩ := h8
    obtain ⟨hP, hD⟩ := z_join (wr := [(q, .inr (12, [.ref aA, .ref aI, .ref xT, .ref tP_, .int td, .int fu, .int fp, .int at_, .int plc, .int tok, .int num, .long wrd, .int tx0, .int cls, .int wri, .int cam, .ref pI, .int pid, .int ope, .int isw, .int so0, .int onc, .ref nm, .ref vL, .ref tR, .int spp, .int eat, .int ste, .ref rW, .ref sP, .ref oT, .ref bS, .ref aS, .ref aO, .ref cS, .ref wY])), (aA, .inl (cI, 862, .inl fa))]) Z hS hP hD [] [0, 1] rfl (by decide) rfl (by decide) (by decide) hku6 hP1 hD1
    have hS := hS1
    clear hS1
    generalize H1 = H at hP hS ⊢
    generalize locs1 = locs at hS ⊢
    have hP : va_P D vwCl ([(q, .inr (12, [.ref aA, .ref aI, .ref xT, .ref tP_, .int td, .int fu, .int fp, .int at_, .int plc, .int tok, .int num, .long wrd, .int tx0, .int cls, .int wri, .int cam, .ref pI, .int pid, .int ope, .int isw, .int so0, .int onc, .ref nm, .ref vL, .ref tR, .int spp, .int eat, .int ste, .ref rW, .ref sP, .ref oT, .ref bS, .ref aS, .ref aO, .ref cS, .ref wY])), (aA, .inl (cI, 862, .inl fa))]) H := hP
    have hD : va_D A ([(q, .inr (12, [.ref aA, .ref aI, .ref xT, .ref tP_, .int td, .int fu, .int fp, .int at_, .int plc, .int tok, .int num, .long wrd, .int tx0, .int cls, .int wri, .int cam, .ref pI, .int pid, .int ope, .int isw, .int so0, .int onc, .ref nm, .ref vL, .ref tR, .int spp, .int eat, .int ste, .ref rW, .ref sP, .ref oT, .ref bS, .ref aS, .ref aO, .ref cS, .ref wY])), (aA, .inl (cI, 862, .inl fa))]) := hD
    by_cases c9 : 0 ≤ p1 ∧ p1 ≤ 299
    · obtain rfl : r7 = 1 := by rw [hrh8, if_pos c9]
      refine lv_if_eq (tgt := 29) hx hb dX12_bridge_11 (by decide) (fun h => absurd h (by decide)) (fun c10 => ?_)
      refine lv_iload_n hx hb dX12_bridge_14 rfl (lv_at hl 2 rfl) ?_
      refine lv_iload_n hx hb dX12_bridge_15 rfl (lv_at hl 1 rfl) ?_
      refine lv_icmp_le (tgt := 29) hx hb dX12_bridge_16 (by decide) (fun c11 => ?_) (fun c11 => ?_)
      · refine lv_iconst (v := (-1)) hx hb dX12_bridge_29 (by decide) ?_
        exact z_ret Z rfl hP hD hS (⟨fa, kc1, rfl, hr_fa, (by (try simp only [zlt, zle, zeq, zl_0, zl_1, zl_2, zl_3, zl_4, zl_5, zl_6, zl_7, zl_8, zl_9, zl_10, zl_11, zl_12, zl_13, zl_14, zl_15, zl_16, zl_17, zl_18, zl_19, zl_20, zl_21, zl_22, zl_23, zl_24, zl_25, zl_26, zl_27, zl_28, zl_29, zl_30, zl_31, zl_32, zl_33, zl_34, zl_35, zl_36, zl_37, zl_38, zl_39, zl_40, zl_41, zl_42, zl_43, zl_44, zl_45, zl_46, zl_47, zl_48, zl_49, zl_50, zl_51, zl_52, zl_53, zl_54, zl_55, zl_56, zl_57, zl_58, zl_59, zl_60, zl_61, zl_62, zl_63, zl_64, zl_65, zl_82, zl_99, zl_100, zl_160, zl_299, zl_300, zl_301, zl_382, zl_398, zl_399, zl_464, zl_680, zl_862, zl_999, zl_1000, zl_9999, zl_10000, zl_1000000, zl_m1, zl_m2, zl_m3, zl_m8, zl_87, zl_88, and_true, true_and, and_false, false_and, or_false, false_or, or_true, true_or, not_true_eq_false, not_false_eq_true] at hi_td hi_spp hk_fa c4 c5 c9 c10 c11 ⊢) <;> omega)⟩) dX12_bridge_30 (Nat.le_of_ble_eq_true rfl) (Nat.le_of_ble_eq_true rfl)
      · refine lv_aload_n hx hb dX12_bridge_19 rfl (lv_at hl 0 rfl) ?_
        refine z_get Z i_X12 hP 0 rfl rfl 0 (by decide) bw_1019 rfl dX12_bridge_20 ?_
        refine lv_iconst (v := 1) hx hb dX12_bridge_23 (by decide) ?_
        refine z_iald Z hP 1 0 rfl rfl (vin (by decide)) dX12_bridge_24 ?_
        refine lv_topi (fun z12 ez12 => ?_)
        have hz12 : z12.toInt = kc1 := by rw [ez12]; exact AK.k1 hr_fa
        refine lv_iconst (v := 4) hx hb dX12_bridge_25 (by decide) ?_
        refine lv_icmp_ne (tgt := 31) hx hb dX12_bridge_26 (by decide) (fun c13 => ?_) (fun c13 => ?_)
        · refine lv_aload_n hx hb dX12_bridge_31 rfl (lv_at hl 0 rfl) ?_
          refine z_get Z i_X12 hP 0 rfl rfl 0 (by decide) bw_1019 rfl dX12_bridge_32 ?_
          refine lv_bipush (v := 16) hx hb dX12_bridge_35 (by decide) ?_
          refine lv_iconst (v := 2) hx hb dX12_bridge_37 (by decide) ?_
          refine lv_aload_n hx hb dX12_bridge_38 rfl (lv_at hl 0 rfl) ?_
          refine z_get Z i_X12 hP 0 rfl rfl 0 (by decide) bw_1019 rfl dX12_bridge_39 ?_
          refine lv_iconst (v := 1) hx hb dX12_bridge_42 (by decide) ?_
          refine z_iald Z hP 1 0 rfl rfl (vin (by decide)) dX12_bridge_43 ?_
          refine lv_topi (fun z14 ez14 => ?_)
          have hz14 : z14.toInt = kc1 := by rw [ez14]; exact AK.k1 hr_fa
          refine lv_imul hx hb dX12_bridge_44 ?_
          refine lv_topi (fun z15 ez15 => ?_)
          have hz15 : z15.toInt = 2 * z14.toInt := by rw [ez15]; exact zmulg (by first | with_reducible assumption | ((try simp only [zlt, zle, zeq, zl_0, zl_1, zl_2, zl_3, zl_4, zl_5, zl_6, zl_7, zl_8, zl_9, zl_10, zl_11, zl_12, zl_13, zl_14, zl_15, zl_16, zl_17, zl_18, zl_19, zl_20, zl_21, zl_22, zl_23, zl_24, zl_25, zl_26, zl_27, zl_28, zl_29, zl_30, zl_31, zl_32, zl_33, zl_34, zl_35, zl_36, zl_37, zl_38, zl_39, zl_40, zl_41, zl_42, zl_43, zl_44, zl_45, zl_46, zl_47, zl_48, zl_49, zl_50, zl_51, zl_52, zl_53, zl_54, zl_55, zl_56, zl_57, zl_58, zl_59, zl_60, zl_61, zl_62, zl_63, zl_64, zl_65, zl_82, zl_99, zl_100, zl_160, zl_299, zl_300, zl_301, zl_382, zl_398, zl_399, zl_464, zl_680, zl_862, zl_999, zl_1000, zl_9999, zl_10000, zl_1000000, zl_m1, zl_m2, zl_m3, zl_m8, zl_87, zl_88] at hi_td hi_spp hk_fa c4 c5 c9 c10 c11 hz12 c13 hz14 ⊢); omega)) (by first | with_reducible assumption | ((try simp only [zlt, zle, zeq, zl_0, zl_1, zl_2, zl_3, zl_4, zl_5, zl_6, zl_7, zl_8, zl_9, zl_10, zl_11, zl_12, zl_13, zl_14, zl_15, zl_16, zl_17, zl_18, zl_19, zl_20, zl_21, zl_22, zl_23, zl_24, zl_25, zl_26, zl_27, zl_28, zl_29, zl_30, zl_31, zl_32, zl_33, zl_34, zl_35, zl_36, zl_37, zl_38, zl_39, zl_40, zl_41, zl_42, zl_43, zl_44, zl_45, zl_46, zl_47, zl_48, zl_49, zl_50, zl_51, zl_52, zl_53, zl_54, zl_55, zl_56, zl_57, zl_58, zl_59, zl_60, zl_61, zl_62, zl_63, zl_64, zl_65, zl_82, zl_99, zl_100, zl_160, zl_299, zl_300, zl_301, zl_382, zl_398, zl_399, zl_464, zl_680, zl_862, zl_999, zl_1000, zl_9999, zl_10000, zl_1000000, zl_m1, zl_m2, zl_m3, zl_m8, zl_87, zl_88] at hi_td hi_spp hk_fa c4 c5 c9 c10 c11 hz12 c13 hz14 ⊢); omega))
          refine lv_iadd hx hb dX12_bridge_45 ?_
          refine lv_topi (fun z16 ez16 => ?_)
          have hz16 : z16.toInt = 16 + z15.toInt := by rw [ez16]; exact zaddg (by first | with_reducible assumption | ((try simp only [zlt, zle, zeq, zl_0, zl_1, zl_2, zl_3, zl_4, zl_5, zl_6, zl_7, zl_8, zl_9, zl_10, zl_11, zl_12, zl_13, zl_14, zl_15, zl_16, zl_17, zl_18, zl_19, zl_20, zl_21, zl_22, zl_23, zl_24, zl_25, zl_26, zl_27, zl_28, zl_29, zl_30, zl_31, zl_32, zl_33, zl_34, zl_35, zl_36, zl_37, zl_38, zl_39, zl_40, zl_41, zl_42, zl_43, zl_44, zl_45, zl_46, zl_47, zl_48, zl_49, zl_50, zl_51, zl_52, zl_53, zl_54, zl_55, zl_56, zl_57, zl_58, zl_59, zl_60, zl_61, zl_62, zl_63, zl_64, zl_65, zl_82, zl_99, zl_100, zl_160, zl_299, zl_300, zl_301, zl_382, zl_398, zl_399, zl_464, zl_680, zl_862, zl_999, zl_1000, zl_9999, zl_10000, zl_1000000, zl_m1, zl_m2, zl_m3, zl_m8, zl_87, zl_88] at hi_td hi_spp hk_fa c4 c5 c9 c10 c11 hz12 c13 hz14 hz15 ⊢); omega)) (by first | with_reducible assumption | ((try simp only [zlt, zle, zeq, zl_0, zl_1, zl_2, zl_3, zl_4, zl_5, zl_6, zl_7, zl_8, zl_9, zl_10, zl_11, zl_12, zl_13, zl_14, zl_15, zl_16, zl_17, zl_18, zl_19, zl_20, zl_21, zl_22, zl_23, zl_24, zl_25, zl_26, zl_27, zl_28, zl_29, zl_30, zl_31, zl_32, zl_33, zl_34, zl_35, zl_36, zl_37, zl_38, zl_39, zl_40, zl_41, zl_42, zl_43, zl_44, zl_45, zl_46, zl_47, zl_48, zl_49, zl_50, zl_51, zl_52, zl_53, zl_54, zl_55, zl_56, zl_57, zl_58, zl_59, zl_60, zl_61, zl_62, zl_63, zl_64, zl_65, zl_82, zl_99, zl_100, zl_160, zl_299, zl_300, zl_301, zl_382, zl_398, zl_399, zl_464, zl_680, zl_862, zl_999, zl_1000, zl_9999, zl_10000, zl_1000000, zl_m1, zl_m2, zl_m3, zl_m8, zl_87, zl_88] at hi_td hi_spp hk_fa c4 c5 c9 c10 c11 hz12 c13 hz14 hz15 ⊢); omega))
          refine lv_iload_n hx hb dX12_bridge_46 rfl (lv_at hl 1 rfl) ?_
          refine z_iast Z hP hD hS 1 0 rfl rfl (vp_in_iff.mpr (by first | with_reducible assumption | ((try simp only [zlt, zle, zeq, zl_0, zl_1, zl_2, zl_3, zl_4, zl_5, zl_6, zl_7, zl_8, zl_9, zl_10, zl_11, zl_12, zl_13, zl_14, zl_15, zl_16, zl_17, zl_18, zl_19, zl_20, zl_21, zl_22, zl_23, zl_24, zl_25, zl_26, zl_27, zl_28, zl_29, zl_30, zl_31, zl_32, zl_33, zl_34, zl_35, zl_36, zl_37, zl_38, zl_39, zl_40, zl_41, zl_42, zl_43, zl_44, zl_45, zl_46, zl_47, zl_48, zl_49, zl_50, zl_51, zl_52, zl_53, zl_54, zl_55, zl_56, zl_57, zl_58, zl_59, zl_60, zl_61, zl_62, zl_63, zl_64, zl_65, zl_82, zl_99, zl_100, zl_160, zl_299, zl_300, zl_301, zl_382, zl_398, zl_399, zl_464, zl_680, zl_862, zl_999, zl_1000, zl_9999, zl_10000, zl_1000000, zl_m1, zl_m2, zl_m3, zl_m8, zl_87, zl_88] at hi_td hi_spp hk_fa c4 c5 c9 c10 c11 hz12 c13 hz14 hz15 hz16 ⊢); omega))) dX12_bridge_47 (fun H locs hP hD hS => ?_)
          have hrg17 := AK.st (x := z16) (v := p0) hr_fa (by first | with_reducible assumption | ((try simp only [zlt, zle, zeq, zl_0, zl_1, zl_2, zl_3, zl_4, zl_5, zl_6, zl_7, zl_8, zl_9, zl_10, zl_11, zl_12, zl_13, zl_14, zl_15, zl_16, zl_17, zl_18, zl_19, zl_20, zl_21, zl_22, zl_23, zl_24, zl_25, zl_26, zl_27, zl_28, zl_29, zl_30, zl_31, zl_32, zl_33, zl_34, zl_35, zl_36, zl_37, zl_38, zl_39, zl_40, zl_41, zl_42, zl_43, zl_44, zl_45, zl_46, zl_47, zl_48, zl_49, zl_50, zl_51, zl_52, zl_53, zl_54, zl_55, zl_56, zl_57, zl_58, zl_59, zl_60, zl_61, zl_62, zl_63, zl_64, zl_65, zl_82, zl_99, zl_100, zl_160, zl_299, zl_300, zl_301, zl_382, zl_398, zl_399, zl_464, zl_680, zl_862, zl_999, zl_1000, zl_9999, zl_10000, zl_1000000, zl_m1, zl_m2, zl_m3, zl_m8, zl_87, zl_88] at hi_td hi_spp hk_fa c4 c5 c9 c10 c11 hz12 c13 hz14 hz15 hz16 ⊢); omega)) (by unfold RAi; (try simp only [zlt, zle, zeq, zl_0, zl_1, zl_2, zl_3, zl_4, zl_5, zl_6, zl_7, zl_8, zl_9, zl_10, zl_11, zl_12, zl_13, zl_14, zl_15, zl_16, zl_17, zl_18, zl_19, zl_20, zl_21, zl_22, zl_23, zl_24, zl_25, zl_26, zl_27, zl_28, zl_29, zl_30, zl_31, zl_32, zl_33, zl_34, zl_35, zl_36, zl_37, zl_38, zl_39, zl_40, zl_41, zl_42, zl_43, zl_44, zl_45, zl_46, zl_47, zl_48, zl_49, zl_50, zl_51, zl_52, zl_53, zl_54, zl_55, zl_56, zl_57, zl_58, zl_59, zl_60, zl_61, zl_62, zl_63, zl_64, zl_65, zl_82, zl_99, zl_100, zl_160, zl_299, zl_300, zl_301, zl_382, zl_398, zl_399, zl_464, zl_680, zl_862, zl_999, zl_1000, zl_9999, zl_10000, zl_1000000, zl_m1, zl_m2, zl_m3, zl_m8, zl_87, zl_88] at hi_td hi_spp hk_fa c4 c5 c9 c10 c11 hz12 c13 hz14 hz15 hz16 ⊢); omega)
          generalize upd fa (z16 : Int32).toNatClampNeg p0 = g17 at hP hD hrg17
          have hP : va_P D vwCl ([(q, .inr (12, [.ref aA, .ref aI, .ref xT, .ref tP_, .int td, .int fu, .int fp, .int at_, .int plc, .int tok, .int num, .long wrd, .int tx0, .int cls, .int wri, .int cam, .ref pI, .int pid, .int ope, .int isw, .int so0, .int onc, .ref nm, .ref vL, .ref tR, .int spp, .int eat, .int ste, .ref rW, .ref sP, .ref oT, .ref bS, .ref aS, .ref aO, .ref cS, .ref wY])), (aA, .inl (cI, 862, .inl g17))]) H := hP
          have hD : va_D A ([(q, .inr (12, [.ref aA, .ref aI, .ref xT, .ref tP_, .int td, .int fu, .int fp, .int at_, .int plc, .int tok, .int num, .long wrd, .int tx0, .int cls, .int wri, .int cam, .ref pI, .int pid, .int ope, .int isw, .int so0, .int onc, .ref nm, .ref vL, .ref tR, .int spp, .int eat, .int ste, .ref rW, .ref sP, .ref oT, .ref bS, .ref aS, .ref aO, .ref cS, .ref wY])), (aA, .inl (cI, 862, .inl g17))]) := hD
          refine lv_aload_n hx hb dX12_bridge_48 rfl (lv_at hl 0 rfl) ?_
          refine z_get Z i_X12 hP 0 rfl rfl 0 (by decide) bw_1019 rfl dX12_bridge_49 ?_
          refine lv_bipush (v := 16) hx hb dX12_bridge_52 (by decide) ?_
          refine lv_iconst (v := 2) hx hb dX12_bridge_54 (by decide) ?_
          refine lv_aload_n hx hb dX12_bridge_55 rfl (lv_at hl 0 rfl) ?_
          refine z_get Z i_X12 hP 0 rfl rfl 0 (by decide) bw_1019 rfl dX12_bridge_56 ?_
          refine lv_iconst (v := 1) hx hb dX12_bridge_59 (by decide) ?_
          refine z_iald Z hP 1 0 rfl rfl (vin (by decide)) dX12_bridge_60 ?_
          refine lv_topi (fun z18 ez18 => ?_)
          have hz18 : z18.toInt = kc1 := by rw [ez18]; exact AK.k1 hrg17
          refine lv_imul hx hb dX12_bridge_61 ?_
          refine lv_topi (fun z19 ez19 => ?_)
          have hz19 : z19.toInt = 2 * z18.toInt := by rw [ez19]; exact zmulg (by first | with_reducible assumption | ((try simp only [zlt, zle, zeq, zl_0, zl_1, zl_2, zl_3, zl_4, zl_5, zl_6, zl_7, zl_8, zl_9, zl_10, zl_11, zl_12, zl_13, zl_14, zl_15, zl_16, zl_17, zl_18, zl_19, zl_20, zl_21, zl_22, zl_23, zl_24, zl_25, zl_26, zl_27, zl_28, zl_29, zl_30, zl_31, zl_32, zl_33, zl_34, zl_35, zl_36, zl_37, zl_38, zl_39, zl_40, zl_41, zl_42, zl_43, zl_44, zl_45, zl_46, zl_47, zl_48, zl_49, zl_50, zl_51, zl_52, zl_53, zl_54, zl_55, zl_56, zl_57, zl_58, zl_59, zl_60, zl_61, zl_62, zl_63, zl_64, zl_65, zl_82, zl_99, zl_100, zl_160, zl_299, zl_300, zl_301, zl_382, zl_398, zl_399, zl_464, zl_680, zl_862, zl_999, zl_1000, zl_9999, zl_10000, zl_1000000, zl_m1, zl_m2, zl_m3, zl_m8, zl_87, zl_88] at hi_td hi_spp hk_fa c4 c5 c9 c10 c11 hz12 c13 hz14 hz15 hz16 hz18 ⊢); omega)) (by first | with_reducible assumption | ((try simp only [zlt, zle, zeq, zl_0, zl_1, zl_2, zl_3, zl_4, zl_5, zl_6, zl_7, zl_8, zl_9, zl_10, zl_11, zl_12, zl_13, zl_14, zl_15, zl_16, zl_17, zl_18, zl_19, zl_20, zl_21, zl_22, zl_23, zl_24, zl_25, zl_26, zl_27, zl_28, zl_29, zl_30, zl_31, zl_32, zl_33, zl_34, zl_35, zl_36, zl_37, zl_38, zl_39, zl_40, zl_41, zl_42, zl_43, zl_44, zl_45, zl_46, zl_47, zl_48, zl_49, zl_50, zl_51, zl_52, zl_53, zl_54, zl_55, zl_56, zl_57, zl_58, zl_59, zl_60, zl_61, zl_62, zl_63, zl_64, zl_65, zl_82, zl_99, zl_100, zl_160, zl_299, zl_300, zl_301, zl_382, zl_398, zl_399, zl_464, zl_680, zl_862, zl_999, zl_1000, zl_9999, zl_10000, zl_1000000, zl_m1, zl_m2, zl_m3, zl_m8, zl_87, zl_88] at hi_td hi_spp hk_fa c4 c5 c9 c10 c11 hz12 c13 hz14 hz15 hz16 hz18 ⊢); omega))
          refine lv_iadd hx hb dX12_bridge_62 ?_
          refine lv_topi (fun z20 ez20 => ?_)
          have hz20 : z20.toInt = 16 + z19.toInt := by rw [ez20]; exact zaddg (by first | with_reducible assumption | ((try simp only [zlt, zle, zeq, zl_0, zl_1, zl_2, zl_3, zl_4, zl_5, zl_6, zl_7, zl_8, zl_9, zl_10, zl_11, zl_12, zl_13, zl_14, zl_15, zl_16, zl_17, zl_18, zl_19, zl_20, zl_21, zl_22, zl_23, zl_24, zl_25, zl_26, zl_27, zl_28, zl_29, zl_30, zl_31, zl_32, zl_33, zl_34, zl_35, zl_36, zl_37, zl_38, zl_39, zl_40, zl_41, zl_42, zl_43, zl_44, zl_45, zl_46, zl_47, zl_48, zl_49, zl_50, zl_51, zl_52, zl_53, zl_54, zl_55, zl_56, zl_57, zl_58, zl_59, zl_60, zl_61, zl_62, zl_63, zl_64, zl_65, zl_82, zl_99, zl_100, zl_160, zl_299, zl_300, zl_301, zl_382, zl_398, zl_399, zl_464, zl_680, zl_862, zl_999, zl_1000, zl_9999, zl_10000, zl_1000000, zl_m1, zl_m2, zl_m3, zl_m8, zl_87, zl_88] at hi_td hi_spp hk_fa c4 c5 c9 c10 c11 hz12 c13 hz14 hz15 hz16 hz18 hz19 ⊢); omega)) (by first | with_reducible assumption | ((try simp only [zlt, zle, zeq, zl_0, zl_1, zl_2, zl_3, zl_4, zl_5, zl_6, zl_7, zl_8, zl_9, zl_10, zl_11, zl_12, zl_13, zl_14, zl_15, zl_16, zl_17, zl_18, zl_19, zl_20, zl_21, zl_22, zl_23, zl_24, zl_25, zl_26, zl_27, zl_28, zl_29, zl_30, zl_31, zl_32, zl_33, zl_34, zl_35, zl_36, zl_37, zl_38, zl_39, zl_40, zl_41, zl_42, zl_43, zl_44, zl_45, zl_46, zl_47, zl_48, zl_49, zl_50, zl_51, zl_52, zl_53, zl_54, zl_55, zl_56, zl_57, zl_58, zl_59, zl_60, zl_61, zl_62, zl_63, zl_64, zl_65, zl_82, zl_99, zl_100, zl_160, zl_299, zl_300, zl_301, zl_382, zl_398, zl_399, zl_464, zl_680, zl_862, zl_999, zl_1000, zl_9999, zl_10000, zl_1000000, zl_m1, zl_m2, zl_m3, zl_m8, zl_87, zl_88] at hi_td hi_spp hk_fa c4 c5 c9 c10 c11 hz12 c13 hz14 hz15 hz16 hz18 hz19 ⊢); omega))
          refine lv_iconst (v := 1) hx hb dX12_bridge_63 (by decide) ?_
          refine lv_iadd hx hb dX12_bridge_64 ?_
          refine lv_topi (fun z21 ez21 => ?_)
          have hz21 : z21.toInt = z20.toInt + 1 := by rw [ez21]; exact zaddg (by first | with_reducible assumption | ((try simp only [zlt, zle, zeq, zl_0, zl_1, zl_2, zl_3, zl_4, zl_5, zl_6, zl_7, zl_8, zl_9, zl_10, zl_11, zl_12, zl_13, zl_14, zl_15, zl_16, zl_17, zl_18, zl_19, zl_20, zl_21, zl_22, zl_23, zl_24, zl_25, zl_26, zl_27, zl_28, zl_29, zl_30, zl_31, zl_32, zl_33, zl_34, zl_35, zl_36, zl_37, zl_38, zl_39, zl_40, zl_41, zl_42, zl_43, zl_44, zl_45, zl_46, zl_47, zl_48, zl_49, zl_50, zl_51, zl_52, zl_53, zl_54, zl_55, zl_56, zl_57, zl_58, zl_59, zl_60, zl_61, zl_62, zl_63, zl_64, zl_65, zl_82, zl_99, zl_100, zl_160, zl_299, zl_300, zl_301, zl_382, zl_398, zl_399, zl_464, zl_680, zl_862, zl_999, zl_1000, zl_9999, zl_10000, zl_1000000, zl_m1, zl_m2, zl_m3, zl_m8, zl_87, zl_88] at hi_td hi_spp hk_fa c4 c5 c9 c10 c11 hz12 c13 hz14 hz15 hz16 hz18 hz19 hz20 ⊢); omega)) (by first | with_reducible assumption | ((try simp only [zlt, zle, zeq, zl_0, zl_1, zl_2, zl_3, zl_4, zl_5, zl_6, zl_7, zl_8, zl_9, zl_10, zl_11, zl_12, zl_13, zl_14, zl_15, zl_16, zl_17, zl_18, zl_19, zl_20, zl_21, zl_22, zl_23, zl_24, zl_25, zl_26, zl_27, zl_28, zl_29, zl_30, zl_31, zl_32, zl_33, zl_34, zl_35, zl_36, zl_37, zl_38, zl_39, zl_40, zl_41, zl_42, zl_43, zl_44, zl_45, zl_46, zl_47, zl_48, zl_49, zl_50, zl_51, zl_52, zl_53, zl_54, zl_55, zl_56, zl_57, zl_58, zl_59, zl_60, zl_61, zl_62, zl_63, zl_64, zl_65, zl_82, zl_99, zl_100, zl_160, zl_299, zl_300, zl_301, zl_382, zl_398, zl_399, zl_464, zl_680, zl_862, zl_999, zl_1000, zl_9999, zl_10000, zl_1000000, zl_m1, zl_m2, zl_m3, zl_m8, zl_87, zl_88] at hi_td hi_spp hk_fa c4 c5 c9 c10 c11 hz12 c13 hz14 hz15 hz16 hz18 hz19 hz20 ⊢); omega))
          refine lv_iload_n hx hb dX12_bridge_65 rfl (lv_at hl 2 rfl) ?_
          refine z_iast Z hP hD hS 1 0 rfl rfl (vp_in_iff.mpr (by first | with_reducible assumption | ((try simp only [zlt, zle, zeq, zl_0, zl_1, zl_2, zl_3, zl_4, zl_5, zl_6, zl_7, zl_8, zl_9, zl_10, zl_11, zl_12, zl_13, zl_14, zl_15, zl_16, zl_17, zl_18, zl_19, zl_20, zl_21, zl_22, zl_23, zl_24, zl_25, zl_26, zl_27, zl_28, zl_29, zl_30, zl_31, zl_32, zl_33, zl_34, zl_35, zl_36, zl_37, zl_38, zl_39, zl_40, zl_41, zl_42, zl_43, zl_44, zl_45, zl_46, zl_47, zl_48, zl_49, zl_50, zl_51, zl_52, zl_53, zl_54, zl_55, zl_56, zl_57, zl_58, zl_59, zl_60, zl_61, zl_62, zl_63, zl_64, zl_65, zl_82, zl_99, zl_100, zl_160, zl_299, zl_300, zl_301, zl_382, zl_398, zl_399, zl_464, zl_680, zl_862, zl_999, zl_1000, zl_9999, zl_10000, zl_1000000, zl_m1, zl_m2, zl_m3, zl_m8, zl_87, zl_88] at hi_td hi_spp hk_fa c4 c5 c9 c10 c11 hz12 c13 hz14 hz15 hz16 hz18 hz19 hz20 hz21 ⊢); omega))) dX12_bridge_66 (fun H locs hP hD hS => ?_)
          have hrg22 := AK.st (x := z21) (v := p1) hrg17 (by first | with_reducible assumption | ((try simp only [zlt, zle, zeq, zl_0, zl_1, zl_2, zl_3, zl_4, zl_5, zl_6, zl_7, zl_8, zl_9, zl_10, zl_11, zl_12, zl_13, zl_14, zl_15, zl_16, zl_17, zl_18, zl_19, zl_20, zl_21, zl_22, zl_23, zl_24, zl_25, zl_26, zl_27, zl_28, zl_29, zl_30, zl_31, zl_32, zl_33, zl_34, zl_35, zl_36, zl_37, zl_38, zl_39, zl_40, zl_41, zl_42, zl_43, zl_44, zl_45, zl_46, zl_47, zl_48, zl_49, zl_50, zl_51, zl_52, zl_53, zl_54, zl_55, zl_56, zl_57, zl_58, zl_59, zl_60, zl_61, zl_62, zl_63, zl_64, zl_65, zl_82, zl_99, zl_100, zl_160, zl_299, zl_300, zl_301, zl_382, zl_398, zl_399, zl_464, zl_680, zl_862, zl_999, zl_1000, zl_9999, zl_10000, zl_1000000, zl_m1, zl_m2, zl_m3, zl_m8, zl_87, zl_88] at hi_td hi_spp hk_fa c4 c5 c9 c10 c11 hz12 c13 hz14 hz15 hz16 hz18 hz19 hz20 hz21 ⊢); omega)) (by unfold RAi; (try simp only [zlt, zle, zeq, zl_0, zl_1, zl_2, zl_3, zl_4, zl_5, zl_6, zl_7, zl_8, zl_9, zl_10, zl_11, zl_12, zl_13, zl_14, zl_15, zl_16, zl_17, zl_18, zl_19, zl_20, zl_21, zl_22, zl_23, zl_24, zl_25, zl_26, zl_27, zl_28, zl_29, zl_30, zl_31, zl_32, zl_33, zl_34, zl_35, zl_36, zl_37, zl_38, zl_39, zl_40, zl_41, zl_42, zl_43, zl_44, zl_45, zl_46, zl_47, zl_48, zl_49, zl_50, zl_51, zl_52, zl_53, zl_54, zl_55, zl_56, zl_57, zl_58, zl_59, zl_60, zl_61, zl_62, zl_63, zl_64, zl_65, zl_82, zl_99, zl_100, zl_160, zl_299, zl_300, zl_301, zl_382, zl_398, zl_399, zl_464, zl_680, zl_862, zl_999, zl_1000, zl_9999, zl_10000, zl_1000000, zl_m1, zl_m2, zl_m3, zl_m8, zl_87, zl_88] at hi_td hi_spp hk_fa c4 c5 c9 c10 c11 hz12 c13 hz14 hz15 hz16 hz18 hz19 hz20 hz21 ⊢); omega)
          generalize upd g17 (z21 : Int32).toNatClampNeg p1 = g22 at hP hD hrg22
          have hP : va_P D vwCl ([(q, .inr (12, [.ref aA, .ref aI, .ref xT, .ref tP_, .int td, .int fu, .int fp, .int at_, .int plc, .int tok, .int num, .long wrd, .int tx0, .int cls, .int wri, .int cam, .ref pI, .int pid, .int ope, .int isw, .int so0, .int onc, .ref nm, .ref vL, .ref tR, .int spp, .int eat, .int ste, .ref rW, .ref sP, .ref oT, .ref bS, .ref aS, .ref aO, .ref cS, .ref wY])), (aA, .inl (cI, 862, .inl g22))]) H := hP
          have hD : va_D A ([(q, .inr (12, [.ref aA, .ref aI, .ref xT, .ref tP_, .int td, .int fu, .int fp, .int at_, .int plc, .int tok, .int num, .long wrd, .int tx0, .int cls, .int wri, .int cam, .ref pI, .int pid, .int ope, .int isw, .int so0, .int onc, .ref nm, .ref vL, .ref tR, .int spp, .int eat, .int ste, .ref rW, .ref sP, .ref oT, .ref bS, .ref aS, .ref aO, .ref cS, .ref wY])), (aA, .inl (cI, 862, .inl g22))]) := hD
          refine lv_aload_n hx hb dX12_bridge_67 rfl (lv_at hl 0 rfl) ?_
          refine z_get Z i_X12 hP 0 rfl rfl 0 (by decide) bw_1019 rfl dX12_bridge_68 ?_
          refine lv_iconst (v := 1) hx hb dX12_bridge_71 (by decide) ?_
          refine lv_dup2_11 hx hb dX12_bridge_72 rfl rfl ?_
          refine z_iald Z hP 1 0 rfl rfl (vin (by decide)) dX12_bridge_73 ?_
          refine lv_topi (fun z23 ez23 => ?_)
          have hz23 : z23.toInt = kc1 := by rw [ez23]; exact AK.k1 hrg22
          refine lv_iconst (v := 1) hx hb dX12_bridge_74 (by decide) ?_
          refine lv_iadd hx hb dX12_bridge_75 ?_
          refine lv_topi (fun z24 ez24 => ?_)
          have hz24 : z24.toInt = z23.toInt + 1 := by rw [ez24]; exact zaddg (by first | with_reducible assumption | ((try simp only [zlt, zle, zeq, zl_0, zl_1, zl_2, zl_3, zl_4, zl_5, zl_6, zl_7, zl_8, zl_9, zl_10, zl_11, zl_12, zl_13, zl_14, zl_15, zl_16, zl_17, zl_18, zl_19, zl_20, zl_21, zl_22, zl_23, zl_24, zl_25, zl_26, zl_27, zl_28, zl_29, zl_30, zl_31, zl_32, zl_33, zl_34, zl_35, zl_36, zl_37, zl_38, zl_39, zl_40, zl_41, zl_42, zl_43, zl_44, zl_45, zl_46, zl_47, zl_48, zl_49, zl_50, zl_51, zl_52, zl_53, zl_54, zl_55, zl_56, zl_57, zl_58, zl_59, zl_60, zl_61, zl_62, zl_63, zl_64, zl_65, zl_82, zl_99, zl_100, zl_160, zl_299, zl_300, zl_301, zl_382, zl_398, zl_399, zl_464, zl_680, zl_862, zl_999, zl_1000, zl_9999, zl_10000, zl_1000000, zl_m1, zl_m2, zl_m3, zl_m8, zl_87, zl_88] at hi_td hi_spp hk_fa c4 c5 c9 c10 c11 hz12 c13 hz14 hz15 hz16 hz18 hz19 hz20 hz21 hz23 ⊢); omega)) (by first | with_reducible assumption | ((try simp only [zlt, zle, zeq, zl_0, zl_1, zl_2, zl_3, zl_4, zl_5, zl_6, zl_7, zl_8, zl_9, zl_10, zl_11, zl_12, zl_13, zl_14, zl_15, zl_16, zl_17, zl_18, zl_19, zl_20, zl_21, zl_22, zl_23, zl_24, zl_25, zl_26, zl_27, zl_28, zl_29, zl_30, zl_31, zl_32, zl_33, zl_34, zl_35, zl_36, zl_37, zl_38, zl_39, zl_40, zl_41, zl_42, zl_43, zl_44, zl_45, zl_46, zl_47, zl_48, zl_49, zl_50, zl_51, zl_52, zl_53, zl_54, zl_55, zl_56, zl_57, zl_58, zl_59, zl_60, zl_61, zl_62, zl_63, zl_64, zl_65, zl_82, zl_99, zl_100, zl_160, zl_299, zl_300, zl_301, zl_382, zl_398, zl_399, zl_464, zl_680, zl_862, zl_999, zl_1000, zl_9999, zl_10000, zl_1000000, zl_m1, zl_m2, zl_m3, zl_m8, zl_87, zl_88] at hi_td hi_spp hk_fa c4 c5 c9 c10 c11 hz12 c13 hz14 hz15 hz16 hz18 hz19 hz20 hz21 hz23 ⊢); omega))
          refine z_iast Z hP hD hS 1 0 rfl rfl (vin (by decide)) dX12_bridge_76 (fun H locs hP hD hS => ?_)
          have hrg25 := AK.s1 (v := z24) hrg22 (by first | with_reducible assumption | ((try simp only [zlt, zle, zeq, zl_0, zl_1, zl_2, zl_3, zl_4, zl_5, zl_6, zl_7, zl_8, zl_9, zl_10, zl_11, zl_12, zl_13, zl_14, zl_15, zl_16, zl_17, zl_18, zl_19, zl_20, zl_21, zl_22, zl_23, zl_24, zl_25, zl_26, zl_27, zl_28, zl_29, zl_30, zl_31, zl_32, zl_33, zl_34, zl_35, zl_36, zl_37, zl_38, zl_39, zl_40, zl_41, zl_42, zl_43, zl_44, zl_45, zl_46, zl_47, zl_48, zl_49, zl_50, zl_51, zl_52, zl_53, zl_54, zl_55, zl_56, zl_57, zl_58, zl_59, zl_60, zl_61, zl_62, zl_63, zl_64, zl_65, zl_82, zl_99, zl_100, zl_160, zl_299, zl_300, zl_301, zl_382, zl_398, zl_399, zl_464, zl_680, zl_862, zl_999, zl_1000, zl_9999, zl_10000, zl_1000000, zl_m1, zl_m2, zl_m3, zl_m8, zl_87, zl_88] at hi_td hi_spp hk_fa c4 c5 c9 c10 c11 hz12 c13 hz14 hz15 hz16 hz18 hz19 hz20 hz21 hz23 hz24 ⊢); omega))
          generalize upd g22 (1 : Int32).toNatClampNeg z24 = g25 at hP hD hrg25
          have hP : va_P D vwCl ([(q, .inr (12, [.ref aA, .ref aI, .ref xT, .ref tP_, .int td, .int fu, .int fp, .int at_, .int plc, .int tok, .int num, .long wrd, .int tx0, .int cls, .int wri, .int cam, .ref pI, .int pid, .int ope, .int isw, .int so0, .int onc, .ref nm, .ref vL, .ref tR, .int spp, .int eat, .int ste, .ref rW, .ref sP, .ref oT, .ref bS, .ref aS, .ref aO, .ref cS, .ref wY])), (aA, .inl (cI, 862, .inl g25))]) H := hP
          have hD : va_D A ([(q, .inr (12, [.ref aA, .ref aI, .ref xT, .ref tP_, .int td, .int fu, .int fp, .int at_, .int plc, .int tok, .int num, .long wrd, .int tx0, .int cls, .int wri, .int cam, .ref pI, .int pid, .int ope, .int isw, .int so0, .int onc, .ref nm, .ref vL, .ref tR, .int spp, .int eat, .int ste, .ref rW, .ref sP, .ref oT, .ref bS, .ref aS, .ref aO, .ref cS, .ref wY])), (aA, .inl (cI, 862, .inl g25))]) := hD
          refine lv_aload_n hx hb dX12_bridge_77 rfl (lv_at hl 0 rfl) ?_
          refine z_get Z i_X12 hP 0 rfl rfl 0 (by decide) bw_1019 rfl dX12_bridge_78 ?_
          refine lv_iconst (v := 1) hx hb dX12_bridge_81 (by decide) ?_
          refine z_iald Z hP 1 0 rfl rfl (vin (by decide)) dX12_bridge_82 ?_
          refine lv_topi (fun z26 ez26 => ?_)
          have hz26 : z26.toInt = (z24 : Int32).toInt := by rw [ez26]; exact AK.k1 hrg25
          exact z_ret Z rfl hP hD hS (⟨g25, ((z24 : Int32).toInt), rfl, hrg25, (by (try simp only [zlt, zle, zeq, zl_0, zl_1, zl_2, zl_3, zl_4, zl_5, zl_6, zl_7, zl_8, zl_9, zl_10, zl_11, zl_12, zl_13, zl_14, zl_15, zl_16, zl_17, zl_18, zl_19, zl_20, zl_21, zl_22, zl_23, zl_24, zl_25, zl_26, zl_27, zl_28, zl_29, zl_30, zl_31, zl_32, zl_33, zl_34, zl_35, zl_36, zl_37, zl_38, zl_39, zl_40, zl_41, zl_42, zl_43, zl_44, zl_45, zl_46, zl_47, zl_48, zl_49, zl_50, zl_51, zl_52, zl_53, zl_54, zl_55, zl_56, zl_57, zl_58, zl_59, zl_60, zl_61, zl_62, zl_63, zl_64, zl_65, zl_82, zl_99, zl_100, zl_160, zl_299, zl_300, zl_301, zl_382, zl_398, zl_399, zl_464, zl_680, zl_862, zl_999, zl_1000, zl_9999, zl_10000, zl_1000000, zl_m1, zl_m2, zl_m3, zl_m8, zl_87, zl_88, and_true, true_and, and_false, false_and, or_false, false_or, or_true, true_or, not_true_eq_false, not_false_eq_true] at hi_td hi_spp hk_fa c4 c5 c9 c10 c11 hz12 c13 hz14 hz15 hz16 hz18 hz19 hz20 hz21 hz23 hz24 hz26 ⊢) <;> omega)⟩) dX12_bridge_83 (Nat.le_of_ble_eq_true rfl) (Nat.le_of_ble_eq_true rfl)
        · refine lv_iconst (v := (-1)) hx hb dX12_bridge_29 (by decide) ?_
          exact z_ret Z rfl hP hD hS (⟨fa, kc1, rfl, hr_fa, (by (try simp only [zlt, zle, zeq, zl_0, zl_1, zl_2, zl_3, zl_4, zl_5, zl_6, zl_7, zl_8, zl_9, zl_10, zl_11, zl_12, zl_13, zl_14, zl_15, zl_16, zl_17, zl_18, zl_19, zl_20, zl_21, zl_22, zl_23, zl_24, zl_25, zl_26, zl_27, zl_28, zl_29, zl_30, zl_31, zl_32, zl_33, zl_34, zl_35, zl_36, zl_37, zl_38, zl_39, zl_40, zl_41, zl_42, zl_43, zl_44, zl_45, zl_46, zl_47, zl_48, zl_49, zl_50, zl_51, zl_52, zl_53, zl_54, zl_55, zl_56, zl_57, zl_58, zl_59, zl_60, zl_61, zl_62, zl_63, zl_64, zl_65, zl_82, zl_99, zl_100, zl_160, zl_299, zl_300, zl_301, zl_382, zl_398, zl_399, zl_464, zl_680, zl_862, zl_999, zl_1000, zl_9999, zl_10000, zl_1000000, zl_m1, zl_m2, zl_m3, zl_m8, zl_87, zl_88, and_true, true_and, and_false, false_and, or_false, false_or, or_true, true_or, not_true_eq_false, not_false_eq_true] at hi_td hi_spp hk_fa c4 c5 c9 c10 c11 hz12 c13 ⊢) <;> omega)⟩) dX12_bridge_30 (Nat.le_of_ble_eq_true rfl) (Nat.le_of_ble_eq_true rfl)
    · obtain rfl : r7 = 0 := by rw [hrh8, if_neg c9]
      refine lv_if_eq (tgt := 29) hx hb dX12_bridge_11 (by decide) (fun c27 => ?_) (fun h => absurd (by decide) h)
      refine lv_iconst (v := (-1)) hx hb dX12_bridge_29 (by decide) ?_
      exact z_ret Z rfl hP hD hS (⟨fa, kc1, rfl, hr_fa, (by (try simp only [zlt, zle, zeq, zl_0, zl_1, zl_2, zl_3, zl_4, zl_5, zl_6, zl_7, zl_8, zl_9, zl_10, zl_11, zl_12, zl_13, zl_14, zl_15, zl_16, zl_17, zl_18, zl_19, zl_20, zl_21, zl_22, zl_23, zl_24, zl_25, zl_26, zl_27, zl_28, zl_29, zl_30, zl_31, zl_32, zl_33, zl_34, zl_35, zl_36, zl_37, zl_38, zl_39, zl_40, zl_41, zl_42, zl_43, zl_44, zl_45, zl_46, zl_47, zl_48, zl_49, zl_50, zl_51, zl_52, zl_53, zl_54, zl_55, zl_56, zl_57, zl_58, zl_59, zl_60, zl_61, zl_62, zl_63, zl_64, zl_65, zl_82, zl_99, zl_100, zl_160, zl_299, zl_300, zl_301, zl_382, zl_398, zl_399, zl_464, zl_680, zl_862, zl_999, zl_1000, zl_9999, zl_10000, zl_1000000, zl_m1, zl_m2, zl_m3, zl_m8, zl_87, zl_88, and_true, true_and, and_false, false_and, or_false, false_or, or_true, true_or, not_true_eq_false, not_false_eq_true] at hi_td hi_spp hk_fa c4 c5 c9 c27 ⊢) <;> omega)⟩) dX12_bridge_30 (Nat.le_of_ble_eq_true rfl) (Nat.le_of_ble_eq_true rfl)
  · obtain rfl : r2 = 0 := by rw [hrh3, if_neg c4]
    refine lv_if_eq (tgt := 29) hx hb dX12_bridge_4 (by decide) (fun c28 => ?_) (fun h => absurd (by decide) h)
    refine lv_iconst (v := (-1)) hx hb dX12_bridge_29 (by decide) ?_
    exact z_ret Z rfl hP hD hS (⟨fa, kc1, rfl, hr_fa, (by (try simp only [zlt, zle, zeq, zl_0, zl_1, zl_2, zl_3, zl_4, zl_5, zl_6, zl_7, zl_8, zl_9, zl_10, zl_11, zl_12, zl_13, zl_14, zl_15, zl_16, zl_17, zl_18, zl_19, zl_20, zl_21, zl_22, zl_23, zl_24, zl_25, zl_26, zl_27, zl_28, zl_29, zl_30, zl_31, zl_32, zl_33, zl_34, zl_35, zl_36, zl_37, zl_38, zl_39, zl_40, zl_41, zl_42, zl_43, zl_44, zl_45, zl_46, zl_47, zl_48, zl_49, zl_50, zl_51, zl_52, zl_53, zl_54, zl_55, zl_56, zl_57, zl_58, zl_59, zl_60, zl_61, zl_62, zl_63, zl_64, zl_65, zl_82, zl_99, zl_100, zl_160, zl_299, zl_300, zl_301, zl_382, zl_398, zl_399, zl_464, zl_680, zl_862, zl_999, zl_1000, zl_9999, zl_10000, zl_1000000, zl_m1, zl_m2, zl_m3, zl_m8, zl_87, zl_88, and_true, true_and, and_false, false_and, or_false, false_or, or_true, true_or, not_true_eq_false, not_false_eq_true] at hi_td hi_spp hk_fa c4 c28 ⊢) <;> omega)⟩) dX12_bridge_30 (Nat.le_of_ble_eq_true rfl) (Nat.le_of_ble_eq_true rfl)
set_option maxHeartbeats 4000000 in
set_option maxRecDepth 100000 in
theorem c_X12_inn (l : Launch) (D : va_G) (cI cM cT cJ cZ : ClassId) (q : Nat) (p0 : Int32) (aA : Nat) (aI : Nat) (xT : Nat) (tP_ : Nat) (td : Int32) (fu : Int32) (fp : Int32) (at_ : Int32) (plc : Int32) (tok : Int32) (num : Int32) (wrd : Int64) (tx0 : Int32) (cls : Int32) (wri : Int32) (cam : Int32) (pI : Nat) (pid : Int32) (ope : Int32) (isw : Int32) (so0 : Int32) (onc : Int32) (nm : Nat) (vL : Nat) (tR : Nat) (spp : Int32) (eat : Int32) (ste : Int32) (rW : Nat) (sP : Nat) (oT : Nat) (bS : Nat) (aS : Nat) (aO : Nat) (cS : Nat) (wY : Nat) (fa : Nat → Int32) (kc0 : Int) (kc1 : Int) (kc6 : Int) (kc9 : Int) (kc10 : Int) (hi_td : 0 ≤ td.toInt ∧ td.toInt ≤ 300) (hi_spp : 0 ≤ spp.toInt ∧ spp.toInt ≤ 299) (hr_fa : AK kc0 kc1 kc6 kc9 kc10 fa) : Ci l D (ty3 cI cM cT cJ cZ) yX12_inn cX12_inn 2 (some .int) 2 0 0 [.ref q, .int p0] ([(q, .inr (12, [.ref aA, .ref aI, .ref xT, .ref tP_, .int td, .int fu, .int fp, .int at_, .int plc, .int tok, .int num, .long wrd, .int tx0, .int cls, .int wri, .int cam, .ref pI, .int pid, .int ope, .int isw, .int so0, .int onc, .ref nm, .ref vL, .ref tR, .int spp, .int eat, .int ste, .ref rW, .ref sP, .ref oT, .ref bS, .ref aS, .ref aO, .ref cS, .ref wY])), (aA, .inl (cI, 862, .inl fa))]) (fun r u => ∃ (fa_n : Nat → Int32), u = [(q, .inr (12, [.ref aA, .ref aI, .ref xT, .ref tP_, .int td, .int fu, .int fp, .int at_, .int plc, .int tok, .int num, .long wrd, .int tx0, .int cls, .int wri, .int cam, .ref pI, .int pid, .int ope, .int isw, .int so0, .int onc, .ref nm, .ref vL, .ref tR, .int spp, .int eat, .int ste, .ref rW, .ref sP, .ref oT, .ref bS, .ref aS, .ref aO, .ref cS, .ref wY])), (aA, .inl (cI, 862, .inl fa_n))] ∧ AK kc0 kc1 kc6 kc9 kc10 fa_n) := by
  refine Ci.of (by decide +kernel) (Nat.le_of_ble_eq_true rfl) ?_
  intro p e s m below meth c A ls Z hin hP hD hl
  have hx := Z.1
  have hb := Z.2.1
  have hS : va_S A s.heap s.heap [] := va_S.rf
  have hl : lv_has ls 2 [(0, .ref q), (1, .int p0)] := hl
  skip
  have hk_fa := AK.rng hr_fa
  refine lv_iload_n hx hb dX12_inn_0 rfl (lv_at hl 1 rfl) ?_
  have hPc := hP.sub2 (wc := []) [] rfl
  have hDc := hD.sub (ws' := []) [] (by decide) rfl
  refine raw_Si (nA := 1) (As := [.int p0]) (rest := []) Z hl.1 (c_X12_isPlace l D cI cM cT cJ cZ p0) (bw_S bw_1132 bw_1133 bw_92 bw_1134) ⟨by decide +kernel, by decide +kernel, by decide +kernel⟩ rfl ⟨Nat.le_of_ble_eq_true rfl, Nat.le_of_ble_eq_true rfl⟩ hPc hDc hS rfl (Nat.le_of_ble_eq_true rfl) dX12_inn_1 ⟨Nat.le_of_ble_eq_true rfl, Nat.le_of_ble_eq_true rfl⟩ (fun r2 u1 H1 locs1 h3 hku1 hP1 hD1 hS1 => ?_)
  obtain ⟨hrh3, rfl⟩ := h3
  obtain ⟨hP, hD⟩ := z_join (wr := [(q, .inr (12, [.ref aA, .ref aI, .ref xT, .ref tP_, .int td, .int fu, .int fp, .int at_, .int plc, .int tok, .int num, .long wrd, .int tx0, .int cls, .int wri, .int cam, .ref pI, .int pid, .int ope, .int isw, .int so0, .int onc, .ref nm, .ref vL, .ref tR, .int spp, .int eat, .int ste, .ref rW, .ref sP, .ref oT, .ref bS, .ref aS, .ref aO, .ref cS, .ref wY])), (aA, .inl (cI, 862, .inl fa))]) Z hS hP hD [] [0, 1] rfl (by decide) rfl (by decide) (by decide) hku1 hP1 hD1
  have hS := hS1
  clear hS1
  generalize H1 = H at hP hS ⊢
  generalize locs1 = locs at hS ⊢
  have hP : va_P D vwCl ([(q, .inr (12, [.ref aA, .ref aI, .ref xT, .ref tP_, .int td, .int fu, .int fp, .int at_, .int plc, .int tok, .int num, .long wrd, .int tx0, .int cls, .int wri, .int cam, .ref pI, .int pid, .int ope, .int isw, .int so0, .int onc, .ref nm, .ref vL, .ref tR, .int spp, .int eat, .int ste, .ref rW, .ref sP, .ref oT, .ref bS, .ref aS, .ref aO, .ref cS, .ref wY])), (aA, .inl (cI, 862, .inl fa))]) H := hP
  have hD : va_D A ([(q, .inr (12, [.ref aA, .ref aI, .ref xT, .ref tP_, .int td, .int fu, .int fp, .int at_, .int plc, .int tok, .int num, .long wrd, .int tx0, .int cls, .int wri, .int cam, .ref pI, .int pid, .int ope, .int isw, .int so0, .int onc, .ref nm, .ref vL, .ref tR, .int spp, .int eat, .int ste, .ref rW, .ref sP, .ref oT, .ref bS, .ref aS, .ref aO, .ref cS, .ref wY])), (aA, .inl (cI, 862, .inl fa))]) := hD
  by_cases c4 : 0 ≤ p0 ∧ p0 ≤ 299
  · obtain rfl : r2 = 1 := by rw [hrh3, if_pos c4]
    refine lv_if_eq (tgt := 18) hx hb dX12_inn_4 (by decide) (fun h => absurd h (by decide)) (fun c5 => ?_)
    refine lv_aload_n hx hb dX12_inn_7 rfl (lv_at hl 0 rfl) ?_
    refine z_get Z i_X12 hP 0 rfl rfl 0 (by decide) bw_1019 rfl dX12_inn_8 ?_
    refine lv_iconst (v := 2) hx hb dX12_inn_11 (by decide) ?_
    refine z_iald Z hP 1 0 rfl rfl (vin (by decide)) dX12_inn_12 ?_
    refine lv_topi (fun z6 ez6 => ?_)
    have h8z6 : z6.toInt = (fa 2).toInt := by rw [ez6]; rfl
    have hz6 : 0 ≤ z6.toInt ∧ z6.toInt ≤ 10 := by rw [ez6]; exact AK.k2 hr_fa
    refine lv_bipush (v := 10) hx hb dX12_inn_13 (by decide) ?_
    refine lv_icmp_ne (tgt := 20) hx hb dX12_inn_15 (by decide) (fun c7 => ?_) (fun c7 => ?_)
    · refine lv_aload_n hx hb dX12_inn_20 rfl (lv_at hl 0 rfl) ?_
      refine z_get Z i_X12 hP 0 rfl rfl 0 (by decide) bw_1019 rfl dX12_inn_21 ?_
      refine lv_bipush (v := 24) hx hb dX12_inn_24 (by decide) ?_
      refine lv_aload_n hx hb dX12_inn_26 rfl (lv_at hl 0 rfl) ?_
      refine z_get Z i_X12 hP 0 rfl rfl 0 (by decide) bw_1019 rfl dX12_inn_27 ?_
      refine lv_iconst (v := 2) hx hb dX12_inn_30 (by decide) ?_
      refine z_iald Z hP 1 0 rfl rfl (vin (by decide)) dX12_inn_31 ?_
      refine lv_topi (fun z8 ez8 => ?_)
      have hsnz8 : z8.toInt = z6.toInt := by rw [ez8, ez6]
      have h8z8 : z8.toInt = (fa 2).toInt := by rw [ez8]; rfl
      have hz8 : 0 ≤ z8.toInt ∧ z8.toInt ≤ 10 := by rw [ez8]; exact AK.k2 hr_fa
      refine lv_iadd hx hb dX12_inn_32 ?_
      refine lv_topi (fun z9 ez9 => ?_)
      have hz9 : z9.toInt = 24 + z8.toInt := by rw [ez9]; exact zaddg (by first | with_reducible assumption | ((try simp only [zlt, zle, zeq, zl_0, zl_1, zl_2, zl_3, zl_4, zl_5, zl_6, zl_7, zl_8, zl_9, zl_10, zl_11, zl_12, zl_13, zl_14, zl_15, zl_16, zl_17, zl_18, zl_19, zl_20, zl_21, zl_22, zl_23, zl_24, zl_25, zl_26, zl_27, zl_28, zl_29, zl_30, zl_31, zl_32, zl_33, zl_34, zl_35, zl_36, zl_37, zl_38, zl_39, zl_40, zl_41, zl_42, zl_43, zl_44, zl_45, zl_46, zl_47, zl_48, zl_49, zl_50, zl_51, zl_52, zl_53, zl_54, zl_55, zl_56, zl_57, zl_58, zl_59, zl_60, zl_61, zl_62, zl_63, zl_64, zl_65, zl_82, zl_99, zl_100, zl_160, zl_299, zl_300, zl_301, zl_382, zl_398, zl_399, zl_464, zl_680, zl_862, zl_999, zl_1000, zl_9999, zl_10000, zl_1000000, zl_m1, zl_m2, zl_m3, zl_m8, zl_87, zl_88] at hi_td hi_spp hk_fa c4 c5 h8z6 hz6 c7 hsnz8 h8z8 hz8 ⊢); omega)) (by first | with_reducible assumption | ((try simp only [zlt, zle, zeq, zl_0, zl_1, zl_2, zl_3, zl_4, zl_5, zl_6, zl_7, zl_8, zl_9, zl_10, zl_11, zl_12, zl_13, zl_14, zl_15, zl_16, zl_17, zl_18, zl_19, zl_20, zl_21, zl_22, zl_23, zl_24, zl_25, zl_26, zl_27, zl_28, zl_29, zl_30, zl_31, zl_32, zl_33, zl_34, zl_35, zl_36, zl_37, zl_38, zl_39, zl_40, zl_41, zl_42, zl_43, zl_44, zl_45, zl_46, zl_47, zl_48, zl_49, zl_50, zl_51, zl_52, zl_53, zl_54, zl_55, zl_56, zl_57, zl_58, zl_59, zl_60, zl_61, zl_62, zl_63, zl_64, zl_65, zl_82, zl_99, zl_100, zl_160, zl_299, zl_300, zl_301, zl_382, zl_398, zl_399, zl_464, zl_680, zl_862, zl_999, zl_1000, zl_9999, zl_10000, zl_1000000, zl_m1, zl_m2, zl_m3, zl_m8, zl_87, zl_88] at hi_td hi_spp hk_fa c4 c5 h8z6 hz6 c7 hsnz8 h8z8 hz8 ⊢); omega))
      refine lv_iload_n hx hb dX12_inn_33 rfl (lv_at hl 1 rfl) ?_
      refine z_iast Z hP hD hS 1 0 rfl rfl (vp_in_iff.mpr (by first | with_reducible assumption | ((try simp only [zlt, zle, zeq, zl_0, zl_1, zl_2, zl_3, zl_4, zl_5, zl_6, zl_7, zl_8, zl_9, zl_10, zl_11, zl_12, zl_13, zl_14, zl_15, zl_16, zl_17, zl_18, zl_19, zl_20, zl_21, zl_22, zl_23, zl_24, zl_25, zl_26, zl_27, zl_28, zl_29, zl_30, zl_31, zl_32, zl_33, zl_34, zl_35, zl_36, zl_37, zl_38, zl_39, zl_40, zl_41, zl_42, zl_43, zl_44, zl_45, zl_46, zl_47, zl_48, zl_49, zl_50, zl_51, zl_52, zl_53, zl_54, zl_55, zl_56, zl_57, zl_58, zl_59, zl_60, zl_61, zl_62, zl_63, zl_64, zl_65, zl_82, zl_99, zl_100, zl_160, zl_299, zl_300, zl_301, zl_382, zl_398, zl_399, zl_464, zl_680, zl_862, zl_999, zl_1000, zl_9999, zl_10000, zl_1000000, zl_m1, zl_m2, zl_m3, zl_m8, zl_87, zl_88] at hi_td hi_spp hk_fa c4 c5 h8z6 hz6 c7 hsnz8 h8z8 hz8 hz9 ⊢); omega))) dX12_inn_34 (fun H locs hP hD hS => ?_)
      have hrg10 := AK.st (x := z9) (v := p0) hr_fa (by first | with_reducible assumption | ((try simp only [zlt, zle, zeq, zl_0, zl_1, zl_2, zl_3, zl_4, zl_5, zl_6, zl_7, zl_8, zl_9, zl_10, zl_11, zl_12, zl_13, zl_14, zl_15, zl_16, zl_17, zl_18, zl_19, zl_20, zl_21, zl_22, zl_23, zl_24, zl_25, zl_26, zl_27, zl_28, zl_29, zl_30, zl_31, zl_32, zl_33, zl_34, zl_35, zl_36, zl_37, zl_38, zl_39, zl_40, zl_41, zl_42, zl_43, zl_44, zl_45, zl_46, zl_47, zl_48, zl_49, zl_50, zl_51, zl_52, zl_53, zl_54, zl_55, zl_56, zl_57, zl_58, zl_59, zl_60, zl_61, zl_62, zl_63, zl_64, zl_65, zl_82, zl_99, zl_100, zl_160, zl_299, zl_300, zl_301, zl_382, zl_398, zl_399, zl_464, zl_680, zl_862, zl_999, zl_1000, zl_9999, zl_10000, zl_1000000, zl_m1, zl_m2, zl_m3, zl_m8, zl_87, zl_88] at hi_td hi_spp hk_fa c4 c5 h8z6 hz6 c7 hsnz8 h8z8 hz8 hz9 ⊢); omega)) (by unfold RAi; (try simp only [zlt, zle, zeq, zl_0, zl_1, zl_2, zl_3, zl_4, zl_5, zl_6, zl_7, zl_8, zl_9, zl_10, zl_11, zl_12, zl_13, zl_14, zl_15, zl_16, zl_17, zl_18, zl_19, zl_20, zl_21, zl_22, zl_23, zl_24, zl_25, zl_26, zl_27, zl_28, zl_29, zl_30, zl_31, zl_32, zl_33, zl_34, zl_35, zl_36, zl_37, zl_38, zl_39, zl_40, zl_41, zl_42, zl_43, zl_44, zl_45, zl_46, zl_47, zl_48, zl_49, zl_50, zl_51, zl_52, zl_53, zl_54, zl_55, zl_56, zl_57, zl_58, zl_59, zl_60, zl_61, zl_62, zl_63, zl_64, zl_65, zl_82, zl_99, zl_100, zl_160, zl_299, zl_300, zl_301, zl_382, zl_398, zl_399, zl_464, zl_680, zl_862, zl_999, zl_1000, zl_9999, zl_10000, zl_1000000, zl_m1, zl_m2, zl_m3, zl_m8, zl_87, zl_88] at hi_td hi_spp hk_fa c4 c5 h8z6 hz6 c7 hsnz8 h8z8 hz8 hz9 ⊢); omega)
      have t2g10 : (upd fa (z9 : Int32).toNatClampNeg p0 2).toInt = (fa 2).toInt := by rw [pk_un (by have ez9 := zcl (x := z9) (by first | with_reducible assumption | ((try simp only [zlt, zle, zeq, zl_0, zl_1, zl_2, zl_3, zl_4, zl_5, zl_6, zl_7, zl_8, zl_9, zl_10, zl_11, zl_12, zl_13, zl_14, zl_15, zl_16, zl_17, zl_18, zl_19, zl_20, zl_21, zl_22, zl_23, zl_24, zl_25, zl_26, zl_27, zl_28, zl_29, zl_30, zl_31, zl_32, zl_33, zl_34, zl_35, zl_36, zl_37, zl_38, zl_39, zl_40, zl_41, zl_42, zl_43, zl_44, zl_45, zl_46, zl_47, zl_48, zl_49, zl_50, zl_51, zl_52, zl_53, zl_54, zl_55, zl_56, zl_57, zl_58, zl_59, zl_60, zl_61, zl_62, zl_63, zl_64, zl_65, zl_82, zl_99, zl_100, zl_160, zl_299, zl_300, zl_301, zl_382, zl_398, zl_399, zl_464, zl_680, zl_862, zl_999, zl_1000, zl_9999, zl_10000, zl_1000000, zl_m1, zl_m2, zl_m3, zl_m8, zl_87, zl_88] at hi_td hi_spp hk_fa c4 c5 h8z6 hz6 c7 hsnz8 h8z8 hz8 hz9 ⊢); omega)); (try simp only [zlt, zle, zeq, zl_0, zl_1, zl_2, zl_3, zl_4, zl_5, zl_6, zl_7, zl_8, zl_9, zl_10, zl_11, zl_12, zl_13, zl_14, zl_15, zl_16, zl_17, zl_18, zl_19, zl_20, zl_21, zl_22, zl_23, zl_24, zl_25, zl_26, zl_27, zl_28, zl_29, zl_30, zl_31, zl_32, zl_33, zl_34, zl_35, zl_36, zl_37, zl_38, zl_39, zl_40, zl_41, zl_42, zl_43, zl_44, zl_45, zl_46, zl_47, zl_48, zl_49, zl_50, zl_51, zl_52, zl_53, zl_54, zl_55, zl_56, zl_57, zl_58, zl_59, zl_60, zl_61, zl_62, zl_63, zl_64, zl_65, zl_82, zl_99, zl_100, zl_160, zl_299, zl_300, zl_301, zl_382, zl_398, zl_399, zl_464, zl_680, zl_862, zl_999, zl_1000, zl_9999, zl_10000, zl_1000000, zl_m1, zl_m2, zl_m3, zl_m8, zl_87, zl_88] at hi_td hi_spp hk_fa c4 c5 h8z6 hz6 c7 hsnz8 h8z8 hz8 hz9 ez9 ⊢); omega)]
      generalize upd fa (z9 : Int32).toNatClampNeg p0 = g10 at hP hD hrg10 t2g10
      have hP : va_P D vwCl ([(q, .inr (12, [.ref aA, .ref aI, .ref xT, .ref tP_, .int td, .int fu, .int fp, .int at_, .int plc, .int tok, .int num, .long wrd, .int tx0, .int cls, .int wri, .int cam, .ref pI, .int pid, .int ope, .int isw, .int so0, .int onc, .ref nm, .ref vL, .ref tR, .int spp, .int eat, .int ste, .ref rW, .ref sP, .ref oT, .ref bS, .ref aS, .ref aO, .ref cS, .ref wY])), (aA, .inl (cI, 862, .inl g10))]) H := hP
      have hD : va_D A ([(q, .inr (12, [.ref aA, .ref aI, .ref xT, .ref tP_, .int td, .int fu, .int fp, .int at_, .int plc, .int tok, .int num, .long wrd, .int tx0, .int cls, .int wri, .int cam, .ref pI, .int pid, .int ope, .int isw, .int so0, .int onc, .ref nm, .ref vL, .ref tR, .int spp, .int eat, .int ste, .ref rW, .ref sP, .ref oT, .ref bS, .ref aS, .ref aO, .ref cS, .ref wY])), (aA, .inl (cI, 862, .inl g10))]) := hD
      refine lv_aload_n hx hb dX12_inn_35 rfl (lv_at hl 0 rfl) ?_
      refine z_get Z i_X12 hP 0 rfl rfl 0 (by decide) bw_1019 rfl dX12_inn_36 ?_
      refine lv_iconst (v := 2) hx hb dX12_inn_39 (by decide) ?_
      refine lv_dup2_11 hx hb dX12_inn_40 rfl rfl ?_
      refine z_iald Z hP 1 0 rfl rfl (vin (by decide)) dX12_inn_41 ?_
      refine lv_topi (fun z11 ez11 => ?_)
      have h8z11 : z11.toInt = (g10 2).toInt := by rw [ez11]; rfl
      have hz11 : 0 ≤ z11.toInt ∧ z11.toInt ≤ 10 := by rw [ez11]; exact AK.k2 hrg10
      refine lv_iconst (v := 1) hx hb dX12_inn_42 (by decide) ?_
      refine lv_iadd hx hb dX12_inn_43 ?_
      refine lv_topi (fun z12 ez12 => ?_)
      have hz12 : z12.toInt = z11.toInt + 1 := by rw [ez12]; exact zaddg (by first | with_reducible assumption | ((try simp only [zlt, zle, zeq, zl_0, zl_1, zl_2, zl_3, zl_4, zl_5, zl_6, zl_7, zl_8, zl_9, zl_10, zl_11, zl_12, zl_13, zl_14, zl_15, zl_16, zl_17, zl_18, zl_19, zl_20, zl_21, zl_22, zl_23, zl_24, zl_25, zl_26, zl_27, zl_28, zl_29, zl_30, zl_31, zl_32, zl_33, zl_34, zl_35, zl_36, zl_37, zl_38, zl_39, zl_40, zl_41, zl_42, zl_43, zl_44, zl_45, zl_46, zl_47, zl_48, zl_49, zl_50, zl_51, zl_52, zl_53, zl_54, zl_55, zl_56, zl_57, zl_58, zl_59, zl_60, zl_61, zl_62, zl_63, zl_64, zl_65, zl_82, zl_99, zl_100, zl_160, zl_299, zl_300, zl_301, zl_382, zl_398, zl_399, zl_464, zl_680, zl_862, zl_999, zl_1000, zl_9999, zl_10000, zl_1000000, zl_m1, zl_m2, zl_m3, zl_m8, zl_87, zl_88] at hi_td hi_spp hk_fa c4 c5 h8z6 hz6 c7 hsnz8 h8z8 hz8 hz9 t2g10 h8z11 hz11 ⊢); omega)) (by first | with_reducible assumption | ((try simp only [zlt, zle, zeq, zl_0, zl_1, zl_2, zl_3, zl_4, zl_5, zl_6, zl_7, zl_8, zl_9, zl_10, zl_11, zl_12, zl_13, zl_14, zl_15, zl_16, zl_17, zl_18, zl_19, zl_20, zl_21, zl_22, zl_23, zl_24, zl_25, zl_26, zl_27, zl_28, zl_29, zl_30, zl_31, zl_32, zl_33, zl_34, zl_35, zl_36, zl_37, zl_38, zl_39, zl_40, zl_41, zl_42, zl_43, zl_44, zl_45, zl_46, zl_47, zl_48, zl_49, zl_50, zl_51, zl_52, zl_53, zl_54, zl_55, zl_56, zl_57, zl_58, zl_59, zl_60, zl_61, zl_62, zl_63, zl_64, zl_65, zl_82, zl_99, zl_100, zl_160, zl_299, zl_300, zl_301, zl_382, zl_398, zl_399, zl_464, zl_680, zl_862, zl_999, zl_1000, zl_9999, zl_10000, zl_1000000, zl_m1, zl_m2, zl_m3, zl_m8, zl_87, zl_88] at hi_td hi_spp hk_fa c4 c5 h8z6 hz6 c7 hsnz8 h8z8 hz8 hz9 t2g10 h8z11 hz11 ⊢); omega))
      refine z_iast Z hP hD hS 1 0 rfl rfl (vin (by decide)) dX12_inn_44 (fun H locs hP hD hS => ?_)
      have hrg13 := AK.st (x := 2) (v := z12) hrg10 (by first | with_reducible assumption | ((try simp only [zlt, zle, zeq, zl_0, zl_1, zl_2, zl_3, zl_4, zl_5, zl_6, zl_7, zl_8, zl_9, zl_10, zl_11, zl_12, zl_13, zl_14, zl_15, zl_16, zl_17, zl_18, zl_19, zl_20, zl_21, zl_22, zl_23, zl_24, zl_25, zl_26, zl_27, zl_28, zl_29, zl_30, zl_31, zl_32, zl_33, zl_34, zl_35, zl_36, zl_37, zl_38, zl_39, zl_40, zl_41, zl_42, zl_43, zl_44, zl_45, zl_46, zl_47, zl_48, zl_49, zl_50, zl_51, zl_52, zl_53, zl_54, zl_55, zl_56, zl_57, zl_58, zl_59, zl_60, zl_61, zl_62, zl_63, zl_64, zl_65, zl_82, zl_99, zl_100, zl_160, zl_299, zl_300, zl_301, zl_382, zl_398, zl_399, zl_464, zl_680, zl_862, zl_999, zl_1000, zl_9999, zl_10000, zl_1000000, zl_m1, zl_m2, zl_m3, zl_m8, zl_87, zl_88] at hi_td hi_spp hk_fa c4 c5 h8z6 hz6 c7 hsnz8 h8z8 hz8 hz9 t2g10 h8z11 hz11 hz12 ⊢); omega)) (by unfold RAi; (try simp only [zlt, zle, zeq, zl_0, zl_1, zl_2, zl_3, zl_4, zl_5, zl_6, zl_7, zl_8, zl_9, zl_10, zl_11, zl_12, zl_13, zl_14, zl_15, zl_16, zl_17, zl_18, zl_19, zl_20, zl_21, zl_22, zl_23, zl_24, zl_25, zl_26, zl_27, zl_28, zl_29, zl_30, zl_31, zl_32, zl_33, zl_34, zl_35, zl_36, zl_37, zl_38, zl_39, zl_40, zl_41, zl_42, zl_43, zl_44, zl_45, zl_46, zl_47, zl_48, zl_49, zl_50, zl_51, zl_52, zl_53, zl_54, zl_55, zl_56, zl_57, zl_58, zl_59, zl_60, zl_61, zl_62, zl_63, zl_64, zl_65, zl_82, zl_99, zl_100, zl_160, zl_299, zl_300, zl_301, zl_382, zl_398, zl_399, zl_464, zl_680, zl_862, zl_999, zl_1000, zl_9999, zl_10000, zl_1000000, zl_m1, zl_m2, zl_m3, zl_m8, zl_87, zl_88] at hi_td hi_spp hk_fa c4 c5 h8z6 hz6 c7 hsnz8 h8z8 hz8 hz9 t2g10 h8z11 hz11 hz12 ⊢); omega)
      have t2g13 : (upd g10 (2 : Int32).toNatClampNeg z12 2).toInt = (z12 : Int32).toInt := by rw [show (2 : Int32).toNatClampNeg = 2 by decide, pk_us]
      generalize upd g10 (2 : Int32).toNatClampNeg z12 = g13 at hP hD hrg13 t2g13
      have hP : va_P D vwCl ([(q, .inr (12, [.ref aA, .ref aI, .ref xT, .ref tP_, .int td, .int fu, .int fp, .int at_, .int plc, .int tok, .int num, .long wrd, .int tx0, .int cls, .int wri, .int cam, .ref pI, .int pid, .int ope, .int isw, .int so0, .int onc, .ref nm, .ref vL, .ref tR, .int spp, .int eat, .int ste, .ref rW, .ref sP, .ref oT, .ref bS, .ref aS, .ref aO, .ref cS, .ref wY])), (aA, .inl (cI, 862, .inl g13))]) H := hP
      have hD : va_D A ([(q, .inr (12, [.ref aA, .ref aI, .ref xT, .ref tP_, .int td, .int fu, .int fp, .int at_, .int plc, .int tok, .int num, .long wrd, .int tx0, .int cls, .int wri, .int cam, .ref pI, .int pid, .int ope, .int isw, .int so0, .int onc, .ref nm, .ref vL, .ref tR, .int spp, .int eat, .int ste, .ref rW, .ref sP, .ref oT, .ref bS, .ref aS, .ref aO, .ref cS, .ref wY])), (aA, .inl (cI, 862, .inl g13))]) := hD
      refine lv_aload_n hx hb dX12_inn_45 rfl (lv_at hl 0 rfl) ?_
      refine z_get Z i_X12 hP 0 rfl rfl 0 (by decide) bw_1019 rfl dX12_inn_46 ?_
      refine lv_iconst (v := 2) hx hb dX12_inn_49 (by decide) ?_
      refine z_iald Z hP 1 0 rfl rfl (vin (by decide)) dX12_inn_50 ?_
      refine lv_topi (fun z14 ez14 => ?_)
      have h8z14 : z14.toInt = (g13 2).toInt := by rw [ez14]; rfl
      have hz14 : 0 ≤ z14.toInt ∧ z14.toInt ≤ 10 := by rw [ez14]; exact AK.k2 hrg13
      exact z_ret Z rfl hP hD hS (⟨g13, rfl, hrg13⟩) dX12_inn_51 (Nat.le_of_ble_eq_true rfl) (Nat.le_of_ble_eq_true rfl)
    · refine lv_iconst (v := (-1)) hx hb dX12_inn_18 (by decide) ?_
      exact z_ret Z rfl hP hD hS (⟨fa, rfl, hr_fa⟩) dX12_inn_19 (Nat.le_of_ble_eq_true rfl) (Nat.le_of_ble_eq_true rfl)
  · obtain rfl : r2 = 0 := by rw [hrh3, if_neg c4]
    refine lv_if_eq (tgt := 18) hx hb dX12_inn_4 (by decide) (fun c15 => ?_) (fun h => absurd (by decide) h)
    refine lv_iconst (v := (-1)) hx hb dX12_inn_18 (by decide) ?_
    exact z_ret Z rfl hP hD hS (⟨fa, rfl, hr_fa⟩) dX12_inn_19 (Nat.le_of_ble_eq_true rfl) (Nat.le_of_ble_eq_true rfl)
set_option maxHeartbeats 4000000 in
set_option maxRecDepth 100000 in
theorem c_X12_horse (l : Launch) (D : va_G) (cI cM cT cJ cZ : ClassId) (q : Nat) (p0 : Int32) (p1 : Int32) (aA : Nat) (aI : Nat) (xT : Nat) (tP_ : Nat) (td : Int32) (fu : Int32) (fp : Int32) (at_ : Int32) (plc : Int32) (tok : Int32) (num : Int32) (wrd : Int64) (tx0 : Int32) (cls : Int32) (wri : Int32) (cam : Int32) (pI : Nat) (pid : Int32) (ope : Int32) (isw : Int32) (so0 : Int32) (onc : Int32) (nm : Nat) (vL : Nat) (tR : Nat) (spp : Int32) (eat : Int32) (ste : Int32) (rW : Nat) (sP : Nat) (oT : Nat) (bS : Nat) (aS : Nat) (aO : Nat) (cS : Nat) (wY : Nat) (fa : Nat → Int32) (kc0 : Int) (kc1 : Int) (kc6 : Int) (kc9 : Int) (kc10 : Int) (hi_td : 0 ≤ td.toInt ∧ td.toInt ≤ 300) (hi_spp : 0 ≤ spp.toInt ∧ spp.toInt ≤ 299) (hr_fa : AK kc0 kc1 kc6 kc9 kc10 fa) : Ci l D (ty3 cI cM cT cJ cZ) yX12_horse cX12_horse 3 (some .int) 2 0 0 [.ref q, .int p0, .int p1] ([(q, .inr (12, [.ref aA, .ref aI, .ref xT, .ref tP_, .int td, .int fu, .int fp, .int at_, .int plc, .int tok, .int num, .long wrd, .int tx0, .int cls, .int wri, .int cam, .ref pI, .int pid, .int ope, .int isw, .int so0, .int onc, .ref nm, .ref vL, .ref tR, .int spp, .int eat, .int ste, .ref rW, .ref sP, .ref oT, .ref bS, .ref aS, .ref aO, .ref cS, .ref wY])), (aA, .inl (cI, 862, .inl fa))]) (fun r u => ∃ (fa_n : Nat → Int32) (kc0_n : Int), u = [(q, .inr (12, [.ref aA, .ref aI, .ref xT, .ref tP_, .int td, .int fu, .int fp, .int at_, .int plc, .int tok, .int num, .long wrd, .int tx0, .int cls, .int wri, .int cam, .ref pI, .int pid, .int ope, .int isw, .int so0, .int onc, .ref nm, .ref vL, .ref tR, .int spp, .int eat, .int ste, .ref rW, .ref sP, .ref oT, .ref bS, .ref aS, .ref aO, .ref cS, .ref wY])), (aA, .inl (cI, 862, .inl fa_n))] ∧ AK kc0_n kc1 kc6 kc9 kc10 fa_n ∧ ((((1 ≤ p0.toInt ∧ p0.toInt ≤ 99) ∧ (1 ≤ p1.toInt ∧ p1.toInt ≤ 9) ∧ kc0 < 6) ∧ r.toInt = kc0 ∧ kc0_n = kc0 + 1) ∨ (¬ ((1 ≤ p0.toInt ∧ p0.toInt ≤ 99) ∧ (1 ≤ p1.toInt ∧ p1.toInt ≤ 9) ∧ kc0 < 6) ∧ r.toInt = -1 ∧ kc0_n = kc0))) := by
  refine Ci.of (by decide +kernel) (Nat.le_of_ble_eq_true rfl) ?_
  intro p e s m below meth c A ls Z hin hP hD hl
  have hx := Z.1
  have hb := Z.2.1
  have hS : va_S A s.heap s.heap [] := va_S.rf
  have hl : lv_has ls 3 [(0, .ref q), (1, .int p0), (2, .int p1)] := hl
  skip
  have hk_fa := AK.rng hr_fa
  refine lv_iload_n hx hb dX12_horse_0 rfl (lv_at hl 1 rfl) ?_
  refine lv_iconst (v := 1) hx hb dX12_horse_1 (by decide) ?_
  refine lv_bipush (v := 99) hx hb dX12_horse_2 (by decide) ?_
  have hPc := hP.sub2 (wc := []) [] rfl
  have hDc := hD.sub (ws' := []) [] (by decide) rfl
  refine raw_Si (nA := 3) (As := [.int p0, .int 1, .int 99]) (rest := []) Z hl.1 (c_X12_isIn l D cI cM cT cJ cZ p0 1 99) (bw_S bw_1135 bw_1136 bw_92 bw_1137) ⟨by decide +kernel, by decide +kernel, by decide +kernel⟩ rfl ⟨Nat.le_of_ble_eq_true rfl, Nat.le_of_ble_eq_true rfl⟩ hPc hDc hS rfl (Nat.le_of_ble_eq_true rfl) dX12_horse_4 ⟨Nat.le_of_ble_eq_true rfl, Nat.le_of_ble_eq_true rfl⟩ (fun r2 u1 H1 locs1 h3 hku1 hP1 hD1 hS1 => ?_)
  obtain ⟨hrh3, rfl⟩ := h3
  obtain ⟨hP, hD⟩ := z_join (wr := [(q, .inr (12, [.ref aA, .ref aI, .ref xT, .ref tP_, .int td, .int fu, .int fp, .int at_, .int plc, .int tok, .int num, .long wrd, .int tx0, .int cls, .int wri, .int cam, .ref pI, .int pid, .int ope, .int isw, .int so0, .int onc, .ref nm, .ref vL, .ref tR, .int spp, .int eat, .int ste, .ref rW, .ref sP, .ref oT, .ref bS, .ref aS, .ref aO, .ref cS, .ref wY])), (aA, .inl (cI, 862, .inl fa))]) Z hS hP hD [] [0, 1] rfl (by decide) rfl (by decide) (by decide) hku1 hP1 hD1
  have hS := hS1
  clear hS1
  generalize H1 = H at hP hS ⊢
  generalize locs1 = locs at hS ⊢
  have hP : va_P D vwCl ([(q, .inr (12, [.ref aA, .ref aI, .ref xT, .ref tP_, .int td, .int fu, .int fp, .int at_, .int plc, .int tok, .int num, .long wrd, .int tx0, .int cls, .int wri, .int cam, .ref pI, .int pid, .int ope, .int isw, .int so0, .int onc, .ref nm, .ref vL, .ref tR, .int spp, .int eat, .int ste, .ref rW, .ref sP, .ref oT, .ref bS, .ref aS, .ref aO, .ref cS, .ref wY])), (aA, .inl (cI, 862, .inl fa))]) H := hP
  have hD : va_D A ([(q, .inr (12, [.ref aA, .ref aI, .ref xT, .ref tP_, .int td, .int fu, .int fp, .int at_, .int plc, .int tok, .int num, .long wrd, .int tx0, .int cls, .int wri, .int cam, .ref pI, .int pid, .int ope, .int isw, .int so0, .int onc, .ref nm, .ref vL, .ref tR, .int spp, .int eat, .int ste, .ref rW, .ref sP, .ref oT, .ref bS, .ref aS, .ref aO, .ref cS, .ref wY])), (aA, .inl (cI, 862, .inl fa))]) := hD
  by_cases c4 : 1 ≤ p0 ∧ p0 ≤ 99
  · obtain rfl : r2 = 1 := by rw [hrh3, if_pos c4]
    refine lv_if_eq (tgt := 31) hx hb dX12_horse_7 (by decide) (fun h => absurd h (by decide)) (fun c5 => ?_)
    refine lv_iload_n hx hb dX12_horse_10 rfl (lv_at hl 2 rfl) ?_
    refine lv_iconst (v := 1) hx hb dX12_horse_11 (by decide) ?_
    refine lv_bipush (v := 9) hx hb dX12_horse_12 (by decide) ?_
    have hPc := hP.sub2 (wc := []) [] rfl
    have hDc := hD.sub (ws' := []) [] (by decide) rfl
    refine raw_Si (nA := 3) (As := [.int p1, .int 1, .int 9]) (rest := []) Z hl.1 (c_X12_isIn l D cI cM cT cJ cZ p1 1 9) (bw_S bw_1135 bw_1136 bw_92 bw_1137) ⟨by decide +kernel, by decide +kernel, by decide +kernel⟩ rfl ⟨Nat.le_of_ble_eq_true rfl, Nat.le_of_ble_eq_true rfl⟩ hPc hDc hS rfl (Nat.le_of_ble_eq_true rfl) dX12_horse_14 ⟨Nat.le_of_ble_eq_true rfl, Nat.le_of_ble_eq_true rfl⟩ (fun r7 u6 H1 locs1 h8 hku6 hP1 hD1 hS1 => ?_)
    obtain ⟨hrh8, rfl⟩ := h8
    obtain ⟨hP, hD⟩ := z_join (wr := [(q, .inr (12, [.ref aA, .ref aI, .ref xT, .ref tP_, .int td, .int fu, .int fp, .int at_, .int plc, .int tok, .int num, .long wrd, .int tx0, .int cls, .int wri, .int cam, .ref pI, .int pid, .int ope, .int isw, .int so0, .int onc, .ref nm, .ref vL, .ref tR, .int spp, .int eat, .int ste, .ref rW, .ref sP, .ref oT, .ref bS, .ref aS, .ref aO, .ref cS, .ref wY])), (aA, .inl (cI, 862, .inl fa))]) Z hS hP hD [] [0, 1] rfl (by decide) rfl (by decide) (by decide) hku6 hP1 hD1
    have hS := hS1
    clear hS1
    generalize H1 = H at hP hS ⊢
    generalize locs1 = locs at hS ⊢
    have hP : va_P D vwCl ([(q, .inr (12, [.ref aA, .ref aI, .ref xT, .ref tP_, .int td, .int fu, .int fp, .int at_, .int plc, .int tok, .int num, .long wrd, .int tx0, .int cls, .int wri, .int cam, .ref pI, .int pid, .int ope, .int isw, .int so0, .int onc, .ref nm, .ref vL, .ref tR, .int spp, .int eat, .int ste, .ref rW, .ref sP, .ref oT, .ref bS, .ref aS, .ref aO, .ref cS, .ref wY])), (aA, .inl (cI, 862, .inl fa))]) H := hP
    have hD : va_D A ([(q, .inr (12, [.ref aA, .ref aI, .ref xT, .ref tP_, .int td, .int fu, .int fp, .int at_, .int plc, .int tok, .int num, .long wrd, .int tx0, .int cls, .int wri, .int cam, .ref pI, .int pid, .int ope, .int isw, .int so0, .int onc, .ref nm, .ref vL, .ref tR, .int spp, .int eat, .int ste, .ref rW, .ref sP, .ref oT, .ref bS, .ref aS, .ref aO, .ref cS, .ref wY])), (aA, .inl (cI, 862, .inl fa))]) := hD
    by_cases c9 : 1 ≤ p1 ∧ p1 ≤ 9
    · obtain rfl : r7 = 1 := by rw [hrh8, if_pos c9]
      refine lv_if_eq (tgt := 31) hx hb dX12_horse_17 (by decide) (fun h => absurd h (by decide)) (fun c10 => ?_)
      refine lv_aload_n hx hb dX12_horse_20 rfl (lv_at hl 0 rfl) ?_
      refine z_get Z i_X12 hP 0 rfl rfl 0 (by decide) bw_1019 rfl dX12_horse_21 ?_
      refine lv_iconst (v := 0) hx hb dX12_horse_24 (by decide) ?_
      refine z_iald Z hP 1 0 rfl rfl (vin (by decide)) dX12_horse_25 ?_
      refine lv_topi (fun z11 ez11 => ?_)
      have hz11 : z11.toInt = kc0 := by rw [ez11]; exact AK.k0 hr_fa
      refine lv_bipush (v := 6) hx hb dX12_horse_26 (by decide) ?_
      refine lv_icmp_ne (tgt := 33) hx hb dX12_horse_28 (by decide) (fun c12 => ?_) (fun c12 => ?_)
      · refine lv_aload_n hx hb dX12_horse_33 rfl (lv_at hl 0 rfl) ?_
        refine z_get Z i_X12 hP 0 rfl rfl 0 (by decide) bw_1019 rfl dX12_horse_34 ?_
        refine lv_bipush (v := 34) hx hb dX12_horse_37 (by decide) ?_
        refine lv_iconst (v := 2) hx hb dX12_horse_39 (by decide) ?_
        refine lv_aload_n hx hb dX12_horse_40 rfl (lv_at hl 0 rfl) ?_
        refine z_get Z i_X12 hP 0 rfl rfl 0 (by decide) bw_1019 rfl dX12_horse_41 ?_
        refine lv_iconst (v := 0) hx hb dX12_horse_44 (by decide) ?_
        refine z_iald Z hP 1 0 rfl rfl (vin (by decide)) dX12_horse_45 ?_
        refine lv_topi (fun z13 ez13 => ?_)
        have hz13 : z13.toInt = kc0 := by rw [ez13]; exact AK.k0 hr_fa
        refine lv_imul hx hb dX12_horse_46 ?_
        refine lv_topi (fun z14 ez14 => ?_)
        have hz14 : z14.toInt = 2 * z13.toInt := by rw [ez14]; exact zmulg (by first | with_reducible assumption | ((try simp only [zlt, zle, zeq, zl_0, zl_1, zl_2, zl_3, zl_4, zl_5, zl_6, zl_7, zl_8, zl_9, zl_10, zl_11, zl_12, zl_13, zl_14, zl_15, zl_16, zl_17, zl_18, zl_19, zl_20, zl_21, zl_22, zl_23, zl_24, zl_25, zl_26, zl_27, zl_28, zl_29, zl_30, zl_31, zl_32, zl_33, zl_34, zl_35, zl_36, zl_37, zl_38, zl_39, zl_40, zl_41, zl_42, zl_43, zl_44, zl_45, zl_46, zl_47, zl_48, zl_49, zl_50, zl_51, zl_52, zl_53, zl_54, zl_55, zl_56, zl_57, zl_58, zl_59, zl_60, zl_61, zl_62, zl_63, zl_64, zl_65, zl_82, zl_99, zl_100, zl_160, zl_299, zl_300, zl_301, zl_382, zl_398, zl_399, zl_464, zl_680, zl_862, zl_999, zl_1000, zl_9999, zl_10000, zl_1000000, zl_m1, zl_m2, zl_m3, zl_m8, zl_87, zl_88] at hi_td hi_spp hk_fa c4 c5 c9 c10 hz11 c12 hz13 ⊢); omega)) (by first | with_reducible assumption | ((try simp only [zlt, zle, zeq, zl_0, zl_1, zl_2, zl_3, zl_4, zl_5, zl_6, zl_7, zl_8, zl_9, zl_10, zl_11, zl_12, zl_13, zl_14, zl_15, zl_16, zl_17, zl_18, zl_19, zl_20, zl_21, zl_22, zl_23, zl_24, zl_25, zl_26, zl_27, zl_28, zl_29, zl_30, zl_31, zl_32, zl_33, zl_34, zl_35, zl_36, zl_37, zl_38, zl_39, zl_40, zl_41, zl_42, zl_43, zl_44, zl_45, zl_46, zl_47, zl_48, zl_49, zl_50, zl_51, zl_52, zl_53, zl_54, zl_55, zl_56, zl_57, zl_58, zl_59, zl_60, zl_61, zl_62, zl_63, zl_64, zl_65, zl_82, zl_99, zl_100, zl_160, zl_299, zl_300, zl_301, zl_382, zl_398, zl_399, zl_464, zl_680, zl_862, zl_999, zl_1000, zl_9999, zl_10000, zl_1000000, zl_m1, zl_m2, zl_m3, zl_m8, zl_87, zl_88] at hi_td hi_spp hk_fa c4 c5 c9 c10 hz11 c12 hz13 ⊢); omega))
        refine lv_iadd hx hb dX12_horse_47 ?_
        refine lv_topi (fun z15 ez15 => ?_)
        have hz15 : z15.toInt = 34 + z14.toInt := by rw [ez15]; exact zaddg (by first | with_reducible assumption | ((try simp only [zlt, zle, zeq, zl_0, zl_1, zl_2, zl_3, zl_4, zl_5, zl_6, zl_7, zl_8, zl_9, zl_10, zl_11, zl_12, zl_13, zl_14, zl_15, zl_16, zl_17, zl_18, zl_19, zl_20, zl_21, zl_22, zl_23, zl_24, zl_25, zl_26, zl_27, zl_28, zl_29, zl_30, zl_31, zl_32, zl_33, zl_34, zl_35, zl_36, zl_37, zl_38, zl_39, zl_40, zl_41, zl_42, zl_43, zl_44, zl_45, zl_46, zl_47, zl_48, zl_49, zl_50, zl_51, zl_52, zl_53, zl_54, zl_55, zl_56, zl_57, zl_58, zl_59, zl_60, zl_61, zl_62, zl_63, zl_64, zl_65, zl_82, zl_99, zl_100, zl_160, zl_299, zl_300, zl_301, zl_382, zl_398, zl_399, zl_464, zl_680, zl_862, zl_999, zl_1000, zl_9999, zl_10000, zl_1000000, zl_m1, zl_m2, zl_m3, zl_m8, zl_87, zl_88] at hi_td hi_spp hk_fa c4 c5 c9 c10 hz11 c12 hz13 hz14 ⊢); omega)) (by first | with_reducible assumption | ((try simp only [zlt, zle, zeq, zl_0, zl_1, zl_2, zl_3, zl_4, zl_5, zl_6, zl_7, zl_8, zl_9, zl_10, zl_11, zl_12, zl_13, zl_14, zl_15, zl_16, zl_17, zl_18, zl_19, zl_20, zl_21, zl_22, zl_23, zl_24, zl_25, zl_26, zl_27, zl_28, zl_29, zl_30, zl_31, zl_32, zl_33, zl_34, zl_35, zl_36, zl_37, zl_38, zl_39, zl_40, zl_41, zl_42, zl_43, zl_44, zl_45, zl_46, zl_47, zl_48, zl_49, zl_50, zl_51, zl_52, zl_53, zl_54, zl_55, zl_56, zl_57, zl_58, zl_59, zl_60, zl_61, zl_62, zl_63, zl_64, zl_65, zl_82, zl_99, zl_100, zl_160, zl_299, zl_300, zl_301, zl_382, zl_398, zl_399, zl_464, zl_680, zl_862, zl_999, zl_1000, zl_9999, zl_10000, zl_1000000, zl_m1, zl_m2, zl_m3, zl_m8, zl_87, zl_88] at hi_td hi_spp hk_fa c4 c5 c9 c10 hz11 c12 hz13 hz14 ⊢); omega))
        refine lv_iload_n hx hb dX12_horse_48 rfl (lv_at hl 1 rfl) ?_
        refine z_iast Z hP hD hS 1 0 rfl rfl (vp_in_iff.mpr (by first | with_reducible assumption | ((try simp only [zlt, zle, zeq, zl_0, zl_1, zl_2, zl_3, zl_4, zl_5, zl_6, zl_7, zl_8, zl_9, zl_10, zl_11, zl_12, zl_13, zl_14, zl_15, zl_16, zl_17, zl_18, zl_19, zl_20, zl_21, zl_22, zl_23, zl_24, zl_25, zl_26, zl_27, zl_28, zl_29, zl_30, zl_31, zl_32, zl_33, zl_34, zl_35, zl_36, zl_37, zl_38, zl_39, zl_40, zl_41, zl_42, zl_43, zl_44, zl_45, zl_46, zl_47, zl_48, zl_49, zl_50, zl_51, zl_52, zl_53, zl_54, zl_55, zl_56, zl_57, zl_58, zl_59, zl_60, zl_61, zl_62, zl_63, zl_64, zl_65, zl_82, zl_99, zl_100, zl_160, zl_299, zl_300, zl_301, zl_382, zl_398, zl_399, zl_464, zl_680, zl_862, zl_999, zl_1000, zl_9999, zl_10000, zl_1000000, zl_m1, zl_m2, zl_m3, zl_m8, zl_87, zl_88] at hi_td hi_spp hk_fa c4 c5 c9 c10 hz11 c12 hz13 hz14 hz15 ⊢); omega))) dX12_horse_49 (fun H locs hP hD hS => ?_)
        have hrg16 := AK.st (x := z15) (v := p0) hr_fa (by first | with_reducible assumption | ((try simp only [zlt, zle, zeq, zl_0, zl_1, zl_2, zl_3, zl_4, zl_5, zl_6, zl_7, zl_8, zl_9, zl_10, zl_11, zl_12, zl_13, zl_14, zl_15, zl_16, zl_17, zl_18, zl_19, zl_20, zl_21, zl_22, zl_23, zl_24, zl_25, zl_26, zl_27, zl_28, zl_29, zl_30, zl_31, zl_32, zl_33, zl_34, zl_35, zl_36, zl_37, zl_38, zl_39, zl_40, zl_41, zl_42, zl_43, zl_44, zl_45, zl_46, zl_47, zl_48, zl_49, zl_50, zl_51, zl_52, zl_53, zl_54, zl_55, zl_56, zl_57, zl_58, zl_59, zl_60, zl_61, zl_62, zl_63, zl_64, zl_65, zl_82, zl_99, zl_100, zl_160, zl_299, zl_300, zl_301, zl_382, zl_398, zl_399, zl_464, zl_680, zl_862, zl_999, zl_1000, zl_9999, zl_10000, zl_1000000, zl_m1, zl_m2, zl_m3, zl_m8, zl_87, zl_88] at hi_td hi_spp hk_fa c4 c5 c9 c10 hz11 c12 hz13 hz14 hz15 ⊢); omega)) (by unfold RAi; (try simp only [zlt, zle, zeq, zl_0, zl_1, zl_2, zl_3, zl_4, zl_5, zl_6, zl_7, zl_8, zl_9, zl_10, zl_11, zl_12, zl_13, zl_14, zl_15, zl_16, zl_17, zl_18, zl_19, zl_20, zl_21, zl_22, zl_23, zl_24, zl_25, zl_26, zl_27, zl_28, zl_29, zl_30, zl_31, zl_32, zl_33, zl_34, zl_35, zl_36, zl_37, zl_38, zl_39, zl_40, zl_41, zl_42, zl_43, zl_44, zl_45, zl_46, zl_47, zl_48, zl_49, zl_50, zl_51, zl_52, zl_53, zl_54, zl_55, zl_56, zl_57, zl_58, zl_59, zl_60, zl_61, zl_62, zl_63, zl_64, zl_65, zl_82, zl_99, zl_100, zl_160, zl_299, zl_300, zl_301, zl_382, zl_398, zl_399, zl_464, zl_680, zl_862, zl_999, zl_1000, zl_9999, zl_10000, zl_1000000, zl_m1, zl_m2, zl_m3, zl_m8, zl_87, zl_88] at hi_td hi_spp hk_fa c4 c5 c9 c10 hz11 c12 hz13 hz14 hz15 ⊢); omega)
        generalize upd fa (z15 : Int32).toNatClampNeg p0 = g16 at hP hD hrg16
        have hP : va_P D vwCl ([(q, .inr (12, [.ref aA, .ref aI, .ref xT, .ref tP_, .int td, .int fu, .int fp, .int at_, .int plc, .int tok, .int num, .long wrd, .int tx0, .int cls, .int wri, .int cam, .ref pI, .int pid, .int ope, .int isw, .int so0, .int onc, .ref nm, .ref vL, .ref tR, .int spp, .int eat, .int ste, .ref rW, .ref sP, .ref oT, .ref bS, .ref aS, .ref aO, .ref cS, .ref wY])), (aA, .inl (cI, 862, .inl g16))]) H := hP
        have hD : va_D A ([(q, .inr (12, [.ref aA, .ref aI, .ref xT, .ref tP_, .int td, .int fu, .int fp, .int at_, .int plc, .int tok, .int num, .long wrd, .int tx0, .int cls, .int wri, .int cam, .ref pI, .int pid, .int ope, .int isw, .int so0, .int onc, .ref nm, .ref vL, .ref tR, .int spp, .int eat, .int ste, .ref rW, .ref sP, .ref oT, .ref bS, .ref aS, .ref aO, .ref cS, .ref wY])), (aA, .inl (cI, 862, .inl g16))]) := hD
        refine lv_aload_n hx hb dX12_horse_50 rfl (lv_at hl 0 rfl) ?_
        refine z_get Z i_X12 hP 0 rfl rfl 0 (by decide) bw_1019 rfl dX12_horse_51 ?_
        refine lv_bipush (v := 34) hx hb dX12_horse_54 (by decide) ?_
        refine lv_iconst (v := 2) hx hb dX12_horse_56 (by decide) ?_
        refine lv_aload_n hx hb dX12_horse_57 rfl (lv_at hl 0 rfl) ?_
        refine z_get Z i_X12 hP 0 rfl rfl 0 (by decide) bw_1019 rfl dX12_horse_58 ?_
        refine lv_iconst (v := 0) hx hb dX12_horse_61 (by decide) ?_
        refine z_iald Z hP 1 0 rfl rfl (vin (by decide)) dX12_horse_62 ?_
        refine lv_topi (fun z17 ez17 => ?_)
        have hz17 : z17.toInt = kc0 := by rw [ez17]; exact AK.k0 hrg16
        refine lv_imul hx hb dX12_horse_63 ?_
        refine lv_topi (fun z18 ez18 => ?_)
        have hz18 : z18.toInt = 2 * z17.toInt := by rw [ez18]; exact zmulg (by first | with_reducible assumption | ((try simp only [zlt, zle, zeq, zl_0, zl_1, zl_2, zl_3, zl_4, zl_5, zl_6, zl_7, zl_8, zl_9, zl_10, zl_11, zl_12, zl_13, zl_14, zl_15, zl_16, zl_17, zl_18, zl_19, zl_20, zl_21, zl_22, zl_23, zl_24, zl_25, zl_26, zl_27, zl_28, zl_29, zl_30, zl_31, zl_32, zl_33, zl_34, zl_35, zl_36, zl_37, zl_38, zl_39, zl_40, zl_41, zl_42, zl_43, zl_44, zl_45, zl_46, zl_47, zl_48, zl_49, zl_50, zl_51, zl_52, zl_53, zl_54, zl_55, zl_56, zl_57, zl_58, zl_59, zl_60, zl_61, zl_62, zl_63, zl_64, zl_65, zl_82, zl_99, zl_100, zl_160, zl_299, zl_300, zl_301, zl_382, zl_398, zl_399, zl_464, zl_680, zl_862, zl_999, zl_1000, zl_9999, zl_10000, zl_1000000, zl_m1, zl_m2, zl_m3, zl_m8, zl_87, zl_88] at hi_td hi_spp hk_fa c4 c5 c9 c10 hz11 c12 hz13 hz14 hz15 hz17 ⊢); omega)) (by first | with_reducible assumption | ((try simp only [zlt, zle, zeq, zl_0, zl_1, zl_2, zl_3, zl_4, zl_5, zl_6, zl_7, zl_8, zl_9, zl_10, zl_11, zl_12, zl_13, zl_14, zl_15, zl_16, zl_17, zl_18, zl_19, zl_20, zl_21, zl_22, zl_23, zl_24, zl_25, zl_26, zl_27, zl_28, zl_29, zl_30, zl_31, zl_32, zl_33, zl_34, zl_35, zl_36, zl_37, zl_38, zl_39, zl_40, zl_41, zl_42, zl_43, zl_44, zl_45, zl_46, zl_47, zl_48, zl_49, zl_50, zl_51, zl_52, zl_53, zl_54, zl_55, zl_56, zl_57, zl_58, zl_59, zl_60, zl_61, zl_62, zl_63, zl_64, zl_65, zl_82, zl_99, zl_100, zl_160, zl_299, zl_300, zl_301, zl_382, zl_398, zl_399, zl_464, zl_680, zl_862, zl_999, zl_1000, zl_9999, zl_10000, zl_1000000, zl_m1, zl_m2, zl_m3, zl_m8, zl_87, zl_88] at hi_td hi_spp hk_fa c4 c5 c9 c10 hz11 c12 hz13 hz14 hz15 hz17 ⊢); omega))
        refine lv_iadd hx hb dX12_horse_64 ?_
        refine lv_topi (fun z19 ez19 => ?_)
        have hz19 : z19.toInt = 34 + z18.toInt := by rw [ez19]; exact zaddg (by first | with_reducible assumption | ((try simp only [zlt, zle, zeq, zl_0, zl_1, zl_2, zl_3, zl_4, zl_5, zl_6, zl_7, zl_8, zl_9, zl_10, zl_11, zl_12, zl_13, zl_14, zl_15, zl_16, zl_17, zl_18, zl_19, zl_20, zl_21, zl_22, zl_23, zl_24, zl_25, zl_26, zl_27, zl_28, zl_29, zl_30, zl_31, zl_32, zl_33, zl_34, zl_35, zl_36, zl_37, zl_38, zl_39, zl_40, zl_41, zl_42, zl_43, zl_44, zl_45, zl_46, zl_47, zl_48, zl_49, zl_50, zl_51, zl_52, zl_53, zl_54, zl_55, zl_56, zl_57, zl_58, zl_59, zl_60, zl_61, zl_62, zl_63, zl_64, zl_65, zl_82, zl_99, zl_100, zl_160, zl_299, zl_300, zl_301, zl_382, zl_398, zl_399, zl_464, zl_680, zl_862, zl_999, zl_1000, zl_9999, zl_10000, zl_1000000, zl_m1, zl_m2, zl_m3, zl_m8, zl_87, zl_88] at hi_td hi_spp hk_fa c4 c5 c9 c10 hz11 c12 hz13 hz14 hz15 hz17 hz18 ⊢); omega)) (by first | with_reducible assumption | ((try simp only [zlt, zle, zeq, zl_0, zl_1, zl_2, zl_3, zl_4, zl_5, zl_6, zl_7, zl_8, zl_9, zl_10, zl_11, zl_12, zl_13, zl_14, zl_15, zl_16, zl_17, zl_18, zl_19, zl_20, zl_21, zl_22, zl_23, zl_24, zl_25, zl_26, zl_27, zl_28, zl_29, zl_30, zl_31, zl_32, zl_33, zl_34, zl_35, zl_36, zl_37, zl_38, zl_39, zl_40, zl_41, zl_42, zl_43, zl_44, zl_45, zl_46, zl_47, zl_48, zl_49, zl_50, zl_51, zl_52, zl_53, zl_54, zl_55, zl_56, zl_57, zl_58, zl_59, zl_60, zl_61, zl_62, zl_63, zl_64, zl_65, zl_82, zl_99, zl_100, zl_160, zl_299, zl_300, zl_301, zl_382, zl_398, zl_399, zl_464, zl_680, zl_862, zl_999, zl_1000, zl_9999, zl_10000, zl_1000000, zl_m1, zl_m2, zl_m3, zl_m8, zl_87, zl_88] at hi_td hi_spp hk_fa c4 c5 c9 c10 hz11 c12 hz13 hz14 hz15 hz17 hz18 ⊢); omega))
        refine lv_iconst (v := 1) hx hb dX12_horse_65 (by decide) ?_
        refine lv_iadd hx hb dX12_horse_66 ?_
        refine lv_topi (fun z20 ez20 => ?_)
        have hz20 : z20.toInt = z19.toInt + 1 := by rw [ez20]; exact zaddg (by first | with_reducible assumption | ((try simp only [zlt, zle, zeq, zl_0, zl_1, zl_2, zl_3, zl_4, zl_5, zl_6, zl_7, zl_8, zl_9, zl_10, zl_11, zl_12, zl_13, zl_14, zl_15, zl_16, zl_17, zl_18, zl_19, zl_20, zl_21, zl_22, zl_23, zl_24, zl_25, zl_26, zl_27, zl_28, zl_29, zl_30, zl_31, zl_32, zl_33, zl_34, zl_35, zl_36, zl_37, zl_38, zl_39, zl_40, zl_41, zl_42, zl_43, zl_44, zl_45, zl_46, zl_47, zl_48, zl_49, zl_50, zl_51, zl_52, zl_53, zl_54, zl_55, zl_56, zl_57, zl_58, zl_59, zl_60, zl_61, zl_62, zl_63, zl_64, zl_65, zl_82, zl_99, zl_100, zl_160, zl_299, zl_300, zl_301, zl_382, zl_398, zl_399, zl_464, zl_680, zl_862, zl_999, zl_1000, zl_9999, zl_10000, zl_1000000, zl_m1, zl_m2, zl_m3, zl_m8, zl_87, zl_88] at hi_td hi_spp hk_fa c4 c5 c9 c10 hz11 c12 hz13 hz14 hz15 hz17 hz18 hz19 ⊢); omega)) (by first | with_reducible assumption | ((try simp only [zlt, zle, zeq, zl_0, zl_1, zl_2, zl_3, zl_4, zl_5, zl_6, zl_7, zl_8, zl_9, zl_10, zl_11, zl_12, zl_13, zl_14, zl_15, zl_16, zl_17, zl_18, zl_19, zl_20, zl_21, zl_22, zl_23, zl_24, zl_25, zl_26, zl_27, zl_28, zl_29, zl_30, zl_31, zl_32, zl_33, zl_34, zl_35, zl_36, zl_37, zl_38, zl_39, zl_40, zl_41, zl_42, zl_43, zl_44, zl_45, zl_46, zl_47, zl_48, zl_49, zl_50, zl_51, zl_52, zl_53, zl_54, zl_55, zl_56, zl_57, zl_58, zl_59, zl_60, zl_61, zl_62, zl_63, zl_64, zl_65, zl_82, zl_99, zl_100, zl_160, zl_299, zl_300, zl_301, zl_382, zl_398, zl_399, zl_464, zl_680, zl_862, zl_999, zl_1000, zl_9999, zl_10000, zl_1000000, zl_m1, zl_m2, zl_m3, zl_m8, zl_87, zl_88] at hi_td hi_spp hk_fa c4 c5 c9 c10 hz11 c12 hz13 hz14 hz15 hz17 hz18 hz19 ⊢); omega))
        refine lv_iload_n hx hb dX12_horse_67 rfl (lv_at hl 2 rfl) ?_
        refine z_iast Z hP hD hS 1 0 rfl rfl (vp_in_iff.mpr (by first | with_reducible assumption | ((try simp only [zlt, zle, zeq, zl_0, zl_1, zl_2, zl_3, zl_4, zl_5, zl_6, zl_7, zl_8, zl_9, zl_10, zl_11, zl_12, zl_13, zl_14, zl_15, zl_16, zl_17, zl_18, zl_19, zl_20, zl_21, zl_22, zl_23, zl_24, zl_25, zl_26, zl_27, zl_28, zl_29, zl_30, zl_31, zl_32, zl_33, zl_34, zl_35, zl_36, zl_37, zl_38, zl_39, zl_40, zl_41, zl_42, zl_43, zl_44, zl_45, zl_46, zl_47, zl_48, zl_49, zl_50, zl_51, zl_52, zl_53, zl_54, zl_55, zl_56, zl_57, zl_58, zl_59, zl_60, zl_61, zl_62, zl_63, zl_64, zl_65, zl_82, zl_99, zl_100, zl_160, zl_299, zl_300, zl_301, zl_382, zl_398, zl_399, zl_464, zl_680, zl_862, zl_999, zl_1000, zl_9999, zl_10000, zl_1000000, zl_m1, zl_m2, zl_m3, zl_m8, zl_87, zl_88] at hi_td hi_spp hk_fa c4 c5 c9 c10 hz11 c12 hz13 hz14 hz15 hz17 hz18 hz19 hz20 ⊢); omega))) dX12_horse_68 (fun H locs hP hD hS => ?_)
        have hrg21 := AK.st (x := z20) (v := p1) hrg16 (by first | with_reducible assumption | ((try simp only [zlt, zle, zeq, zl_0, zl_1, zl_2, zl_3, zl_4, zl_5, zl_6, zl_7, zl_8, zl_9, zl_10, zl_11, zl_12, zl_13, zl_14, zl_15, zl_16, zl_17, zl_18, zl_19, zl_20, zl_21, zl_22, zl_23, zl_24, zl_25, zl_26, zl_27, zl_28, zl_29, zl_30, zl_31, zl_32, zl_33, zl_34, zl_35, zl_36, zl_37, zl_38, zl_39, zl_40, zl_41, zl_42, zl_43, zl_44, zl_45, zl_46, zl_47, zl_48, zl_49, zl_50, zl_51, zl_52, zl_53, zl_54, zl_55, zl_56, zl_57, zl_58, zl_59, zl_60, zl_61, zl_62, zl_63, zl_64, zl_65, zl_82, zl_99, zl_100, zl_160, zl_299, zl_300, zl_301, zl_382, zl_398, zl_399, zl_464, zl_680, zl_862, zl_999, zl_1000, zl_9999, zl_10000, zl_1000000, zl_m1, zl_m2, zl_m3, zl_m8, zl_87, zl_88] at hi_td hi_spp hk_fa c4 c5 c9 c10 hz11 c12 hz13 hz14 hz15 hz17 hz18 hz19 hz20 ⊢); omega)) (by unfold RAi; (try simp only [zlt, zle, zeq, zl_0, zl_1, zl_2, zl_3, zl_4, zl_5, zl_6, zl_7, zl_8, zl_9, zl_10, zl_11, zl_12, zl_13, zl_14, zl_15, zl_16, zl_17, zl_18, zl_19, zl_20, zl_21, zl_22, zl_23, zl_24, zl_25, zl_26, zl_27, zl_28, zl_29, zl_30, zl_31, zl_32, zl_33, zl_34, zl_35, zl_36, zl_37, zl_38, zl_39, zl_40, zl_41, zl_42, zl_43, zl_44, zl_45, zl_46, zl_47, zl_48, zl_49, zl_50, zl_51, zl_52, zl_53, zl_54, zl_55, zl_56, zl_57, zl_58, zl_59, zl_60, zl_61, zl_62, zl_63, zl_64, zl_65, zl_82, zl_99, zl_100, zl_160, zl_299, zl_300, zl_301, zl_382, zl_398, zl_399, zl_464, zl_680, zl_862, zl_999, zl_1000, zl_9999, zl_10000, zl_1000000, zl_m1, zl_m2, zl_m3, zl_m8, zl_87, zl_88] at hi_td hi_spp hk_fa c4 c5 c9 c10 hz11 c12 hz13 hz14 hz15 hz17 hz18 hz19 hz20 ⊢); omega)
        generalize upd g16 (z20 : Int32).toNatClampNeg p1 = g21 at hP hD hrg21
        have hP : va_P D vwCl ([(q, .inr (12, [.ref aA, .ref aI, .ref xT, .ref tP_, .int td, .int fu, .int fp, .int at_, .int plc, .int tok, .int num, .long wrd, .int tx0, .int cls, .int wri, .int cam, .ref pI, .int pid, .int ope, .int isw, .int so0, .int onc, .ref nm, .ref vL, .ref tR, .int spp, .int eat, .int ste, .ref rW, .ref sP, .ref oT, .ref bS, .ref aS, .ref aO, .ref cS, .ref wY])), (aA, .inl (cI, 862, .inl g21))]) H := hP
        have hD : va_D A ([(q, .inr (12, [.ref aA, .ref aI, .ref xT, .ref tP_, .int td, .int fu, .int fp, .int at_, .int plc, .int tok, .int num, .long wrd, .int tx0, .int cls, .int wri, .int cam, .ref pI, .int pid, .int ope, .int isw, .int so0, .int onc, .ref nm, .ref vL, .ref tR, .int spp, .int eat, .int ste, .ref rW, .ref sP, .ref oT, .ref bS, .ref aS, .ref aO, .ref cS, .ref wY])), (aA, .inl (cI, 862, .inl g21))]) := hD
        refine lv_aload_n hx hb dX12_horse_69 rfl (lv_at hl 0 rfl) ?_
        refine z_get Z i_X12 hP 0 rfl rfl 0 (by decide) bw_1019 rfl dX12_horse_70 ?_
        refine lv_iconst (v := 0) hx hb dX12_horse_73 (by decide) ?_
        refine lv_dup2_11 hx hb dX12_horse_74 rfl rfl ?_
        refine z_iald Z hP 1 0 rfl rfl (vin (by decide)) dX12_horse_75 ?_
        refine lv_topi (fun z22 ez22 => ?_)
        have hz22 : z22.toInt = kc0 := by rw [ez22]; exact AK.k0 hrg21
        refine lv_iconst (v := 1) hx hb dX12_horse_76 (by decide) ?_
        refine lv_iadd hx hb dX12_horse_77 ?_
        refine lv_topi (fun z23 ez23 => ?_)
        have hz23 : z23.toInt = z22.toInt + 1 := by rw [ez23]; exact zaddg (by first | with_reducible assumption | ((try simp only [zlt, zle, zeq, zl_0, zl_1, zl_2, zl_3, zl_4, zl_5, zl_6, zl_7, zl_8, zl_9, zl_10, zl_11, zl_12, zl_13, zl_14, zl_15, zl_16, zl_17, zl_18, zl_19, zl_20, zl_21, zl_22, zl_23, zl_24, zl_25, zl_26, zl_27, zl_28, zl_29, zl_30, zl_31, zl_32, zl_33, zl_34, zl_35, zl_36, zl_37, zl_38, zl_39, zl_40, zl_41, zl_42, zl_43, zl_44, zl_45, zl_46, zl_47, zl_48, zl_49, zl_50, zl_51, zl_52, zl_53, zl_54, zl_55, zl_56, zl_57, zl_58, zl_59, zl_60, zl_61, zl_62, zl_63, zl_64, zl_65, zl_82, zl_99, zl_100, zl_160, zl_299, zl_300, zl_301, zl_382, zl_398, zl_399, zl_464, zl_680, zl_862, zl_999, zl_1000, zl_9999, zl_10000, zl_1000000, zl_m1, zl_m2, zl_m3, zl_m8, zl_87, zl_88] at hi_td hi_spp hk_fa c4 c5 c9 c10 hz11 c12 hz13 hz14 hz15 hz17 hz18 hz19 hz20 hz22 ⊢); omega)) (by first | with_reducible assumption | ((try simp only [zlt, zle, zeq, zl_0, zl_1, zl_2, zl_3, zl_4, zl_5, zl_6, zl_7, zl_8, zl_9, zl_10, zl_11, zl_12, zl_13, zl_14, zl_15, zl_16, zl_17, zl_18, zl_19, zl_20, zl_21, zl_22, zl_23, zl_24, zl_25, zl_26, zl_27, zl_28, zl_29, zl_30, zl_31, zl_32, zl_33, zl_34, zl_35, zl_36, zl_37, zl_38, zl_39, zl_40, zl_41, zl_42, zl_43, zl_44, zl_45, zl_46, zl_47, zl_48, zl_49, zl_50, zl_51, zl_52, zl_53, zl_54, zl_55, zl_56, zl_57, zl_58, zl_59, zl_60, zl_61, zl_62, zl_63, zl_64, zl_65, zl_82, zl_99, zl_100, zl_160, zl_299, zl_300, zl_301, zl_382, zl_398, zl_399, zl_464, zl_680, zl_862, zl_999, zl_1000, zl_9999, zl_10000, zl_1000000, zl_m1, zl_m2, zl_m3, zl_m8, zl_87, zl_88] at hi_td hi_spp hk_fa c4 c5 c9 c10 hz11 c12 hz13 hz14 hz15 hz17 hz18 hz19 hz20 hz22 ⊢); omega))
        refine z_iast Z hP hD hS 1 0 rfl rfl (vin (by decide)) dX12_horse_78 (fun H locs hP hD hS => ?_)
        have hrg24 := AK.s0 (v := z23) hrg21 (by first | with_reducible assumption | ((try simp only [zlt, zle, zeq, zl_0, zl_1, zl_2, zl_3, zl_4, zl_5, zl_6, zl_7, zl_8, zl_9, zl_10, zl_11, zl_12, zl_13, zl_14, zl_15, zl_16, zl_17, zl_18, zl_19, zl_20, zl_21, zl_22, zl_23, zl_24, zl_25, zl_26, zl_27, zl_28, zl_29, zl_30, zl_31, zl_32, zl_33, zl_34, zl_35, zl_36, zl_37, zl_38, zl_39, zl_40, zl_41, zl_42, zl_43, zl_44, zl_45, zl_46, zl_47, zl_48, zl_49, zl_50, zl_51, zl_52, zl_53, zl_54, zl_55, zl_56, zl_57, zl_58, zl_59, zl_60, zl_61, zl_62, zl_63, zl_64, zl_65, zl_82, zl_99, zl_100, zl_160, zl_299, zl_300, zl_301, zl_382, zl_398, zl_399, zl_464, zl_680, zl_862, zl_999, zl_1000, zl_9999, zl_10000, zl_1000000, zl_m1, zl_m2, zl_m3, zl_m8, zl_87, zl_88] at hi_td hi_spp hk_fa c4 c5 c9 c10 hz11 c12 hz13 hz14 hz15 hz17 hz18 hz19 hz20 hz22 hz23 ⊢); omega))
        generalize upd g21 (0 : Int32).toNatClampNeg z23 = g24 at hP hD hrg24
        have hP : va_P D vwCl ([(q, .inr (12, [.ref aA, .ref aI, .ref xT, .ref tP_, .int td, .int fu, .int fp, .int at_, .int plc, .int tok, .int num, .long wrd, .int tx0, .int cls, .int wri, .int cam, .ref pI, .int pid, .int ope, .int isw, .int so0, .int onc, .ref nm, .ref vL, .ref tR, .int spp, .int eat, .int ste, .ref rW, .ref sP, .ref oT, .ref bS, .ref aS, .ref aO, .ref cS, .ref wY])), (aA, .inl (cI, 862, .inl g24))]) H := hP
        have hD : va_D A ([(q, .inr (12, [.ref aA, .ref aI, .ref xT, .ref tP_, .int td, .int fu, .int fp, .int at_, .int plc, .int tok, .int num, .long wrd, .int tx0, .int cls, .int wri, .int cam, .ref pI, .int pid, .int ope, .int isw, .int so0, .int onc, .ref nm, .ref vL, .ref tR, .int spp, .int eat, .int ste, .ref rW, .ref sP, .ref oT, .ref bS, .ref aS, .ref aO, .ref cS, .ref wY])), (aA, .inl (cI, 862, .inl g24))]) := hD
        refine lv_aload_n hx hb dX12_horse_79 rfl (lv_at hl 0 rfl) ?_
        refine z_get Z i_X12 hP 0 rfl rfl 0 (by decide) bw_1019 rfl dX12_horse_80 ?_
        refine lv_iconst (v := 0) hx hb dX12_horse_83 (by decide) ?_
        refine z_iald Z hP 1 0 rfl rfl (vin (by decide)) dX12_horse_84 ?_
        refine lv_topi (fun z25 ez25 => ?_)
        have hz25 : z25.toInt = (z23 : Int32).toInt := by rw [ez25]; exact AK.k0 hrg24
        refine lv_iconst (v := 1) hx hb dX12_horse_85 (by decide) ?_
        refine lv_isub hx hb dX12_horse_86 ?_
        refine lv_topi (fun z26 ez26 => ?_)
        have hz26 : z26.toInt = z25.toInt - 1 := by rw [ez26]; exact zsubg (by first | with_reducible assumption | ((try simp only [zlt, zle, zeq, zl_0, zl_1, zl_2, zl_3, zl_4, zl_5, zl_6, zl_7, zl_8, zl_9, zl_10, zl_11, zl_12, zl_13, zl_14, zl_15, zl_16, zl_17, zl_18, zl_19, zl_20, zl_21, zl_22, zl_23, zl_24, zl_25, zl_26, zl_27, zl_28, zl_29, zl_30, zl_31, zl_32, zl_33, zl_34, zl_35, zl_36, zl_37, zl_38, zl_39, zl_40, zl_41, zl_42, zl_43, zl_44, zl_45, zl_46, zl_47, zl_48, zl_49, zl_50, zl_51, zl_52, zl_53, zl_54, zl_55, zl_56, zl_57, zl_58, zl_59, zl_60, zl_61, zl_62, zl_63, zl_64, zl_65, zl_82, zl_99, zl_100, zl_160, zl_299, zl_300, zl_301, zl_382, zl_398, zl_399, zl_464, zl_680, zl_862, zl_999, zl_1000, zl_9999, zl_10000, zl_1000000, zl_m1, zl_m2, zl_m3, zl_m8, zl_87, zl_88] at hi_td hi_spp hk_fa c4 c5 c9 c10 hz11 c12 hz13 hz14 hz15 hz17 hz18 hz19 hz20 hz22 hz23 hz25 ⊢); omega)) (by first | with_reducible assumption | ((try simp only [zlt, zle, zeq, zl_0, zl_1, zl_2, zl_3, zl_4, zl_5, zl_6, zl_7, zl_8, zl_9, zl_10, zl_11, zl_12, zl_13, zl_14, zl_15, zl_16, zl_17, zl_18, zl_19, zl_20, zl_21, zl_22, zl_23, zl_24, zl_25, zl_26, zl_27, zl_28, zl_29, zl_30, zl_31, zl_32, zl_33, zl_34, zl_35, zl_36, zl_37, zl_38, zl_39, zl_40, zl_41, zl_42, zl_43, zl_44, zl_45, zl_46, zl_47, zl_48, zl_49, zl_50, zl_51, zl_52, zl_53, zl_54, zl_55, zl_56, zl_57, zl_58, zl_59, zl_60, zl_61, zl_62, zl_63, zl_64, zl_65, zl_82, zl_99, zl_100, zl_160, zl_299, zl_300, zl_301, zl_382, zl_398, zl_399, zl_464, zl_680, zl_862, zl_999, zl_1000, zl_9999, zl_10000, zl_1000000, zl_m1, zl_m2, zl_m3, zl_m8, zl_87, zl_88] at hi_td hi_spp hk_fa c4 c5 c9 c10 hz11 c12 hz13 hz14 hz15 hz17 hz18 hz19 hz20 hz22 hz23 hz25 ⊢); omega))
        exact z_ret Z rfl hP hD hS (⟨g24, ((z23 : Int32).toInt), rfl, hrg24, (by (try simp only [zlt, zle, zeq, zl_0, zl_1, zl_2, zl_3, zl_4, zl_5, zl_6, zl_7, zl_8, zl_9, zl_10, zl_11, zl_12, zl_13, zl_14, zl_15, zl_16, zl_17, zl_18, zl_19, zl_20, zl_21, zl_22, zl_23, zl_24, zl_25, zl_26, zl_27, zl_28, zl_29, zl_30, zl_31, zl_32, zl_33, zl_34, zl_35, zl_36, zl_37, zl_38, zl_39, zl_40, zl_41, zl_42, zl_43, zl_44, zl_45, zl_46, zl_47, zl_48, zl_49, zl_50, zl_51, zl_52, zl_53, zl_54, zl_55, zl_56, zl_57, zl_58, zl_59, zl_60, zl_61, zl_62, zl_63, zl_64, zl_65, zl_82, zl_99, zl_100, zl_160, zl_299, zl_300, zl_301, zl_382, zl_398, zl_399, zl_464, zl_680, zl_862, zl_999, zl_1000, zl_9999, zl_10000, zl_1000000, zl_m1, zl_m2, zl_m3, zl_m8, zl_87, zl_88, and_true, true_and, and_false, false_and, or_false, false_or, or_true, true_or, not_true_eq_false, not_false_eq_true] at hi_td hi_spp hk_fa c4 c5 c9 c10 hz11 c12 hz13 hz14 hz15 hz17 hz18 hz19 hz20 hz22 hz23 hz25 hz26 ⊢) <;> omega)⟩) dX12_horse_87 (Nat.le_of_ble_eq_true rfl) (Nat.le_of_ble_eq_true rfl)
      · refine lv_iconst (v := (-1)) hx hb dX12_horse_31 (by decide) ?_
        exact z_ret Z rfl hP hD hS (⟨fa, kc0, rfl, hr_fa, (by (try simp only [zlt, zle, zeq, zl_0, zl_1, zl_2, zl_3, zl_4, zl_5, zl_6, zl_7, zl_8, zl_9, zl_10, zl_11, zl_12, zl_13, zl_14, zl_15, zl_16, zl_17, zl_18, zl_19, zl_20, zl_21, zl_22, zl_23, zl_24, zl_25, zl_26, zl_27, zl_28, zl_29, zl_30, zl_31, zl_32, zl_33, zl_34, zl_35, zl_36, zl_37, zl_38, zl_39, zl_40, zl_41, zl_42, zl_43, zl_44, zl_45, zl_46, zl_47, zl_48, zl_49, zl_50, zl_51, zl_52, zl_53, zl_54, zl_55, zl_56, zl_57, zl_58, zl_59, zl_60, zl_61, zl_62, zl_63, zl_64, zl_65, zl_82, zl_99, zl_100, zl_160, zl_299, zl_300, zl_301, zl_382, zl_398, zl_399, zl_464, zl_680, zl_862, zl_999, zl_1000, zl_9999, zl_10000, zl_1000000, zl_m1, zl_m2, zl_m3, zl_m8, zl_87, zl_88, and_true, true_and, and_false, false_and, or_false, false_or, or_true, true_or, not_true_eq_false, not_false_eq_true] at hi_td hi_spp hk_fa c4 c5 c9 c10 hz11 c12 ⊢) <;> omega)⟩) dX12_horse_32 (Nat.le_of_ble_eq_true rfl) (Nat.le_of_ble_eq_true rfl)
    · obtain rfl : r7 = 0 := by rw [hrh8, if_neg c9]
      refine lv_if_eq (tgt := 31) hx hb dX12_horse_17 (by decide) (fun c27 => ?_) (fun h => absurd (by decide) h)
      refine lv_iconst (v := (-1)) hx hb dX12_horse_31 (by decide) ?_
      exact z_ret Z rfl hP hD hS (⟨fa, kc0, rfl, hr_fa, (by (try simp only [zlt, zle, zeq, zl_0, zl_1, zl_2, zl_3, zl_4, zl_5, zl_6, zl_7, zl_8, zl_9, zl_10, zl_11, zl_12, zl_13, zl_14, zl_15, zl_16, zl_17, zl_18, zl_19, zl_20, zl_21, zl_22, zl_23, zl_24, zl_25, zl_26, zl_27, zl_28, zl_29, zl_30, zl_31, zl_32, zl_33, zl_34, zl_35, zl_36, zl_37, zl_38, zl_39, zl_40, zl_41, zl_42, zl_43, zl_44, zl_45, zl_46, zl_47, zl_48, zl_49, zl_50, zl_51, zl_52, zl_53, zl_54, zl_55, zl_56, zl_57, zl_58, zl_59, zl_60, zl_61, zl_62, zl_63, zl_64, zl_65, zl_82, zl_99, zl_100, zl_160, zl_299, zl_300, zl_301, zl_382, zl_398, zl_399, zl_464, zl_680, zl_862, zl_999, zl_1000, zl_9999, zl_10000, zl_1000000, zl_m1, zl_m2, zl_m3, zl_m8, zl_87, zl_88, and_true, true_and, and_false, false_and, or_false, false_or, or_true, true_or, not_true_eq_false, not_false_eq_true] at hi_td hi_spp hk_fa c4 c5 c9 c27 ⊢) <;> omega)⟩) dX12_horse_32 (Nat.le_of_ble_eq_true rfl) (Nat.le_of_ble_eq_true rfl)
  · obtain rfl : r2 = 0 := by rw [hrh3, if_neg c4]
    refine lv_if_eq (tgt := 31) hx hb dX12_horse_7 (by decide) (fun c28 => ?_) (fun h => absurd (by decide) h)
    refine lv_iconst (v := (-1)) hx hb dX12_horse_31 (by decide) ?_
    exact z_ret Z rfl hP hD hS (⟨fa, kc0, rfl, hr_fa, (by (try simp only [zlt, zle, zeq, zl_0, zl_1, zl_2, zl_3, zl_4, zl_5, zl_6, zl_7, zl_8, zl_9, zl_10, zl_11, zl_12, zl_13, zl_14, zl_15, zl_16, zl_17, zl_18, zl_19, zl_20, zl_21, zl_22, zl_23, zl_24, zl_25, zl_26, zl_27, zl_28, zl_29, zl_30, zl_31, zl_32, zl_33, zl_34, zl_35, zl_36, zl_37, zl_38, zl_39, zl_40, zl_41, zl_42, zl_43, zl_44, zl_45, zl_46, zl_47, zl_48, zl_49, zl_50, zl_51, zl_52, zl_53, zl_54, zl_55, zl_56, zl_57, zl_58, zl_59, zl_60, zl_61, zl_62, zl_63, zl_64, zl_65, zl_82, zl_99, zl_100, zl_160, zl_299, zl_300, zl_301, zl_382, zl_398, zl_399, zl_464, zl_680, zl_862, zl_999, zl_1000, zl_9999, zl_10000, zl_1000000, zl_m1, zl_m2, zl_m3, zl_m8, zl_87, zl_88, and_true, true_and, and_false, false_and, or_false, false_or, or_true, true_or, not_true_eq_false, not_false_eq_true] at hi_td hi_spp hk_fa c4 c28 ⊢) <;> omega)⟩) dX12_horse_32 (Nat.le_of_ble_eq_true rfl) (Nat.le_of_ble_eq_true rfl)
set_option maxHeartbeats 4000000 in
set_option maxRecDepth 100000 in
theorem c_X12_weather (l : Launch) (D : va_G) (cI cM cT cJ cZ : ClassId) (q : Nat) (p0 : Int32) (p1 : Int32) (aA : Nat) (aI : Nat) (xT : Nat) (tP_ : Nat) (td : Int32) (fu : Int32) (fp : Int32) (at_ : Int32) (plc : Int32) (tok : Int32) (num : Int32) (wrd : Int64) (tx0 : Int32) (cls : Int32) (wri : Int32) (cam : Int32) (pI : Nat) (pid : Int32) (ope : Int32) (isw : Int32) (so0 : Int32) (onc : Int32) (nm : Nat) (vL : Nat) (tR : Nat) (spp : Int32) (eat : Int32) (ste : Int32) (rW : Nat) (sP : Nat) (oT : Nat) (bS : Nat) (aS : Nat) (aO : Nat) (cS : Nat) (wY : Nat) (fa : Nat → Int32) (kc0 : Int) (kc1 : Int) (kc6 : Int) (kc9 : Int) (kc10 : Int) (hi_td : 0 ≤ td.toInt ∧ td.toInt ≤ 300) (hi_spp : 0 ≤ spp.toInt ∧ spp.toInt ≤ 299) (hr_fa : AK kc0 kc1 kc6 kc9 kc10 fa) : Ci l D (ty3 cI cM cT cJ cZ) yX12_weather cX12_weather 3 (some .boolean) 2 0 0 [.ref q, .int p0, .int p1] ([(q, .inr (12, [.ref aA, .ref aI, .ref xT, .ref tP_, .int td, .int fu, .int fp, .int at_, .int plc, .int tok, .int num, .long wrd, .int tx0, .int cls, .int wri, .int cam, .ref pI, .int pid, .int ope, .int isw, .int so0, .int onc, .ref nm, .ref vL, .ref tR, .int spp, .int eat, .int ste, .ref rW, .ref sP, .ref oT, .ref bS, .ref aS, .ref aO, .ref cS, .ref wY])), (aA, .inl (cI, 862, .inl fa))]) (fun r u => ∃ (fa_n : Nat → Int32), (0 ≤ r.toInt ∧ r.toInt ≤ 1) ∧ u = [(q, .inr (12, [.ref aA, .ref aI, .ref xT, .ref tP_, .int td, .int fu, .int fp, .int at_, .int plc, .int tok, .int num, .long wrd, .int tx0, .int cls, .int wri, .int cam, .ref pI, .int pid, .int ope, .int isw, .int so0, .int onc, .ref nm, .ref vL, .ref tR, .int spp, .int eat, .int ste, .ref rW, .ref sP, .ref oT, .ref bS, .ref aS, .ref aO, .ref cS, .ref wY])), (aA, .inl (cI, 862, .inl fa_n))] ∧ AK kc0 kc1 kc6 kc9 kc10 fa_n ∧ ((((0 ≤ p0.toInt ∧ p0.toInt ≤ 10) ∧ (0 ≤ p1.toInt ∧ p1.toInt ≤ 9999)) ∧ r.toInt = 1) ∨ (¬ ((0 ≤ p0.toInt ∧ p0.toInt ≤ 10) ∧ (0 ≤ p1.toInt ∧ p1.toInt ≤ 9999)) ∧ r.toInt = 0))) := by
  refine Ci.of (by decide +kernel) (Nat.le_of_ble_eq_true rfl) ?_
  intro p e s m below meth c A ls Z hin hP hD hl
  have hx := Z.1
  have hb := Z.2.1
  have hS : va_S A s.heap s.heap [] := va_S.rf
  have hl : lv_has ls 3 [(0, .ref q), (1, .int p0), (2, .int p1)] := hl
  skip
  have hk_fa := AK.rng hr_fa
  refine lv_iload_n hx hb dX12_weather_0 rfl (lv_at hl 1 rfl) ?_
  refine lv_iconst (v := 0) hx hb dX12_weather_1 (by decide) ?_
  refine lv_bipush (v := 10) hx hb dX12_weather_2 (by decide) ?_
  have hPc := hP.sub2 (wc := []) [] rfl
  have hDc := hD.sub (ws' := []) [] (by decide) rfl
  refine raw_Si (nA := 3) (As := [.int p0, .int 0, .int 10]) (rest := []) Z hl.1 (c_X12_isIn l D cI cM cT cJ cZ p0 0 10) (bw_S bw_1135 bw_1136 bw_92 bw_1137) ⟨by decide +kernel, by decide +kernel, by decide +kernel⟩ rfl ⟨Nat.le_of_ble_eq_true rfl, Nat.le_of_ble_eq_true rfl⟩ hPc hDc hS rfl (Nat.le_of_ble_eq_true rfl) dX12_weather_4 ⟨Nat.le_of_ble_eq_true rfl, Nat.le_of_ble_eq_true rfl⟩ (fun r2 u1 H1 locs1 h3 hku1 hP1 hD1 hS1 => ?_)
  obtain ⟨hrh3, rfl⟩ := h3
  obtain ⟨hP, hD⟩ := z_join (wr := [(q, .inr (12, [.ref aA, .ref aI, .ref xT, .ref tP_, .int td, .int fu, .int fp, .int at_, .int plc, .int tok, .int num, .long wrd, .int tx0, .int cls, .int wri, .int cam, .ref pI, .int pid, .int ope, .int isw, .int so0, .int onc, .ref nm, .ref vL, .ref tR, .int spp, .int eat, .int ste, .ref rW, .ref sP, .ref oT, .ref bS, .ref aS, .ref aO, .ref cS, .ref wY])), (aA, .inl (cI, 862, .inl fa))]) Z hS hP hD [] [0, 1] rfl (by decide) rfl (by decide) (by decide) hku1 hP1 hD1
  have hS := hS1
  clear hS1
  generalize H1 = H at hP hS ⊢
  generalize locs1 = locs at hS ⊢
  have hP : va_P D vwCl ([(q, .inr (12, [.ref aA, .ref aI, .ref xT, .ref tP_, .int td, .int fu, .int fp, .int at_, .int plc, .int tok, .int num, .long wrd, .int tx0, .int cls, .int wri, .int cam, .ref pI, .int pid, .int ope, .int isw, .int so0, .int onc, .ref nm, .ref vL, .ref tR, .int spp, .int eat, .int ste, .ref rW, .ref sP, .ref oT, .ref bS, .ref aS, .ref aO, .ref cS, .ref wY])), (aA, .inl (cI, 862, .inl fa))]) H := hP
  have hD : va_D A ([(q, .inr (12, [.ref aA, .ref aI, .ref xT, .ref tP_, .int td, .int fu, .int fp, .int at_, .int plc, .int tok, .int num, .long wrd, .int tx0, .int cls, .int wri, .int cam, .ref pI, .int pid, .int ope, .int isw, .int so0, .int onc, .ref nm, .ref vL, .ref tR, .int spp, .int eat, .int ste, .ref rW, .ref sP, .ref oT, .ref bS, .ref aS, .ref aO, .ref cS, .ref wY])), (aA, .inl (cI, 862, .inl fa))]) := hD
  by_cases c4 : 0 ≤ p0 ∧ p0 ≤ 10
  · obtain rfl : r2 = 1 := by rw [hrh3, if_pos c4]
    refine lv_if_eq (tgt := 21) hx hb dX12_weather_7 (by decide) (fun h => absurd h (by decide)) (fun c5 => ?_)
    refine lv_iload_n hx hb dX12_weather_10 rfl (lv_at hl 2 rfl) ?_
    refine lv_iconst (v := 0) hx hb dX12_weather_11 (by decide) ?_
    refine lv_sipush (v := 9999) hx hb dX12_weather_12 (by decide) ?_
    have hPc := hP.sub2 (wc := []) [] rfl
    have hDc := hD.sub (ws' := []) [] (by decide) rfl
    refine raw_Si (nA := 3) (As := [.int p1, .int 0, .int 9999]) (rest := []) Z hl.1 (c_X12_isIn l D cI cM cT cJ cZ p1 0 9999) (bw_S bw_1135 bw_1136 bw_92 bw_1137) ⟨by decide +kernel, by decide +kernel, by decide +kernel⟩ rfl ⟨Nat.le_of_ble_eq_true rfl, Nat.le_of_ble_eq_true rfl⟩ hPc hDc hS rfl (Nat.le_of_ble_eq_true rfl) dX12_weather_15 ⟨Nat.le_of_ble_eq_true rfl, Nat.le_of_ble_eq_true rfl⟩ (fun r7 u6 H1 locs1 h8 hku6 hP1 hD1 hS1 => ?_)
    obtain ⟨hrh8, rfl⟩ := h8
    obtain ⟨hP, hD⟩ := z_join (wr := [(q, .inr (12, [.ref aA, .ref aI, .ref xT, .ref tP_, .int td, .int fu, .int fp, .int at_, .int plc, .int tok, .int num, .long wrd, .int tx0, .int cls, .int wri, .int cam, .ref pI, .int pid, .int ope, .int isw, .int so0, .int onc, .ref nm, .ref vL, .ref tR, .int spp, .int eat, .int ste, .ref rW, .ref sP, .ref oT, .ref bS, .ref aS, .ref aO, .ref cS, .ref wY])), (aA, .inl (cI, 862, .inl fa))]) Z hS hP hD [] [0, 1] rfl (by decide) rfl (by decide) (by decide) hku6 hP1 hD1
    have hS := hS1
    clear hS1
    generalize H1 = H at hP hS ⊢
    generalize locs1 = locs at hS ⊢
    have hP : va_P D vwCl ([(q, .inr (12, [.ref aA, .ref aI, .ref xT, .ref tP_, .int td, .int fu, .int fp, .int at_, .int plc, .int tok, .int num, .long wrd, .int tx0, .int cls, .int wri, .int cam, .ref pI, .int pid, .int ope, .int isw, .int so0, .int onc, .ref nm, .ref vL, .ref tR, .int spp, .int eat, .int ste, .ref rW, .ref sP, .ref oT, .ref bS, .ref aS, .ref aO, .ref cS, .ref wY])), (aA, .inl (cI, 862, .inl fa))]) H := hP
    have hD : va_D A ([(q, .inr (12, [.ref aA, .ref aI, .ref xT, .ref tP_, .int td, .int fu, .int fp, .int at_, .int plc, .int tok, .int num, .long wrd, .int tx0, .int cls, .int wri, .int cam, .ref pI, .int pid, .int ope, .int isw, .int so0, .int onc, .ref nm, .ref vL, .ref tR, .int spp, .int eat, .int ste, .ref rW, .ref sP, .ref oT, .ref bS, .ref aS, .ref aO, .ref cS, .ref wY])), (aA, .inl (cI, 862, .inl fa))]) := hD
    by_cases c9 : 0 ≤ p1 ∧ p1 ≤ 9999
    · obtain rfl : r7 = 1 := by rw [hrh8, if_pos c9]
      refine lv_if_ne (tgt := 23) hx hb dX12_weather_18 (by decide) (fun c10 => ?_) (fun h => absurd h (by decide))
      refine lv_aload_n hx hb dX12_weather_23 rfl (lv_at hl 0 rfl) ?_
      refine z_get Z i_X12 hP 0 rfl rfl 0 (by decide) bw_1019 rfl dX12_weather_24 ?_
      refine lv_iconst (v := 4) hx hb dX12_weather_27 (by decide) ?_
      refine lv_iload_n hx hb dX12_weather_28 rfl (lv_at hl 1 rfl) ?_
      refine z_iast Z hP hD hS 1 0 rfl rfl (vin (by decide)) dX12_weather_29 (fun H locs hP hD hS => ?_)
      have hrg11 := AK.st (x := 4) (v := p0) hr_fa (by first | with_reducible assumption | ((try simp only [zlt, zle, zeq, zl_0, zl_1, zl_2, zl_3, zl_4, zl_5, zl_6, zl_7, zl_8, zl_9, zl_10, zl_11, zl_12, zl_13, zl_14, zl_15, zl_16, zl_17, zl_18, zl_19, zl_20, zl_21, zl_22, zl_23, zl_24, zl_25, zl_26, zl_27, zl_28, zl_29, zl_30, zl_31, zl_32, zl_33, zl_34, zl_35, zl_36, zl_37, zl_38, zl_39, zl_40, zl_41, zl_42, zl_43, zl_44, zl_45, zl_46, zl_47, zl_48, zl_49, zl_50, zl_51, zl_52, zl_53, zl_54, zl_55, zl_56, zl_57, zl_58, zl_59, zl_60, zl_61, zl_62, zl_63, zl_64, zl_65, zl_82, zl_99, zl_100, zl_160, zl_299, zl_300, zl_301, zl_382, zl_398, zl_399, zl_464, zl_680, zl_862, zl_999, zl_1000, zl_9999, zl_10000, zl_1000000, zl_m1, zl_m2, zl_m3, zl_m8, zl_87, zl_88] at hi_td hi_spp hk_fa c4 c5 c9 c10 ⊢); omega)) (by unfold RAi; (try simp only [zlt, zle, zeq, zl_0, zl_1, zl_2, zl_3, zl_4, zl_5, zl_6, zl_7, zl_8, zl_9, zl_10, zl_11, zl_12, zl_13, zl_14, zl_15, zl_16, zl_17, zl_18, zl_19, zl_20, zl_21, zl_22, zl_23, zl_24, zl_25, zl_26, zl_27, zl_28, zl_29, zl_30, zl_31, zl_32, zl_33, zl_34, zl_35, zl_36, zl_37, zl_38, zl_39, zl_40, zl_41, zl_42, zl_43, zl_44, zl_45, zl_46, zl_47, zl_48, zl_49, zl_50, zl_51, zl_52, zl_53, zl_54, zl_55, zl_56, zl_57, zl_58, zl_59, zl_60, zl_61, zl_62, zl_63, zl_64, zl_65, zl_82, zl_99, zl_100, zl_160, zl_299, zl_300, zl_301, zl_382, zl_398, zl_399, zl_464, zl_680, zl_862, zl_999, zl_1000, zl_9999, zl_10000, zl_1000000, zl_m1, zl_m2, zl_m3, zl_m8, zl_87, zl_88] at hi_td hi_spp hk_fa c4 c5 c9 c10 ⊢); omega)
      generalize upd fa (4 : Int32).toNatClampNeg p0 = g11 at hP hD hrg11
      have hP : va_P D vwCl ([(q, .inr (12, [.ref aA, .ref aI, .ref xT, .ref tP_, .int td, .int fu, .int fp, .int at_, .int plc, .int tok, .int num, .long wrd, .int tx0, .int cls, .int wri, .int cam, .ref pI, .int pid, .int ope, .int isw, .int so0, .int onc, .ref nm, .ref vL, .ref tR, .int spp, .int eat, .int ste, .ref rW, .ref sP, .ref oT, .ref bS, .ref aS, .ref aO, .ref cS, .ref wY])), (aA, .inl (cI, 862, .inl g11))]) H := hP
      have hD : va_D A ([(q, .inr (12, [.ref aA, .ref aI, .ref xT, .ref tP_, .int td, .int fu, .int fp, .int at_, .int plc, .int tok, .int num, .long wrd, .int tx0, .int cls, .int wri, .int cam, .ref pI, .int pid, .int ope, .int isw, .int so0, .int onc, .ref nm, .ref vL, .ref tR, .int spp, .int eat, .int ste, .ref rW, .ref sP, .ref oT, .ref bS, .ref aS, .ref aO, .ref cS, .ref wY])), (aA, .inl (cI, 862, .inl g11))]) := hD
      refine lv_aload_n hx hb dX12_weather_30 rfl (lv_at hl 0 rfl) ?_
      refine z_get Z i_X12 hP 0 rfl rfl 0 (by decide) bw_1019 rfl dX12_weather_31 ?_
      refine lv_iconst (v := 5) hx hb dX12_weather_34 (by decide) ?_
      refine lv_iload_n hx hb dX12_weather_35 rfl (lv_at hl 2 rfl) ?_
      refine lv_bipush (v := 7) hx hb dX12_weather_36 (by decide) ?_
      refine lv_imul hx hb dX12_weather_38 ?_
      refine lv_topi (fun z12 ez12 => ?_)
      have hz12 : z12.toInt = p1.toInt * 7 := by rw [ez12]; exact zmulg (by first | with_reducible assumption | ((try simp only [zlt, zle, zeq, zl_0, zl_1, zl_2, zl_3, zl_4, zl_5, zl_6, zl_7, zl_8, zl_9, zl_10, zl_11, zl_12, zl_13, zl_14, zl_15, zl_16, zl_17, zl_18, zl_19, zl_20, zl_21, zl_22, zl_23, zl_24, zl_25, zl_26, zl_27, zl_28, zl_29, zl_30, zl_31, zl_32, zl_33, zl_34, zl_35, zl_36, zl_37, zl_38, zl_39, zl_40, zl_41, zl_42, zl_43, zl_44, zl_45, zl_46, zl_47, zl_48, zl_49, zl_50, zl_51, zl_52, zl_53, zl_54, zl_55, zl_56, zl_57, zl_58, zl_59, zl_60, zl_61, zl_62, zl_63, zl_64, zl_65, zl_82, zl_99, zl_100, zl_160, zl_299, zl_300, zl_301, zl_382, zl_398, zl_399, zl_464, zl_680, zl_862, zl_999, zl_1000, zl_9999, zl_10000, zl_1000000, zl_m1, zl_m2, zl_m3, zl_m8, zl_87, zl_88] at hi_td hi_spp hk_fa c4 c5 c9 c10 ⊢); omega)) (by first | with_reducible assumption | ((try simp only [zlt, zle, zeq, zl_0, zl_1, zl_2, zl_3, zl_4, zl_5, zl_6, zl_7, zl_8, zl_9, zl_10, zl_11, zl_12, zl_13, zl_14, zl_15, zl_16, zl_17, zl_18, zl_19, zl_20, zl_21, zl_22, zl_23, zl_24, zl_25, zl_26, zl_27, zl_28, zl_29, zl_30, zl_31, zl_32, zl_33, zl_34, zl_35, zl_36, zl_37, zl_38, zl_39, zl_40, zl_41, zl_42, zl_43, zl_44, zl_45, zl_46, zl_47, zl_48, zl_49, zl_50, zl_51, zl_52, zl_53, zl_54, zl_55, zl_56, zl_57, zl_58, zl_59, zl_60, zl_61, zl_62, zl_63, zl_64, zl_65, zl_82, zl_99, zl_100, zl_160, zl_299, zl_300, zl_301, zl_382, zl_398, zl_399, zl_464, zl_680, zl_862, zl_999, zl_1000, zl_9999, zl_10000, zl_1000000, zl_m1, zl_m2, zl_m3, zl_m8, zl_87, zl_88] at hi_td hi_spp hk_fa c4 c5 c9 c10 ⊢); omega))
      refine lv_bipush (v := 13) hx hb dX12_weather_39 (by decide) ?_
      refine lv_iadd hx hb dX12_weather_41 ?_
      refine lv_topi (fun z13 ez13 => ?_)
      have hz13 : z13.toInt = z12.toInt + 13 := by rw [ez13]; exact zaddg (by first | with_reducible assumption | ((try simp only [zlt, zle, zeq, zl_0, zl_1, zl_2, zl_3, zl_4, zl_5, zl_6, zl_7, zl_8, zl_9, zl_10, zl_11, zl_12, zl_13, zl_14, zl_15, zl_16, zl_17, zl_18, zl_19, zl_20, zl_21, zl_22, zl_23, zl_24, zl_25, zl_26, zl_27, zl_28, zl_29, zl_30, zl_31, zl_32, zl_33, zl_34, zl_35, zl_36, zl_37, zl_38, zl_39, zl_40, zl_41, zl_42, zl_43, zl_44, zl_45, zl_46, zl_47, zl_48, zl_49, zl_50, zl_51, zl_52, zl_53, zl_54, zl_55, zl_56, zl_57, zl_58, zl_59, zl_60, zl_61, zl_62, zl_63, zl_64, zl_65, zl_82, zl_99, zl_100, zl_160, zl_299, zl_300, zl_301, zl_382, zl_398, zl_399, zl_464, zl_680, zl_862, zl_999, zl_1000, zl_9999, zl_10000, zl_1000000, zl_m1, zl_m2, zl_m3, zl_m8, zl_87, zl_88] at hi_td hi_spp hk_fa c4 c5 c9 c10 hz12 ⊢); omega)) (by first | with_reducible assumption | ((try simp only [zlt, zle, zeq, zl_0, zl_1, zl_2, zl_3, zl_4, zl_5, zl_6, zl_7, zl_8, zl_9, zl_10, zl_11, zl_12, zl_13, zl_14, zl_15, zl_16, zl_17, zl_18, zl_19, zl_20, zl_21, zl_22, zl_23, zl_24, zl_25, zl_26, zl_27, zl_28, zl_29, zl_30, zl_31, zl_32, zl_33, zl_34, zl_35, zl_36, zl_37, zl_38, zl_39, zl_40, zl_41, zl_42, zl_43, zl_44, zl_45, zl_46, zl_47, zl_48, zl_49, zl_50, zl_51, zl_52, zl_53, zl_54, zl_55, zl_56, zl_57, zl_58, zl_59, zl_60, zl_61, zl_62, zl_63, zl_64, zl_65, zl_82, zl_99, zl_100, zl_160, zl_299, zl_300, zl_301, zl_382, zl_398, zl_399, zl_464, zl_680, zl_862, zl_999, zl_1000, zl_9999, zl_10000, zl_1000000, zl_m1, zl_m2, zl_m3, zl_m8, zl_87, zl_88] at hi_td hi_spp hk_fa c4 c5 c9 c10 hz12 ⊢); omega))
      refine z_iast Z hP hD hS 1 0 rfl rfl (vin (by decide)) dX12_weather_42 (fun H locs hP hD hS => ?_)
      have hrg14 := AK.st (x := 5) (v := z13) hrg11 (by first | with_reducible assumption | ((try simp only [zlt, zle, zeq, zl_0, zl_1, zl_2, zl_3, zl_4, zl_5, zl_6, zl_7, zl_8, zl_9, zl_10, zl_11, zl_12, zl_13, zl_14, zl_15, zl_16, zl_17, zl_18, zl_19, zl_20, zl_21, zl_22, zl_23, zl_24, zl_25, zl_26, zl_27, zl_28, zl_29, zl_30, zl_31, zl_32, zl_33, zl_34, zl_35, zl_36, zl_37, zl_38, zl_39, zl_40, zl_41, zl_42, zl_43, zl_44, zl_45, zl_46, zl_47, zl_48, zl_49, zl_50, zl_51, zl_52, zl_53, zl_54, zl_55, zl_56, zl_57, zl_58, zl_59, zl_60, zl_61, zl_62, zl_63, zl_64, zl_65, zl_82, zl_99, zl_100, zl_160, zl_299, zl_300, zl_301, zl_382, zl_398, zl_399, zl_464, zl_680, zl_862, zl_999, zl_1000, zl_9999, zl_10000, zl_1000000, zl_m1, zl_m2, zl_m3, zl_m8, zl_87, zl_88] at hi_td hi_spp hk_fa c4 c5 c9 c10 hz12 hz13 ⊢); omega)) (by unfold RAi; (try simp only [zlt, zle, zeq, zl_0, zl_1, zl_2, zl_3, zl_4, zl_5, zl_6, zl_7, zl_8, zl_9, zl_10, zl_11, zl_12, zl_13, zl_14, zl_15, zl_16, zl_17, zl_18, zl_19, zl_20, zl_21, zl_22, zl_23, zl_24, zl_25, zl_26, zl_27, zl_28, zl_29, zl_30, zl_31, zl_32, zl_33, zl_34, zl_35, zl_36, zl_37, zl_38, zl_39, zl_40, zl_41, zl_42, zl_43, zl_44, zl_45, zl_46, zl_47, zl_48, zl_49, zl_50, zl_51, zl_52, zl_53, zl_54, zl_55, zl_56, zl_57, zl_58, zl_59, zl_60, zl_61, zl_62, zl_63, zl_64, zl_65, zl_82, zl_99, zl_100, zl_160, zl_299, zl_300, zl_301, zl_382, zl_398, zl_399, zl_464, zl_680, zl_862, zl_999, zl_1000, zl_9999, zl_10000, zl_1000000, zl_m1, zl_m2, zl_m3, zl_m8, zl_87, zl_88] at hi_td hi_spp hk_fa c4 c5 c9 c10 hz12 hz13 ⊢); omega)
      generalize upd g11 (5 : Int32).toNatClampNeg z13 = g14 at hP hD hrg14
      have hP : va_P D vwCl ([(q, .inr (12, [.ref aA, .ref aI, .ref xT, .ref tP_, .int td, .int fu, .int fp, .int at_, .int plc, .int tok, .int num, .long wrd, .int tx0, .int cls, .int wri, .int cam, .ref pI, .int pid, .int ope, .int isw, .int so0, .int onc, .ref nm, .ref vL, .ref tR, .int spp, .int eat, .int ste, .ref rW, .ref sP, .ref oT, .ref bS, .ref aS, .ref aO, .ref cS, .ref wY])), (aA, .inl (cI, 862, .inl g14))]) H := hP
      have hD : va_D A ([(q, .inr (12, [.ref aA, .ref aI, .ref xT, .ref tP_, .int td, .int fu, .int fp, .int at_, .int plc, .int tok, .int num, .long wrd, .int tx0, .int cls, .int wri, .int cam, .ref pI, .int pid, .int ope, .int isw, .int so0, .int onc, .ref nm, .ref vL, .ref tR, .int spp, .int eat, .int ste, .ref rW, .ref sP, .ref oT, .ref bS, .ref aS, .ref aO, .ref cS, .ref wY])), (aA, .inl (cI, 862, .inl g14))]) := hD
      refine lv_iconst (v := 1) hx hb dX12_weather_43 (by decide) ?_
      exact z_ret Z rfl hP hD hS (⟨g14, (by decide), rfl, hrg14, (by (try simp only [zlt, zle, zeq, zl_0, zl_1, zl_2, zl_3, zl_4, zl_5, zl_6, zl_7, zl_8, zl_9, zl_10, zl_11, zl_12, zl_13, zl_14, zl_15, zl_16, zl_17, zl_18, zl_19, zl_20, zl_21, zl_22, zl_23, zl_24, zl_25, zl_26, zl_27, zl_28, zl_29, zl_30, zl_31, zl_32, zl_33, zl_34, zl_35, zl_36, zl_37, zl_38, zl_39, zl_40, zl_41, zl_42, zl_43, zl_44, zl_45, zl_46, zl_47, zl_48, zl_49, zl_50, zl_51, zl_52, zl_53, zl_54, zl_55, zl_56, zl_57, zl_58, zl_59, zl_60, zl_61, zl_62, zl_63, zl_64, zl_65, zl_82, zl_99, zl_100, zl_160, zl_299, zl_300, zl_301, zl_382, zl_398, zl_399, zl_464, zl_680, zl_862, zl_999, zl_1000, zl_9999, zl_10000, zl_1000000, zl_m1, zl_m2, zl_m3, zl_m8, zl_87, zl_88, and_true, true_and, and_false, false_and, or_false, false_or, or_true, true_or, not_true_eq_false, not_false_eq_true] at hi_td hi_spp hk_fa c4 c5 c9 c10 hz12 hz13 ⊢) <;> omega)⟩) dX12_weather_44 (Nat.le_of_ble_eq_true rfl) (Nat.le_of_ble_eq_true rfl)
    · obtain rfl : r7 = 0 := by rw [hrh8, if_neg c9]
      refine lv_if_ne (tgt := 23) hx hb dX12_weather_18 (by decide) (fun h => absurd (by decide) h) (fun c15 => ?_)
      refine lv_iconst (v := 0) hx hb dX12_weather_21 (by decide) ?_
      exact z_ret Z rfl hP hD hS (⟨fa, (by decide), rfl, hr_fa, (by (try simp only [zlt, zle, zeq, zl_0, zl_1, zl_2, zl_3, zl_4, zl_5, zl_6, zl_7, zl_8, zl_9, zl_10, zl_11, zl_12, zl_13, zl_14, zl_15, zl_16, zl_17, zl_18, zl_19, zl_20, zl_21, zl_22, zl_23, zl_24, zl_25, zl_26, zl_27, zl_28, zl_29, zl_30, zl_31, zl_32, zl_33, zl_34, zl_35, zl_36, zl_37, zl_38, zl_39, zl_40, zl_41, zl_42, zl_43, zl_44, zl_45, zl_46, zl_47, zl_48, zl_49, zl_50, zl_51, zl_52, zl_53, zl_54, zl_55, zl_56, zl_57, zl_58, zl_59, zl_60, zl_61, zl_62, zl_63, zl_64, zl_65, zl_82, zl_99, zl_100, zl_160, zl_299, zl_300, zl_301, zl_382, zl_398, zl_399, zl_464, zl_680, zl_862, zl_999, zl_1000, zl_9999, zl_10000, zl_1000000, zl_m1, zl_m2, zl_m3, zl_m8, zl_87, zl_88, and_true, true_and, and_false, false_and, or_false, false_or, or_true, true_or, not_true_eq_false, not_false_eq_true] at hi_td hi_spp hk_fa c4 c5 c9 c15 ⊢) <;> omega)⟩) dX12_weather_22 (Nat.le_of_ble_eq_true rfl) (Nat.le_of_ble_eq_true rfl)
  · obtain rfl : r2 = 0 := by rw [hrh3, if_neg c4]
    refine lv_if_eq (tgt := 21) hx hb dX12_weather_7 (by decide) (fun c16 => ?_) (fun h => absurd (by decide) h)
    refine lv_iconst (v := 0) hx hb dX12_weather_21 (by decide) ?_
    exact z_ret Z rfl hP hD hS (⟨fa, (by decide), rfl, hr_fa, (by (try simp only [zlt, zle, zeq, zl_0, zl_1, zl_2, zl_3, zl_4, zl_5, zl_6, zl_7, zl_8, zl_9, zl_10, zl_11, zl_12, zl_13, zl_14, zl_15, zl_16, zl_17, zl_18, zl_19, zl_20, zl_21, zl_22, zl_23, zl_24, zl_25, zl_26, zl_27, zl_28, zl_29, zl_30, zl_31, zl_32, zl_33, zl_34, zl_35, zl_36, zl_37, zl_38, zl_39, zl_40, zl_41, zl_42, zl_43, zl_44, zl_45, zl_46, zl_47, zl_48, zl_49, zl_50, zl_51, zl_52, zl_53, zl_54, zl_55, zl_56, zl_57, zl_58, zl_59, zl_60, zl_61, zl_62, zl_63, zl_64, zl_65, zl_82, zl_99, zl_100, zl_160, zl_299, zl_300, zl_301, zl_382, zl_398, zl_399, zl_464, zl_680, zl_862, zl_999, zl_1000, zl_9999, zl_10000, zl_1000000, zl_m1, zl_m2, zl_m3, zl_m8, zl_87, zl_88, and_true, true_and, and_false, false_and, or_false, false_or, or_true, true_or, not_true_eq_false, not_false_eq_true] at hi_td hi_spp hk_fa c4 c16 ⊢) <;> omega)⟩) dX12_weather_22 (Nat.le_of_ble_eq_true rfl) (Nat.le_of_ble_eq_true rfl)
set_option maxHeartbeats 4000000 in
set_option maxRecDepth 100000 in
theorem lp_X12_four {p : Program} (l : Launch) {e : Env} {s : State} {m : MethodId} {below : List Frame} {meth : Method} {c : Code} {A : Nat → Prop} (D : va_G) (cI cM cT cJ cZ : ClassId) (q : Nat) (p0 : Int32) (aA : Nat) (aI : Nat) (xT : Nat) (tP_ : Nat) (td : Int32) (fu : Int32) (fp : Int32) (at_ : Int32) (plc : Int32) (tok : Int32) (num : Int32) (wrd : Int64) (tx0 : Int32) (cls : Int32) (wri : Int32) (cam : Int32) (pI : Nat) (pid : Int32) (ope : Int32) (isw : Int32) (so0 : Int32) (onc : Int32) (nm : Nat) (vL : Nat) (tR : Nat) (spp : Int32) (eat : Int32) (ste : Int32) (rW : Nat) (sP : Nat) (oT : Nat) (bS : Nat) (aS : Nat) (aO : Nat) (cS : Nat) (wY : Nat) (ftp : Nat → Int32) (Z : Zx p s m ([.ref q, .int p0] : List Value).toArray meth c cX12_four 3 none yX12_four.cls A (ty3 cI cM cT cJ cZ) D) (hi_td : 0 ≤ td.toInt ∧ td.toInt ≤ 300) (hi_spp : 0 ≤ spp.toInt ∧ spp.toInt ≤ 299) (hf : td.toInt ≤ 296) : ∀ (n0 : Nat) (j : Int32) (vtd : Int32) (vftp : Nat → Int32) (h0 : -8 ≤ j.toInt ∧ j.toInt ≤ 24 ∧ j.toInt % 8 = 0) (h1 : 8 * (vtd.toInt - td.toInt) = 24 - j.toInt) (hv_td : 0 ≤ vtd.toInt ∧ vtd.toInt ≤ 300), (j.toInt + 8).toNat < n0 → ∀ (H : Heap) (locs : List Loc) (ls : Array Slot), va_P D vwCl ([(q, .inr (12, [.ref aA, .ref aI, .ref xT, .ref tP_, .int vtd, .int fu, .int fp, .int at_, .int plc, .int tok, .int num, .long wrd, .int tx0, .int cls, .int wri, .int cam, .ref pI, .int pid, .int ope, .int isw, .int so0, .int onc, .ref nm, .ref vL, .ref tR, .int spp, .int eat, .int ste, .ref rW, .ref sP, .ref oT, .ref bS, .ref aS, .ref aO, .ref cS, .ref wY])), (tP_, .inl (cI, 300, .inl vftp))]) H → va_D A ([(q, .inr (12, [.ref aA, .ref aI, .ref xT, .ref tP_, .int vtd, .int fu, .int fp, .int at_, .int plc, .int tok, .int num, .long wrd, .int tx0, .int cls, .int wri, .int cam, .ref pI, .int pid, .int ope, .int isw, .int so0, .int onc, .ref nm, .ref vL, .ref tR, .int spp, .int eat, .int ste, .ref rW, .ref sP, .ref oT, .ref bS, .ref aS, .ref aO, .ref cS, .ref wY])), (tP_, .inl (cI, 300, .inl vftp))]) → va_S A s.heap H locs → lv_has ls 3 [(0, .ref q), (1, .int p0), (2, .int j)] → W p l e (rmv 0 0 0) s m ([.ref q, .int p0] : List Value).toArray below meth c H locs 0 0 (MQ below (va_Qv (fun u => ∃ (td_n : Int32) (ftp_n : Nat → Int32), u = [(q, .inr (12, [.ref aA, .ref aI, .ref xT, .ref tP_, .int td_n, .int fu, .int fp, .int at_, .int plc, .int tok, .int num, .long wrd, .int tx0, .int cls, .int wri, .int cam, .ref pI, .int pid, .int ope, .int isw, .int so0, .int onc, .ref nm, .ref vL, .ref tR, .int spp, .int eat, .int ste, .ref rW, .ref sP, .ref oT, .ref bS, .ref aS, .ref aO, .ref cS, .ref wY])), (tP_, .inl (cI, 300, .inl ftp_n))] ∧ (0 ≤ td_n.toInt ∧ td_n.toInt ≤ 300) ∧ (td_n.toInt = td.toInt + 4)) (cB D (ty3 cI cM cT cJ cZ) A) A) ([.ref q, .int p0] : List Value).toArray s 0 0 A) (F0 m 3 ls []) := by
  have hx := Z.1
  have hb := Z.2.1
  intro n0
  induction n0 with
  | zero => intro j vtd vftp h0 h1 hv_td hm; exact absurd hm (Nat.not_lt_zero _)
  | succ n0 ih =>
    intro j vtd vftp h0 h1 hv_td hm H locs ls hP hD hS hl
    refine lv_iload_n hx hb dX12_four_3 rfl (lv_at hl 2 rfl) ?_
    refine lv_if_lt (tgt := 39) hx hb dX12_four_4 (by decide) (fun c1 => ?_) (fun c1 => ?_)
    · exact z_vret Z hP hD hS (⟨vtd, vftp, rfl, (by first | with_reducible assumption | ((try simp only [zlt, zle, zeq, zl_0, zl_1, zl_2, zl_3, zl_4, zl_5, zl_6, zl_7, zl_8, zl_9, zl_10, zl_11, zl_12, zl_13, zl_14, zl_15, zl_16, zl_17, zl_18, zl_19, zl_20, zl_21, zl_22, zl_23, zl_24, zl_25, zl_26, zl_27, zl_28, zl_29, zl_30, zl_31, zl_32, zl_33, zl_34, zl_35, zl_36, zl_37, zl_38, zl_39, zl_40, zl_41, zl_42, zl_43, zl_44, zl_45, zl_46, zl_47, zl_48, zl_49, zl_50, zl_51, zl_52, zl_53, zl_54, zl_55, zl_56, zl_57, zl_58, zl_59, zl_60, zl_61, zl_62, zl_63, zl_64, zl_65, zl_82, zl_99, zl_100, zl_160, zl_299, zl_300, zl_301, zl_382, zl_398, zl_399, zl_464, zl_680, zl_862, zl_999, zl_1000, zl_9999, zl_10000, zl_1000000, zl_m1, zl_m2, zl_m3, zl_m8, zl_87, zl_88] at hi_td hi_spp hf h0 h1 hm hv_td c1 ⊢); omega)), (by (try simp only [zlt, zle, zeq, zl_0, zl_1, zl_2, zl_3, zl_4, zl_5, zl_6, zl_7, zl_8, zl_9, zl_10, zl_11, zl_12, zl_13, zl_14, zl_15, zl_16, zl_17, zl_18, zl_19, zl_20, zl_21, zl_22, zl_23, zl_24, zl_25, zl_26, zl_27, zl_28, zl_29, zl_30, zl_31, zl_32, zl_33, zl_34, zl_35, zl_36, zl_37, zl_38, zl_39, zl_40, zl_41, zl_42, zl_43, zl_44, zl_45, zl_46, zl_47, zl_48, zl_49, zl_50, zl_51, zl_52, zl_53, zl_54, zl_55, zl_56, zl_57, zl_58, zl_59, zl_60, zl_61, zl_62, zl_63, zl_64, zl_65, zl_82, zl_99, zl_100, zl_160, zl_299, zl_300, zl_301, zl_382, zl_398, zl_399, zl_464, zl_680, zl_862, zl_999, zl_1000, zl_9999, zl_10000, zl_1000000, zl_m1, zl_m2, zl_m3, zl_m8, zl_87, zl_88, and_true, true_and, and_false, false_and, or_false, false_or, or_true, true_or, not_true_eq_false, not_false_eq_true] at hi_td hi_spp hf h0 h1 hm hv_td c1 ⊢) <;> omega)⟩) dX12_four_39 (Nat.le_of_ble_eq_true rfl) (Nat.le_of_ble_eq_true rfl)
    · refine lv_aload_n hx hb dX12_four_7 rfl (lv_at hl 0 rfl) ?_
      refine z_get Z i_X12 hP 0 rfl rfl 3 (by decide) bw_1022 rfl dX12_four_8 ?_
      refine lv_aload_n hx hb dX12_four_11 rfl (lv_at hl 0 rfl) ?_
      refine z_get Z i_X12 hP 0 rfl rfl 4 (by decide) bw_1023 rfl dX12_four_12 ?_
      refine lv_iload_n hx hb dX12_four_15 rfl (lv_at hl 1 rfl) ?_
      refine lv_iload_n hx hb dX12_four_16 rfl (lv_at hl 2 rfl) ?_
      refine lv_ishr hx hb dX12_four_17 ?_
      refine lv_topi (fun z2 ez2 => ?_)
      refine lv_sipush (v := 255) hx hb dX12_four_18 (by decide) ?_
      refine lv_iand hx hb dX12_four_21 ?_
      refine lv_topi (fun z3 ez3 => ?_)
      refine z_iast Z hP hD hS 1 0 rfl rfl (vp_in_iff.mpr (by first | with_reducible assumption | ((try simp only [zlt, zle, zeq, zl_0, zl_1, zl_2, zl_3, zl_4, zl_5, zl_6, zl_7, zl_8, zl_9, zl_10, zl_11, zl_12, zl_13, zl_14, zl_15, zl_16, zl_17, zl_18, zl_19, zl_20, zl_21, zl_22, zl_23, zl_24, zl_25, zl_26, zl_27, zl_28, zl_29, zl_30, zl_31, zl_32, zl_33, zl_34, zl_35, zl_36, zl_37, zl_38, zl_39, zl_40, zl_41, zl_42, zl_43, zl_44, zl_45, zl_46, zl_47, zl_48, zl_49, zl_50, zl_51, zl_52, zl_53, zl_54, zl_55, zl_56, zl_57, zl_58, zl_59, zl_60, zl_61, zl_62, zl_63, zl_64, zl_65, zl_82, zl_99, zl_100, zl_160, zl_299, zl_300, zl_301, zl_382, zl_398, zl_399, zl_464, zl_680, zl_862, zl_999, zl_1000, zl_9999, zl_10000, zl_1000000, zl_m1, zl_m2, zl_m3, zl_m8, zl_87, zl_88] at hi_td hi_spp hf h0 h1 hm hv_td c1 ⊢); omega))) dX12_four_22 (fun H locs hP hD hS => ?_)
      generalize upd vftp (vtd : Int32).toNatClampNeg z3 = g4 at hP hD
      have hP : va_P D vwCl ([(q, .inr (12, [.ref aA, .ref aI, .ref xT, .ref tP_, .int vtd, .int fu, .int fp, .int at_, .int plc, .int tok, .int num, .long wrd, .int tx0, .int cls, .int wri, .int cam, .ref pI, .int pid, .int ope, .int isw, .int so0, .int onc, .ref nm, .ref vL, .ref tR, .int spp, .int eat, .int ste, .ref rW, .ref sP, .ref oT, .ref bS, .ref aS, .ref aO, .ref cS, .ref wY])), (tP_, .inl (cI, 300, .inl g4))]) H := hP
      have hD : va_D A ([(q, .inr (12, [.ref aA, .ref aI, .ref xT, .ref tP_, .int vtd, .int fu, .int fp, .int at_, .int plc, .int tok, .int num, .long wrd, .int tx0, .int cls, .int wri, .int cam, .ref pI, .int pid, .int ope, .int isw, .int so0, .int onc, .ref nm, .ref vL, .ref tR, .int spp, .int eat, .int ste, .ref rW, .ref sP, .ref oT, .ref bS, .ref aS, .ref aO, .ref cS, .ref wY])), (tP_, .inl (cI, 300, .inl g4))]) := hD
      refine lv_aload_n hx hb dX12_four_23 rfl (lv_at hl 0 rfl) ?_
      refine lv_dup hx hb dX12_four_24 rfl ?_
      refine z_get Z i_X12 hP 0 rfl rfl 4 (by decide) bw_1023 rfl dX12_four_25 ?_
      refine lv_iconst (v := 1) hx hb dX12_four_28 (by decide) ?_
      refine lv_iadd hx hb dX12_four_29 ?_
      refine lv_topi (fun z5 ez5 => ?_)
      have hz5 : z5.toInt = vtd.toInt + 1 := by rw [ez5]; exact zaddg (by first | with_reducible assumption | ((try simp only [zlt, zle, zeq, zl_0, zl_1, zl_2, zl_3, zl_4, zl_5, zl_6, zl_7, zl_8, zl_9, zl_10, zl_11, zl_12, zl_13, zl_14, zl_15, zl_16, zl_17, zl_18, zl_19, zl_20, zl_21, zl_22, zl_23, zl_24, zl_25, zl_26, zl_27, zl_28, zl_29, zl_30, zl_31, zl_32, zl_33, zl_34, zl_35, zl_36, zl_37, zl_38, zl_39, zl_40, zl_41, zl_42, zl_43, zl_44, zl_45, zl_46, zl_47, zl_48, zl_49, zl_50, zl_51, zl_52, zl_53, zl_54, zl_55, zl_56, zl_57, zl_58, zl_59, zl_60, zl_61, zl_62, zl_63, zl_64, zl_65, zl_82, zl_99, zl_100, zl_160, zl_299, zl_300, zl_301, zl_382, zl_398, zl_399, zl_464, zl_680, zl_862, zl_999, zl_1000, zl_9999, zl_10000, zl_1000000, zl_m1, zl_m2, zl_m3, zl_m8, zl_87, zl_88] at hi_td hi_spp hf h0 h1 hm hv_td c1 ⊢); omega)) (by first | with_reducible assumption | ((try simp only [zlt, zle, zeq, zl_0, zl_1, zl_2, zl_3, zl_4, zl_5, zl_6, zl_7, zl_8, zl_9, zl_10, zl_11, zl_12, zl_13, zl_14, zl_15, zl_16, zl_17, zl_18, zl_19, zl_20, zl_21, zl_22, zl_23, zl_24, zl_25, zl_26, zl_27, zl_28, zl_29, zl_30, zl_31, zl_32, zl_33, zl_34, zl_35, zl_36, zl_37, zl_38, zl_39, zl_40, zl_41, zl_42, zl_43, zl_44, zl_45, zl_46, zl_47, zl_48, zl_49, zl_50, zl_51, zl_52, zl_53, zl_54, zl_55, zl_56, zl_57, zl_58, zl_59, zl_60, zl_61, zl_62, zl_63, zl_64, zl_65, zl_82, zl_99, zl_100, zl_160, zl_299, zl_300, zl_301, zl_382, zl_398, zl_399, zl_464, zl_680, zl_862, zl_999, zl_1000, zl_9999, zl_10000, zl_1000000, zl_m1, zl_m2, zl_m3, zl_m8, zl_87, zl_88] at hi_td hi_spp hf h0 h1 hm hv_td c1 ⊢); omega))
      refine z_put Z i_X12 tyX12 tyX12_ok nmX12 hP hD hS 0 rfl rfl 4 (by decide) bw_1023 rfl rfl rfl (Nat.le_of_ble_eq_true rfl) dX12_four_30 (fun H locs hP hD hS => ?_)
      have hP : va_P D vwCl ([(q, .inr (12, [.ref aA, .ref aI, .ref xT, .ref tP_, .int z5, .int fu, .int fp, .int at_, .int plc, .int tok, .int num, .long wrd, .int tx0, .int cls, .int wri, .int cam, .ref pI, .int pid, .int ope, .int isw, .int so0, .int onc, .ref nm, .ref vL, .ref tR, .int spp, .int eat, .int ste, .ref rW, .ref sP, .ref oT, .ref bS, .ref aS, .ref aO, .ref cS, .ref wY])), (tP_, .inl (cI, 300, .inl g4))]) H := hP
      have hD : va_D A ([(q, .inr (12, [.ref aA, .ref aI, .ref xT, .ref tP_, .int z5, .int fu, .int fp, .int at_, .int plc, .int tok, .int num, .long wrd, .int tx0, .int cls, .int wri, .int cam, .ref pI, .int pid, .int ope, .int isw, .int so0, .int onc, .ref nm, .ref vL, .ref tR, .int spp, .int eat, .int ste, .ref rW, .ref sP, .ref oT, .ref bS, .ref aS, .ref aO, .ref cS, .ref wY])), (tP_, .inl (cI, 300, .inl g4))]) := hD
      obtain ⟨z6, ez6⟩ : ∃ y : Int32, y = j + (-8) := ⟨_, rfl⟩
      have hz6 : z6.toInt = j.toInt + (-8) := by rw [ez6]; exact zaddg (by first | with_reducible assumption | ((try simp only [zlt, zle, zeq, zl_0, zl_1, zl_2, zl_3, zl_4, zl_5, zl_6, zl_7, zl_8, zl_9, zl_10, zl_11, zl_12, zl_13, zl_14, zl_15, zl_16, zl_17, zl_18, zl_19, zl_20, zl_21, zl_22, zl_23, zl_24, zl_25, zl_26, zl_27, zl_28, zl_29, zl_30, zl_31, zl_32, zl_33, zl_34, zl_35, zl_36, zl_37, zl_38, zl_39, zl_40, zl_41, zl_42, zl_43, zl_44, zl_45, zl_46, zl_47, zl_48, zl_49, zl_50, zl_51, zl_52, zl_53, zl_54, zl_55, zl_56, zl_57, zl_58, zl_59, zl_60, zl_61, zl_62, zl_63, zl_64, zl_65, zl_82, zl_99, zl_100, zl_160, zl_299, zl_300, zl_301, zl_382, zl_398, zl_399, zl_464, zl_680, zl_862, zl_999, zl_1000, zl_9999, zl_10000, zl_1000000, zl_m1, zl_m2, zl_m3, zl_m8, zl_87, zl_88] at hi_td hi_spp hf h0 h1 hm hv_td c1 hz5 ⊢); omega)) (by first | with_reducible assumption | ((try simp only [zlt, zle, zeq, zl_0, zl_1, zl_2, zl_3, zl_4, zl_5, zl_6, zl_7, zl_8, zl_9, zl_10, zl_11, zl_12, zl_13, zl_14, zl_15, zl_16, zl_17, zl_18, zl_19, zl_20, zl_21, zl_22, zl_23, zl_24, zl_25, zl_26, zl_27, zl_28, zl_29, zl_30, zl_31, zl_32, zl_33, zl_34, zl_35, zl_36, zl_37, zl_38, zl_39, zl_40, zl_41, zl_42, zl_43, zl_44, zl_45, zl_46, zl_47, zl_48, zl_49, zl_50, zl_51, zl_52, zl_53, zl_54, zl_55, zl_56, zl_57, zl_58, zl_59, zl_60, zl_61, zl_62, zl_63, zl_64, zl_65, zl_82, zl_99, zl_100, zl_160, zl_299, zl_300, zl_301, zl_382, zl_398, zl_399, zl_464, zl_680, zl_862, zl_999, zl_1000, zl_9999, zl_10000, zl_1000000, zl_m1, zl_m2, zl_m3, zl_m8, zl_87, zl_88] at hi_td hi_spp hf h0 h1 hm hv_td c1 hz5 ⊢); omega))
      refine lv_iinc (v := z6) (lv' := [(2, .int z6), (0, .ref q), (1, .int p0)]) hx hb dX12_four_33 hl (k := 2) rfl (by rw [ez6]; rfl) (by decide) rfl (fun ls hl => ?_)
      refine lv_goto (tgt := 3) hx hb dX12_four_36 (by decide) ?_
      exact ih z6 z5 g4 (by first | with_reducible assumption | ((try simp only [zlt, zle, zeq, zl_0, zl_1, zl_2, zl_3, zl_4, zl_5, zl_6, zl_7, zl_8, zl_9, zl_10, zl_11, zl_12, zl_13, zl_14, zl_15, zl_16, zl_17, zl_18, zl_19, zl_20, zl_21, zl_22, zl_23, zl_24, zl_25, zl_26, zl_27, zl_28, zl_29, zl_30, zl_31, zl_32, zl_33, zl_34, zl_35, zl_36, zl_37, zl_38, zl_39, zl_40, zl_41, zl_42, zl_43, zl_44, zl_45, zl_46, zl_47, zl_48, zl_49, zl_50, zl_51, zl_52, zl_53, zl_54, zl_55, zl_56, zl_57, zl_58, zl_59, zl_60, zl_61, zl_62, zl_63, zl_64, zl_65, zl_82, zl_99, zl_100, zl_160, zl_299, zl_300, zl_301, zl_382, zl_398, zl_399, zl_464, zl_680, zl_862, zl_999, zl_1000, zl_9999, zl_10000, zl_1000000, zl_m1, zl_m2, zl_m3, zl_m8, zl_87, zl_88] at hi_td hi_spp hf h0 h1 hm hv_td c1 hz5 hz6 ⊢); omega)) (by first | with_reducible assumption | ((try simp only [zlt, zle, zeq, zl_0, zl_1, zl_2, zl_3, zl_4, zl_5, zl_6, zl_7, zl_8, zl_9, zl_10, zl_11, zl_12, zl_13, zl_14, zl_15, zl_16, zl_17, zl_18, zl_19, zl_20, zl_21, zl_22, zl_23, zl_24, zl_25, zl_26, zl_27, zl_28, zl_29, zl_30, zl_31, zl_32, zl_33, zl_34, zl_35, zl_36, zl_37, zl_38, zl_39, zl_40, zl_41, zl_42, zl_43, zl_44, zl_45, zl_46, zl_47, zl_48, zl_49, zl_50, zl_51, zl_52, zl_53, zl_54, zl_55, zl_56, zl_57, zl_58, zl_59, zl_60, zl_61, zl_62, zl_63, zl_64, zl_65, zl_82, zl_99, zl_100, zl_160, zl_299, zl_300, zl_301, zl_382, zl_398, zl_399, zl_464, zl_680, zl_862, zl_999, zl_1000, zl_9999, zl_10000, zl_1000000, zl_m1, zl_m2, zl_m3, zl_m8, zl_87, zl_88] at hi_td hi_spp hf h0 h1 hm hv_td c1 hz5 hz6 ⊢); omega)) (by first | with_reducible assumption | ((try simp only [zlt, zle, zeq, zl_0, zl_1, zl_2, zl_3, zl_4, zl_5, zl_6, zl_7, zl_8, zl_9, zl_10, zl_11, zl_12, zl_13, zl_14, zl_15, zl_16, zl_17, zl_18, zl_19, zl_20, zl_21, zl_22, zl_23, zl_24, zl_25, zl_26, zl_27, zl_28, zl_29, zl_30, zl_31, zl_32, zl_33, zl_34, zl_35, zl_36, zl_37, zl_38, zl_39, zl_40, zl_41, zl_42, zl_43, zl_44, zl_45, zl_46, zl_47, zl_48, zl_49, zl_50, zl_51, zl_52, zl_53, zl_54, zl_55, zl_56, zl_57, zl_58, zl_59, zl_60, zl_61, zl_62, zl_63, zl_64, zl_65, zl_82, zl_99, zl_100, zl_160, zl_299, zl_300, zl_301, zl_382, zl_398, zl_399, zl_464, zl_680, zl_862, zl_999, zl_1000, zl_9999, zl_10000, zl_1000000, zl_m1, zl_m2, zl_m3, zl_m8, zl_87, zl_88] at hi_td hi_spp hf h0 h1 hm hv_td c1 hz5 hz6 ⊢); omega)) (by first | with_reducible assumption | ((try simp only [zlt, zle, zeq, zl_0, zl_1, zl_2, zl_3, zl_4, zl_5, zl_6, zl_7, zl_8, zl_9, zl_10, zl_11, zl_12, zl_13, zl_14, zl_15, zl_16, zl_17, zl_18, zl_19, zl_20, zl_21, zl_22, zl_23, zl_24, zl_25, zl_26, zl_27, zl_28, zl_29, zl_30, zl_31, zl_32, zl_33, zl_34, zl_35, zl_36, zl_37, zl_38, zl_39, zl_40, zl_41, zl_42, zl_43, zl_44, zl_45, zl_46, zl_47, zl_48, zl_49, zl_50, zl_51, zl_52, zl_53, zl_54, zl_55, zl_56, zl_57, zl_58, zl_59, zl_60, zl_61, zl_62, zl_63, zl_64, zl_65, zl_82, zl_99, zl_100, zl_160, zl_299, zl_300, zl_301, zl_382, zl_398, zl_399, zl_464, zl_680, zl_862, zl_999, zl_1000, zl_9999, zl_10000, zl_1000000, zl_m1, zl_m2, zl_m3, zl_m8, zl_87, zl_88] at hi_td hi_spp hf h0 h1 hm hv_td c1 hz5 hz6 ⊢); omega)) _ _ _ hP hD hS (lv_sub hl [1, 2, 0] rfl)
set_option maxHeartbeats 4000000 in
set_option maxRecDepth 100000 in
theorem c_X12_four (l : Launch) (D : va_G) (cI cM cT cJ cZ : ClassId) (q : Nat) (p0 : Int32) (aA : Nat) (aI : Nat) (xT : Nat) (tP_ : Nat) (td : Int32) (fu : Int32) (fp : Int32) (at_ : Int32) (plc : Int32) (tok : Int32) (num : Int32) (wrd : Int64) (tx0 : Int32) (cls : Int32) (wri : Int32) (cam : Int32) (pI : Nat) (pid : Int32) (ope : Int32) (isw : Int32) (so0 : Int32) (onc : Int32) (nm : Nat) (vL : Nat) (tR : Nat) (spp : Int32) (eat : Int32) (ste : Int32) (rW : Nat) (sP : Nat) (oT : Nat) (bS : Nat) (aS : Nat) (aO : Nat) (cS : Nat) (wY : Nat) (ftp : Nat → Int32) (hi_td : 0 ≤ td.toInt ∧ td.toInt ≤ 300) (hi_spp : 0 ≤ spp.toInt ∧ spp.toInt ≤ 299) (hf : td.toInt ≤ 296) : Cv l D (ty3 cI cM cT cJ cZ) yX12_four cX12_four 3 0 0 0 [.ref q, .int p0] ([(q, .inr (12, [.ref aA, .ref aI, .ref xT, .ref tP_, .int td, .int fu, .int fp, .int at_, .int plc, .int tok, .int num, .long wrd, .int tx0, .int cls, .int wri, .int cam, .ref pI, .int pid, .int ope, .int isw, .int so0, .int onc, .ref nm, .ref vL, .ref tR, .int spp, .int eat, .int ste, .ref rW, .ref sP, .ref oT, .ref bS, .ref aS, .ref aO, .ref cS, .ref wY])), (tP_, .inl (cI, 300, .inl ftp))]) (fun u => ∃ (td_n : Int32) (ftp_n : Nat → Int32), u = [(q, .inr (12, [.ref aA, .ref aI, .ref xT, .ref tP_, .int td_n, .int fu, .int fp, .int at_, .int plc, .int tok, .int num, .long wrd, .int tx0, .int cls, .int wri, .int cam, .ref pI, .int pid, .int ope, .int isw, .int so0, .int onc, .ref nm, .ref vL, .ref tR, .int spp, .int eat, .int ste, .ref rW, .ref sP, .ref oT, .ref bS, .ref aS, .ref aO, .ref cS, .ref wY])), (tP_, .inl (cI, 300, .inl ftp_n))] ∧ (0 ≤ td_n.toInt ∧ td_n.toInt ≤ 300) ∧ (td_n.toInt = td.toInt + 4)) := by
  refine Cv.of (by decide +kernel) (Nat.le_of_ble_eq_true rfl) ?_
  intro p e s m below meth c A ls Z hin hP hD hl
  have hx := Z.1
  have hb := Z.2.1
  have hS : va_S A s.heap s.heap [] := va_S.rf
  have hl : lv_has ls 3 [(0, .ref q), (1, .int p0)] := hl
  skip
  refine lv_bipush (v := 24) hx hb dX12_four_0 (by decide) ?_
  refine lv_istore_n (lv' := [(2, .int 24), (0, .ref q), (1, .int p0)]) hx hb dX12_four_2 rfl hl (by decide) rfl (fun ls hl => ?_)
  refine W.widen (k := 0) (n := 0) (Nat.le_of_ble_eq_true rfl) (Nat.le_of_ble_eq_true rfl) ?_
  exact lp_X12_four l D cI cM cT cJ cZ q p0 aA aI xT tP_ td fu fp at_ plc tok num wrd tx0 cls wri cam pI pid ope isw so0 onc nm vL tR spp eat ste rW sP oT bS aS aO cS wY ftp Z hi_td hi_spp hf  _ 24 td ftp (by first | with_reducible assumption | ((try simp only [zlt, zle, zeq, zl_0, zl_1, zl_2, zl_3, zl_4, zl_5, zl_6, zl_7, zl_8, zl_9, zl_10, zl_11, zl_12, zl_13, zl_14, zl_15, zl_16, zl_17, zl_18, zl_19, zl_20, zl_21, zl_22, zl_23, zl_24, zl_25, zl_26, zl_27, zl_28, zl_29, zl_30, zl_31, zl_32, zl_33, zl_34, zl_35, zl_36, zl_37, zl_38, zl_39, zl_40, zl_41, zl_42, zl_43, zl_44, zl_45, zl_46, zl_47, zl_48, zl_49, zl_50, zl_51, zl_52, zl_53, zl_54, zl_55, zl_56, zl_57, zl_58, zl_59, zl_60, zl_61, zl_62, zl_63, zl_64, zl_65, zl_82, zl_99, zl_100, zl_160, zl_299, zl_300, zl_301, zl_382, zl_398, zl_399, zl_464, zl_680, zl_862, zl_999, zl_1000, zl_9999, zl_10000, zl_1000000, zl_m1, zl_m2, zl_m3, zl_m8, zl_87, zl_88] at hi_td hi_spp hf ⊢); omega)) (by first | with_reducible assumption | ((try simp only [zlt, zle, zeq, zl_0, zl_1, zl_2, zl_3, zl_4, zl_5, zl_6, zl_7, zl_8, zl_9, zl_10, zl_11, zl_12, zl_13, zl_14, zl_15, zl_16, zl_17, zl_18, zl_19, zl_20, zl_21, zl_22, zl_23, zl_24, zl_25, zl_26, zl_27, zl_28, zl_29, zl_30, zl_31, zl_32, zl_33, zl_34, zl_35, zl_36, zl_37, zl_38, zl_39, zl_40, zl_41, zl_42, zl_43, zl_44, zl_45, zl_46, zl_47, zl_48, zl_49, zl_50, zl_51, zl_52, zl_53, zl_54, zl_55, zl_56, zl_57, zl_58, zl_59, zl_60, zl_61, zl_62, zl_63, zl_64, zl_65, zl_82, zl_99, zl_100, zl_160, zl_299, zl_300, zl_301, zl_382, zl_398, zl_399, zl_464, zl_680, zl_862, zl_999, zl_1000, zl_9999, zl_10000, zl_1000000, zl_m1, zl_m2, zl_m3, zl_m8, zl_87, zl_88] at hi_td hi_spp hf ⊢); omega)) (by first | with_reducible assumption | ((try simp only [zlt, zle, zeq, zl_0, zl_1, zl_2, zl_3, zl_4, zl_5, zl_6, zl_7, zl_8, zl_9, zl_10, zl_11, zl_12, zl_13, zl_14, zl_15, zl_16, zl_17, zl_18, zl_19, zl_20, zl_21, zl_22, zl_23, zl_24, zl_25, zl_26, zl_27, zl_28, zl_29, zl_30, zl_31, zl_32, zl_33, zl_34, zl_35, zl_36, zl_37, zl_38, zl_39, zl_40, zl_41, zl_42, zl_43, zl_44, zl_45, zl_46, zl_47, zl_48, zl_49, zl_50, zl_51, zl_52, zl_53, zl_54, zl_55, zl_56, zl_57, zl_58, zl_59, zl_60, zl_61, zl_62, zl_63, zl_64, zl_65, zl_82, zl_99, zl_100, zl_160, zl_299, zl_300, zl_301, zl_382, zl_398, zl_399, zl_464, zl_680, zl_862, zl_999, zl_1000, zl_9999, zl_10000, zl_1000000, zl_m1, zl_m2, zl_m3, zl_m8, zl_87, zl_88] at hi_td hi_spp hf ⊢); omega)) (Nat.lt_succ_self _) _ _ _ hP hD hS (lv_sub hl [1, 2, 0] rfl)
set_option maxHeartbeats 4000000 in
set_option maxRecDepth 100000 in
theorem c_X12_feed (l : Launch) (D : va_G) (cI cM cT cJ cZ : ClassId) (q : Nat) (p0 : Int32) (p1 : Int32) (p2 : Int32) (p3 : Int32) (p4 : Int32) (aA : Nat) (aI : Nat) (xT : Nat) (tP_ : Nat) (td : Int32) (fu : Int32) (fp : Int32) (at_ : Int32) (plc : Int32) (tok : Int32) (num : Int32) (wrd : Int64) (tx0 : Int32) (cls : Int32) (wri : Int32) (cam : Int32) (pI : Nat) (pid : Int32) (ope : Int32) (isw : Int32) (so0 : Int32) (onc : Int32) (nm : Nat) (vL : Nat) (tR : Nat) (spp : Int32) (eat : Int32) (ste : Int32) (rW : Nat) (sP : Nat) (oT : Nat) (bS : Nat) (aS : Nat) (aO : Nat) (cS : Nat) (wY : Nat) (ftp : Nat → Int32) (hi_td : 0 ≤ td.toInt ∧ td.toInt ≤ 300) (hi_spp : 0 ≤ spp.toInt ∧ spp.toInt ≤ 299) : Ci l D (ty3 cI cM cT cJ cZ) yX12_feed cX12_feed 6 (some .int) 1 0 0 [.ref q, .int p0, .int p1, .int p2, .int p3, .int p4] ([(q, .inr (12, [.ref aA, .ref aI, .ref xT, .ref tP_, .int td, .int fu, .int fp, .int at_, .int plc, .int tok, .int num, .long wrd, .int tx0, .int cls, .int wri, .int cam, .ref pI, .int pid, .int ope, .int isw, .int so0, .int onc, .ref nm, .ref vL, .ref tR, .int spp, .int eat, .int ste, .ref rW, .ref sP, .ref oT, .ref bS, .ref aS, .ref aO, .ref cS, .ref wY])), (tP_, .inl (cI, 300, .inl ftp))]) (fun r u => ∃ (td_n : Int32) (ftp_n : Nat → Int32), u = [(q, .inr (12, [.ref aA, .ref aI, .ref xT, .ref tP_, .int td_n, .int fu, .int fp, .int at_, .int plc, .int tok, .int num, .long wrd, .int tx0, .int cls, .int wri, .int cam, .ref pI, .int pid, .int ope, .int isw, .int so0, .int onc, .ref nm, .ref vL, .ref tR, .int spp, .int eat, .int ste, .ref rW, .ref sP, .ref oT, .ref bS, .ref aS, .ref aO, .ref cS, .ref wY])), (tP_, .inl (cI, 300, .inl ftp_n))] ∧ (0 ≤ td_n.toInt ∧ td_n.toInt ≤ 300)) := by
  refine Ci.of (by decide +kernel) (Nat.le_of_ble_eq_true rfl) ?_
  intro p e s m below meth c A ls Z hin hP hD hl
  have hx := Z.1
  have hb := Z.2.1
  have hS : va_S A s.heap s.heap [] := va_S.rf
  have hl : lv_has ls 6 [(0, .ref q), (1, .int p0), (2, .int p1), (3, .int p2), (4, .int p3), (5, .int p4)] := hl
  skip
  refine lv_aload_n hx hb dX12_feed_0 rfl (lv_at hl 0 rfl) ?_
  refine z_get Z i_X12 hP 0 rfl rfl 4 (by decide) bw_1023 rfl dX12_feed_1 ?_
  refine lv_bipush (v := 20) hx hb dX12_feed_4 (by decide) ?_
  refine lv_iadd hx hb dX12_feed_6 ?_
  refine lv_topi (fun z1 ez1 => ?_)
  have hz1 : z1.toInt = td.toInt + 20 := by rw [ez1]; exact zaddg (by first | with_reducible assumption | ((try simp only [zlt, zle, zeq, zl_0, zl_1, zl_2, zl_3, zl_4, zl_5, zl_6, zl_7, zl_8, zl_9, zl_10, zl_11, zl_12, zl_13, zl_14, zl_15, zl_16, zl_17, zl_18, zl_19, zl_20, zl_21, zl_22, zl_23, zl_24, zl_25, zl_26, zl_27, zl_28, zl_29, zl_30, zl_31, zl_32, zl_33, zl_34, zl_35, zl_36, zl_37, zl_38, zl_39, zl_40, zl_41, zl_42, zl_43, zl_44, zl_45, zl_46, zl_47, zl_48, zl_49, zl_50, zl_51, zl_52, zl_53, zl_54, zl_55, zl_56, zl_57, zl_58, zl_59, zl_60, zl_61, zl_62, zl_63, zl_64, zl_65, zl_82, zl_99, zl_100, zl_160, zl_299, zl_300, zl_301, zl_382, zl_398, zl_399, zl_464, zl_680, zl_862, zl_999, zl_1000, zl_9999, zl_10000, zl_1000000, zl_m1, zl_m2, zl_m3, zl_m8, zl_87, zl_88] at hi_td hi_spp ⊢); omega)) (by first | with_reducible assumption | ((try simp only [zlt, zle, zeq, zl_0, zl_1, zl_2, zl_3, zl_4, zl_5, zl_6, zl_7, zl_8, zl_9, zl_10, zl_11, zl_12, zl_13, zl_14, zl_15, zl_16, zl_17, zl_18, zl_19, zl_20, zl_21, zl_22, zl_23, zl_24, zl_25, zl_26, zl_27, zl_28, zl_29, zl_30, zl_31, zl_32, zl_33, zl_34, zl_35, zl_36, zl_37, zl_38, zl_39, zl_40, zl_41, zl_42, zl_43, zl_44, zl_45, zl_46, zl_47, zl_48, zl_49, zl_50, zl_51, zl_52, zl_53, zl_54, zl_55, zl_56, zl_57, zl_58, zl_59, zl_60, zl_61, zl_62, zl_63, zl_64, zl_65, zl_82, zl_99, zl_100, zl_160, zl_299, zl_300, zl_301, zl_382, zl_398, zl_399, zl_464, zl_680, zl_862, zl_999, zl_1000, zl_9999, zl_10000, zl_1000000, zl_m1, zl_m2, zl_m3, zl_m8, zl_87, zl_88] at hi_td hi_spp ⊢); omega))
  refine lv_sipush (v := 300) hx hb dX12_feed_7 (by decide) ?_
  refine lv_icmp_le (tgt := 15) hx hb dX12_feed_10 (by decide) (fun c2 => ?_) (fun c2 => ?_)
  · refine lv_aload_n hx hb dX12_feed_15 rfl (lv_at hl 0 rfl) ?_
    refine lv_iload_n hx hb dX12_feed_16 rfl (lv_at hl 1 rfl) ?_
    have hPc := hP.sub2 (wc := [(q, .inr (12, [.ref aA, .ref aI, .ref xT, .ref tP_, .int td, .int fu, .int fp, .int at_, .int plc, .int tok, .int num, .long wrd, .int tx0, .int cls, .int wri, .int cam, .ref pI, .int pid, .int ope, .int isw, .int so0, .int onc, .ref nm, .ref vL, .ref tR, .int spp, .int eat, .int ste, .ref rW, .ref sP, .ref oT, .ref bS, .ref aS, .ref aO, .ref cS, .ref wY])), (tP_, .inl (cI, 300, .inl ftp))]) [0, 1] rfl
    have hDc := hD.sub (ws' := [(q, .inr (12, [.ref aA, .ref aI, .ref xT, .ref tP_, .int td, .int fu, .int fp, .int at_, .int plc, .int tok, .int num, .long wrd, .int tx0, .int cls, .int wri, .int cam, .ref pI, .int pid, .int ope, .int isw, .int so0, .int onc, .ref nm, .ref vL, .ref tR, .int spp, .int eat, .int ste, .ref rW, .ref sP, .ref oT, .ref bS, .ref aS, .ref aO, .ref cS, .ref wY])), (tP_, .inl (cI, 300, .inl ftp))]) [0, 1] (by decide) rfl
    refine raw_Vv (ci := 12) (q0 := 0) (nA := 1) (As := [.int p0]) (rest := []) Z hl.1 (c_X12_four l D cI cM cT cJ cZ q p0 aA aI xT tP_ td fu fp at_ plc tok num wrd tx0 cls wri cam pI pid ope isw so0 onc nm vL tR spp eat ste rW sP oT bS aS aO cS wY ftp (by first | with_reducible assumption | ((try simp only [zlt, zle, zeq, zl_0, zl_1, zl_2, zl_3, zl_4, zl_5, zl_6, zl_7, zl_8, zl_9, zl_10, zl_11, zl_12, zl_13, zl_14, zl_15, zl_16, zl_17, zl_18, zl_19, zl_20, zl_21, zl_22, zl_23, zl_24, zl_25, zl_26, zl_27, zl_28, zl_29, zl_30, zl_31, zl_32, zl_33, zl_34, zl_35, zl_36, zl_37, zl_38, zl_39, zl_40, zl_41, zl_42, zl_43, zl_44, zl_45, zl_46, zl_47, zl_48, zl_49, zl_50, zl_51, zl_52, zl_53, zl_54, zl_55, zl_56, zl_57, zl_58, zl_59, zl_60, zl_61, zl_62, zl_63, zl_64, zl_65, zl_82, zl_99, zl_100, zl_160, zl_299, zl_300, zl_301, zl_382, zl_398, zl_399, zl_464, zl_680, zl_862, zl_999, zl_1000, zl_9999, zl_10000, zl_1000000, zl_m1, zl_m2, zl_m3, zl_m8, zl_87, zl_88] at hi_td hi_spp hz1 c2 ⊢); omega)) (by first | with_reducible assumption | ((try simp only [zlt, zle, zeq, zl_0, zl_1, zl_2, zl_3, zl_4, zl_5, zl_6, zl_7, zl_8, zl_9, zl_10, zl_11, zl_12, zl_13, zl_14, zl_15, zl_16, zl_17, zl_18, zl_19, zl_20, zl_21, zl_22, zl_23, zl_24, zl_25, zl_26, zl_27, zl_28, zl_29, zl_30, zl_31, zl_32, zl_33, zl_34, zl_35, zl_36, zl_37, zl_38, zl_39, zl_40, zl_41, zl_42, zl_43, zl_44, zl_45, zl_46, zl_47, zl_48, zl_49, zl_50, zl_51, zl_52, zl_53, zl_54, zl_55, zl_56, zl_57, zl_58, zl_59, zl_60, zl_61, zl_62, zl_63, zl_64, zl_65, zl_82, zl_99, zl_100, zl_160, zl_299, zl_300, zl_301, zl_382, zl_398, zl_399, zl_464, zl_680, zl_862, zl_999, zl_1000, zl_9999, zl_10000, zl_1000000, zl_m1, zl_m2, zl_m3, zl_m8, zl_87, zl_88] at hi_td hi_spp hz1 c2 ⊢); omega)) (by first | with_reducible assumption | ((try simp only [zlt, zle, zeq, zl_0, zl_1, zl_2, zl_3, zl_4, zl_5, zl_6, zl_7, zl_8, zl_9, zl_10, zl_11, zl_12, zl_13, zl_14, zl_15, zl_16, zl_17, zl_18, zl_19, zl_20, zl_21, zl_22, zl_23, zl_24, zl_25, zl_26, zl_27, zl_28, zl_29, zl_30, zl_31, zl_32, zl_33, zl_34, zl_35, zl_36, zl_37, zl_38, zl_39, zl_40, zl_41, zl_42, zl_43, zl_44, zl_45, zl_46, zl_47, zl_48, zl_49, zl_50, zl_51, zl_52, zl_53, zl_54, zl_55, zl_56, zl_57, zl_58, zl_59, zl_60, zl_61, zl_62, zl_63, zl_64, zl_65, zl_82, zl_99, zl_100, zl_160, zl_299, zl_300, zl_301, zl_382, zl_398, zl_399, zl_464, zl_680, zl_862, zl_999, zl_1000, zl_9999, zl_10000, zl_1000000, zl_m1, zl_m2, zl_m3, zl_m8, zl_87, zl_88] at hi_td hi_spp hz1 c2 ⊢); omega))) (bw_V bw_1158 bw_1160 bw_36 bw_92 bw_1161) ⟨by decide +kernel, by decide +kernel, by decide +kernel⟩ rfl ⟨Nat.le_of_ble_eq_true rfl, Nat.le_of_ble_eq_true rfl⟩ rfl rfl rfl hPc hDc hS rfl (Nat.le_of_ble_eq_true rfl) dX12_feed_17 ⟨Nat.le_of_ble_eq_true rfl, Nat.le_of_ble_eq_true rfl⟩ (fun u3 H1 locs1 h5 hku3 hP1 hD1 hS1 => ?_)
    obtain ⟨td_n_6, ftp_n_7, rfl, huh5_0, huh5_1⟩ := h5
    obtain ⟨hP, hD⟩ := z_join (wr := []) Z hS hP hD [0, 1] [] rfl (by decide) rfl (by decide) (by decide) hku3 hP1 hD1
    have hS := hS1
    clear hS1
    generalize H1 = H at hP hS ⊢
    generalize locs1 = locs at hS ⊢
    have hP : va_P D vwCl ([(q, .inr (12, [.ref aA, .ref aI, .ref xT, .ref tP_, .int td_n_6, .int fu, .int fp, .int at_, .int plc, .int tok, .int num, .long wrd, .int tx0, .int cls, .int wri, .int cam, .ref pI, .int pid, .int ope, .int isw, .int so0, .int onc, .ref nm, .ref vL, .ref tR, .int spp, .int eat, .int ste, .ref rW, .ref sP, .ref oT, .ref bS, .ref aS, .ref aO, .ref cS, .ref wY])), (tP_, .inl (cI, 300, .inl ftp_n_7))]) H := hP
    have hD : va_D A ([(q, .inr (12, [.ref aA, .ref aI, .ref xT, .ref tP_, .int td_n_6, .int fu, .int fp, .int at_, .int plc, .int tok, .int num, .long wrd, .int tx0, .int cls, .int wri, .int cam, .ref pI, .int pid, .int ope, .int isw, .int so0, .int onc, .ref nm, .ref vL, .ref tR, .int spp, .int eat, .int ste, .ref rW, .ref sP, .ref oT, .ref bS, .ref aS, .ref aO, .ref cS, .ref wY])), (tP_, .inl (cI, 300, .inl ftp_n_7))]) := hD
    refine lv_aload_n hx hb dX12_feed_20 rfl (lv_at hl 0 rfl) ?_
    refine lv_iload_n hx hb dX12_feed_21 rfl (lv_at hl 2 rfl) ?_
    have hPc := hP.sub2 (wc := [(q, .inr (12, [.ref aA, .ref aI, .ref xT, .ref tP_, .int td_n_6, .int fu, .int fp, .int at_, .int plc, .int tok, .int num, .long wrd, .int tx0, .int cls, .int wri, .int cam, .ref pI, .int pid, .int ope, .int isw, .int so0, .int onc, .ref nm, .ref vL, .ref tR, .int spp, .int eat, .int ste, .ref rW, .ref sP, .ref oT, .ref bS, .ref aS, .ref aO, .ref cS, .ref wY])), (tP_, .inl (cI, 300, .inl ftp_n_7))]) [0, 1] rfl
    have hDc := hD.sub (ws' := [(q, .inr (12, [.ref aA, .ref aI, .ref xT, .ref tP_, .int td_n_6, .int fu, .int fp, .int at_, .int plc, .int tok, .int num, .long wrd, .int tx0, .int cls, .int wri, .int cam, .ref pI, .int pid, .int ope, .int isw, .int so0, .int onc, .ref nm, .ref vL, .ref tR, .int spp, .int eat, .int ste, .ref rW, .ref sP, .ref oT, .ref bS, .ref aS, .ref aO, .ref cS, .ref wY])), (tP_, .inl (cI, 300, .inl ftp_n_7))]) [0, 1] (by decide) rfl
    refine raw_Vv (ci := 12) (q0 := 0) (nA := 1) (As := [.int p1]) (rest := []) Z hl.1 (c_X12_four l D cI cM cT cJ cZ q p1 aA aI xT tP_ td_n_6 fu fp at_ plc tok num wrd tx0 cls wri cam pI pid ope isw so0 onc nm vL tR spp eat ste rW sP oT bS aS aO cS wY ftp_n_7 (by first | with_reducible assumption | ((try simp only [zlt, zle, zeq, zl_0, zl_1, zl_2, zl_3, zl_4, zl_5, zl_6, zl_7, zl_8, zl_9, zl_10, zl_11, zl_12, zl_13, zl_14, zl_15, zl_16, zl_17, zl_18, zl_19, zl_20, zl_21, zl_22, zl_23, zl_24, zl_25, zl_26, zl_27, zl_28, zl_29, zl_30, zl_31, zl_32, zl_33, zl_34, zl_35, zl_36, zl_37, zl_38, zl_39, zl_40, zl_41, zl_42, zl_43, zl_44, zl_45, zl_46, zl_47, zl_48, zl_49, zl_50, zl_51, zl_52, zl_53, zl_54, zl_55, zl_56, zl_57, zl_58, zl_59, zl_60, zl_61, zl_62, zl_63, zl_64, zl_65, zl_82, zl_99, zl_100, zl_160, zl_299, zl_300, zl_301, zl_382, zl_398, zl_399, zl_464, zl_680, zl_862, zl_999, zl_1000, zl_9999, zl_10000, zl_1000000, zl_m1, zl_m2, zl_m3, zl_m8, zl_87, zl_88] at hi_td hi_spp hz1 c2 huh5_0 huh5_1 ⊢); omega)) (by first | with_reducible assumption | ((try simp only [zlt, zle, zeq, zl_0, zl_1, zl_2, zl_3, zl_4, zl_5, zl_6, zl_7, zl_8, zl_9, zl_10, zl_11, zl_12, zl_13, zl_14, zl_15, zl_16, zl_17, zl_18, zl_19, zl_20, zl_21, zl_22, zl_23, zl_24, zl_25, zl_26, zl_27, zl_28, zl_29, zl_30, zl_31, zl_32, zl_33, zl_34, zl_35, zl_36, zl_37, zl_38, zl_39, zl_40, zl_41, zl_42, zl_43, zl_44, zl_45, zl_46, zl_47, zl_48, zl_49, zl_50, zl_51, zl_52, zl_53, zl_54, zl_55, zl_56, zl_57, zl_58, zl_59, zl_60, zl_61, zl_62, zl_63, zl_64, zl_65, zl_82, zl_99, zl_100, zl_160, zl_299, zl_300, zl_301, zl_382, zl_398, zl_399, zl_464, zl_680, zl_862, zl_999, zl_1000, zl_9999, zl_10000, zl_1000000, zl_m1, zl_m2, zl_m3, zl_m8, zl_87, zl_88] at hi_td hi_spp hz1 c2 huh5_0 huh5_1 ⊢); omega)) (by first | with_reducible assumption | ((try simp only [zlt, zle, zeq, zl_0, zl_1, zl_2, zl_3, zl_4, zl_5, zl_6, zl_7, zl_8, zl_9, zl_10, zl_11, zl_12, zl_13, zl_14, zl_15, zl_16, zl_17, zl_18, zl_19, zl_20, zl_21, zl_22, zl_23, zl_24, zl_25, zl_26, zl_27, zl_28, zl_29, zl_30, zl_31, zl_32, zl_33, zl_34, zl_35, zl_36, zl_37, zl_38, zl_39, zl_40, zl_41, zl_42, zl_43, zl_44, zl_45, zl_46, zl_47, zl_48, zl_49, zl_50, zl_51, zl_52, zl_53, zl_54, zl_55, zl_56, zl_57, zl_58, zl_59, zl_60, zl_61, zl_62, zl_63, zl_64, zl_65, zl_82, zl_99, zl_100, zl_160, zl_299, zl_300, zl_301, zl_382, zl_398, zl_399, zl_464, zl_680, zl_862, zl_999, zl_1000, zl_9999, zl_10000, zl_1000000, zl_m1, zl_m2, zl_m3, zl_m8, zl_87, zl_88] at hi_td hi_spp hz1 c2 huh5_0 huh5_1 ⊢); omega))) (bw_V bw_1158 bw_1160 bw_36 bw_92 bw_1161) ⟨by decide +kernel, by decide +kernel, by decide +kernel⟩ rfl ⟨Nat.le_of_ble_eq_true rfl, Nat.le_of_ble_eq_true rfl⟩ rfl rfl rfl hPc hDc hS rfl (Nat.le_of_ble_eq_true rfl) dX12_feed_22 ⟨Nat.le_of_ble_eq_true rfl, Nat.le_of_ble_eq_true rfl⟩ (fun u8 H1 locs1 h10 hku8 hP1 hD1 hS1 => ?_)
    obtain ⟨td_n_11, ftp_n_12, rfl, huh10_0, huh10_1⟩ := h10
    obtain ⟨hP, hD⟩ := z_join (wr := []) Z hS hP hD [0, 1] [] rfl (by decide) rfl (by decide) (by decide) hku8 hP1 hD1
    have hS := hS1
    clear hS1
    generalize H1 = H at hP hS ⊢
    generalize locs1 = locs at hS ⊢
    have hP : va_P D vwCl ([(q, .inr (12, [.ref aA, .ref aI, .ref xT, .ref tP_, .int td_n_11, .int fu, .int fp, .int at_, .int plc, .int tok, .int num, .long wrd, .int tx0, .int cls, .int wri, .int cam, .ref pI, .int pid, .int ope, .int isw, .int so0, .int onc, .ref nm, .ref vL, .ref tR, .int spp, .int eat, .int ste, .ref rW, .ref sP, .ref oT, .ref bS, .ref aS, .ref aO, .ref cS, .ref wY])), (tP_, .inl (cI, 300, .inl ftp_n_12))]) H := hP
    have hD : va_D A ([(q, .inr (12, [.ref aA, .ref aI, .ref xT, .ref tP_, .int td_n_11, .int fu, .int fp, .int at_, .int plc, .int tok, .int num, .long wrd, .int tx0, .int cls, .int wri, .int cam, .ref pI, .int pid, .int ope, .int isw, .int so0, .int onc, .ref nm, .ref vL, .ref tR, .int spp, .int eat, .int ste, .ref rW, .ref sP, .ref oT, .ref bS, .ref aS, .ref aO, .ref cS, .ref wY])), (tP_, .inl (cI, 300, .inl ftp_n_12))]) := hD
    refine lv_aload_n hx hb dX12_feed_25 rfl (lv_at hl 0 rfl) ?_
    refine lv_iload_n hx hb dX12_feed_26 rfl (lv_at hl 3 rfl) ?_
    have hPc := hP.sub2 (wc := [(q, .inr (12, [.ref aA, .ref aI, .ref xT, .ref tP_, .int td_n_11, .int fu, .int fp, .int at_, .int plc, .int tok, .int num, .long wrd, .int tx0, .int cls, .int wri, .int cam, .ref pI, .int pid, .int ope, .int isw, .int so0, .int onc, .ref nm, .ref vL, .ref tR, .int spp, .int eat, .int ste, .ref rW, .ref sP, .ref oT, .ref bS, .ref aS, .ref aO, .ref cS, .ref wY])), (tP_, .inl (cI, 300, .inl ftp_n_12))]) [0, 1] rfl
    have hDc := hD.sub (ws' := [(q, .inr (12, [.ref aA, .ref aI, .ref xT, .ref tP_, .int td_n_11, .int fu, .int fp, .int at_, .int plc, .int tok, .int num, .long wrd, .int tx0, .int cls, .int wri, .int cam, .ref pI, .int pid, .int ope, .int isw, .int so0, .int onc, .ref nm, .ref vL, .ref tR, .int spp, .int eat, .int ste, .ref rW, .ref sP, .ref oT, .ref bS, .ref aS, .ref aO, .ref cS, .ref wY])), (tP_, .inl (cI, 300, .inl ftp_n_12))]) [0, 1] (by decide) rfl
    refine raw_Vv (ci := 12) (q0 := 0) (nA := 1) (As := [.int p2]) (rest := []) Z hl.1 (c_X12_four l D cI cM cT cJ cZ q p2 aA aI xT tP_ td_n_11 fu fp at_ plc tok num wrd tx0 cls wri cam pI pid ope isw so0 onc nm vL tR spp eat ste rW sP oT bS aS aO cS wY ftp_n_12 (by first | with_reducible assumption | ((try simp only [zlt, zle, zeq, zl_0, zl_1, zl_2, zl_3, zl_4, zl_5, zl_6, zl_7, zl_8, zl_9, zl_10, zl_11, zl_12, zl_13, zl_14, zl_15, zl_16, zl_17, zl_18, zl_19, zl_20, zl_21, zl_22, zl_23, zl_24, zl_25, zl_26, zl_27, zl_28, zl_29, zl_30, zl_31, zl_32, zl_33, zl_34, zl_35, zl_36, zl_37, zl_38, zl_39, zl_40, zl_41, zl_42, zl_43, zl_44, zl_45, zl_46, zl_47, zl_48, zl_49, zl_50, zl_51, zl_52, zl_53, zl_54, zl_55, zl_56, zl_57, zl_58, zl_59, zl_60, zl_61, zl_62, zl_63, zl_64, zl_65, zl_82, zl_99, zl_100, zl_160, zl_299, zl_300, zl_301, zl_382, zl_398, zl_399, zl_464, zl_680, zl_862, zl_999, zl_1000, zl_9999, zl_10000, zl_1000000, zl_m1, zl_m2, zl_m3, zl_m8, zl_87, zl_88] at hi_td hi_spp hz1 c2 huh5_0 huh5_1 huh10_0 huh10_1 ⊢); omega)) (by first | with_reducible assumption | ((try simp only [zlt, zle, zeq, zl_0, zl_1, zl_2, zl_3, zl_4, zl_5, zl_6, zl_7, zl_8, zl_9, zl_10, zl_11, zl_12, zl_13, zl_14, zl_15, zl_16, zl_17, zl_18, zl_19, zl_20, zl_21, zl_22, zl_23, zl_24, zl_25, zl_26, zl_27, zl_28, zl_29, zl_30, zl_31, zl_32, zl_33, zl_34, zl_35, zl_36, zl_37, zl_38, zl_39, zl_40, zl_41, zl_42, zl_43, zl_44, zl_45, zl_46, zl_47, zl_48, zl_49, zl_50, zl_51, zl_52, zl_53, zl_54, zl_55, zl_56, zl_57, zl_58, zl_59, zl_60, zl_61, zl_62, zl_63, zl_64, zl_65, zl_82, zl_99, zl_100, zl_160, zl_299, zl_300, zl_301, zl_382, zl_398, zl_399, zl_464, zl_680, zl_862, zl_999, zl_1000, zl_9999, zl_10000, zl_1000000, zl_m1, zl_m2, zl_m3, zl_m8, zl_87, zl_88] at hi_td hi_spp hz1 c2 huh5_0 huh5_1 huh10_0 huh10_1 ⊢); omega)) (by first | with_reducible assumption | ((try simp only [zlt, zle, zeq, zl_0, zl_1, zl_2, zl_3, zl_4, zl_5, zl_6, zl_7, zl_8, zl_9, zl_10, zl_11, zl_12, zl_13, zl_14, zl_15, zl_16, zl_17, zl_18, zl_19, zl_20, zl_21, zl_22, zl_23, zl_24, zl_25, zl_26, zl_27, zl_28, zl_29, zl_30, zl_31, zl_32, zl_33, zl_34, zl_35, zl_36, zl_37, zl_38, zl_39, zl_40, zl_41, zl_42, zl_43, zl_44, zl_45, zl_46, zl_47, zl_48, zl_49, zl_50, zl_51, zl_52, zl_53, zl_54, zl_55, zl_56, zl_57, zl_58, zl_59, zl_60, zl_61, zl_62, zl_63, zl_64, zl_65, zl_82, zl_99, zl_100, zl_160, zl_299, zl_300, zl_301, zl_382, zl_398, zl_399, zl_464, zl_680, zl_862, zl_999, zl_1000, zl_9999, zl_10000, zl_1000000, zl_m1, zl_m2, zl_m3, zl_m8, zl_87, zl_88] at hi_td hi_spp hz1 c2 huh5_0 huh5_1 huh10_0 huh10_1 ⊢); omega))) (bw_V bw_1158 bw_1160 bw_36 bw_92 bw_1161) ⟨by decide +kernel, by decide +kernel, by decide +kernel⟩ rfl ⟨Nat.le_of_ble_eq_true rfl, Nat.le_of_ble_eq_true rfl⟩ rfl rfl rfl hPc hDc hS rfl (Nat.le_of_ble_eq_true rfl) dX12_feed_27 ⟨Nat.le_of_ble_eq_true rfl, Nat.le_of_ble_eq_true rfl⟩ (fun u13 H1 locs1 h15 hku13 hP1 hD1 hS1 => ?_)
    obtain ⟨td_n_16, ftp_n_17, rfl, huh15_0, huh15_1⟩ := h15
    obtain ⟨hP, hD⟩ := z_join (wr := []) Z hS hP hD [0, 1] [] rfl (by decide) rfl (by decide) (by decide) hku13 hP1 hD1
    have hS := hS1
    clear hS1
    generalize H1 = H at hP hS ⊢
    generalize locs1 = locs at hS ⊢
    have hP : va_P D vwCl ([(q, .inr (12, [.ref aA, .ref aI, .ref xT, .ref tP_, .int td_n_16, .int fu, .int fp, .int at_, .int plc, .int tok, .int num, .long wrd, .int tx0, .int cls, .int wri, .int cam, .ref pI, .int pid, .int ope, .int isw, .int so0, .int onc, .ref nm, .ref vL, .ref tR, .int spp, .int eat, .int ste, .ref rW, .ref sP, .ref oT, .ref bS, .ref aS, .ref aO, .ref cS, .ref wY])), (tP_, .inl (cI, 300, .inl ftp_n_17))]) H := hP
    have hD : va_D A ([(q, .inr (12, [.ref aA, .ref aI, .ref xT, .ref tP_, .int td_n_16, .int fu, .int fp, .int at_, .int plc, .int tok, .int num, .long wrd, .int tx0, .int cls, .int wri, .int cam, .ref pI, .int pid, .int ope, .int isw, .int so0, .int onc, .ref nm, .ref vL, .ref tR, .int spp, .int eat, .int ste, .ref rW, .ref sP, .ref oT, .ref bS, .ref aS, .ref aO, .ref cS, .ref wY])), (tP_, .inl (cI, 300, .inl ftp_n_17))]) := hD
    refine lv_aload_n hx hb dX12_feed_30 rfl (lv_at hl 0 rfl) ?_
    refine lv_iload hx hb dX12_feed_31 (lv_at hl 4 rfl) ?_
    have hPc := hP.sub2 (wc := [(q, .inr (12, [.ref aA, .ref aI, .ref xT, .ref tP_, .int td_n_16, .int fu, .int fp, .int at_, .int plc, .int tok, .int num, .long wrd, .int tx0, .int cls, .int wri, .int cam, .ref pI, .int pid, .int ope, .int isw, .int so0, .int onc, .ref nm, .ref vL, .ref tR, .int spp, .int eat, .int ste, .ref rW, .ref sP, .ref oT, .ref bS, .ref aS, .ref aO, .ref cS, .ref wY])), (tP_, .inl (cI, 300, .inl ftp_n_17))]) [0, 1] rfl
    have hDc := hD.sub (ws' := [(q, .inr (12, [.ref aA, .ref aI, .ref xT, .ref tP_, .int td_n_16, .int fu, .int fp, .int at_, .int plc, .int tok, .int num, .long wrd, .int tx0, .int cls, .int wri, .int cam, .ref pI, .int pid, .int ope, .int isw, .int so0, .int onc, .ref nm, .ref vL, .ref tR, .int spp, .int eat, .int ste, .ref rW, .ref sP, .ref oT, .ref bS, .ref aS, .ref aO, .ref cS, .ref wY])), (tP_, .inl (cI, 300, .inl ftp_n_17))]) [0, 1] (by decide) rfl
    refine raw_Vv (ci := 12) (q0 := 0) (nA := 1) (As := [.int p3]) (rest := []) Z hl.1 (c_X12_four l D cI cM cT cJ cZ q p3 aA aI xT tP_ td_n_16 fu fp at_ plc tok num wrd tx0 cls wri cam pI pid ope isw so0 onc nm vL tR spp eat ste rW sP oT bS aS aO cS wY ftp_n_17 (by first | with_reducible assumption | ((try simp only [zlt, zle, zeq, zl_0, zl_1, zl_2, zl_3, zl_4, zl_5, zl_6, zl_7, zl_8, zl_9, zl_10, zl_11, zl_12, zl_13, zl_14, zl_15, zl_16, zl_17, zl_18, zl_19, zl_20, zl_21, zl_22, zl_23, zl_24, zl_25, zl_26, zl_27, zl_28, zl_29, zl_30, zl_31, zl_32, zl_33, zl_34, zl_35, zl_36, zl_37, zl_38, zl_39, zl_40, zl_41, zl_42, zl_43, zl_44, zl_45, zl_46, zl_47, zl_48, zl_49, zl_50, zl_51, zl_52, zl_53, zl_54, zl_55, zl_56, zl_57, zl_58, zl_59, zl_60, zl_61, zl_62, zl_63, zl_64, zl_65, zl_82, zl_99, zl_100, zl_160, zl_299, zl_300, zl_301, zl_382, zl_398, zl_399, zl_464, zl_680, zl_862, zl_999, zl_1000, zl_9999, zl_10000, zl_1000000, zl_m1, zl_m2, zl_m3, zl_m8, zl_87, zl_88] at hi_td hi_spp hz1 c2 huh5_0 huh5_1 huh10_0 huh10_1 huh15_0 huh15_1 ⊢); omega)) (by first | with_reducible assumption | ((try simp only [zlt, zle, zeq, zl_0, zl_1, zl_2, zl_3, zl_4, zl_5, zl_6, zl_7, zl_8, zl_9, zl_10, zl_11, zl_12, zl_13, zl_14, zl_15, zl_16, zl_17, zl_18, zl_19, zl_20, zl_21, zl_22, zl_23, zl_24, zl_25, zl_26, zl_27, zl_28, zl_29, zl_30, zl_31, zl_32, zl_33, zl_34, zl_35, zl_36, zl_37, zl_38, zl_39, zl_40, zl_41, zl_42, zl_43, zl_44, zl_45, zl_46, zl_47, zl_48, zl_49, zl_50, zl_51, zl_52, zl_53, zl_54, zl_55, zl_56, zl_57, zl_58, zl_59, zl_60, zl_61, zl_62, zl_63, zl_64, zl_65, zl_82, zl_99, zl_100, zl_160, zl_299, zl_300, zl_301, zl_382, zl_398, zl_399, zl_464, zl_680, zl_862, zl_999, zl_1000, zl_9999, zl_10000, zl_1000000, zl_m1, zl_m2, zl_m3, zl_m8, zl_87, zl_88] at hi_td hi_spp hz1 c2 huh5_0 huh5_1 huh10_0 huh10_1 huh15_0 huh15_1 ⊢); omega)) (by first | with_reducible assumption | ((try simp only [zlt, zle, zeq, zl_0, zl_1, zl_2, zl_3, zl_4, zl_5, zl_6, zl_7, zl_8, zl_9, zl_10, zl_11, zl_12, zl_13, zl_14, zl_15, zl_16, zl_17, zl_18, zl_19, zl_20, zl_21, zl_22, zl_23, zl_24, zl_25, zl_26, zl_27, zl_28, zl_29, zl_30, zl_31, zl_32, zl_33, zl_34, zl_35, zl_36, zl_37, zl_38, zl_39, zl_40, zl_41, zl_42, zl_43, zl_44, zl_45, zl_46, zl_47, zl_48, zl_49, zl_50, zl_51, zl_52, zl_53, zl_54, zl_55, zl_56, zl_57, zl_58, zl_59, zl_60, zl_61, zl_62, zl_63, zl_64, zl_65, zl_82, zl_99, zl_100, zl_160, zl_299, zl_300, zl_301, zl_382, zl_398, zl_399, zl_464, zl_680, zl_862, zl_999, zl_1000, zl_9999, zl_10000, zl_1000000, zl_m1, zl_m2, zl_m3, zl_m8, zl_87, zl_88] at hi_td hi_spp hz1 c2 huh5_0 huh5_1 huh10_0 huh10_1 huh15_0 huh15_1 ⊢); omega))) (bw_V bw_1158 bw_1160 bw_36 bw_92 bw_1161) ⟨by decide +kernel, by decide +kernel, by decide +kernel⟩ rfl ⟨Nat.le_of_ble_eq_true rfl, Nat.le_of_ble_eq_true rfl⟩ rfl rfl rfl hPc hDc hS rfl (Nat.le_of_ble_eq_true rfl) dX12_feed_33 ⟨Nat.le_of_ble_eq_true rfl, Nat.le_of_ble_eq_true rfl⟩ (fun u18 H1 locs1 h20 hku18 hP1 hD1 hS1 => ?_)
    obtain ⟨td_n_21, ftp_n_22, rfl, huh20_0, huh20_1⟩ := h20
    obtain ⟨hP, hD⟩ := z_join (wr := []) Z hS hP hD [0, 1] [] rfl (by decide) rfl (by decide) (by decide) hku18 hP1 hD1
    have hS := hS1
    clear hS1
    generalize H1 = H at hP hS ⊢
    generalize locs1 = locs at hS ⊢
    have hP : va_P D vwCl ([(q, .inr (12, [.ref aA, .ref aI, .ref xT, .ref tP_, .int td_n_21, .int fu, .int fp, .int at_, .int plc, .int tok, .int num, .long wrd, .int tx0, .int cls, .int wri, .int cam, .ref pI, .int pid, .int ope, .int isw, .int so0, .int onc, .ref nm, .ref vL, .ref tR, .int spp, .int eat, .int ste, .ref rW, .ref sP, .ref oT, .ref bS, .ref aS, .ref aO, .ref cS, .ref wY])), (tP_, .inl (cI, 300, .inl ftp_n_22))]) H := hP
    have hD : va_D A ([(q, .inr (12, [.ref aA, .ref aI, .ref xT, .ref tP_, .int td_n_21, .int fu, .int fp, .int at_, .int plc, .int tok, .int num, .long wrd, .int tx0, .int cls, .int wri, .int cam, .ref pI, .int pid, .int ope, .int isw, .int so0, .int onc, .ref nm, .ref vL, .ref tR, .int spp, .int eat, .int ste, .ref rW, .ref sP, .ref oT, .ref bS, .ref aS, .ref aO, .ref cS, .ref wY])), (tP_, .inl (cI, 300, .inl ftp_n_22))]) := hD
    refine lv_aload_n hx hb dX12_feed_36 rfl (lv_at hl 0 rfl) ?_
    refine lv_iload hx hb dX12_feed_37 (lv_at hl 5 rfl) ?_
    have hPc := hP.sub2 (wc := [(q, .inr (12, [.ref aA, .ref aI, .ref xT, .ref tP_, .int td_n_21, .int fu, .int fp, .int at_, .int plc, .int tok, .int num, .long wrd, .int tx0, .int cls, .int wri, .int cam, .ref pI, .int pid, .int ope, .int isw, .int so0, .int onc, .ref nm, .ref vL, .ref tR, .int spp, .int eat, .int ste, .ref rW, .ref sP, .ref oT, .ref bS, .ref aS, .ref aO, .ref cS, .ref wY])), (tP_, .inl (cI, 300, .inl ftp_n_22))]) [0, 1] rfl
    have hDc := hD.sub (ws' := [(q, .inr (12, [.ref aA, .ref aI, .ref xT, .ref tP_, .int td_n_21, .int fu, .int fp, .int at_, .int plc, .int tok, .int num, .long wrd, .int tx0, .int cls, .int wri, .int cam, .ref pI, .int pid, .int ope, .int isw, .int so0, .int onc, .ref nm, .ref vL, .ref tR, .int spp, .int eat, .int ste, .ref rW, .ref sP, .ref oT, .ref bS, .ref aS, .ref aO, .ref cS, .ref wY])), (tP_, .inl (cI, 300, .inl ftp_n_22))]) [0, 1] (by decide) rfl
    refine raw_Vv (ci := 12) (q0 := 0) (nA := 1) (As := [.int p4]) (rest := []) Z hl.1 (c_X12_four l D cI cM cT cJ cZ q p4 aA aI xT tP_ td_n_21 fu fp at_ plc tok num wrd tx0 cls wri cam pI pid ope isw so0 onc nm vL tR spp eat ste rW sP oT bS aS aO cS wY ftp_n_22 (by first | with_reducible assumption | ((try simp only [zlt, zle, zeq, zl_0, zl_1, zl_2, zl_3, zl_4, zl_5, zl_6, zl_7, zl_8, zl_9, zl_10, zl_11, zl_12, zl_13, zl_14, zl_15, zl_16, zl_17, zl_18, zl_19, zl_20, zl_21, zl_22, zl_23, zl_24, zl_25, zl_26, zl_27, zl_28, zl_29, zl_30, zl_31, zl_32, zl_33, zl_34, zl_35, zl_36, zl_37, zl_38, zl_39, zl_40, zl_41, zl_42, zl_43, zl_44, zl_45, zl_46, zl_47, zl_48, zl_49, zl_50, zl_51, zl_52, zl_53, zl_54, zl_55, zl_56, zl_57, zl_58, zl_59, zl_60, zl_61, zl_62, zl_63, zl_64, zl_65, zl_82, zl_99, zl_100, zl_160, zl_299, zl_300, zl_301, zl_382, zl_398, zl_399, zl_464, zl_680, zl_862, zl_999, zl_1000, zl_9999, zl_10000, zl_1000000, zl_m1, zl_m2, zl_m3, zl_m8, zl_87, zl_88] at hi_td hi_spp hz1 c2 huh5_0 huh5_1 huh10_0 huh10_1 huh15_0 huh15_1 huh20_0 huh20_1 ⊢); omega)) (by first | with_reducible assumption | ((try simp only [zlt, zle, zeq, zl_0, zl_1, zl_2, zl_3, zl_4, zl_5, zl_6, zl_7, zl_8, zl_9, zl_10, zl_11, zl_12, zl_13, zl_14, zl_15, zl_16, zl_17, zl_18, zl_19, zl_20, zl_21, zl_22, zl_23, zl_24, zl_25, zl_26, zl_27, zl_28, zl_29, zl_30, zl_31, zl_32, zl_33, zl_34, zl_35, zl_36, zl_37, zl_38, zl_39, zl_40, zl_41, zl_42, zl_43, zl_44, zl_45, zl_46, zl_47, zl_48, zl_49, zl_50, zl_51, zl_52, zl_53, zl_54, zl_55, zl_56, zl_57, zl_58, zl_59, zl_60, zl_61, zl_62, zl_63, zl_64, zl_65, zl_82, zl_99, zl_100, zl_160, zl_299, zl_300, zl_301, zl_382, zl_398, zl_399, zl_464, zl_680, zl_862, zl_999, zl_1000, zl_9999, zl_10000, zl_1000000, zl_m1, zl_m2, zl_m3, zl_m8, zl_87, zl_88] at hi_td hi_spp hz1 c2 huh5_0 huh5_1 huh10_0 huh10_1 huh15_0 huh15_1 huh20_0 huh20_1 ⊢); omega)) (by first | with_reducible assumption | ((try simp only [zlt, zle, zeq, zl_0, zl_1, zl_2, zl_3, zl_4, zl_5, zl_6, zl_7, zl_8, zl_9, zl_10, zl_11, zl_12, zl_13, zl_14, zl_15, zl_16, zl_17, zl_18, zl_19, zl_20, zl_21, zl_22, zl_23, zl_24, zl_25, zl_26, zl_27, zl_28, zl_29, zl_30, zl_31, zl_32, zl_33, zl_34, zl_35, zl_36, zl_37, zl_38, zl_39, zl_40, zl_41, zl_42, zl_43, zl_44, zl_45, zl_46, zl_47, zl_48, zl_49, zl_50, zl_51, zl_52, zl_53, zl_54, zl_55, zl_56, zl_57, zl_58, zl_59, zl_60, zl_61, zl_62, zl_63, zl_64, zl_65, zl_82, zl_99, zl_100, zl_160, zl_299, zl_300, zl_301, zl_382, zl_398, zl_399, zl_464, zl_680, zl_862, zl_999, zl_1000, zl_9999, zl_10000, zl_1000000, zl_m1, zl_m2, zl_m3, zl_m8, zl_87, zl_88] at hi_td hi_spp hz1 c2 huh5_0 huh5_1 huh10_0 huh10_1 huh15_0 huh15_1 huh20_0 huh20_1 ⊢); omega))) (bw_V bw_1158 bw_1160 bw_36 bw_92 bw_1161) ⟨by decide +kernel, by decide +kernel, by decide +kernel⟩ rfl ⟨Nat.le_of_ble_eq_true rfl, Nat.le_of_ble_eq_true rfl⟩ rfl rfl rfl hPc hDc hS rfl (Nat.le_of_ble_eq_true rfl) dX12_feed_39 ⟨Nat.le_of_ble_eq_true rfl, Nat.le_of_ble_eq_true rfl⟩ (fun u23 H1 locs1 h25 hku23 hP1 hD1 hS1 => ?_)
    obtain ⟨td_n_26, ftp_n_27, rfl, huh25_0, huh25_1⟩ := h25
    obtain ⟨hP, hD⟩ := z_join (wr := []) Z hS hP hD [0, 1] [] rfl (by decide) rfl (by decide) (by decide) hku23 hP1 hD1
    have hS := hS1
    clear hS1
    generalize H1 = H at hP hS ⊢
    generalize locs1 = locs at hS ⊢
    have hP : va_P D vwCl ([(q, .inr (12, [.ref aA, .ref aI, .ref xT, .ref tP_, .int td_n_26, .int fu, .int fp, .int at_, .int plc, .int tok, .int num, .long wrd, .int tx0, .int cls, .int wri, .int cam, .ref pI, .int pid, .int ope, .int isw, .int so0, .int onc, .ref nm, .ref vL, .ref tR, .int spp, .int eat, .int ste, .ref rW, .ref sP, .ref oT, .ref bS, .ref aS, .ref aO, .ref cS, .ref wY])), (tP_, .inl (cI, 300, .inl ftp_n_27))]) H := hP
    have hD : va_D A ([(q, .inr (12, [.ref aA, .ref aI, .ref xT, .ref tP_, .int td_n_26, .int fu, .int fp, .int at_, .int plc, .int tok, .int num, .long wrd, .int tx0, .int cls, .int wri, .int cam, .ref pI, .int pid, .int ope, .int isw, .int so0, .int onc, .ref nm, .ref vL, .ref tR, .int spp, .int eat, .int ste, .ref rW, .ref sP, .ref oT, .ref bS, .ref aS, .ref aO, .ref cS, .ref wY])), (tP_, .inl (cI, 300, .inl ftp_n_27))]) := hD
    refine lv_aload_n hx hb dX12_feed_42 rfl (lv_at hl 0 rfl) ?_
    refine z_get Z i_X12 hP 0 rfl rfl 4 (by decide) bw_1023 rfl dX12_feed_43 ?_
    exact z_ret Z rfl hP hD hS (⟨td_n_26, ftp_n_27, rfl, (by first | with_reducible assumption | ((try simp only [zlt, zle, zeq, zl_0, zl_1, zl_2, zl_3, zl_4, zl_5, zl_6, zl_7, zl_8, zl_9, zl_10, zl_11, zl_12, zl_13, zl_14, zl_15, zl_16, zl_17, zl_18, zl_19, zl_20, zl_21, zl_22, zl_23, zl_24, zl_25, zl_26, zl_27, zl_28, zl_29, zl_30, zl_31, zl_32, zl_33, zl_34, zl_35, zl_36, zl_37, zl_38, zl_39, zl_40, zl_41, zl_42, zl_43, zl_44, zl_45, zl_46, zl_47, zl_48, zl_49, zl_50, zl_51, zl_52, zl_53, zl_54, zl_55, zl_56, zl_57, zl_58, zl_59, zl_60, zl_61, zl_62, zl_63, zl_64, zl_65, zl_82, zl_99, zl_100, zl_160, zl_299, zl_300, zl_301, zl_382, zl_398, zl_399, zl_464, zl_680, zl_862, zl_999, zl_1000, zl_9999, zl_10000, zl_1000000, zl_m1, zl_m2, zl_m3, zl_m8, zl_87, zl_88] at hi_td hi_spp hz1 c2 huh5_0 huh5_1 huh10_0 huh10_1 huh15_0 huh15_1 huh20_0 huh20_1 huh25_0 huh25_1 ⊢); omega))⟩) dX12_feed_46 (Nat.le_of_ble_eq_true rfl) (Nat.le_of_ble_eq_true rfl)
  · refine lv_iconst (v := (-1)) hx hb dX12_feed_13 (by decide) ?_
    exact z_ret Z rfl hP hD hS (⟨td, ftp, rfl, (by first | with_reducible assumption | ((try simp only [zlt, zle, zeq, zl_0, zl_1, zl_2, zl_3, zl_4, zl_5, zl_6, zl_7, zl_8, zl_9, zl_10, zl_11, zl_12, zl_13, zl_14, zl_15, zl_16, zl_17, zl_18, zl_19, zl_20, zl_21, zl_22, zl_23, zl_24, zl_25, zl_26, zl_27, zl_28, zl_29, zl_30, zl_31, zl_32, zl_33, zl_34, zl_35, zl_36, zl_37, zl_38, zl_39, zl_40, zl_41, zl_42, zl_43, zl_44, zl_45, zl_46, zl_47, zl_48, zl_49, zl_50, zl_51, zl_52, zl_53, zl_54, zl_55, zl_56, zl_57, zl_58, zl_59, zl_60, zl_61, zl_62, zl_63, zl_64, zl_65, zl_82, zl_99, zl_100, zl_160, zl_299, zl_300, zl_301, zl_382, zl_398, zl_399, zl_464, zl_680, zl_862, zl_999, zl_1000, zl_9999, zl_10000, zl_1000000, zl_m1, zl_m2, zl_m3, zl_m8, zl_87, zl_88] at hi_td hi_spp hz1 c2 ⊢); omega))⟩) dX12_feed_14 (Nat.le_of_ble_eq_true rfl) (Nat.le_of_ble_eq_true rfl)
set_option maxHeartbeats 4000000 in
set_option maxRecDepth 100000 in
theorem c_X12_end (l : Launch) (D : va_G) (cI cM cT cJ cZ : ClassId) (q : Nat) (p0 : Int32) (aA : Nat) (aI : Nat) (xT : Nat) (tP_ : Nat) (td : Int32) (fu : Int32) (fp : Int32) (at_ : Int32) (plc : Int32) (tok : Int32) (num : Int32) (wrd : Int64) (tx0 : Int32) (cls : Int32) (wri : Int32) (cam : Int32) (pI : Nat) (pid : Int32) (ope : Int32) (isw : Int32) (so0 : Int32) (onc : Int32) (nm : Nat) (vL : Nat) (tR : Nat) (spp : Int32) (eat : Int32) (ste : Int32) (rW : Nat) (sP : Nat) (oT : Nat) (bS : Nat) (aS : Nat) (aO : Nat) (cS : Nat) (wY : Nat) (hi_td : 0 ≤ td.toInt ∧ td.toInt ≤ 300) (hi_spp : 0 ≤ spp.toInt ∧ spp.toInt ≤ 299) : Ci l D (ty3 cI cM cT cJ cZ) yX12_end cX12_end 2 (some .int) 1 0 0 [.ref q, .int p0] ([(q, .inr (12, [.ref aA, .ref aI, .ref xT, .ref tP_, .int td, .int fu, .int fp, .int at_, .int plc, .int tok, .int num, .long wrd, .int tx0, .int cls, .int wri, .int cam, .ref pI, .int pid, .int ope, .int isw, .int so0, .int onc, .ref nm, .ref vL, .ref tR, .int spp, .int eat, .int ste, .ref rW, .ref sP, .ref oT, .ref bS, .ref aS, .ref aO, .ref cS, .ref wY]))]) (fun r u => ∃ (td_n : Int32), u = [(q, .inr (12, [.ref aA, .ref aI, .ref xT, .ref tP_, .int td_n, .int fu, .int fp, .int at_, .int plc, .int tok, .int num, .long wrd, .int tx0, .int cls, .int wri, .int cam, .ref pI, .int pid, .int ope, .int isw, .int so0, .int onc, .ref nm, .ref vL, .ref tR, .int spp, .int eat, .int ste, .ref rW, .ref sP, .ref oT, .ref bS, .ref aS, .ref aO, .ref cS, .ref wY]))] ∧ (0 ≤ td_n.toInt ∧ td_n.toInt ≤ 300)) := by
  refine Ci.of (by decide +kernel) (Nat.le_of_ble_eq_true rfl) ?_
  intro p e s m below meth c A ls Z hin hP hD hl
  have hx := Z.1
  have hb := Z.2.1
  have hS : va_S A s.heap s.heap [] := va_S.rf
  have hl : lv_has ls 2 [(0, .ref q), (1, .int p0)] := hl
  skip
  refine lv_iload_n hx hb dX12_end_0 rfl (lv_at hl 1 rfl) ?_
  refine lv_iconst (v := 0) hx hb dX12_end_1 (by decide) ?_
  refine lv_aload_n hx hb dX12_end_2 rfl (lv_at hl 0 rfl) ?_
  refine z_get Z i_X12 hP 0 rfl rfl 4 (by decide) bw_1023 rfl dX12_end_3 ?_
  have hPc := hP.sub2 (wc := []) [] rfl
  have hDc := hD.sub (ws' := []) [] (by decide) rfl
  refine raw_Si (nA := 3) (As := [.int p0, .int 0, .int td]) (rest := []) Z hl.1 (c_X12_isIn l D cI cM cT cJ cZ p0 0 td) (bw_S bw_1135 bw_1136 bw_92 bw_1137) ⟨by decide +kernel, by decide +kernel, by decide +kernel⟩ rfl ⟨Nat.le_of_ble_eq_true rfl, Nat.le_of_ble_eq_true rfl⟩ hPc hDc hS rfl (Nat.le_of_ble_eq_true rfl) dX12_end_6 ⟨Nat.le_of_ble_eq_true rfl, Nat.le_of_ble_eq_true rfl⟩ (fun r2 u1 H1 locs1 h3 hku1 hP1 hD1 hS1 => ?_)
  obtain ⟨hrh3, rfl⟩ := h3
  obtain ⟨hP, hD⟩ := z_join (wr := [(q, .inr (12, [.ref aA, .ref aI, .ref xT, .ref tP_, .int td, .int fu, .int fp, .int at_, .int plc, .int tok, .int num, .long wrd, .int tx0, .int cls, .int wri, .int cam, .ref pI, .int pid, .int ope, .int isw, .int so0, .int onc, .ref nm, .ref vL, .ref tR, .int spp, .int eat, .int ste, .ref rW, .ref sP, .ref oT, .ref bS, .ref aS, .ref aO, .ref cS, .ref wY]))]) Z hS hP hD [] [0] rfl (by decide) rfl (by decide) (by decide) hku1 hP1 hD1
  have hS := hS1
  clear hS1
  generalize H1 = H at hP hS ⊢
  generalize locs1 = locs at hS ⊢
  have hP : va_P D vwCl ([(q, .inr (12, [.ref aA, .ref aI, .ref xT, .ref tP_, .int td, .int fu, .int fp, .int at_, .int plc, .int tok, .int num, .long wrd, .int tx0, .int cls, .int wri, .int cam, .ref pI, .int pid, .int ope, .int isw, .int so0, .int onc, .ref nm, .ref vL, .ref tR, .int spp, .int eat, .int ste, .ref rW, .ref sP, .ref oT, .ref bS, .ref aS, .ref aO, .ref cS, .ref wY]))]) H := hP
  have hD : va_D A ([(q, .inr (12, [.ref aA, .ref aI, .ref xT, .ref tP_, .int td, .int fu, .int fp, .int at_, .int plc, .int tok, .int num, .long wrd, .int tx0, .int cls, .int wri, .int cam, .ref pI, .int pid, .int ope, .int isw, .int so0, .int onc, .ref nm, .ref vL, .ref tR, .int spp, .int eat, .int ste, .ref rW, .ref sP, .ref oT, .ref bS, .ref aS, .ref aO, .ref cS, .ref wY]))]) := hD
  by_cases c4 : 0 ≤ p0 ∧ p0 ≤ td
  · obtain rfl : r2 = 1 := by rw [hrh3, if_pos c4]
    refine lv_if_ne (tgt := 14) hx hb dX12_end_9 (by decide) (fun c5 => ?_) (fun h => absurd h (by decide))
    refine lv_aload_n hx hb dX12_end_14 rfl (lv_at hl 0 rfl) ?_
    refine lv_iload_n hx hb dX12_end_15 rfl (lv_at hl 1 rfl) ?_
    refine z_put Z i_X12 tyX12 tyX12_ok nmX12 hP hD hS 0 rfl rfl 4 (by decide) bw_1023 rfl rfl rfl (Nat.le_of_ble_eq_true rfl) dX12_end_16 (fun H locs hP hD hS => ?_)
    have hP : va_P D vwCl ([(q, .inr (12, [.ref aA, .ref aI, .ref xT, .ref tP_, .int p0, .int fu, .int fp, .int at_, .int plc, .int tok, .int num, .long wrd, .int tx0, .int cls, .int wri, .int cam, .ref pI, .int pid, .int ope, .int isw, .int so0, .int onc, .ref nm, .ref vL, .ref tR, .int spp, .int eat, .int ste, .ref rW, .ref sP, .ref oT, .ref bS, .ref aS, .ref aO, .ref cS, .ref wY]))]) H := hP
    have hD : va_D A ([(q, .inr (12, [.ref aA, .ref aI, .ref xT, .ref tP_, .int p0, .int fu, .int fp, .int at_, .int plc, .int tok, .int num, .long wrd, .int tx0, .int cls, .int wri, .int cam, .ref pI, .int pid, .int ope, .int isw, .int so0, .int onc, .ref nm, .ref vL, .ref tR, .int spp, .int eat, .int ste, .ref rW, .ref sP, .ref oT, .ref bS, .ref aS, .ref aO, .ref cS, .ref wY]))]) := hD
    refine lv_iload_n hx hb dX12_end_19 rfl (lv_at hl 1 rfl) ?_
    exact z_ret Z rfl hP hD hS (⟨p0, rfl, (by first | with_reducible assumption | ((try simp only [zlt, zle, zeq, zl_0, zl_1, zl_2, zl_3, zl_4, zl_5, zl_6, zl_7, zl_8, zl_9, zl_10, zl_11, zl_12, zl_13, zl_14, zl_15, zl_16, zl_17, zl_18, zl_19, zl_20, zl_21, zl_22, zl_23, zl_24, zl_25, zl_26, zl_27, zl_28, zl_29, zl_30, zl_31, zl_32, zl_33, zl_34, zl_35, zl_36, zl_37, zl_38, zl_39, zl_40, zl_41, zl_42, zl_43, zl_44, zl_45, zl_46, zl_47, zl_48, zl_49, zl_50, zl_51, zl_52, zl_53, zl_54, zl_55, zl_56, zl_57, zl_58, zl_59, zl_60, zl_61, zl_62, zl_63, zl_64, zl_65, zl_82, zl_99, zl_100, zl_160, zl_299, zl_300, zl_301, zl_382, zl_398, zl_399, zl_464, zl_680, zl_862, zl_999, zl_1000, zl_9999, zl_10000, zl_1000000, zl_m1, zl_m2, zl_m3, zl_m8, zl_87, zl_88] at hi_td hi_spp c4 c5 ⊢); omega))⟩) dX12_end_20 (Nat.le_of_ble_eq_true rfl) (Nat.le_of_ble_eq_true rfl)
  · obtain rfl : r2 = 0 := by rw [hrh3, if_neg c4]
    refine lv_if_ne (tgt := 14) hx hb dX12_end_9 (by decide) (fun h => absurd (by decide) h) (fun c6 => ?_)
    refine lv_iconst (v := (-1)) hx hb dX12_end_12 (by decide) ?_
    exact z_ret Z rfl hP hD hS (⟨td, rfl, (by first | with_reducible assumption | ((try simp only [zlt, zle, zeq, zl_0, zl_1, zl_2, zl_3, zl_4, zl_5, zl_6, zl_7, zl_8, zl_9, zl_10, zl_11, zl_12, zl_13, zl_14, zl_15, zl_16, zl_17, zl_18, zl_19, zl_20, zl_21, zl_22, zl_23, zl_24, zl_25, zl_26, zl_27, zl_28, zl_29, zl_30, zl_31, zl_32, zl_33, zl_34, zl_35, zl_36, zl_37, zl_38, zl_39, zl_40, zl_41, zl_42, zl_43, zl_44, zl_45, zl_46, zl_47, zl_48, zl_49, zl_50, zl_51, zl_52, zl_53, zl_54, zl_55, zl_56, zl_57, zl_58, zl_59, zl_60, zl_61, zl_62, zl_63, zl_64, zl_65, zl_82, zl_99, zl_100, zl_160, zl_299, zl_300, zl_301, zl_382, zl_398, zl_399, zl_464, zl_680, zl_862, zl_999, zl_1000, zl_9999, zl_10000, zl_1000000, zl_m1, zl_m2, zl_m3, zl_m8, zl_87, zl_88] at hi_td hi_spp c4 c6 ⊢); omega))⟩) dX12_end_13 (Nat.le_of_ble_eq_true rfl) (Nat.le_of_ble_eq_true rfl)
set_option maxHeartbeats 4000000 in
set_option maxRecDepth 100000 in
theorem c_X12_fault (l : Launch) (D : va_G) (cI cM cT cJ cZ : ClassId) (q : Nat) (p0 : Int32) (aA : Nat) (aI : Nat) (xT : Nat) (tP_ : Nat) (td : Int32) (fu : Int32) (fp : Int32) (at_ : Int32) (plc : Int32) (tok : Int32) (num : Int32) (wrd : Int64) (tx0 : Int32) (cls : Int32) (wri : Int32) (cam : Int32) (pI : Nat) (pid : Int32) (ope : Int32) (isw : Int32) (so0 : Int32) (onc : Int32) (nm : Nat) (vL : Nat) (tR : Nat) (spp : Int32) (eat : Int32) (ste : Int32) (rW : Nat) (sP : Nat) (oT : Nat) (bS : Nat) (aS : Nat) (aO : Nat) (cS : Nat) (wY : Nat) (hi_td : 0 ≤ td.toInt ∧ td.toInt ≤ 300) (hi_spp : 0 ≤ spp.toInt ∧ spp.toInt ≤ 299) : Ci l D (ty3 cI cM cT cJ cZ) yX12_fault cX12_fault 2 (some .int) 1 0 0 [.ref q, .int p0] ([(q, .inr (12, [.ref aA, .ref aI, .ref xT, .ref tP_, .int td, .int fu, .int fp, .int at_, .int plc, .int tok, .int num, .long wrd, .int tx0, .int cls, .int wri, .int cam, .ref pI, .int pid, .int ope, .int isw, .int so0, .int onc, .ref nm, .ref vL, .ref tR, .int spp, .int eat, .int ste, .ref rW, .ref sP, .ref oT, .ref bS, .ref aS, .ref aO, .ref cS, .ref wY]))]) (fun r u => u = [(q, .inr (12, [.ref aA, .ref aI, .ref xT, .ref tP_, .int td, .int fu, .int fp, .int at_, .int plc, .int tok, .int num, .long wrd, .int tx0, .int cls, .int wri, .int cam, .ref pI, .int pid, .int ope, .int isw, .int so0, .int onc, .ref nm, .ref vL, .ref tR, .int spp, .int eat, .int ste, .ref rW, .ref sP, .ref oT, .ref bS, .ref aS, .ref aO, .ref cS, .ref wY]))]) := by
  refine Ci.of (by decide +kernel) (Nat.le_of_ble_eq_true rfl) ?_
  intro p e s m below meth c A ls Z hin hP hD hl
  have hx := Z.1
  have hb := Z.2.1
  have hS : va_S A s.heap s.heap [] := va_S.rf
  have hl : lv_has ls 2 [(0, .ref q), (1, .int p0)] := hl
  skip
  refine lv_iload_n hx hb dX12_fault_0 rfl (lv_at hl 1 rfl) ?_
  refine lv_if_ne (tgt := 11) hx hb dX12_fault_1 (by decide) (fun c1 => ?_) (fun c1 => ?_)
  · refine lv_iload_n hx hb dX12_fault_11 rfl (lv_at hl 1 rfl) ?_
    refine lv_iconst (v := 1) hx hb dX12_fault_12 (by decide) ?_
    refine lv_icmp_ne (tgt := 23) hx hb dX12_fault_13 (by decide) (fun c2 => ?_) (fun c2 => ?_)
    · refine lv_iconst (v := (-1)) hx hb dX12_fault_23 (by decide) ?_
      exact z_ret Z rfl hP hD hS (rfl) dX12_fault_24 (Nat.le_of_ble_eq_true rfl) (Nat.le_of_ble_eq_true rfl)
    · refine lv_aload_n hx hb dX12_fault_16 rfl (lv_at hl 0 rfl) ?_
      refine z_get Z i_X12 hP 0 rfl rfl 6 (by decide) bw_1025 rfl dX12_fault_17 ?_
      refine lv_goto (tgt := 24) hx hb dX12_fault_20 (by decide) ?_
      exact z_ret Z rfl hP hD hS (rfl) dX12_fault_24 (Nat.le_of_ble_eq_true rfl) (Nat.le_of_ble_eq_true rfl)
  · refine lv_aload_n hx hb dX12_fault_4 rfl (lv_at hl 0 rfl) ?_
    refine z_get Z i_X12 hP 0 rfl rfl 5 (by decide) bw_1024 rfl dX12_fault_5 ?_
    refine lv_goto (tgt := 24) hx hb dX12_fault_8 (by decide) ?_
    exact z_ret Z rfl hP hD hS (rfl) dX12_fault_24 (Nat.le_of_ble_eq_true rfl) (Nat.le_of_ble_eq_true rfl)
set_option maxHeartbeats 4000000 in
set_option maxRecDepth 100000 in
theorem c_X12_by (l : Launch) (D : va_G) (cI cM cT cJ cZ : ClassId) (q : Nat) (p0 : Int32) (aA : Nat) (aI : Nat) (xT : Nat) (tP_ : Nat) (td : Int32) (fu : Int32) (fp : Int32) (at_ : Int32) (plc : Int32) (tok : Int32) (num : Int32) (wrd : Int64) (tx0 : Int32) (cls : Int32) (wri : Int32) (cam : Int32) (pI : Nat) (pid : Int32) (ope : Int32) (isw : Int32) (so0 : Int32) (onc : Int32) (nm : Nat) (vL : Nat) (tR : Nat) (spp : Int32) (eat : Int32) (ste : Int32) (rW : Nat) (sP : Nat) (oT : Nat) (bS : Nat) (aS : Nat) (aO : Nat) (cS : Nat) (wY : Nat) (fa : Nat → Int32) (kc0 : Int) (kc1 : Int) (kc6 : Int) (kc9 : Int) (kc10 : Int) (hi_td : 0 ≤ td.toInt ∧ td.toInt ≤ 300) (hi_spp : 0 ≤ spp.toInt ∧ spp.toInt ≤ 299) (hr_fa : AK kc0 kc1 kc6 kc9 kc10 fa) : Ci l D (ty3 cI cM cT cJ cZ) yX12_by cX12_by 2 (some .boolean) 1 0 0 [.ref q, .int p0] ([(q, .inr (12, [.ref aA, .ref aI, .ref xT, .ref tP_, .int td, .int fu, .int fp, .int at_, .int plc, .int tok, .int num, .long wrd, .int tx0, .int cls, .int wri, .int cam, .ref pI, .int pid, .int ope, .int isw, .int so0, .int onc, .ref nm, .ref vL, .ref tR, .int spp, .int eat, .int ste, .ref rW, .ref sP, .ref oT, .ref bS, .ref aS, .ref aO, .ref cS, .ref wY])), (aA, .inl (cI, 862, .inl fa))]) (fun r u => ∃ (fa_n : Nat → Int32), (0 ≤ r.toInt ∧ r.toInt ≤ 1) ∧ u = [(q, .inr (12, [.ref aA, .ref aI, .ref xT, .ref tP_, .int td, .int fu, .int fp, .int at_, .int plc, .int tok, .int num, .long wrd, .int tx0, .int cls, .int wri, .int cam, .ref pI, .int pid, .int ope, .int isw, .int so0, .int onc, .ref nm, .ref vL, .ref tR, .int spp, .int eat, .int ste, .ref rW, .ref sP, .ref oT, .ref bS, .ref aS, .ref aO, .ref cS, .ref wY])), (aA, .inl (cI, 862, .inl fa_n))] ∧ AK kc0 kc1 kc6 kc9 kc10 fa_n) := by
  refine Ci.of (by decide +kernel) (Nat.le_of_ble_eq_true rfl) ?_
  intro p e s m below meth c A ls Z hin hP hD hl
  have hx := Z.1
  have hb := Z.2.1
  have hS : va_S A s.heap s.heap [] := va_S.rf
  have hl : lv_has ls 2 [(0, .ref q), (1, .int p0)] := hl
  skip
  have hk_fa := AK.rng hr_fa
  refine lv_iload_n hx hb dX12_by_0 rfl (lv_at hl 1 rfl) ?_
  refine lv_iconst (v := (-1)) hx hb dX12_by_1 (by decide) ?_
  refine lv_aload_n hx hb dX12_by_2 rfl (lv_at hl 0 rfl) ?_
  refine z_get Z i_X12 hP 0 rfl rfl 0 (by decide) bw_1019 rfl dX12_by_3 ?_
  refine lv_bipush (v := 6) hx hb dX12_by_6 (by decide) ?_
  refine z_iald Z hP 1 0 rfl rfl (vin (by decide)) dX12_by_8 ?_
  refine lv_topi (fun z1 ez1 => ?_)
  have hz1 : z1.toInt = kc6 := by rw [ez1]; exact AK.k6 hr_fa
  refine lv_iconst (v := 1) hx hb dX12_by_9 (by decide) ?_
  refine lv_isub hx hb dX12_by_10 ?_
  refine lv_topi (fun z2 ez2 => ?_)
  have hz2 : z2.toInt = z1.toInt - 1 := by rw [ez2]; exact zsubg (by first | with_reducible assumption | ((try simp only [zlt, zle, zeq, zl_0, zl_1, zl_2, zl_3, zl_4, zl_5, zl_6, zl_7, zl_8, zl_9, zl_10, zl_11, zl_12, zl_13, zl_14, zl_15, zl_16, zl_17, zl_18, zl_19, zl_20, zl_21, zl_22, zl_23, zl_24, zl_25, zl_26, zl_27, zl_28, zl_29, zl_30, zl_31, zl_32, zl_33, zl_34, zl_35, zl_36, zl_37, zl_38, zl_39, zl_40, zl_41, zl_42, zl_43, zl_44, zl_45, zl_46, zl_47, zl_48, zl_49, zl_50, zl_51, zl_52, zl_53, zl_54, zl_55, zl_56, zl_57, zl_58, zl_59, zl_60, zl_61, zl_62, zl_63, zl_64, zl_65, zl_82, zl_99, zl_100, zl_160, zl_299, zl_300, zl_301, zl_382, zl_398, zl_399, zl_464, zl_680, zl_862, zl_999, zl_1000, zl_9999, zl_10000, zl_1000000, zl_m1, zl_m2, zl_m3, zl_m8, zl_87, zl_88] at hi_td hi_spp hk_fa hz1 ⊢); omega)) (by first | with_reducible assumption | ((try simp only [zlt, zle, zeq, zl_0, zl_1, zl_2, zl_3, zl_4, zl_5, zl_6, zl_7, zl_8, zl_9, zl_10, zl_11, zl_12, zl_13, zl_14, zl_15, zl_16, zl_17, zl_18, zl_19, zl_20, zl_21, zl_22, zl_23, zl_24, zl_25, zl_26, zl_27, zl_28, zl_29, zl_30, zl_31, zl_32, zl_33, zl_34, zl_35, zl_36, zl_37, zl_38, zl_39, zl_40, zl_41, zl_42, zl_43, zl_44, zl_45, zl_46, zl_47, zl_48, zl_49, zl_50, zl_51, zl_52, zl_53, zl_54, zl_55, zl_56, zl_57, zl_58, zl_59, zl_60, zl_61, zl_62, zl_63, zl_64, zl_65, zl_82, zl_99, zl_100, zl_160, zl_299, zl_300, zl_301, zl_382, zl_398, zl_399, zl_464, zl_680, zl_862, zl_999, zl_1000, zl_9999, zl_10000, zl_1000000, zl_m1, zl_m2, zl_m3, zl_m8, zl_87, zl_88] at hi_td hi_spp hk_fa hz1 ⊢); omega))
  have hPc := hP.sub2 (wc := []) [] rfl
  have hDc := hD.sub (ws' := []) [] (by decide) rfl
  refine raw_Si (nA := 3) (As := [.int p0, .int (-1), .int z2]) (rest := []) Z hl.1 (c_X12_isIn l D cI cM cT cJ cZ p0 (-1) z2) (bw_S bw_1135 bw_1136 bw_92 bw_1137) ⟨by decide +kernel, by decide +kernel, by decide +kernel⟩ rfl ⟨Nat.le_of_ble_eq_true rfl, Nat.le_of_ble_eq_true rfl⟩ hPc hDc hS rfl (Nat.le_of_ble_eq_true rfl) dX12_by_11 ⟨Nat.le_of_ble_eq_true rfl, Nat.le_of_ble_eq_true rfl⟩ (fun r4 u3 H1 locs1 h5 hku3 hP1 hD1 hS1 => ?_)
  obtain ⟨hrh5, rfl⟩ := h5
  obtain ⟨hP, hD⟩ := z_join (wr := [(q, .inr (12, [.ref aA, .ref aI, .ref xT, .ref tP_, .int td, .int fu, .int fp, .int at_, .int plc, .int tok, .int num, .long wrd, .int tx0, .int cls, .int wri, .int cam, .ref pI, .int pid, .int ope, .int isw, .int so0, .int onc, .ref nm, .ref vL, .ref tR, .int spp, .int eat, .int ste, .ref rW, .ref sP, .ref oT, .ref bS, .ref aS, .ref aO, .ref cS, .ref wY])), (aA, .inl (cI, 862, .inl fa))]) Z hS hP hD [] [0, 1] rfl (by decide) rfl (by decide) (by decide) hku3 hP1 hD1
  have hS := hS1
  clear hS1
  generalize H1 = H at hP hS ⊢
  generalize locs1 = locs at hS ⊢
  have hP : va_P D vwCl ([(q, .inr (12, [.ref aA, .ref aI, .ref xT, .ref tP_, .int td, .int fu, .int fp, .int at_, .int plc, .int tok, .int num, .long wrd, .int tx0, .int cls, .int wri, .int cam, .ref pI, .int pid, .int ope, .int isw, .int so0, .int onc, .ref nm, .ref vL, .ref tR, .int spp, .int eat, .int ste, .ref rW, .ref sP, .ref oT, .ref bS, .ref aS, .ref aO, .ref cS, .ref wY])), (aA, .inl (cI, 862, .inl fa))]) H := hP
  have hD : va_D A ([(q, .inr (12, [.ref aA, .ref aI, .ref xT, .ref tP_, .int td, .int fu, .int fp, .int at_, .int plc, .int tok, .int num, .long wrd, .int tx0, .int cls, .int wri, .int cam, .ref pI, .int pid, .int ope, .int isw, .int so0, .int onc, .ref nm, .ref vL, .ref tR, .int spp, .int eat, .int ste, .ref rW, .ref sP, .ref oT, .ref bS, .ref aS, .ref aO, .ref cS, .ref wY])), (aA, .inl (cI, 862, .inl fa))]) := hD
  by_cases c6 : (-1) ≤ p0 ∧ p0 ≤ z2
  · obtain rfl : r4 = 1 := by rw [hrh5, if_pos c6]
    refine lv_if_ne (tgt := 19) hx hb dX12_by_14 (by decide) (fun c7 => ?_) (fun h => absurd h (by decide))
    refine lv_aload_n hx hb dX12_by_19 rfl (lv_at hl 0 rfl) ?_
    refine z_get Z i_X12 hP 0 rfl rfl 0 (by decide) bw_1019 rfl dX12_by_20 ?_
    refine lv_bipush (v := 7) hx hb dX12_by_23 (by decide) ?_
    refine lv_iload_n hx hb dX12_by_25 rfl (lv_at hl 1 rfl) ?_
    refine z_iast Z hP hD hS 1 0 rfl rfl (vin (by decide)) dX12_by_26 (fun H locs hP hD hS => ?_)
    have hrg8 := AK.s7 (v := p0) hr_fa (by first | with_reducible assumption | ((try simp only [zlt, zle, zeq, zl_0, zl_1, zl_2, zl_3, zl_4, zl_5, zl_6, zl_7, zl_8, zl_9, zl_10, zl_11, zl_12, zl_13, zl_14, zl_15, zl_16, zl_17, zl_18, zl_19, zl_20, zl_21, zl_22, zl_23, zl_24, zl_25, zl_26, zl_27, zl_28, zl_29, zl_30, zl_31, zl_32, zl_33, zl_34, zl_35, zl_36, zl_37, zl_38, zl_39, zl_40, zl_41, zl_42, zl_43, zl_44, zl_45, zl_46, zl_47, zl_48, zl_49, zl_50, zl_51, zl_52, zl_53, zl_54, zl_55, zl_56, zl_57, zl_58, zl_59, zl_60, zl_61, zl_62, zl_63, zl_64, zl_65, zl_82, zl_99, zl_100, zl_160, zl_299, zl_300, zl_301, zl_382, zl_398, zl_399, zl_464, zl_680, zl_862, zl_999, zl_1000, zl_9999, zl_10000, zl_1000000, zl_m1, zl_m2, zl_m3, zl_m8, zl_87, zl_88] at hi_td hi_spp hk_fa hz1 hz2 c6 c7 ⊢); omega))
    generalize upd fa (7 : Int32).toNatClampNeg p0 = g8 at hP hD hrg8
    have hP : va_P D vwCl ([(q, .inr (12, [.ref aA, .ref aI, .ref xT, .ref tP_, .int td, .int fu, .int fp, .int at_, .int plc, .int tok, .int num, .long wrd, .int tx0, .int cls, .int wri, .int cam, .ref pI, .int pid, .int ope, .int isw, .int so0, .int onc, .ref nm, .ref vL, .ref tR, .int spp, .int eat, .int ste, .ref rW, .ref sP, .ref oT, .ref bS, .ref aS, .ref aO, .ref cS, .ref wY])), (aA, .inl (cI, 862, .inl g8))]) H := hP
    have hD : va_D A ([(q, .inr (12, [.ref aA, .ref aI, .ref xT, .ref tP_, .int td, .int fu, .int fp, .int at_, .int plc, .int tok, .int num, .long wrd, .int tx0, .int cls, .int wri, .int cam, .ref pI, .int pid, .int ope, .int isw, .int so0, .int onc, .ref nm, .ref vL, .ref tR, .int spp, .int eat, .int ste, .ref rW, .ref sP, .ref oT, .ref bS, .ref aS, .ref aO, .ref cS, .ref wY])), (aA, .inl (cI, 862, .inl g8))]) := hD
    refine lv_iconst (v := 1) hx hb dX12_by_27 (by decide) ?_
    exact z_ret Z rfl hP hD hS (⟨g8, (by decide), rfl, hrg8⟩) dX12_by_28 (Nat.le_of_ble_eq_true rfl) (Nat.le_of_ble_eq_true rfl)
  · obtain rfl : r4 = 0 := by rw [hrh5, if_neg c6]
    refine lv_if_ne (tgt := 19) hx hb dX12_by_14 (by decide) (fun h => absurd (by decide) h) (fun c9 => ?_)
    refine lv_iconst (v := 0) hx hb dX12_by_17 (by decide) ?_
    exact z_ret Z rfl hP hD hS (⟨fa, (by decide), rfl, hr_fa⟩) dX12_by_18 (Nat.le_of_ble_eq_true rfl) (Nat.le_of_ble_eq_true rfl)
set_option maxHeartbeats 4000000 in
set_option maxRecDepth 100000 in
theorem c_X12_start (l : Launch) (D : va_G) (cI cM cT cJ cZ : ClassId) (q : Nat) (p0 : Int32) (aA : Nat) (aI : Nat) (xT : Nat) (tP_ : Nat) (td : Int32) (fu : Int32) (fp : Int32) (at_ : Int32) (plc : Int32) (tok : Int32) (num : Int32) (wrd : Int64) (tx0 : Int32) (cls : Int32) (wri : Int32) (cam : Int32) (pI : Nat) (pid : Int32) (ope : Int32) (isw : Int32) (so0 : Int32) (onc : Int32) (nm : Nat) (vL : Nat) (tR : Nat) (spp : Int32) (eat : Int32) (ste : Int32) (rW : Nat) (sP : Nat) (oT : Nat) (bS : Nat) (aS : Nat) (aO : Nat) (cS : Nat) (wY : Nat) (fa : Nat → Int32) (kc0 : Int) (kc1 : Int) (kc6 : Int) (kc9 : Int) (kc10 : Int) (hi_td : 0 ≤ td.toInt ∧ td.toInt ≤ 300) (hi_spp : 0 ≤ spp.toInt ∧ spp.toInt ≤ 299) (hr_fa : AK kc0 kc1 kc6 kc9 kc10 fa) : Ci l D (ty3 cI cM cT cJ cZ) yX12_start cX12_start 2 (some .boolean) 2 0 0 [.ref q, .int p0] ([(q, .inr (12, [.ref aA, .ref aI, .ref xT, .ref tP_, .int td, .int fu, .int fp, .int at_, .int plc, .int tok, .int num, .long wrd, .int tx0, .int cls, .int wri, .int cam, .ref pI, .int pid, .int ope, .int isw, .int so0, .int onc, .ref nm, .ref vL, .ref tR, .int spp, .int eat, .int ste, .ref rW, .ref sP, .ref oT, .ref bS, .ref aS, .ref aO, .ref cS, .ref wY])), (aA, .inl (cI, 862, .inl fa))]) (fun r u => ∃ (fa_n : Nat → Int32), r = (if 0 ≤ p0 ∧ p0 < 300 then 1 else 0) ∧ u = [(q, .inr (12, [.ref aA, .ref aI, .ref xT, .ref tP_, .int td, .int fu, .int fp, .int at_, .int plc, .int tok, .int num, .long wrd, .int tx0, .int cls, .int wri, .int cam, .ref pI, .int pid, .int ope, .int isw, .int so0, .int onc, .ref nm, .ref vL, .ref tR, .int spp, .int eat, .int ste, .ref rW, .ref sP, .ref oT, .ref bS, .ref aS, .ref aO, .ref cS, .ref wY])), (aA, .inl (cI, 862, .inl fa_n))] ∧ AK kc0 kc1 kc6 kc9 kc10 fa_n) := by
  refine Ci.of (by decide +kernel) (Nat.le_of_ble_eq_true rfl) ?_
  intro p e s m below meth c A ls Z hin hP hD hl
  have hx := Z.1
  have hb := Z.2.1
  have hS : va_S A s.heap s.heap [] := va_S.rf
  have hl : lv_has ls 2 [(0, .ref q), (1, .int p0)] := hl
  skip
  have hk_fa := AK.rng hr_fa
  refine lv_iload_n hx hb dX12_start_0 rfl (lv_at hl 1 rfl) ?_
  have hPc := hP.sub2 (wc := []) [] rfl
  have hDc := hD.sub (ws' := []) [] (by decide) rfl
  refine raw_Si (nA := 1) (As := [.int p0]) (rest := []) Z hl.1 (c_X12_isPlace l D cI cM cT cJ cZ p0) (bw_S bw_1132 bw_1133 bw_92 bw_1134) ⟨by decide +kernel, by decide +kernel, by decide +kernel⟩ rfl ⟨Nat.le_of_ble_eq_true rfl, Nat.le_of_ble_eq_true rfl⟩ hPc hDc hS rfl (Nat.le_of_ble_eq_true rfl) dX12_start_1 ⟨Nat.le_of_ble_eq_true rfl, Nat.le_of_ble_eq_true rfl⟩ (fun r2 u1 H1 locs1 h3 hku1 hP1 hD1 hS1 => ?_)
  obtain ⟨hrh3, rfl⟩ := h3
  obtain ⟨hP, hD⟩ := z_join (wr := [(q, .inr (12, [.ref aA, .ref aI, .ref xT, .ref tP_, .int td, .int fu, .int fp, .int at_, .int plc, .int tok, .int num, .long wrd, .int tx0, .int cls, .int wri, .int cam, .ref pI, .int pid, .int ope, .int isw, .int so0, .int onc, .ref nm, .ref vL, .ref tR, .int spp, .int eat, .int ste, .ref rW, .ref sP, .ref oT, .ref bS, .ref aS, .ref aO, .ref cS, .ref wY])), (aA, .inl (cI, 862, .inl fa))]) Z hS hP hD [] [0, 1] rfl (by decide) rfl (by decide) (by decide) hku1 hP1 hD1
  have hS := hS1
  clear hS1
  generalize H1 = H at hP hS ⊢
  generalize locs1 = locs at hS ⊢
  have hP : va_P D vwCl ([(q, .inr (12, [.ref aA, .ref aI, .ref xT, .ref tP_, .int td, .int fu, .int fp, .int at_, .int plc, .int tok, .int num, .long wrd, .int tx0, .int cls, .int wri, .int cam, .ref pI, .int pid, .int ope, .int isw, .int so0, .int onc, .ref nm, .ref vL, .ref tR, .int spp, .int eat, .int ste, .ref rW, .ref sP, .ref oT, .ref bS, .ref aS, .ref aO, .ref cS, .ref wY])), (aA, .inl (cI, 862, .inl fa))]) H := hP
  have hD : va_D A ([(q, .inr (12, [.ref aA, .ref aI, .ref xT, .ref tP_, .int td, .int fu, .int fp, .int at_, .int plc, .int tok, .int num, .long wrd, .int tx0, .int cls, .int wri, .int cam, .ref pI, .int pid, .int ope, .int isw, .int so0, .int onc, .ref nm, .ref vL, .ref tR, .int spp, .int eat, .int ste, .ref rW, .ref sP, .ref oT, .ref bS, .ref aS, .ref aO, .ref cS, .ref wY])), (aA, .inl (cI, 862, .inl fa))]) := hD
  by_cases c4 : 0 ≤ p0 ∧ p0 ≤ 299
  · obtain rfl : r2 = 1 := by rw [hrh3, if_pos c4]
    refine lv_if_ne (tgt := 9) hx hb dX12_start_4 (by decide) (fun c5 => ?_) (fun h => absurd h (by decide))
    refine lv_aload_n hx hb dX12_start_9 rfl (lv_at hl 0 rfl) ?_
    refine z_get Z i_X12 hP 0 rfl rfl 0 (by decide) bw_1019 rfl dX12_start_10 ?_
    refine lv_bipush (v := 12) hx hb dX12_start_13 (by decide) ?_
    refine lv_iload_n hx hb dX12_start_15 rfl (lv_at hl 1 rfl) ?_
    refine z_iast Z hP hD hS 1 0 rfl rfl (vin (by decide)) dX12_start_16 (fun H locs hP hD hS => ?_)
    have hrg6 := AK.st (x := 12) (v := p0) hr_fa (by first | with_reducible assumption | ((try simp only [zlt, zle, zeq, zl_0, zl_1, zl_2, zl_3, zl_4, zl_5, zl_6, zl_7, zl_8, zl_9, zl_10, zl_11, zl_12, zl_13, zl_14, zl_15, zl_16, zl_17, zl_18, zl_19, zl_20, zl_21, zl_22, zl_23, zl_24, zl_25, zl_26, zl_27, zl_28, zl_29, zl_30, zl_31, zl_32, zl_33, zl_34, zl_35, zl_36, zl_37, zl_38, zl_39, zl_40, zl_41, zl_42, zl_43, zl_44, zl_45, zl_46, zl_47, zl_48, zl_49, zl_50, zl_51, zl_52, zl_53, zl_54, zl_55, zl_56, zl_57, zl_58, zl_59, zl_60, zl_61, zl_62, zl_63, zl_64, zl_65, zl_82, zl_99, zl_100, zl_160, zl_299, zl_300, zl_301, zl_382, zl_398, zl_399, zl_464, zl_680, zl_862, zl_999, zl_1000, zl_9999, zl_10000, zl_1000000, zl_m1, zl_m2, zl_m3, zl_m8, zl_87, zl_88] at hi_td hi_spp hk_fa c4 c5 ⊢); omega)) (by unfold RAi; (try simp only [zlt, zle, zeq, zl_0, zl_1, zl_2, zl_3, zl_4, zl_5, zl_6, zl_7, zl_8, zl_9, zl_10, zl_11, zl_12, zl_13, zl_14, zl_15, zl_16, zl_17, zl_18, zl_19, zl_20, zl_21, zl_22, zl_23, zl_24, zl_25, zl_26, zl_27, zl_28, zl_29, zl_30, zl_31, zl_32, zl_33, zl_34, zl_35, zl_36, zl_37, zl_38, zl_39, zl_40, zl_41, zl_42, zl_43, zl_44, zl_45, zl_46, zl_47, zl_48, zl_49, zl_50, zl_51, zl_52, zl_53, zl_54, zl_55, zl_56, zl_57, zl_58, zl_59, zl_60, zl_61, zl_62, zl_63, zl_64, zl_65, zl_82, zl_99, zl_100, zl_160, zl_299, zl_300, zl_301, zl_382, zl_398, zl_399, zl_464, zl_680, zl_862, zl_999, zl_1000, zl_9999, zl_10000, zl_1000000, zl_m1, zl_m2, zl_m3, zl_m8, zl_87, zl_88] at hi_td hi_spp hk_fa c4 c5 ⊢); omega)
    generalize upd fa (12 : Int32).toNatClampNeg p0 = g6 at hP hD hrg6
    have hP : va_P D vwCl ([(q, .inr (12, [.ref aA, .ref aI, .ref xT, .ref tP_, .int td, .int fu, .int fp, .int at_, .int plc, .int tok, .int num, .long wrd, .int tx0, .int cls, .int wri, .int cam, .ref pI, .int pid, .int ope, .int isw, .int so0, .int onc, .ref nm, .ref vL, .ref tR, .int spp, .int eat, .int ste, .ref rW, .ref sP, .ref oT, .ref bS, .ref aS, .ref aO, .ref cS, .ref wY])), (aA, .inl (cI, 862, .inl g6))]) H := hP
    have hD : va_D A ([(q, .inr (12, [.ref aA, .ref aI, .ref xT, .ref tP_, .int td, .int fu, .int fp, .int at_, .int plc, .int tok, .int num, .long wrd, .int tx0, .int cls, .int wri, .int cam, .ref pI, .int pid, .int ope, .int isw, .int so0, .int onc, .ref nm, .ref vL, .ref tR, .int spp, .int eat, .int ste, .ref rW, .ref sP, .ref oT, .ref bS, .ref aS, .ref aO, .ref cS, .ref wY])), (aA, .inl (cI, 862, .inl g6))]) := hD
    refine lv_aload_n hx hb dX12_start_17 rfl (lv_at hl 0 rfl) ?_
    refine z_get Z i_X12 hP 0 rfl rfl 0 (by decide) bw_1019 rfl dX12_start_18 ?_
    refine lv_bipush (v := 13) hx hb dX12_start_21 (by decide) ?_
    refine lv_iconst (v := 0) hx hb dX12_start_23 (by decide) ?_
    refine z_iast Z hP hD hS 1 0 rfl rfl (vin (by decide)) dX12_start_24 (fun H locs hP hD hS => ?_)
    have hrg7 := AK.st (x := 13) (v := 0) hrg6 (by first | with_reducible assumption | ((try simp only [zlt, zle, zeq, zl_0, zl_1, zl_2, zl_3, zl_4, zl_5, zl_6, zl_7, zl_8, zl_9, zl_10, zl_11, zl_12, zl_13, zl_14, zl_15, zl_16, zl_17, zl_18, zl_19, zl_20, zl_21, zl_22, zl_23, zl_24, zl_25, zl_26, zl_27, zl_28, zl_29, zl_30, zl_31, zl_32, zl_33, zl_34, zl_35, zl_36, zl_37, zl_38, zl_39, zl_40, zl_41, zl_42, zl_43, zl_44, zl_45, zl_46, zl_47, zl_48, zl_49, zl_50, zl_51, zl_52, zl_53, zl_54, zl_55, zl_56, zl_57, zl_58, zl_59, zl_60, zl_61, zl_62, zl_63, zl_64, zl_65, zl_82, zl_99, zl_100, zl_160, zl_299, zl_300, zl_301, zl_382, zl_398, zl_399, zl_464, zl_680, zl_862, zl_999, zl_1000, zl_9999, zl_10000, zl_1000000, zl_m1, zl_m2, zl_m3, zl_m8, zl_87, zl_88] at hi_td hi_spp hk_fa c4 c5 ⊢); omega)) (by unfold RAi; (try simp only [zlt, zle, zeq, zl_0, zl_1, zl_2, zl_3, zl_4, zl_5, zl_6, zl_7, zl_8, zl_9, zl_10, zl_11, zl_12, zl_13, zl_14, zl_15, zl_16, zl_17, zl_18, zl_19, zl_20, zl_21, zl_22, zl_23, zl_24, zl_25, zl_26, zl_27, zl_28, zl_29, zl_30, zl_31, zl_32, zl_33, zl_34, zl_35, zl_36, zl_37, zl_38, zl_39, zl_40, zl_41, zl_42, zl_43, zl_44, zl_45, zl_46, zl_47, zl_48, zl_49, zl_50, zl_51, zl_52, zl_53, zl_54, zl_55, zl_56, zl_57, zl_58, zl_59, zl_60, zl_61, zl_62, zl_63, zl_64, zl_65, zl_82, zl_99, zl_100, zl_160, zl_299, zl_300, zl_301, zl_382, zl_398, zl_399, zl_464, zl_680, zl_862, zl_999, zl_1000, zl_9999, zl_10000, zl_1000000, zl_m1, zl_m2, zl_m3, zl_m8, zl_87, zl_88] at hi_td hi_spp hk_fa c4 c5 ⊢); omega)
    generalize upd g6 (13 : Int32).toNatClampNeg 0 = g7 at hP hD hrg7
    have hP : va_P D vwCl ([(q, .inr (12, [.ref aA, .ref aI, .ref xT, .ref tP_, .int td, .int fu, .int fp, .int at_, .int plc, .int tok, .int num, .long wrd, .int tx0, .int cls, .int wri, .int cam, .ref pI, .int pid, .int ope, .int isw, .int so0, .int onc, .ref nm, .ref vL, .ref tR, .int spp, .int eat, .int ste, .ref rW, .ref sP, .ref oT, .ref bS, .ref aS, .ref aO, .ref cS, .ref wY])), (aA, .inl (cI, 862, .inl g7))]) H := hP
    have hD : va_D A ([(q, .inr (12, [.ref aA, .ref aI, .ref xT, .ref tP_, .int td, .int fu, .int fp, .int at_, .int plc, .int tok, .int num, .long wrd, .int tx0, .int cls, .int wri, .int cam, .ref pI, .int pid, .int ope, .int isw, .int so0, .int onc, .ref nm, .ref vL, .ref tR, .int spp, .int eat, .int ste, .ref rW, .ref sP, .ref oT, .ref bS, .ref aS, .ref aO, .ref cS, .ref wY])), (aA, .inl (cI, 862, .inl g7))]) := hD
    refine lv_aload_n hx hb dX12_start_25 rfl (lv_at hl 0 rfl) ?_
    refine z_get Z i_X12 hP 0 rfl rfl 0 (by decide) bw_1019 rfl dX12_start_26 ?_
    refine lv_bipush (v := 14) hx hb dX12_start_29 (by decide) ?_
    refine lv_iconst (v := 0) hx hb dX12_start_31 (by decide) ?_
    refine z_iast Z hP hD hS 1 0 rfl rfl (vin (by decide)) dX12_start_32 (fun H locs hP hD hS => ?_)
    have hrg8 := AK.st (x := 14) (v := 0) hrg7 (by first | with_reducible assumption | ((try simp only [zlt, zle, zeq, zl_0, zl_1, zl_2, zl_3, zl_4, zl_5, zl_6, zl_7, zl_8, zl_9, zl_10, zl_11, zl_12, zl_13, zl_14, zl_15, zl_16, zl_17, zl_18, zl_19, zl_20, zl_21, zl_22, zl_23, zl_24, zl_25, zl_26, zl_27, zl_28, zl_29, zl_30, zl_31, zl_32, zl_33, zl_34, zl_35, zl_36, zl_37, zl_38, zl_39, zl_40, zl_41, zl_42, zl_43, zl_44, zl_45, zl_46, zl_47, zl_48, zl_49, zl_50, zl_51, zl_52, zl_53, zl_54, zl_55, zl_56, zl_57, zl_58, zl_59, zl_60, zl_61, zl_62, zl_63, zl_64, zl_65, zl_82, zl_99, zl_100, zl_160, zl_299, zl_300, zl_301, zl_382, zl_398, zl_399, zl_464, zl_680, zl_862, zl_999, zl_1000, zl_9999, zl_10000, zl_1000000, zl_m1, zl_m2, zl_m3, zl_m8, zl_87, zl_88] at hi_td hi_spp hk_fa c4 c5 ⊢); omega)) (by unfold RAi; (try simp only [zlt, zle, zeq, zl_0, zl_1, zl_2, zl_3, zl_4, zl_5, zl_6, zl_7, zl_8, zl_9, zl_10, zl_11, zl_12, zl_13, zl_14, zl_15, zl_16, zl_17, zl_18, zl_19, zl_20, zl_21, zl_22, zl_23, zl_24, zl_25, zl_26, zl_27, zl_28, zl_29, zl_30, zl_31, zl_32, zl_33, zl_34, zl_35, zl_36, zl_37, zl_38, zl_39, zl_40, zl_41, zl_42, zl_43, zl_44, zl_45, zl_46, zl_47, zl_48, zl_49, zl_50, zl_51, zl_52, zl_53, zl_54, zl_55, zl_56, zl_57, zl_58, zl_59, zl_60, zl_61, zl_62, zl_63, zl_64, zl_65, zl_82, zl_99, zl_100, zl_160, zl_299, zl_300, zl_301, zl_382, zl_398, zl_399, zl_464, zl_680, zl_862, zl_999, zl_1000, zl_9999, zl_10000, zl_1000000, zl_m1, zl_m2, zl_m3, zl_m8, zl_87, zl_88] at hi_td hi_spp hk_fa c4 c5 ⊢); omega)
    generalize upd g7 (14 : Int32).toNatClampNeg 0 = g8 at hP hD hrg8
    have hP : va_P D vwCl ([(q, .inr (12, [.ref aA, .ref aI, .ref xT, .ref tP_, .int td, .int fu, .int fp, .int at_, .int plc, .int tok, .int num, .long wrd, .int tx0, .int cls, .int wri, .int cam, .ref pI, .int pid, .int ope, .int isw, .int so0, .int onc, .ref nm, .ref vL, .ref tR, .int spp, .int eat, .int ste, .ref rW, .ref sP, .ref oT, .ref bS, .ref aS, .ref aO, .ref cS, .ref wY])), (aA, .inl (cI, 862, .inl g8))]) H := hP
    have hD : va_D A ([(q, .inr (12, [.ref aA, .ref aI, .ref xT, .ref tP_, .int td, .int fu, .int fp, .int at_, .int plc, .int tok, .int num, .long wrd, .int tx0, .int cls, .int wri, .int cam, .ref pI, .int pid, .int ope, .int isw, .int so0, .int onc, .ref nm, .ref vL, .ref tR, .int spp, .int eat, .int ste, .ref rW, .ref sP, .ref oT, .ref bS, .ref aS, .ref aO, .ref cS, .ref wY])), (aA, .inl (cI, 862, .inl g8))]) := hD
    refine lv_aload_n hx hb dX12_start_33 rfl (lv_at hl 0 rfl) ?_
    refine z_get Z i_X12 hP 0 rfl rfl 0 (by decide) bw_1019 rfl dX12_start_34 ?_
    refine lv_bipush (v := 8) hx hb dX12_start_37 (by decide) ?_
    refine lv_iconst (v := 0) hx hb dX12_start_39 (by decide) ?_
    refine z_iast Z hP hD hS 1 0 rfl rfl (vin (by decide)) dX12_start_40 (fun H locs hP hD hS => ?_)
    have hrg9 := AK.st (x := 8) (v := 0) hrg8 (by first | with_reducible assumption | ((try simp only [zlt, zle, zeq, zl_0, zl_1, zl_2, zl_3, zl_4, zl_5, zl_6, zl_7, zl_8, zl_9, zl_10, zl_11, zl_12, zl_13, zl_14, zl_15, zl_16, zl_17, zl_18, zl_19, zl_20, zl_21, zl_22, zl_23, zl_24, zl_25, zl_26, zl_27, zl_28, zl_29, zl_30, zl_31, zl_32, zl_33, zl_34, zl_35, zl_36, zl_37, zl_38, zl_39, zl_40, zl_41, zl_42, zl_43, zl_44, zl_45, zl_46, zl_47, zl_48, zl_49, zl_50, zl_51, zl_52, zl_53, zl_54, zl_55, zl_56, zl_57, zl_58, zl_59, zl_60, zl_61, zl_62, zl_63, zl_64, zl_65, zl_82, zl_99, zl_100, zl_160, zl_299, zl_300, zl_301, zl_382, zl_398, zl_399, zl_464, zl_680, zl_862, zl_999, zl_1000, zl_9999, zl_10000, zl_1000000, zl_m1, zl_m2, zl_m3, zl_m8, zl_87, zl_88] at hi_td hi_spp hk_fa c4 c5 ⊢); omega)) (by unfold RAi; (try simp only [zlt, zle, zeq, zl_0, zl_1, zl_2, zl_3, zl_4, zl_5, zl_6, zl_7, zl_8, zl_9, zl_10, zl_11, zl_12, zl_13, zl_14, zl_15, zl_16, zl_17, zl_18, zl_19, zl_20, zl_21, zl_22, zl_23, zl_24, zl_25, zl_26, zl_27, zl_28, zl_29, zl_30, zl_31, zl_32, zl_33, zl_34, zl_35, zl_36, zl_37, zl_38, zl_39, zl_40, zl_41, zl_42, zl_43, zl_44, zl_45, zl_46, zl_47, zl_48, zl_49, zl_50, zl_51, zl_52, zl_53, zl_54, zl_55, zl_56, zl_57, zl_58, zl_59, zl_60, zl_61, zl_62, zl_63, zl_64, zl_65, zl_82, zl_99, zl_100, zl_160, zl_299, zl_300, zl_301, zl_382, zl_398, zl_399, zl_464, zl_680, zl_862, zl_999, zl_1000, zl_9999, zl_10000, zl_1000000, zl_m1, zl_m2, zl_m3, zl_m8, zl_87, zl_88] at hi_td hi_spp hk_fa c4 c5 ⊢); omega)
    generalize upd g8 (8 : Int32).toNatClampNeg 0 = g9 at hP hD hrg9
    have hP : va_P D vwCl ([(q, .inr (12, [.ref aA, .ref aI, .ref xT, .ref tP_, .int td, .int fu, .int fp, .int at_, .int plc, .int tok, .int num, .long wrd, .int tx0, .int cls, .int wri, .int cam, .ref pI, .int pid, .int ope, .int isw, .int so0, .int onc, .ref nm, .ref vL, .ref tR, .int spp, .int eat, .int ste, .ref rW, .ref sP, .ref oT, .ref bS, .ref aS, .ref aO, .ref cS, .ref wY])), (aA, .inl (cI, 862, .inl g9))]) H := hP
    have hD : va_D A ([(q, .inr (12, [.ref aA, .ref aI, .ref xT, .ref tP_, .int td, .int fu, .int fp, .int at_, .int plc, .int tok, .int num, .long wrd, .int tx0, .int cls, .int wri, .int cam, .ref pI, .int pid, .int ope, .int isw, .int so0, .int onc, .ref nm, .ref vL, .ref tR, .int spp, .int eat, .int ste, .ref rW, .ref sP, .ref oT, .ref bS, .ref aS, .ref aO, .ref cS, .ref wY])), (aA, .inl (cI, 862, .inl g9))]) := hD
    refine lv_iconst (v := 1) hx hb dX12_start_41 (by decide) ?_
    exact z_ret Z rfl hP hD hS (⟨g9, (if_pos (by first | with_reducible assumption | ((try simp only [zlt, zle, zeq, zl_0, zl_1, zl_2, zl_3, zl_4, zl_5, zl_6, zl_7, zl_8, zl_9, zl_10, zl_11, zl_12, zl_13, zl_14, zl_15, zl_16, zl_17, zl_18, zl_19, zl_20, zl_21, zl_22, zl_23, zl_24, zl_25, zl_26, zl_27, zl_28, zl_29, zl_30, zl_31, zl_32, zl_33, zl_34, zl_35, zl_36, zl_37, zl_38, zl_39, zl_40, zl_41, zl_42, zl_43, zl_44, zl_45, zl_46, zl_47, zl_48, zl_49, zl_50, zl_51, zl_52, zl_53, zl_54, zl_55, zl_56, zl_57, zl_58, zl_59, zl_60, zl_61, zl_62, zl_63, zl_64, zl_65, zl_82, zl_99, zl_100, zl_160, zl_299, zl_300, zl_301, zl_382, zl_398, zl_399, zl_464, zl_680, zl_862, zl_999, zl_1000, zl_9999, zl_10000, zl_1000000, zl_m1, zl_m2, zl_m3, zl_m8, zl_87, zl_88] at hi_td hi_spp hk_fa c4 c5 ⊢); omega))).symm, rfl, hrg9⟩) dX12_start_42 (Nat.le_of_ble_eq_true rfl) (Nat.le_of_ble_eq_true rfl)
  · obtain rfl : r2 = 0 := by rw [hrh3, if_neg c4]
    refine lv_if_ne (tgt := 9) hx hb dX12_start_4 (by decide) (fun h => absurd (by decide) h) (fun c10 => ?_)
    refine lv_iconst (v := 0) hx hb dX12_start_7 (by decide) ?_
    exact z_ret Z rfl hP hD hS (⟨fa, (if_neg (by first | with_reducible assumption | ((try simp only [zlt, zle, zeq, zl_0, zl_1, zl_2, zl_3, zl_4, zl_5, zl_6, zl_7, zl_8, zl_9, zl_10, zl_11, zl_12, zl_13, zl_14, zl_15, zl_16, zl_17, zl_18, zl_19, zl_20, zl_21, zl_22, zl_23, zl_24, zl_25, zl_26, zl_27, zl_28, zl_29, zl_30, zl_31, zl_32, zl_33, zl_34, zl_35, zl_36, zl_37, zl_38, zl_39, zl_40, zl_41, zl_42, zl_43, zl_44, zl_45, zl_46, zl_47, zl_48, zl_49, zl_50, zl_51, zl_52, zl_53, zl_54, zl_55, zl_56, zl_57, zl_58, zl_59, zl_60, zl_61, zl_62, zl_63, zl_64, zl_65, zl_82, zl_99, zl_100, zl_160, zl_299, zl_300, zl_301, zl_382, zl_398, zl_399, zl_464, zl_680, zl_862, zl_999, zl_1000, zl_9999, zl_10000, zl_1000000, zl_m1, zl_m2, zl_m3, zl_m8, zl_87, zl_88] at hi_td hi_spp hk_fa c4 c10 ⊢); omega))).symm, rfl, hr_fa⟩) dX12_start_8 (Nat.le_of_ble_eq_true rfl) (Nat.le_of_ble_eq_true rfl)
set_option maxHeartbeats 4000000 in
set_option maxRecDepth 100000 in
theorem c_X12_seen (l : Launch) (D : va_G) (cI cM cT cJ cZ : ClassId) (q : Nat) (p0 : Int32) (aA : Nat) (aI : Nat) (xT : Nat) (tP_ : Nat) (td : Int32) (fu : Int32) (fp : Int32) (at_ : Int32) (plc : Int32) (tok : Int32) (num : Int32) (wrd : Int64) (tx0 : Int32) (cls : Int32) (wri : Int32) (cam : Int32) (pI : Nat) (pid : Int32) (ope : Int32) (isw : Int32) (so0 : Int32) (onc : Int32) (nm : Nat) (vL : Nat) (tR : Nat) (spp : Int32) (eat : Int32) (ste : Int32) (rW : Nat) (sP : Nat) (oT : Nat) (bS : Nat) (aS : Nat) (aO : Nat) (cS : Nat) (wY : Nat) (fa : Nat → Int32) (kc0 : Int) (kc1 : Int) (kc6 : Int) (kc9 : Int) (kc10 : Int) (hi_td : 0 ≤ td.toInt ∧ td.toInt ≤ 300) (hi_spp : 0 ≤ spp.toInt ∧ spp.toInt ≤ 299) (hr_fa : AK kc0 kc1 kc6 kc9 kc10 fa) : Ci l D (ty3 cI cM cT cJ cZ) yX12_seen cX12_seen 2 (some .int) 2 0 0 [.ref q, .int p0] ([(q, .inr (12, [.ref aA, .ref aI, .ref xT, .ref tP_, .int td, .int fu, .int fp, .int at_, .int plc, .int tok, .int num, .long wrd, .int tx0, .int cls, .int wri, .int cam, .ref pI, .int pid, .int ope, .int isw, .int so0, .int onc, .ref nm, .ref vL, .ref tR, .int spp, .int eat, .int ste, .ref rW, .ref sP, .ref oT, .ref bS, .ref aS, .ref aO, .ref cS, .ref wY])), (aA, .inl (cI, 862, .inl fa))]) (fun r u => ∃ (fa_n : Nat → Int32) (kc9_n : Int), u = [(q, .inr (12, [.ref aA, .ref aI, .ref xT, .ref tP_, .int td, .int fu, .int fp, .int at_, .int plc, .int tok, .int num, .long wrd, .int tx0, .int cls, .int wri, .int cam, .ref pI, .int pid, .int ope, .int isw, .int so0, .int onc, .ref nm, .ref vL, .ref tR, .int spp, .int eat, .int ste, .ref rW, .ref sP, .ref oT, .ref bS, .ref aS, .ref aO, .ref cS, .ref wY])), (aA, .inl (cI, 862, .inl fa_n))] ∧ AK kc0 kc1 kc6 kc9_n kc10 fa_n ∧ ((p0.toInt = -1 ∧ r.toInt = 0 ∧ kc9_n = 0) ∨ (p0.toInt ≠ -1 ∧ ((((0 ≤ p0.toInt ∧ p0.toInt ≤ 299) ∧ kc9 < 6) ∧ r.toInt = kc9 + 1 ∧ kc9_n = kc9 + 1) ∨ (¬ ((0 ≤ p0.toInt ∧ p0.toInt ≤ 299) ∧ kc9 < 6) ∧ r.toInt = -2 ∧ kc9_n = kc9))))) := by
  refine Ci.of (by decide +kernel) (Nat.le_of_ble_eq_true rfl) ?_
  intro p e s m below meth c A ls Z hin hP hD hl
  have hx := Z.1
  have hb := Z.2.1
  have hS : va_S A s.heap s.heap [] := va_S.rf
  have hl : lv_has ls 2 [(0, .ref q), (1, .int p0)] := hl
  skip
  have hk_fa := AK.rng hr_fa
  refine lv_iload_n hx hb dX12_seen_0 rfl (lv_at hl 1 rfl) ?_
  refine lv_iconst (v := (-1)) hx hb dX12_seen_1 (by decide) ?_
  refine lv_icmp_ne (tgt := 15) hx hb dX12_seen_2 (by decide) (fun c1 => ?_) (fun c1 => ?_)
  · refine lv_iload_n hx hb dX12_seen_15 rfl (lv_at hl 1 rfl) ?_
    have hPc := hP.sub2 (wc := []) [] rfl
    have hDc := hD.sub (ws' := []) [] (by decide) rfl
    refine raw_Si (nA := 1) (As := [.int p0]) (rest := []) Z hl.1 (c_X12_isPlace l D cI cM cT cJ cZ p0) (bw_S bw_1132 bw_1133 bw_92 bw_1134) ⟨by decide +kernel, by decide +kernel, by decide +kernel⟩ rfl ⟨Nat.le_of_ble_eq_true rfl, Nat.le_of_ble_eq_true rfl⟩ hPc hDc hS rfl (Nat.le_of_ble_eq_true rfl) dX12_seen_16 ⟨Nat.le_of_ble_eq_true rfl, Nat.le_of_ble_eq_true rfl⟩ (fun r3 u2 H1 locs1 h4 hku2 hP1 hD1 hS1 => ?_)
    obtain ⟨hrh4, rfl⟩ := h4
    obtain ⟨hP, hD⟩ := z_join (wr := [(q, .inr (12, [.ref aA, .ref aI, .ref xT, .ref tP_, .int td, .int fu, .int fp, .int at_, .int plc, .int tok, .int num, .long wrd, .int tx0, .int cls, .int wri, .int cam, .ref pI, .int pid, .int ope, .int isw, .int so0, .int onc, .ref nm, .ref vL, .ref tR, .int spp, .int eat, .int ste, .ref rW, .ref sP, .ref oT, .ref bS, .ref aS, .ref aO, .ref cS, .ref wY])), (aA, .inl (cI, 862, .inl fa))]) Z hS hP hD [] [0, 1] rfl (by decide) rfl (by decide) (by decide) hku2 hP1 hD1
    have hS := hS1
    clear hS1
    generalize H1 = H at hP hS ⊢
    generalize locs1 = locs at hS ⊢
    have hP : va_P D vwCl ([(q, .inr (12, [.ref aA, .ref aI, .ref xT, .ref tP_, .int td, .int fu, .int fp, .int at_, .int plc, .int tok, .int num, .long wrd, .int tx0, .int cls, .int wri, .int cam, .ref pI, .int pid, .int ope, .int isw, .int so0, .int onc, .ref nm, .ref vL, .ref tR, .int spp, .int eat, .int ste, .ref rW, .ref sP, .ref oT, .ref bS, .ref aS, .ref aO, .ref cS, .ref wY])), (aA, .inl (cI, 862, .inl fa))]) H := hP
    have hD : va_D A ([(q, .inr (12, [.ref aA, .ref aI, .ref xT, .ref tP_, .int td, .int fu, .int fp, .int at_, .int plc, .int tok, .int num, .long wrd, .int tx0, .int cls, .int wri, .int cam, .ref pI, .int pid, .int ope, .int isw, .int so0, .int onc, .ref nm, .ref vL, .ref tR, .int spp, .int eat, .int ste, .ref rW, .ref sP, .ref oT, .ref bS, .ref aS, .ref aO, .ref cS, .ref wY])), (aA, .inl (cI, 862, .inl fa))]) := hD
    by_cases c5 : 0 ≤ p0 ∧ p0 ≤ 299
    · obtain rfl : r3 = 1 := by rw [hrh4, if_pos c5]
      refine lv_if_eq (tgt := 34) hx hb dX12_seen_19 (by decide) (fun h => absurd h (by decide)) (fun c6 => ?_)
      refine lv_aload_n hx hb dX12_seen_22 rfl (lv_at hl 0 rfl) ?_
      refine z_get Z i_X12 hP 0 rfl rfl 0 (by decide) bw_1019 rfl dX12_seen_23 ?_
      refine lv_bipush (v := 9) hx hb dX12_seen_26 (by decide) ?_
      refine z_iald Z hP 1 0 rfl rfl (vin (by decide)) dX12_seen_28 ?_
      refine lv_topi (fun z7 ez7 => ?_)
      have hz7 : z7.toInt = kc9 := by rw [ez7]; exact AK.k9 hr_fa
      refine lv_bipush (v := 6) hx hb dX12_seen_29 (by decide) ?_
      refine lv_icmp_ne (tgt := 37) hx hb dX12_seen_31 (by decide) (fun c8 => ?_) (fun c8 => ?_)
      · refine lv_aload_n hx hb dX12_seen_37 rfl (lv_at hl 0 rfl) ?_
        refine z_get Z i_X12 hP 0 rfl rfl 0 (by decide) bw_1019 rfl dX12_seen_38 ?_
        refine lv_bipush (v := 46) hx hb dX12_seen_41 (by decide) ?_
        refine lv_aload_n hx hb dX12_seen_43 rfl (lv_at hl 0 rfl) ?_
        refine z_get Z i_X12 hP 0 rfl rfl 0 (by decide) bw_1019 rfl dX12_seen_44 ?_
        refine lv_bipush (v := 9) hx hb dX12_seen_47 (by decide) ?_
        refine z_iald Z hP 1 0 rfl rfl (vin (by decide)) dX12_seen_49 ?_
        refine lv_topi (fun z9 ez9 => ?_)
        have hz9 : z9.toInt = kc9 := by rw [ez9]; exact AK.k9 hr_fa
        refine lv_iadd hx hb dX12_seen_50 ?_
        refine lv_topi (fun z10 ez10 => ?_)
        have hz10 : z10.toInt = 46 + z9.toInt := by rw [ez10]; exact zaddg (by first | with_reducible assumption | ((try simp only [zlt, zle, zeq, zl_0, zl_1, zl_2, zl_3, zl_4, zl_5, zl_6, zl_7, zl_8, zl_9, zl_10, zl_11, zl_12, zl_13, zl_14, zl_15, zl_16, zl_17, zl_18, zl_19, zl_20, zl_21, zl_22, zl_23, zl_24, zl_25, zl_26, zl_27, zl_28, zl_29, zl_30, zl_31, zl_32, zl_33, zl_34, zl_35, zl_36, zl_37, zl_38, zl_39, zl_40, zl_41, zl_42, zl_43, zl_44, zl_45, zl_46, zl_47, zl_48, zl_49, zl_50, zl_51, zl_52, zl_53, zl_54, zl_55, zl_56, zl_57, zl_58, zl_59, zl_60, zl_61, zl_62, zl_63, zl_64, zl_65, zl_82, zl_99, zl_100, zl_160, zl_299, zl_300, zl_301, zl_382, zl_398, zl_399, zl_464, zl_680, zl_862, zl_999, zl_1000, zl_9999, zl_10000, zl_1000000, zl_m1, zl_m2, zl_m3, zl_m8, zl_87, zl_88] at hi_td hi_spp hk_fa c1 c5 c6 hz7 c8 hz9 ⊢); omega)) (by first | with_reducible assumption | ((try simp only [zlt, zle, zeq, zl_0, zl_1, zl_2, zl_3, zl_4, zl_5, zl_6, zl_7, zl_8, zl_9, zl_10, zl_11, zl_12, zl_13, zl_14, zl_15, zl_16, zl_17, zl_18, zl_19, zl_20, zl_21, zl_22, zl_23, zl_24, zl_25, zl_26, zl_27, zl_28, zl_29, zl_30, zl_31, zl_32, zl_33, zl_34, zl_35, zl_36, zl_37, zl_38, zl_39, zl_40, zl_41, zl_42, zl_43, zl_44, zl_45, zl_46, zl_47, zl_48, zl_49, zl_50, zl_51, zl_52, zl_53, zl_54, zl_55, zl_56, zl_57, zl_58, zl_59, zl_60, zl_61, zl_62, zl_63, zl_64, zl_65, zl_82, zl_99, zl_100, zl_160, zl_299, zl_300, zl_301, zl_382, zl_398, zl_399, zl_464, zl_680, zl_862, zl_999, zl_1000, zl_9999, zl_10000, zl_1000000, zl_m1, zl_m2, zl_m3, zl_m8, zl_87, zl_88] at hi_td hi_spp hk_fa c1 c5 c6 hz7 c8 hz9 ⊢); omega))
        refine lv_iload_n hx hb dX12_seen_51 rfl (lv_at hl 1 rfl) ?_
        refine z_iast Z hP hD hS 1 0 rfl rfl (vp_in_iff.mpr (by first | with_reducible assumption | ((try simp only [zlt, zle, zeq, zl_0, zl_1, zl_2, zl_3, zl_4, zl_5, zl_6, zl_7, zl_8, zl_9, zl_10, zl_11, zl_12, zl_13, zl_14, zl_15, zl_16, zl_17, zl_18, zl_19, zl_20, zl_21, zl_22, zl_23, zl_24, zl_25, zl_26, zl_27, zl_28, zl_29, zl_30, zl_31, zl_32, zl_33, zl_34, zl_35, zl_36, zl_37, zl_38, zl_39, zl_40, zl_41, zl_42, zl_43, zl_44, zl_45, zl_46, zl_47, zl_48, zl_49, zl_50, zl_51, zl_52, zl_53, zl_54, zl_55, zl_56, zl_57, zl_58, zl_59, zl_60, zl_61, zl_62, zl_63, zl_64, zl_65, zl_82, zl_99, zl_100, zl_160, zl_299, zl_300, zl_301, zl_382, zl_398, zl_399, zl_464, zl_680, zl_862, zl_999, zl_1000, zl_9999, zl_10000, zl_1000000, zl_m1, zl_m2, zl_m3, zl_m8, zl_87, zl_88] at hi_td hi_spp hk_fa c1 c5 c6 hz7 c8 hz9 hz10 ⊢); omega))) dX12_seen_52 (fun H locs hP hD hS => ?_)
        have hrg11 := AK.st (x := z10) (v := p0) hr_fa (by first | with_reducible assumption | ((try simp only [zlt, zle, zeq, zl_0, zl_1, zl_2, zl_3, zl_4, zl_5, zl_6, zl_7, zl_8, zl_9, zl_10, zl_11, zl_12, zl_13, zl_14, zl_15, zl_16, zl_17, zl_18, zl_19, zl_20, zl_21, zl_22, zl_23, zl_24, zl_25, zl_26, zl_27, zl_28, zl_29, zl_30, zl_31, zl_32, zl_33, zl_34, zl_35, zl_36, zl_37, zl_38, zl_39, zl_40, zl_41, zl_42, zl_43, zl_44, zl_45, zl_46, zl_47, zl_48, zl_49, zl_50, zl_51, zl_52, zl_53, zl_54, zl_55, zl_56, zl_57, zl_58, zl_59, zl_60, zl_61, zl_62, zl_63, zl_64, zl_65, zl_82, zl_99, zl_100, zl_160, zl_299, zl_300, zl_301, zl_382, zl_398, zl_399, zl_464, zl_680, zl_862, zl_999, zl_1000, zl_9999, zl_10000, zl_1000000, zl_m1, zl_m2, zl_m3, zl_m8, zl_87, zl_88] at hi_td hi_spp hk_fa c1 c5 c6 hz7 c8 hz9 hz10 ⊢); omega)) (by unfold RAi; (try simp only [zlt, zle, zeq, zl_0, zl_1, zl_2, zl_3, zl_4, zl_5, zl_6, zl_7, zl_8, zl_9, zl_10, zl_11, zl_12, zl_13, zl_14, zl_15, zl_16, zl_17, zl_18, zl_19, zl_20, zl_21, zl_22, zl_23, zl_24, zl_25, zl_26, zl_27, zl_28, zl_29, zl_30, zl_31, zl_32, zl_33, zl_34, zl_35, zl_36, zl_37, zl_38, zl_39, zl_40, zl_41, zl_42, zl_43, zl_44, zl_45, zl_46, zl_47, zl_48, zl_49, zl_50, zl_51, zl_52, zl_53, zl_54, zl_55, zl_56, zl_57, zl_58, zl_59, zl_60, zl_61, zl_62, zl_63, zl_64, zl_65, zl_82, zl_99, zl_100, zl_160, zl_299, zl_300, zl_301, zl_382, zl_398, zl_399, zl_464, zl_680, zl_862, zl_999, zl_1000, zl_9999, zl_10000, zl_1000000, zl_m1, zl_m2, zl_m3, zl_m8, zl_87, zl_88] at hi_td hi_spp hk_fa c1 c5 c6 hz7 c8 hz9 hz10 ⊢); omega)
        generalize upd fa (z10 : Int32).toNatClampNeg p0 = g11 at hP hD hrg11
        have hP : va_P D vwCl ([(q, .inr (12, [.ref aA, .ref aI, .ref xT, .ref tP_, .int td, .int fu, .int fp, .int at_, .int plc, .int tok, .int num, .long wrd, .int tx0, .int cls, .int wri, .int cam, .ref pI, .int pid, .int ope, .int isw, .int so0, .int onc, .ref nm, .ref vL, .ref tR, .int spp, .int eat, .int ste, .ref rW, .ref sP, .ref oT, .ref bS, .ref aS, .ref aO, .ref cS, .ref wY])), (aA, .inl (cI, 862, .inl g11))]) H := hP
        have hD : va_D A ([(q, .inr (12, [.ref aA, .ref aI, .ref xT, .ref tP_, .int td, .int fu, .int fp, .int at_, .int plc, .int tok, .int num, .long wrd, .int tx0, .int cls, .int wri, .int cam, .ref pI, .int pid, .int ope, .int isw, .int so0, .int onc, .ref nm, .ref vL, .ref tR, .int spp, .int eat, .int ste, .ref rW, .ref sP, .ref oT, .ref bS, .ref aS, .ref aO, .ref cS, .ref wY])), (aA, .inl (cI, 862, .inl g11))]) := hD
        refine lv_aload_n hx hb dX12_seen_53 rfl (lv_at hl 0 rfl) ?_
        refine z_get Z i_X12 hP 0 rfl rfl 0 (by decide) bw_1019 rfl dX12_seen_54 ?_
        refine lv_bipush (v := 9) hx hb dX12_seen_57 (by decide) ?_
        refine lv_dup2_11 hx hb dX12_seen_59 rfl rfl ?_
        refine z_iald Z hP 1 0 rfl rfl (vin (by decide)) dX12_seen_60 ?_
        refine lv_topi (fun z12 ez12 => ?_)
        have hz12 : z12.toInt = kc9 := by rw [ez12]; exact AK.k9 hrg11
        refine lv_iconst (v := 1) hx hb dX12_seen_61 (by decide) ?_
        refine lv_iadd hx hb dX12_seen_62 ?_
        refine lv_topi (fun z13 ez13 => ?_)
        have hz13 : z13.toInt = z12.toInt + 1 := by rw [ez13]; exact zaddg (by first | with_reducible assumption | ((try simp only [zlt, zle, zeq, zl_0, zl_1, zl_2, zl_3, zl_4, zl_5, zl_6, zl_7, zl_8, zl_9, zl_10, zl_11, zl_12, zl_13, zl_14, zl_15, zl_16, zl_17, zl_18, zl_19, zl_20, zl_21, zl_22, zl_23, zl_24, zl_25, zl_26, zl_27, zl_28, zl_29, zl_30, zl_31, zl_32, zl_33, zl_34, zl_35, zl_36, zl_37, zl_38, zl_39, zl_40, zl_41, zl_42, zl_43, zl_44, zl_45, zl_46, zl_47, zl_48, zl_49, zl_50, zl_51, zl_52, zl_53, zl_54, zl_55, zl_56, zl_57, zl_58, zl_59, zl_60, zl_61, zl_62, zl_63, zl_64, zl_65, zl_82, zl_99, zl_100, zl_160, zl_299, zl_300, zl_301, zl_382, zl_398, zl_399, zl_464, zl_680, zl_862, zl_999, zl_1000, zl_9999, zl_10000, zl_1000000, zl_m1, zl_m2, zl_m3, zl_m8, zl_87, zl_88] at hi_td hi_spp hk_fa c1 c5 c6 hz7 c8 hz9 hz10 hz12 ⊢); omega)) (by first | with_reducible assumption | ((try simp only [zlt, zle, zeq, zl_0, zl_1, zl_2, zl_3, zl_4, zl_5, zl_6, zl_7, zl_8, zl_9, zl_10, zl_11, zl_12, zl_13, zl_14, zl_15, zl_16, zl_17, zl_18, zl_19, zl_20, zl_21, zl_22, zl_23, zl_24, zl_25, zl_26, zl_27, zl_28, zl_29, zl_30, zl_31, zl_32, zl_33, zl_34, zl_35, zl_36, zl_37, zl_38, zl_39, zl_40, zl_41, zl_42, zl_43, zl_44, zl_45, zl_46, zl_47, zl_48, zl_49, zl_50, zl_51, zl_52, zl_53, zl_54, zl_55, zl_56, zl_57, zl_58, zl_59, zl_60, zl_61, zl_62, zl_63, zl_64, zl_65, zl_82, zl_99, zl_100, zl_160, zl_299, zl_300, zl_301, zl_382, zl_398, zl_399, zl_464, zl_680, zl_862, zl_999, zl_1000, zl_9999, zl_10000, zl_1000000, zl_m1, zl_m2, zl_m3, zl_m8, zl_87, zl_88] at hi_td hi_spp hk_fa c1 c5 c6 hz7 c8 hz9 hz10 hz12 ⊢); omega))
        refine z_iast Z hP hD hS 1 0 rfl rfl (vin (by decide)) dX12_seen_63 (fun H locs hP hD hS => ?_)
        have hrg14 := AK.s9 (v := z13) hrg11 (by first | with_reducible assumption | ((try simp only [zlt, zle, zeq, zl_0, zl_1, zl_2, zl_3, zl_4, zl_5, zl_6, zl_7, zl_8, zl_9, zl_10, zl_11, zl_12, zl_13, zl_14, zl_15, zl_16, zl_17, zl_18, zl_19, zl_20, zl_21, zl_22, zl_23, zl_24, zl_25, zl_26, zl_27, zl_28, zl_29, zl_30, zl_31, zl_32, zl_33, zl_34, zl_35, zl_36, zl_37, zl_38, zl_39, zl_40, zl_41, zl_42, zl_43, zl_44, zl_45, zl_46, zl_47, zl_48, zl_49, zl_50, zl_51, zl_52, zl_53, zl_54, zl_55, zl_56, zl_57, zl_58, zl_59, zl_60, zl_61, zl_62, zl_63, zl_64, zl_65, zl_82, zl_99, zl_100, zl_160, zl_299, zl_300, zl_301, zl_382, zl_398, zl_399, zl_464, zl_680, zl_862, zl_999, zl_1000, zl_9999, zl_10000, zl_1000000, zl_m1, zl_m2, zl_m3, zl_m8, zl_87, zl_88] at hi_td hi_spp hk_fa c1 c5 c6 hz7 c8 hz9 hz10 hz12 hz13 ⊢); omega))
        generalize upd g11 (9 : Int32).toNatClampNeg z13 = g14 at hP hD hrg14
        have hP : va_P D vwCl ([(q, .inr (12, [.ref aA, .ref aI, .ref xT, .ref tP_, .int td, .int fu, .int fp, .int at_, .int plc, .int tok, .int num, .long wrd, .int tx0, .int cls, .int wri, .int cam, .ref pI, .int pid, .int ope, .int isw, .int so0, .int onc, .ref nm, .ref vL, .ref tR, .int spp, .int eat, .int ste, .ref rW, .ref sP, .ref oT, .ref bS, .ref aS, .ref aO, .ref cS, .ref wY])), (aA, .inl (cI, 862, .inl g14))]) H := hP
        have hD : va_D A ([(q, .inr (12, [.ref aA, .ref aI, .ref xT, .ref tP_, .int td, .int fu, .int fp, .int at_, .int plc, .int tok, .int num, .long wrd, .int tx0, .int cls, .int wri, .int cam, .ref pI, .int pid, .int ope, .int isw, .int so0, .int onc, .ref nm, .ref vL, .ref tR, .int spp, .int eat, .int ste, .ref rW, .ref sP, .ref oT, .ref bS, .ref aS, .ref aO, .ref cS, .ref wY])), (aA, .inl (cI, 862, .inl g14))]) := hD
        refine lv_aload_n hx hb dX12_seen_64 rfl (lv_at hl 0 rfl) ?_
        refine z_get Z i_X12 hP 0 rfl rfl 0 (by decide) bw_1019 rfl dX12_seen_65 ?_
        refine lv_bipush (v := 9) hx hb dX12_seen_68 (by decide) ?_
        refine z_iald Z hP 1 0 rfl rfl (vin (by decide)) dX12_seen_70 ?_
        refine lv_topi (fun z15 ez15 => ?_)
        have hz15 : z15.toInt = (z13 : Int32).toInt := by rw [ez15]; exact AK.k9 hrg14
        exact z_ret Z rfl hP hD hS (⟨g14, ((z13 : Int32).toInt), rfl, hrg14, (by (try simp only [zlt, zle, zeq, zl_0, zl_1, zl_2, zl_3, zl_4, zl_5, zl_6, zl_7, zl_8, zl_9, zl_10, zl_11, zl_12, zl_13, zl_14, zl_15, zl_16, zl_17, zl_18, zl_19, zl_20, zl_21, zl_22, zl_23, zl_24, zl_25, zl_26, zl_27, zl_28, zl_29, zl_30, zl_31, zl_32, zl_33, zl_34, zl_35, zl_36, zl_37, zl_38, zl_39, zl_40, zl_41, zl_42, zl_43, zl_44, zl_45, zl_46, zl_47, zl_48, zl_49, zl_50, zl_51, zl_52, zl_53, zl_54, zl_55, zl_56, zl_57, zl_58, zl_59, zl_60, zl_61, zl_62, zl_63, zl_64, zl_65, zl_82, zl_99, zl_100, zl_160, zl_299, zl_300, zl_301, zl_382, zl_398, zl_399, zl_464, zl_680, zl_862, zl_999, zl_1000, zl_9999, zl_10000, zl_1000000, zl_m1, zl_m2, zl_m3, zl_m8, zl_87, zl_88, and_true, true_and, and_false, false_and, or_false, false_or, or_true, true_or, not_true_eq_false, not_false_eq_true] at hi_td hi_spp hk_fa c1 c5 c6 hz7 c8 hz9 hz10 hz12 hz13 hz15 ⊢) <;> omega)⟩) dX12_seen_71 (Nat.le_of_ble_eq_true rfl) (Nat.le_of_ble_eq_true rfl)
      · refine lv_bipush (v := (-2)) hx hb dX12_seen_34 (by decide) ?_
        exact z_ret Z rfl hP hD hS (⟨fa, kc9, rfl, hr_fa, (by (try simp only [zlt, zle, zeq, zl_0, zl_1, zl_2, zl_3, zl_4, zl_5, zl_6, zl_7, zl_8, zl_9, zl_10, zl_11, zl_12, zl_13, zl_14, zl_15, zl_16, zl_17, zl_18, zl_19, zl_20, zl_21, zl_22, zl_23, zl_24, zl_25, zl_26, zl_27, zl_28, zl_29, zl_30, zl_31, zl_32, zl_33, zl_34, zl_35, zl_36, zl_37, zl_38, zl_39, zl_40, zl_41, zl_42, zl_43, zl_44, zl_45, zl_46, zl_47, zl_48, zl_49, zl_50, zl_51, zl_52, zl_53, zl_54, zl_55, zl_56, zl_57, zl_58, zl_59, zl_60, zl_61, zl_62, zl_63, zl_64, zl_65, zl_82, zl_99, zl_100, zl_160, zl_299, zl_300, zl_301, zl_382, zl_398, zl_399, zl_464, zl_680, zl_862, zl_999, zl_1000, zl_9999, zl_10000, zl_1000000, zl_m1, zl_m2, zl_m3, zl_m8, zl_87, zl_88, and_true, true_and, and_false, false_and, or_false, false_or, or_true, true_or, not_true_eq_false, not_false_eq_true] at hi_td hi_spp hk_fa c1 c5 c6 hz7 c8 ⊢) <;> omega)⟩) dX12_seen_36 (Nat.le_of_ble_eq_true rfl) (Nat.le_of_ble_eq_true rfl)
    · obtain rfl : r3 = 0 := by rw [hrh4, if_neg c5]
      refine lv_if_eq (tgt := 34) hx hb dX12_seen_19 (by decide) (fun c16 => ?_) (fun h => absurd (by decide) h)
      refine lv_bipush (v := (-2)) hx hb dX12_seen_34 (by decide) ?_
      exact z_ret Z rfl hP hD hS (⟨fa, kc9, rfl, hr_fa, (by (try simp only [zlt, zle, zeq, zl_0, zl_1, zl_2, zl_3, zl_4, zl_5, zl_6, zl_7, zl_8, zl_9, zl_10, zl_11, zl_12, zl_13, zl_14, zl_15, zl_16, zl_17, zl_18, zl_19, zl_20, zl_21, zl_22, zl_23, zl_24, zl_25, zl_26, zl_27, zl_28, zl_29, zl_30, zl_31, zl_32, zl_33, zl_34, zl_35, zl_36, zl_37, zl_38, zl_39, zl_40, zl_41, zl_42, zl_43, zl_44, zl_45, zl_46, zl_47, zl_48, zl_49, zl_50, zl_51, zl_52, zl_53, zl_54, zl_55, zl_56, zl_57, zl_58, zl_59, zl_60, zl_61, zl_62, zl_63, zl_64, zl_65, zl_82, zl_99, zl_100, zl_160, zl_299, zl_300, zl_301, zl_382, zl_398, zl_399, zl_464, zl_680, zl_862, zl_999, zl_1000, zl_9999, zl_10000, zl_1000000, zl_m1, zl_m2, zl_m3, zl_m8, zl_87, zl_88, and_true, true_and, and_false, false_and, or_false, false_or, or_true, true_or, not_true_eq_false, not_false_eq_true] at hi_td hi_spp hk_fa c1 c5 c16 ⊢) <;> omega)⟩) dX12_seen_36 (Nat.le_of_ble_eq_true rfl) (Nat.le_of_ble_eq_true rfl)
  · refine lv_aload_n hx hb dX12_seen_5 rfl (lv_at hl 0 rfl) ?_
    refine z_get Z i_X12 hP 0 rfl rfl 0 (by decide) bw_1019 rfl dX12_seen_6 ?_
    refine lv_bipush (v := 9) hx hb dX12_seen_9 (by decide) ?_
    refine lv_iconst (v := 0) hx hb dX12_seen_11 (by decide) ?_
    refine z_iast Z hP hD hS 1 0 rfl rfl (vin (by decide)) dX12_seen_12 (fun H locs hP hD hS => ?_)
    have hrg17 := AK.s9 (v := 0) hr_fa (by decide)
    generalize upd fa (9 : Int32).toNatClampNeg 0 = g17 at hP hD hrg17
    have hP : va_P D vwCl ([(q, .inr (12, [.ref aA, .ref aI, .ref xT, .ref tP_, .int td, .int fu, .int fp, .int at_, .int plc, .int tok, .int num, .long wrd, .int tx0, .int cls, .int wri, .int cam, .ref pI, .int pid, .int ope, .int isw, .int so0, .int onc, .ref nm, .ref vL, .ref tR, .int spp, .int eat, .int ste, .ref rW, .ref sP, .ref oT, .ref bS, .ref aS, .ref aO, .ref cS, .ref wY])), (aA, .inl (cI, 862, .inl g17))]) H := hP
    have hD : va_D A ([(q, .inr (12, [.ref aA, .ref aI, .ref xT, .ref tP_, .int td, .int fu, .int fp, .int at_, .int plc, .int tok, .int num, .long wrd, .int tx0, .int cls, .int wri, .int cam, .ref pI, .int pid, .int ope, .int isw, .int so0, .int onc, .ref nm, .ref vL, .ref tR, .int spp, .int eat, .int ste, .ref rW, .ref sP, .ref oT, .ref bS, .ref aS, .ref aO, .ref cS, .ref wY])), (aA, .inl (cI, 862, .inl g17))]) := hD
    refine lv_iconst (v := 0) hx hb dX12_seen_13 (by decide) ?_
    exact z_ret Z rfl hP hD hS (⟨g17, ((0 : Int32).toInt), rfl, hrg17, (by (try simp only [zlt, zle, zeq, zl_0, zl_1, zl_2, zl_3, zl_4, zl_5, zl_6, zl_7, zl_8, zl_9, zl_10, zl_11, zl_12, zl_13, zl_14, zl_15, zl_16, zl_17, zl_18, zl_19, zl_20, zl_21, zl_22, zl_23, zl_24, zl_25, zl_26, zl_27, zl_28, zl_29, zl_30, zl_31, zl_32, zl_33, zl_34, zl_35, zl_36, zl_37, zl_38, zl_39, zl_40, zl_41, zl_42, zl_43, zl_44, zl_45, zl_46, zl_47, zl_48, zl_49, zl_50, zl_51, zl_52, zl_53, zl_54, zl_55, zl_56, zl_57, zl_58, zl_59, zl_60, zl_61, zl_62, zl_63, zl_64, zl_65, zl_82, zl_99, zl_100, zl_160, zl_299, zl_300, zl_301, zl_382, zl_398, zl_399, zl_464, zl_680, zl_862, zl_999, zl_1000, zl_9999, zl_10000, zl_1000000, zl_m1, zl_m2, zl_m3, zl_m8, zl_87, zl_88, and_true, true_and, and_false, false_and, or_false, false_or, or_true, true_or, not_true_eq_false, not_false_eq_true] at hi_td hi_spp hk_fa c1 ⊢) <;> omega)⟩) dX12_seen_14 (Nat.le_of_ble_eq_true rfl) (Nat.le_of_ble_eq_true rfl)
set_option maxHeartbeats 4000000 in
set_option maxRecDepth 100000 in
theorem c_X12_tried (l : Launch) (D : va_G) (cI cM cT cJ cZ : ClassId) (q : Nat) (p0 : Int32) (p1 : Int32) (p2 : Int32) (aA : Nat) (aI : Nat) (xT : Nat) (tP_ : Nat) (td : Int32) (fu : Int32) (fp : Int32) (at_ : Int32) (plc : Int32) (tok : Int32) (num : Int32) (wrd : Int64) (tx0 : Int32) (cls : Int32) (wri : Int32) (cam : Int32) (pI : Nat) (pid : Int32) (ope : Int32) (isw : Int32) (so0 : Int32) (onc : Int32) (nm : Nat) (vL : Nat) (tR : Nat) (spp : Int32) (eat : Int32) (ste : Int32) (rW : Nat) (sP : Nat) (oT : Nat) (bS : Nat) (aS : Nat) (aO : Nat) (cS : Nat) (wY : Nat) (fa : Nat → Int32) (kc0 : Int) (kc1 : Int) (kc6 : Int) (kc9 : Int) (kc10 : Int) (hi_td : 0 ≤ td.toInt ∧ td.toInt ≤ 300) (hi_spp : 0 ≤ spp.toInt ∧ spp.toInt ≤ 299) (hr_fa : AK kc0 kc1 kc6 kc9 kc10 fa) : Ci l D (ty3 cI cM cT cJ cZ) yX12_tried cX12_tried 5 (some .int) 2 0 0 [.ref q, .int p0, .int p1, .int p2] ([(q, .inr (12, [.ref aA, .ref aI, .ref xT, .ref tP_, .int td, .int fu, .int fp, .int at_, .int plc, .int tok, .int num, .long wrd, .int tx0, .int cls, .int wri, .int cam, .ref pI, .int pid, .int ope, .int isw, .int so0, .int onc, .ref nm, .ref vL, .ref tR, .int spp, .int eat, .int ste, .ref rW, .ref sP, .ref oT, .ref bS, .ref aS, .ref aO, .ref cS, .ref wY])), (aA, .inl (cI, 862, .inl fa))]) (fun r u => ∃ (fa_n : Nat → Int32) (kc10_n : Int), u = [(q, .inr (12, [.ref aA, .ref aI, .ref xT, .ref tP_, .int td, .int fu, .int fp, .int at_, .int plc, .int tok, .int num, .long wrd, .int tx0, .int cls, .int wri, .int cam, .ref pI, .int pid, .int ope, .int isw, .int so0, .int onc, .ref nm, .ref vL, .ref tR, .int spp, .int eat, .int ste, .ref rW, .ref sP, .ref oT, .ref bS, .ref aS, .ref aO, .ref cS, .ref wY])), (aA, .inl (cI, 862, .inl fa_n))] ∧ AK kc0 kc1 kc6 kc9 kc10_n fa_n ∧ ((p0.toInt = -1 ∧ r.toInt = 0 ∧ kc10_n = 0) ∨ (p0.toInt ≠ -1 ∧ (((0 ≤ p0.toInt ∧ p0.toInt < kc0 ∧ (0 ≤ p1.toInt ∧ p1.toInt ≤ 299) ∧ (0 ≤ p2.toInt ∧ p2.toInt ≤ 299) ∧ kc10 < 10) ∧ r.toInt = kc10 + 1 ∧ kc10_n = kc10 + 1) ∨ (¬ (0 ≤ p0.toInt ∧ p0.toInt < kc0 ∧ (0 ≤ p1.toInt ∧ p1.toInt ≤ 299) ∧ (0 ≤ p2.toInt ∧ p2.toInt ≤ 299) ∧ kc10 < 10) ∧ r.toInt = -2 ∧ kc10_n = kc10))))) := by
  refine Ci.of (by decide +kernel) (Nat.le_of_ble_eq_true rfl) ?_
  intro p e s m below meth c A ls Z hin hP hD hl
  have hx := Z.1
  have hb := Z.2.1
  have hS : va_S A s.heap s.heap [] := va_S.rf
  have hl : lv_has ls 5 [(0, .ref q), (1, .int p0), (2, .int p1), (3, .int p2)] := hl
  skip
  have hk_fa := AK.rng hr_fa
  refine lv_iload_n hx hb dX12_tried_0 rfl (lv_at hl 1 rfl) ?_
  refine lv_iconst (v := (-1)) hx hb dX12_tried_1 (by decide) ?_
  refine lv_icmp_ne (tgt := 15) hx hb dX12_tried_2 (by decide) (fun c1 => ?_) (fun c1 => ?_)
  · refine lv_aload_n hx hb dX12_tried_15 rfl (lv_at hl 0 rfl) ?_
    refine lv_iload_n hx hb dX12_tried_16 rfl (lv_at hl 1 rfl) ?_
    have hPc := hP.sub2 (wc := [(q, .inr (12, [.ref aA, .ref aI, .ref xT, .ref tP_, .int td, .int fu, .int fp, .int at_, .int plc, .int tok, .int num, .long wrd, .int tx0, .int cls, .int wri, .int cam, .ref pI, .int pid, .int ope, .int isw, .int so0, .int onc, .ref nm, .ref vL, .ref tR, .int spp, .int eat, .int ste, .ref rW, .ref sP, .ref oT, .ref bS, .ref aS, .ref aO, .ref cS, .ref wY])), (aA, .inl (cI, 862, .inl fa))]) [0, 1] rfl
    have hDc := hD.sub (ws' := [(q, .inr (12, [.ref aA, .ref aI, .ref xT, .ref tP_, .int td, .int fu, .int fp, .int at_, .int plc, .int tok, .int num, .long wrd, .int tx0, .int cls, .int wri, .int cam, .ref pI, .int pid, .int ope, .int isw, .int so0, .int onc, .ref nm, .ref vL, .ref tR, .int spp, .int eat, .int ste, .ref rW, .ref sP, .ref oT, .ref bS, .ref aS, .ref aO, .ref cS, .ref wY])), (aA, .inl (cI, 862, .inl fa))]) [0, 1] (by decide) rfl
    refine raw_Vi (ci := 12) (q0 := 0) (nA := 1) (As := [.int p0]) (rest := []) Z hl.1 (c_X12_isHorse l D cI cM cT cJ cZ q p0 aA aI xT tP_ td fu fp at_ plc tok num wrd tx0 cls wri cam pI pid ope isw so0 onc nm vL tR spp eat ste rW sP oT bS aS aO cS wY fa kc0 kc1 kc6 kc9 kc10 (by first | with_reducible assumption | ((try simp only [zlt, zle, zeq, zl_0, zl_1, zl_2, zl_3, zl_4, zl_5, zl_6, zl_7, zl_8, zl_9, zl_10, zl_11, zl_12, zl_13, zl_14, zl_15, zl_16, zl_17, zl_18, zl_19, zl_20, zl_21, zl_22, zl_23, zl_24, zl_25, zl_26, zl_27, zl_28, zl_29, zl_30, zl_31, zl_32, zl_33, zl_34, zl_35, zl_36, zl_37, zl_38, zl_39, zl_40, zl_41, zl_42, zl_43, zl_44, zl_45, zl_46, zl_47, zl_48, zl_49, zl_50, zl_51, zl_52, zl_53, zl_54, zl_55, zl_56, zl_57, zl_58, zl_59, zl_60, zl_61, zl_62, zl_63, zl_64, zl_65, zl_82, zl_99, zl_100, zl_160, zl_299, zl_300, zl_301, zl_382, zl_398, zl_399, zl_464, zl_680, zl_862, zl_999, zl_1000, zl_9999, zl_10000, zl_1000000, zl_m1, zl_m2, zl_m3, zl_m8, zl_87, zl_88] at hi_td hi_spp hk_fa c1 ⊢); omega)) (by first | with_reducible assumption | ((try simp only [zlt, zle, zeq, zl_0, zl_1, zl_2, zl_3, zl_4, zl_5, zl_6, zl_7, zl_8, zl_9, zl_10, zl_11, zl_12, zl_13, zl_14, zl_15, zl_16, zl_17, zl_18, zl_19, zl_20, zl_21, zl_22, zl_23, zl_24, zl_25, zl_26, zl_27, zl_28, zl_29, zl_30, zl_31, zl_32, zl_33, zl_34, zl_35, zl_36, zl_37, zl_38, zl_39, zl_40, zl_41, zl_42, zl_43, zl_44, zl_45, zl_46, zl_47, zl_48, zl_49, zl_50, zl_51, zl_52, zl_53, zl_54, zl_55, zl_56, zl_57, zl_58, zl_59, zl_60, zl_61, zl_62, zl_63, zl_64, zl_65, zl_82, zl_99, zl_100, zl_160, zl_299, zl_300, zl_301, zl_382, zl_398, zl_399, zl_464, zl_680, zl_862, zl_999, zl_1000, zl_9999, zl_10000, zl_1000000, zl_m1, zl_m2, zl_m3, zl_m8, zl_87, zl_88] at hi_td hi_spp hk_fa c1 ⊢); omega)) hr_fa) (bw_V bw_1298 bw_1300 bw_60 bw_92 bw_1301) ⟨by decide +kernel, by decide +kernel, by decide +kernel⟩ rfl ⟨Nat.le_of_ble_eq_true rfl, Nat.le_of_ble_eq_true rfl⟩ rfl rfl rfl hPc hDc hS rfl (Nat.le_of_ble_eq_true rfl) dX12_tried_17 ⟨Nat.le_of_ble_eq_true rfl, Nat.le_of_ble_eq_true rfl⟩ (fun r3 u2 H1 locs1 h4 hku2 hP1 hD1 hS1 => ?_)
    obtain ⟨hrh4, rfl⟩ := h4
    obtain ⟨hP, hD⟩ := z_join (wr := []) Z hS hP hD [0, 1] [] rfl (by decide) rfl (by decide) (by decide) hku2 hP1 hD1
    have hS := hS1
    clear hS1
    generalize H1 = H at hP hS ⊢
    generalize locs1 = locs at hS ⊢
    have hP : va_P D vwCl ([(q, .inr (12, [.ref aA, .ref aI, .ref xT, .ref tP_, .int td, .int fu, .int fp, .int at_, .int plc, .int tok, .int num, .long wrd, .int tx0, .int cls, .int wri, .int cam, .ref pI, .int pid, .int ope, .int isw, .int so0, .int onc, .ref nm, .ref vL, .ref tR, .int spp, .int eat, .int ste, .ref rW, .ref sP, .ref oT, .ref bS, .ref aS, .ref aO, .ref cS, .ref wY])), (aA, .inl (cI, 862, .inl fa))]) H := hP
    have hD : va_D A ([(q, .inr (12, [.ref aA, .ref aI, .ref xT, .ref tP_, .int td, .int fu, .int fp, .int at_, .int plc, .int tok, .int num, .long wrd, .int tx0, .int cls, .int wri, .int cam, .ref pI, .int pid, .int ope, .int isw, .int so0, .int onc, .ref nm, .ref vL, .ref tR, .int spp, .int eat, .int ste, .ref rW, .ref sP, .ref oT, .ref bS, .ref aS, .ref aO, .ref cS, .ref wY])), (aA, .inl (cI, 862, .inl fa))]) := hD
    by_cases c5 : 0 ≤ p0.toInt ∧ p0.toInt < kc0
    · obtain rfl : r3 = 1 := by rw [hrh4, if_pos c5]
      refine lv_if_eq (tgt := 49) hx hb dX12_tried_20 (by decide) (fun h => absurd h (by decide)) (fun c6 => ?_)
      refine lv_iload_n hx hb dX12_tried_23 rfl (lv_at hl 2 rfl) ?_
      have hPc := hP.sub2 (wc := []) [] rfl
      have hDc := hD.sub (ws' := []) [] (by decide) rfl
      refine raw_Si (nA := 1) (As := [.int p1]) (rest := []) Z hl.1 (c_X12_isPlace l D cI cM cT cJ cZ p1) (bw_S bw_1132 bw_1133 bw_92 bw_1134) ⟨by decide +kernel, by decide +kernel, by decide +kernel⟩ rfl ⟨Nat.le_of_ble_eq_true rfl, Nat.le_of_ble_eq_true rfl⟩ hPc hDc hS rfl (Nat.le_of_ble_eq_true rfl) dX12_tried_24 ⟨Nat.le_of_ble_eq_true rfl, Nat.le_of_ble_eq_true rfl⟩ (fun r8 u7 H1 locs1 h9 hku7 hP1 hD1 hS1 => ?_)
      obtain ⟨hrh9, rfl⟩ := h9
      obtain ⟨hP, hD⟩ := z_join (wr := [(q, .inr (12, [.ref aA, .ref aI, .ref xT, .ref tP_, .int td, .int fu, .int fp, .int at_, .int plc, .int tok, .int num, .long wrd, .int tx0, .int cls, .int wri, .int cam, .ref pI, .int pid, .int ope, .int isw, .int so0, .int onc, .ref nm, .ref vL, .ref tR, .int spp, .int eat, .int ste, .ref rW, .ref sP, .ref oT, .ref bS, .ref aS, .ref aO, .ref cS, .ref wY])), (aA, .inl (cI, 862, .inl fa))]) Z hS hP hD [] [0, 1] rfl (by decide) rfl (by decide) (by decide) hku7 hP1 hD1
      have hS := hS1
      clear hS1
      generalize H1 = H at hP hS ⊢
      generalize locs1 = locs at hS ⊢
      have hP : va_P D vwCl ([(q, .inr (12, [.ref aA, .ref aI, .ref xT, .ref tP_, .int td, .int fu, .int fp, .int at_, .int plc, .int tok, .int num, .long wrd, .int tx0, .int cls, .int wri, .int cam, .ref pI, .int pid, .int ope, .int isw, .int so0, .int onc, .ref nm, .ref vL, .ref tR, .int spp, .int eat, .int ste, .ref rW, .ref sP, .ref oT, .ref bS, .ref aS, .ref aO, .ref cS, .ref wY])), (aA, .inl (cI, 862, .inl fa))]) H := hP
      have hD : va_D A ([(q, .inr (12, [.ref aA, .ref aI, .ref xT, .ref tP_, .int td, .int fu, .int fp, .int at_, .int plc, .int tok, .int num, .long wrd, .int tx0, .int cls, .int wri, .int cam, .ref pI, .int pid, .int ope, .int isw, .int so0, .int onc, .ref nm, .ref vL, .ref tR, .int spp, .int eat, .int ste, .ref rW, .ref sP, .ref oT, .ref bS, .ref aS, .ref aO, .ref cS, .ref wY])), (aA, .inl (cI, 862, .inl fa))]) := hD
      by_cases c10 : 0 ≤ p1 ∧ p1 ≤ 299
      · obtain rfl : r8 = 1 := by rw [hrh9, if_pos c10]
        refine lv_if_eq (tgt := 49) hx hb dX12_tried_27 (by decide) (fun h => absurd h (by decide)) (fun c11 => ?_)
        refine lv_iload_n hx hb dX12_tried_30 rfl (lv_at hl 3 rfl) ?_
        have hPc := hP.sub2 (wc := []) [] rfl
        have hDc := hD.sub (ws' := []) [] (by decide) rfl
        refine raw_Si (nA := 1) (As := [.int p2]) (rest := []) Z hl.1 (c_X12_isPlace l D cI cM cT cJ cZ p2) (bw_S bw_1132 bw_1133 bw_92 bw_1134) ⟨by decide +kernel, by decide +kernel, by decide +kernel⟩ rfl ⟨Nat.le_of_ble_eq_true rfl, Nat.le_of_ble_eq_true rfl⟩ hPc hDc hS rfl (Nat.le_of_ble_eq_true rfl) dX12_tried_31 ⟨Nat.le_of_ble_eq_true rfl, Nat.le_of_ble_eq_true rfl⟩ (fun r13 u12 H1 locs1 h14 hku12 hP1 hD1 hS1 => ?_)
        obtain ⟨hrh14, rfl⟩ := h14
        obtain ⟨hP, hD⟩ := z_join (wr := [(q, .inr (12, [.ref aA, .ref aI, .ref xT, .ref tP_, .int td, .int fu, .int fp, .int at_, .int plc, .int tok, .int num, .long wrd, .int tx0, .int cls, .int wri, .int cam, .ref pI, .int pid, .int ope, .int isw, .int so0, .int onc, .ref nm, .ref vL, .ref tR, .int spp, .int eat, .int ste, .ref rW, .ref sP, .ref oT, .ref bS, .ref aS, .ref aO, .ref cS, .ref wY])), (aA, .inl (cI, 862, .inl fa))]) Z hS hP hD [] [0, 1] rfl (by decide) rfl (by decide) (by decide) hku12 hP1 hD1
        have hS := hS1
        clear hS1
        generalize H1 = H at hP hS ⊢
        generalize locs1 = locs at hS ⊢
        have hP : va_P D vwCl ([(q, .inr (12, [.ref aA, .ref aI, .ref xT, .ref tP_, .int td, .int fu, .int fp, .int at_, .int plc, .int tok, .int num, .long wrd, .int tx0, .int cls, .int wri, .int cam, .ref pI, .int pid, .int ope, .int isw, .int so0, .int onc, .ref nm, .ref vL, .ref tR, .int spp, .int eat, .int ste, .ref rW, .ref sP, .ref oT, .ref bS, .ref aS, .ref aO, .ref cS, .ref wY])), (aA, .inl (cI, 862, .inl fa))]) H := hP
        have hD : va_D A ([(q, .inr (12, [.ref aA, .ref aI, .ref xT, .ref tP_, .int td, .int fu, .int fp, .int at_, .int plc, .int tok, .int num, .long wrd, .int tx0, .int cls, .int wri, .int cam, .ref pI, .int pid, .int ope, .int isw, .int so0, .int onc, .ref nm, .ref vL, .ref tR, .int spp, .int eat, .int ste, .ref rW, .ref sP, .ref oT, .ref bS, .ref aS, .ref aO, .ref cS, .ref wY])), (aA, .inl (cI, 862, .inl fa))]) := hD
        by_cases c15 : 0 ≤ p2 ∧ p2 ≤ 299
        · obtain rfl : r13 = 1 := by rw [hrh14, if_pos c15]
          refine lv_if_eq (tgt := 49) hx hb dX12_tried_34 (by decide) (fun h => absurd h (by decide)) (fun c16 => ?_)
          refine lv_aload_n hx hb dX12_tried_37 rfl (lv_at hl 0 rfl) ?_
          refine z_get Z i_X12 hP 0 rfl rfl 0 (by decide) bw_1019 rfl dX12_tried_38 ?_
          refine lv_bipush (v := 10) hx hb dX12_tried_41 (by decide) ?_
          refine z_iald Z hP 1 0 rfl rfl (vin (by decide)) dX12_tried_43 ?_
          refine lv_topi (fun z17 ez17 => ?_)
          have hz17 : z17.toInt = kc10 := by rw [ez17]; exact AK.k10 hr_fa
          refine lv_bipush (v := 10) hx hb dX12_tried_44 (by decide) ?_
          refine lv_icmp_ne (tgt := 52) hx hb dX12_tried_46 (by decide) (fun c18 => ?_) (fun c18 => ?_)
          · refine lv_bipush (v := 52) hx hb dX12_tried_52 (by decide) ?_
            refine lv_iconst (v := 3) hx hb dX12_tried_54 (by decide) ?_
            refine lv_aload_n hx hb dX12_tried_55 rfl (lv_at hl 0 rfl) ?_
            refine z_get Z i_X12 hP 0 rfl rfl 0 (by decide) bw_1019 rfl dX12_tried_56 ?_
            refine lv_bipush (v := 10) hx hb dX12_tried_59 (by decide) ?_
            refine z_iald Z hP 1 0 rfl rfl (vin (by decide)) dX12_tried_61 ?_
            refine lv_topi (fun z19 ez19 => ?_)
            have hz19 : z19.toInt = kc10 := by rw [ez19]; exact AK.k10 hr_fa
            refine lv_imul hx hb dX12_tried_62 ?_
            refine lv_topi (fun z20 ez20 => ?_)
            have hz20 : z20.toInt = 3 * z19.toInt := by rw [ez20]; exact zmulg (by first | with_reducible assumption | ((try simp only [zlt, zle, zeq, zl_0, zl_1, zl_2, zl_3, zl_4, zl_5, zl_6, zl_7, zl_8, zl_9, zl_10, zl_11, zl_12, zl_13, zl_14, zl_15, zl_16, zl_17, zl_18, zl_19, zl_20, zl_21, zl_22, zl_23, zl_24, zl_25, zl_26, zl_27, zl_28, zl_29, zl_30, zl_31, zl_32, zl_33, zl_34, zl_35, zl_36, zl_37, zl_38, zl_39, zl_40, zl_41, zl_42, zl_43, zl_44, zl_45, zl_46, zl_47, zl_48, zl_49, zl_50, zl_51, zl_52, zl_53, zl_54, zl_55, zl_56, zl_57, zl_58, zl_59, zl_60, zl_61, zl_62, zl_63, zl_64, zl_65, zl_82, zl_99, zl_100, zl_160, zl_299, zl_300, zl_301, zl_382, zl_398, zl_399, zl_464, zl_680, zl_862, zl_999, zl_1000, zl_9999, zl_10000, zl_1000000, zl_m1, zl_m2, zl_m3, zl_m8, zl_87, zl_88] at hi_td hi_spp hk_fa c1 c5 c6 c10 c11 c15 c16 hz17 c18 hz19 ⊢); omega)) (by first | with_reducible assumption | ((try simp only [zlt, zle, zeq, zl_0, zl_1, zl_2, zl_3, zl_4, zl_5, zl_6, zl_7, zl_8, zl_9, zl_10, zl_11, zl_12, zl_13, zl_14, zl_15, zl_16, zl_17, zl_18, zl_19, zl_20, zl_21, zl_22, zl_23, zl_24, zl_25, zl_26, zl_27, zl_28, zl_29, zl_30, zl_31, zl_32, zl_33, zl_34, zl_35, zl_36, zl_37, zl_38, zl_39, zl_40, zl_41, zl_42, zl_43, zl_44, zl_45, zl_46, zl_47, zl_48, zl_49, zl_50, zl_51, zl_52, zl_53, zl_54, zl_55, zl_56, zl_57, zl_58, zl_59, zl_60, zl_61, zl_62, zl_63, zl_64, zl_65, zl_82, zl_99, zl_100, zl_160, zl_299, zl_300, zl_301, zl_382, zl_398, zl_399, zl_464, zl_680, zl_862, zl_999, zl_1000, zl_9999, zl_10000, zl_1000000, zl_m1, zl_m2, zl_m3, zl_m8, zl_87, zl_88] at hi_td hi_spp hk_fa c1 c5 c6 c10 c11 c15 c16 hz17 c18 hz19 ⊢); omega))
            refine lv_iadd hx hb dX12_tried_63 ?_
            refine lv_topi (fun z21 ez21 => ?_)
            have hz21 : z21.toInt = 52 + z20.toInt := by rw [ez21]; exact zaddg (by first | with_reducible assumption | ((try simp only [zlt, zle, zeq, zl_0, zl_1, zl_2, zl_3, zl_4, zl_5, zl_6, zl_7, zl_8, zl_9, zl_10, zl_11, zl_12, zl_13, zl_14, zl_15, zl_16, zl_17, zl_18, zl_19, zl_20, zl_21, zl_22, zl_23, zl_24, zl_25, zl_26, zl_27, zl_28, zl_29, zl_30, zl_31, zl_32, zl_33, zl_34, zl_35, zl_36, zl_37, zl_38, zl_39, zl_40, zl_41, zl_42, zl_43, zl_44, zl_45, zl_46, zl_47, zl_48, zl_49, zl_50, zl_51, zl_52, zl_53, zl_54, zl_55, zl_56, zl_57, zl_58, zl_59, zl_60, zl_61, zl_62, zl_63, zl_64, zl_65, zl_82, zl_99, zl_100, zl_160, zl_299, zl_300, zl_301, zl_382, zl_398, zl_399, zl_464, zl_680, zl_862, zl_999, zl_1000, zl_9999, zl_10000, zl_1000000, zl_m1, zl_m2, zl_m3, zl_m8, zl_87, zl_88] at hi_td hi_spp hk_fa c1 c5 c6 c10 c11 c15 c16 hz17 c18 hz19 hz20 ⊢); omega)) (by first | with_reducible assumption | ((try simp only [zlt, zle, zeq, zl_0, zl_1, zl_2, zl_3, zl_4, zl_5, zl_6, zl_7, zl_8, zl_9, zl_10, zl_11, zl_12, zl_13, zl_14, zl_15, zl_16, zl_17, zl_18, zl_19, zl_20, zl_21, zl_22, zl_23, zl_24, zl_25, zl_26, zl_27, zl_28, zl_29, zl_30, zl_31, zl_32, zl_33, zl_34, zl_35, zl_36, zl_37, zl_38, zl_39, zl_40, zl_41, zl_42, zl_43, zl_44, zl_45, zl_46, zl_47, zl_48, zl_49, zl_50, zl_51, zl_52, zl_53, zl_54, zl_55, zl_56, zl_57, zl_58, zl_59, zl_60, zl_61, zl_62, zl_63, zl_64, zl_65, zl_82, zl_99, zl_100, zl_160, zl_299, zl_300, zl_301, zl_382, zl_398, zl_399, zl_464, zl_680, zl_862, zl_999, zl_1000, zl_9999, zl_10000, zl_1000000, zl_m1, zl_m2, zl_m3, zl_m8, zl_87, zl_88] at hi_td hi_spp hk_fa c1 c5 c6 c10 c11 c15 c16 hz17 c18 hz19 hz20 ⊢); omega))
            refine lv_istore (lv' := [(4, .int z21), (0, .ref q), (1, .int p0), (2, .int p1), (3, .int p2)]) hx hb dX12_tried_64 hl (by decide) rfl (fun ls hl => ?_)
            refine lv_aload_n hx hb dX12_tried_66 rfl (lv_at hl 1 rfl) ?_
            refine z_get Z i_X12 hP 0 rfl rfl 0 (by decide) bw_1019 rfl dX12_tried_67 ?_
            refine lv_iload hx hb dX12_tried_70 (lv_at hl 0 rfl) ?_
            refine lv_iload_n hx hb dX12_tried_72 rfl (lv_at hl 2 rfl) ?_
            refine z_iast Z hP hD hS 1 0 rfl rfl (vp_in_iff.mpr (by first | with_reducible assumption | ((try simp only [zlt, zle, zeq, zl_0, zl_1, zl_2, zl_3, zl_4, zl_5, zl_6, zl_7, zl_8, zl_9, zl_10, zl_11, zl_12, zl_13, zl_14, zl_15, zl_16, zl_17, zl_18, zl_19, zl_20, zl_21, zl_22, zl_23, zl_24, zl_25, zl_26, zl_27, zl_28, zl_29, zl_30, zl_31, zl_32, zl_33, zl_34, zl_35, zl_36, zl_37, zl_38, zl_39, zl_40, zl_41, zl_42, zl_43, zl_44, zl_45, zl_46, zl_47, zl_48, zl_49, zl_50, zl_51, zl_52, zl_53, zl_54, zl_55, zl_56, zl_57, zl_58, zl_59, zl_60, zl_61, zl_62, zl_63, zl_64, zl_65, zl_82, zl_99, zl_100, zl_160, zl_299, zl_300, zl_301, zl_382, zl_398, zl_399, zl_464, zl_680, zl_862, zl_999, zl_1000, zl_9999, zl_10000, zl_1000000, zl_m1, zl_m2, zl_m3, zl_m8, zl_87, zl_88] at hi_td hi_spp hk_fa c1 c5 c6 c10 c11 c15 c16 hz17 c18 hz19 hz20 hz21 ⊢); omega))) dX12_tried_73 (fun H locs hP hD hS => ?_)
            have hrg22 := AK.st (x := z21) (v := p0) hr_fa (by first | with_reducible assumption | ((try simp only [zlt, zle, zeq, zl_0, zl_1, zl_2, zl_3, zl_4, zl_5, zl_6, zl_7, zl_8, zl_9, zl_10, zl_11, zl_12, zl_13, zl_14, zl_15, zl_16, zl_17, zl_18, zl_19, zl_20, zl_21, zl_22, zl_23, zl_24, zl_25, zl_26, zl_27, zl_28, zl_29, zl_30, zl_31, zl_32, zl_33, zl_34, zl_35, zl_36, zl_37, zl_38, zl_39, zl_40, zl_41, zl_42, zl_43, zl_44, zl_45, zl_46, zl_47, zl_48, zl_49, zl_50, zl_51, zl_52, zl_53, zl_54, zl_55, zl_56, zl_57, zl_58, zl_59, zl_60, zl_61, zl_62, zl_63, zl_64, zl_65, zl_82, zl_99, zl_100, zl_160, zl_299, zl_300, zl_301, zl_382, zl_398, zl_399, zl_464, zl_680, zl_862, zl_999, zl_1000, zl_9999, zl_10000, zl_1000000, zl_m1, zl_m2, zl_m3, zl_m8, zl_87, zl_88] at hi_td hi_spp hk_fa c1 c5 c6 c10 c11 c15 c16 hz17 c18 hz19 hz20 hz21 ⊢); omega)) (by unfold RAi; (try simp only [zlt, zle, zeq, zl_0, zl_1, zl_2, zl_3, zl_4, zl_5, zl_6, zl_7, zl_8, zl_9, zl_10, zl_11, zl_12, zl_13, zl_14, zl_15, zl_16, zl_17, zl_18, zl_19, zl_20, zl_21, zl_22, zl_23, zl_24, zl_25, zl_26, zl_27, zl_28, zl_29, zl_30, zl_31, zl_32, zl_33, zl_34, zl_35, zl_36, zl_37, zl_38, zl_39, zl_40, zl_41, zl_42, zl_43, zl_44, zl_45, zl_46, zl_47, zl_48, zl_49, zl_50, zl_51, zl_52, zl_53, zl_54, zl_55, zl_56, zl_57, zl_58, zl_59, zl_60, zl_61, zl_62, zl_63, zl_64, zl_65, zl_82, zl_99, zl_100, zl_160, zl_299, zl_300, zl_301, zl_382, zl_398, zl_399, zl_464, zl_680, zl_862, zl_999, zl_1000, zl_9999, zl_10000, zl_1000000, zl_m1, zl_m2, zl_m3, zl_m8, zl_87, zl_88] at hi_td hi_spp hk_fa c1 c5 c6 c10 c11 c15 c16 hz17 c18 hz19 hz20 hz21 ⊢); omega)
            generalize upd fa (z21 : Int32).toNatClampNeg p0 = g22 at hP hD hrg22
            have hP : va_P D vwCl ([(q, .inr (12, [.ref aA, .ref aI, .ref xT, .ref tP_, .int td, .int fu, .int fp, .int at_, .int plc, .int tok, .int num, .long wrd, .int tx0, .int cls, .int wri, .int cam, .ref pI, .int pid, .int ope, .int isw, .int so0, .int onc, .ref nm, .ref vL, .ref tR, .int spp, .int eat, .int ste, .ref rW, .ref sP, .ref oT, .ref bS, .ref aS, .ref aO, .ref cS, .ref wY])), (aA, .inl (cI, 862, .inl g22))]) H := hP
            have hD : va_D A ([(q, .inr (12, [.ref aA, .ref aI, .ref xT, .ref tP_, .int td, .int fu, .int fp, .int at_, .int plc, .int tok, .int num, .long wrd, .int tx0, .int cls, .int wri, .int cam, .ref pI, .int pid, .int ope, .int isw, .int so0, .int onc, .ref nm, .ref vL, .ref tR, .int spp, .int eat, .int ste, .ref rW, .ref sP, .ref oT, .ref bS, .ref aS, .ref aO, .ref cS, .ref wY])), (aA, .inl (cI, 862, .inl g22))]) := hD
            refine lv_aload_n hx hb dX12_tried_74 rfl (lv_at hl 1 rfl) ?_
            refine z_get Z i_X12 hP 0 rfl rfl 0 (by decide) bw_1019 rfl dX12_tried_75 ?_
            refine lv_iload hx hb dX12_tried_78 (lv_at hl 0 rfl) ?_
            refine lv_iconst (v := 1) hx hb dX12_tried_80 (by decide) ?_
            refine lv_iadd hx hb dX12_tried_81 ?_
            refine lv_topi (fun z23 ez23 => ?_)
            have hz23 : z23.toInt = z21.toInt + 1 := by rw [ez23]; exact zaddg (by first | with_reducible assumption | ((try simp only [zlt, zle, zeq, zl_0, zl_1, zl_2, zl_3, zl_4, zl_5, zl_6, zl_7, zl_8, zl_9, zl_10, zl_11, zl_12, zl_13, zl_14, zl_15, zl_16, zl_17, zl_18, zl_19, zl_20, zl_21, zl_22, zl_23, zl_24, zl_25, zl_26, zl_27, zl_28, zl_29, zl_30, zl_31, zl_32, zl_33, zl_34, zl_35, zl_36, zl_37, zl_38, zl_39, zl_40, zl_41, zl_42, zl_43, zl_44, zl_45, zl_46, zl_47, zl_48, zl_49, zl_50, zl_51, zl_52, zl_53, zl_54, zl_55, zl_56, zl_57, zl_58, zl_59, zl_60, zl_61, zl_62, zl_63, zl_64, zl_65, zl_82, zl_99, zl_100, zl_160, zl_299, zl_300, zl_301, zl_382, zl_398, zl_399, zl_464, zl_680, zl_862, zl_999, zl_1000, zl_9999, zl_10000, zl_1000000, zl_m1, zl_m2, zl_m3, zl_m8, zl_87, zl_88] at hi_td hi_spp hk_fa c1 c5 c6 c10 c11 c15 c16 hz17 c18 hz19 hz20 hz21 ⊢); omega)) (by first | with_reducible assumption | ((try simp only [zlt, zle, zeq, zl_0, zl_1, zl_2, zl_3, zl_4, zl_5, zl_6, zl_7, zl_8, zl_9, zl_10, zl_11, zl_12, zl_13, zl_14, zl_15, zl_16, zl_17, zl_18, zl_19, zl_20, zl_21, zl_22, zl_23, zl_24, zl_25, zl_26, zl_27, zl_28, zl_29, zl_30, zl_31, zl_32, zl_33, zl_34, zl_35, zl_36, zl_37, zl_38, zl_39, zl_40, zl_41, zl_42, zl_43, zl_44, zl_45, zl_46, zl_47, zl_48, zl_49, zl_50, zl_51, zl_52, zl_53, zl_54, zl_55, zl_56, zl_57, zl_58, zl_59, zl_60, zl_61, zl_62, zl_63, zl_64, zl_65, zl_82, zl_99, zl_100, zl_160, zl_299, zl_300, zl_301, zl_382, zl_398, zl_399, zl_464, zl_680, zl_862, zl_999, zl_1000, zl_9999, zl_10000, zl_1000000, zl_m1, zl_m2, zl_m3, zl_m8, zl_87, zl_88] at hi_td hi_spp hk_fa c1 c5 c6 c10 c11 c15 c16 hz17 c18 hz19 hz20 hz21 ⊢); omega))
            refine lv_iload_n hx hb dX12_tried_82 rfl (lv_at hl 3 rfl) ?_
            refine z_iast Z hP hD hS 1 0 rfl rfl (vp_in_iff.mpr (by first | with_reducible assumption | ((try simp only [zlt, zle, zeq, zl_0, zl_1, zl_2, zl_3, zl_4, zl_5, zl_6, zl_7, zl_8, zl_9, zl_10, zl_11, zl_12, zl_13, zl_14, zl_15, zl_16, zl_17, zl_18, zl_19, zl_20, zl_21, zl_22, zl_23, zl_24, zl_25, zl_26, zl_27, zl_28, zl_29, zl_30, zl_31, zl_32, zl_33, zl_34, zl_35, zl_36, zl_37, zl_38, zl_39, zl_40, zl_41, zl_42, zl_43, zl_44, zl_45, zl_46, zl_47, zl_48, zl_49, zl_50, zl_51, zl_52, zl_53, zl_54, zl_55, zl_56, zl_57, zl_58, zl_59, zl_60, zl_61, zl_62, zl_63, zl_64, zl_65, zl_82, zl_99, zl_100, zl_160, zl_299, zl_300, zl_301, zl_382, zl_398, zl_399, zl_464, zl_680, zl_862, zl_999, zl_1000, zl_9999, zl_10000, zl_1000000, zl_m1, zl_m2, zl_m3, zl_m8, zl_87, zl_88] at hi_td hi_spp hk_fa c1 c5 c6 c10 c11 c15 c16 hz17 c18 hz19 hz20 hz21 hz23 ⊢); omega))) dX12_tried_83 (fun H locs hP hD hS => ?_)
            have hrg24 := AK.st (x := z23) (v := p1) hrg22 (by first | with_reducible assumption | ((try simp only [zlt, zle, zeq, zl_0, zl_1, zl_2, zl_3, zl_4, zl_5, zl_6, zl_7, zl_8, zl_9, zl_10, zl_11, zl_12, zl_13, zl_14, zl_15, zl_16, zl_17, zl_18, zl_19, zl_20, zl_21, zl_22, zl_23, zl_24, zl_25, zl_26, zl_27, zl_28, zl_29, zl_30, zl_31, zl_32, zl_33, zl_34, zl_35, zl_36, zl_37, zl_38, zl_39, zl_40, zl_41, zl_42, zl_43, zl_44, zl_45, zl_46, zl_47, zl_48, zl_49, zl_50, zl_51, zl_52, zl_53, zl_54, zl_55, zl_56, zl_57, zl_58, zl_59, zl_60, zl_61, zl_62, zl_63, zl_64, zl_65, zl_82, zl_99, zl_100, zl_160, zl_299, zl_300, zl_301, zl_382, zl_398, zl_399, zl_464, zl_680, zl_862, zl_999, zl_1000, zl_9999, zl_10000, zl_1000000, zl_m1, zl_m2, zl_m3, zl_m8, zl_87, zl_88] at hi_td hi_spp hk_fa c1 c5 c6 c10 c11 c15 c16 hz17 c18 hz19 hz20 hz21 hz23 ⊢); omega)) (by unfold RAi; (try simp only [zlt, zle, zeq, zl_0, zl_1, zl_2, zl_3, zl_4, zl_5, zl_6, zl_7, zl_8, zl_9, zl_10, zl_11, zl_12, zl_13, zl_14, zl_15, zl_16, zl_17, zl_18, zl_19, zl_20, zl_21, zl_22, zl_23, zl_24, zl_25, zl_26, zl_27, zl_28, zl_29, zl_30, zl_31, zl_32, zl_33, zl_34, zl_35, zl_36, zl_37, zl_38, zl_39, zl_40, zl_41, zl_42, zl_43, zl_44, zl_45, zl_46, zl_47, zl_48, zl_49, zl_50, zl_51, zl_52, zl_53, zl_54, zl_55, zl_56, zl_57, zl_58, zl_59, zl_60, zl_61, zl_62, zl_63, zl_64, zl_65, zl_82, zl_99, zl_100, zl_160, zl_299, zl_300, zl_301, zl_382, zl_398, zl_399, zl_464, zl_680, zl_862, zl_999, zl_1000, zl_9999, zl_10000, zl_1000000, zl_m1, zl_m2, zl_m3, zl_m8, zl_87, zl_88] at hi_td hi_spp hk_fa c1 c5 c6 c10 c11 c15 c16 hz17 c18 hz19 hz20 hz21 hz23 ⊢); omega)
            generalize upd g22 (z23 : Int32).toNatClampNeg p1 = g24 at hP hD hrg24
            have hP : va_P D vwCl ([(q, .inr (12, [.ref aA, .ref aI, .ref xT, .ref tP_, .int td, .int fu, .int fp, .int at_, .int plc, .int tok, .int num, .long wrd, .int tx0, .int cls, .int wri, .int cam, .ref pI, .int pid, .int ope, .int isw, .int so0, .int onc, .ref nm, .ref vL, .ref tR, .int spp, .int eat, .int ste, .ref rW, .ref sP, .ref oT, .ref bS, .ref aS, .ref aO, .ref cS, .ref wY])), (aA, .inl (cI, 862, .inl g24))]) H := hP
            have hD : va_D A ([(q, .inr (12, [.ref aA, .ref aI, .ref xT, .ref tP_, .int td, .int fu, .int fp, .int at_, .int plc, .int tok, .int num, .long wrd, .int tx0, .int cls, .int wri, .int cam, .ref pI, .int pid, .int ope, .int isw, .int so0, .int onc, .ref nm, .ref vL, .ref tR, .int spp, .int eat, .int ste, .ref rW, .ref sP, .ref oT, .ref bS, .ref aS, .ref aO, .ref cS, .ref wY])), (aA, .inl (cI, 862, .inl g24))]) := hD
            refine lv_aload_n hx hb dX12_tried_84 rfl (lv_at hl 1 rfl) ?_
            refine z_get Z i_X12 hP 0 rfl rfl 0 (by decide) bw_1019 rfl dX12_tried_85 ?_
            refine lv_iload hx hb dX12_tried_88 (lv_at hl 0 rfl) ?_
            refine lv_iconst (v := 2) hx hb dX12_tried_90 (by decide) ?_
            refine lv_iadd hx hb dX12_tried_91 ?_
            refine lv_topi (fun z25 ez25 => ?_)
            have hz25 : z25.toInt = z21.toInt + 2 := by rw [ez25]; exact zaddg (by first | with_reducible assumption | ((try simp only [zlt, zle, zeq, zl_0, zl_1, zl_2, zl_3, zl_4, zl_5, zl_6, zl_7, zl_8, zl_9, zl_10, zl_11, zl_12, zl_13, zl_14, zl_15, zl_16, zl_17, zl_18, zl_19, zl_20, zl_21, zl_22, zl_23, zl_24, zl_25, zl_26, zl_27, zl_28, zl_29, zl_30, zl_31, zl_32, zl_33, zl_34, zl_35, zl_36, zl_37, zl_38, zl_39, zl_40, zl_41, zl_42, zl_43, zl_44, zl_45, zl_46, zl_47, zl_48, zl_49, zl_50, zl_51, zl_52, zl_53, zl_54, zl_55, zl_56, zl_57, zl_58, zl_59, zl_60, zl_61, zl_62, zl_63, zl_64, zl_65, zl_82, zl_99, zl_100, zl_160, zl_299, zl_300, zl_301, zl_382, zl_398, zl_399, zl_464, zl_680, zl_862, zl_999, zl_1000, zl_9999, zl_10000, zl_1000000, zl_m1, zl_m2, zl_m3, zl_m8, zl_87, zl_88] at hi_td hi_spp hk_fa c1 c5 c6 c10 c11 c15 c16 hz17 c18 hz19 hz20 hz21 hz23 ⊢); omega)) (by first | with_reducible assumption | ((try simp only [zlt, zle, zeq, zl_0, zl_1, zl_2, zl_3, zl_4, zl_5, zl_6, zl_7, zl_8, zl_9, zl_10, zl_11, zl_12, zl_13, zl_14, zl_15, zl_16, zl_17, zl_18, zl_19, zl_20, zl_21, zl_22, zl_23, zl_24, zl_25, zl_26, zl_27, zl_28, zl_29, zl_30, zl_31, zl_32, zl_33, zl_34, zl_35, zl_36, zl_37, zl_38, zl_39, zl_40, zl_41, zl_42, zl_43, zl_44, zl_45, zl_46, zl_47, zl_48, zl_49, zl_50, zl_51, zl_52, zl_53, zl_54, zl_55, zl_56, zl_57, zl_58, zl_59, zl_60, zl_61, zl_62, zl_63, zl_64, zl_65, zl_82, zl_99, zl_100, zl_160, zl_299, zl_300, zl_301, zl_382, zl_398, zl_399, zl_464, zl_680, zl_862, zl_999, zl_1000, zl_9999, zl_10000, zl_1000000, zl_m1, zl_m2, zl_m3, zl_m8, zl_87, zl_88] at hi_td hi_spp hk_fa c1 c5 c6 c10 c11 c15 c16 hz17 c18 hz19 hz20 hz21 hz23 ⊢); omega))
            refine lv_iload_n hx hb dX12_tried_92 rfl (lv_at hl 4 rfl) ?_
            refine z_iast Z hP hD hS 1 0 rfl rfl (vp_in_iff.mpr (by first | with_reducible assumption | ((try simp only [zlt, zle, zeq, zl_0, zl_1, zl_2, zl_3, zl_4, zl_5, zl_6, zl_7, zl_8, zl_9, zl_10, zl_11, zl_12, zl_13, zl_14, zl_15, zl_16, zl_17, zl_18, zl_19, zl_20, zl_21, zl_22, zl_23, zl_24, zl_25, zl_26, zl_27, zl_28, zl_29, zl_30, zl_31, zl_32, zl_33, zl_34, zl_35, zl_36, zl_37, zl_38, zl_39, zl_40, zl_41, zl_42, zl_43, zl_44, zl_45, zl_46, zl_47, zl_48, zl_49, zl_50, zl_51, zl_52, zl_53, zl_54, zl_55, zl_56, zl_57, zl_58, zl_59, zl_60, zl_61, zl_62, zl_63, zl_64, zl_65, zl_82, zl_99, zl_100, zl_160, zl_299, zl_300, zl_301, zl_382, zl_398, zl_399, zl_464, zl_680, zl_862, zl_999, zl_1000, zl_9999, zl_10000, zl_1000000, zl_m1, zl_m2, zl_m3, zl_m8, zl_87, zl_88] at hi_td hi_spp hk_fa c1 c5 c6 c10 c11 c15 c16 hz17 c18 hz19 hz20 hz21 hz23 hz25 ⊢); omega))) dX12_tried_93 (fun H locs hP hD hS => ?_)
            have hrg26 := AK.st (x := z25) (v := p2) hrg24 (by first | with_reducible assumption | ((try simp only [zlt, zle, zeq, zl_0, zl_1, zl_2, zl_3, zl_4, zl_5, zl_6, zl_7, zl_8, zl_9, zl_10, zl_11, zl_12, zl_13, zl_14, zl_15, zl_16, zl_17, zl_18, zl_19, zl_20, zl_21, zl_22, zl_23, zl_24, zl_25, zl_26, zl_27, zl_28, zl_29, zl_30, zl_31, zl_32, zl_33, zl_34, zl_35, zl_36, zl_37, zl_38, zl_39, zl_40, zl_41, zl_42, zl_43, zl_44, zl_45, zl_46, zl_47, zl_48, zl_49, zl_50, zl_51, zl_52, zl_53, zl_54, zl_55, zl_56, zl_57, zl_58, zl_59, zl_60, zl_61, zl_62, zl_63, zl_64, zl_65, zl_82, zl_99, zl_100, zl_160, zl_299, zl_300, zl_301, zl_382, zl_398, zl_399, zl_464, zl_680, zl_862, zl_999, zl_1000, zl_9999, zl_10000, zl_1000000, zl_m1, zl_m2, zl_m3, zl_m8, zl_87, zl_88] at hi_td hi_spp hk_fa c1 c5 c6 c10 c11 c15 c16 hz17 c18 hz19 hz20 hz21 hz23 hz25 ⊢); omega)) (by unfold RAi; (try simp only [zlt, zle, zeq, zl_0, zl_1, zl_2, zl_3, zl_4, zl_5, zl_6, zl_7, zl_8, zl_9, zl_10, zl_11, zl_12, zl_13, zl_14, zl_15, zl_16, zl_17, zl_18, zl_19, zl_20, zl_21, zl_22, zl_23, zl_24, zl_25, zl_26, zl_27, zl_28, zl_29, zl_30, zl_31, zl_32, zl_33, zl_34, zl_35, zl_36, zl_37, zl_38, zl_39, zl_40, zl_41, zl_42, zl_43, zl_44, zl_45, zl_46, zl_47, zl_48, zl_49, zl_50, zl_51, zl_52, zl_53, zl_54, zl_55, zl_56, zl_57, zl_58, zl_59, zl_60, zl_61, zl_62, zl_63, zl_64, zl_65, zl_82, zl_99, zl_100, zl_160, zl_299, zl_300, zl_301, zl_382, zl_398, zl_399, zl_464, zl_680, zl_862, zl_999, zl_1000, zl_9999, zl_10000, zl_1000000, zl_m1, zl_m2, zl_m3, zl_m8, zl_87, zl_88] at hi_td hi_spp hk_fa c1 c5 c6 c10 c11 c15 c16 hz17 c18 hz19 hz20 hz21 hz23 hz25 ⊢); omega)
            generalize upd g24 (z25 : Int32).toNatClampNeg p2 = g26 at hP hD hrg26
            have hP : va_P D vwCl ([(q, .inr (12, [.ref aA, .ref aI, .ref xT, .ref tP_, .int td, .int fu, .int fp, .int at_, .int plc, .int tok, .int num, .long wrd, .int tx0, .int cls, .int wri, .int cam, .ref pI, .int pid, .int ope, .int isw, .int so0, .int onc, .ref nm, .ref vL, .ref tR, .int spp, .int eat, .int ste, .ref rW, .ref sP, .ref oT, .ref bS, .ref aS, .ref aO, .ref cS, .ref wY])), (aA, .inl (cI, 862, .inl g26))]) H := hP
            have hD : va_D A ([(q, .inr (12, [.ref aA, .ref aI, .ref xT, .ref tP_, .int td, .int fu, .int fp, .int at_, .int plc, .int tok, .int num, .long wrd, .int tx0, .int cls, .int wri, .int cam, .ref pI, .int pid, .int ope, .int isw, .int so0, .int onc, .ref nm, .ref vL, .ref tR, .int spp, .int eat, .int ste, .ref rW, .ref sP, .ref oT, .ref bS, .ref aS, .ref aO, .ref cS, .ref wY])), (aA, .inl (cI, 862, .inl g26))]) := hD
            refine lv_aload_n hx hb dX12_tried_94 rfl (lv_at hl 1 rfl) ?_
            refine z_get Z i_X12 hP 0 rfl rfl 0 (by decide) bw_1019 rfl dX12_tried_95 ?_
            refine lv_bipush (v := 10) hx hb dX12_tried_98 (by decide) ?_
            refine lv_dup2_11 hx hb dX12_tried_100 rfl rfl ?_
            refine z_iald Z hP 1 0 rfl rfl (vin (by decide)) dX12_tried_101 ?_
            refine lv_topi (fun z27 ez27 => ?_)
            have hz27 : z27.toInt = kc10 := by rw [ez27]; exact AK.k10 hrg26
            refine lv_iconst (v := 1) hx hb dX12_tried_102 (by decide) ?_
            refine lv_iadd hx hb dX12_tried_103 ?_
            refine lv_topi (fun z28 ez28 => ?_)
            have hz28 : z28.toInt = z27.toInt + 1 := by rw [ez28]; exact zaddg (by first | with_reducible assumption | ((try simp only [zlt, zle, zeq, zl_0, zl_1, zl_2, zl_3, zl_4, zl_5, zl_6, zl_7, zl_8, zl_9, zl_10, zl_11, zl_12, zl_13, zl_14, zl_15, zl_16, zl_17, zl_18, zl_19, zl_20, zl_21, zl_22, zl_23, zl_24, zl_25, zl_26, zl_27, zl_28, zl_29, zl_30, zl_31, zl_32, zl_33, zl_34, zl_35, zl_36, zl_37, zl_38, zl_39, zl_40, zl_41, zl_42, zl_43, zl_44, zl_45, zl_46, zl_47, zl_48, zl_49, zl_50, zl_51, zl_52, zl_53, zl_54, zl_55, zl_56, zl_57, zl_58, zl_59, zl_60, zl_61, zl_62, zl_63, zl_64, zl_65, zl_82, zl_99, zl_100, zl_160, zl_299, zl_300, zl_301, zl_382, zl_398, zl_399, zl_464, zl_680, zl_862, zl_999, zl_1000, zl_9999, zl_10000, zl_1000000, zl_m1, zl_m2, zl_m3, zl_m8, zl_87, zl_88] at hi_td hi_spp hk_fa c1 c5 c6 c10 c11 c15 c16 hz17 c18 hz19 hz20 hz21 hz23 hz25 hz27 ⊢); omega)) (by first | with_reducible assumption | ((try simp only [zlt, zle, zeq, zl_0, zl_1, zl_2, zl_3, zl_4, zl_5, zl_6, zl_7, zl_8, zl_9, zl_10, zl_11, zl_12, zl_13, zl_14, zl_15, zl_16, zl_17, zl_18, zl_19, zl_20, zl_21, zl_22, zl_23, zl_24, zl_25, zl_26, zl_27, zl_28, zl_29, zl_30, zl_31, zl_32, zl_33, zl_34, zl_35, zl_36, zl_37, zl_38, zl_39, zl_40, zl_41, zl_42, zl_43, zl_44, zl_45, zl_46, zl_47, zl_48, zl_49, zl_50, zl_51, zl_52, zl_53, zl_54, zl_55, zl_56, zl_57, zl_58, zl_59, zl_60, zl_61, zl_62, zl_63, zl_64, zl_65, zl_82, zl_99, zl_100, zl_160, zl_299, zl_300, zl_301, zl_382, zl_398, zl_399, zl_464, zl_680, zl_862, zl_999, zl_1000, zl_9999, zl_10000, zl_1000000, zl_m1, zl_m2, zl_m3, zl_m8, zl_87, zl_88] at hi_td hi_spp hk_fa c1 c5 c6 c10 c11 c15 c16 hz17 c18 hz19 hz20 hz21 hz23 hz25 hz27 ⊢); omega))
            refine z_iast Z hP hD hS 1 0 rfl rfl (vin (by decide)) dX12_tried_104 (fun H locs hP hD hS => ?_)
            have hrg29 := AK.s10 (v := z28) hrg26 (by first | with_reducible assumption | ((try simp only [zlt, zle, zeq, zl_0, zl_1, zl_2, zl_3, zl_4, zl_5, zl_6, zl_7, zl_8, zl_9, zl_10, zl_11, zl_12, zl_13, zl_14, zl_15, zl_16, zl_17, zl_18, zl_19, zl_20, zl_21, zl_22, zl_23, zl_24, zl_25, zl_26, zl_27, zl_28, zl_29, zl_30, zl_31, zl_32, zl_33, zl_34, zl_35, zl_36, zl_37, zl_38, zl_39, zl_40, zl_41, zl_42, zl_43, zl_44, zl_45, zl_46, zl_47, zl_48, zl_49, zl_50, zl_51, zl_52, zl_53, zl_54, zl_55, zl_56, zl_57, zl_58, zl_59, zl_60, zl_61, zl_62, zl_63, zl_64, zl_65, zl_82, zl_99, zl_100, zl_160, zl_299, zl_300, zl_301, zl_382, zl_398, zl_399, zl_464, zl_680, zl_862, zl_999, zl_1000, zl_9999, zl_10000, zl_1000000, zl_m1, zl_m2, zl_m3, zl_m8, zl_87, zl_88] at hi_td hi_spp hk_fa c1 c5 c6 c10 c11 c15 c16 hz17 c18 hz19 hz20 hz21 hz23 hz25 hz27 hz28 ⊢); omega))
            generalize upd g26 (10 : Int32).toNatClampNeg z28 = g29 at hP hD hrg29
            have hP : va_P D vwCl ([(q, .inr (12, [.ref aA, .ref aI, .ref xT, .ref tP_, .int td, .int fu, .int fp, .int at_, .int plc, .int tok, .int num, .long wrd, .int tx0, .int cls, .int wri, .int cam, .ref pI, .int pid, .int ope, .int isw, .int so0, .int onc, .ref nm, .ref vL, .ref tR, .int spp, .int eat, .int ste, .ref rW, .ref sP, .ref oT, .ref bS, .ref aS, .ref aO, .ref cS, .ref wY])), (aA, .inl (cI, 862, .inl g29))]) H := hP
            have hD : va_D A ([(q, .inr (12, [.ref aA, .ref aI, .ref xT, .ref tP_, .int td, .int fu, .int fp, .int at_, .int plc, .int tok, .int num, .long wrd, .int tx0, .int cls, .int wri, .int cam, .ref pI, .int pid, .int ope, .int isw, .int so0, .int onc, .ref nm, .ref vL, .ref tR, .int spp, .int eat, .int ste, .ref rW, .ref sP, .ref oT, .ref bS, .ref aS, .ref aO, .ref cS, .ref wY])), (aA, .inl (cI, 862, .inl g29))]) := hD
            refine lv_aload_n hx hb dX12_tried_105 rfl (lv_at hl 1 rfl) ?_
            refine z_get Z i_X12 hP 0 rfl rfl 0 (by decide) bw_1019 rfl dX12_tried_106 ?_
            refine lv_bipush (v := 10) hx hb dX12_tried_109 (by decide) ?_
            refine z_iald Z hP 1 0 rfl rfl (vin (by decide)) dX12_tried_111 ?_
            refine lv_topi (fun z30 ez30 => ?_)
            have hz30 : z30.toInt = (z28 : Int32).toInt := by rw [ez30]; exact AK.k10 hrg29
            exact z_ret Z rfl hP hD hS (⟨g29, ((z28 : Int32).toInt), rfl, hrg29, (by (try simp only [zlt, zle, zeq, zl_0, zl_1, zl_2, zl_3, zl_4, zl_5, zl_6, zl_7, zl_8, zl_9, zl_10, zl_11, zl_12, zl_13, zl_14, zl_15, zl_16, zl_17, zl_18, zl_19, zl_20, zl_21, zl_22, zl_23, zl_24, zl_25, zl_26, zl_27, zl_28, zl_29, zl_30, zl_31, zl_32, zl_33, zl_34, zl_35, zl_36, zl_37, zl_38, zl_39, zl_40, zl_41, zl_42, zl_43, zl_44, zl_45, zl_46, zl_47, zl_48, zl_49, zl_50, zl_51, zl_52, zl_53, zl_54, zl_55, zl_56, zl_57, zl_58, zl_59, zl_60, zl_61, zl_62, zl_63, zl_64, zl_65, zl_82, zl_99, zl_100, zl_160, zl_299, zl_300, zl_301, zl_382, zl_398, zl_399, zl_464, zl_680, zl_862, zl_999, zl_1000, zl_9999, zl_10000, zl_1000000, zl_m1, zl_m2, zl_m3, zl_m8, zl_87, zl_88, and_true, true_and, and_false, false_and, or_false, false_or, or_true, true_or, not_true_eq_false, not_false_eq_true] at hi_td hi_spp hk_fa c1 c5 c6 c10 c11 c15 c16 hz17 c18 hz19 hz20 hz21 hz23 hz25 hz27 hz28 hz30 ⊢) <;> omega)⟩) dX12_tried_112 (Nat.le_of_ble_eq_true rfl) (Nat.le_of_ble_eq_true rfl)
          · refine lv_bipush (v := (-2)) hx hb dX12_tried_49 (by decide) ?_
            exact z_ret Z rfl hP hD hS (⟨fa, kc10, rfl, hr_fa, (by (try simp only [zlt, zle, zeq, zl_0, zl_1, zl_2, zl_3, zl_4, zl_5, zl_6, zl_7, zl_8, zl_9, zl_10, zl_11, zl_12, zl_13, zl_14, zl_15, zl_16, zl_17, zl_18, zl_19, zl_20, zl_21, zl_22, zl_23, zl_24, zl_25, zl_26, zl_27, zl_28, zl_29, zl_30, zl_31, zl_32, zl_33, zl_34, zl_35, zl_36, zl_37, zl_38, zl_39, zl_40, zl_41, zl_42, zl_43, zl_44, zl_45, zl_46, zl_47, zl_48, zl_49, zl_50, zl_51, zl_52, zl_53, zl_54, zl_55, zl_56, zl_57, zl_58, zl_59, zl_60, zl_61, zl_62, zl_63, zl_64, zl_65, zl_82, zl_99, zl_100, zl_160, zl_299, zl_300, zl_301, zl_382, zl_398, zl_399, zl_464, zl_680, zl_862, zl_999, zl_1000, zl_9999, zl_10000, zl_1000000, zl_m1, zl_m2, zl_m3, zl_m8, zl_87, zl_88, and_true, true_and, and_false, false_and, or_false, false_or, or_true, true_or, not_true_eq_false, not_false_eq_true] at hi_td hi_spp hk_fa c1 c5 c6 c10 c11 c15 c16 hz17 c18 ⊢) <;> omega)⟩) dX12_tried_51 (Nat.le_of_ble_eq_true rfl) (Nat.le_of_ble_eq_true rfl)
        · obtain rfl : r13 = 0 := by rw [hrh14, if_neg c15]
          refine lv_if_eq (tgt := 49) hx hb dX12_tried_34 (by decide) (fun c31 => ?_) (fun h => absurd (by decide) h)
          refine lv_bipush (v := (-2)) hx hb dX12_tried_49 (by decide) ?_
          exact z_ret Z rfl hP hD hS (⟨fa, kc10, rfl, hr_fa, (by (try simp only [zlt, zle, zeq, zl_0, zl_1, zl_2, zl_3, zl_4, zl_5, zl_6, zl_7, zl_8, zl_9, zl_10, zl_11, zl_12, zl_13, zl_14, zl_15, zl_16, zl_17, zl_18, zl_19, zl_20, zl_21, zl_22, zl_23, zl_24, zl_25, zl_26, zl_27, zl_28, zl_29, zl_30, zl_31, zl_32, zl_33, zl_34, zl_35, zl_36, zl_37, zl_38, zl_39, zl_40, zl_41, zl_42, zl_43, zl_44, zl_45, zl_46, zl_47, zl_48, zl_49, zl_50, zl_51, zl_52, zl_53, zl_54, zl_55, zl_56, zl_57, zl_58, zl_59, zl_60, zl_61, zl_62, zl_63, zl_64, zl_65, zl_82, zl_99, zl_100, zl_160, zl_299, zl_300, zl_301, zl_382, zl_398, zl_399, zl_464, zl_680, zl_862, zl_999, zl_1000, zl_9999, zl_10000, zl_1000000, zl_m1, zl_m2, zl_m3, zl_m8, zl_87, zl_88, and_true, true_and, and_false, false_and, or_false, false_or, or_true, true_or, not_true_eq_false, not_false_eq_true] at hi_td hi_spp hk_fa c1 c5 c6 c10 c11 c15 c31 ⊢) <;> omega)⟩) dX12_tried_51 (Nat.le_of_ble_eq_true rfl) (Nat.le_of_ble_eq_true rfl)
      · obtain rfl : r8 = 0 := by rw [hrh9, if_neg c10]
        refine lv_if_eq (tgt := 49) hx hb dX12_tried_27 (by decide) (fun c32 => ?_) (fun h => absurd (by decide) h)
        refine lv_bipush (v := (-2)) hx hb dX12_tried_49 (by decide) ?_
        exact z_ret Z rfl hP hD hS (⟨fa, kc10, rfl, hr_fa, (by (try simp only [zlt, zle, zeq, zl_0, zl_1, zl_2, zl_3, zl_4, zl_5, zl_6, zl_7, zl_8, zl_9, zl_10, zl_11, zl_12, zl_13, zl_14, zl_15, zl_16, zl_17, zl_18, zl_19, zl_20, zl_21, zl_22, zl_23, zl_24, zl_25, zl_26, zl_27, zl_28, zl_29, zl_30, zl_31, zl_32, zl_33, zl_34, zl_35, zl_36, zl_37, zl_38, zl_39, zl_40, zl_41, zl_42, zl_43, zl_44, zl_45, zl_46, zl_47, zl_48, zl_49, zl_50, zl_51, zl_52, zl_53, zl_54, zl_55, zl_56, zl_57, zl_58, zl_59, zl_60, zl_61, zl_62, zl_63, zl_64, zl_65, zl_82, zl_99, zl_100, zl_160, zl_299, zl_300, zl_301, zl_382, zl_398, zl_399, zl_464, zl_680, zl_862, zl_999, zl_1000, zl_9999, zl_10000, zl_1000000, zl_m1, zl_m2, zl_m3, zl_m8, zl_87, zl_88, and_true, true_and, and_false, false_and, or_false, false_or, or_true, true_or, not_true_eq_false, not_false_eq_true] at hi_td hi_spp hk_fa c1 c5 c6 c10 c32 ⊢) <;> omega)⟩) dX12_tried_51 (Nat.le_of_ble_eq_true rfl) (Nat.le_of_ble_eq_true rfl)
    · obtain rfl : r3 = 0 := by rw [hrh4, if_neg c5]
      refine lv_if_eq (tgt := 49) hx hb dX12_tried_20 (by decide) (fun c33 => ?_) (fun h => absurd (by decide) h)
      refine lv_bipush (v := (-2)) hx hb dX12_tried_49 (by decide) ?_
      exact z_ret Z rfl hP hD hS (⟨fa, kc10, rfl, hr_fa, (by (try simp only [zlt, zle, zeq, zl_0, zl_1, zl_2, zl_3, zl_4, zl_5, zl_6, zl_7, zl_8, zl_9, zl_10, zl_11, zl_12, zl_13, zl_14, zl_15, zl_16, zl_17, zl_18, zl_19, zl_20, zl_21, zl_22, zl_23, zl_24, zl_25, zl_26, zl_27, zl_28, zl_29, zl_30, zl_31, zl_32, zl_33, zl_34, zl_35, zl_36, zl_37, zl_38, zl_39, zl_40, zl_41, zl_42, zl_43, zl_44, zl_45, zl_46, zl_47, zl_48, zl_49, zl_50, zl_51, zl_52, zl_53, zl_54, zl_55, zl_56, zl_57, zl_58, zl_59, zl_60, zl_61, zl_62, zl_63, zl_64, zl_65, zl_82, zl_99, zl_100, zl_160, zl_299, zl_300, zl_301, zl_382, zl_398, zl_399, zl_464, zl_680, zl_862, zl_999, zl_1000, zl_9999, zl_10000, zl_1000000, zl_m1, zl_m2, zl_m3, zl_m8, zl_87, zl_88, and_true, true_and, and_false, false_and, or_false, false_or, or_true, true_or, not_true_eq_false, not_false_eq_true] at hi_td hi_spp hk_fa c1 c5 c33 ⊢) <;> omega)⟩) dX12_tried_51 (Nat.le_of_ble_eq_true rfl) (Nat.le_of_ble_eq_true rfl)
  · refine lv_aload_n hx hb dX12_tried_5 rfl (lv_at hl 0 rfl) ?_
    refine z_get Z i_X12 hP 0 rfl rfl 0 (by decide) bw_1019 rfl dX12_tried_6 ?_
    refine lv_bipush (v := 10) hx hb dX12_tried_9 (by decide) ?_
    refine lv_iconst (v := 0) hx hb dX12_tried_11 (by decide) ?_
    refine z_iast Z hP hD hS 1 0 rfl rfl (vin (by decide)) dX12_tried_12 (fun H locs hP hD hS => ?_)
    have hrg34 := AK.s10 (v := 0) hr_fa (by decide)
    generalize upd fa (10 : Int32).toNatClampNeg 0 = g34 at hP hD hrg34
    have hP : va_P D vwCl ([(q, .inr (12, [.ref aA, .ref aI, .ref xT, .ref tP_, .int td, .int fu, .int fp, .int at_, .int plc, .int tok, .int num, .long wrd, .int tx0, .int cls, .int wri, .int cam, .ref pI, .int pid, .int ope, .int isw, .int so0, .int onc, .ref nm, .ref vL, .ref tR, .int spp, .int eat, .int ste, .ref rW, .ref sP, .ref oT, .ref bS, .ref aS, .ref aO, .ref cS, .ref wY])), (aA, .inl (cI, 862, .inl g34))]) H := hP
    have hD : va_D A ([(q, .inr (12, [.ref aA, .ref aI, .ref xT, .ref tP_, .int td, .int fu, .int fp, .int at_, .int plc, .int tok, .int num, .long wrd, .int tx0, .int cls, .int wri, .int cam, .ref pI, .int pid, .int ope, .int isw, .int so0, .int onc, .ref nm, .ref vL, .ref tR, .int spp, .int eat, .int ste, .ref rW, .ref sP, .ref oT, .ref bS, .ref aS, .ref aO, .ref cS, .ref wY])), (aA, .inl (cI, 862, .inl g34))]) := hD
    refine lv_iconst (v := 0) hx hb dX12_tried_13 (by decide) ?_
    exact z_ret Z rfl hP hD hS (⟨g34, ((0 : Int32).toInt), rfl, hrg34, (by (try simp only [zlt, zle, zeq, zl_0, zl_1, zl_2, zl_3, zl_4, zl_5, zl_6, zl_7, zl_8, zl_9, zl_10, zl_11, zl_12, zl_13, zl_14, zl_15, zl_16, zl_17, zl_18, zl_19, zl_20, zl_21, zl_22, zl_23, zl_24, zl_25, zl_26, zl_27, zl_28, zl_29, zl_30, zl_31, zl_32, zl_33, zl_34, zl_35, zl_36, zl_37, zl_38, zl_39, zl_40, zl_41, zl_42, zl_43, zl_44, zl_45, zl_46, zl_47, zl_48, zl_49, zl_50, zl_51, zl_52, zl_53, zl_54, zl_55, zl_56, zl_57, zl_58, zl_59, zl_60, zl_61, zl_62, zl_63, zl_64, zl_65, zl_82, zl_99, zl_100, zl_160, zl_299, zl_300, zl_301, zl_382, zl_398, zl_399, zl_464, zl_680, zl_862, zl_999, zl_1000, zl_9999, zl_10000, zl_1000000, zl_m1, zl_m2, zl_m3, zl_m8, zl_87, zl_88, and_true, true_and, and_false, false_and, or_false, false_or, or_true, true_or, not_true_eq_false, not_false_eq_true] at hi_td hi_spp hk_fa c1 ⊢) <;> omega)⟩) dX12_tried_14 (Nat.le_of_ble_eq_true rfl) (Nat.le_of_ble_eq_true rfl)
set_option maxHeartbeats 4000000 in
set_option maxRecDepth 100000 in
theorem lp_X12_innAt {p : Program} (l : Launch) {e : Env} {s : State} {m : MethodId} {below : List Frame} {meth : Method} {c : Code} {A : Nat → Prop} (D : va_G) (cI cM cT cJ cZ : ClassId) (q : Nat) (p0 : Int32) (aA : Nat) (aI : Nat) (xT : Nat) (tP_ : Nat) (td : Int32) (fu : Int32) (fp : Int32) (at_ : Int32) (plc : Int32) (tok : Int32) (num : Int32) (wrd : Int64) (tx0 : Int32) (cls : Int32) (wri : Int32) (cam : Int32) (pI : Nat) (pid : Int32) (ope : Int32) (isw : Int32) (so0 : Int32) (onc : Int32) (nm : Nat) (vL : Nat) (tR : Nat) (spp : Int32) (eat : Int32) (ste : Int32) (rW : Nat) (sP : Nat) (oT : Nat) (bS : Nat) (aS : Nat) (aO : Nat) (cS : Nat) (wY : Nat) (fa : Nat → Int32) (kc0 : Int) (kc1 : Int) (kc6 : Int) (kc9 : Int) (kc10 : Int) (Z : Zx p s m ([.ref q, .int p0] : List Value).toArray meth c cX12_innAt 3 (some .int) yX12_innAt.cls A (ty3 cI cM cT cJ cZ) D) (hi_td : 0 ≤ td.toInt ∧ td.toInt ≤ 300) (hi_spp : 0 ≤ spp.toInt ∧ spp.toInt ≤ 299) (hr_fa : AK kc0 kc1 kc6 kc9 kc10 fa) : ∀ (n0 : Nat) (j : Int32) (h0 : 0 ≤ j.toInt ∧ j.toInt ≤ 10), (10 - j.toInt).toNat < n0 → ∀ (H : Heap) (locs : List Loc) (ls : Array Slot), va_P D vwCl ([(q, .inr (12, [.ref aA, .ref aI, .ref xT, .ref tP_, .int td, .int fu, .int fp, .int at_, .int plc, .int tok, .int num, .long wrd, .int tx0, .int cls, .int wri, .int cam, .ref pI, .int pid, .int ope, .int isw, .int so0, .int onc, .ref nm, .ref vL, .ref tR, .int spp, .int eat, .int ste, .ref rW, .ref sP, .ref oT, .ref bS, .ref aS, .ref aO, .ref cS, .ref wY])), (aA, .inl (cI, 862, .inl fa))]) H → va_D A ([(q, .inr (12, [.ref aA, .ref aI, .ref xT, .ref tP_, .int td, .int fu, .int fp, .int at_, .int plc, .int tok, .int num, .long wrd, .int tx0, .int cls, .int wri, .int cam, .ref pI, .int pid, .int ope, .int isw, .int so0, .int onc, .ref nm, .ref vL, .ref tR, .int spp, .int eat, .int ste, .ref rW, .ref sP, .ref oT, .ref bS, .ref aS, .ref aO, .ref cS, .ref wY])), (aA, .inl (cI, 862, .inl fa))]) → va_S A s.heap H locs → lv_has ls 3 [(0, .ref q), (1, .int p0), (2, .int j)] → W p l e (rmv 0 0 0) s m ([.ref q, .int p0] : List Value).toArray below meth c H locs 0 0 (MQ below (va_Qi (fun r u => u = [(q, .inr (12, [.ref aA, .ref aI, .ref xT, .ref tP_, .int td, .int fu, .int fp, .int at_, .int plc, .int tok, .int num, .long wrd, .int tx0, .int cls, .int wri, .int cam, .ref pI, .int pid, .int ope, .int isw, .int so0, .int onc, .ref nm, .ref vL, .ref tR, .int spp, .int eat, .int ste, .ref rW, .ref sP, .ref oT, .ref bS, .ref aS, .ref aO, .ref cS, .ref wY])), (aA, .inl (cI, 862, .inl fa))]) (cB D (ty3 cI cM cT cJ cZ) A) A) ([.ref q, .int p0] : List Value).toArray s 0 0 A) (F0 m 2 ls []) := by
  have hx := Z.1
  have hb := Z.2.1
  intro n0
  induction n0 with
  | zero => intro j h0 hm; exact absurd hm (Nat.not_lt_zero _)
  | succ n0 ih =>
    intro j h0 hm H locs ls hP hD hS hl
    have hk_fa := AK.rng hr_fa
    refine lv_iload_n hx hb dX12_innAt_2 rfl (lv_at hl 2 rfl) ?_
    refine lv_aload_n hx hb dX12_innAt_3 rfl (lv_at hl 0 rfl) ?_
    refine z_get Z i_X12 hP 0 rfl rfl 0 (by decide) bw_1019 rfl dX12_innAt_4 ?_
    refine lv_iconst (v := 2) hx hb dX12_innAt_7 (by decide) ?_
    refine z_iald Z hP 1 0 rfl rfl (vin (by decide)) dX12_innAt_8 ?_
    refine lv_topi (fun z1 ez1 => ?_)
    have hz1 : 0 ≤ z1.toInt ∧ z1.toInt ≤ 10 := by rw [ez1]; exact AK.k2 hr_fa
    refine lv_icmp_ge (tgt := 33) hx hb dX12_innAt_9 (by decide) (fun c2 => ?_) (fun c2 => ?_)
    · refine lv_iconst (v := (-1)) hx hb dX12_innAt_33 (by decide) ?_
      exact z_ret Z rfl hP hD hS (rfl) dX12_innAt_34 (Nat.le_of_ble_eq_true rfl) (Nat.le_of_ble_eq_true rfl)
    · refine lv_aload_n hx hb dX12_innAt_12 rfl (lv_at hl 0 rfl) ?_
      refine z_get Z i_X12 hP 0 rfl rfl 0 (by decide) bw_1019 rfl dX12_innAt_13 ?_
      refine lv_bipush (v := 24) hx hb dX12_innAt_16 (by decide) ?_
      refine lv_iload_n hx hb dX12_innAt_18 rfl (lv_at hl 2 rfl) ?_
      refine lv_iadd hx hb dX12_innAt_19 ?_
      refine lv_topi (fun z3 ez3 => ?_)
      have hz3 : z3.toInt = 24 + j.toInt := by rw [ez3]; exact zaddg (by first | with_reducible assumption | ((try simp only [zlt, zle, zeq, zl_0, zl_1, zl_2, zl_3, zl_4, zl_5, zl_6, zl_7, zl_8, zl_9, zl_10, zl_11, zl_12, zl_13, zl_14, zl_15, zl_16, zl_17, zl_18, zl_19, zl_20, zl_21, zl_22, zl_23, zl_24, zl_25, zl_26, zl_27, zl_28, zl_29, zl_30, zl_31, zl_32, zl_33, zl_34, zl_35, zl_36, zl_37, zl_38, zl_39, zl_40, zl_41, zl_42, zl_43, zl_44, zl_45, zl_46, zl_47, zl_48, zl_49, zl_50, zl_51, zl_52, zl_53, zl_54, zl_55, zl_56, zl_57, zl_58, zl_59, zl_60, zl_61, zl_62, zl_63, zl_64, zl_65, zl_82, zl_99, zl_100, zl_160, zl_299, zl_300, zl_301, zl_382, zl_398, zl_399, zl_464, zl_680, zl_862, zl_999, zl_1000, zl_9999, zl_10000, zl_1000000, zl_m1, zl_m2, zl_m3, zl_m8, zl_87, zl_88] at hi_td hi_spp hk_fa h0 hm hz1 c2 ⊢); omega)) (by first | with_reducible assumption | ((try simp only [zlt, zle, zeq, zl_0, zl_1, zl_2, zl_3, zl_4, zl_5, zl_6, zl_7, zl_8, zl_9, zl_10, zl_11, zl_12, zl_13, zl_14, zl_15, zl_16, zl_17, zl_18, zl_19, zl_20, zl_21, zl_22, zl_23, zl_24, zl_25, zl_26, zl_27, zl_28, zl_29, zl_30, zl_31, zl_32, zl_33, zl_34, zl_35, zl_36, zl_37, zl_38, zl_39, zl_40, zl_41, zl_42, zl_43, zl_44, zl_45, zl_46, zl_47, zl_48, zl_49, zl_50, zl_51, zl_52, zl_53, zl_54, zl_55, zl_56, zl_57, zl_58, zl_59, zl_60, zl_61, zl_62, zl_63, zl_64, zl_65, zl_82, zl_99, zl_100, zl_160, zl_299, zl_300, zl_301, zl_382, zl_398, zl_399, zl_464, zl_680, zl_862, zl_999, zl_1000, zl_9999, zl_10000, zl_1000000, zl_m1, zl_m2, zl_m3, zl_m8, zl_87, zl_88] at hi_td hi_spp hk_fa h0 hm hz1 c2 ⊢); omega))
      refine z_iald Z hP 1 0 rfl rfl (vp_in_iff.mpr (by first | with_reducible assumption | ((try simp only [zlt, zle, zeq, zl_0, zl_1, zl_2, zl_3, zl_4, zl_5, zl_6, zl_7, zl_8, zl_9, zl_10, zl_11, zl_12, zl_13, zl_14, zl_15, zl_16, zl_17, zl_18, zl_19, zl_20, zl_21, zl_22, zl_23, zl_24, zl_25, zl_26, zl_27, zl_28, zl_29, zl_30, zl_31, zl_32, zl_33, zl_34, zl_35, zl_36, zl_37, zl_38, zl_39, zl_40, zl_41, zl_42, zl_43, zl_44, zl_45, zl_46, zl_47, zl_48, zl_49, zl_50, zl_51, zl_52, zl_53, zl_54, zl_55, zl_56, zl_57, zl_58, zl_59, zl_60, zl_61, zl_62, zl_63, zl_64, zl_65, zl_82, zl_99, zl_100, zl_160, zl_299, zl_300, zl_301, zl_382, zl_398, zl_399, zl_464, zl_680, zl_862, zl_999, zl_1000, zl_9999, zl_10000, zl_1000000, zl_m1, zl_m2, zl_m3, zl_m8, zl_87, zl_88] at hi_td hi_spp hk_fa h0 hm hz1 c2 hz3 ⊢); omega))) dX12_innAt_20 ?_
      refine lv_topi (fun z4 ez4 => ?_)
      have hz4 : 0 ≤ z4.toInt ∧ z4.toInt ≤ 299 := by rw [ez4]; exact AK.l_bi hr_fa (by first | with_reducible assumption | ((try simp only [zlt, zle, zeq, zl_0, zl_1, zl_2, zl_3, zl_4, zl_5, zl_6, zl_7, zl_8, zl_9, zl_10, zl_11, zl_12, zl_13, zl_14, zl_15, zl_16, zl_17, zl_18, zl_19, zl_20, zl_21, zl_22, zl_23, zl_24, zl_25, zl_26, zl_27, zl_28, zl_29, zl_30, zl_31, zl_32, zl_33, zl_34, zl_35, zl_36, zl_37, zl_38, zl_39, zl_40, zl_41, zl_42, zl_43, zl_44, zl_45, zl_46, zl_47, zl_48, zl_49, zl_50, zl_51, zl_52, zl_53, zl_54, zl_55, zl_56, zl_57, zl_58, zl_59, zl_60, zl_61, zl_62, zl_63, zl_64, zl_65, zl_82, zl_99, zl_100, zl_160, zl_299, zl_300, zl_301, zl_382, zl_398, zl_399, zl_464, zl_680, zl_862, zl_999, zl_1000, zl_9999, zl_10000, zl_1000000, zl_m1, zl_m2, zl_m3, zl_m8, zl_87, zl_88] at hi_td hi_spp hk_fa h0 hm hz1 c2 hz3 ⊢); omega))
      refine lv_iload_n hx hb dX12_innAt_21 rfl (lv_at hl 1 rfl) ?_
      refine lv_icmp_ne (tgt := 27) hx hb dX12_innAt_22 (by decide) (fun c5 => ?_) (fun c5 => ?_)
      · obtain ⟨z6, ez6⟩ : ∃ y : Int32, y = j + 1 := ⟨_, rfl⟩
        have hz6 : z6.toInt = j.toInt + 1 := by rw [ez6]; exact zaddg (by first | with_reducible assumption | ((try simp only [zlt, zle, zeq, zl_0, zl_1, zl_2, zl_3, zl_4, zl_5, zl_6, zl_7, zl_8, zl_9, zl_10, zl_11, zl_12, zl_13, zl_14, zl_15, zl_16, zl_17, zl_18, zl_19, zl_20, zl_21, zl_22, zl_23, zl_24, zl_25, zl_26, zl_27, zl_28, zl_29, zl_30, zl_31, zl_32, zl_33, zl_34, zl_35, zl_36, zl_37, zl_38, zl_39, zl_40, zl_41, zl_42, zl_43, zl_44, zl_45, zl_46, zl_47, zl_48, zl_49, zl_50, zl_51, zl_52, zl_53, zl_54, zl_55, zl_56, zl_57, zl_58, zl_59, zl_60, zl_61, zl_62, zl_63, zl_64, zl_65, zl_82, zl_99, zl_100, zl_160, zl_299, zl_300, zl_301, zl_382, zl_398, zl_399, zl_464, zl_680, zl_862, zl_999, zl_1000, zl_9999, zl_10000, zl_1000000, zl_m1, zl_m2, zl_m3, zl_m8, zl_87, zl_88] at hi_td hi_spp hk_fa h0 hm hz1 c2 hz3 hz4 c5 ⊢); omega)) (by first | with_reducible assumption | ((try simp only [zlt, zle, zeq, zl_0, zl_1, zl_2, zl_3, zl_4, zl_5, zl_6, zl_7, zl_8, zl_9, zl_10, zl_11, zl_12, zl_13, zl_14, zl_15, zl_16, zl_17, zl_18, zl_19, zl_20, zl_21, zl_22, zl_23, zl_24, zl_25, zl_26, zl_27, zl_28, zl_29, zl_30, zl_31, zl_32, zl_33, zl_34, zl_35, zl_36, zl_37, zl_38, zl_39, zl_40, zl_41, zl_42, zl_43, zl_44, zl_45, zl_46, zl_47, zl_48, zl_49, zl_50, zl_51, zl_52, zl_53, zl_54, zl_55, zl_56, zl_57, zl_58, zl_59, zl_60, zl_61, zl_62, zl_63, zl_64, zl_65, zl_82, zl_99, zl_100, zl_160, zl_299, zl_300, zl_301, zl_382, zl_398, zl_399, zl_464, zl_680, zl_862, zl_999, zl_1000, zl_9999, zl_10000, zl_1000000, zl_m1, zl_m2, zl_m3, zl_m8, zl_87, zl_88] at hi_td hi_spp hk_fa h0 hm hz1 c2 hz3 hz4 c5 ⊢); omega))
        refine lv_iinc (v := z6) (lv' := [(2, .int z6), (0, .ref q), (1, .int p0)]) hx hb dX12_innAt_27 hl (k := 2) rfl (by rw [ez6]; rfl) (by decide) rfl (fun ls hl => ?_)
        refine lv_goto (tgt := 2) hx hb dX12_innAt_30 (by decide) ?_
        exact ih z6 (by first | with_reducible assumption | ((try simp only [zlt, zle, zeq, zl_0, zl_1, zl_2, zl_3, zl_4, zl_5, zl_6, zl_7, zl_8, zl_9, zl_10, zl_11, zl_12, zl_13, zl_14, zl_15, zl_16, zl_17, zl_18, zl_19, zl_20, zl_21, zl_22, zl_23, zl_24, zl_25, zl_26, zl_27, zl_28, zl_29, zl_30, zl_31, zl_32, zl_33, zl_34, zl_35, zl_36, zl_37, zl_38, zl_39, zl_40, zl_41, zl_42, zl_43, zl_44, zl_45, zl_46, zl_47, zl_48, zl_49, zl_50, zl_51, zl_52, zl_53, zl_54, zl_55, zl_56, zl_57, zl_58, zl_59, zl_60, zl_61, zl_62, zl_63, zl_64, zl_65, zl_82, zl_99, zl_100, zl_160, zl_299, zl_300, zl_301, zl_382, zl_398, zl_399, zl_464, zl_680, zl_862, zl_999, zl_1000, zl_9999, zl_10000, zl_1000000, zl_m1, zl_m2, zl_m3, zl_m8, zl_87, zl_88] at hi_td hi_spp hk_fa h0 hm hz1 c2 hz3 hz4 c5 hz6 ⊢); omega)) (by first | with_reducible assumption | ((try simp only [zlt, zle, zeq, zl_0, zl_1, zl_2, zl_3, zl_4, zl_5, zl_6, zl_7, zl_8, zl_9, zl_10, zl_11, zl_12, zl_13, zl_14, zl_15, zl_16, zl_17, zl_18, zl_19, zl_20, zl_21, zl_22, zl_23, zl_24, zl_25, zl_26, zl_27, zl_28, zl_29, zl_30, zl_31, zl_32, zl_33, zl_34, zl_35, zl_36, zl_37, zl_38, zl_39, zl_40, zl_41, zl_42, zl_43, zl_44, zl_45, zl_46, zl_47, zl_48, zl_49, zl_50, zl_51, zl_52, zl_53, zl_54, zl_55, zl_56, zl_57, zl_58, zl_59, zl_60, zl_61, zl_62, zl_63, zl_64, zl_65, zl_82, zl_99, zl_100, zl_160, zl_299, zl_300, zl_301, zl_382, zl_398, zl_399, zl_464, zl_680, zl_862, zl_999, zl_1000, zl_9999, zl_10000, zl_1000000, zl_m1, zl_m2, zl_m3, zl_m8, zl_87, zl_88] at hi_td hi_spp hk_fa h0 hm hz1 c2 hz3 hz4 c5 hz6 ⊢); omega)) _ _ _ hP hD hS (lv_sub hl [1, 2, 0] rfl)
      · refine lv_iload_n hx hb dX12_innAt_25 rfl (lv_at hl 2 rfl) ?_
        exact z_ret Z rfl hP hD hS (rfl) dX12_innAt_26 (Nat.le_of_ble_eq_true rfl) (Nat.le_of_ble_eq_true rfl)
set_option maxHeartbeats 4000000 in
set_option maxRecDepth 100000 in
theorem c_X12_innAt (l : Launch) (D : va_G) (cI cM cT cJ cZ : ClassId) (q : Nat) (p0 : Int32) (aA : Nat) (aI : Nat) (xT : Nat) (tP_ : Nat) (td : Int32) (fu : Int32) (fp : Int32) (at_ : Int32) (plc : Int32) (tok : Int32) (num : Int32) (wrd : Int64) (tx0 : Int32) (cls : Int32) (wri : Int32) (cam : Int32) (pI : Nat) (pid : Int32) (ope : Int32) (isw : Int32) (so0 : Int32) (onc : Int32) (nm : Nat) (vL : Nat) (tR : Nat) (spp : Int32) (eat : Int32) (ste : Int32) (rW : Nat) (sP : Nat) (oT : Nat) (bS : Nat) (aS : Nat) (aO : Nat) (cS : Nat) (wY : Nat) (fa : Nat → Int32) (kc0 : Int) (kc1 : Int) (kc6 : Int) (kc9 : Int) (kc10 : Int) (hi_td : 0 ≤ td.toInt ∧ td.toInt ≤ 300) (hi_spp : 0 ≤ spp.toInt ∧ spp.toInt ≤ 299) (hr_fa : AK kc0 kc1 kc6 kc9 kc10 fa) : Ci l D (ty3 cI cM cT cJ cZ) yX12_innAt cX12_innAt 3 (some .int) 0 0 0 [.ref q, .int p0] ([(q, .inr (12, [.ref aA, .ref aI, .ref xT, .ref tP_, .int td, .int fu, .int fp, .int at_, .int plc, .int tok, .int num, .long wrd, .int tx0, .int cls, .int wri, .int cam, .ref pI, .int pid, .int ope, .int isw, .int so0, .int onc, .ref nm, .ref vL, .ref tR, .int spp, .int eat, .int ste, .ref rW, .ref sP, .ref oT, .ref bS, .ref aS, .ref aO, .ref cS, .ref wY])), (aA, .inl (cI, 862, .inl fa))]) (fun r u => u = [(q, .inr (12, [.ref aA, .ref aI, .ref xT, .ref tP_, .int td, .int fu, .int fp, .int at_, .int plc, .int tok, .int num, .long wrd, .int tx0, .int cls, .int wri, .int cam, .ref pI, .int pid, .int ope, .int isw, .int so0, .int onc, .ref nm, .ref vL, .ref tR, .int spp, .int eat, .int ste, .ref rW, .ref sP, .ref oT, .ref bS, .ref aS, .ref aO, .ref cS, .ref wY])), (aA, .inl (cI, 862, .inl fa))]) := by
  refine Ci.of (by decide +kernel) (Nat.le_of_ble_eq_true rfl) ?_
  intro p e s m below meth c A ls Z hin hP hD hl
  have hx := Z.1
  have hb := Z.2.1
  have hS : va_S A s.heap s.heap [] := va_S.rf
  have hl : lv_has ls 3 [(0, .ref q), (1, .int p0)] := hl
  skip
  have hk_fa := AK.rng hr_fa
  refine lv_iconst (v := 0) hx hb dX12_innAt_0 (by decide) ?_
  refine lv_istore_n (lv' := [(2, .int 0), (0, .ref q), (1, .int p0)]) hx hb dX12_innAt_1 rfl hl (by decide) rfl (fun ls hl => ?_)
  refine W.widen (k := 0) (n := 0) (Nat.le_of_ble_eq_true rfl) (Nat.le_of_ble_eq_true rfl) ?_
  exact lp_X12_innAt l D cI cM cT cJ cZ q p0 aA aI xT tP_ td fu fp at_ plc tok num wrd tx0 cls wri cam pI pid ope isw so0 onc nm vL tR spp eat ste rW sP oT bS aS aO cS wY fa kc0 kc1 kc6 kc9 kc10 Z hi_td hi_spp hr_fa  _ 0 (by first | with_reducible assumption | ((try simp only [zlt, zle, zeq, zl_0, zl_1, zl_2, zl_3, zl_4, zl_5, zl_6, zl_7, zl_8, zl_9, zl_10, zl_11, zl_12, zl_13, zl_14, zl_15, zl_16, zl_17, zl_18, zl_19, zl_20, zl_21, zl_22, zl_23, zl_24, zl_25, zl_26, zl_27, zl_28, zl_29, zl_30, zl_31, zl_32, zl_33, zl_34, zl_35, zl_36, zl_37, zl_38, zl_39, zl_40, zl_41, zl_42, zl_43, zl_44, zl_45, zl_46, zl_47, zl_48, zl_49, zl_50, zl_51, zl_52, zl_53, zl_54, zl_55, zl_56, zl_57, zl_58, zl_59, zl_60, zl_61, zl_62, zl_63, zl_64, zl_65, zl_82, zl_99, zl_100, zl_160, zl_299, zl_300, zl_301, zl_382, zl_398, zl_399, zl_464, zl_680, zl_862, zl_999, zl_1000, zl_9999, zl_10000, zl_1000000, zl_m1, zl_m2, zl_m3, zl_m8, zl_87, zl_88] at hi_td hi_spp hk_fa ⊢); omega)) (Nat.lt_succ_self _) _ _ _ hP hD hS (lv_sub hl [1, 2, 0] rfl)
set_option maxHeartbeats 4000000 in
set_option maxRecDepth 100000 in
theorem c_X12_coach (l : Launch) (D : va_G) (cI cM cT cJ cZ : ClassId) (q : Nat) (p0 : Int32) (aA : Nat) (aI : Nat) (xT : Nat) (tP_ : Nat) (td : Int32) (fu : Int32) (fp : Int32) (at_ : Int32) (plc : Int32) (tok : Int32) (num : Int32) (wrd : Int64) (tx0 : Int32) (cls : Int32) (wri : Int32) (cam : Int32) (pI : Nat) (pid : Int32) (ope : Int32) (isw : Int32) (so0 : Int32) (onc : Int32) (nm : Nat) (vL : Nat) (tR : Nat) (spp : Int32) (eat : Int32) (ste : Int32) (rW : Nat) (sP : Nat) (oT : Nat) (bS : Nat) (aS : Nat) (aO : Nat) (cS : Nat) (wY : Nat) (fa : Nat → Int32) (kc0 : Int) (kc1 : Int) (kc6 : Int) (kc9 : Int) (kc10 : Int) (hi_td : 0 ≤ td.toInt ∧ td.toInt ≤ 300) (hi_spp : 0 ≤ spp.toInt ∧ spp.toInt ≤ 299) (hr_fa : AK kc0 kc1 kc6 kc9 kc10 fa) : Ci l D (ty3 cI cM cT cJ cZ) yX12_coach cX12_coach 2 (some .int) 1 0 0 [.ref q, .int p0] ([(q, .inr (12, [.ref aA, .ref aI, .ref xT, .ref tP_, .int td, .int fu, .int fp, .int at_, .int plc, .int tok, .int num, .long wrd, .int tx0, .int cls, .int wri, .int cam, .ref pI, .int pid, .int ope, .int isw, .int so0, .int onc, .ref nm, .ref vL, .ref tR, .int spp, .int eat, .int ste, .ref rW, .ref sP, .ref oT, .ref bS, .ref aS, .ref aO, .ref cS, .ref wY])), (aA, .inl (cI, 862, .inl fa))]) (fun r u => u = [(q, .inr (12, [.ref aA, .ref aI, .ref xT, .ref tP_, .int td, .int fu, .int fp, .int at_, .int plc, .int tok, .int num, .long wrd, .int tx0, .int cls, .int wri, .int cam, .ref pI, .int pid, .int ope, .int isw, .int so0, .int onc, .ref nm, .ref vL, .ref tR, .int spp, .int eat, .int ste, .ref rW, .ref sP, .ref oT, .ref bS, .ref aS, .ref aO, .ref cS, .ref wY])), (aA, .inl (cI, 862, .inl fa))]) := by
  refine Ci.of (by decide +kernel) (Nat.le_of_ble_eq_true rfl) ?_
  intro p e s m below meth c A ls Z hin hP hD hl
  have hx := Z.1
  have hb := Z.2.1
  have hS : va_S A s.heap s.heap [] := va_S.rf
  have hl : lv_has ls 2 [(0, .ref q), (1, .int p0)] := hl
  skip
  have hk_fa := AK.rng hr_fa
  refine lv_iload_n hx hb dX12_coach_0 rfl (lv_at hl 1 rfl) ?_
  refine lv_iconst (v := 0) hx hb dX12_coach_1 (by decide) ?_
  refine lv_iconst (v := 2) hx hb dX12_coach_2 (by decide) ?_
  have hPc := hP.sub2 (wc := []) [] rfl
  have hDc := hD.sub (ws' := []) [] (by decide) rfl
  refine raw_Si (nA := 3) (As := [.int p0, .int 0, .int 2]) (rest := []) Z hl.1 (c_X12_isIn l D cI cM cT cJ cZ p0 0 2) (bw_S bw_1135 bw_1136 bw_92 bw_1137) ⟨by decide +kernel, by decide +kernel, by decide +kernel⟩ rfl ⟨Nat.le_of_ble_eq_true rfl, Nat.le_of_ble_eq_true rfl⟩ hPc hDc hS rfl (Nat.le_of_ble_eq_true rfl) dX12_coach_3 ⟨Nat.le_of_ble_eq_true rfl, Nat.le_of_ble_eq_true rfl⟩ (fun r2 u1 H1 locs1 h3 hku1 hP1 hD1 hS1 => ?_)
  obtain ⟨hrh3, rfl⟩ := h3
  obtain ⟨hP, hD⟩ := z_join (wr := [(q, .inr (12, [.ref aA, .ref aI, .ref xT, .ref tP_, .int td, .int fu, .int fp, .int at_, .int plc, .int tok, .int num, .long wrd, .int tx0, .int cls, .int wri, .int cam, .ref pI, .int pid, .int ope, .int isw, .int so0, .int onc, .ref nm, .ref vL, .ref tR, .int spp, .int eat, .int ste, .ref rW, .ref sP, .ref oT, .ref bS, .ref aS, .ref aO, .ref cS, .ref wY])), (aA, .inl (cI, 862, .inl fa))]) Z hS hP hD [] [0, 1] rfl (by decide) rfl (by decide) (by decide) hku1 hP1 hD1
  have hS := hS1
  clear hS1
  generalize H1 = H at hP hS ⊢
  generalize locs1 = locs at hS ⊢
  have hP : va_P D vwCl ([(q, .inr (12, [.ref aA, .ref aI, .ref xT, .ref tP_, .int td, .int fu, .int fp, .int at_, .int plc, .int tok, .int num, .long wrd, .int tx0, .int cls, .int wri, .int cam, .ref pI, .int pid, .int ope, .int isw, .int so0, .int onc, .ref nm, .ref vL, .ref tR, .int spp, .int eat, .int ste, .ref rW, .ref sP, .ref oT, .ref bS, .ref aS, .ref aO, .ref cS, .ref wY])), (aA, .inl (cI, 862, .inl fa))]) H := hP
  have hD : va_D A ([(q, .inr (12, [.ref aA, .ref aI, .ref xT, .ref tP_, .int td, .int fu, .int fp, .int at_, .int plc, .int tok, .int num, .long wrd, .int tx0, .int cls, .int wri, .int cam, .ref pI, .int pid, .int ope, .int isw, .int so0, .int onc, .ref nm, .ref vL, .ref tR, .int spp, .int eat, .int ste, .ref rW, .ref sP, .ref oT, .ref bS, .ref aS, .ref aO, .ref cS, .ref wY])), (aA, .inl (cI, 862, .inl fa))]) := hD
  by_cases c4 : 0 ≤ p0 ∧ p0 ≤ 2
  · obtain rfl : r2 = 1 := by rw [hrh3, if_pos c4]
    refine lv_if_eq (tgt := 21) hx hb dX12_coach_6 (by decide) (fun h => absurd h (by decide)) (fun c5 => ?_)
    refine lv_aload_n hx hb dX12_coach_9 rfl (lv_at hl 0 rfl) ?_
    refine z_get Z i_X12 hP 0 rfl rfl 0 (by decide) bw_1019 rfl dX12_coach_10 ?_
    refine lv_bipush (v := 12) hx hb dX12_coach_13 (by decide) ?_
    refine lv_iload_n hx hb dX12_coach_15 rfl (lv_at hl 1 rfl) ?_
    refine lv_iadd hx hb dX12_coach_16 ?_
    refine lv_topi (fun z6 ez6 => ?_)
    have hz6 : z6.toInt = 12 + p0.toInt := by rw [ez6]; exact zaddg (by first | with_reducible assumption | ((try simp only [zlt, zle, zeq, zl_0, zl_1, zl_2, zl_3, zl_4, zl_5, zl_6, zl_7, zl_8, zl_9, zl_10, zl_11, zl_12, zl_13, zl_14, zl_15, zl_16, zl_17, zl_18, zl_19, zl_20, zl_21, zl_22, zl_23, zl_24, zl_25, zl_26, zl_27, zl_28, zl_29, zl_30, zl_31, zl_32, zl_33, zl_34, zl_35, zl_36, zl_37, zl_38, zl_39, zl_40, zl_41, zl_42, zl_43, zl_44, zl_45, zl_46, zl_47, zl_48, zl_49, zl_50, zl_51, zl_52, zl_53, zl_54, zl_55, zl_56, zl_57, zl_58, zl_59, zl_60, zl_61, zl_62, zl_63, zl_64, zl_65, zl_82, zl_99, zl_100, zl_160, zl_299, zl_300, zl_301, zl_382, zl_398, zl_399, zl_464, zl_680, zl_862, zl_999, zl_1000, zl_9999, zl_10000, zl_1000000, zl_m1, zl_m2, zl_m3, zl_m8, zl_87, zl_88] at hi_td hi_spp hk_fa c4 c5 ⊢); omega)) (by first | with_reducible assumption | ((try simp only [zlt, zle, zeq, zl_0, zl_1, zl_2, zl_3, zl_4, zl_5, zl_6, zl_7, zl_8, zl_9, zl_10, zl_11, zl_12, zl_13, zl_14, zl_15, zl_16, zl_17, zl_18, zl_19, zl_20, zl_21, zl_22, zl_23, zl_24, zl_25, zl_26, zl_27, zl_28, zl_29, zl_30, zl_31, zl_32, zl_33, zl_34, zl_35, zl_36, zl_37, zl_38, zl_39, zl_40, zl_41, zl_42, zl_43, zl_44, zl_45, zl_46, zl_47, zl_48, zl_49, zl_50, zl_51, zl_52, zl_53, zl_54, zl_55, zl_56, zl_57, zl_58, zl_59, zl_60, zl_61, zl_62, zl_63, zl_64, zl_65, zl_82, zl_99, zl_100, zl_160, zl_299, zl_300, zl_301, zl_382, zl_398, zl_399, zl_464, zl_680, zl_862, zl_999, zl_1000, zl_9999, zl_10000, zl_1000000, zl_m1, zl_m2, zl_m3, zl_m8, zl_87, zl_88] at hi_td hi_spp hk_fa c4 c5 ⊢); omega))
    refine z_iald Z hP 1 0 rfl rfl (vp_in_iff.mpr (by first | with_reducible assumption | ((try simp only [zlt, zle, zeq, zl_0, zl_1, zl_2, zl_3, zl_4, zl_5, zl_6, zl_7, zl_8, zl_9, zl_10, zl_11, zl_12, zl_13, zl_14, zl_15, zl_16, zl_17, zl_18, zl_19, zl_20, zl_21, zl_22, zl_23, zl_24, zl_25, zl_26, zl_27, zl_28, zl_29, zl_30, zl_31, zl_32, zl_33, zl_34, zl_35, zl_36, zl_37, zl_38, zl_39, zl_40, zl_41, zl_42, zl_43, zl_44, zl_45, zl_46, zl_47, zl_48, zl_49, zl_50, zl_51, zl_52, zl_53, zl_54, zl_55, zl_56, zl_57, zl_58, zl_59, zl_60, zl_61, zl_62, zl_63, zl_64, zl_65, zl_82, zl_99, zl_100, zl_160, zl_299, zl_300, zl_301, zl_382, zl_398, zl_399, zl_464, zl_680, zl_862, zl_999, zl_1000, zl_9999, zl_10000, zl_1000000, zl_m1, zl_m2, zl_m3, zl_m8, zl_87, zl_88] at hi_td hi_spp hk_fa c4 c5 hz6 ⊢); omega))) dX12_coach_17 ?_
    refine lv_topi (fun z7 ez7 => ?_)
    refine lv_goto (tgt := 41) hx hb dX12_coach_18 (by decide) ?_
    exact z_ret Z rfl hP hD hS (rfl) dX12_coach_41 (Nat.le_of_ble_eq_true rfl) (Nat.le_of_ble_eq_true rfl)
  · obtain rfl : r2 = 0 := by rw [hrh3, if_neg c4]
    refine lv_if_eq (tgt := 21) hx hb dX12_coach_6 (by decide) (fun c8 => ?_) (fun h => absurd (by decide) h)
    refine lv_iload_n hx hb dX12_coach_21 rfl (lv_at hl 1 rfl) ?_
    refine lv_iconst (v := 3) hx hb dX12_coach_22 (by decide) ?_
    refine lv_icmp_ne (tgt := 40) hx hb dX12_coach_23 (by decide) (fun c9 => ?_) (fun c9 => ?_)
    · refine lv_iconst (v := (-1)) hx hb dX12_coach_40 (by decide) ?_
      exact z_ret Z rfl hP hD hS (rfl) dX12_coach_41 (Nat.le_of_ble_eq_true rfl) (Nat.le_of_ble_eq_true rfl)
    · refine lv_aload_n hx hb dX12_coach_26 rfl (lv_at hl 0 rfl) ?_
      refine lv_aload_n hx hb dX12_coach_27 rfl (lv_at hl 0 rfl) ?_
      refine z_get Z i_X12 hP 0 rfl rfl 0 (by decide) bw_1019 rfl dX12_coach_28 ?_
      refine lv_bipush (v := 12) hx hb dX12_coach_31 (by decide) ?_
      refine z_iald Z hP 1 0 rfl rfl (vin (by decide)) dX12_coach_33 ?_
      refine lv_topi (fun z10 ez10 => ?_)
      have hz10 : 0 ≤ z10.toInt ∧ z10.toInt ≤ 299 := by rw [ez10]; exact AK.k12 hr_fa
      have hPc := hP.sub2 (wc := [(q, .inr (12, [.ref aA, .ref aI, .ref xT, .ref tP_, .int td, .int fu, .int fp, .int at_, .int plc, .int tok, .int num, .long wrd, .int tx0, .int cls, .int wri, .int cam, .ref pI, .int pid, .int ope, .int isw, .int so0, .int onc, .ref nm, .ref vL, .ref tR, .int spp, .int eat, .int ste, .ref rW, .ref sP, .ref oT, .ref bS, .ref aS, .ref aO, .ref cS, .ref wY])), (aA, .inl (cI, 862, .inl fa))]) [0, 1] rfl
      have hDc := hD.sub (ws' := [(q, .inr (12, [.ref aA, .ref aI, .ref xT, .ref tP_, .int td, .int fu, .int fp, .int at_, .int plc, .int tok, .int num, .long wrd, .int tx0, .int cls, .int wri, .int cam, .ref pI, .int pid, .int ope, .int isw, .int so0, .int onc, .ref nm, .ref vL, .ref tR, .int spp, .int eat, .int ste, .ref rW, .ref sP, .ref oT, .ref bS, .ref aS, .ref aO, .ref cS, .ref wY])), (aA, .inl (cI, 862, .inl fa))]) [0, 1] (by decide) rfl
      refine raw_Vi (ci := 12) (q0 := 0) (nA := 1) (As := [.int z10]) (rest := []) Z hl.1 (c_X12_innAt l D cI cM cT cJ cZ q z10 aA aI xT tP_ td fu fp at_ plc tok num wrd tx0 cls wri cam pI pid ope isw so0 onc nm vL tR spp eat ste rW sP oT bS aS aO cS wY fa kc0 kc1 kc6 kc9 kc10 (by first | with_reducible assumption | ((try simp only [zlt, zle, zeq, zl_0, zl_1, zl_2, zl_3, zl_4, zl_5, zl_6, zl_7, zl_8, zl_9, zl_10, zl_11, zl_12, zl_13, zl_14, zl_15, zl_16, zl_17, zl_18, zl_19, zl_20, zl_21, zl_22, zl_23, zl_24, zl_25, zl_26, zl_27, zl_28, zl_29, zl_30, zl_31, zl_32, zl_33, zl_34, zl_35, zl_36, zl_37, zl_38, zl_39, zl_40, zl_41, zl_42, zl_43, zl_44, zl_45, zl_46, zl_47, zl_48, zl_49, zl_50, zl_51, zl_52, zl_53, zl_54, zl_55, zl_56, zl_57, zl_58, zl_59, zl_60, zl_61, zl_62, zl_63, zl_64, zl_65, zl_82, zl_99, zl_100, zl_160, zl_299, zl_300, zl_301, zl_382, zl_398, zl_399, zl_464, zl_680, zl_862, zl_999, zl_1000, zl_9999, zl_10000, zl_1000000, zl_m1, zl_m2, zl_m3, zl_m8, zl_87, zl_88] at hi_td hi_spp hk_fa c4 c8 c9 hz10 ⊢); omega)) (by first | with_reducible assumption | ((try simp only [zlt, zle, zeq, zl_0, zl_1, zl_2, zl_3, zl_4, zl_5, zl_6, zl_7, zl_8, zl_9, zl_10, zl_11, zl_12, zl_13, zl_14, zl_15, zl_16, zl_17, zl_18, zl_19, zl_20, zl_21, zl_22, zl_23, zl_24, zl_25, zl_26, zl_27, zl_28, zl_29, zl_30, zl_31, zl_32, zl_33, zl_34, zl_35, zl_36, zl_37, zl_38, zl_39, zl_40, zl_41, zl_42, zl_43, zl_44, zl_45, zl_46, zl_47, zl_48, zl_49, zl_50, zl_51, zl_52, zl_53, zl_54, zl_55, zl_56, zl_57, zl_58, zl_59, zl_60, zl_61, zl_62, zl_63, zl_64, zl_65, zl_82, zl_99, zl_100, zl_160, zl_299, zl_300, zl_301, zl_382, zl_398, zl_399, zl_464, zl_680, zl_862, zl_999, zl_1000, zl_9999, zl_10000, zl_1000000, zl_m1, zl_m2, zl_m3, zl_m8, zl_87, zl_88] at hi_td hi_spp hk_fa c4 c8 c9 hz10 ⊢); omega)) hr_fa) (bw_V bw_1382 bw_1384 bw_70 bw_92 bw_1385) ⟨by decide +kernel, by decide +kernel, by decide +kernel⟩ rfl ⟨Nat.le_of_ble_eq_true rfl, Nat.le_of_ble_eq_true rfl⟩ rfl rfl rfl hPc hDc hS rfl (Nat.le_of_ble_eq_true rfl) dX12_coach_34 ⟨Nat.le_of_ble_eq_true rfl, Nat.le_of_ble_eq_true rfl⟩ (fun r12 u11 H1 locs1 h13 hku11 hP1 hD1 hS1 => ?_)
      obtain rfl := h13
      obtain ⟨hP, hD⟩ := z_join (wr := []) Z hS hP hD [0, 1] [] rfl (by decide) rfl (by decide) (by decide) hku11 hP1 hD1
      have hS := hS1
      clear hS1
      generalize H1 = H at hP hS ⊢
      generalize locs1 = locs at hS ⊢
      have hP : va_P D vwCl ([(q, .inr (12, [.ref aA, .ref aI, .ref xT, .ref tP_, .int td, .int fu, .int fp, .int at_, .int plc, .int tok, .int num, .long wrd, .int tx0, .int cls, .int wri, .int cam, .ref pI, .int pid, .int ope, .int isw, .int so0, .int onc, .ref nm, .ref vL, .ref tR, .int spp, .int eat, .int ste, .ref rW, .ref sP, .ref oT, .ref bS, .ref aS, .ref aO, .ref cS, .ref wY])), (aA, .inl (cI, 862, .inl fa))]) H := hP
      have hD : va_D A ([(q, .inr (12, [.ref aA, .ref aI, .ref xT, .ref tP_, .int td, .int fu, .int fp, .int at_, .int plc, .int tok, .int num, .long wrd, .int tx0, .int cls, .int wri, .int cam, .ref pI, .int pid, .int ope, .int isw, .int so0, .int onc, .ref nm, .ref vL, .ref tR, .int spp, .int eat, .int ste, .ref rW, .ref sP, .ref oT, .ref bS, .ref aS, .ref aO, .ref cS, .ref wY])), (aA, .inl (cI, 862, .inl fa))]) := hD
      refine lv_goto (tgt := 41) hx hb dX12_coach_37 (by decide) ?_
      exact z_ret Z rfl hP hD hS (rfl) dX12_coach_41 (Nat.le_of_ble_eq_true rfl) (Nat.le_of_ble_eq_true rfl)
set_option maxHeartbeats 4000000 in
set_option maxRecDepth 100000 in
theorem c_X12_about (l : Launch) (D : va_G) (cI cM cT cJ cZ : ClassId) (q : Nat) (p0 : Int32) (aA : Nat) (aI : Nat) (xT : Nat) (tP_ : Nat) (td : Int32) (fu : Int32) (fp : Int32) (at_ : Int32) (plc : Int32) (tok : Int32) (num : Int32) (wrd : Int64) (tx0 : Int32) (cls : Int32) (wri : Int32) (cam : Int32) (pI : Nat) (pid : Int32) (ope : Int32) (isw : Int32) (so0 : Int32) (onc : Int32) (nm : Nat) (vL : Nat) (tR : Nat) (spp : Int32) (eat : Int32) (ste : Int32) (rW : Nat) (sP : Nat) (oT : Nat) (bS : Nat) (aS : Nat) (aO : Nat) (cS : Nat) (wY : Nat) (fa : Nat → Int32) (kc0 : Int) (kc1 : Int) (kc6 : Int) (kc9 : Int) (kc10 : Int) (hi_td : 0 ≤ td.toInt ∧ td.toInt ≤ 300) (hi_spp : 0 ≤ spp.toInt ∧ spp.toInt ≤ 299) (hr_fa : AK kc0 kc1 kc6 kc9 kc10 fa) : Ci l D (ty3 cI cM cT cJ cZ) yX12_about cX12_about 2 (some .int) 1 0 0 [.ref q, .int p0] ([(q, .inr (12, [.ref aA, .ref aI, .ref xT, .ref tP_, .int td, .int fu, .int fp, .int at_, .int plc, .int tok, .int num, .long wrd, .int tx0, .int cls, .int wri, .int cam, .ref pI, .int pid, .int ope, .int isw, .int so0, .int onc, .ref nm, .ref vL, .ref tR, .int spp, .int eat, .int ste, .ref rW, .ref sP, .ref oT, .ref bS, .ref aS, .ref aO, .ref cS, .ref wY])), (aA, .inl (cI, 862, .inl fa))]) (fun r u => u = [(q, .inr (12, [.ref aA, .ref aI, .ref xT, .ref tP_, .int td, .int fu, .int fp, .int at_, .int plc, .int tok, .int num, .long wrd, .int tx0, .int cls, .int wri, .int cam, .ref pI, .int pid, .int ope, .int isw, .int so0, .int onc, .ref nm, .ref vL, .ref tR, .int spp, .int eat, .int ste, .ref rW, .ref sP, .ref oT, .ref bS, .ref aS, .ref aO, .ref cS, .ref wY])), (aA, .inl (cI, 862, .inl fa))]) := by
  refine Ci.of (by decide +kernel) (Nat.le_of_ble_eq_true rfl) ?_
  intro p e s m below meth c A ls Z hin hP hD hl
  have hx := Z.1
  have hb := Z.2.1
  have hS : va_S A s.heap s.heap [] := va_S.rf
  have hl : lv_has ls 2 [(0, .ref q), (1, .int p0)] := hl
  skip
  have hk_fa := AK.rng hr_fa
  refine lv_iload_n hx hb dX12_about_0 rfl (lv_at hl 1 rfl) ?_
  refine lv_bipush (v := 20) hx hb dX12_about_1 (by decide) ?_
  refine lv_bipush (v := 19) hx hb dX12_about_3 (by decide) ?_
  refine lv_aload_n hx hb dX12_about_5 rfl (lv_at hl 0 rfl) ?_
  refine z_get Z i_X12 hP 0 rfl rfl 0 (by decide) bw_1019 rfl dX12_about_6 ?_
  refine lv_iconst (v := 2) hx hb dX12_about_9 (by decide) ?_
  refine z_iald Z hP 1 0 rfl rfl (vin (by decide)) dX12_about_10 ?_
  refine lv_topi (fun z1 ez1 => ?_)
  have hz1 : 0 ≤ z1.toInt ∧ z1.toInt ≤ 10 := by rw [ez1]; exact AK.k2 hr_fa
  refine lv_iadd hx hb dX12_about_11 ?_
  refine lv_topi (fun z2 ez2 => ?_)
  have hz2 : z2.toInt = 19 + z1.toInt := by rw [ez2]; exact zaddg (by first | with_reducible assumption | ((try simp only [zlt, zle, zeq, zl_0, zl_1, zl_2, zl_3, zl_4, zl_5, zl_6, zl_7, zl_8, zl_9, zl_10, zl_11, zl_12, zl_13, zl_14, zl_15, zl_16, zl_17, zl_18, zl_19, zl_20, zl_21, zl_22, zl_23, zl_24, zl_25, zl_26, zl_27, zl_28, zl_29, zl_30, zl_31, zl_32, zl_33, zl_34, zl_35, zl_36, zl_37, zl_38, zl_39, zl_40, zl_41, zl_42, zl_43, zl_44, zl_45, zl_46, zl_47, zl_48, zl_49, zl_50, zl_51, zl_52, zl_53, zl_54, zl_55, zl_56, zl_57, zl_58, zl_59, zl_60, zl_61, zl_62, zl_63, zl_64, zl_65, zl_82, zl_99, zl_100, zl_160, zl_299, zl_300, zl_301, zl_382, zl_398, zl_399, zl_464, zl_680, zl_862, zl_999, zl_1000, zl_9999, zl_10000, zl_1000000, zl_m1, zl_m2, zl_m3, zl_m8, zl_87, zl_88] at hi_td hi_spp hk_fa hz1 ⊢); omega)) (by first | with_reducible assumption | ((try simp only [zlt, zle, zeq, zl_0, zl_1, zl_2, zl_3, zl_4, zl_5, zl_6, zl_7, zl_8, zl_9, zl_10, zl_11, zl_12, zl_13, zl_14, zl_15, zl_16, zl_17, zl_18, zl_19, zl_20, zl_21, zl_22, zl_23, zl_24, zl_25, zl_26, zl_27, zl_28, zl_29, zl_30, zl_31, zl_32, zl_33, zl_34, zl_35, zl_36, zl_37, zl_38, zl_39, zl_40, zl_41, zl_42, zl_43, zl_44, zl_45, zl_46, zl_47, zl_48, zl_49, zl_50, zl_51, zl_52, zl_53, zl_54, zl_55, zl_56, zl_57, zl_58, zl_59, zl_60, zl_61, zl_62, zl_63, zl_64, zl_65, zl_82, zl_99, zl_100, zl_160, zl_299, zl_300, zl_301, zl_382, zl_398, zl_399, zl_464, zl_680, zl_862, zl_999, zl_1000, zl_9999, zl_10000, zl_1000000, zl_m1, zl_m2, zl_m3, zl_m8, zl_87, zl_88] at hi_td hi_spp hk_fa hz1 ⊢); omega))
  have hPc := hP.sub2 (wc := []) [] rfl
  have hDc := hD.sub (ws' := []) [] (by decide) rfl
  refine raw_Si (nA := 3) (As := [.int p0, .int 20, .int z2]) (rest := []) Z hl.1 (c_X12_isIn l D cI cM cT cJ cZ p0 20 z2) (bw_S bw_1135 bw_1136 bw_92 bw_1137) ⟨by decide +kernel, by decide +kernel, by decide +kernel⟩ rfl ⟨Nat.le_of_ble_eq_true rfl, Nat.le_of_ble_eq_true rfl⟩ hPc hDc hS rfl (Nat.le_of_ble_eq_true rfl) dX12_about_12 ⟨Nat.le_of_ble_eq_true rfl, Nat.le_of_ble_eq_true rfl⟩ (fun r4 u3 H1 locs1 h5 hku3 hP1 hD1 hS1 => ?_)
  obtain ⟨hrh5, rfl⟩ := h5
  obtain ⟨hP, hD⟩ := z_join (wr := [(q, .inr (12, [.ref aA, .ref aI, .ref xT, .ref tP_, .int td, .int fu, .int fp, .int at_, .int plc, .int tok, .int num, .long wrd, .int tx0, .int cls, .int wri, .int cam, .ref pI, .int pid, .int ope, .int isw, .int so0, .int onc, .ref nm, .ref vL, .ref tR, .int spp, .int eat, .int ste, .ref rW, .ref sP, .ref oT, .ref bS, .ref aS, .ref aO, .ref cS, .ref wY])), (aA, .inl (cI, 862, .inl fa))]) Z hS hP hD [] [0, 1] rfl (by decide) rfl (by decide) (by decide) hku3 hP1 hD1
  have hS := hS1
  clear hS1
  generalize H1 = H at hP hS ⊢
  generalize locs1 = locs at hS ⊢
  have hP : va_P D vwCl ([(q, .inr (12, [.ref aA, .ref aI, .ref xT, .ref tP_, .int td, .int fu, .int fp, .int at_, .int plc, .int tok, .int num, .long wrd, .int tx0, .int cls, .int wri, .int cam, .ref pI, .int pid, .int ope, .int isw, .int so0, .int onc, .ref nm, .ref vL, .ref tR, .int spp, .int eat, .int ste, .ref rW, .ref sP, .ref oT, .ref bS, .ref aS, .ref aO, .ref cS, .ref wY])), (aA, .inl (cI, 862, .inl fa))]) H := hP
  have hD : va_D A ([(q, .inr (12, [.ref aA, .ref aI, .ref xT, .ref tP_, .int td, .int fu, .int fp, .int at_, .int plc, .int tok, .int num, .long wrd, .int tx0, .int cls, .int wri, .int cam, .ref pI, .int pid, .int ope, .int isw, .int so0, .int onc, .ref nm, .ref vL, .ref tR, .int spp, .int eat, .int ste, .ref rW, .ref sP, .ref oT, .ref bS, .ref aS, .ref aO, .ref cS, .ref wY])), (aA, .inl (cI, 862, .inl fa))]) := hD
  by_cases c6 : 20 ≤ p0 ∧ p0 ≤ z2
  · obtain rfl : r4 = 1 := by rw [hrh5, if_pos c6]
    refine lv_if_eq (tgt := 31) hx hb dX12_about_15 (by decide) (fun h => absurd h (by decide)) (fun c7 => ?_)
    refine lv_aload_n hx hb dX12_about_18 rfl (lv_at hl 0 rfl) ?_
    refine z_get Z i_X12 hP 0 rfl rfl 0 (by decide) bw_1019 rfl dX12_about_19 ?_
    refine lv_bipush (v := 24) hx hb dX12_about_22 (by decide) ?_
    refine lv_iload_n hx hb dX12_about_24 rfl (lv_at hl 1 rfl) ?_
    refine lv_iadd hx hb dX12_about_25 ?_
    refine lv_topi (fun z8 ez8 => ?_)
    have hz8 : z8.toInt = 24 + p0.toInt := by rw [ez8]; exact zaddg (by first | with_reducible assumption | ((try simp only [zlt, zle, zeq, zl_0, zl_1, zl_2, zl_3, zl_4, zl_5, zl_6, zl_7, zl_8, zl_9, zl_10, zl_11, zl_12, zl_13, zl_14, zl_15, zl_16, zl_17, zl_18, zl_19, zl_20, zl_21, zl_22, zl_23, zl_24, zl_25, zl_26, zl_27, zl_28, zl_29, zl_30, zl_31, zl_32, zl_33, zl_34, zl_35, zl_36, zl_37, zl_38, zl_39, zl_40, zl_41, zl_42, zl_43, zl_44, zl_45, zl_46, zl_47, zl_48, zl_49, zl_50, zl_51, zl_52, zl_53, zl_54, zl_55, zl_56, zl_57, zl_58, zl_59, zl_60, zl_61, zl_62, zl_63, zl_64, zl_65, zl_82, zl_99, zl_100, zl_160, zl_299, zl_300, zl_301, zl_382, zl_398, zl_399, zl_464, zl_680, zl_862, zl_999, zl_1000, zl_9999, zl_10000, zl_1000000, zl_m1, zl_m2, zl_m3, zl_m8, zl_87, zl_88] at hi_td hi_spp hk_fa hz1 hz2 c6 c7 ⊢); omega)) (by first | with_reducible assumption | ((try simp only [zlt, zle, zeq, zl_0, zl_1, zl_2, zl_3, zl_4, zl_5, zl_6, zl_7, zl_8, zl_9, zl_10, zl_11, zl_12, zl_13, zl_14, zl_15, zl_16, zl_17, zl_18, zl_19, zl_20, zl_21, zl_22, zl_23, zl_24, zl_25, zl_26, zl_27, zl_28, zl_29, zl_30, zl_31, zl_32, zl_33, zl_34, zl_35, zl_36, zl_37, zl_38, zl_39, zl_40, zl_41, zl_42, zl_43, zl_44, zl_45, zl_46, zl_47, zl_48, zl_49, zl_50, zl_51, zl_52, zl_53, zl_54, zl_55, zl_56, zl_57, zl_58, zl_59, zl_60, zl_61, zl_62, zl_63, zl_64, zl_65, zl_82, zl_99, zl_100, zl_160, zl_299, zl_300, zl_301, zl_382, zl_398, zl_399, zl_464, zl_680, zl_862, zl_999, zl_1000, zl_9999, zl_10000, zl_1000000, zl_m1, zl_m2, zl_m3, zl_m8, zl_87, zl_88] at hi_td hi_spp hk_fa hz1 hz2 c6 c7 ⊢); omega))
    refine lv_bipush (v := 20) hx hb dX12_about_26 (by decide) ?_
    refine lv_isub hx hb dX12_about_28 ?_
    refine lv_topi (fun z9 ez9 => ?_)
    have hz9 : z9.toInt = z8.toInt - 20 := by rw [ez9]; exact zsubg (by first | with_reducible assumption | ((try simp only [zlt, zle, zeq, zl_0, zl_1, zl_2, zl_3, zl_4, zl_5, zl_6, zl_7, zl_8, zl_9, zl_10, zl_11, zl_12, zl_13, zl_14, zl_15, zl_16, zl_17, zl_18, zl_19, zl_20, zl_21, zl_22, zl_23, zl_24, zl_25, zl_26, zl_27, zl_28, zl_29, zl_30, zl_31, zl_32, zl_33, zl_34, zl_35, zl_36, zl_37, zl_38, zl_39, zl_40, zl_41, zl_42, zl_43, zl_44, zl_45, zl_46, zl_47, zl_48, zl_49, zl_50, zl_51, zl_52, zl_53, zl_54, zl_55, zl_56, zl_57, zl_58, zl_59, zl_60, zl_61, zl_62, zl_63, zl_64, zl_65, zl_82, zl_99, zl_100, zl_160, zl_299, zl_300, zl_301, zl_382, zl_398, zl_399, zl_464, zl_680, zl_862, zl_999, zl_1000, zl_9999, zl_10000, zl_1000000, zl_m1, zl_m2, zl_m3, zl_m8, zl_87, zl_88] at hi_td hi_spp hk_fa hz1 hz2 c6 c7 hz8 ⊢); omega)) (by first | with_reducible assumption | ((try simp only [zlt, zle, zeq, zl_0, zl_1, zl_2, zl_3, zl_4, zl_5, zl_6, zl_7, zl_8, zl_9, zl_10, zl_11, zl_12, zl_13, zl_14, zl_15, zl_16, zl_17, zl_18, zl_19, zl_20, zl_21, zl_22, zl_23, zl_24, zl_25, zl_26, zl_27, zl_28, zl_29, zl_30, zl_31, zl_32, zl_33, zl_34, zl_35, zl_36, zl_37, zl_38, zl_39, zl_40, zl_41, zl_42, zl_43, zl_44, zl_45, zl_46, zl_47, zl_48, zl_49, zl_50, zl_51, zl_52, zl_53, zl_54, zl_55, zl_56, zl_57, zl_58, zl_59, zl_60, zl_61, zl_62, zl_63, zl_64, zl_65, zl_82, zl_99, zl_100, zl_160, zl_299, zl_300, zl_301, zl_382, zl_398, zl_399, zl_464, zl_680, zl_862, zl_999, zl_1000, zl_9999, zl_10000, zl_1000000, zl_m1, zl_m2, zl_m3, zl_m8, zl_87, zl_88] at hi_td hi_spp hk_fa hz1 hz2 c6 c7 hz8 ⊢); omega))
    refine z_iald Z hP 1 0 rfl rfl (vp_in_iff.mpr (by first | with_reducible assumption | ((try simp only [zlt, zle, zeq, zl_0, zl_1, zl_2, zl_3, zl_4, zl_5, zl_6, zl_7, zl_8, zl_9, zl_10, zl_11, zl_12, zl_13, zl_14, zl_15, zl_16, zl_17, zl_18, zl_19, zl_20, zl_21, zl_22, zl_23, zl_24, zl_25, zl_26, zl_27, zl_28, zl_29, zl_30, zl_31, zl_32, zl_33, zl_34, zl_35, zl_36, zl_37, zl_38, zl_39, zl_40, zl_41, zl_42, zl_43, zl_44, zl_45, zl_46, zl_47, zl_48, zl_49, zl_50, zl_51, zl_52, zl_53, zl_54, zl_55, zl_56, zl_57, zl_58, zl_59, zl_60, zl_61, zl_62, zl_63, zl_64, zl_65, zl_82, zl_99, zl_100, zl_160, zl_299, zl_300, zl_301, zl_382, zl_398, zl_399, zl_464, zl_680, zl_862, zl_999, zl_1000, zl_9999, zl_10000, zl_1000000, zl_m1, zl_m2, zl_m3, zl_m8, zl_87, zl_88] at hi_td hi_spp hk_fa hz1 hz2 c6 c7 hz8 hz9 ⊢); omega))) dX12_about_29 ?_
    refine lv_topi (fun z10 ez10 => ?_)
    exact z_ret Z rfl hP hD hS (rfl) dX12_about_30 (Nat.le_of_ble_eq_true rfl) (Nat.le_of_ble_eq_true rfl)
  · obtain rfl : r4 = 0 := by rw [hrh5, if_neg c6]
    refine lv_if_eq (tgt := 31) hx hb dX12_about_15 (by decide) (fun c11 => ?_) (fun h => absurd (by decide) h)
    refine lv_iload_n hx hb dX12_about_31 rfl (lv_at hl 1 rfl) ?_
    refine lv_bipush (v := 100) hx hb dX12_about_32 (by decide) ?_
    refine lv_sipush (v := 399) hx hb dX12_about_34 (by decide) ?_
    have hPc := hP.sub2 (wc := []) [] rfl
    have hDc := hD.sub (ws' := []) [] (by decide) rfl
    refine raw_Si (nA := 3) (As := [.int p0, .int 100, .int 399]) (rest := []) Z hl.1 (c_X12_isIn l D cI cM cT cJ cZ p0 100 399) (bw_S bw_1135 bw_1136 bw_92 bw_1137) ⟨by decide +kernel, by decide +kernel, by decide +kernel⟩ rfl ⟨Nat.le_of_ble_eq_true rfl, Nat.le_of_ble_eq_true rfl⟩ hPc hDc hS rfl (Nat.le_of_ble_eq_true rfl) dX12_about_37 ⟨Nat.le_of_ble_eq_true rfl, Nat.le_of_ble_eq_true rfl⟩ (fun r13 u12 H1 locs1 h14 hku12 hP1 hD1 hS1 => ?_)
    obtain ⟨hrh14, rfl⟩ := h14
    obtain ⟨hP, hD⟩ := z_join (wr := [(q, .inr (12, [.ref aA, .ref aI, .ref xT, .ref tP_, .int td, .int fu, .int fp, .int at_, .int plc, .int tok, .int num, .long wrd, .int tx0, .int cls, .int wri, .int cam, .ref pI, .int pid, .int ope, .int isw, .int so0, .int onc, .ref nm, .ref vL, .ref tR, .int spp, .int eat, .int ste, .ref rW, .ref sP, .ref oT, .ref bS, .ref aS, .ref aO, .ref cS, .ref wY])), (aA, .inl (cI, 862, .inl fa))]) Z hS hP hD [] [0, 1] rfl (by decide) rfl (by decide) (by decide) hku12 hP1 hD1
    have hS := hS1
    clear hS1
    generalize H1 = H at hP hS ⊢
    generalize locs1 = locs at hS ⊢
    have hP : va_P D vwCl ([(q, .inr (12, [.ref aA, .ref aI, .ref xT, .ref tP_, .int td, .int fu, .int fp, .int at_, .int plc, .int tok, .int num, .long wrd, .int tx0, .int cls, .int wri, .int cam, .ref pI, .int pid, .int ope, .int isw, .int so0, .int onc, .ref nm, .ref vL, .ref tR, .int spp, .int eat, .int ste, .ref rW, .ref sP, .ref oT, .ref bS, .ref aS, .ref aO, .ref cS, .ref wY])), (aA, .inl (cI, 862, .inl fa))]) H := hP
    have hD : va_D A ([(q, .inr (12, [.ref aA, .ref aI, .ref xT, .ref tP_, .int td, .int fu, .int fp, .int at_, .int plc, .int tok, .int num, .long wrd, .int tx0, .int cls, .int wri, .int cam, .ref pI, .int pid, .int ope, .int isw, .int so0, .int onc, .ref nm, .ref vL, .ref tR, .int spp, .int eat, .int ste, .ref rW, .ref sP, .ref oT, .ref bS, .ref aS, .ref aO, .ref cS, .ref wY])), (aA, .inl (cI, 862, .inl fa))]) := hD
    by_cases c15 : 100 ≤ p0 ∧ p0 ≤ 399
    · obtain rfl : r13 = 1 := by rw [hrh14, if_pos c15]
      refine lv_if_eq (tgt := 56) hx hb dX12_about_40 (by decide) (fun h => absurd h (by decide)) (fun c16 => ?_)
      refine lv_aload_n hx hb dX12_about_43 rfl (lv_at hl 0 rfl) ?_
      refine z_get Z i_X12 hP 0 rfl rfl 0 (by decide) bw_1019 rfl dX12_about_44 ?_
      refine lv_bipush (v := 82) hx hb dX12_about_47 (by decide) ?_
      refine lv_iload_n hx hb dX12_about_49 rfl (lv_at hl 1 rfl) ?_
      refine lv_iadd hx hb dX12_about_50 ?_
      refine lv_topi (fun z17 ez17 => ?_)
      have hz17 : z17.toInt = 82 + p0.toInt := by rw [ez17]; exact zaddg (by first | with_reducible assumption | ((try simp only [zlt, zle, zeq, zl_0, zl_1, zl_2, zl_3, zl_4, zl_5, zl_6, zl_7, zl_8, zl_9, zl_10, zl_11, zl_12, zl_13, zl_14, zl_15, zl_16, zl_17, zl_18, zl_19, zl_20, zl_21, zl_22, zl_23, zl_24, zl_25, zl_26, zl_27, zl_28, zl_29, zl_30, zl_31, zl_32, zl_33, zl_34, zl_35, zl_36, zl_37, zl_38, zl_39, zl_40, zl_41, zl_42, zl_43, zl_44, zl_45, zl_46, zl_47, zl_48, zl_49, zl_50, zl_51, zl_52, zl_53, zl_54, zl_55, zl_56, zl_57, zl_58, zl_59, zl_60, zl_61, zl_62, zl_63, zl_64, zl_65, zl_82, zl_99, zl_100, zl_160, zl_299, zl_300, zl_301, zl_382, zl_398, zl_399, zl_464, zl_680, zl_862, zl_999, zl_1000, zl_9999, zl_10000, zl_1000000, zl_m1, zl_m2, zl_m3, zl_m8, zl_87, zl_88] at hi_td hi_spp hk_fa hz1 hz2 c6 c11 c15 c16 ⊢); omega)) (by first | with_reducible assumption | ((try simp only [zlt, zle, zeq, zl_0, zl_1, zl_2, zl_3, zl_4, zl_5, zl_6, zl_7, zl_8, zl_9, zl_10, zl_11, zl_12, zl_13, zl_14, zl_15, zl_16, zl_17, zl_18, zl_19, zl_20, zl_21, zl_22, zl_23, zl_24, zl_25, zl_26, zl_27, zl_28, zl_29, zl_30, zl_31, zl_32, zl_33, zl_34, zl_35, zl_36, zl_37, zl_38, zl_39, zl_40, zl_41, zl_42, zl_43, zl_44, zl_45, zl_46, zl_47, zl_48, zl_49, zl_50, zl_51, zl_52, zl_53, zl_54, zl_55, zl_56, zl_57, zl_58, zl_59, zl_60, zl_61, zl_62, zl_63, zl_64, zl_65, zl_82, zl_99, zl_100, zl_160, zl_299, zl_300, zl_301, zl_382, zl_398, zl_399, zl_464, zl_680, zl_862, zl_999, zl_1000, zl_9999, zl_10000, zl_1000000, zl_m1, zl_m2, zl_m3, zl_m8, zl_87, zl_88] at hi_td hi_spp hk_fa hz1 hz2 c6 c11 c15 c16 ⊢); omega))
      refine lv_bipush (v := 100) hx hb dX12_about_51 (by decide) ?_
      refine lv_isub hx hb dX12_about_53 ?_
      refine lv_topi (fun z18 ez18 => ?_)
      have hz18 : z18.toInt = z17.toInt - 100 := by rw [ez18]; exact zsubg (by first | with_reducible assumption | ((try simp only [zlt, zle, zeq, zl_0, zl_1, zl_2, zl_3, zl_4, zl_5, zl_6, zl_7, zl_8, zl_9, zl_10, zl_11, zl_12, zl_13, zl_14, zl_15, zl_16, zl_17, zl_18, zl_19, zl_20, zl_21, zl_22, zl_23, zl_24, zl_25, zl_26, zl_27, zl_28, zl_29, zl_30, zl_31, zl_32, zl_33, zl_34, zl_35, zl_36, zl_37, zl_38, zl_39, zl_40, zl_41, zl_42, zl_43, zl_44, zl_45, zl_46, zl_47, zl_48, zl_49, zl_50, zl_51, zl_52, zl_53, zl_54, zl_55, zl_56, zl_57, zl_58, zl_59, zl_60, zl_61, zl_62, zl_63, zl_64, zl_65, zl_82, zl_99, zl_100, zl_160, zl_299, zl_300, zl_301, zl_382, zl_398, zl_399, zl_464, zl_680, zl_862, zl_999, zl_1000, zl_9999, zl_10000, zl_1000000, zl_m1, zl_m2, zl_m3, zl_m8, zl_87, zl_88] at hi_td hi_spp hk_fa hz1 hz2 c6 c11 c15 c16 hz17 ⊢); omega)) (by first | with_reducible assumption | ((try simp only [zlt, zle, zeq, zl_0, zl_1, zl_2, zl_3, zl_4, zl_5, zl_6, zl_7, zl_8, zl_9, zl_10, zl_11, zl_12, zl_13, zl_14, zl_15, zl_16, zl_17, zl_18, zl_19, zl_20, zl_21, zl_22, zl_23, zl_24, zl_25, zl_26, zl_27, zl_28, zl_29, zl_30, zl_31, zl_32, zl_33, zl_34, zl_35, zl_36, zl_37, zl_38, zl_39, zl_40, zl_41, zl_42, zl_43, zl_44, zl_45, zl_46, zl_47, zl_48, zl_49, zl_50, zl_51, zl_52, zl_53, zl_54, zl_55, zl_56, zl_57, zl_58, zl_59, zl_60, zl_61, zl_62, zl_63, zl_64, zl_65, zl_82, zl_99, zl_100, zl_160, zl_299, zl_300, zl_301, zl_382, zl_398, zl_399, zl_464, zl_680, zl_862, zl_999, zl_1000, zl_9999, zl_10000, zl_1000000, zl_m1, zl_m2, zl_m3, zl_m8, zl_87, zl_88] at hi_td hi_spp hk_fa hz1 hz2 c6 c11 c15 c16 hz17 ⊢); omega))
      refine z_iald Z hP 1 0 rfl rfl (vp_in_iff.mpr (by first | with_reducible assumption | ((try simp only [zlt, zle, zeq, zl_0, zl_1, zl_2, zl_3, zl_4, zl_5, zl_6, zl_7, zl_8, zl_9, zl_10, zl_11, zl_12, zl_13, zl_14, zl_15, zl_16, zl_17, zl_18, zl_19, zl_20, zl_21, zl_22, zl_23, zl_24, zl_25, zl_26, zl_27, zl_28, zl_29, zl_30, zl_31, zl_32, zl_33, zl_34, zl_35, zl_36, zl_37, zl_38, zl_39, zl_40, zl_41, zl_42, zl_43, zl_44, zl_45, zl_46, zl_47, zl_48, zl_49, zl_50, zl_51, zl_52, zl_53, zl_54, zl_55, zl_56, zl_57, zl_58, zl_59, zl_60, zl_61, zl_62, zl_63, zl_64, zl_65, zl_82, zl_99, zl_100, zl_160, zl_299, zl_300, zl_301, zl_382, zl_398, zl_399, zl_464, zl_680, zl_862, zl_999, zl_1000, zl_9999, zl_10000, zl_1000000, zl_m1, zl_m2, zl_m3, zl_m8, zl_87, zl_88] at hi_td hi_spp hk_fa hz1 hz2 c6 c11 c15 c16 hz17 hz18 ⊢); omega))) dX12_about_54 ?_
      refine lv_topi (fun z19 ez19 => ?_)
      exact z_ret Z rfl hP hD hS (rfl) dX12_about_55 (Nat.le_of_ble_eq_true rfl) (Nat.le_of_ble_eq_true rfl)
    · obtain rfl : r13 = 0 := by rw [hrh14, if_neg c15]
      refine lv_if_eq (tgt := 56) hx hb dX12_about_40 (by decide) (fun c20 => ?_) (fun h => absurd (by decide) h)
      refine lv_iload_n hx hb dX12_about_56 rfl (lv_at hl 1 rfl) ?_
      refine lv_iconst (v := 0) hx hb dX12_about_57 (by decide) ?_
      refine lv_bipush (v := 10) hx hb dX12_about_58 (by decide) ?_
      have hPc := hP.sub2 (wc := []) [] rfl
      have hDc := hD.sub (ws' := []) [] (by decide) rfl
      refine raw_Si (nA := 3) (As := [.int p0, .int 0, .int 10]) (rest := []) Z hl.1 (c_X12_isIn l D cI cM cT cJ cZ p0 0 10) (bw_S bw_1135 bw_1136 bw_92 bw_1137) ⟨by decide +kernel, by decide +kernel, by decide +kernel⟩ rfl ⟨Nat.le_of_ble_eq_true rfl, Nat.le_of_ble_eq_true rfl⟩ hPc hDc hS rfl (Nat.le_of_ble_eq_true rfl) dX12_about_60 ⟨Nat.le_of_ble_eq_true rfl, Nat.le_of_ble_eq_true rfl⟩ (fun r22 u21 H1 locs1 h23 hku21 hP1 hD1 hS1 => ?_)
      obtain ⟨hrh23, rfl⟩ := h23
      obtain ⟨hP, hD⟩ := z_join (wr := [(q, .inr (12, [.ref aA, .ref aI, .ref xT, .ref tP_, .int td, .int fu, .int fp, .int at_, .int plc, .int tok, .int num, .long wrd, .int tx0, .int cls, .int wri, .int cam, .ref pI, .int pid, .int ope, .int isw, .int so0, .int onc, .ref nm, .ref vL, .ref tR, .int spp, .int eat, .int ste, .ref rW, .ref sP, .ref oT, .ref bS, .ref aS, .ref aO, .ref cS, .ref wY])), (aA, .inl (cI, 862, .inl fa))]) Z hS hP hD [] [0, 1] rfl (by decide) rfl (by decide) (by decide) hku21 hP1 hD1
      have hS := hS1
      clear hS1
      generalize H1 = H at hP hS ⊢
      generalize locs1 = locs at hS ⊢
      have hP : va_P D vwCl ([(q, .inr (12, [.ref aA, .ref aI, .ref xT, .ref tP_, .int td, .int fu, .int fp, .int at_, .int plc, .int tok, .int num, .long wrd, .int tx0, .int cls, .int wri, .int cam, .ref pI, .int pid, .int ope, .int isw, .int so0, .int onc, .ref nm, .ref vL, .ref tR, .int spp, .int eat, .int ste, .ref rW, .ref sP, .ref oT, .ref bS, .ref aS, .ref aO, .ref cS, .ref wY])), (aA, .inl (cI, 862, .inl fa))]) H := hP
      have hD : va_D A ([(q, .inr (12, [.ref aA, .ref aI, .ref xT, .ref tP_, .int td, .int fu, .int fp, .int at_, .int plc, .int tok, .int num, .long wrd, .int tx0, .int cls, .int wri, .int cam, .ref pI, .int pid, .int ope, .int isw, .int so0, .int onc, .ref nm, .ref vL, .ref tR, .int spp, .int eat, .int ste, .ref rW, .ref sP, .ref oT, .ref bS, .ref aS, .ref aO, .ref cS, .ref wY])), (aA, .inl (cI, 862, .inl fa))]) := hD
      by_cases c24 : 0 ≤ p0 ∧ p0 ≤ 10
      · obtain rfl : r22 = 1 := by rw [hrh23, if_pos c24]
        refine lv_if_eq (tgt := 75) hx hb dX12_about_63 (by decide) (fun h => absurd h (by decide)) (fun c25 => ?_)
        refine lv_aload_n hx hb dX12_about_66 rfl (lv_at hl 0 rfl) ?_
        refine z_get Z i_X12 hP 0 rfl rfl 0 (by decide) bw_1019 rfl dX12_about_67 ?_
        refine lv_iload_n hx hb dX12_about_70 rfl (lv_at hl 1 rfl) ?_
        refine z_iald Z hP 1 0 rfl rfl (vp_in_iff.mpr (by first | with_reducible assumption | ((try simp only [zlt, zle, zeq, zl_0, zl_1, zl_2, zl_3, zl_4, zl_5, zl_6, zl_7, zl_8, zl_9, zl_10, zl_11, zl_12, zl_13, zl_14, zl_15, zl_16, zl_17, zl_18, zl_19, zl_20, zl_21, zl_22, zl_23, zl_24, zl_25, zl_26, zl_27, zl_28, zl_29, zl_30, zl_31, zl_32, zl_33, zl_34, zl_35, zl_36, zl_37, zl_38, zl_39, zl_40, zl_41, zl_42, zl_43, zl_44, zl_45, zl_46, zl_47, zl_48, zl_49, zl_50, zl_51, zl_52, zl_53, zl_54, zl_55, zl_56, zl_57, zl_58, zl_59, zl_60, zl_61, zl_62, zl_63, zl_64, zl_65, zl_82, zl_99, zl_100, zl_160, zl_299, zl_300, zl_301, zl_382, zl_398, zl_399, zl_464, zl_680, zl_862, zl_999, zl_1000, zl_9999, zl_10000, zl_1000000, zl_m1, zl_m2, zl_m3, zl_m8, zl_87, zl_88] at hi_td hi_spp hk_fa hz1 hz2 c6 c11 c15 c20 c24 c25 ⊢); omega))) dX12_about_71 ?_
        refine lv_topi (fun z26 ez26 => ?_)
        refine lv_goto (tgt := 90) hx hb dX12_about_72 (by decide) ?_
        exact z_ret Z rfl hP hD hS (rfl) dX12_about_90 (Nat.le_of_ble_eq_true rfl) (Nat.le_of_ble_eq_true rfl)
      · obtain rfl : r22 = 0 := by rw [hrh23, if_neg c24]
        refine lv_if_eq (tgt := 75) hx hb dX12_about_63 (by decide) (fun c27 => ?_) (fun h => absurd (by decide) h)
        refine lv_iload_n hx hb dX12_about_75 rfl (lv_at hl 1 rfl) ?_
        refine lv_bipush (v := 11) hx hb dX12_about_76 (by decide) ?_
        refine lv_icmp_ne (tgt := 88) hx hb dX12_about_78 (by decide) (fun c28 => ?_) (fun c28 => ?_)
        · refine lv_bipush (v := (-2)) hx hb dX12_about_88 (by decide) ?_
          exact z_ret Z rfl hP hD hS (rfl) dX12_about_90 (Nat.le_of_ble_eq_true rfl) (Nat.le_of_ble_eq_true rfl)
        · refine lv_aload_n hx hb dX12_about_81 rfl (lv_at hl 0 rfl) ?_
          refine z_get Z i_X12 hP 0 rfl rfl 4 (by decide) bw_1023 rfl dX12_about_82 ?_
          refine lv_goto (tgt := 90) hx hb dX12_about_85 (by decide) ?_
          exact z_ret Z rfl hP hD hS (rfl) dX12_about_90 (Nat.le_of_ble_eq_true rfl) (Nat.le_of_ble_eq_true rfl)
