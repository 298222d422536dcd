theorem dX5_keep_0 : decode cX5_keep 0 = .ok (.aload_n 0, 1) := by decide +kernel
theorem dX5_keep_1 : decode cX5_keep 1 = .ok (.getfield 11, 3) := by decide +kernel
theorem dX5_keep_4 : decode cX5_keep 4 = .ok (.aload_n 0, 1) := by decide +kernel
theorem dX5_keep_5 : decode cX5_keep 5 = .ok (.getfield 17, 3) := by decide +kernel
theorem dX5_keep_8 : decode cX5_keep 8 = .ok (.aaload, 1) := by decide +kernel
theorem dX5_keep_9 : decode cX5_keep 9 = .ok (.aload_n 1, 1) := by decide +kernel
theorem dX5_keep_10 : decode cX5_keep 10 = .ok (.invokevirtual 25, 3) := by decide +kernel
theorem dX5_keep_13 : decode cX5_keep 13 = .ok (.aload_n 0, 1) := by decide +kernel
theorem dX5_keep_14 : decode cX5_keep 14 = .ok (.aload_n 0, 1) := by decide +kernel
theorem dX5_keep_15 : decode cX5_keep 15 = .ok (.getfield 17, 3) := by decide +kernel
theorem dX5_keep_18 : decode cX5_keep 18 = .ok (.iconst 1, 1) := by decide +kernel
theorem dX5_keep_19 : decode cX5_keep 19 = .ok (.iadd, 1) := by decide +kernel
theorem dX5_keep_20 : decode cX5_keep 20 = .ok (.bipush 30, 2) := by decide +kernel
theorem dX5_keep_22 : decode cX5_keep 22 = .ok (.irem, 1) := by decide +kernel
theorem dX5_keep_23 : decode cX5_keep 23 = .ok (.putfield 17, 3) := by decide +kernel
theorem dX5_keep_26 : decode cX5_keep 26 = .ok (.aload_n 0, 1) := by decide +kernel
theorem dX5_keep_27 : decode cX5_keep 27 = .ok (.getfield 21, 3) := by decide +kernel
theorem dX5_keep_30 : decode cX5_keep 30 = .ok (.bipush 30, 2) := by decide +kernel
theorem dX5_keep_32 : decode cX5_keep 32 = .ok (.if_icmp .ge 13, 3) := by decide +kernel
theorem dX5_keep_35 : decode cX5_keep 35 = .ok (.aload_n 0, 1) := by decide +kernel
theorem dX5_keep_36 : decode cX5_keep 36 = .ok (.dup, 1) := by decide +kernel
theorem dX5_keep_37 : decode cX5_keep 37 = .ok (.getfield 21, 3) := by decide +kernel
theorem dX5_keep_40 : decode cX5_keep 40 = .ok (.iconst 1, 1) := by decide +kernel
theorem dX5_keep_41 : decode cX5_keep 41 = .ok (.iadd, 1) := by decide +kernel
theorem dX5_keep_42 : decode cX5_keep 42 = .ok (.putfield 21, 3) := by decide +kernel
theorem dX5_keep_45 : decode cX5_keep 45 = .ok (.return_, 1) := by decide +kernel
theorem dX5_copyFrom_0 : decode cX5_copyFrom 0 = .ok (.iconst 0, 1) := by decide +kernel
theorem dX5_copyFrom_1 : decode cX5_copyFrom 1 = .ok (.istore_n 2, 1) := by decide +kernel
theorem dX5_copyFrom_2 : decode cX5_copyFrom 2 = .ok (.iload_n 2, 1) := by decide +kernel
theorem dX5_copyFrom_3 : decode cX5_copyFrom 3 = .ok (.bipush 30, 2) := by decide +kernel
theorem dX5_copyFrom_5 : decode cX5_copyFrom 5 = .ok (.if_icmp .ge 24, 3) := by decide +kernel
theorem dX5_copyFrom_8 : decode cX5_copyFrom 8 = .ok (.aload_n 0, 1) := by decide +kernel
theorem dX5_copyFrom_9 : decode cX5_copyFrom 9 = .ok (.getfield 11, 3) := by decide +kernel
theorem dX5_copyFrom_12 : decode cX5_copyFrom 12 = .ok (.iload_n 2, 1) := by decide +kernel
theorem dX5_copyFrom_13 : decode cX5_copyFrom 13 = .ok (.aaload, 1) := by decide +kernel
theorem dX5_copyFrom_14 : decode cX5_copyFrom 14 = .ok (.aload_n 1, 1) := by decide +kernel
theorem dX5_copyFrom_15 : decode cX5_copyFrom 15 = .ok (.getfield 11, 3) := by decide +kernel
theorem dX5_copyFrom_18 : decode cX5_copyFrom 18 = .ok (.iload_n 2, 1) := by decide +kernel
theorem dX5_copyFrom_19 : decode cX5_copyFrom 19 = .ok (.aaload, 1) := by decide +kernel
theorem dX5_copyFrom_20 : decode cX5_copyFrom 20 = .ok (.invokevirtual 25, 3) := by decide +kernel
theorem dX5_copyFrom_23 : decode cX5_copyFrom 23 = .ok (.iinc 2 1, 3) := by decide +kernel
theorem dX5_copyFrom_26 : decode cX5_copyFrom 26 = .ok (.goto (-24), 3) := by decide +kernel
theorem dX5_copyFrom_29 : decode cX5_copyFrom 29 = .ok (.aload_n 0, 1) := by decide +kernel
theorem dX5_copyFrom_30 : decode cX5_copyFrom 30 = .ok (.aload_n 1, 1) := by decide +kernel
theorem dX5_copyFrom_31 : decode cX5_copyFrom 31 = .ok (.getfield 17, 3) := by decide +kernel
theorem dX5_copyFrom_34 : decode cX5_copyFrom 34 = .ok (.putfield 17, 3) := by decide +kernel
theorem dX5_copyFrom_37 : decode cX5_copyFrom 37 = .ok (.aload_n 0, 1) := by decide +kernel
theorem dX5_copyFrom_38 : decode cX5_copyFrom 38 = .ok (.aload_n 1, 1) := by decide +kernel
theorem dX5_copyFrom_39 : decode cX5_copyFrom 39 = .ok (.getfield 21, 3) := by decide +kernel
theorem dX5_copyFrom_42 : decode cX5_copyFrom 42 = .ok (.putfield 21, 3) := by decide +kernel
theorem dX5_copyFrom_45 : decode cX5_copyFrom 45 = .ok (.return_, 1) := by decide +kernel
theorem dX3_copyFrom_0 : decode cX3_copyFrom 0 = .ok (.aload_n 1, 1) := by decide +kernel
theorem dX3_copyFrom_1 : decode cX3_copyFrom 1 = .ok (.getfield 9, 3) := by decide +kernel
theorem dX3_copyFrom_4 : decode cX3_copyFrom 4 = .ok (.iconst 0, 1) := by decide +kernel
theorem dX3_copyFrom_5 : decode cX3_copyFrom 5 = .ok (.aload_n 0, 1) := by decide +kernel
theorem dX3_copyFrom_6 : decode cX3_copyFrom 6 = .ok (.getfield 9, 3) := by decide +kernel
theorem dX3_copyFrom_9 : decode cX3_copyFrom 9 = .ok (.iconst 0, 1) := by decide +kernel
theorem dX3_copyFrom_10 : decode cX3_copyFrom 10 = .ok (.sipush 300, 3) := by decide +kernel
theorem dX3_copyFrom_13 : decode cX3_copyFrom 13 = .ok (.invokestatic 25, 3) := by decide +kernel
theorem dX3_copyFrom_16 : decode cX3_copyFrom 16 = .ok (.aload_n 1, 1) := by decide +kernel
theorem dX3_copyFrom_17 : decode cX3_copyFrom 17 = .ok (.getfield 15, 3) := by decide +kernel
theorem dX3_copyFrom_20 : decode cX3_copyFrom 20 = .ok (.iconst 0, 1) := by decide +kernel
theorem dX3_copyFrom_21 : decode cX3_copyFrom 21 = .ok (.aload_n 0, 1) := by decide +kernel
theorem dX3_copyFrom_22 : decode cX3_copyFrom 22 = .ok (.getfield 15, 3) := by decide +kernel
theorem dX3_copyFrom_25 : decode cX3_copyFrom 25 = .ok (.iconst 0, 1) := by decide +kernel
theorem dX3_copyFrom_26 : decode cX3_copyFrom 26 = .ok (.iconst 4, 1) := by decide +kernel
theorem dX3_copyFrom_27 : decode cX3_copyFrom 27 = .ok (.invokestatic 25, 3) := by decide +kernel
theorem dX3_copyFrom_30 : decode cX3_copyFrom 30 = .ok (.aload_n 1, 1) := by decide +kernel
theorem dX3_copyFrom_31 : decode cX3_copyFrom 31 = .ok (.getfield 18, 3) := by decide +kernel
theorem dX3_copyFrom_34 : decode cX3_copyFrom 34 = .ok (.iconst 0, 1) := by decide +kernel
theorem dX3_copyFrom_35 : decode cX3_copyFrom 35 = .ok (.aload_n 0, 1) := by decide +kernel
theorem dX3_copyFrom_36 : decode cX3_copyFrom 36 = .ok (.getfield 18, 3) := by decide +kernel
theorem dX3_copyFrom_39 : decode cX3_copyFrom 39 = .ok (.iconst 0, 1) := by decide +kernel
theorem dX3_copyFrom_40 : decode cX3_copyFrom 40 = .ok (.iconst 4, 1) := by decide +kernel
theorem dX3_copyFrom_41 : decode cX3_copyFrom 41 = .ok (.invokestatic 25, 3) := by decide +kernel
theorem dX3_copyFrom_44 : decode cX3_copyFrom 44 = .ok (.aload_n 0, 1) := by decide +kernel
theorem dX3_copyFrom_45 : decode cX3_copyFrom 45 = .ok (.aload_n 1, 1) := by decide +kernel
theorem dX3_copyFrom_46 : decode cX3_copyFrom 46 = .ok (.getfield 21, 3) := by decide +kernel
theorem dX3_copyFrom_49 : decode cX3_copyFrom 49 = .ok (.putfield 21, 3) := by decide +kernel
theorem dX3_copyFrom_52 : decode cX3_copyFrom 52 = .ok (.return_, 1) := by decide +kernel
theorem dX4_copyFrom_0 : decode cX4_copyFrom 0 = .ok (.aload_n 1, 1) := by decide +kernel
theorem dX4_copyFrom_1 : decode cX4_copyFrom 1 = .ok (.getfield 9, 3) := by decide +kernel
theorem dX4_copyFrom_4 : decode cX4_copyFrom 4 = .ok (.iconst 0, 1) := by decide +kernel
theorem dX4_copyFrom_5 : decode cX4_copyFrom 5 = .ok (.aload_n 0, 1) := by decide +kernel
theorem dX4_copyFrom_6 : decode cX4_copyFrom 6 = .ok (.getfield 9, 3) := by decide +kernel
theorem dX4_copyFrom_9 : decode cX4_copyFrom 9 = .ok (.iconst 0, 1) := by decide +kernel
theorem dX4_copyFrom_10 : decode cX4_copyFrom 10 = .ok (.bipush 6, 2) := by decide +kernel
theorem dX4_copyFrom_12 : decode cX4_copyFrom 12 = .ok (.invokestatic 22, 3) := by decide +kernel
theorem dX4_copyFrom_15 : decode cX4_copyFrom 15 = .ok (.aload_n 1, 1) := by decide +kernel
theorem dX4_copyFrom_16 : decode cX4_copyFrom 16 = .ok (.getfield 15, 3) := by decide +kernel
theorem dX4_copyFrom_19 : decode cX4_copyFrom 19 = .ok (.iconst 0, 1) := by decide +kernel
theorem dX4_copyFrom_20 : decode cX4_copyFrom 20 = .ok (.aload_n 0, 1) := by decide +kernel
theorem dX4_copyFrom_21 : decode cX4_copyFrom 21 = .ok (.getfield 15, 3) := by decide +kernel
theorem dX4_copyFrom_24 : decode cX4_copyFrom 24 = .ok (.iconst 0, 1) := by decide +kernel
theorem dX4_copyFrom_25 : decode cX4_copyFrom 25 = .ok (.bipush 6, 2) := by decide +kernel
theorem dX4_copyFrom_27 : decode cX4_copyFrom 27 = .ok (.invokestatic 22, 3) := by decide +kernel
theorem dX4_copyFrom_30 : decode cX4_copyFrom 30 = .ok (.aload_n 0, 1) := by decide +kernel
theorem dX4_copyFrom_31 : decode cX4_copyFrom 31 = .ok (.aload_n 1, 1) := by decide +kernel
theorem dX4_copyFrom_32 : decode cX4_copyFrom 32 = .ok (.getfield 18, 3) := by decide +kernel
theorem dX4_copyFrom_35 : decode cX4_copyFrom 35 = .ok (.putfield 18, 3) := by decide +kernel
theorem dX4_copyFrom_38 : decode cX4_copyFrom 38 = .ok (.return_, 1) := by decide +kernel
theorem dX10_copyFrom_0 : decode cX10_copyFrom 0 = .ok (.aload_n 0, 1) := by decide +kernel
theorem dX10_copyFrom_1 : decode cX10_copyFrom 1 = .ok (.getfield 12, 3) := by decide +kernel
theorem dX10_copyFrom_4 : decode cX10_copyFrom 4 = .ok (.aload_n 1, 1) := by decide +kernel
theorem dX10_copyFrom_5 : decode cX10_copyFrom 5 = .ok (.getfield 12, 3) := by decide +kernel
theorem dX10_copyFrom_8 : decode cX10_copyFrom 8 = .ok (.invokevirtual 68, 3) := by decide +kernel
theorem dX10_copyFrom_11 : decode cX10_copyFrom 11 = .ok (.aload_n 0, 1) := by decide +kernel
theorem dX10_copyFrom_12 : decode cX10_copyFrom 12 = .ok (.getfield 21, 3) := by decide +kernel
theorem dX10_copyFrom_15 : decode cX10_copyFrom 15 = .ok (.aload_n 1, 1) := by decide +kernel
theorem dX10_copyFrom_16 : decode cX10_copyFrom 16 = .ok (.getfield 21, 3) := by decide +kernel
theorem dX10_copyFrom_19 : decode cX10_copyFrom 19 = .ok (.invokevirtual 72, 3) := by decide +kernel
theorem dX10_copyFrom_22 : decode cX10_copyFrom 22 = .ok (.aload_n 0, 1) := by decide +kernel
theorem dX10_copyFrom_23 : decode cX10_copyFrom 23 = .ok (.getfield 28, 3) := by decide +kernel
theorem dX10_copyFrom_26 : decode cX10_copyFrom 26 = .ok (.aload_n 1, 1) := by decide +kernel
theorem dX10_copyFrom_27 : decode cX10_copyFrom 27 = .ok (.getfield 28, 3) := by decide +kernel
theorem dX10_copyFrom_30 : decode cX10_copyFrom 30 = .ok (.invokevirtual 75, 3) := by decide +kernel
theorem dX10_copyFrom_33 : decode cX10_copyFrom 33 = .ok (.aload_n 0, 1) := by decide +kernel
theorem dX10_copyFrom_34 : decode cX10_copyFrom 34 = .ok (.getfield 35, 3) := by decide +kernel
theorem dX10_copyFrom_37 : decode cX10_copyFrom 37 = .ok (.aload_n 1, 1) := by decide +kernel
theorem dX10_copyFrom_38 : decode cX10_copyFrom 38 = .ok (.getfield 35, 3) := by decide +kernel
theorem dX10_copyFrom_41 : decode cX10_copyFrom 41 = .ok (.invokevirtual 78, 3) := by decide +kernel
theorem dX10_copyFrom_44 : decode cX10_copyFrom 44 = .ok (.aload_n 1, 1) := by decide +kernel
theorem dX10_copyFrom_45 : decode cX10_copyFrom 45 = .ok (.getfield 39, 3) := by decide +kernel
theorem dX10_copyFrom_48 : decode cX10_copyFrom 48 = .ok (.iconst 0, 1) := by decide +kernel
theorem dX10_copyFrom_49 : decode cX10_copyFrom 49 = .ok (.aload_n 0, 1) := by decide +kernel
theorem dX10_copyFrom_50 : decode cX10_copyFrom 50 = .ok (.getfield 39, 3) := by decide +kernel
theorem dX10_copyFrom_53 : decode cX10_copyFrom 53 = .ok (.iconst 0, 1) := by decide +kernel
theorem dX10_copyFrom_54 : decode cX10_copyFrom 54 = .ok (.bipush 6, 2) := by decide +kernel
theorem dX10_copyFrom_56 : decode cX10_copyFrom 56 = .ok (.invokestatic 81, 3) := by decide +kernel
theorem dX10_copyFrom_59 : decode cX10_copyFrom 59 = .ok (.aload_n 1, 1) := by decide +kernel
theorem dX10_copyFrom_60 : decode cX10_copyFrom 60 = .ok (.getfield 43, 3) := by decide +kernel
theorem dX10_copyFrom_63 : decode cX10_copyFrom 63 = .ok (.iconst 0, 1) := by decide +kernel
theorem dX10_copyFrom_64 : decode cX10_copyFrom 64 = .ok (.aload_n 0, 1) := by decide +kernel
theorem dX10_copyFrom_65 : decode cX10_copyFrom 65 = .ok (.getfield 43, 3) := by decide +kernel
theorem dX10_copyFrom_68 : decode cX10_copyFrom 68 = .ok (.iconst 0, 1) := by decide +kernel
theorem dX10_copyFrom_69 : decode cX10_copyFrom 69 = .ok (.bipush 10, 2) := by decide +kernel
theorem dX10_copyFrom_71 : decode cX10_copyFrom 71 = .ok (.invokestatic 81, 3) := by decide +kernel
theorem dX10_copyFrom_74 : decode cX10_copyFrom 74 = .ok (.aload_n 1, 1) := by decide +kernel
theorem dX10_copyFrom_75 : decode cX10_copyFrom 75 = .ok (.getfield 46, 3) := by decide +kernel
theorem dX10_copyFrom_78 : decode cX10_copyFrom 78 = .ok (.iconst 0, 1) := by decide +kernel
theorem dX10_copyFrom_79 : decode cX10_copyFrom 79 = .ok (.aload_n 0, 1) := by decide +kernel
theorem dX10_copyFrom_80 : decode cX10_copyFrom 80 = .ok (.getfield 46, 3) := by decide +kernel
theorem dX10_copyFrom_83 : decode cX10_copyFrom 83 = .ok (.iconst 0, 1) := by decide +kernel
theorem dX10_copyFrom_84 : decode cX10_copyFrom 84 = .ok (.bipush 10, 2) := by decide +kernel
theorem dX10_copyFrom_86 : decode cX10_copyFrom 86 = .ok (.invokestatic 81, 3) := by decide +kernel
theorem dX10_copyFrom_89 : decode cX10_copyFrom 89 = .ok (.aload_n 1, 1) := by decide +kernel
theorem dX10_copyFrom_90 : decode cX10_copyFrom 90 = .ok (.getfield 49, 3) := by decide +kernel
theorem dX10_copyFrom_93 : decode cX10_copyFrom 93 = .ok (.iconst 0, 1) := by decide +kernel
theorem dX10_copyFrom_94 : decode cX10_copyFrom 94 = .ok (.aload_n 0, 1) := by decide +kernel
theorem dX10_copyFrom_95 : decode cX10_copyFrom 95 = .ok (.getfield 49, 3) := by decide +kernel
theorem dX10_copyFrom_98 : decode cX10_copyFrom 98 = .ok (.iconst 0, 1) := by decide +kernel
theorem dX10_copyFrom_99 : decode cX10_copyFrom 99 = .ok (.bipush 10, 2) := by decide +kernel
theorem dX10_copyFrom_101 : decode cX10_copyFrom 101 = .ok (.invokestatic 81, 3) := by decide +kernel
theorem dX10_copyFrom_104 : decode cX10_copyFrom 104 = .ok (.aload_n 0, 1) := by decide +kernel
theorem dX10_copyFrom_105 : decode cX10_copyFrom 105 = .ok (.aload_n 1, 1) := by decide +kernel
theorem dX10_copyFrom_106 : decode cX10_copyFrom 106 = .ok (.getfield 52, 3) := by decide +kernel
theorem dX10_copyFrom_109 : decode cX10_copyFrom 109 = .ok (.putfield 52, 3) := by decide +kernel
theorem dX10_copyFrom_112 : decode cX10_copyFrom 112 = .ok (.aload_n 0, 1) := by decide +kernel
theorem dX10_copyFrom_113 : decode cX10_copyFrom 113 = .ok (.aload_n 1, 1) := by decide +kernel
theorem dX10_copyFrom_114 : decode cX10_copyFrom 114 = .ok (.getfield 56, 3) := by decide +kernel
theorem dX10_copyFrom_117 : decode cX10_copyFrom 117 = .ok (.putfield 56, 3) := by decide +kernel
theorem dX10_copyFrom_120 : decode cX10_copyFrom 120 = .ok (.aload_n 0, 1) := by decide +kernel
theorem dX10_copyFrom_121 : decode cX10_copyFrom 121 = .ok (.aload_n 1, 1) := by decide +kernel
theorem dX10_copyFrom_122 : decode cX10_copyFrom 122 = .ok (.getfield 59, 3) := by decide +kernel
theorem dX10_copyFrom_125 : decode cX10_copyFrom 125 = .ok (.putfield 59, 3) := by decide +kernel
theorem dX10_copyFrom_128 : decode cX10_copyFrom 128 = .ok (.aload_n 0, 1) := by decide +kernel
theorem dX10_copyFrom_129 : decode cX10_copyFrom 129 = .ok (.aload_n 1, 1) := by decide +kernel
theorem dX10_copyFrom_130 : decode cX10_copyFrom 130 = .ok (.getfield 62, 3) := by decide +kernel
theorem dX10_copyFrom_133 : decode cX10_copyFrom 133 = .ok (.putfield 62, 3) := by decide +kernel
theorem dX10_copyFrom_136 : decode cX10_copyFrom 136 = .ok (.aload_n 0, 1) := by decide +kernel
theorem dX10_copyFrom_137 : decode cX10_copyFrom 137 = .ok (.aload_n 1, 1) := by decide +kernel
theorem dX10_copyFrom_138 : decode cX10_copyFrom 138 = .ok (.getfield 65, 3) := by decide +kernel
theorem dX10_copyFrom_141 : decode cX10_copyFrom 141 = .ok (.putfield 65, 3) := by decide +kernel
theorem dX10_copyFrom_144 : decode cX10_copyFrom 144 = .ok (.return_, 1) := by decide +kernel
theorem bw_84 : Cond.initialized "CountingHorses$Road" ∈ BW := bw_at 84 (by decide +kernel) (by decide +kernel)
theorem bw_85 : Cond.initialized "CountingHorses$Stable" ∈ BW := bw_at 85 (by decide +kernel) (by decide +kernel)
theorem bw_231 : Cond.fieldLink "CountingHorses$World" 12 "CountingHorses$World" "road" "LCountingHorses$Road;" ∈ BW := bw_at 231 (by decide +kernel) (by decide +kernel)
theorem bw_234 : Cond.fieldLink "CountingHorses$World" 21 "CountingHorses$World" "stable" "LCountingHorses$Stable;" ∈ BW := bw_at 234 (by decide +kernel) (by decide +kernel)
theorem bw_238 : Cond.fieldLink "CountingHorses$World" 28 "CountingHorses$World" "mail" "LCountingHorses$Mail;" ∈ BW := bw_at 238 (by decide +kernel) (by decide +kernel)
theorem bw_241 : Cond.fieldLink "CountingHorses$World" 35 "CountingHorses$World" "stepsBack" "LCountingHorses$StepsBack;" ∈ BW := bw_at 241 (by decide +kernel) (by decide +kernel)
theorem bw_243 : Cond.fieldLink "CountingHorses$World" 39 "CountingHorses$World" "seenAt" "[I" ∈ BW := bw_at 243 (by decide +kernel) (by decide +kernel)
theorem bw_245 : Cond.fieldLink "CountingHorses$World" 43 "CountingHorses$World" "triedHorse" "[I" ∈ BW := bw_at 245 (by decide +kernel) (by decide +kernel)
theorem bw_247 : Cond.fieldLink "CountingHorses$World" 46 "CountingHorses$World" "triedFrom" "[I" ∈ BW := bw_at 247 (by decide +kernel) (by decide +kernel)
theorem bw_249 : Cond.fieldLink "CountingHorses$World" 49 "CountingHorses$World" "triedStop" "[I" ∈ BW := bw_at 249 (by decide +kernel) (by decide +kernel)
theorem bw_251 : Cond.fieldLink "CountingHorses$World" 52 "CountingHorses$World" "slip" "I" ∈ BW := bw_at 251 (by decide +kernel) (by decide +kernel)
theorem bw_254 : Cond.fieldLink "CountingHorses$World" 56 "CountingHorses$World" "texts" "I" ∈ BW := bw_at 254 (by decide +kernel) (by decide +kernel)
theorem bw_256 : Cond.fieldLink "CountingHorses$World" 59 "CountingHorses$World" "ruling" "I" ∈ BW := bw_at 256 (by decide +kernel) (by decide +kernel)
theorem bw_259 : Cond.fieldLink "CountingHorses$World" 62 "CountingHorses$World" "seen" "I" ∈ BW := bw_at 259 (by decide +kernel) (by decide +kernel)
theorem bw_261 : Cond.fieldLink "CountingHorses$World" 65 "CountingHorses$World" "tried" "I" ∈ BW := bw_at 261 (by decide +kernel) (by decide +kernel)
theorem bw_520 : Cond.methodLink "CountingHorses$StepsBack" 25 ⟨"CountingHorses$Mail", "copyFrom", "(LCountingHorses$Mail;)V"⟩ ∈ BW := bw_at 520 (by decide +kernel) (by decide +kernel)
theorem bw_521 : Cond.instanceMethod ⟨"CountingHorses$Mail", "copyFrom", "(LCountingHorses$Mail;)V"⟩ ∈ BW := bw_at 521 (by decide +kernel) (by decide +kernel)
theorem bw_522 : Cond.selects "CountingHorses$Mail" ⟨"CountingHorses$Mail", "copyFrom", "(LCountingHorses$Mail;)V"⟩ ⟨"CountingHorses$Mail", "copyFrom", "(LCountingHorses$Mail;)V"⟩ ∈ BW := bw_at 522 (by decide +kernel) (by decide +kernel)
theorem bw_523 : Cond.code ⟨"CountingHorses$Mail", "copyFrom", "(LCountingHorses$Mail;)V"⟩ prog_3_method_4_code 2 none ∈ BW := bw_at 523 (by decide +kernel) (by decide +kernel)
theorem bw_986 : Cond.methodLink "CountingHorses$World" 68 ⟨"CountingHorses$Road", "copyFrom", "(LCountingHorses$Road;)V"⟩ ∈ BW := bw_at 986 (by decide +kernel) (by decide +kernel)
theorem bw_987 : Cond.instanceMethod ⟨"CountingHorses$Road", "copyFrom", "(LCountingHorses$Road;)V"⟩ ∈ BW := bw_at 987 (by decide +kernel) (by decide +kernel)
theorem bw_988 : Cond.selects "CountingHorses$Road" ⟨"CountingHorses$Road", "copyFrom", "(LCountingHorses$Road;)V"⟩ ⟨"CountingHorses$Road", "copyFrom", "(LCountingHorses$Road;)V"⟩ ∈ BW := bw_at 988 (by decide +kernel) (by decide +kernel)
theorem bw_989 : Cond.code ⟨"CountingHorses$Road", "copyFrom", "(LCountingHorses$Road;)V"⟩ prog_5_method_3_code 2 none ∈ BW := bw_at 989 (by decide +kernel) (by decide +kernel)
theorem bw_990 : Cond.methodLink "CountingHorses$Road" 25 ⟨"java/lang/System", "arraycopy", "(Ljava/lang/Object;ILjava/lang/Object;II)V"⟩ ∈ BW := bw_at 990 (by decide +kernel) (by decide +kernel)
theorem bw_991 : Cond.methodLink "CountingHorses$World" 72 ⟨"CountingHorses$Stable", "copyFrom", "(LCountingHorses$Stable;)V"⟩ ∈ BW := bw_at 991 (by decide +kernel) (by decide +kernel)
theorem bw_992 : Cond.instanceMethod ⟨"CountingHorses$Stable", "copyFrom", "(LCountingHorses$Stable;)V"⟩ ∈ BW := bw_at 992 (by decide +kernel) (by decide +kernel)
theorem bw_993 : Cond.selects "CountingHorses$Stable" ⟨"CountingHorses$Stable", "copyFrom", "(LCountingHorses$Stable;)V"⟩ ⟨"CountingHorses$Stable", "copyFrom", "(LCountingHorses$Stable;)V"⟩ ∈ BW := bw_at 993 (by decide +kernel) (by decide +kernel)
theorem bw_994 : Cond.code ⟨"CountingHorses$Stable", "copyFrom", "(LCountingHorses$Stable;)V"⟩ prog_6_method_2_code 2 none ∈ BW := bw_at 994 (by decide +kernel) (by decide +kernel)
theorem bw_995 : Cond.methodLink "CountingHorses$Stable" 22 ⟨"java/lang/System", "arraycopy", "(Ljava/lang/Object;ILjava/lang/Object;II)V"⟩ ∈ BW := bw_at 995 (by decide +kernel) (by decide +kernel)
theorem bw_996 : Cond.methodLink "CountingHorses$World" 75 ⟨"CountingHorses$Mail", "copyFrom", "(LCountingHorses$Mail;)V"⟩ ∈ BW := bw_at 996 (by decide +kernel) (by decide +kernel)
theorem bw_997 : Cond.methodLink "CountingHorses$World" 78 ⟨"CountingHorses$StepsBack", "copyFrom", "(LCountingHorses$StepsBack;)V"⟩ ∈ BW := bw_at 997 (by decide +kernel) (by decide +kernel)
theorem bw_998 : Cond.instanceMethod ⟨"CountingHorses$StepsBack", "copyFrom", "(LCountingHorses$StepsBack;)V"⟩ ∈ BW := bw_at 998 (by decide +kernel) (by decide +kernel)
theorem bw_999 : Cond.selects "CountingHorses$StepsBack" ⟨"CountingHorses$StepsBack", "copyFrom", "(LCountingHorses$StepsBack;)V"⟩ ⟨"CountingHorses$StepsBack", "copyFrom", "(LCountingHorses$StepsBack;)V"⟩ ∈ BW := bw_at 999 (by decide +kernel) (by decide +kernel)
theorem bw_1000 : Cond.code ⟨"CountingHorses$StepsBack", "copyFrom", "(LCountingHorses$StepsBack;)V"⟩ prog_7_method_4_code 3 none ∈ BW := bw_at 1000 (by decide +kernel) (by decide +kernel)
theorem bw_1001 : Cond.methodLink "CountingHorses$World" 81 ⟨"java/lang/System", "arraycopy", "(Ljava/lang/Object;ILjava/lang/Object;II)V"⟩ ∈ BW := bw_at 1001 (by decide +kernel) (by decide +kernel)
theorem zkind {PL : va_W} {k1 k2 r a : Nat} {o : Nat × List Value} {x : ClassId × vp_A} (e : k1 = k2) (h1 : PL[k1]? = some (r, .inr o)) (h2 : PL[k2]? = some (a, .inl x)) : False := by
  subst e
  rw [h1] at h2
  cases h2
theorem zsep {Ka Kb : Nat → Prop} (hab : ∀ k, Ka k → ¬ Kb k) {k t : Nat} (e : k = t) (h1 : Ka k) (h2 : Kb t) : False := hab k h1 (e ▸ h2)
set_option maxHeartbeats 4000000 in
set_option maxRecDepth 100000 in
theorem c_X5_keep (l : Launch) (D : va_G) (cI cM cT : ClassId) (sB : Nat) (rG : Nat) (mA : Nat) (iA : Nat) (j : Nat) (z : Nat) (y1 : Int32) (y2 : Int32) (y3 : Int32) (y4 : Int32) (y5 : Int32) (y6 : Int32) (f2 : Nat → Int32) (fR : Nat → Option Nat) (PL : va_W) (Ka : Nat → Prop) (hj : j < 30) (hz : z ≤ 30) (hR : RingOK cI fR 30 PL Ka) : Cv l D (ty3 cI cM cT) yX5_keep cX5_keep 2 2 0 0 [.ref sB, .ref mA] ([(sB, .inr (5, [.ref rG, .int (nI j), .int (nI z)])), (rG, .inl (cM, 30, .inr (.inr (.inr (.inr fR))))), (mA, .inr (1, [.ref iA, .int y1, .int y2, .int y3, .int y4, .int y5, .int y6])), (iA, .inl (cI, 10, .inl f2))] ++ PL) (fun u => ∃ (j2 : Nat) (z2 : Nat) (PL2 : va_W), u = [(sB, .inr (5, [.ref rG, .int (nI j2), .int (nI z2)])), (rG, .inl (cM, 30, .inr (.inr (.inr (.inr fR))))), (mA, .inr (1, [.ref iA, .int y1, .int y2, .int y3, .int y4, .int y5, .int y6])), (iA, .inl (cI, 10, .inl f2))] ++ PL2 ∧ j2 < 30 ∧ z2 ≤ 30 ∧ RingOK cI fR 30 PL2 Ka) := by
  refine Cv.of (by decide +kernel) (Nat.le_of_ble_eq_true rfl) ?_
  intro p e s m below meth c A ls Z hin hP hD hl
  have hx := Z.1
  have hb := Z.2.1
  have hS : va_S A s.heap s.heap [] := va_S.rf
  have hl : lv_has ls 2 [(0, .ref sB), (1, .ref mA)] := hl
  skip
  refine lv_aload_n hx hb dX5_keep_0 rfl (lv_at hl 0 rfl) ?_
  refine z_get Z i_X5 hP 0 rfl rfl 0 (by decide) bw_220 rfl dX5_keep_1 ?_
  refine lv_aload_n hx hb dX5_keep_4 rfl (lv_at hl 0 rfl) ?_
  refine z_get Z i_X5 hP 0 rfl rfl 1 (by decide) bw_221 rfl dX5_keep_5 ?_
  obtain ⟨dr, da, dx1, dx2, dx3, dx4, dx5, dx6, dg, dk1, dk2, de1, de2, de3, dq1, dq2⟩ := hR j hj
  refine z_aald Z hP 1 1 rfl rfl (vp_in_nI hj (by omega)) (by rw [nI_clamp (by omega)]; exact de1) dX5_keep_8 ?_
  refine lv_aload_n hx hb dX5_keep_9 rfl (lv_at hl 1 rfl) ?_
  have g1 := app_at (X := [(sB, .inr (5, [.ref rG, .int (nI j), .int (nI z)])), (rG, .inl (cM, 30, .inr (.inr (.inr (.inr fR))))), (mA, .inr (1, [.ref iA, .int y1, .int y2, .int y3, .int y4, .int y5, .int y6])), (iA, .inl (cI, 10, .inl f2))]) (m := 4) rfl de2
  have g2 := app_at (X := [(sB, .inr (5, [.ref rG, .int (nI j), .int (nI z)])), (rG, .inl (cM, 30, .inr (.inr (.inr (.inr fR))))), (mA, .inr (1, [.ref iA, .int y1, .int y2, .int y3, .int y4, .int y5, .int y6])), (iA, .inl (cI, 10, .inl f2))]) (m := 4) rfl de3
  obtain ⟨hPc, hDc⟩ := pick4 (j1 := 2) (j2 := 3) hP hD g1 g2 rfl rfl (nd4 ⟨(fun e => zkind (by omega : dk1 = dk2) de2 de3), by omega, by omega, by omega, by omega, by decide⟩)
  refine raw_Vv (ci := 1) (q0 := 0) (nA := 1) (As := [.ref mA]) (rest := []) Z hl.1 (c_X1_copyFrom l D cI cM cT dr da mA iA dx1 dx2 dx3 dx4 dx5 dx6 y1 y2 y3 y4 y5 y6 dg f2) (bw_V bw_520 bw_521 bw_522 bw_86 bw_523) ⟨by decide +kernel, by decide +kernel, by decide +kernel⟩ rfl ⟨Nat.le_of_ble_eq_true rfl, Nat.le_of_ble_eq_true rfl⟩ rfl rfl rfl hPc hDc hS rfl (Nat.le_of_ble_eq_true rfl) dX5_keep_10 ⟨Nat.le_of_ble_eq_true rfl, Nat.le_of_ble_eq_true rfl⟩ (fun u9 H1 locs1 h9 hk9 hP1 hD1 hS1 => ?_)
  subst h9
  obtain ⟨hP, hD⟩ := inpl4 (j1 := 2) (j2 := 3) hP hD g1 g2 rfl rfl hk9 hP1
  rw [app_set (X := [(sB, .inr (5, [.ref rG, .int (nI j), .int (nI z)])), (rG, .inl (cM, 30, .inr (.inr (.inr (.inr fR))))), (mA, .inr (1, [.ref iA, .int y1, .int y2, .int y3, .int y4, .int y5, .int y6])), (iA, .inl (cI, 10, .inl f2))]) (m := 4) rfl] at hP hD
  have hR := ring_set (y1 := y1) (y2 := y2) (y3 := y3) (y4 := y4) (y5 := y5) (y6 := y6) (g' := va_cpy f2 dg 0 0 10) hR de2 de3
  generalize (PL.set dk1 _).set dk2 _ = PL9 at hP hD hR
  have hS := hS1
  clear hS1
  generalize H1 = H at hP hS ⊢
  generalize locs1 = locs at hS ⊢
  have hP : va_P D vwCl ([(sB, .inr (5, [.ref rG, .int (nI j), .int (nI z)])), (rG, .inl (cM, 30, .inr (.inr (.inr (.inr fR))))), (mA, .inr (1, [.ref iA, .int y1, .int y2, .int y3, .int y4, .int y5, .int y6])), (iA, .inl (cI, 10, .inl f2))] ++ PL9) H := hP
  have hD : va_D A ([(sB, .inr (5, [.ref rG, .int (nI j), .int (nI z)])), (rG, .inl (cM, 30, .inr (.inr (.inr (.inr fR))))), (mA, .inr (1, [.ref iA, .int y1, .int y2, .int y3, .int y4, .int y5, .int y6])), (iA, .inl (cI, 10, .inl f2))] ++ PL9) := hD
  refine lv_aload_n hx hb dX5_keep_13 rfl (lv_at hl 0 rfl) ?_
  refine lv_aload_n hx hb dX5_keep_14 rfl (lv_at hl 0 rfl) ?_
  refine z_get Z i_X5 hP 0 rfl rfl 1 (by decide) bw_221 rfl dX5_keep_15 ?_
  refine lv_iconst (v := 1) hx hb dX5_keep_18 (by decide) ?_
  refine lv_iadd hx hb dX5_keep_19 ?_
  refine z_topi (y := (nI (j + 1))) (nI_add j 1) ?_
  refine lv_bipush (v := 30) hx hb dX5_keep_20 (by decide) ?_
  refine lv_irem hx hb dX5_keep_22 (by decide) ?_
  refine z_topi (y := (nI ((j + 1) % 30))) (pk_rem (by omega) (by decide) (by decide)) ?_
  refine z_put Z i_X5 tyX5 tyX5_ok nmX5 hP hD hS 0 rfl rfl 1 (by decide) bw_221 rfl rfl rfl (Nat.le_of_ble_eq_true rfl) dX5_keep_23 (fun H locs hP hD hS => ?_)
  have hP : va_P D vwCl ([(sB, .inr (5, [.ref rG, .int (nI ((j + 1) % 30)), .int (nI z)])), (rG, .inl (cM, 30, .inr (.inr (.inr (.inr fR))))), (mA, .inr (1, [.ref iA, .int y1, .int y2, .int y3, .int y4, .int y5, .int y6])), (iA, .inl (cI, 10, .inl f2))] ++ PL9) H := hP
  have hD : va_D A ([(sB, .inr (5, [.ref rG, .int (nI ((j + 1) % 30)), .int (nI z)])), (rG, .inl (cM, 30, .inr (.inr (.inr (.inr fR))))), (mA, .inr (1, [.ref iA, .int y1, .int y2, .int y3, .int y4, .int y5, .int y6])), (iA, .inl (cI, 10, .inl f2))] ++ PL9) := hD
  have ez : (nI z).toInt = (z : Int) := nI_toInt (by omega)
  refine lv_aload_n hx hb dX5_keep_26 rfl (lv_at hl 0 rfl) ?_
  refine z_get Z i_X5 hP 0 rfl rfl 2 (by decide) bw_222 rfl dX5_keep_27 ?_
  refine lv_bipush (v := 30) hx hb dX5_keep_30 (by decide) ?_
  refine lv_icmp_ge (tgt := 45) hx hb dX5_keep_32 (by decide) (fun c1 => ?_) (fun c1 => ?_)
  · exact z_vret Z hP hD hS (⟨((j + 1) % 30), z, PL9, rfl, Nat.mod_lt _ (by decide), (by (try simp only [zlt, zle, zeq, zl_0, zl_1, zl_2, zl_3, zl_4, zl_5, zl_6, zl_7, zl_8, zl_9, zl_10, zl_11, zl_12, zl_13, zl_19, zl_20, zl_30, zl_64, zl_99, zl_100, zl_299, zl_300, zl_399, zl_999, zl_9999, zl_m1, zl_m2, zl_m3, zl_32, zl_280, zl_862, zl_464, zl_82, zl_382, zl_398, zl_400000000, zl_63] at ez hz c1 ⊢); omega), hR⟩) dX5_keep_45 (Nat.le_of_ble_eq_true rfl) (Nat.le_of_ble_eq_true rfl)
  · refine lv_aload_n hx hb dX5_keep_35 rfl (lv_at hl 0 rfl) ?_
    refine lv_dup hx hb dX5_keep_36 rfl ?_
    refine z_get Z i_X5 hP 0 rfl rfl 2 (by decide) bw_222 rfl dX5_keep_37 ?_
    refine lv_iconst (v := 1) hx hb dX5_keep_40 (by decide) ?_
    refine lv_iadd hx hb dX5_keep_41 ?_
    refine z_topi (y := (nI (z + 1))) (nI_add z 1) ?_
    refine z_put Z i_X5 tyX5 tyX5_ok nmX5 hP hD hS 0 rfl rfl 2 (by decide) bw_222 rfl rfl rfl (Nat.le_of_ble_eq_true rfl) dX5_keep_42 (fun H locs hP hD hS => ?_)
    have hP : va_P D vwCl ([(sB, .inr (5, [.ref rG, .int (nI ((j + 1) % 30)), .int (nI (z + 1))])), (rG, .inl (cM, 30, .inr (.inr (.inr (.inr fR))))), (mA, .inr (1, [.ref iA, .int y1, .int y2, .int y3, .int y4, .int y5, .int y6])), (iA, .inl (cI, 10, .inl f2))] ++ PL9) H := hP
    have hD : va_D A ([(sB, .inr (5, [.ref rG, .int (nI ((j + 1) % 30)), .int (nI (z + 1))])), (rG, .inl (cM, 30, .inr (.inr (.inr (.inr fR))))), (mA, .inr (1, [.ref iA, .int y1, .int y2, .int y3, .int y4, .int y5, .int y6])), (iA, .inl (cI, 10, .inl f2))] ++ PL9) := hD
    exact z_vret Z hP hD hS (⟨((j + 1) % 30), (z + 1), PL9, rfl, Nat.mod_lt _ (by decide), (by (try simp only [zlt, zle, zeq, zl_0, zl_1, zl_2, zl_3, zl_4, zl_5, zl_6, zl_7, zl_8, zl_9, zl_10, zl_11, zl_12, zl_13, zl_19, zl_20, zl_30, zl_64, zl_99, zl_100, zl_299, zl_300, zl_399, zl_999, zl_9999, zl_m1, zl_m2, zl_m3, zl_32, zl_280, zl_862, zl_464, zl_82, zl_382, zl_398, zl_400000000, zl_63] at ez hz c1 ⊢); omega), hR⟩) dX5_keep_45 (Nat.le_of_ble_eq_true rfl) (Nat.le_of_ble_eq_true rfl)
set_option maxHeartbeats 4000000 in
set_option maxRecDepth 100000 in
theorem lp_X5_copyFrom {p : Program} (l : Launch) {e : Env} {s : State} {m : MethodId} {below : List Frame} {meth : Method} {c : Code} {A : Nat → Prop} (D : va_G) (cI cM cT : ClassId) (sB : Nat) (rG : Nat) (sC : Nat) (rH : Nat) (n1 : Int32) (n2 : Int32) (n3 : Int32) (n4 : Int32) (fD : Nat → Option Nat) (fS : Nat → Option Nat) (PL : va_W) (Ka : Nat → Prop) (Kb : Nat → Prop) (Z : Zx p s m ([.ref sB, .ref sC] : List Value).toArray meth c cX5_copyFrom 3 none yX5_copyFrom.cls A (ty3 cI cM cT) D) (hA_ : RingOK cI fD 30 PL Ka) (hB_ : RingOK cI fS 30 PL Kb) (hab : ∀ k, Ka k → ¬ Kb k) : ∀ (n0 : Nat) (i : Nat) (PQ : va_W) (h0 : i ≤ 30) (hA_ : RingOK cI fD 30 PQ Ka) (hB_ : RingOK cI fS 30 PQ Kb), 30 - i < n0 → ∀ (H : Heap) (locs : List Loc) (ls : Array Slot), va_P D vwCl ([(sB, .inr (5, [.ref rG, .int n1, .int n2])), (rG, .inl (cM, 30, .inr (.inr (.inr (.inr fD))))), (sC, .inr (5, [.ref rH, .int n3, .int n4])), (rH, .inl (cM, 30, .inr (.inr (.inr (.inr fS)))))] ++ PQ) H → va_D A ([(sB, .inr (5, [.ref rG, .int n1, .int n2])), (rG, .inl (cM, 30, .inr (.inr (.inr (.inr fD))))), (sC, .inr (5, [.ref rH, .int n3, .int n4])), (rH, .inl (cM, 30, .inr (.inr (.inr (.inr fS)))))] ++ PQ) → va_S A s.heap H locs → lv_has ls 3 [(0, .ref sB), (1, .ref sC), (2, .int (nI i))] → W p l e (rmv 2 0 0) s m ([.ref sB, .ref sC] : List Value).toArray below meth c H locs 0 0 (MQ below (va_Qv (fun u => u = []) (cB D (ty3 cI cM cT) A) A) ([.ref sB, .ref sC] : List Value).toArray s 0 0 A) (F0 m 2 ls []) := by
  have hx := Z.1
  have hb := Z.2.1
  intro n0
  induction n0 with
  | zero => intro i PQ h0 hA_ hB_ hm; exact absurd hm (Nat.not_lt_zero _)
  | succ n0 ih =>
    intro i PQ h0 hA_ hB_ hm H locs ls hP hD hS hl
    have ei : (nI i).toInt = (i : Int) := nI_toInt (by omega)
    refine lv_iload_n hx hb dX5_copyFrom_2 rfl (lv_at hl 2 rfl) ?_
    refine lv_bipush (v := 30) hx hb dX5_copyFrom_3 (by decide) ?_
    refine lv_icmp_ge (tgt := 29) hx hb dX5_copyFrom_5 (by decide) (fun c1 => ?_) (fun c1 => ?_)
    · refine lv_aload_n hx hb dX5_copyFrom_29 rfl (lv_at hl 0 rfl) ?_
      refine lv_aload_n hx hb dX5_copyFrom_30 rfl (lv_at hl 1 rfl) ?_
      refine z_get Z i_X5 hP 2 rfl rfl 1 (by decide) bw_221 rfl dX5_copyFrom_31 ?_
      refine z_put Z i_X5 tyX5 tyX5_ok nmX5 hP hD hS 0 rfl rfl 1 (by decide) bw_221 rfl rfl rfl (Nat.le_of_ble_eq_true rfl) dX5_copyFrom_34 (fun H locs hP hD hS => ?_)
      have hP : va_P D vwCl ([(sB, .inr (5, [.ref rG, .int n3, .int n2])), (rG, .inl (cM, 30, .inr (.inr (.inr (.inr fD))))), (sC, .inr (5, [.ref rH, .int n3, .int n4])), (rH, .inl (cM, 30, .inr (.inr (.inr (.inr fS)))))] ++ PQ) H := hP
      have hD : va_D A ([(sB, .inr (5, [.ref rG, .int n3, .int n2])), (rG, .inl (cM, 30, .inr (.inr (.inr (.inr fD))))), (sC, .inr (5, [.ref rH, .int n3, .int n4])), (rH, .inl (cM, 30, .inr (.inr (.inr (.inr fS)))))] ++ PQ) := hD
      refine lv_aload_n hx hb dX5_copyFrom_37 rfl (lv_at hl 0 rfl) ?_
      refine lv_aload_n hx hb dX5_copyFrom_38 rfl (lv_at hl 1 rfl) ?_
      refine z_get Z i_X5 hP 2 rfl rfl 2 (by decide) bw_222 rfl dX5_copyFrom_39 ?_
      refine z_put Z i_X5 tyX5 tyX5_ok nmX5 hP hD hS 0 rfl rfl 2 (by decide) bw_222 rfl rfl rfl (Nat.le_of_ble_eq_true rfl) dX5_copyFrom_42 (fun H locs hP hD hS => ?_)
      have hP : va_P D vwCl ([(sB, .inr (5, [.ref rG, .int n3, .int n4])), (rG, .inl (cM, 30, .inr (.inr (.inr (.inr fD))))), (sC, .inr (5, [.ref rH, .int n3, .int n4])), (rH, .inl (cM, 30, .inr (.inr (.inr (.inr fS)))))] ++ PQ) H := hP
      have hD : va_D A ([(sB, .inr (5, [.ref rG, .int n3, .int n4])), (rG, .inl (cM, 30, .inr (.inr (.inr (.inr fD))))), (sC, .inr (5, [.ref rH, .int n3, .int n4])), (rH, .inl (cM, 30, .inr (.inr (.inr (.inr fS)))))] ++ PQ) := hD
      have hP := va_P_left hP
      have hD := va_D_left hD
      have hP := hP.sub2 (wc := []) [] rfl
      have hD := hD.sub (ws' := []) [] (by decide) rfl
      exact z_vret Z hP hD hS (rfl) dX5_copyFrom_45 (Nat.le_of_ble_eq_true rfl) (Nat.le_of_ble_eq_true rfl)
    · refine lv_aload_n hx hb dX5_copyFrom_8 rfl (lv_at hl 0 rfl) ?_
      refine z_get Z i_X5 hP 0 rfl rfl 0 (by decide) bw_220 rfl dX5_copyFrom_9 ?_
      refine lv_iload_n hx hb dX5_copyFrom_12 rfl (lv_at hl 2 rfl) ?_
      have hi30 : i < 30 := by (try simp only [zlt, zle, zeq, zl_0, zl_1, zl_2, zl_3, zl_4, zl_5, zl_6, zl_7, zl_8, zl_9, zl_10, zl_11, zl_12, zl_13, zl_19, zl_20, zl_30, zl_64, zl_99, zl_100, zl_299, zl_300, zl_399, zl_999, zl_9999, zl_m1, zl_m2, zl_m3, zl_32, zl_280, zl_862, zl_464, zl_82, zl_382, zl_398, zl_400000000, zl_63] at ei h0 hm c1 ⊢); omega
      obtain ⟨dr, da, dx1, dx2, dx3, dx4, dx5, dx6, dg, dk1, dk2, de1, de2, de3, dq1, dq2⟩ := hA_ i hi30
      obtain ⟨tr, ta, tx1, tx2, tx3, tx4, tx5, tx6, tg, tk1, tk2, te1, te2, te3, tq1, tq2⟩ := hB_ i hi30
      refine z_aald Z hP 1 1 rfl rfl (vp_in_nI hi30 (by omega)) (by rw [nI_clamp (by omega)]; exact de1) dX5_copyFrom_13 ?_
      refine lv_aload_n hx hb dX5_copyFrom_14 rfl (lv_at hl 1 rfl) ?_
      refine z_get Z i_X5 hP 2 rfl rfl 0 (by decide) bw_220 rfl dX5_copyFrom_15 ?_
      refine lv_iload_n hx hb dX5_copyFrom_18 rfl (lv_at hl 2 rfl) ?_
      refine z_aald Z hP 3 1 rfl rfl (vp_in_nI hi30 (by omega)) (by rw [nI_clamp (by omega)]; exact te1) dX5_copyFrom_19 ?_
      have g1 := app_at (X := [(sB, .inr (5, [.ref rG, .int n1, .int n2])), (rG, .inl (cM, 30, .inr (.inr (.inr (.inr fD))))), (sC, .inr (5, [.ref rH, .int n3, .int n4])), (rH, .inl (cM, 30, .inr (.inr (.inr (.inr fS)))))]) (m := 4) rfl de2
      have g2 := app_at (X := [(sB, .inr (5, [.ref rG, .int n1, .int n2])), (rG, .inl (cM, 30, .inr (.inr (.inr (.inr fD))))), (sC, .inr (5, [.ref rH, .int n3, .int n4])), (rH, .inl (cM, 30, .inr (.inr (.inr (.inr fS)))))]) (m := 4) rfl de3
      have g3 := app_at (X := [(sB, .inr (5, [.ref rG, .int n1, .int n2])), (rG, .inl (cM, 30, .inr (.inr (.inr (.inr fD))))), (sC, .inr (5, [.ref rH, .int n3, .int n4])), (rH, .inl (cM, 30, .inr (.inr (.inr (.inr fS)))))]) (m := 4) rfl te2
      have g4 := app_at (X := [(sB, .inr (5, [.ref rG, .int n1, .int n2])), (rG, .inl (cM, 30, .inr (.inr (.inr (.inr fD))))), (sC, .inr (5, [.ref rH, .int n3, .int n4])), (rH, .inl (cM, 30, .inr (.inr (.inr (.inr fS)))))]) (m := 4) rfl te3
      obtain ⟨hPc, hDc⟩ := pick4 (j1 := 4 + tk1) (j2 := 4 + tk2) hP hD g1 g2 g3 g4 (nd4 ⟨(fun e => zkind (by omega : dk1 = dk2) de2 de3), (fun e => zsep hab (by omega : dk1 = tk1) dq1 tq1), (fun e => zkind (by omega : dk1 = tk2) de2 te3), (fun e => zkind (by omega : tk1 = dk2) te2 de3), (fun e => zsep hab (by omega : dk2 = tk2) dq2 tq2), (fun e => zkind (by omega : tk1 = tk2) te2 te3)⟩)
      refine raw_Vv (ci := 1) (q0 := 0) (nA := 1) (As := [.ref tr]) (rest := []) Z hl.1 (c_X1_copyFrom l D cI cM cT dr da tr ta dx1 dx2 dx3 dx4 dx5 dx6 tx1 tx2 tx3 tx4 tx5 tx6 dg tg) (bw_V bw_520 bw_521 bw_522 bw_86 bw_523) ⟨by decide +kernel, by decide +kernel, by decide +kernel⟩ rfl ⟨Nat.le_of_ble_eq_true rfl, Nat.le_of_ble_eq_true rfl⟩ rfl rfl rfl hPc hDc hS rfl (Nat.le_of_ble_eq_true rfl) dX5_copyFrom_20 ⟨Nat.le_of_ble_eq_true rfl, Nat.le_of_ble_eq_true rfl⟩ (fun u9 H1 locs1 h9 hk9 hP1 hD1 hS1 => ?_)
      subst h9
      obtain ⟨hP, hD⟩ := inpl4 (j1 := 4 + tk1) (j2 := 4 + tk2) hP hD g1 g2 g3 g4 hk9 hP1
      rw [app_set (X := [(sB, .inr (5, [.ref rG, .int n1, .int n2])), (rG, .inl (cM, 30, .inr (.inr (.inr (.inr fD))))), (sC, .inr (5, [.ref rH, .int n3, .int n4])), (rH, .inl (cM, 30, .inr (.inr (.inr (.inr fS)))))]) (m := 4) rfl] at hP hD
      have hA_ := ring_set (y1 := tx1) (y2 := tx2) (y3 := tx3) (y4 := tx4) (y5 := tx5) (y6 := tx6) (g' := va_cpy tg dg 0 0 10) hA_ de2 de3
      have hB_ := ring_set (y1 := tx1) (y2 := tx2) (y3 := tx3) (y4 := tx4) (y5 := tx5) (y6 := tx6) (g' := va_cpy tg dg 0 0 10) hB_ de2 de3
      generalize (PQ.set dk1 _).set dk2 _ = PL9 at hP hD hA_ hB_
      have hS := hS1
      clear hS1
      generalize H1 = H at hP hS ⊢
      generalize locs1 = locs at hS ⊢
      have hP : va_P D vwCl ([(sB, .inr (5, [.ref rG, .int n1, .int n2])), (rG, .inl (cM, 30, .inr (.inr (.inr (.inr fD))))), (sC, .inr (5, [.ref rH, .int n3, .int n4])), (rH, .inl (cM, 30, .inr (.inr (.inr (.inr fS)))))] ++ PL9) H := hP
      have hD : va_D A ([(sB, .inr (5, [.ref rG, .int n1, .int n2])), (rG, .inl (cM, 30, .inr (.inr (.inr (.inr fD))))), (sC, .inr (5, [.ref rH, .int n3, .int n4])), (rH, .inl (cM, 30, .inr (.inr (.inr (.inr fS)))))] ++ PL9) := hD
      refine lv_iinc (v := (nI (i + 1))) (lv' := [(2, .int (nI (i + 1))), (0, .ref sB), (1, .ref sC)]) hx hb dX5_copyFrom_23 hl (k := 2) rfl (nI_1 i) (by decide) rfl (fun ls hl => ?_)
      refine lv_goto (tgt := 2) hx hb dX5_copyFrom_26 (by decide) ?_
      exact ih (i + 1) PL9 (by (try simp only [zlt, zle, zeq, zl_0, zl_1, zl_2, zl_3, zl_4, zl_5, zl_6, zl_7, zl_8, zl_9, zl_10, zl_11, zl_12, zl_13, zl_19, zl_20, zl_30, zl_64, zl_99, zl_100, zl_299, zl_300, zl_399, zl_999, zl_9999, zl_m1, zl_m2, zl_m3, zl_32, zl_280, zl_862, zl_464, zl_82, zl_382, zl_398, zl_400000000, zl_63] at ei h0 hm c1 ⊢); omega) hA_ hB_ (by (try simp only [zlt, zle, zeq, zl_0, zl_1, zl_2, zl_3, zl_4, zl_5, zl_6, zl_7, zl_8, zl_9, zl_10, zl_11, zl_12, zl_13, zl_19, zl_20, zl_30, zl_64, zl_99, zl_100, zl_299, zl_300, zl_399, zl_999, zl_9999, zl_m1, zl_m2, zl_m3, zl_32, zl_280, zl_862, zl_464, zl_82, zl_382, zl_398, zl_400000000, zl_63] at ei h0 hm c1 ⊢); omega) _ _ _ hP hD hS (lv_sub hl [1, 2, 0] rfl)
set_option maxHeartbeats 4000000 in
set_option maxRecDepth 100000 in
theorem c_X5_copyFrom (l : Launch) (D : va_G) (cI cM cT : ClassId) (sB : Nat) (rG : Nat) (sC : Nat) (rH : Nat) (n1 : Int32) (n2 : Int32) (n3 : Int32) (n4 : Int32) (fD : Nat → Option Nat) (fS : Nat → Option Nat) (PL : va_W) (Ka : Nat → Prop) (Kb : Nat → Prop) (hA_ : RingOK cI fD 30 PL Ka) (hB_ : RingOK cI fS 30 PL Kb) (hab : ∀ k, Ka k → ¬ Kb k) : Cv l D (ty3 cI cM cT) yX5_copyFrom cX5_copyFrom 3 2 0 0 [.ref sB, .ref sC] ([(sB, .inr (5, [.ref rG, .int n1, .int n2])), (rG, .inl (cM, 30, .inr (.inr (.inr (.inr fD))))), (sC, .inr (5, [.ref rH, .int n3, .int n4])), (rH, .inl (cM, 30, .inr (.inr (.inr (.inr fS)))))] ++ PL) (fun u => u = []) := by
  refine Cv.of (by decide +kernel) (Nat.le_of_ble_eq_true rfl) ?_
  intro p e s m below meth c A ls Z hin hP hD hl
  have hx := Z.1
  have hb := Z.2.1
  have hS : va_S A s.heap s.heap [] := va_S.rf
  have hl : lv_has ls 3 [(0, .ref sB), (1, .ref sC)] := hl
  skip
  refine lv_iconst (v := 0) hx hb dX5_copyFrom_0 (by decide) ?_
  refine lv_istore_n (lv' := [(2, .int 0), (0, .ref sB), (1, .ref sC)]) hx hb dX5_copyFrom_1 rfl hl (by decide) rfl (fun ls hl => ?_)
  refine W.widen (k := 0) (n := 0) (Nat.le_of_ble_eq_true rfl) (Nat.le_of_ble_eq_true rfl) ?_
  exact lp_X5_copyFrom l D cI cM cT sB rG sC rH n1 n2 n3 n4 fD fS PL Ka Kb Z hA_ hB_ hab  _ 0 PL (Nat.zero_le _) hA_ hB_ (Nat.lt_succ_self _) _ _ _ hP hD hS (lv_sub hl [1, 2, 0] rfl)
set_option maxHeartbeats 4000000 in
set_option maxRecDepth 100000 in
theorem c_X3_copyFrom (l : Launch) (D : va_G) (cI cM cT : ClassId) (rO : Nat) (mU : Nat) (bF : Nat) (bT : Nat) (rOk : Nat) (mUk : Nat) (bFk : Nat) (bTk : Nat) : Cv l D (ty3 cI cM cT) yX3_copyFrom cX3_copyFrom 2 1 0 0 [.ref rO, .ref rOk] ([(rO, .inr (3, [.ref mU, .ref bF, .ref bT, .int 0])), (mU, .inl (cI, 300, .inl (fun _ => 0))), (bF, .inl (cI, 4, .inl (fun _ => 0))), (bT, .inl (cI, 4, .inl (fun _ => 0))), (rOk, .inr (3, [.ref mUk, .ref bFk, .ref bTk, .int 0])), (mUk, .inl (cI, 300, .inl (fun _ => 0))), (bFk, .inl (cI, 4, .inl (fun _ => 0))), (bTk, .inl (cI, 4, .inl (fun _ => 0)))]) (fun u => u = []) := by
  refine Cv.of (by decide +kernel) (Nat.le_of_ble_eq_true rfl) ?_
  intro p e s m below meth c A ls Z hin hP hD hl
  have hx := Z.1
  have hb := Z.2.1
  have hS : va_S A s.heap s.heap [] := va_S.rf
  have hl : lv_has ls 2 [(0, .ref rO), (1, .ref rOk)] := hl
  skip
  refine lv_aload_n hx hb dX3_copyFrom_0 rfl (lv_at hl 1 rfl) ?_
  refine z_get Z i_X3 hP 4 rfl rfl 0 (by decide) bw_134 rfl dX3_copyFrom_1 ?_
  refine lv_iconst (v := 0) hx hb dX3_copyFrom_4 (by decide) ?_
  refine lv_aload_n hx hb dX3_copyFrom_5 rfl (lv_at hl 0 rfl) ?_
  refine z_get Z i_X3 hP 0 rfl rfl 0 (by decide) bw_134 rfl dX3_copyFrom_6 ?_
  refine lv_iconst (v := 0) hx hb dX3_copyFrom_9 (by decide) ?_
  refine lv_sipush (v := 300) hx hb dX3_copyFrom_10 (by decide) ?_
  refine va_copyi hx hb (Z.2.2.1.trans hl.1.symm) Z.2.2.2.1 (Z.2.2.2.2.1 _ bw_990) (Z.2.2.2.2.1 _ bw_526) (Z.2.2.2.2.1 _ bw_525) (Z.2.2.2.2.1 _ bw_93) Z.2.2.2.2.2.2.1 hP hD hS 5 1 0 0 rfl rfl rfl rfl rfl (by decide) (by decide) (by decide) (by decide) (by decide) (fun _ _ => rfl) (Nat.le_of_ble_eq_true rfl) (by decide +kernel) dX3_copyFrom_13 (fun H locs hP hD hS => ?_)
  have hP : va_P D vwCl ([(rO, .inr (3, [.ref mU, .ref bF, .ref bT, .int 0])), (mU, .inl (cI, 300, .inl (va_cpy (fun _ => 0) (fun _ => 0) 0 0 300))), (bF, .inl (cI, 4, .inl (fun _ => 0))), (bT, .inl (cI, 4, .inl (fun _ => 0))), (rOk, .inr (3, [.ref mUk, .ref bFk, .ref bTk, .int 0])), (mUk, .inl (cI, 300, .inl (fun _ => 0))), (bFk, .inl (cI, 4, .inl (fun _ => 0))), (bTk, .inl (cI, 4, .inl (fun _ => 0)))]) H := hP
  have hD : va_D A ([(rO, .inr (3, [.ref mU, .ref bF, .ref bT, .int 0])), (mU, .inl (cI, 300, .inl (va_cpy (fun _ => 0) (fun _ => 0) 0 0 300))), (bF, .inl (cI, 4, .inl (fun _ => 0))), (bT, .inl (cI, 4, .inl (fun _ => 0))), (rOk, .inr (3, [.ref mUk, .ref bFk, .ref bTk, .int 0])), (mUk, .inl (cI, 300, .inl (fun _ => 0))), (bFk, .inl (cI, 4, .inl (fun _ => 0))), (bTk, .inl (cI, 4, .inl (fun _ => 0)))]) := hD
  refine lv_aload_n hx hb dX3_copyFrom_16 rfl (lv_at hl 1 rfl) ?_
  refine z_get Z i_X3 hP 4 rfl rfl 1 (by decide) bw_137 rfl dX3_copyFrom_17 ?_
  refine lv_iconst (v := 0) hx hb dX3_copyFrom_20 (by decide) ?_
  refine lv_aload_n hx hb dX3_copyFrom_21 rfl (lv_at hl 0 rfl) ?_
  refine z_get Z i_X3 hP 0 rfl rfl 1 (by decide) bw_137 rfl dX3_copyFrom_22 ?_
  refine lv_iconst (v := 0) hx hb dX3_copyFrom_25 (by decide) ?_
  refine lv_iconst (v := 4) hx hb dX3_copyFrom_26 (by decide) ?_
  refine va_copyi hx hb (Z.2.2.1.trans hl.1.symm) Z.2.2.2.1 (Z.2.2.2.2.1 _ bw_990) (Z.2.2.2.2.1 _ bw_526) (Z.2.2.2.2.1 _ bw_525) (Z.2.2.2.2.1 _ bw_93) Z.2.2.2.2.2.2.1 hP hD hS 6 2 0 0 rfl rfl rfl rfl rfl (by decide) (by decide) (by decide) (by decide) (by decide) (fun _ _ => rfl) (Nat.le_of_ble_eq_true rfl) (by decide +kernel) dX3_copyFrom_27 (fun H locs hP hD hS => ?_)
  have hP : va_P D vwCl ([(rO, .inr (3, [.ref mU, .ref bF, .ref bT, .int 0])), (mU, .inl (cI, 300, .inl (va_cpy (fun _ => 0) (fun _ => 0) 0 0 300))), (bF, .inl (cI, 4, .inl (va_cpy (fun _ => 0) (fun _ => 0) 0 0 4))), (bT, .inl (cI, 4, .inl (fun _ => 0))), (rOk, .inr (3, [.ref mUk, .ref bFk, .ref bTk, .int 0])), (mUk, .inl (cI, 300, .inl (fun _ => 0))), (bFk, .inl (cI, 4, .inl (fun _ => 0))), (bTk, .inl (cI, 4, .inl (fun _ => 0)))]) H := hP
  have hD : va_D A ([(rO, .inr (3, [.ref mU, .ref bF, .ref bT, .int 0])), (mU, .inl (cI, 300, .inl (va_cpy (fun _ => 0) (fun _ => 0) 0 0 300))), (bF, .inl (cI, 4, .inl (va_cpy (fun _ => 0) (fun _ => 0) 0 0 4))), (bT, .inl (cI, 4, .inl (fun _ => 0))), (rOk, .inr (3, [.ref mUk, .ref bFk, .ref bTk, .int 0])), (mUk, .inl (cI, 300, .inl (fun _ => 0))), (bFk, .inl (cI, 4, .inl (fun _ => 0))), (bTk, .inl (cI, 4, .inl (fun _ => 0)))]) := hD
  refine lv_aload_n hx hb dX3_copyFrom_30 rfl (lv_at hl 1 rfl) ?_
  refine z_get Z i_X3 hP 4 rfl rfl 2 (by decide) bw_139 rfl dX3_copyFrom_31 ?_
  refine lv_iconst (v := 0) hx hb dX3_copyFrom_34 (by decide) ?_
  refine lv_aload_n hx hb dX3_copyFrom_35 rfl (lv_at hl 0 rfl) ?_
  refine z_get Z i_X3 hP 0 rfl rfl 2 (by decide) bw_139 rfl dX3_copyFrom_36 ?_
  refine lv_iconst (v := 0) hx hb dX3_copyFrom_39 (by decide) ?_
  refine lv_iconst (v := 4) hx hb dX3_copyFrom_40 (by decide) ?_
  refine va_copyi hx hb (Z.2.2.1.trans hl.1.symm) Z.2.2.2.1 (Z.2.2.2.2.1 _ bw_990) (Z.2.2.2.2.1 _ bw_526) (Z.2.2.2.2.1 _ bw_525) (Z.2.2.2.2.1 _ bw_93) Z.2.2.2.2.2.2.1 hP hD hS 7 3 0 0 rfl rfl rfl rfl rfl (by decide) (by decide) (by decide) (by decide) (by decide) (fun _ _ => rfl) (Nat.le_of_ble_eq_true rfl) (by decide +kernel) dX3_copyFrom_41 (fun H locs hP hD hS => ?_)
  have hP : va_P D vwCl ([(rO, .inr (3, [.ref mU, .ref bF, .ref bT, .int 0])), (mU, .inl (cI, 300, .inl (va_cpy (fun _ => 0) (fun _ => 0) 0 0 300))), (bF, .inl (cI, 4, .inl (va_cpy (fun _ => 0) (fun _ => 0) 0 0 4))), (bT, .inl (cI, 4, .inl (va_cpy (fun _ => 0) (fun _ => 0) 0 0 4))), (rOk, .inr (3, [.ref mUk, .ref bFk, .ref bTk, .int 0])), (mUk, .inl (cI, 300, .inl (fun _ => 0))), (bFk, .inl (cI, 4, .inl (fun _ => 0))), (bTk, .inl (cI, 4, .inl (fun _ => 0)))]) H := hP
  have hD : va_D A ([(rO, .inr (3, [.ref mU, .ref bF, .ref bT, .int 0])), (mU, .inl (cI, 300, .inl (va_cpy (fun _ => 0) (fun _ => 0) 0 0 300))), (bF, .inl (cI, 4, .inl (va_cpy (fun _ => 0) (fun _ => 0) 0 0 4))), (bT, .inl (cI, 4, .inl (va_cpy (fun _ => 0) (fun _ => 0) 0 0 4))), (rOk, .inr (3, [.ref mUk, .ref bFk, .ref bTk, .int 0])), (mUk, .inl (cI, 300, .inl (fun _ => 0))), (bFk, .inl (cI, 4, .inl (fun _ => 0))), (bTk, .inl (cI, 4, .inl (fun _ => 0)))]) := hD
  refine lv_aload_n hx hb dX3_copyFrom_44 rfl (lv_at hl 0 rfl) ?_
  refine lv_aload_n hx hb dX3_copyFrom_45 rfl (lv_at hl 1 rfl) ?_
  refine z_get Z i_X3 hP 4 rfl rfl 3 (by decide) bw_141 rfl dX3_copyFrom_46 ?_
  refine z_put Z i_X3 tyX3 tyX3_ok nmX3 hP hD hS 0 rfl rfl 3 (by decide) bw_141 rfl rfl rfl (Nat.le_of_ble_eq_true rfl) dX3_copyFrom_49 (fun H locs hP hD hS => ?_)
  have hP : va_P D vwCl ([(rO, .inr (3, [.ref mU, .ref bF, .ref bT, .int 0])), (mU, .inl (cI, 300, .inl (va_cpy (fun _ => 0) (fun _ => 0) 0 0 300))), (bF, .inl (cI, 4, .inl (va_cpy (fun _ => 0) (fun _ => 0) 0 0 4))), (bT, .inl (cI, 4, .inl (va_cpy (fun _ => 0) (fun _ => 0) 0 0 4))), (rOk, .inr (3, [.ref mUk, .ref bFk, .ref bTk, .int 0])), (mUk, .inl (cI, 300, .inl (fun _ => 0))), (bFk, .inl (cI, 4, .inl (fun _ => 0))), (bTk, .inl (cI, 4, .inl (fun _ => 0)))]) H := hP
  have hD : va_D A ([(rO, .inr (3, [.ref mU, .ref bF, .ref bT, .int 0])), (mU, .inl (cI, 300, .inl (va_cpy (fun _ => 0) (fun _ => 0) 0 0 300))), (bF, .inl (cI, 4, .inl (va_cpy (fun _ => 0) (fun _ => 0) 0 0 4))), (bT, .inl (cI, 4, .inl (va_cpy (fun _ => 0) (fun _ => 0) 0 0 4))), (rOk, .inr (3, [.ref mUk, .ref bFk, .ref bTk, .int 0])), (mUk, .inl (cI, 300, .inl (fun _ => 0))), (bFk, .inl (cI, 4, .inl (fun _ => 0))), (bTk, .inl (cI, 4, .inl (fun _ => 0)))]) := hD
  have hP := hP.sub2 (wc := []) [] rfl
  have hD := hD.sub (ws' := []) [] (by decide) rfl
  exact z_vret Z hP hD hS (rfl) dX3_copyFrom_52 (Nat.le_of_ble_eq_true rfl) (Nat.le_of_ble_eq_true rfl)
set_option maxHeartbeats 4000000 in
set_option maxRecDepth 100000 in
theorem c_X4_copyFrom (l : Launch) (D : va_G) (cI cM cT : ClassId) (sT : Nat) (cO : Nat) (sH : Nat) (sTk : Nat) (cOk : Nat) (sHk : Nat) : Cv l D (ty3 cI cM cT) yX4_copyFrom cX4_copyFrom 2 1 0 0 [.ref sT, .ref sTk] ([(sT, .inr (4, [.ref cO, .ref sH, .int 0])), (cO, .inl (cI, 6, .inl (fun _ => 0))), (sH, .inl (cI, 6, .inl (fun _ => 0))), (sTk, .inr (4, [.ref cOk, .ref sHk, .int 0])), (cOk, .inl (cI, 6, .inl (fun _ => 0))), (sHk, .inl (cI, 6, .inl (fun _ => 0)))]) (fun u => u = []) := by
  refine Cv.of (by decide +kernel) (Nat.le_of_ble_eq_true rfl) ?_
  intro p e s m below meth c A ls Z hin hP hD hl
  have hx := Z.1
  have hb := Z.2.1
  have hS : va_S A s.heap s.heap [] := va_S.rf
  have hl : lv_has ls 2 [(0, .ref sT), (1, .ref sTk)] := hl
  skip
  refine lv_aload_n hx hb dX4_copyFrom_0 rfl (lv_at hl 1 rfl) ?_
  refine z_get Z i_X4 hP 3 rfl rfl 0 (by decide) bw_159 rfl dX4_copyFrom_1 ?_
  refine lv_iconst (v := 0) hx hb dX4_copyFrom_4 (by decide) ?_
  refine lv_aload_n hx hb dX4_copyFrom_5 rfl (lv_at hl 0 rfl) ?_
  refine z_get Z i_X4 hP 0 rfl rfl 0 (by decide) bw_159 rfl dX4_copyFrom_6 ?_
  refine lv_iconst (v := 0) hx hb dX4_copyFrom_9 (by decide) ?_
  refine lv_bipush (v := 6) hx hb dX4_copyFrom_10 (by decide) ?_
  refine va_copyi hx hb (Z.2.2.1.trans hl.1.symm) Z.2.2.2.1 (Z.2.2.2.2.1 _ bw_995) (Z.2.2.2.2.1 _ bw_526) (Z.2.2.2.2.1 _ bw_525) (Z.2.2.2.2.1 _ bw_93) Z.2.2.2.2.2.2.1 hP hD hS 4 1 0 0 rfl rfl rfl rfl rfl (by decide) (by decide) (by decide) (by decide) (by decide) (fun _ _ => rfl) (Nat.le_of_ble_eq_true rfl) (by decide +kernel) dX4_copyFrom_12 (fun H locs hP hD hS => ?_)
  have hP : va_P D vwCl ([(sT, .inr (4, [.ref cO, .ref sH, .int 0])), (cO, .inl (cI, 6, .inl (va_cpy (fun _ => 0) (fun _ => 0) 0 0 6))), (sH, .inl (cI, 6, .inl (fun _ => 0))), (sTk, .inr (4, [.ref cOk, .ref sHk, .int 0])), (cOk, .inl (cI, 6, .inl (fun _ => 0))), (sHk, .inl (cI, 6, .inl (fun _ => 0)))]) H := hP
  have hD : va_D A ([(sT, .inr (4, [.ref cO, .ref sH, .int 0])), (cO, .inl (cI, 6, .inl (va_cpy (fun _ => 0) (fun _ => 0) 0 0 6))), (sH, .inl (cI, 6, .inl (fun _ => 0))), (sTk, .inr (4, [.ref cOk, .ref sHk, .int 0])), (cOk, .inl (cI, 6, .inl (fun _ => 0))), (sHk, .inl (cI, 6, .inl (fun _ => 0)))]) := hD
  refine lv_aload_n hx hb dX4_copyFrom_15 rfl (lv_at hl 1 rfl) ?_
  refine z_get Z i_X4 hP 3 rfl rfl 1 (by decide) bw_162 rfl dX4_copyFrom_16 ?_
  refine lv_iconst (v := 0) hx hb dX4_copyFrom_19 (by decide) ?_
  refine lv_aload_n hx hb dX4_copyFrom_20 rfl (lv_at hl 0 rfl) ?_
  refine z_get Z i_X4 hP 0 rfl rfl 1 (by decide) bw_162 rfl dX4_copyFrom_21 ?_
  refine lv_iconst (v := 0) hx hb dX4_copyFrom_24 (by decide) ?_
  refine lv_bipush (v := 6) hx hb dX4_copyFrom_25 (by decide) ?_
  refine va_copyi hx hb (Z.2.2.1.trans hl.1.symm) Z.2.2.2.1 (Z.2.2.2.2.1 _ bw_995) (Z.2.2.2.2.1 _ bw_526) (Z.2.2.2.2.1 _ bw_525) (Z.2.2.2.2.1 _ bw_93) Z.2.2.2.2.2.2.1 hP hD hS 5 2 0 0 rfl rfl rfl rfl rfl (by decide) (by decide) (by decide) (by decide) (by decide) (fun _ _ => rfl) (Nat.le_of_ble_eq_true rfl) (by decide +kernel) dX4_copyFrom_27 (fun H locs hP hD hS => ?_)
  have hP : va_P D vwCl ([(sT, .inr (4, [.ref cO, .ref sH, .int 0])), (cO, .inl (cI, 6, .inl (va_cpy (fun _ => 0) (fun _ => 0) 0 0 6))), (sH, .inl (cI, 6, .inl (va_cpy (fun _ => 0) (fun _ => 0) 0 0 6))), (sTk, .inr (4, [.ref cOk, .ref sHk, .int 0])), (cOk, .inl (cI, 6, .inl (fun _ => 0))), (sHk, .inl (cI, 6, .inl (fun _ => 0)))]) H := hP
  have hD : va_D A ([(sT, .inr (4, [.ref cO, .ref sH, .int 0])), (cO, .inl (cI, 6, .inl (va_cpy (fun _ => 0) (fun _ => 0) 0 0 6))), (sH, .inl (cI, 6, .inl (va_cpy (fun _ => 0) (fun _ => 0) 0 0 6))), (sTk, .inr (4, [.ref cOk, .ref sHk, .int 0])), (cOk, .inl (cI, 6, .inl (fun _ => 0))), (sHk, .inl (cI, 6, .inl (fun _ => 0)))]) := hD
  refine lv_aload_n hx hb dX4_copyFrom_30 rfl (lv_at hl 0 rfl) ?_
  refine lv_aload_n hx hb dX4_copyFrom_31 rfl (lv_at hl 1 rfl) ?_
  refine z_get Z i_X4 hP 3 rfl rfl 2 (by decide) bw_165 rfl dX4_copyFrom_32 ?_
  refine z_put Z i_X4 tyX4 tyX4_ok nmX4 hP hD hS 0 rfl rfl 2 (by decide) bw_165 rfl rfl rfl (Nat.le_of_ble_eq_true rfl) dX4_copyFrom_35 (fun H locs hP hD hS => ?_)
  have hP : va_P D vwCl ([(sT, .inr (4, [.ref cO, .ref sH, .int 0])), (cO, .inl (cI, 6, .inl (va_cpy (fun _ => 0) (fun _ => 0) 0 0 6))), (sH, .inl (cI, 6, .inl (va_cpy (fun _ => 0) (fun _ => 0) 0 0 6))), (sTk, .inr (4, [.ref cOk, .ref sHk, .int 0])), (cOk, .inl (cI, 6, .inl (fun _ => 0))), (sHk, .inl (cI, 6, .inl (fun _ => 0)))]) H := hP
  have hD : va_D A ([(sT, .inr (4, [.ref cO, .ref sH, .int 0])), (cO, .inl (cI, 6, .inl (va_cpy (fun _ => 0) (fun _ => 0) 0 0 6))), (sH, .inl (cI, 6, .inl (va_cpy (fun _ => 0) (fun _ => 0) 0 0 6))), (sTk, .inr (4, [.ref cOk, .ref sHk, .int 0])), (cOk, .inl (cI, 6, .inl (fun _ => 0))), (sHk, .inl (cI, 6, .inl (fun _ => 0)))]) := hD
  have hP := hP.sub2 (wc := []) [] rfl
  have hD := hD.sub (ws' := []) [] (by decide) rfl
  exact z_vret Z hP hD hS (rfl) dX4_copyFrom_38 (Nat.le_of_ble_eq_true rfl) (Nat.le_of_ble_eq_true rfl)
set_option maxHeartbeats 4000000 in
set_option maxRecDepth 100000 in
theorem c_X10_copyFrom (l : Launch) (D : va_G) (cI cM cT : ClassId) (nw : Nat) (rO : Nat) (sT : Nat) (mA : Nat) (sB : Nat) (sA : Nat) (tH : Nat) (tF : Nat) (tS : Nat) (mU : Nat) (bF : Nat) (bT : Nat) (cO : Nat) (sH : Nat) (iA : Nat) (rG : Nat) (kp : Nat) (rOk : Nat) (sTk : Nat) (mAk : Nat) (sBk : Nat) (sAk : Nat) (tHk : Nat) (tFk : Nat) (tSk : Nat) (mUk : Nat) (bFk : Nat) (bTk : Nat) (cOk : Nat) (sHk : Nat) (iAk : Nat) (rGk : Nat) (fD : Nat → Option Nat) (fS : Nat → Option Nat) (PL : va_W) (Ka : Nat → Prop) (Kb : Nat → Prop) (hA_ : RingOK cI fD 30 PL Ka) (hB_ : RingOK cI fS 30 PL Kb) (hab : ∀ k, Ka k → ¬ Kb k) : Cv l D (ty3 cI cM cT) yX10_copyFrom cX10_copyFrom 2 3 0 0 [.ref nw, .ref kp] ([(nw, .inr (10, [.ref rO, .ref sT, .ref mA, .ref sB, .ref sA, .ref tH, .ref tF, .ref tS, .int 0, .int 0, .int (-1), .int 0, .int 0])), (rO, .inr (3, [.ref mU, .ref bF, .ref bT, .int 0])), (mU, .inl (cI, 300, .inl (fun _ => 0))), (bF, .inl (cI, 4, .inl (fun _ => 0))), (bT, .inl (cI, 4, .inl (fun _ => 0))), (sT, .inr (4, [.ref cO, .ref sH, .int 0])), (cO, .inl (cI, 6, .inl (fun _ => 0))), (sH, .inl (cI, 6, .inl (fun _ => 0))), (mA, .inr (1, [.ref iA, .int 0, .int 0, .int 0, .int 0, .int 0, .int 13])), (iA, .inl (cI, 10, .inl (fun _ => 0))), (sB, .inr (5, [.ref rG, .int 0, .int 0])), (rG, .inl (cM, 30, .inr (.inr (.inr (.inr fD))))), (sA, .inl (cI, 6, .inl (fun _ => 0))), (tH, .inl (cI, 10, .inl (fun _ => 0))), (tF, .inl (cI, 10, .inl (fun _ => 0))), (tS, .inl (cI, 10, .inl (fun _ => 0))), (kp, .inr (10, [.ref rOk, .ref sTk, .ref mAk, .ref sBk, .ref sAk, .ref tHk, .ref tFk, .ref tSk, .int 0, .int 0, .int (-1), .int 0, .int 0])), (rOk, .inr (3, [.ref mUk, .ref bFk, .ref bTk, .int 0])), (mUk, .inl (cI, 300, .inl (fun _ => 0))), (bFk, .inl (cI, 4, .inl (fun _ => 0))), (bTk, .inl (cI, 4, .inl (fun _ => 0))), (sTk, .inr (4, [.ref cOk, .ref sHk, .int 0])), (cOk, .inl (cI, 6, .inl (fun _ => 0))), (sHk, .inl (cI, 6, .inl (fun _ => 0))), (mAk, .inr (1, [.ref iAk, .int 0, .int 0, .int 0, .int 0, .int 0, .int 13])), (iAk, .inl (cI, 10, .inl (fun _ => 0))), (sBk, .inr (5, [.ref rGk, .int 0, .int 0])), (rGk, .inl (cM, 30, .inr (.inr (.inr (.inr fS))))), (sAk, .inl (cI, 6, .inl (fun _ => 0))), (tHk, .inl (cI, 10, .inl (fun _ => 0))), (tFk, .inl (cI, 10, .inl (fun _ => 0))), (tSk, .inl (cI, 10, .inl (fun _ => 0)))] ++ PL) (fun u => u = [(nw, .inr (10, [.ref rO, .ref sT, .ref mA, .ref sB, .ref sA, .ref tH, .ref tF, .ref tS, .int 0, .int 0, .int (-1), .int 0, .int 0])), (mA, .inr (1, [.ref iA, .int 0, .int 0, .int 0, .int 0, .int 0, .int 13])), (kp, .inr (10, [.ref rOk, .ref sTk, .ref mAk, .ref sBk, .ref sAk, .ref tHk, .ref tFk, .ref tSk, .int 0, .int 0, .int (-1), .int 0, .int 0])), (mAk, .inr (1, [.ref iAk, .int 0, .int 0, .int 0, .int 0, .int 0, .int 13]))]) := by
  refine Cv.of (by decide +kernel) (Nat.le_of_ble_eq_true rfl) ?_
  intro p e s m below meth c A ls Z hin hP hD hl
  have hx := Z.1
  have hb := Z.2.1
  have hS : va_S A s.heap s.heap [] := va_S.rf
  have hl : lv_has ls 2 [(0, .ref nw), (1, .ref kp)] := hl
  skip
  refine lv_aload_n hx hb dX10_copyFrom_0 rfl (lv_at hl 0 rfl) ?_
  refine z_get Z i_X10 hP 0 rfl rfl 0 (by decide) bw_231 rfl dX10_copyFrom_1 ?_
  refine lv_aload_n hx hb dX10_copyFrom_4 rfl (lv_at hl 1 rfl) ?_
  refine z_get Z i_X10 hP 16 rfl rfl 0 (by decide) bw_231 rfl dX10_copyFrom_5 ?_
  have hPc := (va_P_left hP).sub2 (wc := [(rO, .inr (3, [.ref mU, .ref bF, .ref bT, .int 0])), (mU, .inl (cI, 300, .inl (fun _ => 0))), (bF, .inl (cI, 4, .inl (fun _ => 0))), (bT, .inl (cI, 4, .inl (fun _ => 0))), (rOk, .inr (3, [.ref mUk, .ref bFk, .ref bTk, .int 0])), (mUk, .inl (cI, 300, .inl (fun _ => 0))), (bFk, .inl (cI, 4, .inl (fun _ => 0))), (bTk, .inl (cI, 4, .inl (fun _ => 0)))]) [1, 2, 3, 4, 17, 18, 19, 20] rfl
  have hDc := (va_D_left hD).sub (ws' := [(rO, .inr (3, [.ref mU, .ref bF, .ref bT, .int 0])), (mU, .inl (cI, 300, .inl (fun _ => 0))), (bF, .inl (cI, 4, .inl (fun _ => 0))), (bT, .inl (cI, 4, .inl (fun _ => 0))), (rOk, .inr (3, [.ref mUk, .ref bFk, .ref bTk, .int 0])), (mUk, .inl (cI, 300, .inl (fun _ => 0))), (bFk, .inl (cI, 4, .inl (fun _ => 0))), (bTk, .inl (cI, 4, .inl (fun _ => 0)))]) [1, 2, 3, 4, 17, 18, 19, 20] (by decide) rfl
  refine raw_Vv (ci := 3) (q0 := 0) (nA := 1) (As := [.ref rOk]) (rest := []) Z hl.1 (c_X3_copyFrom l D cI cM cT rO mU bF bT rOk mUk bFk bTk) (bw_V bw_986 bw_987 bw_988 bw_84 bw_989) ⟨by decide +kernel, by decide +kernel, by decide +kernel⟩ rfl ⟨Nat.le_of_ble_eq_true rfl, Nat.le_of_ble_eq_true rfl⟩ rfl rfl rfl hPc hDc hS rfl (Nat.le_of_ble_eq_true rfl) dX10_copyFrom_8 ⟨Nat.le_of_ble_eq_true rfl, Nat.le_of_ble_eq_true rfl⟩ (fun u1 H1 locs1 h3 hku1 hP1 hD1 hS1 => ?_)
  obtain rfl := h3
  obtain ⟨hP, hD⟩ := z_joinQ (wr := [(nw, .inr (10, [.ref rO, .ref sT, .ref mA, .ref sB, .ref sA, .ref tH, .ref tF, .ref tS, .int 0, .int 0, .int (-1), .int 0, .int 0])), (sT, .inr (4, [.ref cO, .ref sH, .int 0])), (cO, .inl (cI, 6, .inl (fun _ => 0))), (sH, .inl (cI, 6, .inl (fun _ => 0))), (mA, .inr (1, [.ref iA, .int 0, .int 0, .int 0, .int 0, .int 0, .int 13])), (iA, .inl (cI, 10, .inl (fun _ => 0))), (sB, .inr (5, [.ref rG, .int 0, .int 0])), (rG, .inl (cM, 30, .inr (.inr (.inr (.inr fD))))), (sA, .inl (cI, 6, .inl (fun _ => 0))), (tH, .inl (cI, 10, .inl (fun _ => 0))), (tF, .inl (cI, 10, .inl (fun _ => 0))), (tS, .inl (cI, 10, .inl (fun _ => 0))), (kp, .inr (10, [.ref rOk, .ref sTk, .ref mAk, .ref sBk, .ref sAk, .ref tHk, .ref tFk, .ref tSk, .int 0, .int 0, .int (-1), .int 0, .int 0])), (sTk, .inr (4, [.ref cOk, .ref sHk, .int 0])), (cOk, .inl (cI, 6, .inl (fun _ => 0))), (sHk, .inl (cI, 6, .inl (fun _ => 0))), (mAk, .inr (1, [.ref iAk, .int 0, .int 0, .int 0, .int 0, .int 0, .int 13])), (iAk, .inl (cI, 10, .inl (fun _ => 0))), (sBk, .inr (5, [.ref rGk, .int 0, .int 0])), (rGk, .inl (cM, 30, .inr (.inr (.inr (.inr fS))))), (sAk, .inl (cI, 6, .inl (fun _ => 0))), (tHk, .inl (cI, 10, .inl (fun _ => 0))), (tFk, .inl (cI, 10, .inl (fun _ => 0))), (tSk, .inl (cI, 10, .inl (fun _ => 0)))]) Z hS hP hD [1, 2, 3, 4, 17, 18, 19, 20] [0, 5, 6, 7, 8, 9, 10, 11, 12, 13, 14, 15, 16, 21, 22, 23, 24, 25, 26, 27, 28, 29, 30, 31] rfl (by decide) rfl (by decide) (by decide) hku1 hP1 hD1
  have hS := hS1
  clear hS1
  generalize H1 = H at hP hS ⊢
  generalize locs1 = locs at hS ⊢
  have hP : va_P D vwCl ([(nw, .inr (10, [.ref rO, .ref sT, .ref mA, .ref sB, .ref sA, .ref tH, .ref tF, .ref tS, .int 0, .int 0, .int (-1), .int 0, .int 0])), (sT, .inr (4, [.ref cO, .ref sH, .int 0])), (cO, .inl (cI, 6, .inl (fun _ => 0))), (sH, .inl (cI, 6, .inl (fun _ => 0))), (mA, .inr (1, [.ref iA, .int 0, .int 0, .int 0, .int 0, .int 0, .int 13])), (iA, .inl (cI, 10, .inl (fun _ => 0))), (sB, .inr (5, [.ref rG, .int 0, .int 0])), (rG, .inl (cM, 30, .inr (.inr (.inr (.inr fD))))), (sA, .inl (cI, 6, .inl (fun _ => 0))), (tH, .inl (cI, 10, .inl (fun _ => 0))), (tF, .inl (cI, 10, .inl (fun _ => 0))), (tS, .inl (cI, 10, .inl (fun _ => 0))), (kp, .inr (10, [.ref rOk, .ref sTk, .ref mAk, .ref sBk, .ref sAk, .ref tHk, .ref tFk, .ref tSk, .int 0, .int 0, .int (-1), .int 0, .int 0])), (sTk, .inr (4, [.ref cOk, .ref sHk, .int 0])), (cOk, .inl (cI, 6, .inl (fun _ => 0))), (sHk, .inl (cI, 6, .inl (fun _ => 0))), (mAk, .inr (1, [.ref iAk, .int 0, .int 0, .int 0, .int 0, .int 0, .int 13])), (iAk, .inl (cI, 10, .inl (fun _ => 0))), (sBk, .inr (5, [.ref rGk, .int 0, .int 0])), (rGk, .inl (cM, 30, .inr (.inr (.inr (.inr fS))))), (sAk, .inl (cI, 6, .inl (fun _ => 0))), (tHk, .inl (cI, 10, .inl (fun _ => 0))), (tFk, .inl (cI, 10, .inl (fun _ => 0))), (tSk, .inl (cI, 10, .inl (fun _ => 0)))] ++ PL) H := hP
  have hD : va_D A ([(nw, .inr (10, [.ref rO, .ref sT, .ref mA, .ref sB, .ref sA, .ref tH, .ref tF, .ref tS, .int 0, .int 0, .int (-1), .int 0, .int 0])), (sT, .inr (4, [.ref cO, .ref sH, .int 0])), (cO, .inl (cI, 6, .inl (fun _ => 0))), (sH, .inl (cI, 6, .inl (fun _ => 0))), (mA, .inr (1, [.ref iA, .int 0, .int 0, .int 0, .int 0, .int 0, .int 13])), (iA, .inl (cI, 10, .inl (fun _ => 0))), (sB, .inr (5, [.ref rG, .int 0, .int 0])), (rG, .inl (cM, 30, .inr (.inr (.inr (.inr fD))))), (sA, .inl (cI, 6, .inl (fun _ => 0))), (tH, .inl (cI, 10, .inl (fun _ => 0))), (tF, .inl (cI, 10, .inl (fun _ => 0))), (tS, .inl (cI, 10, .inl (fun _ => 0))), (kp, .inr (10, [.ref rOk, .ref sTk, .ref mAk, .ref sBk, .ref sAk, .ref tHk, .ref tFk, .ref tSk, .int 0, .int 0, .int (-1), .int 0, .int 0])), (sTk, .inr (4, [.ref cOk, .ref sHk, .int 0])), (cOk, .inl (cI, 6, .inl (fun _ => 0))), (sHk, .inl (cI, 6, .inl (fun _ => 0))), (mAk, .inr (1, [.ref iAk, .int 0, .int 0, .int 0, .int 0, .int 0, .int 13])), (iAk, .inl (cI, 10, .inl (fun _ => 0))), (sBk, .inr (5, [.ref rGk, .int 0, .int 0])), (rGk, .inl (cM, 30, .inr (.inr (.inr (.inr fS))))), (sAk, .inl (cI, 6, .inl (fun _ => 0))), (tHk, .inl (cI, 10, .inl (fun _ => 0))), (tFk, .inl (cI, 10, .inl (fun _ => 0))), (tSk, .inl (cI, 10, .inl (fun _ => 0)))] ++ PL) := hD
  refine lv_aload_n hx hb dX10_copyFrom_11 rfl (lv_at hl 0 rfl) ?_
  refine z_get Z i_X10 hP 0 rfl rfl 1 (by decide) bw_234 rfl dX10_copyFrom_12 ?_
  refine lv_aload_n hx hb dX10_copyFrom_15 rfl (lv_at hl 1 rfl) ?_
  refine z_get Z i_X10 hP 12 rfl rfl 1 (by decide) bw_234 rfl dX10_copyFrom_16 ?_
  have hPc := (va_P_left hP).sub2 (wc := [(sT, .inr (4, [.ref cO, .ref sH, .int 0])), (cO, .inl (cI, 6, .inl (fun _ => 0))), (sH, .inl (cI, 6, .inl (fun _ => 0))), (sTk, .inr (4, [.ref cOk, .ref sHk, .int 0])), (cOk, .inl (cI, 6, .inl (fun _ => 0))), (sHk, .inl (cI, 6, .inl (fun _ => 0)))]) [1, 2, 3, 13, 14, 15] rfl
  have hDc := (va_D_left hD).sub (ws' := [(sT, .inr (4, [.ref cO, .ref sH, .int 0])), (cO, .inl (cI, 6, .inl (fun _ => 0))), (sH, .inl (cI, 6, .inl (fun _ => 0))), (sTk, .inr (4, [.ref cOk, .ref sHk, .int 0])), (cOk, .inl (cI, 6, .inl (fun _ => 0))), (sHk, .inl (cI, 6, .inl (fun _ => 0)))]) [1, 2, 3, 13, 14, 15] (by decide) rfl
  refine raw_Vv (ci := 4) (q0 := 0) (nA := 1) (As := [.ref sTk]) (rest := []) Z hl.1 (c_X4_copyFrom l D cI cM cT sT cO sH sTk cOk sHk) (bw_V bw_991 bw_992 bw_993 bw_85 bw_994) ⟨by decide +kernel, by decide +kernel, by decide +kernel⟩ rfl ⟨Nat.le_of_ble_eq_true rfl, Nat.le_of_ble_eq_true rfl⟩ rfl rfl rfl hPc hDc hS rfl (Nat.le_of_ble_eq_true rfl) dX10_copyFrom_19 ⟨Nat.le_of_ble_eq_true rfl, Nat.le_of_ble_eq_true rfl⟩ (fun u4 H1 locs1 h6 hku4 hP1 hD1 hS1 => ?_)
  obtain rfl := h6
  obtain ⟨hP, hD⟩ := z_joinQ (wr := [(nw, .inr (10, [.ref rO, .ref sT, .ref mA, .ref sB, .ref sA, .ref tH, .ref tF, .ref tS, .int 0, .int 0, .int (-1), .int 0, .int 0])), (mA, .inr (1, [.ref iA, .int 0, .int 0, .int 0, .int 0, .int 0, .int 13])), (iA, .inl (cI, 10, .inl (fun _ => 0))), (sB, .inr (5, [.ref rG, .int 0, .int 0])), (rG, .inl (cM, 30, .inr (.inr (.inr (.inr fD))))), (sA, .inl (cI, 6, .inl (fun _ => 0))), (tH, .inl (cI, 10, .inl (fun _ => 0))), (tF, .inl (cI, 10, .inl (fun _ => 0))), (tS, .inl (cI, 10, .inl (fun _ => 0))), (kp, .inr (10, [.ref rOk, .ref sTk, .ref mAk, .ref sBk, .ref sAk, .ref tHk, .ref tFk, .ref tSk, .int 0, .int 0, .int (-1), .int 0, .int 0])), (mAk, .inr (1, [.ref iAk, .int 0, .int 0, .int 0, .int 0, .int 0, .int 13])), (iAk, .inl (cI, 10, .inl (fun _ => 0))), (sBk, .inr (5, [.ref rGk, .int 0, .int 0])), (rGk, .inl (cM, 30, .inr (.inr (.inr (.inr fS))))), (sAk, .inl (cI, 6, .inl (fun _ => 0))), (tHk, .inl (cI, 10, .inl (fun _ => 0))), (tFk, .inl (cI, 10, .inl (fun _ => 0))), (tSk, .inl (cI, 10, .inl (fun _ => 0)))]) Z hS hP hD [1, 2, 3, 13, 14, 15] [0, 4, 5, 6, 7, 8, 9, 10, 11, 12, 16, 17, 18, 19, 20, 21, 22, 23] rfl (by decide) rfl (by decide) (by decide) hku4 hP1 hD1
  have hS := hS1
  clear hS1
  generalize H1 = H at hP hS ⊢
  generalize locs1 = locs at hS ⊢
  have hP : va_P D vwCl ([(nw, .inr (10, [.ref rO, .ref sT, .ref mA, .ref sB, .ref sA, .ref tH, .ref tF, .ref tS, .int 0, .int 0, .int (-1), .int 0, .int 0])), (mA, .inr (1, [.ref iA, .int 0, .int 0, .int 0, .int 0, .int 0, .int 13])), (iA, .inl (cI, 10, .inl (fun _ => 0))), (sB, .inr (5, [.ref rG, .int 0, .int 0])), (rG, .inl (cM, 30, .inr (.inr (.inr (.inr fD))))), (sA, .inl (cI, 6, .inl (fun _ => 0))), (tH, .inl (cI, 10, .inl (fun _ => 0))), (tF, .inl (cI, 10, .inl (fun _ => 0))), (tS, .inl (cI, 10, .inl (fun _ => 0))), (kp, .inr (10, [.ref rOk, .ref sTk, .ref mAk, .ref sBk, .ref sAk, .ref tHk, .ref tFk, .ref tSk, .int 0, .int 0, .int (-1), .int 0, .int 0])), (mAk, .inr (1, [.ref iAk, .int 0, .int 0, .int 0, .int 0, .int 0, .int 13])), (iAk, .inl (cI, 10, .inl (fun _ => 0))), (sBk, .inr (5, [.ref rGk, .int 0, .int 0])), (rGk, .inl (cM, 30, .inr (.inr (.inr (.inr fS))))), (sAk, .inl (cI, 6, .inl (fun _ => 0))), (tHk, .inl (cI, 10, .inl (fun _ => 0))), (tFk, .inl (cI, 10, .inl (fun _ => 0))), (tSk, .inl (cI, 10, .inl (fun _ => 0)))] ++ PL) H := hP
  have hD : va_D A ([(nw, .inr (10, [.ref rO, .ref sT, .ref mA, .ref sB, .ref sA, .ref tH, .ref tF, .ref tS, .int 0, .int 0, .int (-1), .int 0, .int 0])), (mA, .inr (1, [.ref iA, .int 0, .int 0, .int 0, .int 0, .int 0, .int 13])), (iA, .inl (cI, 10, .inl (fun _ => 0))), (sB, .inr (5, [.ref rG, .int 0, .int 0])), (rG, .inl (cM, 30, .inr (.inr (.inr (.inr fD))))), (sA, .inl (cI, 6, .inl (fun _ => 0))), (tH, .inl (cI, 10, .inl (fun _ => 0))), (tF, .inl (cI, 10, .inl (fun _ => 0))), (tS, .inl (cI, 10, .inl (fun _ => 0))), (kp, .inr (10, [.ref rOk, .ref sTk, .ref mAk, .ref sBk, .ref sAk, .ref tHk, .ref tFk, .ref tSk, .int 0, .int 0, .int (-1), .int 0, .int 0])), (mAk, .inr (1, [.ref iAk, .int 0, .int 0, .int 0, .int 0, .int 0, .int 13])), (iAk, .inl (cI, 10, .inl (fun _ => 0))), (sBk, .inr (5, [.ref rGk, .int 0, .int 0])), (rGk, .inl (cM, 30, .inr (.inr (.inr (.inr fS))))), (sAk, .inl (cI, 6, .inl (fun _ => 0))), (tHk, .inl (cI, 10, .inl (fun _ => 0))), (tFk, .inl (cI, 10, .inl (fun _ => 0))), (tSk, .inl (cI, 10, .inl (fun _ => 0)))] ++ PL) := hD
  refine lv_aload_n hx hb dX10_copyFrom_22 rfl (lv_at hl 0 rfl) ?_
  refine z_get Z i_X10 hP 0 rfl rfl 2 (by decide) bw_238 rfl dX10_copyFrom_23 ?_
  refine lv_aload_n hx hb dX10_copyFrom_26 rfl (lv_at hl 1 rfl) ?_
  refine z_get Z i_X10 hP 9 rfl rfl 2 (by decide) bw_238 rfl dX10_copyFrom_27 ?_
  have hPc := (va_P_left hP).sub2 (wc := [(mA, .inr (1, [.ref iA, .int 0, .int 0, .int 0, .int 0, .int 0, .int 13])), (iA, .inl (cI, 10, .inl (fun _ => 0))), (mAk, .inr (1, [.ref iAk, .int 0, .int 0, .int 0, .int 0, .int 0, .int 13])), (iAk, .inl (cI, 10, .inl (fun _ => 0)))]) [1, 2, 10, 11] rfl
  have hDc := (va_D_left hD).sub (ws' := [(mA, .inr (1, [.ref iA, .int 0, .int 0, .int 0, .int 0, .int 0, .int 13])), (iA, .inl (cI, 10, .inl (fun _ => 0))), (mAk, .inr (1, [.ref iAk, .int 0, .int 0, .int 0, .int 0, .int 0, .int 13])), (iAk, .inl (cI, 10, .inl (fun _ => 0)))]) [1, 2, 10, 11] (by decide) rfl
  refine raw_Vv (ci := 1) (q0 := 0) (nA := 1) (As := [.ref mAk]) (rest := []) Z hl.1 (c_X1_copyFrom l D cI cM cT mA iA mAk iAk 0 0 0 0 0 13 0 0 0 0 0 13 (fun _ => 0) (fun _ => 0)) (bw_V bw_996 bw_521 bw_522 bw_86 bw_523) ⟨by decide +kernel, by decide +kernel, by decide +kernel⟩ rfl ⟨Nat.le_of_ble_eq_true rfl, Nat.le_of_ble_eq_true rfl⟩ rfl rfl rfl hPc hDc hS rfl (Nat.le_of_ble_eq_true rfl) dX10_copyFrom_30 ⟨Nat.le_of_ble_eq_true rfl, Nat.le_of_ble_eq_true rfl⟩ (fun u7 H1 locs1 h9 hku7 hP1 hD1 hS1 => ?_)
  obtain rfl := h9
  obtain ⟨hP, hD⟩ := z_joinQ (wr := [(nw, .inr (10, [.ref rO, .ref sT, .ref mA, .ref sB, .ref sA, .ref tH, .ref tF, .ref tS, .int 0, .int 0, .int (-1), .int 0, .int 0])), (sB, .inr (5, [.ref rG, .int 0, .int 0])), (rG, .inl (cM, 30, .inr (.inr (.inr (.inr fD))))), (sA, .inl (cI, 6, .inl (fun _ => 0))), (tH, .inl (cI, 10, .inl (fun _ => 0))), (tF, .inl (cI, 10, .inl (fun _ => 0))), (tS, .inl (cI, 10, .inl (fun _ => 0))), (kp, .inr (10, [.ref rOk, .ref sTk, .ref mAk, .ref sBk, .ref sAk, .ref tHk, .ref tFk, .ref tSk, .int 0, .int 0, .int (-1), .int 0, .int 0])), (sBk, .inr (5, [.ref rGk, .int 0, .int 0])), (rGk, .inl (cM, 30, .inr (.inr (.inr (.inr fS))))), (sAk, .inl (cI, 6, .inl (fun _ => 0))), (tHk, .inl (cI, 10, .inl (fun _ => 0))), (tFk, .inl (cI, 10, .inl (fun _ => 0))), (tSk, .inl (cI, 10, .inl (fun _ => 0)))]) Z hS hP hD [1, 2, 10, 11] [0, 3, 4, 5, 6, 7, 8, 9, 12, 13, 14, 15, 16, 17] rfl (by decide) rfl (by decide) (by decide) hku7 hP1 hD1
  have hS := hS1
  clear hS1
  generalize H1 = H at hP hS ⊢
  generalize locs1 = locs at hS ⊢
  have hP : va_P D vwCl ([(nw, .inr (10, [.ref rO, .ref sT, .ref mA, .ref sB, .ref sA, .ref tH, .ref tF, .ref tS, .int 0, .int 0, .int (-1), .int 0, .int 0])), (sB, .inr (5, [.ref rG, .int 0, .int 0])), (rG, .inl (cM, 30, .inr (.inr (.inr (.inr fD))))), (sA, .inl (cI, 6, .inl (fun _ => 0))), (tH, .inl (cI, 10, .inl (fun _ => 0))), (tF, .inl (cI, 10, .inl (fun _ => 0))), (tS, .inl (cI, 10, .inl (fun _ => 0))), (kp, .inr (10, [.ref rOk, .ref sTk, .ref mAk, .ref sBk, .ref sAk, .ref tHk, .ref tFk, .ref tSk, .int 0, .int 0, .int (-1), .int 0, .int 0])), (sBk, .inr (5, [.ref rGk, .int 0, .int 0])), (rGk, .inl (cM, 30, .inr (.inr (.inr (.inr fS))))), (sAk, .inl (cI, 6, .inl (fun _ => 0))), (tHk, .inl (cI, 10, .inl (fun _ => 0))), (tFk, .inl (cI, 10, .inl (fun _ => 0))), (tSk, .inl (cI, 10, .inl (fun _ => 0))), (mA, .inr (1, [.ref iA, .int 0, .int 0, .int 0, .int 0, .int 0, .int 13])), (iA, .inl (cI, 10, .inl (va_cpy (fun _ => 0) (fun _ => 0) 0 0 10))), (mAk, .inr (1, [.ref iAk, .int 0, .int 0, .int 0, .int 0, .int 0, .int 13])), (iAk, .inl (cI, 10, .inl (fun _ => 0)))] ++ PL) H := hP
  have hD : va_D A ([(nw, .inr (10, [.ref rO, .ref sT, .ref mA, .ref sB, .ref sA, .ref tH, .ref tF, .ref tS, .int 0, .int 0, .int (-1), .int 0, .int 0])), (sB, .inr (5, [.ref rG, .int 0, .int 0])), (rG, .inl (cM, 30, .inr (.inr (.inr (.inr fD))))), (sA, .inl (cI, 6, .inl (fun _ => 0))), (tH, .inl (cI, 10, .inl (fun _ => 0))), (tF, .inl (cI, 10, .inl (fun _ => 0))), (tS, .inl (cI, 10, .inl (fun _ => 0))), (kp, .inr (10, [.ref rOk, .ref sTk, .ref mAk, .ref sBk, .ref sAk, .ref tHk, .ref tFk, .ref tSk, .int 0, .int 0, .int (-1), .int 0, .int 0])), (sBk, .inr (5, [.ref rGk, .int 0, .int 0])), (rGk, .inl (cM, 30, .inr (.inr (.inr (.inr fS))))), (sAk, .inl (cI, 6, .inl (fun _ => 0))), (tHk, .inl (cI, 10, .inl (fun _ => 0))), (tFk, .inl (cI, 10, .inl (fun _ => 0))), (tSk, .inl (cI, 10, .inl (fun _ => 0))), (mA, .inr (1, [.ref iA, .int 0, .int 0, .int 0, .int 0, .int 0, .int 13])), (iA, .inl (cI, 10, .inl (va_cpy (fun _ => 0) (fun _ => 0) 0 0 10))), (mAk, .inr (1, [.ref iAk, .int 0, .int 0, .int 0, .int 0, .int 0, .int 13])), (iAk, .inl (cI, 10, .inl (fun _ => 0)))] ++ PL) := hD
  refine lv_aload_n hx hb dX10_copyFrom_33 rfl (lv_at hl 0 rfl) ?_
  refine z_get Z i_X10 hP 0 rfl rfl 3 (by decide) bw_241 rfl dX10_copyFrom_34 ?_
  refine lv_aload_n hx hb dX10_copyFrom_37 rfl (lv_at hl 1 rfl) ?_
  refine z_get Z i_X10 hP 7 rfl rfl 3 (by decide) bw_241 rfl dX10_copyFrom_38 ?_
  have hPc := hP.part (cx := [(sB, .inr (5, [.ref rG, .int 0, .int 0])), (rG, .inl (cM, 30, .inr (.inr (.inr (.inr fD))))), (sBk, .inr (5, [.ref rGk, .int 0, .int 0])), (rGk, .inl (cM, 30, .inr (.inr (.inr (.inr fS)))))]) [1, 2, 8, 9] rfl
  have hDc := hD.part (cx := [(sB, .inr (5, [.ref rG, .int 0, .int 0])), (rG, .inl (cM, 30, .inr (.inr (.inr (.inr fD))))), (sBk, .inr (5, [.ref rGk, .int 0, .int 0])), (rGk, .inl (cM, 30, .inr (.inr (.inr (.inr fS)))))]) [1, 2, 8, 9] (by decide) rfl
  refine raw_Vv (ci := 5) (q0 := 0) (nA := 1) (As := [.ref sBk]) (rest := []) Z hl.1 (c_X5_copyFrom l D cI cM cT sB rG sBk rGk 0 0 0 0 fD fS PL Ka Kb hA_ hB_ hab) (bw_V bw_997 bw_998 bw_999 bw_87 bw_1000) ⟨by decide +kernel, by decide +kernel, by decide +kernel⟩ rfl ⟨Nat.le_of_ble_eq_true rfl, Nat.le_of_ble_eq_true rfl⟩ rfl rfl rfl hPc hDc hS rfl (Nat.le_of_ble_eq_true rfl) dX10_copyFrom_41 ⟨Nat.le_of_ble_eq_true rfl, Nat.le_of_ble_eq_true rfl⟩ (fun u10 H1 locs1 h12 hku10 hP1 hD1 hS1 => ?_)
  obtain rfl := h12
  obtain ⟨hP, hD⟩ := z_joinP (rx := []) (pl1 := []) (wr := [(nw, .inr (10, [.ref rO, .ref sT, .ref mA, .ref sB, .ref sA, .ref tH, .ref tF, .ref tS, .int 0, .int 0, .int (-1), .int 0, .int 0])), (sA, .inl (cI, 6, .inl (fun _ => 0))), (tH, .inl (cI, 10, .inl (fun _ => 0))), (tF, .inl (cI, 10, .inl (fun _ => 0))), (tS, .inl (cI, 10, .inl (fun _ => 0))), (kp, .inr (10, [.ref rOk, .ref sTk, .ref mAk, .ref sBk, .ref sAk, .ref tHk, .ref tFk, .ref tSk, .int 0, .int 0, .int (-1), .int 0, .int 0])), (sAk, .inl (cI, 6, .inl (fun _ => 0))), (tHk, .inl (cI, 10, .inl (fun _ => 0))), (tFk, .inl (cI, 10, .inl (fun _ => 0))), (tSk, .inl (cI, 10, .inl (fun _ => 0))), (mA, .inr (1, [.ref iA, .int 0, .int 0, .int 0, .int 0, .int 0, .int 13])), (iA, .inl (cI, 10, .inl (va_cpy (fun _ => 0) (fun _ => 0) 0 0 10))), (mAk, .inr (1, [.ref iAk, .int 0, .int 0, .int 0, .int 0, .int 0, .int 13])), (iAk, .inl (cI, 10, .inl (fun _ => 0)))]) Z hS hP hD [1, 2, 8, 9] [0, 3, 4, 5, 6, 7, 10, 11, 12, 13, 14, 15, 16, 17] rfl (by decide) rfl (by decide) (by decide) hku10 hP1 hD1
  have hS := hS1
  clear hS1
  generalize H1 = H at hP hS ⊢
  generalize locs1 = locs at hS ⊢
  have hP : va_P D vwCl ([(nw, .inr (10, [.ref rO, .ref sT, .ref mA, .ref sB, .ref sA, .ref tH, .ref tF, .ref tS, .int 0, .int 0, .int (-1), .int 0, .int 0])), (sA, .inl (cI, 6, .inl (fun _ => 0))), (tH, .inl (cI, 10, .inl (fun _ => 0))), (tF, .inl (cI, 10, .inl (fun _ => 0))), (tS, .inl (cI, 10, .inl (fun _ => 0))), (kp, .inr (10, [.ref rOk, .ref sTk, .ref mAk, .ref sBk, .ref sAk, .ref tHk, .ref tFk, .ref tSk, .int 0, .int 0, .int (-1), .int 0, .int 0])), (sAk, .inl (cI, 6, .inl (fun _ => 0))), (tHk, .inl (cI, 10, .inl (fun _ => 0))), (tFk, .inl (cI, 10, .inl (fun _ => 0))), (tSk, .inl (cI, 10, .inl (fun _ => 0))), (mA, .inr (1, [.ref iA, .int 0, .int 0, .int 0, .int 0, .int 0, .int 13])), (iA, .inl (cI, 10, .inl (va_cpy (fun _ => 0) (fun _ => 0) 0 0 10))), (mAk, .inr (1, [.ref iAk, .int 0, .int 0, .int 0, .int 0, .int 0, .int 13])), (iAk, .inl (cI, 10, .inl (fun _ => 0)))]) H := hP
  have hD : va_D A ([(nw, .inr (10, [.ref rO, .ref sT, .ref mA, .ref sB, .ref sA, .ref tH, .ref tF, .ref tS, .int 0, .int 0, .int (-1), .int 0, .int 0])), (sA, .inl (cI, 6, .inl (fun _ => 0))), (tH, .inl (cI, 10, .inl (fun _ => 0))), (tF, .inl (cI, 10, .inl (fun _ => 0))), (tS, .inl (cI, 10, .inl (fun _ => 0))), (kp, .inr (10, [.ref rOk, .ref sTk, .ref mAk, .ref sBk, .ref sAk, .ref tHk, .ref tFk, .ref tSk, .int 0, .int 0, .int (-1), .int 0, .int 0])), (sAk, .inl (cI, 6, .inl (fun _ => 0))), (tHk, .inl (cI, 10, .inl (fun _ => 0))), (tFk, .inl (cI, 10, .inl (fun _ => 0))), (tSk, .inl (cI, 10, .inl (fun _ => 0))), (mA, .inr (1, [.ref iA, .int 0, .int 0, .int 0, .int 0, .int 0, .int 13])), (iA, .inl (cI, 10, .inl (va_cpy (fun _ => 0) (fun _ => 0) 0 0 10))), (mAk, .inr (1, [.ref iAk, .int 0, .int 0, .int 0, .int 0, .int 0, .int 13])), (iAk, .inl (cI, 10, .inl (fun _ => 0)))]) := hD
  refine lv_aload_n hx hb dX10_copyFrom_44 rfl (lv_at hl 1 rfl) ?_
  refine z_get Z i_X10 hP 5 rfl rfl 4 (by decide) bw_243 rfl dX10_copyFrom_45 ?_
  refine lv_iconst (v := 0) hx hb dX10_copyFrom_48 (by decide) ?_
  refine lv_aload_n hx hb dX10_copyFrom_49 rfl (lv_at hl 0 rfl) ?_
  refine z_get Z i_X10 hP 0 rfl rfl 4 (by decide) bw_243 rfl dX10_copyFrom_50 ?_
  refine lv_iconst (v := 0) hx hb dX10_copyFrom_53 (by decide) ?_
  refine lv_bipush (v := 6) hx hb dX10_copyFrom_54 (by decide) ?_
  refine va_copyi hx hb (Z.2.2.1.trans hl.1.symm) Z.2.2.2.1 (Z.2.2.2.2.1 _ bw_1001) (Z.2.2.2.2.1 _ bw_526) (Z.2.2.2.2.1 _ bw_525) (Z.2.2.2.2.1 _ bw_93) Z.2.2.2.2.2.2.1 hP hD hS 6 1 0 0 rfl rfl rfl rfl rfl (by decide) (by decide) (by decide) (by decide) (by decide) (fun _ _ => rfl) (Nat.le_of_ble_eq_true rfl) (by decide +kernel) dX10_copyFrom_56 (fun H locs hP hD hS => ?_)
  have hP : va_P D vwCl ([(nw, .inr (10, [.ref rO, .ref sT, .ref mA, .ref sB, .ref sA, .ref tH, .ref tF, .ref tS, .int 0, .int 0, .int (-1), .int 0, .int 0])), (sA, .inl (cI, 6, .inl (va_cpy (fun _ => 0) (fun _ => 0) 0 0 6))), (tH, .inl (cI, 10, .inl (fun _ => 0))), (tF, .inl (cI, 10, .inl (fun _ => 0))), (tS, .inl (cI, 10, .inl (fun _ => 0))), (kp, .inr (10, [.ref rOk, .ref sTk, .ref mAk, .ref sBk, .ref sAk, .ref tHk, .ref tFk, .ref tSk, .int 0, .int 0, .int (-1), .int 0, .int 0])), (sAk, .inl (cI, 6, .inl (fun _ => 0))), (tHk, .inl (cI, 10, .inl (fun _ => 0))), (tFk, .inl (cI, 10, .inl (fun _ => 0))), (tSk, .inl (cI, 10, .inl (fun _ => 0))), (mA, .inr (1, [.ref iA, .int 0, .int 0, .int 0, .int 0, .int 0, .int 13])), (iA, .inl (cI, 10, .inl (va_cpy (fun _ => 0) (fun _ => 0) 0 0 10))), (mAk, .inr (1, [.ref iAk, .int 0, .int 0, .int 0, .int 0, .int 0, .int 13])), (iAk, .inl (cI, 10, .inl (fun _ => 0)))]) H := hP
  have hD : va_D A ([(nw, .inr (10, [.ref rO, .ref sT, .ref mA, .ref sB, .ref sA, .ref tH, .ref tF, .ref tS, .int 0, .int 0, .int (-1), .int 0, .int 0])), (sA, .inl (cI, 6, .inl (va_cpy (fun _ => 0) (fun _ => 0) 0 0 6))), (tH, .inl (cI, 10, .inl (fun _ => 0))), (tF, .inl (cI, 10, .inl (fun _ => 0))), (tS, .inl (cI, 10, .inl (fun _ => 0))), (kp, .inr (10, [.ref rOk, .ref sTk, .ref mAk, .ref sBk, .ref sAk, .ref tHk, .ref tFk, .ref tSk, .int 0, .int 0, .int (-1), .int 0, .int 0])), (sAk, .inl (cI, 6, .inl (fun _ => 0))), (tHk, .inl (cI, 10, .inl (fun _ => 0))), (tFk, .inl (cI, 10, .inl (fun _ => 0))), (tSk, .inl (cI, 10, .inl (fun _ => 0))), (mA, .inr (1, [.ref iA, .int 0, .int 0, .int 0, .int 0, .int 0, .int 13])), (iA, .inl (cI, 10, .inl (va_cpy (fun _ => 0) (fun _ => 0) 0 0 10))), (mAk, .inr (1, [.ref iAk, .int 0, .int 0, .int 0, .int 0, .int 0, .int 13])), (iAk, .inl (cI, 10, .inl (fun _ => 0)))]) := hD
  refine lv_aload_n hx hb dX10_copyFrom_59 rfl (lv_at hl 1 rfl) ?_
  refine z_get Z i_X10 hP 5 rfl rfl 5 (by decide) bw_245 rfl dX10_copyFrom_60 ?_
  refine lv_iconst (v := 0) hx hb dX10_copyFrom_63 (by decide) ?_
  refine lv_aload_n hx hb dX10_copyFrom_64 rfl (lv_at hl 0 rfl) ?_
  refine z_get Z i_X10 hP 0 rfl rfl 5 (by decide) bw_245 rfl dX10_copyFrom_65 ?_
  refine lv_iconst (v := 0) hx hb dX10_copyFrom_68 (by decide) ?_
  refine lv_bipush (v := 10) hx hb dX10_copyFrom_69 (by decide) ?_
  refine va_copyi hx hb (Z.2.2.1.trans hl.1.symm) Z.2.2.2.1 (Z.2.2.2.2.1 _ bw_1001) (Z.2.2.2.2.1 _ bw_526) (Z.2.2.2.2.1 _ bw_525) (Z.2.2.2.2.1 _ bw_93) Z.2.2.2.2.2.2.1 hP hD hS 7 2 0 0 rfl rfl rfl rfl rfl (by decide) (by decide) (by decide) (by decide) (by decide) (fun _ _ => rfl) (Nat.le_of_ble_eq_true rfl) (by decide +kernel) dX10_copyFrom_71 (fun H locs hP hD hS => ?_)
  have hP : va_P D vwCl ([(nw, .inr (10, [.ref rO, .ref sT, .ref mA, .ref sB, .ref sA, .ref tH, .ref tF, .ref tS, .int 0, .int 0, .int (-1), .int 0, .int 0])), (sA, .inl (cI, 6, .inl (va_cpy (fun _ => 0) (fun _ => 0) 0 0 6))), (tH, .inl (cI, 10, .inl (va_cpy (fun _ => 0) (fun _ => 0) 0 0 10))), (tF, .inl (cI, 10, .inl (fun _ => 0))), (tS, .inl (cI, 10, .inl (fun _ => 0))), (kp, .inr (10, [.ref rOk, .ref sTk, .ref mAk, .ref sBk, .ref sAk, .ref tHk, .ref tFk, .ref tSk, .int 0, .int 0, .int (-1), .int 0, .int 0])), (sAk, .inl (cI, 6, .inl (fun _ => 0))), (tHk, .inl (cI, 10, .inl (fun _ => 0))), (tFk, .inl (cI, 10, .inl (fun _ => 0))), (tSk, .inl (cI, 10, .inl (fun _ => 0))), (mA, .inr (1, [.ref iA, .int 0, .int 0, .int 0, .int 0, .int 0, .int 13])), (iA, .inl (cI, 10, .inl (va_cpy (fun _ => 0) (fun _ => 0) 0 0 10))), (mAk, .inr (1, [.ref iAk, .int 0, .int 0, .int 0, .int 0, .int 0, .int 13])), (iAk, .inl (cI, 10, .inl (fun _ => 0)))]) H := hP
  have hD : va_D A ([(nw, .inr (10, [.ref rO, .ref sT, .ref mA, .ref sB, .ref sA, .ref tH, .ref tF, .ref tS, .int 0, .int 0, .int (-1), .int 0, .int 0])), (sA, .inl (cI, 6, .inl (va_cpy (fun _ => 0) (fun _ => 0) 0 0 6))), (tH, .inl (cI, 10, .inl (va_cpy (fun _ => 0) (fun _ => 0) 0 0 10))), (tF, .inl (cI, 10, .inl (fun _ => 0))), (tS, .inl (cI, 10, .inl (fun _ => 0))), (kp, .inr (10, [.ref rOk, .ref sTk, .ref mAk, .ref sBk, .ref sAk, .ref tHk, .ref tFk, .ref tSk, .int 0, .int 0, .int (-1), .int 0, .int 0])), (sAk, .inl (cI, 6, .inl (fun _ => 0))), (tHk, .inl (cI, 10, .inl (fun _ => 0))), (tFk, .inl (cI, 10, .inl (fun _ => 0))), (tSk, .inl (cI, 10, .inl (fun _ => 0))), (mA, .inr (1, [.ref iA, .int 0, .int 0, .int 0, .int 0, .int 0, .int 13])), (iA, .inl (cI, 10, .inl (va_cpy (fun _ => 0) (fun _ => 0) 0 0 10))), (mAk, .inr (1, [.ref iAk, .int 0, .int 0, .int 0, .int 0, .int 0, .int 13])), (iAk, .inl (cI, 10, .inl (fun _ => 0)))]) := hD
  refine lv_aload_n hx hb dX10_copyFrom_74 rfl (lv_at hl 1 rfl) ?_
  refine z_get Z i_X10 hP 5 rfl rfl 6 (by decide) bw_247 rfl dX10_copyFrom_75 ?_
  refine lv_iconst (v := 0) hx hb dX10_copyFrom_78 (by decide) ?_
  refine lv_aload_n hx hb dX10_copyFrom_79 rfl (lv_at hl 0 rfl) ?_
  refine z_get Z i_X10 hP 0 rfl rfl 6 (by decide) bw_247 rfl dX10_copyFrom_80 ?_
  refine lv_iconst (v := 0) hx hb dX10_copyFrom_83 (by decide) ?_
  refine lv_bipush (v := 10) hx hb dX10_copyFrom_84 (by decide) ?_
  refine va_copyi hx hb (Z.2.2.1.trans hl.1.symm) Z.2.2.2.1 (Z.2.2.2.2.1 _ bw_1001) (Z.2.2.2.2.1 _ bw_526) (Z.2.2.2.2.1 _ bw_525) (Z.2.2.2.2.1 _ bw_93) Z.2.2.2.2.2.2.1 hP hD hS 8 3 0 0 rfl rfl rfl rfl rfl (by decide) (by decide) (by decide) (by decide) (by decide) (fun _ _ => rfl) (Nat.le_of_ble_eq_true rfl) (by decide +kernel) dX10_copyFrom_86 (fun H locs hP hD hS => ?_)
  have hP : va_P D vwCl ([(nw, .inr (10, [.ref rO, .ref sT, .ref mA, .ref sB, .ref sA, .ref tH, .ref tF, .ref tS, .int 0, .int 0, .int (-1), .int 0, .int 0])), (sA, .inl (cI, 6, .inl (va_cpy (fun _ => 0) (fun _ => 0) 0 0 6))), (tH, .inl (cI, 10, .inl (va_cpy (fun _ => 0) (fun _ => 0) 0 0 10))), (tF, .inl (cI, 10, .inl (va_cpy (fun _ => 0) (fun _ => 0) 0 0 10))), (tS, .inl (cI, 10, .inl (fun _ => 0))), (kp, .inr (10, [.ref rOk, .ref sTk, .ref mAk, .ref sBk, .ref sAk, .ref tHk, .ref tFk, .ref tSk, .int 0, .int 0, .int (-1), .int 0, .int 0])), (sAk, .inl (cI, 6, .inl (fun _ => 0))), (tHk, .inl (cI, 10, .inl (fun _ => 0))), (tFk, .inl (cI, 10, .inl (fun _ => 0))), (tSk, .inl (cI, 10, .inl (fun _ => 0))), (mA, .inr (1, [.ref iA, .int 0, .int 0, .int 0, .int 0, .int 0, .int 13])), (iA, .inl (cI, 10, .inl (va_cpy (fun _ => 0) (fun _ => 0) 0 0 10))), (mAk, .inr (1, [.ref iAk, .int 0, .int 0, .int 0, .int 0, .int 0, .int 13])), (iAk, .inl (cI, 10, .inl (fun _ => 0)))]) H := hP
  have hD : va_D A ([(nw, .inr (10, [.ref rO, .ref sT, .ref mA, .ref sB, .ref sA, .ref tH, .ref tF, .ref tS, .int 0, .int 0, .int (-1), .int 0, .int 0])), (sA, .inl (cI, 6, .inl (va_cpy (fun _ => 0) (fun _ => 0) 0 0 6))), (tH, .inl (cI, 10, .inl (va_cpy (fun _ => 0) (fun _ => 0) 0 0 10))), (tF, .inl (cI, 10, .inl (va_cpy (fun _ => 0) (fun _ => 0) 0 0 10))), (tS, .inl (cI, 10, .inl (fun _ => 0))), (kp, .inr (10, [.ref rOk, .ref sTk, .ref mAk, .ref sBk, .ref sAk, .ref tHk, .ref tFk, .ref tSk, .int 0, .int 0, .int (-1), .int 0, .int 0])), (sAk, .inl (cI, 6, .inl (fun _ => 0))), (tHk, .inl (cI, 10, .inl (fun _ => 0))), (tFk, .inl (cI, 10, .inl (fun _ => 0))), (tSk, .inl (cI, 10, .inl (fun _ => 0))), (mA, .inr (1, [.ref iA, .int 0, .int 0, .int 0, .int 0, .int 0, .int 13])), (iA, .inl (cI, 10, .inl (va_cpy (fun _ => 0) (fun _ => 0) 0 0 10))), (mAk, .inr (1, [.ref iAk, .int 0, .int 0, .int 0, .int 0, .int 0, .int 13])), (iAk, .inl (cI, 10, .inl (fun _ => 0)))]) := hD
  refine lv_aload_n hx hb dX10_copyFrom_89 rfl (lv_at hl 1 rfl) ?_
  refine z_get Z i_X10 hP 5 rfl rfl 7 (by decide) bw_249 rfl dX10_copyFrom_90 ?_
  refine lv_iconst (v := 0) hx hb dX10_copyFrom_93 (by decide) ?_
  refine lv_aload_n hx hb dX10_copyFrom_94 rfl (lv_at hl 0 rfl) ?_
  refine z_get Z i_X10 hP 0 rfl rfl 7 (by decide) bw_249 rfl dX10_copyFrom_95 ?_
  refine lv_iconst (v := 0) hx hb dX10_copyFrom_98 (by decide) ?_
  refine lv_bipush (v := 10) hx hb dX10_copyFrom_99 (by decide) ?_
  refine va_copyi hx hb (Z.2.2.1.trans hl.1.symm) Z.2.2.2.1 (Z.2.2.2.2.1 _ bw_1001) (Z.2.2.2.2.1 _ bw_526) (Z.2.2.2.2.1 _ bw_525) (Z.2.2.2.2.1 _ bw_93) Z.2.2.2.2.2.2.1 hP hD hS 9 4 0 0 rfl rfl rfl rfl rfl (by decide) (by decide) (by decide) (by decide) (by decide) (fun _ _ => rfl) (Nat.le_of_ble_eq_true rfl) (by decide +kernel) dX10_copyFrom_101 (fun H locs hP hD hS => ?_)
  have hP : va_P D vwCl ([(nw, .inr (10, [.ref rO, .ref sT, .ref mA, .ref sB, .ref sA, .ref tH, .ref tF, .ref tS, .int 0, .int 0, .int (-1), .int 0, .int 0])), (sA, .inl (cI, 6, .inl (va_cpy (fun _ => 0) (fun _ => 0) 0 0 6))), (tH, .inl (cI, 10, .inl (va_cpy (fun _ => 0) (fun _ => 0) 0 0 10))), (tF, .inl (cI, 10, .inl (va_cpy (fun _ => 0) (fun _ => 0) 0 0 10))), (tS, .inl (cI, 10, .inl (va_cpy (fun _ => 0) (fun _ => 0) 0 0 10))), (kp, .inr (10, [.ref rOk, .ref sTk, .ref mAk, .ref sBk, .ref sAk, .ref tHk, .ref tFk, .ref tSk, .int 0, .int 0, .int (-1), .int 0, .int 0])), (sAk, .inl (cI, 6, .inl (fun _ => 0))), (tHk, .inl (cI, 10, .inl (fun _ => 0))), (tFk, .inl (cI, 10, .inl (fun _ => 0))), (tSk, .inl (cI, 10, .inl (fun _ => 0))), (mA, .inr (1, [.ref iA, .int 0, .int 0, .int 0, .int 0, .int 0, .int 13])), (iA, .inl (cI, 10, .inl (va_cpy (fun _ => 0) (fun _ => 0) 0 0 10))), (mAk, .inr (1, [.ref iAk, .int 0, .int 0, .int 0, .int 0, .int 0, .int 13])), (iAk, .inl (cI, 10, .inl (fun _ => 0)))]) H := hP
  have hD : va_D A ([(nw, .inr (10, [.ref rO, .ref sT, .ref mA, .ref sB, .ref sA, .ref tH, .ref tF, .ref tS, .int 0, .int 0, .int (-1), .int 0, .int 0])), (sA, .inl (cI, 6, .inl (va_cpy (fun _ => 0) (fun _ => 0) 0 0 6))), (tH, .inl (cI, 10, .inl (va_cpy (fun _ => 0) (fun _ => 0) 0 0 10))), (tF, .inl (cI, 10, .inl (va_cpy (fun _ => 0) (fun _ => 0) 0 0 10))), (tS, .inl (cI, 10, .inl (va_cpy (fun _ => 0) (fun _ => 0) 0 0 10))), (kp, .inr (10, [.ref rOk, .ref sTk, .ref mAk, .ref sBk, .ref sAk, .ref tHk, .ref tFk, .ref tSk, .int 0, .int 0, .int (-1), .int 0, .int 0])), (sAk, .inl (cI, 6, .inl (fun _ => 0))), (tHk, .inl (cI, 10, .inl (fun _ => 0))), (tFk, .inl (cI, 10, .inl (fun _ => 0))), (tSk, .inl (cI, 10, .inl (fun _ => 0))), (mA, .inr (1, [.ref iA, .int 0, .int 0, .int 0, .int 0, .int 0, .int 13])), (iA, .inl (cI, 10, .inl (va_cpy (fun _ => 0) (fun _ => 0) 0 0 10))), (mAk, .inr (1, [.ref iAk, .int 0, .int 0, .int 0, .int 0, .int 0, .int 13])), (iAk, .inl (cI, 10, .inl (fun _ => 0)))]) := hD
  refine lv_aload_n hx hb dX10_copyFrom_104 rfl (lv_at hl 0 rfl) ?_
  refine lv_aload_n hx hb dX10_copyFrom_105 rfl (lv_at hl 1 rfl) ?_
  refine z_get Z i_X10 hP 5 rfl rfl 8 (by decide) bw_251 rfl dX10_copyFrom_106 ?_
  refine z_put Z i_X10 tyX10 tyX10_ok nmX10 hP hD hS 0 rfl rfl 8 (by decide) bw_251 rfl rfl rfl (Nat.le_of_ble_eq_true rfl) dX10_copyFrom_109 (fun H locs hP hD hS => ?_)
  have hP : va_P D vwCl ([(nw, .inr (10, [.ref rO, .ref sT, .ref mA, .ref sB, .ref sA, .ref tH, .ref tF, .ref tS, .int 0, .int 0, .int (-1), .int 0, .int 0])), (sA, .inl (cI, 6, .inl (va_cpy (fun _ => 0) (fun _ => 0) 0 0 6))), (tH, .inl (cI, 10, .inl (va_cpy (fun _ => 0) (fun _ => 0) 0 0 10))), (tF, .inl (cI, 10, .inl (va_cpy (fun _ => 0) (fun _ => 0) 0 0 10))), (tS, .inl (cI, 10, .inl (va_cpy (fun _ => 0) (fun _ => 0) 0 0 10))), (kp, .inr (10, [.ref rOk, .ref sTk, .ref mAk, .ref sBk, .ref sAk, .ref tHk, .ref tFk, .ref tSk, .int 0, .int 0, .int (-1), .int 0, .int 0])), (sAk, .inl (cI, 6, .inl (fun _ => 0))), (tHk, .inl (cI, 10, .inl (fun _ => 0))), (tFk, .inl (cI, 10, .inl (fun _ => 0))), (tSk, .inl (cI, 10, .inl (fun _ => 0))), (mA, .inr (1, [.ref iA, .int 0, .int 0, .int 0, .int 0, .int 0, .int 13])), (iA, .inl (cI, 10, .inl (va_cpy (fun _ => 0) (fun _ => 0) 0 0 10))), (mAk, .inr (1, [.ref iAk, .int 0, .int 0, .int 0, .int 0, .int 0, .int 13])), (iAk, .inl (cI, 10, .inl (fun _ => 0)))]) H := hP
  have hD : va_D A ([(nw, .inr (10, [.ref rO, .ref sT, .ref mA, .ref sB, .ref sA, .ref tH, .ref tF, .ref tS, .int 0, .int 0, .int (-1), .int 0, .int 0])), (sA, .inl (cI, 6, .inl (va_cpy (fun _ => 0) (fun _ => 0) 0 0 6))), (tH, .inl (cI, 10, .inl (va_cpy (fun _ => 0) (fun _ => 0) 0 0 10))), (tF, .inl (cI, 10, .inl (va_cpy (fun _ => 0) (fun _ => 0) 0 0 10))), (tS, .inl (cI, 10, .inl (va_cpy (fun _ => 0) (fun _ => 0) 0 0 10))), (kp, .inr (10, [.ref rOk, .ref sTk, .ref mAk, .ref sBk, .ref sAk, .ref tHk, .ref tFk, .ref tSk, .int 0, .int 0, .int (-1), .int 0, .int 0])), (sAk, .inl (cI, 6, .inl (fun _ => 0))), (tHk, .inl (cI, 10, .inl (fun _ => 0))), (tFk, .inl (cI, 10, .inl (fun _ => 0))), (tSk, .inl (cI, 10, .inl (fun _ => 0))), (mA, .inr (1, [.ref iA, .int 0, .int 0, .int 0, .int 0, .int 0, .int 13])), (iA, .inl (cI, 10, .inl (va_cpy (fun _ => 0) (fun _ => 0) 0 0 10))), (mAk, .inr (1, [.ref iAk, .int 0, .int 0, .int 0, .int 0, .int 0, .int 13])), (iAk, .inl (cI, 10, .inl (fun _ => 0)))]) := hD
  refine lv_aload_n hx hb dX10_copyFrom_112 rfl (lv_at hl 0 rfl) ?_
  refine lv_aload_n hx hb dX10_copyFrom_113 rfl (lv_at hl 1 rfl) ?_
  refine z_get Z i_X10 hP 5 rfl rfl 9 (by decide) bw_254 rfl dX10_copyFrom_114 ?_
  refine z_put Z i_X10 tyX10 tyX10_ok nmX10 hP hD hS 0 rfl rfl 9 (by decide) bw_254 rfl rfl rfl (Nat.le_of_ble_eq_true rfl) dX10_copyFrom_117 (fun H locs hP hD hS => ?_)
  have hP : va_P D vwCl ([(nw, .inr (10, [.ref rO, .ref sT, .ref mA, .ref sB, .ref sA, .ref tH, .ref tF, .ref tS, .int 0, .int 0, .int (-1), .int 0, .int 0])), (sA, .inl (cI, 6, .inl (va_cpy (fun _ => 0) (fun _ => 0) 0 0 6))), (tH, .inl (cI, 10, .inl (va_cpy (fun _ => 0) (fun _ => 0) 0 0 10))), (tF, .inl (cI, 10, .inl (va_cpy (fun _ => 0) (fun _ => 0) 0 0 10))), (tS, .inl (cI, 10, .inl (va_cpy (fun _ => 0) (fun _ => 0) 0 0 10))), (kp, .inr (10, [.ref rOk, .ref sTk, .ref mAk, .ref sBk, .ref sAk, .ref tHk, .ref tFk, .ref tSk, .int 0, .int 0, .int (-1), .int 0, .int 0])), (sAk, .inl (cI, 6, .inl (fun _ => 0))), (tHk, .inl (cI, 10, .inl (fun _ => 0))), (tFk, .inl (cI, 10, .inl (fun _ => 0))), (tSk, .inl (cI, 10, .inl (fun _ => 0))), (mA, .inr (1, [.ref iA, .int 0, .int 0, .int 0, .int 0, .int 0, .int 13])), (iA, .inl (cI, 10, .inl (va_cpy (fun _ => 0) (fun _ => 0) 0 0 10))), (mAk, .inr (1, [.ref iAk, .int 0, .int 0, .int 0, .int 0, .int 0, .int 13])), (iAk, .inl (cI, 10, .inl (fun _ => 0)))]) H := hP
  have hD : va_D A ([(nw, .inr (10, [.ref rO, .ref sT, .ref mA, .ref sB, .ref sA, .ref tH, .ref tF, .ref tS, .int 0, .int 0, .int (-1), .int 0, .int 0])), (sA, .inl (cI, 6, .inl (va_cpy (fun _ => 0) (fun _ => 0) 0 0 6))), (tH, .inl (cI, 10, .inl (va_cpy (fun _ => 0) (fun _ => 0) 0 0 10))), (tF, .inl (cI, 10, .inl (va_cpy (fun _ => 0) (fun _ => 0) 0 0 10))), (tS, .inl (cI, 10, .inl (va_cpy (fun _ => 0) (fun _ => 0) 0 0 10))), (kp, .inr (10, [.ref rOk, .ref sTk, .ref mAk, .ref sBk, .ref sAk, .ref tHk, .ref tFk, .ref tSk, .int 0, .int 0, .int (-1), .int 0, .int 0])), (sAk, .inl (cI, 6, .inl (fun _ => 0))), (tHk, .inl (cI, 10, .inl (fun _ => 0))), (tFk, .inl (cI, 10, .inl (fun _ => 0))), (tSk, .inl (cI, 10, .inl (fun _ => 0))), (mA, .inr (1, [.ref iA, .int 0, .int 0, .int 0, .int 0, .int 0, .int 13])), (iA, .inl (cI, 10, .inl (va_cpy (fun _ => 0) (fun _ => 0) 0 0 10))), (mAk, .inr (1, [.ref iAk, .int 0, .int 0, .int 0, .int 0, .int 0, .int 13])), (iAk, .inl (cI, 10, .inl (fun _ => 0)))]) := hD
  refine lv_aload_n hx hb dX10_copyFrom_120 rfl (lv_at hl 0 rfl) ?_
  refine lv_aload_n hx hb dX10_copyFrom_121 rfl (lv_at hl 1 rfl) ?_
  refine z_get Z i_X10 hP 5 rfl rfl 10 (by decide) bw_256 rfl dX10_copyFrom_122 ?_
  refine z_put Z i_X10 tyX10 tyX10_ok nmX10 hP hD hS 0 rfl rfl 10 (by decide) bw_256 rfl rfl rfl (Nat.le_of_ble_eq_true rfl) dX10_copyFrom_125 (fun H locs hP hD hS => ?_)
  have hP : va_P D vwCl ([(nw, .inr (10, [.ref rO, .ref sT, .ref mA, .ref sB, .ref sA, .ref tH, .ref tF, .ref tS, .int 0, .int 0, .int (-1), .int 0, .int 0])), (sA, .inl (cI, 6, .inl (va_cpy (fun _ => 0) (fun _ => 0) 0 0 6))), (tH, .inl (cI, 10, .inl (va_cpy (fun _ => 0) (fun _ => 0) 0 0 10))), (tF, .inl (cI, 10, .inl (va_cpy (fun _ => 0) (fun _ => 0) 0 0 10))), (tS, .inl (cI, 10, .inl (va_cpy (fun _ => 0) (fun _ => 0) 0 0 10))), (kp, .inr (10, [.ref rOk, .ref sTk, .ref mAk, .ref sBk, .ref sAk, .ref tHk, .ref tFk, .ref tSk, .int 0, .int 0, .int (-1), .int 0, .int 0])), (sAk, .inl (cI, 6, .inl (fun _ => 0))), (tHk, .inl (cI, 10, .inl (fun _ => 0))), (tFk, .inl (cI, 10, .inl (fun _ => 0))), (tSk, .inl (cI, 10, .inl (fun _ => 0))), (mA, .inr (1, [.ref iA, .int 0, .int 0, .int 0, .int 0, .int 0, .int 13])), (iA, .inl (cI, 10, .inl (va_cpy (fun _ => 0) (fun _ => 0) 0 0 10))), (mAk, .inr (1, [.ref iAk, .int 0, .int 0, .int 0, .int 0, .int 0, .int 13])), (iAk, .inl (cI, 10, .inl (fun _ => 0)))]) H := hP
  have hD : va_D A ([(nw, .inr (10, [.ref rO, .ref sT, .ref mA, .ref sB, .ref sA, .ref tH, .ref tF, .ref tS, .int 0, .int 0, .int (-1), .int 0, .int 0])), (sA, .inl (cI, 6, .inl (va_cpy (fun _ => 0) (fun _ => 0) 0 0 6))), (tH, .inl (cI, 10, .inl (va_cpy (fun _ => 0) (fun _ => 0) 0 0 10))), (tF, .inl (cI, 10, .inl (va_cpy (fun _ => 0) (fun _ => 0) 0 0 10))), (tS, .inl (cI, 10, .inl (va_cpy (fun _ => 0) (fun _ => 0) 0 0 10))), (kp, .inr (10, [.ref rOk, .ref sTk, .ref mAk, .ref sBk, .ref sAk, .ref tHk, .ref tFk, .ref tSk, .int 0, .int 0, .int (-1), .int 0, .int 0])), (sAk, .inl (cI, 6, .inl (fun _ => 0))), (tHk, .inl (cI, 10, .inl (fun _ => 0))), (tFk, .inl (cI, 10, .inl (fun _ => 0))), (tSk, .inl (cI, 10, .inl (fun _ => 0))), (mA, .inr (1, [.ref iA, .int 0, .int 0, .int 0, .int 0, .int 0, .int 13])), (iA, .inl (cI, 10, .inl (va_cpy (fun _ => 0) (fun _ => 0) 0 0 10))), (mAk, .inr (1, [.ref iAk, .int 0, .int 0, .int 0, .int 0, .int 0, .int 13])), (iAk, .inl (cI, 10, .inl (fun _ => 0)))]) := hD
  refine lv_aload_n hx hb dX10_copyFrom_128 rfl (lv_at hl 0 rfl) ?_
  refine lv_aload_n hx hb dX10_copyFrom_129 rfl (lv_at hl 1 rfl) ?_
  refine z_get Z i_X10 hP 5 rfl rfl 11 (by decide) bw_259 rfl dX10_copyFrom_130 ?_
  refine z_put Z i_X10 tyX10 tyX10_ok nmX10 hP hD hS 0 rfl rfl 11 (by decide) bw_259 rfl rfl rfl (Nat.le_of_ble_eq_true rfl) dX10_copyFrom_133 (fun H locs hP hD hS => ?_)
  have hP : va_P D vwCl ([(nw, .inr (10, [.ref rO, .ref sT, .ref mA, .ref sB, .ref sA, .ref tH, .ref tF, .ref tS, .int 0, .int 0, .int (-1), .int 0, .int 0])), (sA, .inl (cI, 6, .inl (va_cpy (fun _ => 0) (fun _ => 0) 0 0 6))), (tH, .inl (cI, 10, .inl (va_cpy (fun _ => 0) (fun _ => 0) 0 0 10))), (tF, .inl (cI, 10, .inl (va_cpy (fun _ => 0) (fun _ => 0) 0 0 10))), (tS, .inl (cI, 10, .inl (va_cpy (fun _ => 0) (fun _ => 0) 0 0 10))), (kp, .inr (10, [.ref rOk, .ref sTk, .ref mAk, .ref sBk, .ref sAk, .ref tHk, .ref tFk, .ref tSk, .int 0, .int 0, .int (-1), .int 0, .int 0])), (sAk, .inl (cI, 6, .inl (fun _ => 0))), (tHk, .inl (cI, 10, .inl (fun _ => 0))), (tFk, .inl (cI, 10, .inl (fun _ => 0))), (tSk, .inl (cI, 10, .inl (fun _ => 0))), (mA, .inr (1, [.ref iA, .int 0, .int 0, .int 0, .int 0, .int 0, .int 13])), (iA, .inl (cI, 10, .inl (va_cpy (fun _ => 0) (fun _ => 0) 0 0 10))), (mAk, .inr (1, [.ref iAk, .int 0, .int 0, .int 0, .int 0, .int 0, .int 13])), (iAk, .inl (cI, 10, .inl (fun _ => 0)))]) H := hP
  have hD : va_D A ([(nw, .inr (10, [.ref rO, .ref sT, .ref mA, .ref sB, .ref sA, .ref tH, .ref tF, .ref tS, .int 0, .int 0, .int (-1), .int 0, .int 0])), (sA, .inl (cI, 6, .inl (va_cpy (fun _ => 0) (fun _ => 0) 0 0 6))), (tH, .inl (cI, 10, .inl (va_cpy (fun _ => 0) (fun _ => 0) 0 0 10))), (tF, .inl (cI, 10, .inl (va_cpy (fun _ => 0) (fun _ => 0) 0 0 10))), (tS, .inl (cI, 10, .inl (va_cpy (fun _ => 0) (fun _ => 0) 0 0 10))), (kp, .inr (10, [.ref rOk, .ref sTk, .ref mAk, .ref sBk, .ref sAk, .ref tHk, .ref tFk, .ref tSk, .int 0, .int 0, .int (-1), .int 0, .int 0])), (sAk, .inl (cI, 6, .inl (fun _ => 0))), (tHk, .inl (cI, 10, .inl (fun _ => 0))), (tFk, .inl (cI, 10, .inl (fun _ => 0))), (tSk, .inl (cI, 10, .inl (fun _ => 0))), (mA, .inr (1, [.ref iA, .int 0, .int 0, .int 0, .int 0, .int 0, .int 13])), (iA, .inl (cI, 10, .inl (va_cpy (fun _ => 0) (fun _ => 0) 0 0 10))), (mAk, .inr (1, [.ref iAk, .int 0, .int 0, .int 0, .int 0, .int 0, .int 13])), (iAk, .inl (cI, 10, .inl (fun _ => 0)))]) := hD
  refine lv_aload_n hx hb dX10_copyFrom_136 rfl (lv_at hl 0 rfl) ?_
  refine lv_aload_n hx hb dX10_copyFrom_137 rfl (lv_at hl 1 rfl) ?_
  refine z_get Z i_X10 hP 5 rfl rfl 12 (by decide) bw_261 rfl dX10_copyFrom_138 ?_
  refine z_put Z i_X10 tyX10 tyX10_ok nmX10 hP hD hS 0 rfl rfl 12 (by decide) bw_261 rfl rfl rfl (Nat.le_of_ble_eq_true rfl) dX10_copyFrom_141 (fun H locs hP hD hS => ?_)
  have hP : va_P D vwCl ([(nw, .inr (10, [.ref rO, .ref sT, .ref mA, .ref sB, .ref sA, .ref tH, .ref tF, .ref tS, .int 0, .int 0, .int (-1), .int 0, .int 0])), (sA, .inl (cI, 6, .inl (va_cpy (fun _ => 0) (fun _ => 0) 0 0 6))), (tH, .inl (cI, 10, .inl (va_cpy (fun _ => 0) (fun _ => 0) 0 0 10))), (tF, .inl (cI, 10, .inl (va_cpy (fun _ => 0) (fun _ => 0) 0 0 10))), (tS, .inl (cI, 10, .inl (va_cpy (fun _ => 0) (fun _ => 0) 0 0 10))), (kp, .inr (10, [.ref rOk, .ref sTk, .ref mAk, .ref sBk, .ref sAk, .ref tHk, .ref tFk, .ref tSk, .int 0, .int 0, .int (-1), .int 0, .int 0])), (sAk, .inl (cI, 6, .inl (fun _ => 0))), (tHk, .inl (cI, 10, .inl (fun _ => 0))), (tFk, .inl (cI, 10, .inl (fun _ => 0))), (tSk, .inl (cI, 10, .inl (fun _ => 0))), (mA, .inr (1, [.ref iA, .int 0, .int 0, .int 0, .int 0, .int 0, .int 13])), (iA, .inl (cI, 10, .inl (va_cpy (fun _ => 0) (fun _ => 0) 0 0 10))), (mAk, .inr (1, [.ref iAk, .int 0, .int 0, .int 0, .int 0, .int 0, .int 13])), (iAk, .inl (cI, 10, .inl (fun _ => 0)))]) H := hP
  have hD : va_D A ([(nw, .inr (10, [.ref rO, .ref sT, .ref mA, .ref sB, .ref sA, .ref tH, .ref tF, .ref tS, .int 0, .int 0, .int (-1), .int 0, .int 0])), (sA, .inl (cI, 6, .inl (va_cpy (fun _ => 0) (fun _ => 0) 0 0 6))), (tH, .inl (cI, 10, .inl (va_cpy (fun _ => 0) (fun _ => 0) 0 0 10))), (tF, .inl (cI, 10, .inl (va_cpy (fun _ => 0) (fun _ => 0) 0 0 10))), (tS, .inl (cI, 10, .inl (va_cpy (fun _ => 0) (fun _ => 0) 0 0 10))), (kp, .inr (10, [.ref rOk, .ref sTk, .ref mAk, .ref sBk, .ref sAk, .ref tHk, .ref tFk, .ref tSk, .int 0, .int 0, .int (-1), .int 0, .int 0])), (sAk, .inl (cI, 6, .inl (fun _ => 0))), (tHk, .inl (cI, 10, .inl (fun _ => 0))), (tFk, .inl (cI, 10, .inl (fun _ => 0))), (tSk, .inl (cI, 10, .inl (fun _ => 0))), (mA, .inr (1, [.ref iA, .int 0, .int 0, .int 0, .int 0, .int 0, .int 13])), (iA, .inl (cI, 10, .inl (va_cpy (fun _ => 0) (fun _ => 0) 0 0 10))), (mAk, .inr (1, [.ref iAk, .int 0, .int 0, .int 0, .int 0, .int 0, .int 13])), (iAk, .inl (cI, 10, .inl (fun _ => 0)))]) := hD
  have hP := hP.sub2 (wc := [(nw, .inr (10, [.ref rO, .ref sT, .ref mA, .ref sB, .ref sA, .ref tH, .ref tF, .ref tS, .int 0, .int 0, .int (-1), .int 0, .int 0])), (mA, .inr (1, [.ref iA, .int 0, .int 0, .int 0, .int 0, .int 0, .int 13])), (kp, .inr (10, [.ref rOk, .ref sTk, .ref mAk, .ref sBk, .ref sAk, .ref tHk, .ref tFk, .ref tSk, .int 0, .int 0, .int (-1), .int 0, .int 0])), (mAk, .inr (1, [.ref iAk, .int 0, .int 0, .int 0, .int 0, .int 0, .int 13]))]) [0, 10, 5, 12] rfl
  have hD := hD.sub (ws' := [(nw, .inr (10, [.ref rO, .ref sT, .ref mA, .ref sB, .ref sA, .ref tH, .ref tF, .ref tS, .int 0, .int 0, .int (-1), .int 0, .int 0])), (mA, .inr (1, [.ref iA, .int 0, .int 0, .int 0, .int 0, .int 0, .int 13])), (kp, .inr (10, [.ref rOk, .ref sTk, .ref mAk, .ref sBk, .ref sAk, .ref tHk, .ref tFk, .ref tSk, .int 0, .int 0, .int (-1), .int 0, .int 0])), (mAk, .inr (1, [.ref iAk, .int 0, .int 0, .int 0, .int 0, .int 0, .int 13]))]) [0, 10, 5, 12] (by decide) rfl
  exact z_vret Z hP hD hS (rfl) dX10_copyFrom_144 (Nat.le_of_ble_eq_true rfl) (Nat.le_of_ble_eq_true rfl)
