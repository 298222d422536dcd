theorem dX12_keep_0 : decode cX12_keep 0 = .ok (.aload_n 0, 1) := by decide +kernel
theorem dX12_keep_1 : decode cX12_keep 1 = .ok (.getfield 7, 3) := by decide +kernel
theorem dX12_keep_4 : decode cX12_keep 4 = .ok (.bipush 8, 2) := by decide +kernel
theorem dX12_keep_6 : decode cX12_keep 6 = .ok (.iaload, 1) := by decide +kernel
theorem dX12_keep_7 : decode cX12_keep 7 = .ok (.bipush 30, 2) := by decide +kernel
theorem dX12_keep_9 : decode cX12_keep 9 = .ok (.if_icmp .ne 49, 3) := by decide +kernel
theorem dX12_keep_12 : decode cX12_keep 12 = .ok (.iconst 0, 1) := by decide +kernel
theorem dX12_keep_13 : decode cX12_keep 13 = .ok (.istore_n 1, 1) := by decide +kernel
theorem dX12_keep_14 : decode cX12_keep 14 = .ok (.iload_n 1, 1) := by decide +kernel
theorem dX12_keep_15 : decode cX12_keep 15 = .ok (.sipush 464, 3) := by decide +kernel
theorem dX12_keep_18 : decode cX12_keep 18 = .ok (.if_icmp .ge 29, 3) := by decide +kernel
theorem dX12_keep_21 : decode cX12_keep 21 = .ok (.aload_n 0, 1) := by decide +kernel
theorem dX12_keep_22 : decode cX12_keep 22 = .ok (.getfield 7, 3) := by decide +kernel
theorem dX12_keep_25 : decode cX12_keep 25 = .ok (.sipush 382, 3) := by decide +kernel
theorem dX12_keep_28 : decode cX12_keep 28 = .ok (.iload_n 1, 1) := by decide +kernel
theorem dX12_keep_29 : decode cX12_keep 29 = .ok (.iadd, 1) := by decide +kernel
theorem dX12_keep_30 : decode cX12_keep 30 = .ok (.aload_n 0, 1) := by decide +kernel
theorem dX12_keep_31 : decode cX12_keep 31 = .ok (.getfield 7, 3) := by decide +kernel
theorem dX12_keep_34 : decode cX12_keep 34 = .ok (.sipush 398, 3) := by decide +kernel
theorem dX12_keep_37 : decode cX12_keep 37 = .ok (.iload_n 1, 1) := by decide +kernel
theorem dX12_keep_38 : decode cX12_keep 38 = .ok (.iadd, 1) := by decide +kernel
theorem dX12_keep_39 : decode cX12_keep 39 = .ok (.iaload, 1) := by decide +kernel
theorem dX12_keep_40 : decode cX12_keep 40 = .ok (.iastore, 1) := by decide +kernel
theorem dX12_keep_41 : decode cX12_keep 41 = .ok (.iinc 1 1, 3) := by decide +kernel
theorem dX12_keep_44 : decode cX12_keep 44 = .ok (.goto (-30), 3) := by decide +kernel
theorem dX12_keep_47 : decode cX12_keep 47 = .ok (.aload_n 0, 1) := by decide +kernel
theorem dX12_keep_48 : decode cX12_keep 48 = .ok (.getfield 7, 3) := by decide +kernel
theorem dX12_keep_51 : decode cX12_keep 51 = .ok (.bipush 8, 2) := by decide +kernel
theorem dX12_keep_53 : decode cX12_keep 53 = .ok (.dup2, 1) := by decide +kernel
theorem dX12_keep_54 : decode cX12_keep 54 = .ok (.iaload, 1) := by decide +kernel
theorem dX12_keep_55 : decode cX12_keep 55 = .ok (.iconst 1, 1) := by decide +kernel
theorem dX12_keep_56 : decode cX12_keep 56 = .ok (.isub, 1) := by decide +kernel
theorem dX12_keep_57 : decode cX12_keep 57 = .ok (.iastore, 1) := by decide +kernel
theorem dX12_keep_58 : decode cX12_keep 58 = .ok (.sipush 382, 3) := by decide +kernel
theorem dX12_keep_61 : decode cX12_keep 61 = .ok (.bipush 16, 2) := by decide +kernel
theorem dX12_keep_63 : decode cX12_keep 63 = .ok (.aload_n 0, 1) := by decide +kernel
theorem dX12_keep_64 : decode cX12_keep 64 = .ok (.getfield 7, 3) := by decide +kernel
theorem dX12_keep_67 : decode cX12_keep 67 = .ok (.bipush 8, 2) := by decide +kernel
theorem dX12_keep_69 : decode cX12_keep 69 = .ok (.iaload, 1) := by decide +kernel
theorem dX12_keep_70 : decode cX12_keep 70 = .ok (.imul, 1) := by decide +kernel
theorem dX12_keep_71 : decode cX12_keep 71 = .ok (.iadd, 1) := by decide +kernel
theorem dX12_keep_72 : decode cX12_keep 72 = .ok (.istore_n 1, 1) := by decide +kernel
theorem dX12_keep_73 : decode cX12_keep 73 = .ok (.iconst 0, 1) := by decide +kernel
theorem dX12_keep_74 : decode cX12_keep 74 = .ok (.istore_n 2, 1) := by decide +kernel
theorem dX12_keep_75 : decode cX12_keep 75 = .ok (.iload_n 2, 1) := by decide +kernel
theorem dX12_keep_76 : decode cX12_keep 76 = .ok (.iconst 3, 1) := by decide +kernel
theorem dX12_keep_77 : decode cX12_keep 77 = .ok (.if_icmp .ge 26, 3) := by decide +kernel
theorem dX12_keep_80 : decode cX12_keep 80 = .ok (.aload_n 0, 1) := by decide +kernel
theorem dX12_keep_81 : decode cX12_keep 81 = .ok (.getfield 7, 3) := by decide +kernel
theorem dX12_keep_84 : decode cX12_keep 84 = .ok (.iload_n 1, 1) := by decide +kernel
theorem dX12_keep_85 : decode cX12_keep 85 = .ok (.iload_n 2, 1) := by decide +kernel
theorem dX12_keep_86 : decode cX12_keep 86 = .ok (.iadd, 1) := by decide +kernel
theorem dX12_keep_87 : decode cX12_keep 87 = .ok (.aload_n 0, 1) := by decide +kernel
theorem dX12_keep_88 : decode cX12_keep 88 = .ok (.getfield 7, 3) := by decide +kernel
theorem dX12_keep_91 : decode cX12_keep 91 = .ok (.bipush 12, 2) := by decide +kernel
theorem dX12_keep_93 : decode cX12_keep 93 = .ok (.iload_n 2, 1) := by decide +kernel
theorem dX12_keep_94 : decode cX12_keep 94 = .ok (.iadd, 1) := by decide +kernel
theorem dX12_keep_95 : decode cX12_keep 95 = .ok (.iaload, 1) := by decide +kernel
theorem dX12_keep_96 : decode cX12_keep 96 = .ok (.iastore, 1) := by decide +kernel
theorem dX12_keep_97 : decode cX12_keep 97 = .ok (.iinc 2 1, 3) := by decide +kernel
theorem dX12_keep_100 : decode cX12_keep 100 = .ok (.goto (-25), 3) := by decide +kernel
theorem dX12_keep_103 : decode cX12_keep 103 = .ok (.aload_n 0, 1) := by decide +kernel
theorem dX12_keep_104 : decode cX12_keep 104 = .ok (.getfield 7, 3) := by decide +kernel
theorem dX12_keep_107 : decode cX12_keep 107 = .ok (.iload_n 1, 1) := by decide +kernel
theorem dX12_keep_108 : decode cX12_keep 108 = .ok (.iconst 3, 1) := by decide +kernel
theorem dX12_keep_109 : decode cX12_keep 109 = .ok (.iadd, 1) := by decide +kernel
theorem dX12_keep_110 : decode cX12_keep 110 = .ok (.aload_n 0, 1) := by decide +kernel
theorem dX12_keep_111 : decode cX12_keep 111 = .ok (.getfield 7, 3) := by decide +kernel
theorem dX12_keep_114 : decode cX12_keep 114 = .ok (.iconst 3, 1) := by decide +kernel
theorem dX12_keep_115 : decode cX12_keep 115 = .ok (.iaload, 1) := by decide +kernel
theorem dX12_keep_116 : decode cX12_keep 116 = .ok (.iastore, 1) := by decide +kernel
theorem dX12_keep_117 : decode cX12_keep 117 = .ok (.aload_n 0, 1) := by decide +kernel
theorem dX12_keep_118 : decode cX12_keep 118 = .ok (.getfield 7, 3) := by decide +kernel
theorem dX12_keep_121 : decode cX12_keep 121 = .ok (.iload_n 1, 1) := by decide +kernel
theorem dX12_keep_122 : decode cX12_keep 122 = .ok (.iconst 4, 1) := by decide +kernel
theorem dX12_keep_123 : decode cX12_keep 123 = .ok (.iadd, 1) := by decide +kernel
theorem dX12_keep_124 : decode cX12_keep 124 = .ok (.aload_n 0, 1) := by decide +kernel
theorem dX12_keep_125 : decode cX12_keep 125 = .ok (.getfield 7, 3) := by decide +kernel
theorem dX12_keep_128 : decode cX12_keep 128 = .ok (.iconst 5, 1) := by decide +kernel
theorem dX12_keep_129 : decode cX12_keep 129 = .ok (.iaload, 1) := by decide +kernel
theorem dX12_keep_130 : decode cX12_keep 130 = .ok (.iastore, 1) := by decide +kernel
theorem dX12_keep_131 : decode cX12_keep 131 = .ok (.aload_n 0, 1) := by decide +kernel
theorem dX12_keep_132 : decode cX12_keep 132 = .ok (.getfield 7, 3) := by decide +kernel
theorem dX12_keep_135 : decode cX12_keep 135 = .ok (.iload_n 1, 1) := by decide +kernel
theorem dX12_keep_136 : decode cX12_keep 136 = .ok (.iconst 5, 1) := by decide +kernel
theorem dX12_keep_137 : decode cX12_keep 137 = .ok (.iadd, 1) := by decide +kernel
theorem dX12_keep_138 : decode cX12_keep 138 = .ok (.aload_n 0, 1) := by decide +kernel
theorem dX12_keep_139 : decode cX12_keep 139 = .ok (.getfield 7, 3) := by decide +kernel
theorem dX12_keep_142 : decode cX12_keep 142 = .ok (.iconst 2, 1) := by decide +kernel
theorem dX12_keep_143 : decode cX12_keep 143 = .ok (.iaload, 1) := by decide +kernel
theorem dX12_keep_144 : decode cX12_keep 144 = .ok (.iastore, 1) := by decide +kernel
theorem dX12_keep_145 : decode cX12_keep 145 = .ok (.iconst 0, 1) := by decide +kernel
theorem dX12_keep_146 : decode cX12_keep 146 = .ok (.istore_n 2, 1) := by decide +kernel
theorem dX12_keep_147 : decode cX12_keep 147 = .ok (.iload_n 2, 1) := by decide +kernel
theorem dX12_keep_148 : decode cX12_keep 148 = .ok (.bipush 10, 2) := by decide +kernel
theorem dX12_keep_150 : decode cX12_keep 150 = .ok (.if_icmp .ge 29, 3) := by decide +kernel
theorem dX12_keep_153 : decode cX12_keep 153 = .ok (.aload_n 0, 1) := by decide +kernel
theorem dX12_keep_154 : decode cX12_keep 154 = .ok (.getfield 7, 3) := by decide +kernel
theorem dX12_keep_157 : decode cX12_keep 157 = .ok (.iload_n 1, 1) := by decide +kernel
theorem dX12_keep_158 : decode cX12_keep 158 = .ok (.bipush 6, 2) := by decide +kernel
theorem dX12_keep_160 : decode cX12_keep 160 = .ok (.iadd, 1) := by decide +kernel
theorem dX12_keep_161 : decode cX12_keep 161 = .ok (.iload_n 2, 1) := by decide +kernel
theorem dX12_keep_162 : decode cX12_keep 162 = .ok (.iadd, 1) := by decide +kernel
theorem dX12_keep_163 : decode cX12_keep 163 = .ok (.aload_n 0, 1) := by decide +kernel
theorem dX12_keep_164 : decode cX12_keep 164 = .ok (.getfield 7, 3) := by decide +kernel
theorem dX12_keep_167 : decode cX12_keep 167 = .ok (.bipush 24, 2) := by decide +kernel
theorem dX12_keep_169 : decode cX12_keep 169 = .ok (.iload_n 2, 1) := by decide +kernel
theorem dX12_keep_170 : decode cX12_keep 170 = .ok (.iadd, 1) := by decide +kernel
theorem dX12_keep_171 : decode cX12_keep 171 = .ok (.iaload, 1) := by decide +kernel
theorem dX12_keep_172 : decode cX12_keep 172 = .ok (.iastore, 1) := by decide +kernel
theorem dX12_keep_173 : decode cX12_keep 173 = .ok (.iinc 2 1, 3) := by decide +kernel
theorem dX12_keep_176 : decode cX12_keep 176 = .ok (.goto (-29), 3) := by decide +kernel
theorem dX12_keep_179 : decode cX12_keep 179 = .ok (.aload_n 0, 1) := by decide +kernel
theorem dX12_keep_180 : decode cX12_keep 180 = .ok (.getfield 7, 3) := by decide +kernel
theorem dX12_keep_183 : decode cX12_keep 183 = .ok (.bipush 8, 2) := by decide +kernel
theorem dX12_keep_185 : decode cX12_keep 185 = .ok (.dup2, 1) := by decide +kernel
theorem dX12_keep_186 : decode cX12_keep 186 = .ok (.iaload, 1) := by decide +kernel
theorem dX12_keep_187 : decode cX12_keep 187 = .ok (.iconst 1, 1) := by decide +kernel
theorem dX12_keep_188 : decode cX12_keep 188 = .ok (.iadd, 1) := by decide +kernel
theorem dX12_keep_189 : decode cX12_keep 189 = .ok (.iastore, 1) := by decide +kernel
theorem dX12_keep_190 : decode cX12_keep 190 = .ok (.return_, 1) := by decide +kernel
theorem dX12_pass_0 : decode cX12_pass 0 = .ok (.iload_n 1, 1) := by decide +kernel
theorem dX12_pass_1 : decode cX12_pass 1 = .ok (.iconst 1, 1) := by decide +kernel
theorem dX12_pass_2 : decode cX12_pass 2 = .ok (.bipush 99, 2) := by decide +kernel
theorem dX12_pass_4 : decode cX12_pass 4 = .ok (.invokestatic 71, 3) := by decide +kernel
theorem dX12_pass_7 : decode cX12_pass 7 = .ok (.ifCond .eq 17, 3) := by decide +kernel
theorem dX12_pass_10 : decode cX12_pass 10 = .ok (.aload_n 0, 1) := by decide +kernel
theorem dX12_pass_11 : decode cX12_pass 11 = .ok (.getfield 7, 3) := by decide +kernel
theorem dX12_pass_14 : decode cX12_pass 14 = .ok (.iconst 3, 1) := by decide +kernel
theorem dX12_pass_15 : decode cX12_pass 15 = .ok (.iaload, 1) := by decide +kernel
theorem dX12_pass_16 : decode cX12_pass 16 = .ok (.iload_n 1, 1) := by decide +kernel
theorem dX12_pass_17 : decode cX12_pass 17 = .ok (.iadd, 1) := by decide +kernel
theorem dX12_pass_18 : decode cX12_pass 18 = .ok (.sipush 999, 3) := by decide +kernel
theorem dX12_pass_21 : decode cX12_pass 21 = .ok (.if_icmp .le 5, 3) := by decide +kernel
theorem dX12_pass_24 : decode cX12_pass 24 = .ok (.iconst (-1), 1) := by decide +kernel
theorem dX12_pass_25 : decode cX12_pass 25 = .ok (.ireturn, 1) := by decide +kernel
theorem dX12_pass_26 : decode cX12_pass 26 = .ok (.iconst 0, 1) := by decide +kernel
theorem dX12_pass_27 : decode cX12_pass 27 = .ok (.istore_n 2, 1) := by decide +kernel
theorem dX12_pass_28 : decode cX12_pass 28 = .ok (.iload_n 2, 1) := by decide +kernel
theorem dX12_pass_29 : decode cX12_pass 29 = .ok (.iload_n 1, 1) := by decide +kernel
theorem dX12_pass_30 : decode cX12_pass 30 = .ok (.if_icmp .ge 23, 3) := by decide +kernel
theorem dX12_pass_33 : decode cX12_pass 33 = .ok (.aload_n 0, 1) := by decide +kernel
theorem dX12_pass_34 : decode cX12_pass 34 = .ok (.invokevirtual 287, 3) := by decide +kernel
theorem dX12_pass_37 : decode cX12_pass 37 = .ok (.aload_n 0, 1) := by decide +kernel
theorem dX12_pass_38 : decode cX12_pass 38 = .ok (.getfield 7, 3) := by decide +kernel
theorem dX12_pass_41 : decode cX12_pass 41 = .ok (.iconst 3, 1) := by decide +kernel
theorem dX12_pass_42 : decode cX12_pass 42 = .ok (.dup2, 1) := by decide +kernel
theorem dX12_pass_43 : decode cX12_pass 43 = .ok (.iaload, 1) := by decide +kernel
theorem dX12_pass_44 : decode cX12_pass 44 = .ok (.iconst 1, 1) := by decide +kernel
theorem dX12_pass_45 : decode cX12_pass 45 = .ok (.iadd, 1) := by decide +kernel
theorem dX12_pass_46 : decode cX12_pass 46 = .ok (.iastore, 1) := by decide +kernel
theorem dX12_pass_47 : decode cX12_pass 47 = .ok (.iinc 2 1, 3) := by decide +kernel
theorem dX12_pass_50 : decode cX12_pass 50 = .ok (.goto (-22), 3) := by decide +kernel
theorem dX12_pass_53 : decode cX12_pass 53 = .ok (.aload_n 0, 1) := by decide +kernel
theorem dX12_pass_54 : decode cX12_pass 54 = .ok (.getfield 7, 3) := by decide +kernel
theorem dX12_pass_57 : decode cX12_pass 57 = .ok (.iconst 3, 1) := by decide +kernel
theorem dX12_pass_58 : decode cX12_pass 58 = .ok (.iaload, 1) := by decide +kernel
theorem dX12_pass_59 : decode cX12_pass 59 = .ok (.ireturn, 1) := by decide +kernel
theorem bw_68 : Cond.selects "CountingHorsesModel" ⟨"CountingHorsesModel", "keep", "()V"⟩ ⟨"CountingHorsesModel", "keep", "()V"⟩ ∈ BW := bw_at 68 (by decide +kernel) (by decide +kernel)
theorem bw_1352 : Cond.methodLink "CountingHorsesModel" 287 ⟨"CountingHorsesModel", "keep", "()V"⟩ ∈ BW := bw_at 1352 (by decide +kernel) (by decide +kernel)
theorem bw_1354 : Cond.instanceMethod ⟨"CountingHorsesModel", "keep", "()V"⟩ ∈ BW := bw_at 1354 (by decide +kernel) (by decide +kernel)
theorem bw_1355 : Cond.code ⟨"CountingHorsesModel", "keep", "()V"⟩ prog_14_method_62_code 3 none ∈ BW := bw_at 1355 (by decide +kernel) (by decide +kernel)
set_option maxHeartbeats 4000000 in
set_option maxRecDepth 100000 in
theorem c_X12_keep_lt (l : Launch) (D : va_G) (cI cM cT : ClassId) (q : Nat) (aA : Nat) (aI : Nat) (aT : Nat) (aP : Nat) (pI : Nat) (nM : Nat) (vA : Nat) (tR : Nat) (rW : Nat) (sP : Nat) (oA : Nat) (bS : Nat) (aS : Nat) (aO : Nat) (cS : Nat) (wY : Nat) (f : Nat → Int32) (k : Nat) (hf8 : f 8 = (nI k)) (hk : k < 30) : Cv l D (ty3 cI cM cT) yX12_keep cX12_keep 3 0 0 0 [.ref q] ([(q, .inr (12, [.ref aA, .ref aI, .ref aT, .ref aP, .int 0, .int (-1), .int (-1), .int 0, .int 0, .int 0, .int 0, .long 0, .int 0, .int 0, .int 0, .int 0, .ref pI, .int 0, .int 0, .int 0, .int 0, .int 0, .ref nM, .ref vA, .ref tR, .int 0, .int 0, .int 0, .ref rW, .ref sP, .ref oA, .ref bS, .ref aS, .ref aO, .ref cS, .ref wY])), (aA, .inl (cI, 862, .inl f))]) (fun u => ∃ (g : Nat → Int32), u = [(q, .inr (12, [.ref aA, .ref aI, .ref aT, .ref aP, .int 0, .int (-1), .int (-1), .int 0, .int 0, .int 0, .int 0, .long 0, .int 0, .int 0, .int 0, .int 0, .ref pI, .int 0, .int 0, .int 0, .int 0, .int 0, .ref nM, .ref vA, .ref tR, .int 0, .int 0, .int 0, .ref rW, .ref sP, .ref oA, .ref bS, .ref aS, .ref aO, .ref cS, .ref wY])), (aA, .inl (cI, 862, .inl g))] ∧ g 3 = f 3 ∧ g 8 = nI (k + 1)) := by
  refine Cv.of (by decide +kernel) (Nat.le_of_ble_eq_true rfl) ?_
  intro p e s m below meth c A ls Z hin hP hD hl
  have hx := Z.1
  have hb := Z.2.1
  have hS : va_S A s.heap s.heap [] := va_S.rf
  have hl : lv_has ls 3 [(0, .ref q)] := hl
  skip
  have h3 : f 3 = f 3 := rfl
  have h8 := hf8
  refine lv_aload_n hx hb dX12_keep_0 rfl (lv_at hl 0 rfl) ?_
  refine z_get Z i_X12 hP 0 rfl rfl 0 (by decide) bw_1019 rfl dX12_keep_1 ?_
  refine lv_bipush (v := 8) hx hb dX12_keep_4 (by decide) ?_
  refine z_iald Z hP 1 0 rfl rfl (vin (by decide)) dX12_keep_6 ?_
  refine z_topi (y := (nI k)) h8 ?_
  refine lv_bipush (v := 30) hx hb dX12_keep_7 (by decide) ?_
  refine lv_icmp_ne (tgt := 58) hx hb dX12_keep_9 (by decide) (fun c1 => ?_) (fun h => absurd (show (nI k).toInt = 30 by rw [h]; decide) (by rw [nI_toInt (by omega)]; omega))
  refine lv_sipush (v := 382) hx hb dX12_keep_58 (by decide) ?_
  refine lv_bipush (v := 16) hx hb dX12_keep_61 (by decide) ?_
  refine lv_aload_n hx hb dX12_keep_63 rfl (lv_at hl 0 rfl) ?_
  refine z_get Z i_X12 hP 0 rfl rfl 0 (by decide) bw_1019 rfl dX12_keep_64 ?_
  refine lv_bipush (v := 8) hx hb dX12_keep_67 (by decide) ?_
  refine z_iald Z hP 1 0 rfl rfl (vin (by decide)) dX12_keep_69 ?_
  refine z_topi (y := (nI k)) h8 ?_
  refine lv_imul hx hb dX12_keep_70 ?_
  refine z_topi (y := (nI (16 * k))) (pk_mul 16 k) ?_
  refine lv_iadd hx hb dX12_keep_71 ?_
  refine z_topi (y := (nI (382 + (16 * k)))) (nI_add 382 (16 * k)) ?_
  refine lv_istore_n (lv' := [(1, .int (nI (382 + (16 * k)))), (0, .ref q)]) hx hb dX12_keep_72 rfl hl (by decide) rfl (fun ls hl => ?_)
  refine lv_iconst (v := 0) hx hb dX12_keep_73 (by decide) ?_
  refine lv_istore_n (lv' := [(2, .int 0), (1, .int (nI (382 + (16 * k)))), (0, .ref q)]) hx hb dX12_keep_74 rfl hl (by decide) rfl (fun ls hl => ?_)
  refine lv_iload_n hx hb dX12_keep_75 rfl (lv_at hl 0 rfl) ?_
  refine lv_iconst (v := 3) hx hb dX12_keep_76 (by decide) ?_
  refine lv_icmp_ge (tgt := 103) hx hb dX12_keep_77 (by decide) (fun h => absurd h (by decide)) (fun c2 => ?_)
  refine lv_aload_n hx hb dX12_keep_80 rfl (lv_at hl 2 rfl) ?_
  refine z_get Z i_X12 hP 0 rfl rfl 0 (by decide) bw_1019 rfl dX12_keep_81 ?_
  refine lv_iload_n hx hb dX12_keep_84 rfl (lv_at hl 1 rfl) ?_
  refine lv_iload_n hx hb dX12_keep_85 rfl (lv_at hl 0 rfl) ?_
  refine lv_iadd hx hb dX12_keep_86 ?_
  refine z_topi (y := (nI ((382 + (16 * k)) + 0))) (nI_add (382 + (16 * k)) 0) ?_
  refine lv_aload_n hx hb dX12_keep_87 rfl (lv_at hl 2 rfl) ?_
  refine z_get Z i_X12 hP 0 rfl rfl 0 (by decide) bw_1019 rfl dX12_keep_88 ?_
  refine lv_bipush (v := 12) hx hb dX12_keep_91 (by decide) ?_
  refine lv_iload_n hx hb dX12_keep_93 rfl (lv_at hl 0 rfl) ?_
  refine lv_iadd hx hb dX12_keep_94 ?_
  refine z_topi (y := 12) (by decide) ?_
  refine z_iald Z hP 1 0 rfl rfl (vin (by decide)) dX12_keep_95 ?_
  refine lv_topi (fun z3 ez3 => ?_)
  refine z_iast Z hP hD hS 1 0 rfl rfl (vp_in_nI (by (try simp only [zlt, zle, zeq, zl_0, zl_1, zl_2, zl_3, zl_4, zl_5, zl_6, zl_7, zl_8, zl_9, zl_10, zl_11, zl_12, zl_13, zl_19, zl_20, zl_30, zl_64, zl_99, zl_100, zl_299, zl_300, zl_399, zl_999, zl_9999, zl_m1, zl_m2, zl_m3, zl_32, zl_280, zl_862, zl_464, zl_82, zl_382, zl_398, zl_400000000, zl_63] at c1 c2 ⊢); omega) (by omega)) dX12_keep_96 (fun H locs hP hD hS => ?_)
  rw [nI_clamp (by omega)] at hP hD
  obtain ⟨g4, hg4⟩ : ∃ g9, g9 = upd f ((382 + (16 * k)) + 0) z3 := ⟨_, rfl⟩
  rw [← hg4] at hP hD
  have hP : va_P D vwCl ([(q, .inr (12, [.ref aA, .ref aI, .ref aT, .ref aP, .int 0, .int (-1), .int (-1), .int 0, .int 0, .int 0, .int 0, .long 0, .int 0, .int 0, .int 0, .int 0, .ref pI, .int 0, .int 0, .int 0, .int 0, .int 0, .ref nM, .ref vA, .ref tR, .int 0, .int 0, .int 0, .ref rW, .ref sP, .ref oA, .ref bS, .ref aS, .ref aO, .ref cS, .ref wY])), (aA, .inl (cI, 862, .inl g4))]) H := hP
  have hD : va_D A ([(q, .inr (12, [.ref aA, .ref aI, .ref aT, .ref aP, .int 0, .int (-1), .int (-1), .int 0, .int 0, .int 0, .int 0, .long 0, .int 0, .int 0, .int 0, .int 0, .ref pI, .int 0, .int 0, .int 0, .int 0, .int 0, .ref nM, .ref vA, .ref tR, .int 0, .int 0, .int 0, .ref rW, .ref sP, .ref oA, .ref bS, .ref aS, .ref aO, .ref cS, .ref wY])), (aA, .inl (cI, 862, .inl g4))]) := hD
  have h3 : g4 3 = (f 3) := by rw [hg4]; exact (pk_un (by omega)).trans h3
  have h8 : g4 8 = (nI k) := by rw [hg4]; exact (pk_un (by omega)).trans h8
  refine lv_iinc (v := 1) (lv' := [(2, .int 1), (1, .int (nI (382 + (16 * k)))), (0, .ref q)]) hx hb dX12_keep_97 hl (k := 0) rfl (by decide) (by decide) rfl (fun ls hl => ?_)
  refine lv_goto (tgt := 75) hx hb dX12_keep_100 (by decide) ?_
  refine lv_iload_n hx hb dX12_keep_75 rfl (lv_at hl 0 rfl) ?_
  refine lv_iconst (v := 3) hx hb dX12_keep_76 (by decide) ?_
  refine lv_icmp_ge (tgt := 103) hx hb dX12_keep_77 (by decide) (fun h => absurd h (by decide)) (fun c5 => ?_)
  refine lv_aload_n hx hb dX12_keep_80 rfl (lv_at hl 2 rfl) ?_
  refine z_get Z i_X12 hP 0 rfl rfl 0 (by decide) bw_1019 rfl dX12_keep_81 ?_
  refine lv_iload_n hx hb dX12_keep_84 rfl (lv_at hl 1 rfl) ?_
  refine lv_iload_n hx hb dX12_keep_85 rfl (lv_at hl 0 rfl) ?_
  refine lv_iadd hx hb dX12_keep_86 ?_
  refine z_topi (y := (nI ((382 + (16 * k)) + 1))) (nI_add (382 + (16 * k)) 1) ?_
  refine lv_aload_n hx hb dX12_keep_87 rfl (lv_at hl 2 rfl) ?_
  refine z_get Z i_X12 hP 0 rfl rfl 0 (by decide) bw_1019 rfl dX12_keep_88 ?_
  refine lv_bipush (v := 12) hx hb dX12_keep_91 (by decide) ?_
  refine lv_iload_n hx hb dX12_keep_93 rfl (lv_at hl 0 rfl) ?_
  refine lv_iadd hx hb dX12_keep_94 ?_
  refine z_topi (y := 13) (by decide) ?_
  refine z_iald Z hP 1 0 rfl rfl (vin (by decide)) dX12_keep_95 ?_
  refine lv_topi (fun z6 ez6 => ?_)
  refine z_iast Z hP hD hS 1 0 rfl rfl (vp_in_nI (by (try simp only [zlt, zle, zeq, zl_0, zl_1, zl_2, zl_3, zl_4, zl_5, zl_6, zl_7, zl_8, zl_9, zl_10, zl_11, zl_12, zl_13, zl_19, zl_20, zl_30, zl_64, zl_99, zl_100, zl_299, zl_300, zl_399, zl_999, zl_9999, zl_m1, zl_m2, zl_m3, zl_32, zl_280, zl_862, zl_464, zl_82, zl_382, zl_398, zl_400000000, zl_63] at c1 c2 c5 ⊢); omega) (by omega)) dX12_keep_96 (fun H locs hP hD hS => ?_)
  rw [nI_clamp (by omega)] at hP hD
  obtain ⟨g7, hg7⟩ : ∃ g9, g9 = upd g4 ((382 + (16 * k)) + 1) z6 := ⟨_, rfl⟩
  rw [← hg7] at hP hD
  have hP : va_P D vwCl ([(q, .inr (12, [.ref aA, .ref aI, .ref aT, .ref aP, .int 0, .int (-1), .int (-1), .int 0, .int 0, .int 0, .int 0, .long 0, .int 0, .int 0, .int 0, .int 0, .ref pI, .int 0, .int 0, .int 0, .int 0, .int 0, .ref nM, .ref vA, .ref tR, .int 0, .int 0, .int 0, .ref rW, .ref sP, .ref oA, .ref bS, .ref aS, .ref aO, .ref cS, .ref wY])), (aA, .inl (cI, 862, .inl g7))]) H := hP
  have hD : va_D A ([(q, .inr (12, [.ref aA, .ref aI, .ref aT, .ref aP, .int 0, .int (-1), .int (-1), .int 0, .int 0, .int 0, .int 0, .long 0, .int 0, .int 0, .int 0, .int 0, .ref pI, .int 0, .int 0, .int 0, .int 0, .int 0, .ref nM, .ref vA, .ref tR, .int 0, .int 0, .int 0, .ref rW, .ref sP, .ref oA, .ref bS, .ref aS, .ref aO, .ref cS, .ref wY])), (aA, .inl (cI, 862, .inl g7))]) := hD
  have h3 : g7 3 = (f 3) := by rw [hg7]; exact (pk_un (by omega)).trans h3
  have h8 : g7 8 = (nI k) := by rw [hg7]; exact (pk_un (by omega)).trans h8
  refine lv_iinc (v := 2) (lv' := [(2, .int 2), (1, .int (nI (382 + (16 * k)))), (0, .ref q)]) hx hb dX12_keep_97 hl (k := 0) rfl (by decide) (by decide) rfl (fun ls hl => ?_)
  refine lv_goto (tgt := 75) hx hb dX12_keep_100 (by decide) ?_
  refine lv_iload_n hx hb dX12_keep_75 rfl (lv_at hl 0 rfl) ?_
  refine lv_iconst (v := 3) hx hb dX12_keep_76 (by decide) ?_
  refine lv_icmp_ge (tgt := 103) hx hb dX12_keep_77 (by decide) (fun h => absurd h (by decide)) (fun c8 => ?_)
  refine lv_aload_n hx hb dX12_keep_80 rfl (lv_at hl 2 rfl) ?_
  refine z_get Z i_X12 hP 0 rfl rfl 0 (by decide) bw_1019 rfl dX12_keep_81 ?_
  refine lv_iload_n hx hb dX12_keep_84 rfl (lv_at hl 1 rfl) ?_
  refine lv_iload_n hx hb dX12_keep_85 rfl (lv_at hl 0 rfl) ?_
  refine lv_iadd hx hb dX12_keep_86 ?_
  refine z_topi (y := (nI ((382 + (16 * k)) + 2))) (nI_add (382 + (16 * k)) 2) ?_
  refine lv_aload_n hx hb dX12_keep_87 rfl (lv_at hl 2 rfl) ?_
  refine z_get Z i_X12 hP 0 rfl rfl 0 (by decide) bw_1019 rfl dX12_keep_88 ?_
  refine lv_bipush (v := 12) hx hb dX12_keep_91 (by decide) ?_
  refine lv_iload_n hx hb dX12_keep_93 rfl (lv_at hl 0 rfl) ?_
  refine lv_iadd hx hb dX12_keep_94 ?_
  refine z_topi (y := 14) (by decide) ?_
  refine z_iald Z hP 1 0 rfl rfl (vin (by decide)) dX12_keep_95 ?_
  refine lv_topi (fun z9 ez9 => ?_)
  refine z_iast Z hP hD hS 1 0 rfl rfl (vp_in_nI (by (try simp only [zlt, zle, zeq, zl_0, zl_1, zl_2, zl_3, zl_4, zl_5, zl_6, zl_7, zl_8, zl_9, zl_10, zl_11, zl_12, zl_13, zl_19, zl_20, zl_30, zl_64, zl_99, zl_100, zl_299, zl_300, zl_399, zl_999, zl_9999, zl_m1, zl_m2, zl_m3, zl_32, zl_280, zl_862, zl_464, zl_82, zl_382, zl_398, zl_400000000, zl_63] at c1 c2 c5 c8 ⊢); omega) (by omega)) dX12_keep_96 (fun H locs hP hD hS => ?_)
  rw [nI_clamp (by omega)] at hP hD
  obtain ⟨g10, hg10⟩ : ∃ g9, g9 = upd g7 ((382 + (16 * k)) + 2) z9 := ⟨_, rfl⟩
  rw [← hg10] at hP hD
  have hP : va_P D vwCl ([(q, .inr (12, [.ref aA, .ref aI, .ref aT, .ref aP, .int 0, .int (-1), .int (-1), .int 0, .int 0, .int 0, .int 0, .long 0, .int 0, .int 0, .int 0, .int 0, .ref pI, .int 0, .int 0, .int 0, .int 0, .int 0, .ref nM, .ref vA, .ref tR, .int 0, .int 0, .int 0, .ref rW, .ref sP, .ref oA, .ref bS, .ref aS, .ref aO, .ref cS, .ref wY])), (aA, .inl (cI, 862, .inl g10))]) H := hP
  have hD : va_D A ([(q, .inr (12, [.ref aA, .ref aI, .ref aT, .ref aP, .int 0, .int (-1), .int (-1), .int 0, .int 0, .int 0, .int 0, .long 0, .int 0, .int 0, .int 0, .int 0, .ref pI, .int 0, .int 0, .int 0, .int 0, .int 0, .ref nM, .ref vA, .ref tR, .int 0, .int 0, .int 0, .ref rW, .ref sP, .ref oA, .ref bS, .ref aS, .ref aO, .ref cS, .ref wY])), (aA, .inl (cI, 862, .inl g10))]) := hD
  have h3 : g10 3 = (f 3) := by rw [hg10]; exact (pk_un (by omega)).trans h3
  have h8 : g10 8 = (nI k) := by rw [hg10]; exact (pk_un (by omega)).trans h8
  refine lv_iinc (v := 3) (lv' := [(2, .int 3), (1, .int (nI (382 + (16 * k)))), (0, .ref q)]) hx hb dX12_keep_97 hl (k := 0) rfl (by decide) (by decide) rfl (fun ls hl => ?_)
  refine lv_goto (tgt := 75) hx hb dX12_keep_100 (by decide) ?_
  refine lv_iload_n hx hb dX12_keep_75 rfl (lv_at hl 0 rfl) ?_
  refine lv_iconst (v := 3) hx hb dX12_keep_76 (by decide) ?_
  refine lv_icmp_ge (tgt := 103) hx hb dX12_keep_77 (by decide) (fun c11 => ?_) (fun h => absurd (by decide) h)
  refine lv_aload_n hx hb dX12_keep_103 rfl (lv_at hl 2 rfl) ?_
  refine z_get Z i_X12 hP 0 rfl rfl 0 (by decide) bw_1019 rfl dX12_keep_104 ?_
  refine lv_iload_n hx hb dX12_keep_107 rfl (lv_at hl 1 rfl) ?_
  refine lv_iconst (v := 3) hx hb dX12_keep_108 (by decide) ?_
  refine lv_iadd hx hb dX12_keep_109 ?_
  refine z_topi (y := (nI ((382 + (16 * k)) + 3))) (nI_add (382 + (16 * k)) 3) ?_
  refine lv_aload_n hx hb dX12_keep_110 rfl (lv_at hl 2 rfl) ?_
  refine z_get Z i_X12 hP 0 rfl rfl 0 (by decide) bw_1019 rfl dX12_keep_111 ?_
  refine lv_iconst (v := 3) hx hb dX12_keep_114 (by decide) ?_
  refine z_iald Z hP 1 0 rfl rfl (vin (by decide)) dX12_keep_115 ?_
  refine lv_topi (fun z12 ez12 => ?_)
  refine z_iast Z hP hD hS 1 0 rfl rfl (vp_in_nI (by (try simp only [zlt, zle, zeq, zl_0, zl_1, zl_2, zl_3, zl_4, zl_5, zl_6, zl_7, zl_8, zl_9, zl_10, zl_11, zl_12, zl_13, zl_19, zl_20, zl_30, zl_64, zl_99, zl_100, zl_299, zl_300, zl_399, zl_999, zl_9999, zl_m1, zl_m2, zl_m3, zl_32, zl_280, zl_862, zl_464, zl_82, zl_382, zl_398, zl_400000000, zl_63] at c1 c2 c5 c8 c11 ⊢); omega) (by omega)) dX12_keep_116 (fun H locs hP hD hS => ?_)
  rw [nI_clamp (by omega)] at hP hD
  obtain ⟨g13, hg13⟩ : ∃ g9, g9 = upd g10 ((382 + (16 * k)) + 3) z12 := ⟨_, rfl⟩
  rw [← hg13] at hP hD
  have hP : va_P D vwCl ([(q, .inr (12, [.ref aA, .ref aI, .ref aT, .ref aP, .int 0, .int (-1), .int (-1), .int 0, .int 0, .int 0, .int 0, .long 0, .int 0, .int 0, .int 0, .int 0, .ref pI, .int 0, .int 0, .int 0, .int 0, .int 0, .ref nM, .ref vA, .ref tR, .int 0, .int 0, .int 0, .ref rW, .ref sP, .ref oA, .ref bS, .ref aS, .ref aO, .ref cS, .ref wY])), (aA, .inl (cI, 862, .inl g13))]) H := hP
  have hD : va_D A ([(q, .inr (12, [.ref aA, .ref aI, .ref aT, .ref aP, .int 0, .int (-1), .int (-1), .int 0, .int 0, .int 0, .int 0, .long 0, .int 0, .int 0, .int 0, .int 0, .ref pI, .int 0, .int 0, .int 0, .int 0, .int 0, .ref nM, .ref vA, .ref tR, .int 0, .int 0, .int 0, .ref rW, .ref sP, .ref oA, .ref bS, .ref aS, .ref aO, .ref cS, .ref wY])), (aA, .inl (cI, 862, .inl g13))]) := hD
  have h3 : g13 3 = (f 3) := by rw [hg13]; exact (pk_un (by omega)).trans h3
  have h8 : g13 8 = (nI k) := by rw [hg13]; exact (pk_un (by omega)).trans h8
  refine lv_aload_n hx hb dX12_keep_117 rfl (lv_at hl 2 rfl) ?_
  refine z_get Z i_X12 hP 0 rfl rfl 0 (by decide) bw_1019 rfl dX12_keep_118 ?_
  refine lv_iload_n hx hb dX12_keep_121 rfl (lv_at hl 1 rfl) ?_
  refine lv_iconst (v := 4) hx hb dX12_keep_122 (by decide) ?_
  refine lv_iadd hx hb dX12_keep_123 ?_
  refine z_topi (y := (nI ((382 + (16 * k)) + 4))) (nI_add (382 + (16 * k)) 4) ?_
  refine lv_aload_n hx hb dX12_keep_124 rfl (lv_at hl 2 rfl) ?_
  refine z_get Z i_X12 hP 0 rfl rfl 0 (by decide) bw_1019 rfl dX12_keep_125 ?_
  refine lv_iconst (v := 5) hx hb dX12_keep_128 (by decide) ?_
  refine z_iald Z hP 1 0 rfl rfl (vin (by decide)) dX12_keep_129 ?_
  refine lv_topi (fun z14 ez14 => ?_)
  refine z_iast Z hP hD hS 1 0 rfl rfl (vp_in_nI (by (try simp only [zlt, zle, zeq, zl_0, zl_1, zl_2, zl_3, zl_4, zl_5, zl_6, zl_7, zl_8, zl_9, zl_10, zl_11, zl_12, zl_13, zl_19, zl_20, zl_30, zl_64, zl_99, zl_100, zl_299, zl_300, zl_399, zl_999, zl_9999, zl_m1, zl_m2, zl_m3, zl_32, zl_280, zl_862, zl_464, zl_82, zl_382, zl_398, zl_400000000, zl_63] at c1 c2 c5 c8 c11 ⊢); omega) (by omega)) dX12_keep_130 (fun H locs hP hD hS => ?_)
  rw [nI_clamp (by omega)] at hP hD
  obtain ⟨g15, hg15⟩ : ∃ g9, g9 = upd g13 ((382 + (16 * k)) + 4) z14 := ⟨_, rfl⟩
  rw [← hg15] at hP hD
  have hP : va_P D vwCl ([(q, .inr (12, [.ref aA, .ref aI, .ref aT, .ref aP, .int 0, .int (-1), .int (-1), .int 0, .int 0, .int 0, .int 0, .long 0, .int 0, .int 0, .int 0, .int 0, .ref pI, .int 0, .int 0, .int 0, .int 0, .int 0, .ref nM, .ref vA, .ref tR, .int 0, .int 0, .int 0, .ref rW, .ref sP, .ref oA, .ref bS, .ref aS, .ref aO, .ref cS, .ref wY])), (aA, .inl (cI, 862, .inl g15))]) H := hP
  have hD : va_D A ([(q, .inr (12, [.ref aA, .ref aI, .ref aT, .ref aP, .int 0, .int (-1), .int (-1), .int 0, .int 0, .int 0, .int 0, .long 0, .int 0, .int 0, .int 0, .int 0, .ref pI, .int 0, .int 0, .int 0, .int 0, .int 0, .ref nM, .ref vA, .ref tR, .int 0, .int 0, .int 0, .ref rW, .ref sP, .ref oA, .ref bS, .ref aS, .ref aO, .ref cS, .ref wY])), (aA, .inl (cI, 862, .inl g15))]) := hD
  have h3 : g15 3 = (f 3) := by rw [hg15]; exact (pk_un (by omega)).trans h3
  have h8 : g15 8 = (nI k) := by rw [hg15]; exact (pk_un (by omega)).trans h8
  refine lv_aload_n hx hb dX12_keep_131 rfl (lv_at hl 2 rfl) ?_
  refine z_get Z i_X12 hP 0 rfl rfl 0 (by decide) bw_1019 rfl dX12_keep_132 ?_
  refine lv_iload_n hx hb dX12_keep_135 rfl (lv_at hl 1 rfl) ?_
  refine lv_iconst (v := 5) hx hb dX12_keep_136 (by decide) ?_
  refine lv_iadd hx hb dX12_keep_137 ?_
  refine z_topi (y := (nI ((382 + (16 * k)) + 5))) (nI_add (382 + (16 * k)) 5) ?_
  refine lv_aload_n hx hb dX12_keep_138 rfl (lv_at hl 2 rfl) ?_
  refine z_get Z i_X12 hP 0 rfl rfl 0 (by decide) bw_1019 rfl dX12_keep_139 ?_
  refine lv_iconst (v := 2) hx hb dX12_keep_142 (by decide) ?_
  refine z_iald Z hP 1 0 rfl rfl (vin (by decide)) dX12_keep_143 ?_
  refine lv_topi (fun z16 ez16 => ?_)
  refine z_iast Z hP hD hS 1 0 rfl rfl (vp_in_nI (by (try simp only [zlt, zle, zeq, zl_0, zl_1, zl_2, zl_3, zl_4, zl_5, zl_6, zl_7, zl_8, zl_9, zl_10, zl_11, zl_12, zl_13, zl_19, zl_20, zl_30, zl_64, zl_99, zl_100, zl_299, zl_300, zl_399, zl_999, zl_9999, zl_m1, zl_m2, zl_m3, zl_32, zl_280, zl_862, zl_464, zl_82, zl_382, zl_398, zl_400000000, zl_63] at c1 c2 c5 c8 c11 ⊢); omega) (by omega)) dX12_keep_144 (fun H locs hP hD hS => ?_)
  rw [nI_clamp (by omega)] at hP hD
  obtain ⟨g17, hg17⟩ : ∃ g9, g9 = upd g15 ((382 + (16 * k)) + 5) z16 := ⟨_, rfl⟩
  rw [← hg17] at hP hD
  have hP : va_P D vwCl ([(q, .inr (12, [.ref aA, .ref aI, .ref aT, .ref aP, .int 0, .int (-1), .int (-1), .int 0, .int 0, .int 0, .int 0, .long 0, .int 0, .int 0, .int 0, .int 0, .ref pI, .int 0, .int 0, .int 0, .int 0, .int 0, .ref nM, .ref vA, .ref tR, .int 0, .int 0, .int 0, .ref rW, .ref sP, .ref oA, .ref bS, .ref aS, .ref aO, .ref cS, .ref wY])), (aA, .inl (cI, 862, .inl g17))]) H := hP
  have hD : va_D A ([(q, .inr (12, [.ref aA, .ref aI, .ref aT, .ref aP, .int 0, .int (-1), .int (-1), .int 0, .int 0, .int 0, .int 0, .long 0, .int 0, .int 0, .int 0, .int 0, .ref pI, .int 0, .int 0, .int 0, .int 0, .int 0, .ref nM, .ref vA, .ref tR, .int 0, .int 0, .int 0, .ref rW, .ref sP, .ref oA, .ref bS, .ref aS, .ref aO, .ref cS, .ref wY])), (aA, .inl (cI, 862, .inl g17))]) := hD
  have h3 : g17 3 = (f 3) := by rw [hg17]; exact (pk_un (by omega)).trans h3
  have h8 : g17 8 = (nI k) := by rw [hg17]; exact (pk_un (by omega)).trans h8
  refine lv_iconst (v := 0) hx hb dX12_keep_145 (by decide) ?_
  refine lv_istore_n (lv' := [(2, .int 0), (1, .int (nI (382 + (16 * k)))), (0, .ref q)]) hx hb dX12_keep_146 rfl hl (by decide) rfl (fun ls hl => ?_)
  refine lv_iload_n hx hb dX12_keep_147 rfl (lv_at hl 0 rfl) ?_
  refine lv_bipush (v := 10) hx hb dX12_keep_148 (by decide) ?_
  refine lv_icmp_ge (tgt := 179) hx hb dX12_keep_150 (by decide) (fun h => absurd h (by decide)) (fun c18 => ?_)
  refine lv_aload_n hx hb dX12_keep_153 rfl (lv_at hl 2 rfl) ?_
  refine z_get Z i_X12 hP 0 rfl rfl 0 (by decide) bw_1019 rfl dX12_keep_154 ?_
  refine lv_iload_n hx hb dX12_keep_157 rfl (lv_at hl 1 rfl) ?_
  refine lv_bipush (v := 6) hx hb dX12_keep_158 (by decide) ?_
  refine lv_iadd hx hb dX12_keep_160 ?_
  refine z_topi (y := (nI ((382 + (16 * k)) + 6))) (nI_add (382 + (16 * k)) 6) ?_
  refine lv_iload_n hx hb dX12_keep_161 rfl (lv_at hl 0 rfl) ?_
  refine lv_iadd hx hb dX12_keep_162 ?_
  refine z_topi (y := (nI (((382 + (16 * k)) + 6) + 0))) (nI_add ((382 + (16 * k)) + 6) 0) ?_
  refine lv_aload_n hx hb dX12_keep_163 rfl (lv_at hl 2 rfl) ?_
  refine z_get Z i_X12 hP 0 rfl rfl 0 (by decide) bw_1019 rfl dX12_keep_164 ?_
  refine lv_bipush (v := 24) hx hb dX12_keep_167 (by decide) ?_
  refine lv_iload_n hx hb dX12_keep_169 rfl (lv_at hl 0 rfl) ?_
  refine lv_iadd hx hb dX12_keep_170 ?_
  refine z_topi (y := 24) (by decide) ?_
  refine z_iald Z hP 1 0 rfl rfl (vin (by decide)) dX12_keep_171 ?_
  refine lv_topi (fun z19 ez19 => ?_)
  refine z_iast Z hP hD hS 1 0 rfl rfl (vp_in_nI (by (try simp only [zlt, zle, zeq, zl_0, zl_1, zl_2, zl_3, zl_4, zl_5, zl_6, zl_7, zl_8, zl_9, zl_10, zl_11, zl_12, zl_13, zl_19, zl_20, zl_30, zl_64, zl_99, zl_100, zl_299, zl_300, zl_399, zl_999, zl_9999, zl_m1, zl_m2, zl_m3, zl_32, zl_280, zl_862, zl_464, zl_82, zl_382, zl_398, zl_400000000, zl_63] at c1 c2 c5 c8 c11 c18 ⊢); omega) (by omega)) dX12_keep_172 (fun H locs hP hD hS => ?_)
  rw [nI_clamp (by omega)] at hP hD
  obtain ⟨g20, hg20⟩ : ∃ g9, g9 = upd g17 (((382 + (16 * k)) + 6) + 0) z19 := ⟨_, rfl⟩
  rw [← hg20] at hP hD
  have hP : va_P D vwCl ([(q, .inr (12, [.ref aA, .ref aI, .ref aT, .ref aP, .int 0, .int (-1), .int (-1), .int 0, .int 0, .int 0, .int 0, .long 0, .int 0, .int 0, .int 0, .int 0, .ref pI, .int 0, .int 0, .int 0, .int 0, .int 0, .ref nM, .ref vA, .ref tR, .int 0, .int 0, .int 0, .ref rW, .ref sP, .ref oA, .ref bS, .ref aS, .ref aO, .ref cS, .ref wY])), (aA, .inl (cI, 862, .inl g20))]) H := hP
  have hD : va_D A ([(q, .inr (12, [.ref aA, .ref aI, .ref aT, .ref aP, .int 0, .int (-1), .int (-1), .int 0, .int 0, .int 0, .int 0, .long 0, .int 0, .int 0, .int 0, .int 0, .ref pI, .int 0, .int 0, .int 0, .int 0, .int 0, .ref nM, .ref vA, .ref tR, .int 0, .int 0, .int 0, .ref rW, .ref sP, .ref oA, .ref bS, .ref aS, .ref aO, .ref cS, .ref wY])), (aA, .inl (cI, 862, .inl g20))]) := hD
  have h3 : g20 3 = (f 3) := by rw [hg20]; exact (pk_un (by omega)).trans h3
  have h8 : g20 8 = (nI k) := by rw [hg20]; exact (pk_un (by omega)).trans h8
  refine lv_iinc (v := 1) (lv' := [(2, .int 1), (1, .int (nI (382 + (16 * k)))), (0, .ref q)]) hx hb dX12_keep_173 hl (k := 0) rfl (by decide) (by decide) rfl (fun ls hl => ?_)
  refine lv_goto (tgt := 147) hx hb dX12_keep_176 (by decide) ?_
  refine lv_iload_n hx hb dX12_keep_147 rfl (lv_at hl 0 rfl) ?_
  refine lv_bipush (v := 10) hx hb dX12_keep_148 (by decide) ?_
  refine lv_icmp_ge (tgt := 179) hx hb dX12_keep_150 (by decide) (fun h => absurd h (by decide)) (fun c21 => ?_)
  refine lv_aload_n hx hb dX12_keep_153 rfl (lv_at hl 2 rfl) ?_
  refine z_get Z i_X12 hP 0 rfl rfl 0 (by decide) bw_1019 rfl dX12_keep_154 ?_
  refine lv_iload_n hx hb dX12_keep_157 rfl (lv_at hl 1 rfl) ?_
  refine lv_bipush (v := 6) hx hb dX12_keep_158 (by decide) ?_
  refine lv_iadd hx hb dX12_keep_160 ?_
  refine z_topi (y := (nI ((382 + (16 * k)) + 6))) (nI_add (382 + (16 * k)) 6) ?_
  refine lv_iload_n hx hb dX12_keep_161 rfl (lv_at hl 0 rfl) ?_
  refine lv_iadd hx hb dX12_keep_162 ?_
  refine z_topi (y := (nI (((382 + (16 * k)) + 6) + 1))) (nI_add ((382 + (16 * k)) + 6) 1) ?_
  refine lv_aload_n hx hb dX12_keep_163 rfl (lv_at hl 2 rfl) ?_
  refine z_get Z i_X12 hP 0 rfl rfl 0 (by decide) bw_1019 rfl dX12_keep_164 ?_
  refine lv_bipush (v := 24) hx hb dX12_keep_167 (by decide) ?_
  refine lv_iload_n hx hb dX12_keep_169 rfl (lv_at hl 0 rfl) ?_
  refine lv_iadd hx hb dX12_keep_170 ?_
  refine z_topi (y := 25) (by decide) ?_
  refine z_iald Z hP 1 0 rfl rfl (vin (by decide)) dX12_keep_171 ?_
  refine lv_topi (fun z22 ez22 => ?_)
  refine z_iast Z hP hD hS 1 0 rfl rfl (vp_in_nI (by (try simp only [zlt, zle, zeq, zl_0, zl_1, zl_2, zl_3, zl_4, zl_5, zl_6, zl_7, zl_8, zl_9, zl_10, zl_11, zl_12, zl_13, zl_19, zl_20, zl_30, zl_64, zl_99, zl_100, zl_299, zl_300, zl_399, zl_999, zl_9999, zl_m1, zl_m2, zl_m3, zl_32, zl_280, zl_862, zl_464, zl_82, zl_382, zl_398, zl_400000000, zl_63] at c1 c2 c5 c8 c11 c18 c21 ⊢); omega) (by omega)) dX12_keep_172 (fun H locs hP hD hS => ?_)
  rw [nI_clamp (by omega)] at hP hD
  obtain ⟨g23, hg23⟩ : ∃ g9, g9 = upd g20 (((382 + (16 * k)) + 6) + 1) z22 := ⟨_, rfl⟩
  rw [← hg23] at hP hD
  have hP : va_P D vwCl ([(q, .inr (12, [.ref aA, .ref aI, .ref aT, .ref aP, .int 0, .int (-1), .int (-1), .int 0, .int 0, .int 0, .int 0, .long 0, .int 0, .int 0, .int 0, .int 0, .ref pI, .int 0, .int 0, .int 0, .int 0, .int 0, .ref nM, .ref vA, .ref tR, .int 0, .int 0, .int 0, .ref rW, .ref sP, .ref oA, .ref bS, .ref aS, .ref aO, .ref cS, .ref wY])), (aA, .inl (cI, 862, .inl g23))]) H := hP
  have hD : va_D A ([(q, .inr (12, [.ref aA, .ref aI, .ref aT, .ref aP, .int 0, .int (-1), .int (-1), .int 0, .int 0, .int 0, .int 0, .long 0, .int 0, .int 0, .int 0, .int 0, .ref pI, .int 0, .int 0, .int 0, .int 0, .int 0, .ref nM, .ref vA, .ref tR, .int 0, .int 0, .int 0, .ref rW, .ref sP, .ref oA, .ref bS, .ref aS, .ref aO, .ref cS, .ref wY])), (aA, .inl (cI, 862, .inl g23))]) := hD
  have h3 : g23 3 = (f 3) := by rw [hg23]; exact (pk_un (by omega)).trans h3
  have h8 : g23 8 = (nI k) := by rw [hg23]; exact (pk_un (by omega)).trans h8
  refine lv_iinc (v := 2) (lv' := [(2, .int 2), (1, .int (nI (382 + (16 * k)))), (0, .ref q)]) hx hb dX12_keep_173 hl (k := 0) rfl (by decide) (by decide) rfl (fun ls hl => ?_)
  refine lv_goto (tgt := 147) hx hb dX12_keep_176 (by decide) ?_
  refine lv_iload_n hx hb dX12_keep_147 rfl (lv_at hl 0 rfl) ?_
  refine lv_bipush (v := 10) hx hb dX12_keep_148 (by decide) ?_
  refine lv_icmp_ge (tgt := 179) hx hb dX12_keep_150 (by decide) (fun h => absurd h (by decide)) (fun c24 => ?_)
  refine lv_aload_n hx hb dX12_keep_153 rfl (lv_at hl 2 rfl) ?_
  refine z_get Z i_X12 hP 0 rfl rfl 0 (by decide) bw_1019 rfl dX12_keep_154 ?_
  refine lv_iload_n hx hb dX12_keep_157 rfl (lv_at hl 1 rfl) ?_
  refine lv_bipush (v := 6) hx hb dX12_keep_158 (by decide) ?_
  refine lv_iadd hx hb dX12_keep_160 ?_
  refine z_topi (y := (nI ((382 + (16 * k)) + 6))) (nI_add (382 + (16 * k)) 6) ?_
  refine lv_iload_n hx hb dX12_keep_161 rfl (lv_at hl 0 rfl) ?_
  refine lv_iadd hx hb dX12_keep_162 ?_
  refine z_topi (y := (nI (((382 + (16 * k)) + 6) + 2))) (nI_add ((382 + (16 * k)) + 6) 2) ?_
  refine lv_aload_n hx hb dX12_keep_163 rfl (lv_at hl 2 rfl) ?_
  refine z_get Z i_X12 hP 0 rfl rfl 0 (by decide) bw_1019 rfl dX12_keep_164 ?_
  refine lv_bipush (v := 24) hx hb dX12_keep_167 (by decide) ?_
  refine lv_iload_n hx hb dX12_keep_169 rfl (lv_at hl 0 rfl) ?_
  refine lv_iadd hx hb dX12_keep_170 ?_
  refine z_topi (y := 26) (by decide) ?_
  refine z_iald Z hP 1 0 rfl rfl (vin (by decide)) dX12_keep_171 ?_
  refine lv_topi (fun z25 ez25 => ?_)
  refine z_iast Z hP hD hS 1 0 rfl rfl (vp_in_nI (by (try simp only [zlt, zle, zeq, zl_0, zl_1, zl_2, zl_3, zl_4, zl_5, zl_6, zl_7, zl_8, zl_9, zl_10, zl_11, zl_12, zl_13, zl_19, zl_20, zl_30, zl_64, zl_99, zl_100, zl_299, zl_300, zl_399, zl_999, zl_9999, zl_m1, zl_m2, zl_m3, zl_32, zl_280, zl_862, zl_464, zl_82, zl_382, zl_398, zl_400000000, zl_63] at c1 c2 c5 c8 c11 c18 c21 c24 ⊢); omega) (by omega)) dX12_keep_172 (fun H locs hP hD hS => ?_)
  rw [nI_clamp (by omega)] at hP hD
  obtain ⟨g26, hg26⟩ : ∃ g9, g9 = upd g23 (((382 + (16 * k)) + 6) + 2) z25 := ⟨_, rfl⟩
  rw [← hg26] at hP hD
  have hP : va_P D vwCl ([(q, .inr (12, [.ref aA, .ref aI, .ref aT, .ref aP, .int 0, .int (-1), .int (-1), .int 0, .int 0, .int 0, .int 0, .long 0, .int 0, .int 0, .int 0, .int 0, .ref pI, .int 0, .int 0, .int 0, .int 0, .int 0, .ref nM, .ref vA, .ref tR, .int 0, .int 0, .int 0, .ref rW, .ref sP, .ref oA, .ref bS, .ref aS, .ref aO, .ref cS, .ref wY])), (aA, .inl (cI, 862, .inl g26))]) H := hP
  have hD : va_D A ([(q, .inr (12, [.ref aA, .ref aI, .ref aT, .ref aP, .int 0, .int (-1), .int (-1), .int 0, .int 0, .int 0, .int 0, .long 0, .int 0, .int 0, .int 0, .int 0, .ref pI, .int 0, .int 0, .int 0, .int 0, .int 0, .ref nM, .ref vA, .ref tR, .int 0, .int 0, .int 0, .ref rW, .ref sP, .ref oA, .ref bS, .ref aS, .ref aO, .ref cS, .ref wY])), (aA, .inl (cI, 862, .inl g26))]) := hD
  have h3 : g26 3 = (f 3) := by rw [hg26]; exact (pk_un (by omega)).trans h3
  have h8 : g26 8 = (nI k) := by rw [hg26]; exact (pk_un (by omega)).trans h8
  refine lv_iinc (v := 3) (lv' := [(2, .int 3), (1, .int (nI (382 + (16 * k)))), (0, .ref q)]) hx hb dX12_keep_173 hl (k := 0) rfl (by decide) (by decide) rfl (fun ls hl => ?_)
  refine lv_goto (tgt := 147) hx hb dX12_keep_176 (by decide) ?_
  refine lv_iload_n hx hb dX12_keep_147 rfl (lv_at hl 0 rfl) ?_
  refine lv_bipush (v := 10) hx hb dX12_keep_148 (by decide) ?_
  refine lv_icmp_ge (tgt := 179) hx hb dX12_keep_150 (by decide) (fun h => absurd h (by decide)) (fun c27 => ?_)
  refine lv_aload_n hx hb dX12_keep_153 rfl (lv_at hl 2 rfl) ?_
  refine z_get Z i_X12 hP 0 rfl rfl 0 (by decide) bw_1019 rfl dX12_keep_154 ?_
  refine lv_iload_n hx hb dX12_keep_157 rfl (lv_at hl 1 rfl) ?_
  refine lv_bipush (v := 6) hx hb dX12_keep_158 (by decide) ?_
  refine lv_iadd hx hb dX12_keep_160 ?_
  refine z_topi (y := (nI ((382 + (16 * k)) + 6))) (nI_add (382 + (16 * k)) 6) ?_
  refine lv_iload_n hx hb dX12_keep_161 rfl (lv_at hl 0 rfl) ?_
  refine lv_iadd hx hb dX12_keep_162 ?_
  refine z_topi (y := (nI (((382 + (16 * k)) + 6) + 3))) (nI_add ((382 + (16 * k)) + 6) 3) ?_
  refine lv_aload_n hx hb dX12_keep_163 rfl (lv_at hl 2 rfl) ?_
  refine z_get Z i_X12 hP 0 rfl rfl 0 (by decide) bw_1019 rfl dX12_keep_164 ?_
  refine lv_bipush (v := 24) hx hb dX12_keep_167 (by decide) ?_
  refine lv_iload_n hx hb dX12_keep_169 rfl (lv_at hl 0 rfl) ?_
  refine lv_iadd hx hb dX12_keep_170 ?_
  refine z_topi (y := 27) (by decide) ?_
  refine z_iald Z hP 1 0 rfl rfl (vin (by decide)) dX12_keep_171 ?_
  refine lv_topi (fun z28 ez28 => ?_)
  refine z_iast Z hP hD hS 1 0 rfl rfl (vp_in_nI (by (try simp only [zlt, zle, zeq, zl_0, zl_1, zl_2, zl_3, zl_4, zl_5, zl_6, zl_7, zl_8, zl_9, zl_10, zl_11, zl_12, zl_13, zl_19, zl_20, zl_30, zl_64, zl_99, zl_100, zl_299, zl_300, zl_399, zl_999, zl_9999, zl_m1, zl_m2, zl_m3, zl_32, zl_280, zl_862, zl_464, zl_82, zl_382, zl_398, zl_400000000, zl_63] at c1 c2 c5 c8 c11 c18 c21 c24 c27 ⊢); omega) (by omega)) dX12_keep_172 (fun H locs hP hD hS => ?_)
  rw [nI_clamp (by omega)] at hP hD
  obtain ⟨g29, hg29⟩ : ∃ g9, g9 = upd g26 (((382 + (16 * k)) + 6) + 3) z28 := ⟨_, rfl⟩
  rw [← hg29] at hP hD
  have hP : va_P D vwCl ([(q, .inr (12, [.ref aA, .ref aI, .ref aT, .ref aP, .int 0, .int (-1), .int (-1), .int 0, .int 0, .int 0, .int 0, .long 0, .int 0, .int 0, .int 0, .int 0, .ref pI, .int 0, .int 0, .int 0, .int 0, .int 0, .ref nM, .ref vA, .ref tR, .int 0, .int 0, .int 0, .ref rW, .ref sP, .ref oA, .ref bS, .ref aS, .ref aO, .ref cS, .ref wY])), (aA, .inl (cI, 862, .inl g29))]) H := hP
  have hD : va_D A ([(q, .inr (12, [.ref aA, .ref aI, .ref aT, .ref aP, .int 0, .int (-1), .int (-1), .int 0, .int 0, .int 0, .int 0, .long 0, .int 0, .int 0, .int 0, .int 0, .ref pI, .int 0, .int 0, .int 0, .int 0, .int 0, .ref nM, .ref vA, .ref tR, .int 0, .int 0, .int 0, .ref rW, .ref sP, .ref oA, .ref bS, .ref aS, .ref aO, .ref cS, .ref wY])), (aA, .inl (cI, 862, .inl g29))]) := hD
  have h3 : g29 3 = (f 3) := by rw [hg29]; exact (pk_un (by omega)).trans h3
  have h8 : g29 8 = (nI k) := by rw [hg29]; exact (pk_un (by omega)).trans h8
  refine lv_iinc (v := 4) (lv' := [(2, .int 4), (1, .int (nI (382 + (16 * k)))), (0, .ref q)]) hx hb dX12_keep_173 hl (k := 0) rfl (by decide) (by decide) rfl (fun ls hl => ?_)
  refine lv_goto (tgt := 147) hx hb dX12_keep_176 (by decide) ?_
  refine lv_iload_n hx hb dX12_keep_147 rfl (lv_at hl 0 rfl) ?_
  refine lv_bipush (v := 10) hx hb dX12_keep_148 (by decide) ?_
  refine lv_icmp_ge (tgt := 179) hx hb dX12_keep_150 (by decide) (fun h => absurd h (by decide)) (fun c30 => ?_)
  refine lv_aload_n hx hb dX12_keep_153 rfl (lv_at hl 2 rfl) ?_
  refine z_get Z i_X12 hP 0 rfl rfl 0 (by decide) bw_1019 rfl dX12_keep_154 ?_
  refine lv_iload_n hx hb dX12_keep_157 rfl (lv_at hl 1 rfl) ?_
  refine lv_bipush (v := 6) hx hb dX12_keep_158 (by decide) ?_
  refine lv_iadd hx hb dX12_keep_160 ?_
  refine z_topi (y := (nI ((382 + (16 * k)) + 6))) (nI_add (382 + (16 * k)) 6) ?_
  refine lv_iload_n hx hb dX12_keep_161 rfl (lv_at hl 0 rfl) ?_
  refine lv_iadd hx hb dX12_keep_162 ?_
  refine z_topi (y := (nI (((382 + (16 * k)) + 6) + 4))) (nI_add ((382 + (16 * k)) + 6) 4) ?_
  refine lv_aload_n hx hb dX12_keep_163 rfl (lv_at hl 2 rfl) ?_
  refine z_get Z i_X12 hP 0 rfl rfl 0 (by decide) bw_1019 rfl dX12_keep_164 ?_
  refine lv_bipush (v := 24) hx hb dX12_keep_167 (by decide) ?_
  refine lv_iload_n hx hb dX12_keep_169 rfl (lv_at hl 0 rfl) ?_
  refine lv_iadd hx hb dX12_keep_170 ?_
  refine z_topi (y := 28) (by decide) ?_
  refine z_iald Z hP 1 0 rfl rfl (vin (by decide)) dX12_keep_171 ?_
  refine lv_topi (fun z31 ez31 => ?_)
  refine z_iast Z hP hD hS 1 0 rfl rfl (vp_in_nI (by (try simp only [zlt, zle, zeq, zl_0, zl_1, zl_2, zl_3, zl_4, zl_5, zl_6, zl_7, zl_8, zl_9, zl_10, zl_11, zl_12, zl_13, zl_19, zl_20, zl_30, zl_64, zl_99, zl_100, zl_299, zl_300, zl_399, zl_999, zl_9999, zl_m1, zl_m2, zl_m3, zl_32, zl_280, zl_862, zl_464, zl_82, zl_382, zl_398, zl_400000000, zl_63] at c1 c2 c5 c8 c11 c18 c21 c24 c27 c30 ⊢); omega) (by omega)) dX12_keep_172 (fun H locs hP hD hS => ?_)
  rw [nI_clamp (by omega)] at hP hD
  obtain ⟨g32, hg32⟩ : ∃ g9, g9 = upd g29 (((382 + (16 * k)) + 6) + 4) z31 := ⟨_, rfl⟩
  rw [← hg32] at hP hD
  have hP : va_P D vwCl ([(q, .inr (12, [.ref aA, .ref aI, .ref aT, .ref aP, .int 0, .int (-1), .int (-1), .int 0, .int 0, .int 0, .int 0, .long 0, .int 0, .int 0, .int 0, .int 0, .ref pI, .int 0, .int 0, .int 0, .int 0, .int 0, .ref nM, .ref vA, .ref tR, .int 0, .int 0, .int 0, .ref rW, .ref sP, .ref oA, .ref bS, .ref aS, .ref aO, .ref cS, .ref wY])), (aA, .inl (cI, 862, .inl g32))]) H := hP
  have hD : va_D A ([(q, .inr (12, [.ref aA, .ref aI, .ref aT, .ref aP, .int 0, .int (-1), .int (-1), .int 0, .int 0, .int 0, .int 0, .long 0, .int 0, .int 0, .int 0, .int 0, .ref pI, .int 0, .int 0, .int 0, .int 0, .int 0, .ref nM, .ref vA, .ref tR, .int 0, .int 0, .int 0, .ref rW, .ref sP, .ref oA, .ref bS, .ref aS, .ref aO, .ref cS, .ref wY])), (aA, .inl (cI, 862, .inl g32))]) := hD
  have h3 : g32 3 = (f 3) := by rw [hg32]; exact (pk_un (by omega)).trans h3
  have h8 : g32 8 = (nI k) := by rw [hg32]; exact (pk_un (by omega)).trans h8
  refine lv_iinc (v := 5) (lv' := [(2, .int 5), (1, .int (nI (382 + (16 * k)))), (0, .ref q)]) hx hb dX12_keep_173 hl (k := 0) rfl (by decide) (by decide) rfl (fun ls hl => ?_)
  refine lv_goto (tgt := 147) hx hb dX12_keep_176 (by decide) ?_
  refine lv_iload_n hx hb dX12_keep_147 rfl (lv_at hl 0 rfl) ?_
  refine lv_bipush (v := 10) hx hb dX12_keep_148 (by decide) ?_
  refine lv_icmp_ge (tgt := 179) hx hb dX12_keep_150 (by decide) (fun h => absurd h (by decide)) (fun c33 => ?_)
  refine lv_aload_n hx hb dX12_keep_153 rfl (lv_at hl 2 rfl) ?_
  refine z_get Z i_X12 hP 0 rfl rfl 0 (by decide) bw_1019 rfl dX12_keep_154 ?_
  refine lv_iload_n hx hb dX12_keep_157 rfl (lv_at hl 1 rfl) ?_
  refine lv_bipush (v := 6) hx hb dX12_keep_158 (by decide) ?_
  refine lv_iadd hx hb dX12_keep_160 ?_
  refine z_topi (y := (nI ((382 + (16 * k)) + 6))) (nI_add (382 + (16 * k)) 6) ?_
  refine lv_iload_n hx hb dX12_keep_161 rfl (lv_at hl 0 rfl) ?_
  refine lv_iadd hx hb dX12_keep_162 ?_
  refine z_topi (y := (nI (((382 + (16 * k)) + 6) + 5))) (nI_add ((382 + (16 * k)) + 6) 5) ?_
  refine lv_aload_n hx hb dX12_keep_163 rfl (lv_at hl 2 rfl) ?_
  refine z_get Z i_X12 hP 0 rfl rfl 0 (by decide) bw_1019 rfl dX12_keep_164 ?_
  refine lv_bipush (v := 24) hx hb dX12_keep_167 (by decide) ?_
  refine lv_iload_n hx hb dX12_keep_169 rfl (lv_at hl 0 rfl) ?_
  refine lv_iadd hx hb dX12_keep_170 ?_
  refine z_topi (y := 29) (by decide) ?_
  refine z_iald Z hP 1 0 rfl rfl (vin (by decide)) dX12_keep_171 ?_
  refine lv_topi (fun z34 ez34 => ?_)
  refine z_iast Z hP hD hS 1 0 rfl rfl (vp_in_nI (by (try simp only [zlt, zle, zeq, zl_0, zl_1, zl_2, zl_3, zl_4, zl_5, zl_6, zl_7, zl_8, zl_9, zl_10, zl_11, zl_12, zl_13, zl_19, zl_20, zl_30, zl_64, zl_99, zl_100, zl_299, zl_300, zl_399, zl_999, zl_9999, zl_m1, zl_m2, zl_m3, zl_32, zl_280, zl_862, zl_464, zl_82, zl_382, zl_398, zl_400000000, zl_63] at c1 c2 c5 c8 c11 c18 c21 c24 c27 c30 c33 ⊢); omega) (by omega)) dX12_keep_172 (fun H locs hP hD hS => ?_)
  rw [nI_clamp (by omega)] at hP hD
  obtain ⟨g35, hg35⟩ : ∃ g9, g9 = upd g32 (((382 + (16 * k)) + 6) + 5) z34 := ⟨_, rfl⟩
  rw [← hg35] at hP hD
  have hP : va_P D vwCl ([(q, .inr (12, [.ref aA, .ref aI, .ref aT, .ref aP, .int 0, .int (-1), .int (-1), .int 0, .int 0, .int 0, .int 0, .long 0, .int 0, .int 0, .int 0, .int 0, .ref pI, .int 0, .int 0, .int 0, .int 0, .int 0, .ref nM, .ref vA, .ref tR, .int 0, .int 0, .int 0, .ref rW, .ref sP, .ref oA, .ref bS, .ref aS, .ref aO, .ref cS, .ref wY])), (aA, .inl (cI, 862, .inl g35))]) H := hP
  have hD : va_D A ([(q, .inr (12, [.ref aA, .ref aI, .ref aT, .ref aP, .int 0, .int (-1), .int (-1), .int 0, .int 0, .int 0, .int 0, .long 0, .int 0, .int 0, .int 0, .int 0, .ref pI, .int 0, .int 0, .int 0, .int 0, .int 0, .ref nM, .ref vA, .ref tR, .int 0, .int 0, .int 0, .ref rW, .ref sP, .ref oA, .ref bS, .ref aS, .ref aO, .ref cS, .ref wY])), (aA, .inl (cI, 862, .inl g35))]) := hD
  have h3 : g35 3 = (f 3) := by rw [hg35]; exact (pk_un (by omega)).trans h3
  have h8 : g35 8 = (nI k) := by rw [hg35]; exact (pk_un (by omega)).trans h8
  refine lv_iinc (v := 6) (lv' := [(2, .int 6), (1, .int (nI (382 + (16 * k)))), (0, .ref q)]) hx hb dX12_keep_173 hl (k := 0) rfl (by decide) (by decide) rfl (fun ls hl => ?_)
  refine lv_goto (tgt := 147) hx hb dX12_keep_176 (by decide) ?_
  refine lv_iload_n hx hb dX12_keep_147 rfl (lv_at hl 0 rfl) ?_
  refine lv_bipush (v := 10) hx hb dX12_keep_148 (by decide) ?_
  refine lv_icmp_ge (tgt := 179) hx hb dX12_keep_150 (by decide) (fun h => absurd h (by decide)) (fun c36 => ?_)
  refine lv_aload_n hx hb dX12_keep_153 rfl (lv_at hl 2 rfl) ?_
  refine z_get Z i_X12 hP 0 rfl rfl 0 (by decide) bw_1019 rfl dX12_keep_154 ?_
  refine lv_iload_n hx hb dX12_keep_157 rfl (lv_at hl 1 rfl) ?_
  refine lv_bipush (v := 6) hx hb dX12_keep_158 (by decide) ?_
  refine lv_iadd hx hb dX12_keep_160 ?_
  refine z_topi (y := (nI ((382 + (16 * k)) + 6))) (nI_add (382 + (16 * k)) 6) ?_
  refine lv_iload_n hx hb dX12_keep_161 rfl (lv_at hl 0 rfl) ?_
  refine lv_iadd hx hb dX12_keep_162 ?_
  refine z_topi (y := (nI (((382 + (16 * k)) + 6) + 6))) (nI_add ((382 + (16 * k)) + 6) 6) ?_
  refine lv_aload_n hx hb dX12_keep_163 rfl (lv_at hl 2 rfl) ?_
  refine z_get Z i_X12 hP 0 rfl rfl 0 (by decide) bw_1019 rfl dX12_keep_164 ?_
  refine lv_bipush (v := 24) hx hb dX12_keep_167 (by decide) ?_
  refine lv_iload_n hx hb dX12_keep_169 rfl (lv_at hl 0 rfl) ?_
  refine lv_iadd hx hb dX12_keep_170 ?_
  refine z_topi (y := 30) (by decide) ?_
  refine z_iald Z hP 1 0 rfl rfl (vin (by decide)) dX12_keep_171 ?_
  refine lv_topi (fun z37 ez37 => ?_)
  refine z_iast Z hP hD hS 1 0 rfl rfl (vp_in_nI (by (try simp only [zlt, zle, zeq, zl_0, zl_1, zl_2, zl_3, zl_4, zl_5, zl_6, zl_7, zl_8, zl_9, zl_10, zl_11, zl_12, zl_13, zl_19, zl_20, zl_30, zl_64, zl_99, zl_100, zl_299, zl_300, zl_399, zl_999, zl_9999, zl_m1, zl_m2, zl_m3, zl_32, zl_280, zl_862, zl_464, zl_82, zl_382, zl_398, zl_400000000, zl_63] at c1 c2 c5 c8 c11 c18 c21 c24 c27 c30 c33 c36 ⊢); omega) (by omega)) dX12_keep_172 (fun H locs hP hD hS => ?_)
  rw [nI_clamp (by omega)] at hP hD
  obtain ⟨g38, hg38⟩ : ∃ g9, g9 = upd g35 (((382 + (16 * k)) + 6) + 6) z37 := ⟨_, rfl⟩
  rw [← hg38] at hP hD
  have hP : va_P D vwCl ([(q, .inr (12, [.ref aA, .ref aI, .ref aT, .ref aP, .int 0, .int (-1), .int (-1), .int 0, .int 0, .int 0, .int 0, .long 0, .int 0, .int 0, .int 0, .int 0, .ref pI, .int 0, .int 0, .int 0, .int 0, .int 0, .ref nM, .ref vA, .ref tR, .int 0, .int 0, .int 0, .ref rW, .ref sP, .ref oA, .ref bS, .ref aS, .ref aO, .ref cS, .ref wY])), (aA, .inl (cI, 862, .inl g38))]) H := hP
  have hD : va_D A ([(q, .inr (12, [.ref aA, .ref aI, .ref aT, .ref aP, .int 0, .int (-1), .int (-1), .int 0, .int 0, .int 0, .int 0, .long 0, .int 0, .int 0, .int 0, .int 0, .ref pI, .int 0, .int 0, .int 0, .int 0, .int 0, .ref nM, .ref vA, .ref tR, .int 0, .int 0, .int 0, .ref rW, .ref sP, .ref oA, .ref bS, .ref aS, .ref aO, .ref cS, .ref wY])), (aA, .inl (cI, 862, .inl g38))]) := hD
  have h3 : g38 3 = (f 3) := by rw [hg38]; exact (pk_un (by omega)).trans h3
  have h8 : g38 8 = (nI k) := by rw [hg38]; exact (pk_un (by omega)).trans h8
  refine lv_iinc (v := 7) (lv' := [(2, .int 7), (1, .int (nI (382 + (16 * k)))), (0, .ref q)]) hx hb dX12_keep_173 hl (k := 0) rfl (by decide) (by decide) rfl (fun ls hl => ?_)
  refine lv_goto (tgt := 147) hx hb dX12_keep_176 (by decide) ?_
  refine lv_iload_n hx hb dX12_keep_147 rfl (lv_at hl 0 rfl) ?_
  refine lv_bipush (v := 10) hx hb dX12_keep_148 (by decide) ?_
  refine lv_icmp_ge (tgt := 179) hx hb dX12_keep_150 (by decide) (fun h => absurd h (by decide)) (fun c39 => ?_)
  refine lv_aload_n hx hb dX12_keep_153 rfl (lv_at hl 2 rfl) ?_
  refine z_get Z i_X12 hP 0 rfl rfl 0 (by decide) bw_1019 rfl dX12_keep_154 ?_
  refine lv_iload_n hx hb dX12_keep_157 rfl (lv_at hl 1 rfl) ?_
  refine lv_bipush (v := 6) hx hb dX12_keep_158 (by decide) ?_
  refine lv_iadd hx hb dX12_keep_160 ?_
  refine z_topi (y := (nI ((382 + (16 * k)) + 6))) (nI_add (382 + (16 * k)) 6) ?_
  refine lv_iload_n hx hb dX12_keep_161 rfl (lv_at hl 0 rfl) ?_
  refine lv_iadd hx hb dX12_keep_162 ?_
  refine z_topi (y := (nI (((382 + (16 * k)) + 6) + 7))) (nI_add ((382 + (16 * k)) + 6) 7) ?_
  refine lv_aload_n hx hb dX12_keep_163 rfl (lv_at hl 2 rfl) ?_
  refine z_get Z i_X12 hP 0 rfl rfl 0 (by decide) bw_1019 rfl dX12_keep_164 ?_
  refine lv_bipush (v := 24) hx hb dX12_keep_167 (by decide) ?_
  refine lv_iload_n hx hb dX12_keep_169 rfl (lv_at hl 0 rfl) ?_
  refine lv_iadd hx hb dX12_keep_170 ?_
  refine z_topi (y := 31) (by decide) ?_
  refine z_iald Z hP 1 0 rfl rfl (vin (by decide)) dX12_keep_171 ?_
  refine lv_topi (fun z40 ez40 => ?_)
  refine z_iast Z hP hD hS 1 0 rfl rfl (vp_in_nI (by (try simp only [zlt, zle, zeq, zl_0, zl_1, zl_2, zl_3, zl_4, zl_5, zl_6, zl_7, zl_8, zl_9, zl_10, zl_11, zl_12, zl_13, zl_19, zl_20, zl_30, zl_64, zl_99, zl_100, zl_299, zl_300, zl_399, zl_999, zl_9999, zl_m1, zl_m2, zl_m3, zl_32, zl_280, zl_862, zl_464, zl_82, zl_382, zl_398, zl_400000000, zl_63] at c1 c2 c5 c8 c11 c18 c21 c24 c27 c30 c33 c36 c39 ⊢); omega) (by omega)) dX12_keep_172 (fun H locs hP hD hS => ?_)
  rw [nI_clamp (by omega)] at hP hD
  obtain ⟨g41, hg41⟩ : ∃ g9, g9 = upd g38 (((382 + (16 * k)) + 6) + 7) z40 := ⟨_, rfl⟩
  rw [← hg41] at hP hD
  have hP : va_P D vwCl ([(q, .inr (12, [.ref aA, .ref aI, .ref aT, .ref aP, .int 0, .int (-1), .int (-1), .int 0, .int 0, .int 0, .int 0, .long 0, .int 0, .int 0, .int 0, .int 0, .ref pI, .int 0, .int 0, .int 0, .int 0, .int 0, .ref nM, .ref vA, .ref tR, .int 0, .int 0, .int 0, .ref rW, .ref sP, .ref oA, .ref bS, .ref aS, .ref aO, .ref cS, .ref wY])), (aA, .inl (cI, 862, .inl g41))]) H := hP
  have hD : va_D A ([(q, .inr (12, [.ref aA, .ref aI, .ref aT, .ref aP, .int 0, .int (-1), .int (-1), .int 0, .int 0, .int 0, .int 0, .long 0, .int 0, .int 0, .int 0, .int 0, .ref pI, .int 0, .int 0, .int 0, .int 0, .int 0, .ref nM, .ref vA, .ref tR, .int 0, .int 0, .int 0, .ref rW, .ref sP, .ref oA, .ref bS, .ref aS, .ref aO, .ref cS, .ref wY])), (aA, .inl (cI, 862, .inl g41))]) := hD
  have h3 : g41 3 = (f 3) := by rw [hg41]; exact (pk_un (by omega)).trans h3
  have h8 : g41 8 = (nI k) := by rw [hg41]; exact (pk_un (by omega)).trans h8
  refine lv_iinc (v := 8) (lv' := [(2, .int 8), (1, .int (nI (382 + (16 * k)))), (0, .ref q)]) hx hb dX12_keep_173 hl (k := 0) rfl (by decide) (by decide) rfl (fun ls hl => ?_)
  refine lv_goto (tgt := 147) hx hb dX12_keep_176 (by decide) ?_
  refine lv_iload_n hx hb dX12_keep_147 rfl (lv_at hl 0 rfl) ?_
  refine lv_bipush (v := 10) hx hb dX12_keep_148 (by decide) ?_
  refine lv_icmp_ge (tgt := 179) hx hb dX12_keep_150 (by decide) (fun h => absurd h (by decide)) (fun c42 => ?_)
  refine lv_aload_n hx hb dX12_keep_153 rfl (lv_at hl 2 rfl) ?_
  refine z_get Z i_X12 hP 0 rfl rfl 0 (by decide) bw_1019 rfl dX12_keep_154 ?_
  refine lv_iload_n hx hb dX12_keep_157 rfl (lv_at hl 1 rfl) ?_
  refine lv_bipush (v := 6) hx hb dX12_keep_158 (by decide) ?_
  refine lv_iadd hx hb dX12_keep_160 ?_
  refine z_topi (y := (nI ((382 + (16 * k)) + 6))) (nI_add (382 + (16 * k)) 6) ?_
  refine lv_iload_n hx hb dX12_keep_161 rfl (lv_at hl 0 rfl) ?_
  refine lv_iadd hx hb dX12_keep_162 ?_
  refine z_topi (y := (nI (((382 + (16 * k)) + 6) + 8))) (nI_add ((382 + (16 * k)) + 6) 8) ?_
  refine lv_aload_n hx hb dX12_keep_163 rfl (lv_at hl 2 rfl) ?_
  refine z_get Z i_X12 hP 0 rfl rfl 0 (by decide) bw_1019 rfl dX12_keep_164 ?_
  refine lv_bipush (v := 24) hx hb dX12_keep_167 (by decide) ?_
  refine lv_iload_n hx hb dX12_keep_169 rfl (lv_at hl 0 rfl) ?_
  refine lv_iadd hx hb dX12_keep_170 ?_
  refine z_topi (y := 32) (by decide) ?_
  refine z_iald Z hP 1 0 rfl rfl (vin (by decide)) dX12_keep_171 ?_
  refine lv_topi (fun z43 ez43 => ?_)
  refine z_iast Z hP hD hS 1 0 rfl rfl (vp_in_nI (by (try simp only [zlt, zle, zeq, zl_0, zl_1, zl_2, zl_3, zl_4, zl_5, zl_6, zl_7, zl_8, zl_9, zl_10, zl_11, zl_12, zl_13, zl_19, zl_20, zl_30, zl_64, zl_99, zl_100, zl_299, zl_300, zl_399, zl_999, zl_9999, zl_m1, zl_m2, zl_m3, zl_32, zl_280, zl_862, zl_464, zl_82, zl_382, zl_398, zl_400000000, zl_63] at c1 c2 c5 c8 c11 c18 c21 c24 c27 c30 c33 c36 c39 c42 ⊢); omega) (by omega)) dX12_keep_172 (fun H locs hP hD hS => ?_)
  rw [nI_clamp (by omega)] at hP hD
  obtain ⟨g44, hg44⟩ : ∃ g9, g9 = upd g41 (((382 + (16 * k)) + 6) + 8) z43 := ⟨_, rfl⟩
  rw [← hg44] at hP hD
  have hP : va_P D vwCl ([(q, .inr (12, [.ref aA, .ref aI, .ref aT, .ref aP, .int 0, .int (-1), .int (-1), .int 0, .int 0, .int 0, .int 0, .long 0, .int 0, .int 0, .int 0, .int 0, .ref pI, .int 0, .int 0, .int 0, .int 0, .int 0, .ref nM, .ref vA, .ref tR, .int 0, .int 0, .int 0, .ref rW, .ref sP, .ref oA, .ref bS, .ref aS, .ref aO, .ref cS, .ref wY])), (aA, .inl (cI, 862, .inl g44))]) H := hP
  have hD : va_D A ([(q, .inr (12, [.ref aA, .ref aI, .ref aT, .ref aP, .int 0, .int (-1), .int (-1), .int 0, .int 0, .int 0, .int 0, .long 0, .int 0, .int 0, .int 0, .int 0, .ref pI, .int 0, .int 0, .int 0, .int 0, .int 0, .ref nM, .ref vA, .ref tR, .int 0, .int 0, .int 0, .ref rW, .ref sP, .ref oA, .ref bS, .ref aS, .ref aO, .ref cS, .ref wY])), (aA, .inl (cI, 862, .inl g44))]) := hD
  have h3 : g44 3 = (f 3) := by rw [hg44]; exact (pk_un (by omega)).trans h3
  have h8 : g44 8 = (nI k) := by rw [hg44]; exact (pk_un (by omega)).trans h8
  refine lv_iinc (v := 9) (lv' := [(2, .int 9), (1, .int (nI (382 + (16 * k)))), (0, .ref q)]) hx hb dX12_keep_173 hl (k := 0) rfl (by decide) (by decide) rfl (fun ls hl => ?_)
  refine lv_goto (tgt := 147) hx hb dX12_keep_176 (by decide) ?_
  refine lv_iload_n hx hb dX12_keep_147 rfl (lv_at hl 0 rfl) ?_
  refine lv_bipush (v := 10) hx hb dX12_keep_148 (by decide) ?_
  refine lv_icmp_ge (tgt := 179) hx hb dX12_keep_150 (by decide) (fun h => absurd h (by decide)) (fun c45 => ?_)
  refine lv_aload_n hx hb dX12_keep_153 rfl (lv_at hl 2 rfl) ?_
  refine z_get Z i_X12 hP 0 rfl rfl 0 (by decide) bw_1019 rfl dX12_keep_154 ?_
  refine lv_iload_n hx hb dX12_keep_157 rfl (lv_at hl 1 rfl) ?_
  refine lv_bipush (v := 6) hx hb dX12_keep_158 (by decide) ?_
  refine lv_iadd hx hb dX12_keep_160 ?_
  refine z_topi (y := (nI ((382 + (16 * k)) + 6))) (nI_add (382 + (16 * k)) 6) ?_
  refine lv_iload_n hx hb dX12_keep_161 rfl (lv_at hl 0 rfl) ?_
  refine lv_iadd hx hb dX12_keep_162 ?_
  refine z_topi (y := (nI (((382 + (16 * k)) + 6) + 9))) (nI_add ((382 + (16 * k)) + 6) 9) ?_
  refine lv_aload_n hx hb dX12_keep_163 rfl (lv_at hl 2 rfl) ?_
  refine z_get Z i_X12 hP 0 rfl rfl 0 (by decide) bw_1019 rfl dX12_keep_164 ?_
  refine lv_bipush (v := 24) hx hb dX12_keep_167 (by decide) ?_
  refine lv_iload_n hx hb dX12_keep_169 rfl (lv_at hl 0 rfl) ?_
  refine lv_iadd hx hb dX12_keep_170 ?_
  refine z_topi (y := 33) (by decide) ?_
  refine z_iald Z hP 1 0 rfl rfl (vin (by decide)) dX12_keep_171 ?_
  refine lv_topi (fun z46 ez46 => ?_)
  refine z_iast Z hP hD hS 1 0 rfl rfl (vp_in_nI (by (try simp only [zlt, zle, zeq, zl_0, zl_1, zl_2, zl_3, zl_4, zl_5, zl_6, zl_7, zl_8, zl_9, zl_10, zl_11, zl_12, zl_13, zl_19, zl_20, zl_30, zl_64, zl_99, zl_100, zl_299, zl_300, zl_399, zl_999, zl_9999, zl_m1, zl_m2, zl_m3, zl_32, zl_280, zl_862, zl_464, zl_82, zl_382, zl_398, zl_400000000, zl_63] at c1 c2 c5 c8 c11 c18 c21 c24 c27 c30 c33 c36 c39 c42 c45 ⊢); omega) (by omega)) dX12_keep_172 (fun H locs hP hD hS => ?_)
  rw [nI_clamp (by omega)] at hP hD
  obtain ⟨g47, hg47⟩ : ∃ g9, g9 = upd g44 (((382 + (16 * k)) + 6) + 9) z46 := ⟨_, rfl⟩
  rw [← hg47] at hP hD
  have hP : va_P D vwCl ([(q, .inr (12, [.ref aA, .ref aI, .ref aT, .ref aP, .int 0, .int (-1), .int (-1), .int 0, .int 0, .int 0, .int 0, .long 0, .int 0, .int 0, .int 0, .int 0, .ref pI, .int 0, .int 0, .int 0, .int 0, .int 0, .ref nM, .ref vA, .ref tR, .int 0, .int 0, .int 0, .ref rW, .ref sP, .ref oA, .ref bS, .ref aS, .ref aO, .ref cS, .ref wY])), (aA, .inl (cI, 862, .inl g47))]) H := hP
  have hD : va_D A ([(q, .inr (12, [.ref aA, .ref aI, .ref aT, .ref aP, .int 0, .int (-1), .int (-1), .int 0, .int 0, .int 0, .int 0, .long 0, .int 0, .int 0, .int 0, .int 0, .ref pI, .int 0, .int 0, .int 0, .int 0, .int 0, .ref nM, .ref vA, .ref tR, .int 0, .int 0, .int 0, .ref rW, .ref sP, .ref oA, .ref bS, .ref aS, .ref aO, .ref cS, .ref wY])), (aA, .inl (cI, 862, .inl g47))]) := hD
  have h3 : g47 3 = (f 3) := by rw [hg47]; exact (pk_un (by omega)).trans h3
  have h8 : g47 8 = (nI k) := by rw [hg47]; exact (pk_un (by omega)).trans h8
  refine lv_iinc (v := 10) (lv' := [(2, .int 10), (1, .int (nI (382 + (16 * k)))), (0, .ref q)]) hx hb dX12_keep_173 hl (k := 0) rfl (by decide) (by decide) rfl (fun ls hl => ?_)
  refine lv_goto (tgt := 147) hx hb dX12_keep_176 (by decide) ?_
  refine lv_iload_n hx hb dX12_keep_147 rfl (lv_at hl 0 rfl) ?_
  refine lv_bipush (v := 10) hx hb dX12_keep_148 (by decide) ?_
  refine lv_icmp_ge (tgt := 179) hx hb dX12_keep_150 (by decide) (fun c48 => ?_) (fun h => absurd (by decide) h)
  refine lv_aload_n hx hb dX12_keep_179 rfl (lv_at hl 2 rfl) ?_
  refine z_get Z i_X12 hP 0 rfl rfl 0 (by decide) bw_1019 rfl dX12_keep_180 ?_
  refine lv_bipush (v := 8) hx hb dX12_keep_183 (by decide) ?_
  refine lv_dup2_11 hx hb dX12_keep_185 rfl rfl ?_
  refine z_iald Z hP 1 0 rfl rfl (vin (by decide)) dX12_keep_186 ?_
  refine z_topi (y := (nI k)) h8 ?_
  refine lv_iconst (v := 1) hx hb dX12_keep_187 (by decide) ?_
  refine lv_iadd hx hb dX12_keep_188 ?_
  refine z_topi (y := (nI (k + 1))) (nI_add k 1) ?_
  refine z_iast Z hP hD hS 1 0 rfl rfl (vin (by decide)) dX12_keep_189 (fun H locs hP hD hS => ?_)
  obtain ⟨g49, hg49⟩ : ∃ g9, g9 = upd g47 (8 : Int32).toNatClampNeg (nI (k + 1)) := ⟨_, rfl⟩
  rw [← hg49] at hP hD
  have hP : va_P D vwCl ([(q, .inr (12, [.ref aA, .ref aI, .ref aT, .ref aP, .int 0, .int (-1), .int (-1), .int 0, .int 0, .int 0, .int 0, .long 0, .int 0, .int 0, .int 0, .int 0, .ref pI, .int 0, .int 0, .int 0, .int 0, .int 0, .ref nM, .ref vA, .ref tR, .int 0, .int 0, .int 0, .ref rW, .ref sP, .ref oA, .ref bS, .ref aS, .ref aO, .ref cS, .ref wY])), (aA, .inl (cI, 862, .inl g49))]) H := hP
  have hD : va_D A ([(q, .inr (12, [.ref aA, .ref aI, .ref aT, .ref aP, .int 0, .int (-1), .int (-1), .int 0, .int 0, .int 0, .int 0, .long 0, .int 0, .int 0, .int 0, .int 0, .ref pI, .int 0, .int 0, .int 0, .int 0, .int 0, .ref nM, .ref vA, .ref tR, .int 0, .int 0, .int 0, .ref rW, .ref sP, .ref oA, .ref bS, .ref aS, .ref aO, .ref cS, .ref wY])), (aA, .inl (cI, 862, .inl g49))]) := hD
  have h3 : g49 3 = (f 3) := by rw [hg49]; exact (pk_un (by decide)).trans h3
  have h8 : g49 8 = (nI (k + 1)) := by rw [hg49]; exact pk_us
  exact z_vret Z hP hD hS (⟨_, rfl, h3, h8⟩) dX12_keep_190 (Nat.le_of_ble_eq_true rfl) (Nat.le_of_ble_eq_true rfl)
set_option maxHeartbeats 4000000 in
set_option maxRecDepth 100000 in
theorem lp_X12_keep {p : Program} (l : Launch) {e : Env} {s : State} {m : MethodId} {below : List Frame} {meth : Method} {c : Code} {A : Nat → Prop} (D : va_G) (cI cM cT : ClassId) (q : Nat) (aA : Nat) (aI : Nat) (aT : Nat) (aP : Nat) (pI : Nat) (nM : Nat) (vA : Nat) (tR : Nat) (rW : Nat) (sP : Nat) (oA : Nat) (bS : Nat) (aS : Nat) (aO : Nat) (cS : Nat) (wY : Nat) (f : Nat → Int32) (Z : Zx p s m ([.ref q] : List Value).toArray meth c cX12_keep 3 none yX12_keep.cls A (ty3 cI cM cT) D) (hf8 : f 8 = 30) : ∀ (n0 : Nat) (i : Nat) (g0 : Nat → Int32) (h0 : i ≤ 464) (h3 : g0 3 = (f 3)) (h8 : g0 8 = 30), 464 - i < n0 → ∀ (H : Heap) (locs : List Loc) (ls : Array Slot), va_P D vwCl ([(q, .inr (12, [.ref aA, .ref aI, .ref aT, .ref aP, .int 0, .int (-1), .int (-1), .int 0, .int 0, .int 0, .int 0, .long 0, .int 0, .int 0, .int 0, .int 0, .ref pI, .int 0, .int 0, .int 0, .int 0, .int 0, .ref nM, .ref vA, .ref tR, .int 0, .int 0, .int 0, .ref rW, .ref sP, .ref oA, .ref bS, .ref aS, .ref aO, .ref cS, .ref wY])), (aA, .inl (cI, 862, .inl g0))]) H → va_D A ([(q, .inr (12, [.ref aA, .ref aI, .ref aT, .ref aP, .int 0, .int (-1), .int (-1), .int 0, .int 0, .int 0, .int 0, .long 0, .int 0, .int 0, .int 0, .int 0, .ref pI, .int 0, .int 0, .int 0, .int 0, .int 0, .ref nM, .ref vA, .ref tR, .int 0, .int 0, .int 0, .ref rW, .ref sP, .ref oA, .ref bS, .ref aS, .ref aO, .ref cS, .ref wY])), (aA, .inl (cI, 862, .inl g0))]) → va_S A s.heap H locs → lv_has ls 3 [(0, .ref q), (1, .int (nI i))] → W p l e (rmv 0 0 0) s m ([.ref q] : List Value).toArray below meth c H locs 0 0 (MQ below (va_Qv (fun u => ∃ (g : Nat → Int32), u = [(q, .inr (12, [.ref aA, .ref aI, .ref aT, .ref aP, .int 0, .int (-1), .int (-1), .int 0, .int 0, .int 0, .int 0, .long 0, .int 0, .int 0, .int 0, .int 0, .ref pI, .int 0, .int 0, .int 0, .int 0, .int 0, .ref nM, .ref vA, .ref tR, .int 0, .int 0, .int 0, .ref rW, .ref sP, .ref oA, .ref bS, .ref aS, .ref aO, .ref cS, .ref wY])), (aA, .inl (cI, 862, .inl g))] ∧ g 3 = f 3 ∧ g 8 = 30) (cB D (ty3 cI cM cT) A) A) ([.ref q] : List Value).toArray s 0 0 A) (F0 m 14 ls []) := by
  have hx := Z.1
  have hb := Z.2.1
  intro n0
  induction n0 with
  | zero => intro i g0 h0 h3 h8 hm; exact absurd hm (Nat.not_lt_zero _)
  | succ n0 ih =>
    intro i g0 h0 h3 h8 hm H locs ls hP hD hS hl
    have ei : (nI i).toInt = (i : Int) := nI_toInt (by omega)
    refine lv_iload_n hx hb dX12_keep_14 rfl (lv_at hl 1 rfl) ?_
    refine lv_sipush (v := 464) hx hb dX12_keep_15 (by decide) ?_
    refine lv_icmp_ge (tgt := 47) hx hb dX12_keep_18 (by decide) (fun c1 => ?_) (fun c1 => ?_)
    · refine lv_aload_n hx hb dX12_keep_47 rfl (lv_at hl 0 rfl) ?_
      refine z_get Z i_X12 hP 0 rfl rfl 0 (by decide) bw_1019 rfl dX12_keep_48 ?_
      refine lv_bipush (v := 8) hx hb dX12_keep_51 (by decide) ?_
      refine lv_dup2_11 hx hb dX12_keep_53 rfl rfl ?_
      refine z_iald Z hP 1 0 rfl rfl (vin (by decide)) dX12_keep_54 ?_
      refine z_topi (y := 30) h8 ?_
      refine lv_iconst (v := 1) hx hb dX12_keep_55 (by decide) ?_
      refine lv_isub hx hb dX12_keep_56 ?_
      refine z_topi (y := 29) (by decide) ?_
      refine z_iast Z hP hD hS 1 0 rfl rfl (vin (by decide)) dX12_keep_57 (fun H locs hP hD hS => ?_)
      obtain ⟨g2, hg2⟩ : ∃ g9, g9 = upd g0 (8 : Int32).toNatClampNeg 29 := ⟨_, rfl⟩
      rw [← hg2] at hP hD
      have hP : va_P D vwCl ([(q, .inr (12, [.ref aA, .ref aI, .ref aT, .ref aP, .int 0, .int (-1), .int (-1), .int 0, .int 0, .int 0, .int 0, .long 0, .int 0, .int 0, .int 0, .int 0, .ref pI, .int 0, .int 0, .int 0, .int 0, .int 0, .ref nM, .ref vA, .ref tR, .int 0, .int 0, .int 0, .ref rW, .ref sP, .ref oA, .ref bS, .ref aS, .ref aO, .ref cS, .ref wY])), (aA, .inl (cI, 862, .inl g2))]) H := hP
      have hD : va_D A ([(q, .inr (12, [.ref aA, .ref aI, .ref aT, .ref aP, .int 0, .int (-1), .int (-1), .int 0, .int 0, .int 0, .int 0, .long 0, .int 0, .int 0, .int 0, .int 0, .ref pI, .int 0, .int 0, .int 0, .int 0, .int 0, .ref nM, .ref vA, .ref tR, .int 0, .int 0, .int 0, .ref rW, .ref sP, .ref oA, .ref bS, .ref aS, .ref aO, .ref cS, .ref wY])), (aA, .inl (cI, 862, .inl g2))]) := hD
      have h3 : g2 3 = (f 3) := by rw [hg2]; exact (pk_un (by decide)).trans h3
      have h8 : g2 8 = 29 := by rw [hg2]; exact pk_us
      refine lv_sipush (v := 382) hx hb dX12_keep_58 (by decide) ?_
      refine lv_bipush (v := 16) hx hb dX12_keep_61 (by decide) ?_
      refine lv_aload_n hx hb dX12_keep_63 rfl (lv_at hl 0 rfl) ?_
      refine z_get Z i_X12 hP 0 rfl rfl 0 (by decide) bw_1019 rfl dX12_keep_64 ?_
      refine lv_bipush (v := 8) hx hb dX12_keep_67 (by decide) ?_
      refine z_iald Z hP 1 0 rfl rfl (vin (by decide)) dX12_keep_69 ?_
      refine z_topi (y := 29) h8 ?_
      refine lv_imul hx hb dX12_keep_70 ?_
      refine z_topi (y := 464) (by decide) ?_
      refine lv_iadd hx hb dX12_keep_71 ?_
      refine z_topi (y := 846) (by decide) ?_
      refine lv_istore_n (lv' := [(1, .int 846), (0, .ref q)]) hx hb dX12_keep_72 rfl hl (by decide) rfl (fun ls hl => ?_)
      refine lv_iconst (v := 0) hx hb dX12_keep_73 (by decide) ?_
      refine lv_istore_n (lv' := [(2, .int 0), (1, .int 846), (0, .ref q)]) hx hb dX12_keep_74 rfl hl (by decide) rfl (fun ls hl => ?_)
      refine lv_iload_n hx hb dX12_keep_75 rfl (lv_at hl 0 rfl) ?_
      refine lv_iconst (v := 3) hx hb dX12_keep_76 (by decide) ?_
      refine lv_icmp_ge (tgt := 103) hx hb dX12_keep_77 (by decide) (fun h => absurd h (by decide)) (fun c3 => ?_)
      refine lv_aload_n hx hb dX12_keep_80 rfl (lv_at hl 2 rfl) ?_
      refine z_get Z i_X12 hP 0 rfl rfl 0 (by decide) bw_1019 rfl dX12_keep_81 ?_
      refine lv_iload_n hx hb dX12_keep_84 rfl (lv_at hl 1 rfl) ?_
      refine lv_iload_n hx hb dX12_keep_85 rfl (lv_at hl 0 rfl) ?_
      refine lv_iadd hx hb dX12_keep_86 ?_
      refine z_topi (y := 846) (by decide) ?_
      refine lv_aload_n hx hb dX12_keep_87 rfl (lv_at hl 2 rfl) ?_
      refine z_get Z i_X12 hP 0 rfl rfl 0 (by decide) bw_1019 rfl dX12_keep_88 ?_
      refine lv_bipush (v := 12) hx hb dX12_keep_91 (by decide) ?_
      refine lv_iload_n hx hb dX12_keep_93 rfl (lv_at hl 0 rfl) ?_
      refine lv_iadd hx hb dX12_keep_94 ?_
      refine z_topi (y := 12) (by decide) ?_
      refine z_iald Z hP 1 0 rfl rfl (vin (by decide)) dX12_keep_95 ?_
      refine lv_topi (fun z4 ez4 => ?_)
      refine z_iast Z hP hD hS 1 0 rfl rfl (vin (by decide)) dX12_keep_96 (fun H locs hP hD hS => ?_)
      obtain ⟨g5, hg5⟩ : ∃ g9, g9 = upd g2 (846 : Int32).toNatClampNeg z4 := ⟨_, rfl⟩
      rw [← hg5] at hP hD
      have hP : va_P D vwCl ([(q, .inr (12, [.ref aA, .ref aI, .ref aT, .ref aP, .int 0, .int (-1), .int (-1), .int 0, .int 0, .int 0, .int 0, .long 0, .int 0, .int 0, .int 0, .int 0, .ref pI, .int 0, .int 0, .int 0, .int 0, .int 0, .ref nM, .ref vA, .ref tR, .int 0, .int 0, .int 0, .ref rW, .ref sP, .ref oA, .ref bS, .ref aS, .ref aO, .ref cS, .ref wY])), (aA, .inl (cI, 862, .inl g5))]) H := hP
      have hD : va_D A ([(q, .inr (12, [.ref aA, .ref aI, .ref aT, .ref aP, .int 0, .int (-1), .int (-1), .int 0, .int 0, .int 0, .int 0, .long 0, .int 0, .int 0, .int 0, .int 0, .ref pI, .int 0, .int 0, .int 0, .int 0, .int 0, .ref nM, .ref vA, .ref tR, .int 0, .int 0, .int 0, .ref rW, .ref sP, .ref oA, .ref bS, .ref aS, .ref aO, .ref cS, .ref wY])), (aA, .inl (cI, 862, .inl g5))]) := hD
      have h3 : g5 3 = (f 3) := by rw [hg5]; exact (pk_un (by decide)).trans h3
      have h8 : g5 8 = 29 := by rw [hg5]; exact (pk_un (by decide)).trans h8
      refine lv_iinc (v := 1) (lv' := [(2, .int 1), (1, .int 846), (0, .ref q)]) hx hb dX12_keep_97 hl (k := 0) rfl (by decide) (by decide) rfl (fun ls hl => ?_)
      refine lv_goto (tgt := 75) hx hb dX12_keep_100 (by decide) ?_
      refine lv_iload_n hx hb dX12_keep_75 rfl (lv_at hl 0 rfl) ?_
      refine lv_iconst (v := 3) hx hb dX12_keep_76 (by decide) ?_
      refine lv_icmp_ge (tgt := 103) hx hb dX12_keep_77 (by decide) (fun h => absurd h (by decide)) (fun c6 => ?_)
      refine lv_aload_n hx hb dX12_keep_80 rfl (lv_at hl 2 rfl) ?_
      refine z_get Z i_X12 hP 0 rfl rfl 0 (by decide) bw_1019 rfl dX12_keep_81 ?_
      refine lv_iload_n hx hb dX12_keep_84 rfl (lv_at hl 1 rfl) ?_
      refine lv_iload_n hx hb dX12_keep_85 rfl (lv_at hl 0 rfl) ?_
      refine lv_iadd hx hb dX12_keep_86 ?_
      refine z_topi (y := 847) (by decide) ?_
      refine lv_aload_n hx hb dX12_keep_87 rfl (lv_at hl 2 rfl) ?_
      refine z_get Z i_X12 hP 0 rfl rfl 0 (by decide) bw_1019 rfl dX12_keep_88 ?_
      refine lv_bipush (v := 12) hx hb dX12_keep_91 (by decide) ?_
      refine lv_iload_n hx hb dX12_keep_93 rfl (lv_at hl 0 rfl) ?_
      refine lv_iadd hx hb dX12_keep_94 ?_
      refine z_topi (y := 13) (by decide) ?_
      refine z_iald Z hP 1 0 rfl rfl (vin (by decide)) dX12_keep_95 ?_
      refine lv_topi (fun z7 ez7 => ?_)
      refine z_iast Z hP hD hS 1 0 rfl rfl (vin (by decide)) dX12_keep_96 (fun H locs hP hD hS => ?_)
      obtain ⟨g8, hg8⟩ : ∃ g9, g9 = upd g5 (847 : Int32).toNatClampNeg z7 := ⟨_, rfl⟩
      rw [← hg8] at hP hD
      have hP : va_P D vwCl ([(q, .inr (12, [.ref aA, .ref aI, .ref aT, .ref aP, .int 0, .int (-1), .int (-1), .int 0, .int 0, .int 0, .int 0, .long 0, .int 0, .int 0, .int 0, .int 0, .ref pI, .int 0, .int 0, .int 0, .int 0, .int 0, .ref nM, .ref vA, .ref tR, .int 0, .int 0, .int 0, .ref rW, .ref sP, .ref oA, .ref bS, .ref aS, .ref aO, .ref cS, .ref wY])), (aA, .inl (cI, 862, .inl g8))]) H := hP
      have hD : va_D A ([(q, .inr (12, [.ref aA, .ref aI, .ref aT, .ref aP, .int 0, .int (-1), .int (-1), .int 0, .int 0, .int 0, .int 0, .long 0, .int 0, .int 0, .int 0, .int 0, .ref pI, .int 0, .int 0, .int 0, .int 0, .int 0, .ref nM, .ref vA, .ref tR, .int 0, .int 0, .int 0, .ref rW, .ref sP, .ref oA, .ref bS, .ref aS, .ref aO, .ref cS, .ref wY])), (aA, .inl (cI, 862, .inl g8))]) := hD
      have h3 : g8 3 = (f 3) := by rw [hg8]; exact (pk_un (by decide)).trans h3
      have h8 : g8 8 = 29 := by rw [hg8]; exact (pk_un (by decide)).trans h8
      refine lv_iinc (v := 2) (lv' := [(2, .int 2), (1, .int 846), (0, .ref q)]) hx hb dX12_keep_97 hl (k := 0) rfl (by decide) (by decide) rfl (fun ls hl => ?_)
      refine lv_goto (tgt := 75) hx hb dX12_keep_100 (by decide) ?_
      refine lv_iload_n hx hb dX12_keep_75 rfl (lv_at hl 0 rfl) ?_
      refine lv_iconst (v := 3) hx hb dX12_keep_76 (by decide) ?_
      refine lv_icmp_ge (tgt := 103) hx hb dX12_keep_77 (by decide) (fun h => absurd h (by decide)) (fun c9 => ?_)
      refine lv_aload_n hx hb dX12_keep_80 rfl (lv_at hl 2 rfl) ?_
      refine z_get Z i_X12 hP 0 rfl rfl 0 (by decide) bw_1019 rfl dX12_keep_81 ?_
      refine lv_iload_n hx hb dX12_keep_84 rfl (lv_at hl 1 rfl) ?_
      refine lv_iload_n hx hb dX12_keep_85 rfl (lv_at hl 0 rfl) ?_
      refine lv_iadd hx hb dX12_keep_86 ?_
      refine z_topi (y := 848) (by decide) ?_
      refine lv_aload_n hx hb dX12_keep_87 rfl (lv_at hl 2 rfl) ?_
      refine z_get Z i_X12 hP 0 rfl rfl 0 (by decide) bw_1019 rfl dX12_keep_88 ?_
      refine lv_bipush (v := 12) hx hb dX12_keep_91 (by decide) ?_
      refine lv_iload_n hx hb dX12_keep_93 rfl (lv_at hl 0 rfl) ?_
      refine lv_iadd hx hb dX12_keep_94 ?_
      refine z_topi (y := 14) (by decide) ?_
      refine z_iald Z hP 1 0 rfl rfl (vin (by decide)) dX12_keep_95 ?_
      refine lv_topi (fun z10 ez10 => ?_)
      refine z_iast Z hP hD hS 1 0 rfl rfl (vin (by decide)) dX12_keep_96 (fun H locs hP hD hS => ?_)
      obtain ⟨g11, hg11⟩ : ∃ g9, g9 = upd g8 (848 : Int32).toNatClampNeg z10 := ⟨_, rfl⟩
      rw [← hg11] at hP hD
      have hP : va_P D vwCl ([(q, .inr (12, [.ref aA, .ref aI, .ref aT, .ref aP, .int 0, .int (-1), .int (-1), .int 0, .int 0, .int 0, .int 0, .long 0, .int 0, .int 0, .int 0, .int 0, .ref pI, .int 0, .int 0, .int 0, .int 0, .int 0, .ref nM, .ref vA, .ref tR, .int 0, .int 0, .int 0, .ref rW, .ref sP, .ref oA, .ref bS, .ref aS, .ref aO, .ref cS, .ref wY])), (aA, .inl (cI, 862, .inl g11))]) H := hP
      have hD : va_D A ([(q, .inr (12, [.ref aA, .ref aI, .ref aT, .ref aP, .int 0, .int (-1), .int (-1), .int 0, .int 0, .int 0, .int 0, .long 0, .int 0, .int 0, .int 0, .int 0, .ref pI, .int 0, .int 0, .int 0, .int 0, .int 0, .ref nM, .ref vA, .ref tR, .int 0, .int 0, .int 0, .ref rW, .ref sP, .ref oA, .ref bS, .ref aS, .ref aO, .ref cS, .ref wY])), (aA, .inl (cI, 862, .inl g11))]) := hD
      have h3 : g11 3 = (f 3) := by rw [hg11]; exact (pk_un (by decide)).trans h3
      have h8 : g11 8 = 29 := by rw [hg11]; exact (pk_un (by decide)).trans h8
      refine lv_iinc (v := 3) (lv' := [(2, .int 3), (1, .int 846), (0, .ref q)]) hx hb dX12_keep_97 hl (k := 0) rfl (by decide) (by decide) rfl (fun ls hl => ?_)
      refine lv_goto (tgt := 75) hx hb dX12_keep_100 (by decide) ?_
      refine lv_iload_n hx hb dX12_keep_75 rfl (lv_at hl 0 rfl) ?_
      refine lv_iconst (v := 3) hx hb dX12_keep_76 (by decide) ?_
      refine lv_icmp_ge (tgt := 103) hx hb dX12_keep_77 (by decide) (fun c12 => ?_) (fun h => absurd (by decide) h)
      refine lv_aload_n hx hb dX12_keep_103 rfl (lv_at hl 2 rfl) ?_
      refine z_get Z i_X12 hP 0 rfl rfl 0 (by decide) bw_1019 rfl dX12_keep_104 ?_
      refine lv_iload_n hx hb dX12_keep_107 rfl (lv_at hl 1 rfl) ?_
      refine lv_iconst (v := 3) hx hb dX12_keep_108 (by decide) ?_
      refine lv_iadd hx hb dX12_keep_109 ?_
      refine z_topi (y := 849) (by decide) ?_
      refine lv_aload_n hx hb dX12_keep_110 rfl (lv_at hl 2 rfl) ?_
      refine z_get Z i_X12 hP 0 rfl rfl 0 (by decide) bw_1019 rfl dX12_keep_111 ?_
      refine lv_iconst (v := 3) hx hb dX12_keep_114 (by decide) ?_
      refine z_iald Z hP 1 0 rfl rfl (vin (by decide)) dX12_keep_115 ?_
      refine lv_topi (fun z13 ez13 => ?_)
      refine z_iast Z hP hD hS 1 0 rfl rfl (vin (by decide)) dX12_keep_116 (fun H locs hP hD hS => ?_)
      obtain ⟨g14, hg14⟩ : ∃ g9, g9 = upd g11 (849 : Int32).toNatClampNeg z13 := ⟨_, rfl⟩
      rw [← hg14] at hP hD
      have hP : va_P D vwCl ([(q, .inr (12, [.ref aA, .ref aI, .ref aT, .ref aP, .int 0, .int (-1), .int (-1), .int 0, .int 0, .int 0, .int 0, .long 0, .int 0, .int 0, .int 0, .int 0, .ref pI, .int 0, .int 0, .int 0, .int 0, .int 0, .ref nM, .ref vA, .ref tR, .int 0, .int 0, .int 0, .ref rW, .ref sP, .ref oA, .ref bS, .ref aS, .ref aO, .ref cS, .ref wY])), (aA, .inl (cI, 862, .inl g14))]) H := hP
      have hD : va_D A ([(q, .inr (12, [.ref aA, .ref aI, .ref aT, .ref aP, .int 0, .int (-1), .int (-1), .int 0, .int 0, .int 0, .int 0, .long 0, .int 0, .int 0, .int 0, .int 0, .ref pI, .int 0, .int 0, .int 0, .int 0, .int 0, .ref nM, .ref vA, .ref tR, .int 0, .int 0, .int 0, .ref rW, .ref sP, .ref oA, .ref bS, .ref aS, .ref aO, .ref cS, .ref wY])), (aA, .inl (cI, 862, .inl g14))]) := hD
      have h3 : g14 3 = (f 3) := by rw [hg14]; exact (pk_un (by decide)).trans h3
      have h8 : g14 8 = 29 := by rw [hg14]; exact (pk_un (by decide)).trans h8
      refine lv_aload_n hx hb dX12_keep_117 rfl (lv_at hl 2 rfl) ?_
      refine z_get Z i_X12 hP 0 rfl rfl 0 (by decide) bw_1019 rfl dX12_keep_118 ?_
      refine lv_iload_n hx hb dX12_keep_121 rfl (lv_at hl 1 rfl) ?_
      refine lv_iconst (v := 4) hx hb dX12_keep_122 (by decide) ?_
      refine lv_iadd hx hb dX12_keep_123 ?_
      refine z_topi (y := 850) (by decide) ?_
      refine lv_aload_n hx hb dX12_keep_124 rfl (lv_at hl 2 rfl) ?_
      refine z_get Z i_X12 hP 0 rfl rfl 0 (by decide) bw_1019 rfl dX12_keep_125 ?_
      refine lv_iconst (v := 5) hx hb dX12_keep_128 (by decide) ?_
      refine z_iald Z hP 1 0 rfl rfl (vin (by decide)) dX12_keep_129 ?_
      refine lv_topi (fun z15 ez15 => ?_)
      refine z_iast Z hP hD hS 1 0 rfl rfl (vin (by decide)) dX12_keep_130 (fun H locs hP hD hS => ?_)
      obtain ⟨g16, hg16⟩ : ∃ g9, g9 = upd g14 (850 : Int32).toNatClampNeg z15 := ⟨_, rfl⟩
      rw [← hg16] at hP hD
      have hP : va_P D vwCl ([(q, .inr (12, [.ref aA, .ref aI, .ref aT, .ref aP, .int 0, .int (-1), .int (-1), .int 0, .int 0, .int 0, .int 0, .long 0, .int 0, .int 0, .int 0, .int 0, .ref pI, .int 0, .int 0, .int 0, .int 0, .int 0, .ref nM, .ref vA, .ref tR, .int 0, .int 0, .int 0, .ref rW, .ref sP, .ref oA, .ref bS, .ref aS, .ref aO, .ref cS, .ref wY])), (aA, .inl (cI, 862, .inl g16))]) H := hP
      have hD : va_D A ([(q, .inr (12, [.ref aA, .ref aI, .ref aT, .ref aP, .int 0, .int (-1), .int (-1), .int 0, .int 0, .int 0, .int 0, .long 0, .int 0, .int 0, .int 0, .int 0, .ref pI, .int 0, .int 0, .int 0, .int 0, .int 0, .ref nM, .ref vA, .ref tR, .int 0, .int 0, .int 0, .ref rW, .ref sP, .ref oA, .ref bS, .ref aS, .ref aO, .ref cS, .ref wY])), (aA, .inl (cI, 862, .inl g16))]) := hD
      have h3 : g16 3 = (f 3) := by rw [hg16]; exact (pk_un (by decide)).trans h3
      have h8 : g16 8 = 29 := by rw [hg16]; exact (pk_un (by decide)).trans h8
      refine lv_aload_n hx hb dX12_keep_131 rfl (lv_at hl 2 rfl) ?_
      refine z_get Z i_X12 hP 0 rfl rfl 0 (by decide) bw_1019 rfl dX12_keep_132 ?_
      refine lv_iload_n hx hb dX12_keep_135 rfl (lv_at hl 1 rfl) ?_
      refine lv_iconst (v := 5) hx hb dX12_keep_136 (by decide) ?_
      refine lv_iadd hx hb dX12_keep_137 ?_
      refine z_topi (y := 851) (by decide) ?_
      refine lv_aload_n hx hb dX12_keep_138 rfl (lv_at hl 2 rfl) ?_
      refine z_get Z i_X12 hP 0 rfl rfl 0 (by decide) bw_1019 rfl dX12_keep_139 ?_
      refine lv_iconst (v := 2) hx hb dX12_keep_142 (by decide) ?_
      refine z_iald Z hP 1 0 rfl rfl (vin (by decide)) dX12_keep_143 ?_
      refine lv_topi (fun z17 ez17 => ?_)
      refine z_iast Z hP hD hS 1 0 rfl rfl (vin (by decide)) dX12_keep_144 (fun H locs hP hD hS => ?_)
      obtain ⟨g18, hg18⟩ : ∃ g9, g9 = upd g16 (851 : Int32).toNatClampNeg z17 := ⟨_, rfl⟩
      rw [← hg18] at hP hD
      have hP : va_P D vwCl ([(q, .inr (12, [.ref aA, .ref aI, .ref aT, .ref aP, .int 0, .int (-1), .int (-1), .int 0, .int 0, .int 0, .int 0, .long 0, .int 0, .int 0, .int 0, .int 0, .ref pI, .int 0, .int 0, .int 0, .int 0, .int 0, .ref nM, .ref vA, .ref tR, .int 0, .int 0, .int 0, .ref rW, .ref sP, .ref oA, .ref bS, .ref aS, .ref aO, .ref cS, .ref wY])), (aA, .inl (cI, 862, .inl g18))]) H := hP
      have hD : va_D A ([(q, .inr (12, [.ref aA, .ref aI, .ref aT, .ref aP, .int 0, .int (-1), .int (-1), .int 0, .int 0, .int 0, .int 0, .long 0, .int 0, .int 0, .int 0, .int 0, .ref pI, .int 0, .int 0, .int 0, .int 0, .int 0, .ref nM, .ref vA, .ref tR, .int 0, .int 0, .int 0, .ref rW, .ref sP, .ref oA, .ref bS, .ref aS, .ref aO, .ref cS, .ref wY])), (aA, .inl (cI, 862, .inl g18))]) := hD
      have h3 : g18 3 = (f 3) := by rw [hg18]; exact (pk_un (by decide)).trans h3
      have h8 : g18 8 = 29 := by rw [hg18]; exact (pk_un (by decide)).trans h8
      refine lv_iconst (v := 0) hx hb dX12_keep_145 (by decide) ?_
      refine lv_istore_n (lv' := [(2, .int 0), (1, .int 846), (0, .ref q)]) hx hb dX12_keep_146 rfl hl (by decide) rfl (fun ls hl => ?_)
      refine lv_iload_n hx hb dX12_keep_147 rfl (lv_at hl 0 rfl) ?_
      refine lv_bipush (v := 10) hx hb dX12_keep_148 (by decide) ?_
      refine lv_icmp_ge (tgt := 179) hx hb dX12_keep_150 (by decide) (fun h => absurd h (by decide)) (fun c19 => ?_)
      refine lv_aload_n hx hb dX12_keep_153 rfl (lv_at hl 2 rfl) ?_
      refine z_get Z i_X12 hP 0 rfl rfl 0 (by decide) bw_1019 rfl dX12_keep_154 ?_
      refine lv_iload_n hx hb dX12_keep_157 rfl (lv_at hl 1 rfl) ?_
      refine lv_bipush (v := 6) hx hb dX12_keep_158 (by decide) ?_
      refine lv_iadd hx hb dX12_keep_160 ?_
      refine z_topi (y := 852) (by decide) ?_
      refine lv_iload_n hx hb dX12_keep_161 rfl (lv_at hl 0 rfl) ?_
      refine lv_iadd hx hb dX12_keep_162 ?_
      refine z_topi (y := 852) (by decide) ?_
      refine lv_aload_n hx hb dX12_keep_163 rfl (lv_at hl 2 rfl) ?_
      refine z_get Z i_X12 hP 0 rfl rfl 0 (by decide) bw_1019 rfl dX12_keep_164 ?_
      refine lv_bipush (v := 24) hx hb dX12_keep_167 (by decide) ?_
      refine lv_iload_n hx hb dX12_keep_169 rfl (lv_at hl 0 rfl) ?_
      refine lv_iadd hx hb dX12_keep_170 ?_
      refine z_topi (y := 24) (by decide) ?_
      refine z_iald Z hP 1 0 rfl rfl (vin (by decide)) dX12_keep_171 ?_
      refine lv_topi (fun z20 ez20 => ?_)
      refine z_iast Z hP hD hS 1 0 rfl rfl (vin (by decide)) dX12_keep_172 (fun H locs hP hD hS => ?_)
      obtain ⟨g21, hg21⟩ : ∃ g9, g9 = upd g18 (852 : Int32).toNatClampNeg z20 := ⟨_, rfl⟩
      rw [← hg21] at hP hD
      have hP : va_P D vwCl ([(q, .inr (12, [.ref aA, .ref aI, .ref aT, .ref aP, .int 0, .int (-1), .int (-1), .int 0, .int 0, .int 0, .int 0, .long 0, .int 0, .int 0, .int 0, .int 0, .ref pI, .int 0, .int 0, .int 0, .int 0, .int 0, .ref nM, .ref vA, .ref tR, .int 0, .int 0, .int 0, .ref rW, .ref sP, .ref oA, .ref bS, .ref aS, .ref aO, .ref cS, .ref wY])), (aA, .inl (cI, 862, .inl g21))]) H := hP
      have hD : va_D A ([(q, .inr (12, [.ref aA, .ref aI, .ref aT, .ref aP, .int 0, .int (-1), .int (-1), .int 0, .int 0, .int 0, .int 0, .long 0, .int 0, .int 0, .int 0, .int 0, .ref pI, .int 0, .int 0, .int 0, .int 0, .int 0, .ref nM, .ref vA, .ref tR, .int 0, .int 0, .int 0, .ref rW, .ref sP, .ref oA, .ref bS, .ref aS, .ref aO, .ref cS, .ref wY])), (aA, .inl (cI, 862, .inl g21))]) := hD
      have h3 : g21 3 = (f 3) := by rw [hg21]; exact (pk_un (by decide)).trans h3
      have h8 : g21 8 = 29 := by rw [hg21]; exact (pk_un (by decide)).trans h8
      refine lv_iinc (v := 1) (lv' := [(2, .int 1), (1, .int 846), (0, .ref q)]) hx hb dX12_keep_173 hl (k := 0) rfl (by decide) (by decide) rfl (fun ls hl => ?_)
      refine lv_goto (tgt := 147) hx hb dX12_keep_176 (by decide) ?_
      refine lv_iload_n hx hb dX12_keep_147 rfl (lv_at hl 0 rfl) ?_
      refine lv_bipush (v := 10) hx hb dX12_keep_148 (by decide) ?_
      refine lv_icmp_ge (tgt := 179) hx hb dX12_keep_150 (by decide) (fun h => absurd h (by decide)) (fun c22 => ?_)
      refine lv_aload_n hx hb dX12_keep_153 rfl (lv_at hl 2 rfl) ?_
      refine z_get Z i_X12 hP 0 rfl rfl 0 (by decide) bw_1019 rfl dX12_keep_154 ?_
      refine lv_iload_n hx hb dX12_keep_157 rfl (lv_at hl 1 rfl) ?_
      refine lv_bipush (v := 6) hx hb dX12_keep_158 (by decide) ?_
      refine lv_iadd hx hb dX12_keep_160 ?_
      refine z_topi (y := 852) (by decide) ?_
      refine lv_iload_n hx hb dX12_keep_161 rfl (lv_at hl 0 rfl) ?_
      refine lv_iadd hx hb dX12_keep_162 ?_
      refine z_topi (y := 853) (by decide) ?_
      refine lv_aload_n hx hb dX12_keep_163 rfl (lv_at hl 2 rfl) ?_
      refine z_get Z i_X12 hP 0 rfl rfl 0 (by decide) bw_1019 rfl dX12_keep_164 ?_
      refine lv_bipush (v := 24) hx hb dX12_keep_167 (by decide) ?_
      refine lv_iload_n hx hb dX12_keep_169 rfl (lv_at hl 0 rfl) ?_
      refine lv_iadd hx hb dX12_keep_170 ?_
      refine z_topi (y := 25) (by decide) ?_
      refine z_iald Z hP 1 0 rfl rfl (vin (by decide)) dX12_keep_171 ?_
      refine lv_topi (fun z23 ez23 => ?_)
      refine z_iast Z hP hD hS 1 0 rfl rfl (vin (by decide)) dX12_keep_172 (fun H locs hP hD hS => ?_)
      obtain ⟨g24, hg24⟩ : ∃ g9, g9 = upd g21 (853 : Int32).toNatClampNeg z23 := ⟨_, rfl⟩
      rw [← hg24] at hP hD
      have hP : va_P D vwCl ([(q, .inr (12, [.ref aA, .ref aI, .ref aT, .ref aP, .int 0, .int (-1), .int (-1), .int 0, .int 0, .int 0, .int 0, .long 0, .int 0, .int 0, .int 0, .int 0, .ref pI, .int 0, .int 0, .int 0, .int 0, .int 0, .ref nM, .ref vA, .ref tR, .int 0, .int 0, .int 0, .ref rW, .ref sP, .ref oA, .ref bS, .ref aS, .ref aO, .ref cS, .ref wY])), (aA, .inl (cI, 862, .inl g24))]) H := hP
      have hD : va_D A ([(q, .inr (12, [.ref aA, .ref aI, .ref aT, .ref aP, .int 0, .int (-1), .int (-1), .int 0, .int 0, .int 0, .int 0, .long 0, .int 0, .int 0, .int 0, .int 0, .ref pI, .int 0, .int 0, .int 0, .int 0, .int 0, .ref nM, .ref vA, .ref tR, .int 0, .int 0, .int 0, .ref rW, .ref sP, .ref oA, .ref bS, .ref aS, .ref aO, .ref cS, .ref wY])), (aA, .inl (cI, 862, .inl g24))]) := hD
      have h3 : g24 3 = (f 3) := by rw [hg24]; exact (pk_un (by decide)).trans h3
      have h8 : g24 8 = 29 := by rw [hg24]; exact (pk_un (by decide)).trans h8
      refine lv_iinc (v := 2) (lv' := [(2, .int 2), (1, .int 846), (0, .ref q)]) hx hb dX12_keep_173 hl (k := 0) rfl (by decide) (by decide) rfl (fun ls hl => ?_)
      refine lv_goto (tgt := 147) hx hb dX12_keep_176 (by decide) ?_
      refine lv_iload_n hx hb dX12_keep_147 rfl (lv_at hl 0 rfl) ?_
      refine lv_bipush (v := 10) hx hb dX12_keep_148 (by decide) ?_
      refine lv_icmp_ge (tgt := 179) hx hb dX12_keep_150 (by decide) (fun h => absurd h (by decide)) (fun c25 => ?_)
      refine lv_aload_n hx hb dX12_keep_153 rfl (lv_at hl 2 rfl) ?_
      refine z_get Z i_X12 hP 0 rfl rfl 0 (by decide) bw_1019 rfl dX12_keep_154 ?_
      refine lv_iload_n hx hb dX12_keep_157 rfl (lv_at hl 1 rfl) ?_
      refine lv_bipush (v := 6) hx hb dX12_keep_158 (by decide) ?_
      refine lv_iadd hx hb dX12_keep_160 ?_
      refine z_topi (y := 852) (by decide) ?_
      refine lv_iload_n hx hb dX12_keep_161 rfl (lv_at hl 0 rfl) ?_
      refine lv_iadd hx hb dX12_keep_162 ?_
      refine z_topi (y := 854) (by decide) ?_
      refine lv_aload_n hx hb dX12_keep_163 rfl (lv_at hl 2 rfl) ?_
      refine z_get Z i_X12 hP 0 rfl rfl 0 (by decide) bw_1019 rfl dX12_keep_164 ?_
      refine lv_bipush (v := 24) hx hb dX12_keep_167 (by decide) ?_
      refine lv_iload_n hx hb dX12_keep_169 rfl (lv_at hl 0 rfl) ?_
      refine lv_iadd hx hb dX12_keep_170 ?_
      refine z_topi (y := 26) (by decide) ?_
      refine z_iald Z hP 1 0 rfl rfl (vin (by decide)) dX12_keep_171 ?_
      refine lv_topi (fun z26 ez26 => ?_)
      refine z_iast Z hP hD hS 1 0 rfl rfl (vin (by decide)) dX12_keep_172 (fun H locs hP hD hS => ?_)
      obtain ⟨g27, hg27⟩ : ∃ g9, g9 = upd g24 (854 : Int32).toNatClampNeg z26 := ⟨_, rfl⟩
      rw [← hg27] at hP hD
      have hP : va_P D vwCl ([(q, .inr (12, [.ref aA, .ref aI, .ref aT, .ref aP, .int 0, .int (-1), .int (-1), .int 0, .int 0, .int 0, .int 0, .long 0, .int 0, .int 0, .int 0, .int 0, .ref pI, .int 0, .int 0, .int 0, .int 0, .int 0, .ref nM, .ref vA, .ref tR, .int 0, .int 0, .int 0, .ref rW, .ref sP, .ref oA, .ref bS, .ref aS, .ref aO, .ref cS, .ref wY])), (aA, .inl (cI, 862, .inl g27))]) H := hP
      have hD : va_D A ([(q, .inr (12, [.ref aA, .ref aI, .ref aT, .ref aP, .int 0, .int (-1), .int (-1), .int 0, .int 0, .int 0, .int 0, .long 0, .int 0, .int 0, .int 0, .int 0, .ref pI, .int 0, .int 0, .int 0, .int 0, .int 0, .ref nM, .ref vA, .ref tR, .int 0, .int 0, .int 0, .ref rW, .ref sP, .ref oA, .ref bS, .ref aS, .ref aO, .ref cS, .ref wY])), (aA, .inl (cI, 862, .inl g27))]) := hD
      have h3 : g27 3 = (f 3) := by rw [hg27]; exact (pk_un (by decide)).trans h3
      have h8 : g27 8 = 29 := by rw [hg27]; exact (pk_un (by decide)).trans h8
      refine lv_iinc (v := 3) (lv' := [(2, .int 3), (1, .int 846), (0, .ref q)]) hx hb dX12_keep_173 hl (k := 0) rfl (by decide) (by decide) rfl (fun ls hl => ?_)
      refine lv_goto (tgt := 147) hx hb dX12_keep_176 (by decide) ?_
      refine lv_iload_n hx hb dX12_keep_147 rfl (lv_at hl 0 rfl) ?_
      refine lv_bipush (v := 10) hx hb dX12_keep_148 (by decide) ?_
      refine lv_icmp_ge (tgt := 179) hx hb dX12_keep_150 (by decide) (fun h => absurd h (by decide)) (fun c28 => ?_)
      refine lv_aload_n hx hb dX12_keep_153 rfl (lv_at hl 2 rfl) ?_
      refine z_get Z i_X12 hP 0 rfl rfl 0 (by decide) bw_1019 rfl dX12_keep_154 ?_
      refine lv_iload_n hx hb dX12_keep_157 rfl (lv_at hl 1 rfl) ?_
      refine lv_bipush (v := 6) hx hb dX12_keep_158 (by decide) ?_
      refine lv_iadd hx hb dX12_keep_160 ?_
      refine z_topi (y := 852) (by decide) ?_
      refine lv_iload_n hx hb dX12_keep_161 rfl (lv_at hl 0 rfl) ?_
      refine lv_iadd hx hb dX12_keep_162 ?_
      refine z_topi (y := 855) (by decide) ?_
      refine lv_aload_n hx hb dX12_keep_163 rfl (lv_at hl 2 rfl) ?_
      refine z_get Z i_X12 hP 0 rfl rfl 0 (by decide) bw_1019 rfl dX12_keep_164 ?_
      refine lv_bipush (v := 24) hx hb dX12_keep_167 (by decide) ?_
      refine lv_iload_n hx hb dX12_keep_169 rfl (lv_at hl 0 rfl) ?_
      refine lv_iadd hx hb dX12_keep_170 ?_
      refine z_topi (y := 27) (by decide) ?_
      refine z_iald Z hP 1 0 rfl rfl (vin (by decide)) dX12_keep_171 ?_
      refine lv_topi (fun z29 ez29 => ?_)
      refine z_iast Z hP hD hS 1 0 rfl rfl (vin (by decide)) dX12_keep_172 (fun H locs hP hD hS => ?_)
      obtain ⟨g30, hg30⟩ : ∃ g9, g9 = upd g27 (855 : Int32).toNatClampNeg z29 := ⟨_, rfl⟩
      rw [← hg30] at hP hD
      have hP : va_P D vwCl ([(q, .inr (12, [.ref aA, .ref aI, .ref aT, .ref aP, .int 0, .int (-1), .int (-1), .int 0, .int 0, .int 0, .int 0, .long 0, .int 0, .int 0, .int 0, .int 0, .ref pI, .int 0, .int 0, .int 0, .int 0, .int 0, .ref nM, .ref vA, .ref tR, .int 0, .int 0, .int 0, .ref rW, .ref sP, .ref oA, .ref bS, .ref aS, .ref aO, .ref cS, .ref wY])), (aA, .inl (cI, 862, .inl g30))]) H := hP
      have hD : va_D A ([(q, .inr (12, [.ref aA, .ref aI, .ref aT, .ref aP, .int 0, .int (-1), .int (-1), .int 0, .int 0, .int 0, .int 0, .long 0, .int 0, .int 0, .int 0, .int 0, .ref pI, .int 0, .int 0, .int 0, .int 0, .int 0, .ref nM, .ref vA, .ref tR, .int 0, .int 0, .int 0, .ref rW, .ref sP, .ref oA, .ref bS, .ref aS, .ref aO, .ref cS, .ref wY])), (aA, .inl (cI, 862, .inl g30))]) := hD
      have h3 : g30 3 = (f 3) := by rw [hg30]; exact (pk_un (by decide)).trans h3
      have h8 : g30 8 = 29 := by rw [hg30]; exact (pk_un (by decide)).trans h8
      refine lv_iinc (v := 4) (lv' := [(2, .int 4), (1, .int 846), (0, .ref q)]) hx hb dX12_keep_173 hl (k := 0) rfl (by decide) (by decide) rfl (fun ls hl => ?_)
      refine lv_goto (tgt := 147) hx hb dX12_keep_176 (by decide) ?_
      refine lv_iload_n hx hb dX12_keep_147 rfl (lv_at hl 0 rfl) ?_
      refine lv_bipush (v := 10) hx hb dX12_keep_148 (by decide) ?_
      refine lv_icmp_ge (tgt := 179) hx hb dX12_keep_150 (by decide) (fun h => absurd h (by decide)) (fun c31 => ?_)
      refine lv_aload_n hx hb dX12_keep_153 rfl (lv_at hl 2 rfl) ?_
      refine z_get Z i_X12 hP 0 rfl rfl 0 (by decide) bw_1019 rfl dX12_keep_154 ?_
      refine lv_iload_n hx hb dX12_keep_157 rfl (lv_at hl 1 rfl) ?_
      refine lv_bipush (v := 6) hx hb dX12_keep_158 (by decide) ?_
      refine lv_iadd hx hb dX12_keep_160 ?_
      refine z_topi (y := 852) (by decide) ?_
      refine lv_iload_n hx hb dX12_keep_161 rfl (lv_at hl 0 rfl) ?_
      refine lv_iadd hx hb dX12_keep_162 ?_
      refine z_topi (y := 856) (by decide) ?_
      refine lv_aload_n hx hb dX12_keep_163 rfl (lv_at hl 2 rfl) ?_
      refine z_get Z i_X12 hP 0 rfl rfl 0 (by decide) bw_1019 rfl dX12_keep_164 ?_
      refine lv_bipush (v := 24) hx hb dX12_keep_167 (by decide) ?_
      refine lv_iload_n hx hb dX12_keep_169 rfl (lv_at hl 0 rfl) ?_
      refine lv_iadd hx hb dX12_keep_170 ?_
      refine z_topi (y := 28) (by decide) ?_
      refine z_iald Z hP 1 0 rfl rfl (vin (by decide)) dX12_keep_171 ?_
      refine lv_topi (fun z32 ez32 => ?_)
      refine z_iast Z hP hD hS 1 0 rfl rfl (vin (by decide)) dX12_keep_172 (fun H locs hP hD hS => ?_)
      obtain ⟨g33, hg33⟩ : ∃ g9, g9 = upd g30 (856 : Int32).toNatClampNeg z32 := ⟨_, rfl⟩
      rw [← hg33] at hP hD
      have hP : va_P D vwCl ([(q, .inr (12, [.ref aA, .ref aI, .ref aT, .ref aP, .int 0, .int (-1), .int (-1), .int 0, .int 0, .int 0, .int 0, .long 0, .int 0, .int 0, .int 0, .int 0, .ref pI, .int 0, .int 0, .int 0, .int 0, .int 0, .ref nM, .ref vA, .ref tR, .int 0, .int 0, .int 0, .ref rW, .ref sP, .ref oA, .ref bS, .ref aS, .ref aO, .ref cS, .ref wY])), (aA, .inl (cI, 862, .inl g33))]) H := hP
      have hD : va_D A ([(q, .inr (12, [.ref aA, .ref aI, .ref aT, .ref aP, .int 0, .int (-1), .int (-1), .int 0, .int 0, .int 0, .int 0, .long 0, .int 0, .int 0, .int 0, .int 0, .ref pI, .int 0, .int 0, .int 0, .int 0, .int 0, .ref nM, .ref vA, .ref tR, .int 0, .int 0, .int 0, .ref rW, .ref sP, .ref oA, .ref bS, .ref aS, .ref aO, .ref cS, .ref wY])), (aA, .inl (cI, 862, .inl g33))]) := hD
      have h3 : g33 3 = (f 3) := by rw [hg33]; exact (pk_un (by decide)).trans h3
      have h8 : g33 8 = 29 := by rw [hg33]; exact (pk_un (by decide)).trans h8
      refine lv_iinc (v := 5) (lv' := [(2, .int 5), (1, .int 846), (0, .ref q)]) hx hb dX12_keep_173 hl (k := 0) rfl (by decide) (by decide) rfl (fun ls hl => ?_)
      refine lv_goto (tgt := 147) hx hb dX12_keep_176 (by decide) ?_
      refine lv_iload_n hx hb dX12_keep_147 rfl (lv_at hl 0 rfl) ?_
      refine lv_bipush (v := 10) hx hb dX12_keep_148 (by decide) ?_
      refine lv_icmp_ge (tgt := 179) hx hb dX12_keep_150 (by decide) (fun h => absurd h (by decide)) (fun c34 => ?_)
      refine lv_aload_n hx hb dX12_keep_153 rfl (lv_at hl 2 rfl) ?_
      refine z_get Z i_X12 hP 0 rfl rfl 0 (by decide) bw_1019 rfl dX12_keep_154 ?_
      refine lv_iload_n hx hb dX12_keep_157 rfl (lv_at hl 1 rfl) ?_
      refine lv_bipush (v := 6) hx hb dX12_keep_158 (by decide) ?_
      refine lv_iadd hx hb dX12_keep_160 ?_
      refine z_topi (y := 852) (by decide) ?_
      refine lv_iload_n hx hb dX12_keep_161 rfl (lv_at hl 0 rfl) ?_
      refine lv_iadd hx hb dX12_keep_162 ?_
      refine z_topi (y := 857) (by decide) ?_
      refine lv_aload_n hx hb dX12_keep_163 rfl (lv_at hl 2 rfl) ?_
      refine z_get Z i_X12 hP 0 rfl rfl 0 (by decide) bw_1019 rfl dX12_keep_164 ?_
      refine lv_bipush (v := 24) hx hb dX12_keep_167 (by decide) ?_
      refine lv_iload_n hx hb dX12_keep_169 rfl (lv_at hl 0 rfl) ?_
      refine lv_iadd hx hb dX12_keep_170 ?_
      refine z_topi (y := 29) (by decide) ?_
      refine z_iald Z hP 1 0 rfl rfl (vin (by decide)) dX12_keep_171 ?_
      refine lv_topi (fun z35 ez35 => ?_)
      refine z_iast Z hP hD hS 1 0 rfl rfl (vin (by decide)) dX12_keep_172 (fun H locs hP hD hS => ?_)
      obtain ⟨g36, hg36⟩ : ∃ g9, g9 = upd g33 (857 : Int32).toNatClampNeg z35 := ⟨_, rfl⟩
      rw [← hg36] at hP hD
      have hP : va_P D vwCl ([(q, .inr (12, [.ref aA, .ref aI, .ref aT, .ref aP, .int 0, .int (-1), .int (-1), .int 0, .int 0, .int 0, .int 0, .long 0, .int 0, .int 0, .int 0, .int 0, .ref pI, .int 0, .int 0, .int 0, .int 0, .int 0, .ref nM, .ref vA, .ref tR, .int 0, .int 0, .int 0, .ref rW, .ref sP, .ref oA, .ref bS, .ref aS, .ref aO, .ref cS, .ref wY])), (aA, .inl (cI, 862, .inl g36))]) H := hP
      have hD : va_D A ([(q, .inr (12, [.ref aA, .ref aI, .ref aT, .ref aP, .int 0, .int (-1), .int (-1), .int 0, .int 0, .int 0, .int 0, .long 0, .int 0, .int 0, .int 0, .int 0, .ref pI, .int 0, .int 0, .int 0, .int 0, .int 0, .ref nM, .ref vA, .ref tR, .int 0, .int 0, .int 0, .ref rW, .ref sP, .ref oA, .ref bS, .ref aS, .ref aO, .ref cS, .ref wY])), (aA, .inl (cI, 862, .inl g36))]) := hD
      have h3 : g36 3 = (f 3) := by rw [hg36]; exact (pk_un (by decide)).trans h3
      have h8 : g36 8 = 29 := by rw [hg36]; exact (pk_un (by decide)).trans h8
      refine lv_iinc (v := 6) (lv' := [(2, .int 6), (1, .int 846), (0, .ref q)]) hx hb dX12_keep_173 hl (k := 0) rfl (by decide) (by decide) rfl (fun ls hl => ?_)
      refine lv_goto (tgt := 147) hx hb dX12_keep_176 (by decide) ?_
      refine lv_iload_n hx hb dX12_keep_147 rfl (lv_at hl 0 rfl) ?_
      refine lv_bipush (v := 10) hx hb dX12_keep_148 (by decide) ?_
      refine lv_icmp_ge (tgt := 179) hx hb dX12_keep_150 (by decide) (fun h => absurd h (by decide)) (fun c37 => ?_)
      refine lv_aload_n hx hb dX12_keep_153 rfl (lv_at hl 2 rfl) ?_
      refine z_get Z i_X12 hP 0 rfl rfl 0 (by decide) bw_1019 rfl dX12_keep_154 ?_
      refine lv_iload_n hx hb dX12_keep_157 rfl (lv_at hl 1 rfl) ?_
      refine lv_bipush (v := 6) hx hb dX12_keep_158 (by decide) ?_
      refine lv_iadd hx hb dX12_keep_160 ?_
      refine z_topi (y := 852) (by decide) ?_
      refine lv_iload_n hx hb dX12_keep_161 rfl (lv_at hl 0 rfl) ?_
      refine lv_iadd hx hb dX12_keep_162 ?_
      refine z_topi (y := 858) (by decide) ?_
      refine lv_aload_n hx hb dX12_keep_163 rfl (lv_at hl 2 rfl) ?_
      refine z_get Z i_X12 hP 0 rfl rfl 0 (by decide) bw_1019 rfl dX12_keep_164 ?_
      refine lv_bipush (v := 24) hx hb dX12_keep_167 (by decide) ?_
      refine lv_iload_n hx hb dX12_keep_169 rfl (lv_at hl 0 rfl) ?_
      refine lv_iadd hx hb dX12_keep_170 ?_
      refine z_topi (y := 30) (by decide) ?_
      refine z_iald Z hP 1 0 rfl rfl (vin (by decide)) dX12_keep_171 ?_
      refine lv_topi (fun z38 ez38 => ?_)
      refine z_iast Z hP hD hS 1 0 rfl rfl (vin (by decide)) dX12_keep_172 (fun H locs hP hD hS => ?_)
      obtain ⟨g39, hg39⟩ : ∃ g9, g9 = upd g36 (858 : Int32).toNatClampNeg z38 := ⟨_, rfl⟩
      rw [← hg39] at hP hD
      have hP : va_P D vwCl ([(q, .inr (12, [.ref aA, .ref aI, .ref aT, .ref aP, .int 0, .int (-1), .int (-1), .int 0, .int 0, .int 0, .int 0, .long 0, .int 0, .int 0, .int 0, .int 0, .ref pI, .int 0, .int 0, .int 0, .int 0, .int 0, .ref nM, .ref vA, .ref tR, .int 0, .int 0, .int 0, .ref rW, .ref sP, .ref oA, .ref bS, .ref aS, .ref aO, .ref cS, .ref wY])), (aA, .inl (cI, 862, .inl g39))]) H := hP
      have hD : va_D A ([(q, .inr (12, [.ref aA, .ref aI, .ref aT, .ref aP, .int 0, .int (-1), .int (-1), .int 0, .int 0, .int 0, .int 0, .long 0, .int 0, .int 0, .int 0, .int 0, .ref pI, .int 0, .int 0, .int 0, .int 0, .int 0, .ref nM, .ref vA, .ref tR, .int 0, .int 0, .int 0, .ref rW, .ref sP, .ref oA, .ref bS, .ref aS, .ref aO, .ref cS, .ref wY])), (aA, .inl (cI, 862, .inl g39))]) := hD
      have h3 : g39 3 = (f 3) := by rw [hg39]; exact (pk_un (by decide)).trans h3
      have h8 : g39 8 = 29 := by rw [hg39]; exact (pk_un (by decide)).trans h8
      refine lv_iinc (v := 7) (lv' := [(2, .int 7), (1, .int 846), (0, .ref q)]) hx hb dX12_keep_173 hl (k := 0) rfl (by decide) (by decide) rfl (fun ls hl => ?_)
      refine lv_goto (tgt := 147) hx hb dX12_keep_176 (by decide) ?_
      refine lv_iload_n hx hb dX12_keep_147 rfl (lv_at hl 0 rfl) ?_
      refine lv_bipush (v := 10) hx hb dX12_keep_148 (by decide) ?_
      refine lv_icmp_ge (tgt := 179) hx hb dX12_keep_150 (by decide) (fun h => absurd h (by decide)) (fun c40 => ?_)
      refine lv_aload_n hx hb dX12_keep_153 rfl (lv_at hl 2 rfl) ?_
      refine z_get Z i_X12 hP 0 rfl rfl 0 (by decide) bw_1019 rfl dX12_keep_154 ?_
      refine lv_iload_n hx hb dX12_keep_157 rfl (lv_at hl 1 rfl) ?_
      refine lv_bipush (v := 6) hx hb dX12_keep_158 (by decide) ?_
      refine lv_iadd hx hb dX12_keep_160 ?_
      refine z_topi (y := 852) (by decide) ?_
      refine lv_iload_n hx hb dX12_keep_161 rfl (lv_at hl 0 rfl) ?_
      refine lv_iadd hx hb dX12_keep_162 ?_
      refine z_topi (y := 859) (by decide) ?_
      refine lv_aload_n hx hb dX12_keep_163 rfl (lv_at hl 2 rfl) ?_
      refine z_get Z i_X12 hP 0 rfl rfl 0 (by decide) bw_1019 rfl dX12_keep_164 ?_
      refine lv_bipush (v := 24) hx hb dX12_keep_167 (by decide) ?_
      refine lv_iload_n hx hb dX12_keep_169 rfl (lv_at hl 0 rfl) ?_
      refine lv_iadd hx hb dX12_keep_170 ?_
      refine z_topi (y := 31) (by decide) ?_
      refine z_iald Z hP 1 0 rfl rfl (vin (by decide)) dX12_keep_171 ?_
      refine lv_topi (fun z41 ez41 => ?_)
      refine z_iast Z hP hD hS 1 0 rfl rfl (vin (by decide)) dX12_keep_172 (fun H locs hP hD hS => ?_)
      obtain ⟨g42, hg42⟩ : ∃ g9, g9 = upd g39 (859 : Int32).toNatClampNeg z41 := ⟨_, rfl⟩
      rw [← hg42] at hP hD
      have hP : va_P D vwCl ([(q, .inr (12, [.ref aA, .ref aI, .ref aT, .ref aP, .int 0, .int (-1), .int (-1), .int 0, .int 0, .int 0, .int 0, .long 0, .int 0, .int 0, .int 0, .int 0, .ref pI, .int 0, .int 0, .int 0, .int 0, .int 0, .ref nM, .ref vA, .ref tR, .int 0, .int 0, .int 0, .ref rW, .ref sP, .ref oA, .ref bS, .ref aS, .ref aO, .ref cS, .ref wY])), (aA, .inl (cI, 862, .inl g42))]) H := hP
      have hD : va_D A ([(q, .inr (12, [.ref aA, .ref aI, .ref aT, .ref aP, .int 0, .int (-1), .int (-1), .int 0, .int 0, .int 0, .int 0, .long 0, .int 0, .int 0, .int 0, .int 0, .ref pI, .int 0, .int 0, .int 0, .int 0, .int 0, .ref nM, .ref vA, .ref tR, .int 0, .int 0, .int 0, .ref rW, .ref sP, .ref oA, .ref bS, .ref aS, .ref aO, .ref cS, .ref wY])), (aA, .inl (cI, 862, .inl g42))]) := hD
      have h3 : g42 3 = (f 3) := by rw [hg42]; exact (pk_un (by decide)).trans h3
      have h8 : g42 8 = 29 := by rw [hg42]; exact (pk_un (by decide)).trans h8
      refine lv_iinc (v := 8) (lv' := [(2, .int 8), (1, .int 846), (0, .ref q)]) hx hb dX12_keep_173 hl (k := 0) rfl (by decide) (by decide) rfl (fun ls hl => ?_)
      refine lv_goto (tgt := 147) hx hb dX12_keep_176 (by decide) ?_
      refine lv_iload_n hx hb dX12_keep_147 rfl (lv_at hl 0 rfl) ?_
      refine lv_bipush (v := 10) hx hb dX12_keep_148 (by decide) ?_
      refine lv_icmp_ge (tgt := 179) hx hb dX12_keep_150 (by decide) (fun h => absurd h (by decide)) (fun c43 => ?_)
      refine lv_aload_n hx hb dX12_keep_153 rfl (lv_at hl 2 rfl) ?_
      refine z_get Z i_X12 hP 0 rfl rfl 0 (by decide) bw_1019 rfl dX12_keep_154 ?_
      refine lv_iload_n hx hb dX12_keep_157 rfl (lv_at hl 1 rfl) ?_
      refine lv_bipush (v := 6) hx hb dX12_keep_158 (by decide) ?_
      refine lv_iadd hx hb dX12_keep_160 ?_
      refine z_topi (y := 852) (by decide) ?_
      refine lv_iload_n hx hb dX12_keep_161 rfl (lv_at hl 0 rfl) ?_
      refine lv_iadd hx hb dX12_keep_162 ?_
      refine z_topi (y := 860) (by decide) ?_
      refine lv_aload_n hx hb dX12_keep_163 rfl (lv_at hl 2 rfl) ?_
      refine z_get Z i_X12 hP 0 rfl rfl 0 (by decide) bw_1019 rfl dX12_keep_164 ?_
      refine lv_bipush (v := 24) hx hb dX12_keep_167 (by decide) ?_
      refine lv_iload_n hx hb dX12_keep_169 rfl (lv_at hl 0 rfl) ?_
      refine lv_iadd hx hb dX12_keep_170 ?_
      refine z_topi (y := 32) (by decide) ?_
      refine z_iald Z hP 1 0 rfl rfl (vin (by decide)) dX12_keep_171 ?_
      refine lv_topi (fun z44 ez44 => ?_)
      refine z_iast Z hP hD hS 1 0 rfl rfl (vin (by decide)) dX12_keep_172 (fun H locs hP hD hS => ?_)
      obtain ⟨g45, hg45⟩ : ∃ g9, g9 = upd g42 (860 : Int32).toNatClampNeg z44 := ⟨_, rfl⟩
      rw [← hg45] at hP hD
      have hP : va_P D vwCl ([(q, .inr (12, [.ref aA, .ref aI, .ref aT, .ref aP, .int 0, .int (-1), .int (-1), .int 0, .int 0, .int 0, .int 0, .long 0, .int 0, .int 0, .int 0, .int 0, .ref pI, .int 0, .int 0, .int 0, .int 0, .int 0, .ref nM, .ref vA, .ref tR, .int 0, .int 0, .int 0, .ref rW, .ref sP, .ref oA, .ref bS, .ref aS, .ref aO, .ref cS, .ref wY])), (aA, .inl (cI, 862, .inl g45))]) H := hP
      have hD : va_D A ([(q, .inr (12, [.ref aA, .ref aI, .ref aT, .ref aP, .int 0, .int (-1), .int (-1), .int 0, .int 0, .int 0, .int 0, .long 0, .int 0, .int 0, .int 0, .int 0, .ref pI, .int 0, .int 0, .int 0, .int 0, .int 0, .ref nM, .ref vA, .ref tR, .int 0, .int 0, .int 0, .ref rW, .ref sP, .ref oA, .ref bS, .ref aS, .ref aO, .ref cS, .ref wY])), (aA, .inl (cI, 862, .inl g45))]) := hD
      have h3 : g45 3 = (f 3) := by rw [hg45]; exact (pk_un (by decide)).trans h3
      have h8 : g45 8 = 29 := by rw [hg45]; exact (pk_un (by decide)).trans h8
      refine lv_iinc (v := 9) (lv' := [(2, .int 9), (1, .int 846), (0, .ref q)]) hx hb dX12_keep_173 hl (k := 0) rfl (by decide) (by decide) rfl (fun ls hl => ?_)
      refine lv_goto (tgt := 147) hx hb dX12_keep_176 (by decide) ?_
      refine lv_iload_n hx hb dX12_keep_147 rfl (lv_at hl 0 rfl) ?_
      refine lv_bipush (v := 10) hx hb dX12_keep_148 (by decide) ?_
      refine lv_icmp_ge (tgt := 179) hx hb dX12_keep_150 (by decide) (fun h => absurd h (by decide)) (fun c46 => ?_)
      refine lv_aload_n hx hb dX12_keep_153 rfl (lv_at hl 2 rfl) ?_
      refine z_get Z i_X12 hP 0 rfl rfl 0 (by decide) bw_1019 rfl dX12_keep_154 ?_
      refine lv_iload_n hx hb dX12_keep_157 rfl (lv_at hl 1 rfl) ?_
      refine lv_bipush (v := 6) hx hb dX12_keep_158 (by decide) ?_
      refine lv_iadd hx hb dX12_keep_160 ?_
      refine z_topi (y := 852) (by decide) ?_
      refine lv_iload_n hx hb dX12_keep_161 rfl (lv_at hl 0 rfl) ?_
      refine lv_iadd hx hb dX12_keep_162 ?_
      refine z_topi (y := 861) (by decide) ?_
      refine lv_aload_n hx hb dX12_keep_163 rfl (lv_at hl 2 rfl) ?_
      refine z_get Z i_X12 hP 0 rfl rfl 0 (by decide) bw_1019 rfl dX12_keep_164 ?_
      refine lv_bipush (v := 24) hx hb dX12_keep_167 (by decide) ?_
      refine lv_iload_n hx hb dX12_keep_169 rfl (lv_at hl 0 rfl) ?_
      refine lv_iadd hx hb dX12_keep_170 ?_
      refine z_topi (y := 33) (by decide) ?_
      refine z_iald Z hP 1 0 rfl rfl (vin (by decide)) dX12_keep_171 ?_
      refine lv_topi (fun z47 ez47 => ?_)
      refine z_iast Z hP hD hS 1 0 rfl rfl (vin (by decide)) dX12_keep_172 (fun H locs hP hD hS => ?_)
      obtain ⟨g48, hg48⟩ : ∃ g9, g9 = upd g45 (861 : Int32).toNatClampNeg z47 := ⟨_, rfl⟩
      rw [← hg48] at hP hD
      have hP : va_P D vwCl ([(q, .inr (12, [.ref aA, .ref aI, .ref aT, .ref aP, .int 0, .int (-1), .int (-1), .int 0, .int 0, .int 0, .int 0, .long 0, .int 0, .int 0, .int 0, .int 0, .ref pI, .int 0, .int 0, .int 0, .int 0, .int 0, .ref nM, .ref vA, .ref tR, .int 0, .int 0, .int 0, .ref rW, .ref sP, .ref oA, .ref bS, .ref aS, .ref aO, .ref cS, .ref wY])), (aA, .inl (cI, 862, .inl g48))]) H := hP
      have hD : va_D A ([(q, .inr (12, [.ref aA, .ref aI, .ref aT, .ref aP, .int 0, .int (-1), .int (-1), .int 0, .int 0, .int 0, .int 0, .long 0, .int 0, .int 0, .int 0, .int 0, .ref pI, .int 0, .int 0, .int 0, .int 0, .int 0, .ref nM, .ref vA, .ref tR, .int 0, .int 0, .int 0, .ref rW, .ref sP, .ref oA, .ref bS, .ref aS, .ref aO, .ref cS, .ref wY])), (aA, .inl (cI, 862, .inl g48))]) := hD
      have h3 : g48 3 = (f 3) := by rw [hg48]; exact (pk_un (by decide)).trans h3
      have h8 : g48 8 = 29 := by rw [hg48]; exact (pk_un (by decide)).trans h8
      refine lv_iinc (v := 10) (lv' := [(2, .int 10), (1, .int 846), (0, .ref q)]) hx hb dX12_keep_173 hl (k := 0) rfl (by decide) (by decide) rfl (fun ls hl => ?_)
      refine lv_goto (tgt := 147) hx hb dX12_keep_176 (by decide) ?_
      refine lv_iload_n hx hb dX12_keep_147 rfl (lv_at hl 0 rfl) ?_
      refine lv_bipush (v := 10) hx hb dX12_keep_148 (by decide) ?_
      refine lv_icmp_ge (tgt := 179) hx hb dX12_keep_150 (by decide) (fun c49 => ?_) (fun h => absurd (by decide) h)
      refine lv_aload_n hx hb dX12_keep_179 rfl (lv_at hl 2 rfl) ?_
      refine z_get Z i_X12 hP 0 rfl rfl 0 (by decide) bw_1019 rfl dX12_keep_180 ?_
      refine lv_bipush (v := 8) hx hb dX12_keep_183 (by decide) ?_
      refine lv_dup2_11 hx hb dX12_keep_185 rfl rfl ?_
      refine z_iald Z hP 1 0 rfl rfl (vin (by decide)) dX12_keep_186 ?_
      refine z_topi (y := 29) h8 ?_
      refine lv_iconst (v := 1) hx hb dX12_keep_187 (by decide) ?_
      refine lv_iadd hx hb dX12_keep_188 ?_
      refine z_topi (y := 30) (by decide) ?_
      refine z_iast Z hP hD hS 1 0 rfl rfl (vin (by decide)) dX12_keep_189 (fun H locs hP hD hS => ?_)
      obtain ⟨g50, hg50⟩ : ∃ g9, g9 = upd g48 (8 : Int32).toNatClampNeg 30 := ⟨_, rfl⟩
      rw [← hg50] at hP hD
      have hP : va_P D vwCl ([(q, .inr (12, [.ref aA, .ref aI, .ref aT, .ref aP, .int 0, .int (-1), .int (-1), .int 0, .int 0, .int 0, .int 0, .long 0, .int 0, .int 0, .int 0, .int 0, .ref pI, .int 0, .int 0, .int 0, .int 0, .int 0, .ref nM, .ref vA, .ref tR, .int 0, .int 0, .int 0, .ref rW, .ref sP, .ref oA, .ref bS, .ref aS, .ref aO, .ref cS, .ref wY])), (aA, .inl (cI, 862, .inl g50))]) H := hP
      have hD : va_D A ([(q, .inr (12, [.ref aA, .ref aI, .ref aT, .ref aP, .int 0, .int (-1), .int (-1), .int 0, .int 0, .int 0, .int 0, .long 0, .int 0, .int 0, .int 0, .int 0, .ref pI, .int 0, .int 0, .int 0, .int 0, .int 0, .ref nM, .ref vA, .ref tR, .int 0, .int 0, .int 0, .ref rW, .ref sP, .ref oA, .ref bS, .ref aS, .ref aO, .ref cS, .ref wY])), (aA, .inl (cI, 862, .inl g50))]) := hD
      have h3 : g50 3 = (f 3) := by rw [hg50]; exact (pk_un (by decide)).trans h3
      have h8 : g50 8 = 30 := by rw [hg50]; exact pk_us
      exact z_vret Z hP hD hS (⟨_, rfl, h3, h8⟩) dX12_keep_190 (Nat.le_of_ble_eq_true rfl) (Nat.le_of_ble_eq_true rfl)
    · refine lv_aload_n hx hb dX12_keep_21 rfl (lv_at hl 0 rfl) ?_
      refine z_get Z i_X12 hP 0 rfl rfl 0 (by decide) bw_1019 rfl dX12_keep_22 ?_
      refine lv_sipush (v := 382) hx hb dX12_keep_25 (by decide) ?_
      refine lv_iload_n hx hb dX12_keep_28 rfl (lv_at hl 1 rfl) ?_
      refine lv_iadd hx hb dX12_keep_29 ?_
      refine z_topi (y := (nI (382 + i))) (nI_add 382 i) ?_
      refine lv_aload_n hx hb dX12_keep_30 rfl (lv_at hl 0 rfl) ?_
      refine z_get Z i_X12 hP 0 rfl rfl 0 (by decide) bw_1019 rfl dX12_keep_31 ?_
      refine lv_sipush (v := 398) hx hb dX12_keep_34 (by decide) ?_
      refine lv_iload_n hx hb dX12_keep_37 rfl (lv_at hl 1 rfl) ?_
      refine lv_iadd hx hb dX12_keep_38 ?_
      refine z_topi (y := (nI (398 + i))) (nI_add 398 i) ?_
      refine z_iald Z hP 1 0 rfl rfl (vp_in_nI (by (try simp only [zlt, zle, zeq, zl_0, zl_1, zl_2, zl_3, zl_4, zl_5, zl_6, zl_7, zl_8, zl_9, zl_10, zl_11, zl_12, zl_13, zl_19, zl_20, zl_30, zl_64, zl_99, zl_100, zl_299, zl_300, zl_399, zl_999, zl_9999, zl_m1, zl_m2, zl_m3, zl_32, zl_280, zl_862, zl_464, zl_82, zl_382, zl_398, zl_400000000, zl_63] at ei h0 hm c1 ⊢); omega) (by omega)) dX12_keep_39 ?_
      refine lv_topi (fun z51 ez51 => ?_)
      refine z_iast Z hP hD hS 1 0 rfl rfl (vp_in_nI (by (try simp only [zlt, zle, zeq, zl_0, zl_1, zl_2, zl_3, zl_4, zl_5, zl_6, zl_7, zl_8, zl_9, zl_10, zl_11, zl_12, zl_13, zl_19, zl_20, zl_30, zl_64, zl_99, zl_100, zl_299, zl_300, zl_399, zl_999, zl_9999, zl_m1, zl_m2, zl_m3, zl_32, zl_280, zl_862, zl_464, zl_82, zl_382, zl_398, zl_400000000, zl_63] at ei h0 hm c1 ⊢); omega) (by omega)) dX12_keep_40 (fun H locs hP hD hS => ?_)
      rw [nI_clamp (by omega)] at hP hD
      obtain ⟨g52, hg52⟩ : ∃ g9, g9 = upd g0 (382 + i) z51 := ⟨_, rfl⟩
      rw [← hg52] at hP hD
      have hP : va_P D vwCl ([(q, .inr (12, [.ref aA, .ref aI, .ref aT, .ref aP, .int 0, .int (-1), .int (-1), .int 0, .int 0, .int 0, .int 0, .long 0, .int 0, .int 0, .int 0, .int 0, .ref pI, .int 0, .int 0, .int 0, .int 0, .int 0, .ref nM, .ref vA, .ref tR, .int 0, .int 0, .int 0, .ref rW, .ref sP, .ref oA, .ref bS, .ref aS, .ref aO, .ref cS, .ref wY])), (aA, .inl (cI, 862, .inl g52))]) H := hP
      have hD : va_D A ([(q, .inr (12, [.ref aA, .ref aI, .ref aT, .ref aP, .int 0, .int (-1), .int (-1), .int 0, .int 0, .int 0, .int 0, .long 0, .int 0, .int 0, .int 0, .int 0, .ref pI, .int 0, .int 0, .int 0, .int 0, .int 0, .ref nM, .ref vA, .ref tR, .int 0, .int 0, .int 0, .ref rW, .ref sP, .ref oA, .ref bS, .ref aS, .ref aO, .ref cS, .ref wY])), (aA, .inl (cI, 862, .inl g52))]) := hD
      have h3 : g52 3 = (f 3) := by rw [hg52]; exact (pk_un (by omega)).trans h3
      have h8 : g52 8 = 30 := by rw [hg52]; exact (pk_un (by omega)).trans h8
      refine lv_iinc (v := (nI (i + 1))) (lv' := [(1, .int (nI (i + 1))), (0, .ref q)]) hx hb dX12_keep_41 hl (k := 1) rfl (nI_1 i) (by decide) rfl (fun ls hl => ?_)
      refine lv_goto (tgt := 14) hx hb dX12_keep_44 (by decide) ?_
      exact ih (i + 1) g52 (by (try simp only [zlt, zle, zeq, zl_0, zl_1, zl_2, zl_3, zl_4, zl_5, zl_6, zl_7, zl_8, zl_9, zl_10, zl_11, zl_12, zl_13, zl_19, zl_20, zl_30, zl_64, zl_99, zl_100, zl_299, zl_300, zl_399, zl_999, zl_9999, zl_m1, zl_m2, zl_m3, zl_32, zl_280, zl_862, zl_464, zl_82, zl_382, zl_398, zl_400000000, zl_63] at ei h0 hm c1 ⊢); omega) h3 h8 (by (try simp only [zlt, zle, zeq, zl_0, zl_1, zl_2, zl_3, zl_4, zl_5, zl_6, zl_7, zl_8, zl_9, zl_10, zl_11, zl_12, zl_13, zl_19, zl_20, zl_30, zl_64, zl_99, zl_100, zl_299, zl_300, zl_399, zl_999, zl_9999, zl_m1, zl_m2, zl_m3, zl_32, zl_280, zl_862, zl_464, zl_82, zl_382, zl_398, zl_400000000, zl_63] at ei h0 hm c1 ⊢); omega) _ _ _ hP hD hS (lv_sub hl [1, 0] rfl)
set_option maxHeartbeats 4000000 in
set_option maxRecDepth 100000 in
theorem c_X12_keep_30 (l : Launch) (D : va_G) (cI cM cT : ClassId) (q : Nat) (aA : Nat) (aI : Nat) (aT : Nat) (aP : Nat) (pI : Nat) (nM : Nat) (vA : Nat) (tR : Nat) (rW : Nat) (sP : Nat) (oA : Nat) (bS : Nat) (aS : Nat) (aO : Nat) (cS : Nat) (wY : Nat) (f : Nat → Int32) (hf8 : f 8 = 30) : Cv l D (ty3 cI cM cT) yX12_keep cX12_keep 3 0 0 0 [.ref q] ([(q, .inr (12, [.ref aA, .ref aI, .ref aT, .ref aP, .int 0, .int (-1), .int (-1), .int 0, .int 0, .int 0, .int 0, .long 0, .int 0, .int 0, .int 0, .int 0, .ref pI, .int 0, .int 0, .int 0, .int 0, .int 0, .ref nM, .ref vA, .ref tR, .int 0, .int 0, .int 0, .ref rW, .ref sP, .ref oA, .ref bS, .ref aS, .ref aO, .ref cS, .ref wY])), (aA, .inl (cI, 862, .inl f))]) (fun u => ∃ (g : Nat → Int32), u = [(q, .inr (12, [.ref aA, .ref aI, .ref aT, .ref aP, .int 0, .int (-1), .int (-1), .int 0, .int 0, .int 0, .int 0, .long 0, .int 0, .int 0, .int 0, .int 0, .ref pI, .int 0, .int 0, .int 0, .int 0, .int 0, .ref nM, .ref vA, .ref tR, .int 0, .int 0, .int 0, .ref rW, .ref sP, .ref oA, .ref bS, .ref aS, .ref aO, .ref cS, .ref wY])), (aA, .inl (cI, 862, .inl g))] ∧ g 3 = f 3 ∧ g 8 = 30) := by
  refine Cv.of (by decide +kernel) (Nat.le_of_ble_eq_true rfl) ?_
  intro p e s m below meth c A ls Z hin hP hD hl
  have hx := Z.1
  have hb := Z.2.1
  have hS : va_S A s.heap s.heap [] := va_S.rf
  have hl : lv_has ls 3 [(0, .ref q)] := hl
  skip
  have h3 : f 3 = f 3 := rfl
  have h8 := hf8
  refine lv_aload_n hx hb dX12_keep_0 rfl (lv_at hl 0 rfl) ?_
  refine z_get Z i_X12 hP 0 rfl rfl 0 (by decide) bw_1019 rfl dX12_keep_1 ?_
  refine lv_bipush (v := 8) hx hb dX12_keep_4 (by decide) ?_
  refine z_iald Z hP 1 0 rfl rfl (vin (by decide)) dX12_keep_6 ?_
  refine z_topi (y := 30) h8 ?_
  refine lv_bipush (v := 30) hx hb dX12_keep_7 (by decide) ?_
  refine lv_icmp_ne (tgt := 58) hx hb dX12_keep_9 (by decide) (fun h => absurd (by decide) h) (fun c1 => ?_)
  refine lv_iconst (v := 0) hx hb dX12_keep_12 (by decide) ?_
  refine lv_istore_n (lv' := [(1, .int 0), (0, .ref q)]) hx hb dX12_keep_13 rfl hl (by decide) rfl (fun ls hl => ?_)
  refine W.widen (k := 0) (n := 0) (Nat.le_of_ble_eq_true rfl) (Nat.le_of_ble_eq_true rfl) ?_
  exact lp_X12_keep l D cI cM cT q aA aI aT aP pI nM vA tR rW sP oA bS aS aO cS wY f Z hf8  _ 0 f (Nat.zero_le _) h3 h8 (Nat.lt_succ_self _) _ _ _ hP hD hS (lv_sub hl [1, 0] rfl)
set_option maxHeartbeats 4000000 in
set_option maxRecDepth 100000 in
theorem lp_X12_pass {p : Program} (l : Launch) {e : Env} {s : State} {m : MethodId} {below : List Frame} {meth : Method} {c : Code} {A : Nat → Prop} (D : va_G) (cI cM cT : ClassId) (q : Nat) (aA : Nat) (aI : Nat) (aT : Nat) (aP : Nat) (pI : Nat) (nM : Nat) (vA : Nat) (tR : Nat) (rW : Nat) (sP : Nat) (oA : Nat) (bS : Nat) (aS : Nat) (aO : Nat) (cS : Nat) (wY : Nat) (p0 : Int32) (Z : Zx p s m ([.ref q, .int p0] : List Value).toArray meth c cX12_pass 3 (some .int) yX12_pass.cls A (ty3 cI cM cT) D) (hc : 1 ≤ p0 ∧ p0 ≤ 99) : ∀ (n0 : Nat) (i : Nat) (k : Nat) (g0 : Nat → Int32) (h0 : (i : Int) ≤ p0.toInt) (h3 : g0 3 = (nI i)) (h8 : g0 8 = nI k) (hk : k ≤ 30), 100 - i < n0 → ∀ (H : Heap) (locs : List Loc) (ls : Array Slot), va_P D vwCl ([(q, .inr (12, [.ref aA, .ref aI, .ref aT, .ref aP, .int 0, .int (-1), .int (-1), .int 0, .int 0, .int 0, .int 0, .long 0, .int 0, .int 0, .int 0, .int 0, .ref pI, .int 0, .int 0, .int 0, .int 0, .int 0, .ref nM, .ref vA, .ref tR, .int 0, .int 0, .int 0, .ref rW, .ref sP, .ref oA, .ref bS, .ref aS, .ref aO, .ref cS, .ref wY])), (aA, .inl (cI, 862, .inl g0))]) H → va_D A ([(q, .inr (12, [.ref aA, .ref aI, .ref aT, .ref aP, .int 0, .int (-1), .int (-1), .int 0, .int 0, .int 0, .int 0, .long 0, .int 0, .int 0, .int 0, .int 0, .ref pI, .int 0, .int 0, .int 0, .int 0, .int 0, .ref nM, .ref vA, .ref tR, .int 0, .int 0, .int 0, .ref rW, .ref sP, .ref oA, .ref bS, .ref aS, .ref aO, .ref cS, .ref wY])), (aA, .inl (cI, 862, .inl g0))]) → va_S A s.heap H locs → lv_has ls 3 [(0, .ref q), (1, .int p0), (2, .int (nI i))] → W p l e (rmv 3 0 0) s m ([.ref q, .int p0] : List Value).toArray below meth c H locs 0 0 (MQ below (va_Qi (fun r u => r = (if 1 ≤ p0 ∧ p0 ≤ 99 then p0 else (-1))) (cB D (ty3 cI cM cT) A) A) ([.ref q, .int p0] : List Value).toArray s 0 0 A) (F0 m 28 ls []) := by
  have hx := Z.1
  have hb := Z.2.1
  intro n0
  induction n0 with
  | zero => intro i k g0 h0 h3 h8 hk hm; exact absurd hm (Nat.not_lt_zero _)
  | succ n0 ih =>
    intro i k g0 h0 h3 h8 hk hm H locs ls hP hD hS hl
    have hc9 : p0.toInt ≤ 99 := by have := hc.2; simp only [zle, zl_99] at this; exact this
    have ei : (nI i).toInt = (i : Int) := nI_toInt (by omega)
    refine lv_iload_n hx hb dX12_pass_28 rfl (lv_at hl 2 rfl) ?_
    refine lv_iload_n hx hb dX12_pass_29 rfl (lv_at hl 1 rfl) ?_
    refine lv_icmp_ge (tgt := 53) hx hb dX12_pass_30 (by decide) (fun c1 => ?_) (fun c1 => ?_)
    · refine lv_aload_n hx hb dX12_pass_53 rfl (lv_at hl 0 rfl) ?_
      refine z_get Z i_X12 hP 0 rfl rfl 0 (by decide) bw_1019 rfl dX12_pass_54 ?_
      refine lv_iconst (v := 3) hx hb dX12_pass_57 (by decide) ?_
      refine z_iald Z hP 1 0 rfl rfl (vin (by decide)) dX12_pass_58 ?_
      refine z_topi (y := (nI i)) h3 ?_
      exact z_ret Z rfl hP hD hS ((by first | rfl | assumption | (rw [if_pos (by (try simp only [zlt, zle, zeq, zl_0, zl_1, zl_2, zl_3, zl_4, zl_5, zl_6, zl_7, zl_8, zl_9, zl_10, zl_11, zl_12, zl_13, zl_19, zl_20, zl_30, zl_64, zl_99, zl_100, zl_299, zl_300, zl_399, zl_999, zl_9999, zl_m1, zl_m2, zl_m3, zl_32, zl_280, zl_862, zl_464, zl_82, zl_382, zl_398, zl_400000000, zl_63] at ei h0 hm hc hk hc9 c1 ⊢); omega)]; first | done | ((try simp only [zlt, zle, zeq, zl_0, zl_1, zl_2, zl_3, zl_4, zl_5, zl_6, zl_7, zl_8, zl_9, zl_10, zl_11, zl_12, zl_13, zl_19, zl_20, zl_30, zl_64, zl_99, zl_100, zl_299, zl_300, zl_399, zl_999, zl_9999, zl_m1, zl_m2, zl_m3, zl_32, zl_280, zl_862, zl_464, zl_82, zl_382, zl_398, zl_400000000, zl_63] at ei h0 hm hc hk hc9 c1 ⊢); omega)) | (rw [if_neg (by (try simp only [zlt, zle, zeq, zl_0, zl_1, zl_2, zl_3, zl_4, zl_5, zl_6, zl_7, zl_8, zl_9, zl_10, zl_11, zl_12, zl_13, zl_19, zl_20, zl_30, zl_64, zl_99, zl_100, zl_299, zl_300, zl_399, zl_999, zl_9999, zl_m1, zl_m2, zl_m3, zl_32, zl_280, zl_862, zl_464, zl_82, zl_382, zl_398, zl_400000000, zl_63] at ei h0 hm hc hk hc9 c1 ⊢); omega)]; first | done | ((try simp only [zlt, zle, zeq, zl_0, zl_1, zl_2, zl_3, zl_4, zl_5, zl_6, zl_7, zl_8, zl_9, zl_10, zl_11, zl_12, zl_13, zl_19, zl_20, zl_30, zl_64, zl_99, zl_100, zl_299, zl_300, zl_399, zl_999, zl_9999, zl_m1, zl_m2, zl_m3, zl_32, zl_280, zl_862, zl_464, zl_82, zl_382, zl_398, zl_400000000, zl_63] at ei h0 hm hc hk hc9 c1 ⊢); omega)))) dX12_pass_59 (Nat.le_of_ble_eq_true rfl) (Nat.le_of_ble_eq_true rfl)
    · rcases Nat.lt_or_ge k 30 with hk30 | hk30
      · skip
        refine lv_aload_n hx hb dX12_pass_33 rfl (lv_at hl 0 rfl) ?_
        have hPc := hP.sub2 (wc := [(q, .inr (12, [.ref aA, .ref aI, .ref aT, .ref aP, .int 0, .int (-1), .int (-1), .int 0, .int 0, .int 0, .int 0, .long 0, .int 0, .int 0, .int 0, .int 0, .ref pI, .int 0, .int 0, .int 0, .int 0, .int 0, .ref nM, .ref vA, .ref tR, .int 0, .int 0, .int 0, .ref rW, .ref sP, .ref oA, .ref bS, .ref aS, .ref aO, .ref cS, .ref wY])), (aA, .inl (cI, 862, .inl g0))]) [0, 1] rfl
        have hDc := hD.sub (ws' := [(q, .inr (12, [.ref aA, .ref aI, .ref aT, .ref aP, .int 0, .int (-1), .int (-1), .int 0, .int 0, .int 0, .int 0, .long 0, .int 0, .int 0, .int 0, .int 0, .ref pI, .int 0, .int 0, .int 0, .int 0, .int 0, .ref nM, .ref vA, .ref tR, .int 0, .int 0, .int 0, .ref rW, .ref sP, .ref oA, .ref bS, .ref aS, .ref aO, .ref cS, .ref wY])), (aA, .inl (cI, 862, .inl g0))]) [0, 1] (by decide) rfl
        refine raw_Vv (ci := 12) (q0 := 0) (nA := 0) (As := []) (rest := []) Z hl.1 (c_X12_keep_lt l D cI cM cT q aA aI aT aP pI nM vA tR rW sP oA bS aS aO cS wY g0 _ h8 hk30) (bw_V bw_1352 bw_1354 bw_68 bw_92 bw_1355) ⟨by decide +kernel, by decide +kernel, by decide +kernel⟩ rfl ⟨Nat.le_of_ble_eq_true rfl, Nat.le_of_ble_eq_true rfl⟩ rfl rfl rfl hPc hDc hS rfl (Nat.le_of_ble_eq_true rfl) dX12_pass_34 ⟨Nat.le_of_ble_eq_true rfl, Nat.le_of_ble_eq_true rfl⟩ (fun u2 H1 locs1 h4 hku2 hP1 hD1 hS1 => ?_)
        obtain ⟨g_5, rfl, huh4_0, huh4_1⟩ := h4
        obtain ⟨hP, hD⟩ := z_join (wr := []) Z hS hP hD [0, 1] [] rfl (by decide) rfl (by decide) (by decide) hku2 hP1 hD1
        have hS := hS1
        clear hS1
        generalize H1 = H at hP hS ⊢
        generalize locs1 = locs at hS ⊢
        have hP : va_P D vwCl ([(q, .inr (12, [.ref aA, .ref aI, .ref aT, .ref aP, .int 0, .int (-1), .int (-1), .int 0, .int 0, .int 0, .int 0, .long 0, .int 0, .int 0, .int 0, .int 0, .ref pI, .int 0, .int 0, .int 0, .int 0, .int 0, .ref nM, .ref vA, .ref tR, .int 0, .int 0, .int 0, .ref rW, .ref sP, .ref oA, .ref bS, .ref aS, .ref aO, .ref cS, .ref wY])), (aA, .inl (cI, 862, .inl g_5))]) H := hP
        have hD : va_D A ([(q, .inr (12, [.ref aA, .ref aI, .ref aT, .ref aP, .int 0, .int (-1), .int (-1), .int 0, .int 0, .int 0, .int 0, .long 0, .int 0, .int 0, .int 0, .int 0, .ref pI, .int 0, .int 0, .int 0, .int 0, .int 0, .ref nM, .ref vA, .ref tR, .int 0, .int 0, .int 0, .ref rW, .ref sP, .ref oA, .ref bS, .ref aS, .ref aO, .ref cS, .ref wY])), (aA, .inl (cI, 862, .inl g_5))]) := hD
        have h3 := huh4_0.trans h3
        have h8 := huh4_1
        refine lv_aload_n hx hb dX12_pass_37 rfl (lv_at hl 0 rfl) ?_
        refine z_get Z i_X12 hP 0 rfl rfl 0 (by decide) bw_1019 rfl dX12_pass_38 ?_
        refine lv_iconst (v := 3) hx hb dX12_pass_41 (by decide) ?_
        refine lv_dup2_11 hx hb dX12_pass_42 rfl rfl ?_
        refine z_iald Z hP 1 0 rfl rfl (vin (by decide)) dX12_pass_43 ?_
        refine z_topi (y := (nI i)) h3 ?_
        refine lv_iconst (v := 1) hx hb dX12_pass_44 (by decide) ?_
        refine lv_iadd hx hb dX12_pass_45 ?_
        refine z_topi (y := (nI (i + 1))) (nI_add i 1) ?_
        refine z_iast Z hP hD hS 1 0 rfl rfl (vin (by decide)) dX12_pass_46 (fun H locs hP hD hS => ?_)
        obtain ⟨g6, hg6⟩ : ∃ g9, g9 = upd g_5 (3 : Int32).toNatClampNeg (nI (i + 1)) := ⟨_, rfl⟩
        rw [← hg6] at hP hD
        have hP : va_P D vwCl ([(q, .inr (12, [.ref aA, .ref aI, .ref aT, .ref aP, .int 0, .int (-1), .int (-1), .int 0, .int 0, .int 0, .int 0, .long 0, .int 0, .int 0, .int 0, .int 0, .ref pI, .int 0, .int 0, .int 0, .int 0, .int 0, .ref nM, .ref vA, .ref tR, .int 0, .int 0, .int 0, .ref rW, .ref sP, .ref oA, .ref bS, .ref aS, .ref aO, .ref cS, .ref wY])), (aA, .inl (cI, 862, .inl g6))]) H := hP
        have hD : va_D A ([(q, .inr (12, [.ref aA, .ref aI, .ref aT, .ref aP, .int 0, .int (-1), .int (-1), .int 0, .int 0, .int 0, .int 0, .long 0, .int 0, .int 0, .int 0, .int 0, .ref pI, .int 0, .int 0, .int 0, .int 0, .int 0, .ref nM, .ref vA, .ref tR, .int 0, .int 0, .int 0, .ref rW, .ref sP, .ref oA, .ref bS, .ref aS, .ref aO, .ref cS, .ref wY])), (aA, .inl (cI, 862, .inl g6))]) := hD
        have h3 : g6 3 = (nI (i + 1)) := by rw [hg6]; exact pk_us
        have h8 : g6 8 = (nI (k + 1)) := by rw [hg6]; exact (pk_un (by decide)).trans h8
        refine lv_iinc (v := (nI (i + 1))) (lv' := [(2, .int (nI (i + 1))), (0, .ref q), (1, .int p0)]) hx hb dX12_pass_47 hl (k := 2) rfl (nI_1 i) (by decide) rfl (fun ls hl => ?_)
        refine lv_goto (tgt := 28) hx hb dX12_pass_50 (by decide) ?_
        exact ih (i + 1) (k + 1) g6 (by (try simp only [zlt, zle, zeq, zl_0, zl_1, zl_2, zl_3, zl_4, zl_5, zl_6, zl_7, zl_8, zl_9, zl_10, zl_11, zl_12, zl_13, zl_19, zl_20, zl_30, zl_64, zl_99, zl_100, zl_299, zl_300, zl_399, zl_999, zl_9999, zl_m1, zl_m2, zl_m3, zl_32, zl_280, zl_862, zl_464, zl_82, zl_382, zl_398, zl_400000000, zl_63] at ei h0 hm hc hk hc9 c1 ⊢); omega) h3 h8 (by omega) (by (try simp only [zlt, zle, zeq, zl_0, zl_1, zl_2, zl_3, zl_4, zl_5, zl_6, zl_7, zl_8, zl_9, zl_10, zl_11, zl_12, zl_13, zl_19, zl_20, zl_30, zl_64, zl_99, zl_100, zl_299, zl_300, zl_399, zl_999, zl_9999, zl_m1, zl_m2, zl_m3, zl_32, zl_280, zl_862, zl_464, zl_82, zl_382, zl_398, zl_400000000, zl_63] at ei h0 hm hc hk hc9 c1 ⊢); omega) _ _ _ hP hD hS (lv_sub hl [1, 2, 0] rfl)
      · obtain rfl : k = 30 := by omega
        refine lv_aload_n hx hb dX12_pass_33 rfl (lv_at hl 0 rfl) ?_
        have hPc := hP.sub2 (wc := [(q, .inr (12, [.ref aA, .ref aI, .ref aT, .ref aP, .int 0, .int (-1), .int (-1), .int 0, .int 0, .int 0, .int 0, .long 0, .int 0, .int 0, .int 0, .int 0, .ref pI, .int 0, .int 0, .int 0, .int 0, .int 0, .ref nM, .ref vA, .ref tR, .int 0, .int 0, .int 0, .ref rW, .ref sP, .ref oA, .ref bS, .ref aS, .ref aO, .ref cS, .ref wY])), (aA, .inl (cI, 862, .inl g0))]) [0, 1] rfl
        have hDc := hD.sub (ws' := [(q, .inr (12, [.ref aA, .ref aI, .ref aT, .ref aP, .int 0, .int (-1), .int (-1), .int 0, .int 0, .int 0, .int 0, .long 0, .int 0, .int 0, .int 0, .int 0, .ref pI, .int 0, .int 0, .int 0, .int 0, .int 0, .ref nM, .ref vA, .ref tR, .int 0, .int 0, .int 0, .ref rW, .ref sP, .ref oA, .ref bS, .ref aS, .ref aO, .ref cS, .ref wY])), (aA, .inl (cI, 862, .inl g0))]) [0, 1] (by decide) rfl
        refine raw_Vv (ci := 12) (q0 := 0) (nA := 0) (As := []) (rest := []) Z hl.1 (c_X12_keep_30 l D cI cM cT q aA aI aT aP pI nM vA tR rW sP oA bS aS aO cS wY g0 h8) (bw_V bw_1352 bw_1354 bw_68 bw_92 bw_1355) ⟨by decide +kernel, by decide +kernel, by decide +kernel⟩ rfl ⟨Nat.le_of_ble_eq_true rfl, Nat.le_of_ble_eq_true rfl⟩ rfl rfl rfl hPc hDc hS rfl (Nat.le_of_ble_eq_true rfl) dX12_pass_34 ⟨Nat.le_of_ble_eq_true rfl, Nat.le_of_ble_eq_true rfl⟩ (fun u7 H1 locs1 h9 hku7 hP1 hD1 hS1 => ?_)
        obtain ⟨g_10, rfl, huh9_0, huh9_1⟩ := h9
        obtain ⟨hP, hD⟩ := z_join (wr := []) Z hS hP hD [0, 1] [] rfl (by decide) rfl (by decide) (by decide) hku7 hP1 hD1
        have hS := hS1
        clear hS1
        generalize H1 = H at hP hS ⊢
        generalize locs1 = locs at hS ⊢
        have hP : va_P D vwCl ([(q, .inr (12, [.ref aA, .ref aI, .ref aT, .ref aP, .int 0, .int (-1), .int (-1), .int 0, .int 0, .int 0, .int 0, .long 0, .int 0, .int 0, .int 0, .int 0, .ref pI, .int 0, .int 0, .int 0, .int 0, .int 0, .ref nM, .ref vA, .ref tR, .int 0, .int 0, .int 0, .ref rW, .ref sP, .ref oA, .ref bS, .ref aS, .ref aO, .ref cS, .ref wY])), (aA, .inl (cI, 862, .inl g_10))]) H := hP
        have hD : va_D A ([(q, .inr (12, [.ref aA, .ref aI, .ref aT, .ref aP, .int 0, .int (-1), .int (-1), .int 0, .int 0, .int 0, .int 0, .long 0, .int 0, .int 0, .int 0, .int 0, .ref pI, .int 0, .int 0, .int 0, .int 0, .int 0, .ref nM, .ref vA, .ref tR, .int 0, .int 0, .int 0, .ref rW, .ref sP, .ref oA, .ref bS, .ref aS, .ref aO, .ref cS, .ref wY])), (aA, .inl (cI, 862, .inl g_10))]) := hD
        have h3 := huh9_0.trans h3
        have h8 := huh9_1
        refine lv_aload_n hx hb dX12_pass_37 rfl (lv_at hl 0 rfl) ?_
        refine z_get Z i_X12 hP 0 rfl rfl 0 (by decide) bw_1019 rfl dX12_pass_38 ?_
        refine lv_iconst (v := 3) hx hb dX12_pass_41 (by decide) ?_
        refine lv_dup2_11 hx hb dX12_pass_42 rfl rfl ?_
        refine z_iald Z hP 1 0 rfl rfl (vin (by decide)) dX12_pass_43 ?_
        refine z_topi (y := (nI i)) h3 ?_
        refine lv_iconst (v := 1) hx hb dX12_pass_44 (by decide) ?_
        refine lv_iadd hx hb dX12_pass_45 ?_
        refine z_topi (y := (nI (i + 1))) (nI_add i 1) ?_
        refine z_iast Z hP hD hS 1 0 rfl rfl (vin (by decide)) dX12_pass_46 (fun H locs hP hD hS => ?_)
        obtain ⟨g11, hg11⟩ : ∃ g9, g9 = upd g_10 (3 : Int32).toNatClampNeg (nI (i + 1)) := ⟨_, rfl⟩
        rw [← hg11] at hP hD
        have hP : va_P D vwCl ([(q, .inr (12, [.ref aA, .ref aI, .ref aT, .ref aP, .int 0, .int (-1), .int (-1), .int 0, .int 0, .int 0, .int 0, .long 0, .int 0, .int 0, .int 0, .int 0, .ref pI, .int 0, .int 0, .int 0, .int 0, .int 0, .ref nM, .ref vA, .ref tR, .int 0, .int 0, .int 0, .ref rW, .ref sP, .ref oA, .ref bS, .ref aS, .ref aO, .ref cS, .ref wY])), (aA, .inl (cI, 862, .inl g11))]) H := hP
        have hD : va_D A ([(q, .inr (12, [.ref aA, .ref aI, .ref aT, .ref aP, .int 0, .int (-1), .int (-1), .int 0, .int 0, .int 0, .int 0, .long 0, .int 0, .int 0, .int 0, .int 0, .ref pI, .int 0, .int 0, .int 0, .int 0, .int 0, .ref nM, .ref vA, .ref tR, .int 0, .int 0, .int 0, .ref rW, .ref sP, .ref oA, .ref bS, .ref aS, .ref aO, .ref cS, .ref wY])), (aA, .inl (cI, 862, .inl g11))]) := hD
        have h3 : g11 3 = (nI (i + 1)) := by rw [hg11]; exact pk_us
        have h8 : g11 8 = 30 := by rw [hg11]; exact (pk_un (by decide)).trans h8
        refine lv_iinc (v := (nI (i + 1))) (lv' := [(2, .int (nI (i + 1))), (0, .ref q), (1, .int p0)]) hx hb dX12_pass_47 hl (k := 2) rfl (nI_1 i) (by decide) rfl (fun ls hl => ?_)
        refine lv_goto (tgt := 28) hx hb dX12_pass_50 (by decide) ?_
        exact ih (i + 1) 30 g11 (by (try simp only [zlt, zle, zeq, zl_0, zl_1, zl_2, zl_3, zl_4, zl_5, zl_6, zl_7, zl_8, zl_9, zl_10, zl_11, zl_12, zl_13, zl_19, zl_20, zl_30, zl_64, zl_99, zl_100, zl_299, zl_300, zl_399, zl_999, zl_9999, zl_m1, zl_m2, zl_m3, zl_32, zl_280, zl_862, zl_464, zl_82, zl_382, zl_398, zl_400000000, zl_63] at ei h0 hm hc hk hc9 c1 ⊢); omega) h3 h8 (by omega) (by (try simp only [zlt, zle, zeq, zl_0, zl_1, zl_2, zl_3, zl_4, zl_5, zl_6, zl_7, zl_8, zl_9, zl_10, zl_11, zl_12, zl_13, zl_19, zl_20, zl_30, zl_64, zl_99, zl_100, zl_299, zl_300, zl_399, zl_999, zl_9999, zl_m1, zl_m2, zl_m3, zl_32, zl_280, zl_862, zl_464, zl_82, zl_382, zl_398, zl_400000000, zl_63] at ei h0 hm hc hk hc9 c1 ⊢); omega) _ _ _ hP hD hS (lv_sub hl [1, 2, 0] rfl)
set_option maxHeartbeats 4000000 in
set_option maxRecDepth 100000 in
theorem c_X12_pass (l : Launch) (D : va_G) (cI cM cT : ClassId) (q : Nat) (aA : Nat) (aI : Nat) (aT : Nat) (aP : Nat) (pI : Nat) (nM : Nat) (vA : Nat) (tR : Nat) (rW : Nat) (sP : Nat) (oA : Nat) (bS : Nat) (aS : Nat) (aO : Nat) (cS : Nat) (wY : Nat) (p0 : Int32) : Ci l D (ty3 cI cM cT) yX12_pass cX12_pass 3 (some .int) 3 0 0 [.ref q, .int p0] ([(q, .inr (12, [.ref aA, .ref aI, .ref aT, .ref aP, .int 0, .int (-1), .int (-1), .int 0, .int 0, .int 0, .int 0, .long 0, .int 0, .int 0, .int 0, .int 0, .ref pI, .int 0, .int 0, .int 0, .int 0, .int 0, .ref nM, .ref vA, .ref tR, .int 0, .int 0, .int 0, .ref rW, .ref sP, .ref oA, .ref bS, .ref aS, .ref aO, .ref cS, .ref wY])), (aA, .inl (cI, 862, .inl af0))]) (fun r u => r = (if 1 ≤ p0 ∧ p0 ≤ 99 then p0 else (-1))) := by
  refine Ci.of (by decide +kernel) (Nat.le_of_ble_eq_true rfl) ?_
  intro p e s m below meth c A ls Z hin hP hD hl
  have hx := Z.1
  have hb := Z.2.1
  have hS : va_S A s.heap s.heap [] := va_S.rf
  have hl : lv_has ls 3 [(0, .ref q), (1, .int p0)] := hl
  skip
  refine lv_iload_n hx hb dX12_pass_0 rfl (lv_at hl 1 rfl) ?_
  refine lv_iconst (v := 1) hx hb dX12_pass_1 (by decide) ?_
  refine lv_bipush (v := 99) hx hb dX12_pass_2 (by decide) ?_
  have hPc := hP.sub2 (wc := []) [] rfl
  have hDc := hD.sub (ws' := []) [] (by decide) rfl
  refine raw_Si (nA := 3) (As := [.int p0, .int 1, .int 99]) (rest := []) Z hl.1 (c_X12_isIn l D cI cM cT p0 1 99) (bw_S bw_1135 bw_1136 bw_92 bw_1137) ⟨by decide +kernel, by decide +kernel, by decide +kernel⟩ rfl ⟨Nat.le_of_ble_eq_true rfl, Nat.le_of_ble_eq_true rfl⟩ hPc hDc hS rfl (Nat.le_of_ble_eq_true rfl) dX12_pass_4 ⟨Nat.le_of_ble_eq_true rfl, Nat.le_of_ble_eq_true rfl⟩ (fun r2 u1 H1 locs1 h3 hku1 hP1 hD1 hS1 => ?_)
  obtain ⟨hrh3, rfl⟩ := h3
  obtain ⟨hP, hD⟩ := z_join (wr := [(q, .inr (12, [.ref aA, .ref aI, .ref aT, .ref aP, .int 0, .int (-1), .int (-1), .int 0, .int 0, .int 0, .int 0, .long 0, .int 0, .int 0, .int 0, .int 0, .ref pI, .int 0, .int 0, .int 0, .int 0, .int 0, .ref nM, .ref vA, .ref tR, .int 0, .int 0, .int 0, .ref rW, .ref sP, .ref oA, .ref bS, .ref aS, .ref aO, .ref cS, .ref wY])), (aA, .inl (cI, 862, .inl af0))]) Z hS hP hD [] [0, 1] rfl (by decide) rfl (by decide) (by decide) hku1 hP1 hD1
  have hS := hS1
  clear hS1
  generalize H1 = H at hP hS ⊢
  generalize locs1 = locs at hS ⊢
  have hP : va_P D vwCl ([(q, .inr (12, [.ref aA, .ref aI, .ref aT, .ref aP, .int 0, .int (-1), .int (-1), .int 0, .int 0, .int 0, .int 0, .long 0, .int 0, .int 0, .int 0, .int 0, .ref pI, .int 0, .int 0, .int 0, .int 0, .int 0, .ref nM, .ref vA, .ref tR, .int 0, .int 0, .int 0, .ref rW, .ref sP, .ref oA, .ref bS, .ref aS, .ref aO, .ref cS, .ref wY])), (aA, .inl (cI, 862, .inl af0))]) H := hP
  have hD : va_D A ([(q, .inr (12, [.ref aA, .ref aI, .ref aT, .ref aP, .int 0, .int (-1), .int (-1), .int 0, .int 0, .int 0, .int 0, .long 0, .int 0, .int 0, .int 0, .int 0, .ref pI, .int 0, .int 0, .int 0, .int 0, .int 0, .ref nM, .ref vA, .ref tR, .int 0, .int 0, .int 0, .ref rW, .ref sP, .ref oA, .ref bS, .ref aS, .ref aO, .ref cS, .ref wY])), (aA, .inl (cI, 862, .inl af0))]) := hD
  by_cases c4 : 1 ≤ p0 ∧ p0 ≤ 99
  · obtain rfl : r2 = 1 := by rw [hrh3, if_pos c4]
    refine lv_if_eq (tgt := 24) hx hb dX12_pass_7 (by decide) (fun h => absurd h (by decide)) (fun c5 => ?_)
    refine lv_aload_n hx hb dX12_pass_10 rfl (lv_at hl 0 rfl) ?_
    refine z_get Z i_X12 hP 0 rfl rfl 0 (by decide) bw_1019 rfl dX12_pass_11 ?_
    refine lv_iconst (v := 3) hx hb dX12_pass_14 (by decide) ?_
    refine z_iald Z hP 1 0 rfl rfl (vin (by decide)) dX12_pass_15 ?_
    refine z_topi (y := 0) rfl ?_
    refine lv_iload_n hx hb dX12_pass_16 rfl (lv_at hl 1 rfl) ?_
    refine lv_iadd hx hb dX12_pass_17 ?_
    refine z_topi (y := p0) (Int32.zero_add _) ?_
    refine lv_sipush (v := 999) hx hb dX12_pass_18 (by decide) ?_
    refine lv_icmp_le (tgt := 26) hx hb dX12_pass_21 (by decide) (fun c6 => ?_) (fun c6 => ?_)
    · refine lv_iconst (v := 0) hx hb dX12_pass_26 (by decide) ?_
      refine lv_istore_n (lv' := [(2, .int 0), (0, .ref q), (1, .int p0)]) hx hb dX12_pass_27 rfl hl (by decide) rfl (fun ls hl => ?_)
      refine W.widen (k := 0) (n := 0) (Nat.le_of_ble_eq_true rfl) (Nat.le_of_ble_eq_true rfl) ?_
      exact lp_X12_pass l D cI cM cT q aA aI aT aP pI nM vA tR rW sP oA bS aS aO cS wY p0 Z  (by (try simp only [zlt, zle, zeq, zl_0, zl_1, zl_2, zl_3, zl_4, zl_5, zl_6, zl_7, zl_8, zl_9, zl_10, zl_11, zl_12, zl_13, zl_19, zl_20, zl_30, zl_64, zl_99, zl_100, zl_299, zl_300, zl_399, zl_999, zl_9999, zl_m1, zl_m2, zl_m3, zl_32, zl_280, zl_862, zl_464, zl_82, zl_382, zl_398, zl_400000000, zl_63] at c4 c5 c6 ⊢); omega) _ 0 0 af0 (by (try simp only [zlt, zle, zeq, zl_0, zl_1, zl_2, zl_3, zl_4, zl_5, zl_6, zl_7, zl_8, zl_9, zl_10, zl_11, zl_12, zl_13, zl_19, zl_20, zl_30, zl_64, zl_99, zl_100, zl_299, zl_300, zl_399, zl_999, zl_9999, zl_m1, zl_m2, zl_m3, zl_32, zl_280, zl_862, zl_464, zl_82, zl_382, zl_398, zl_400000000, zl_63] at c4 c5 c6 ⊢); omega) rfl rfl (by omega) (Nat.lt_succ_self _) _ _ _ hP hD hS (lv_sub hl [1, 2, 0] rfl)
    · refine lv_iconst (v := (-1)) hx hb dX12_pass_24 (by decide) ?_
      exact z_ret Z rfl hP hD hS ((by first | rfl | assumption | (rw [if_pos (by (try simp only [zlt, zle, zeq, zl_0, zl_1, zl_2, zl_3, zl_4, zl_5, zl_6, zl_7, zl_8, zl_9, zl_10, zl_11, zl_12, zl_13, zl_19, zl_20, zl_30, zl_64, zl_99, zl_100, zl_299, zl_300, zl_399, zl_999, zl_9999, zl_m1, zl_m2, zl_m3, zl_32, zl_280, zl_862, zl_464, zl_82, zl_382, zl_398, zl_400000000, zl_63] at c4 c5 c6 ⊢); omega)]; first | done | ((try simp only [zlt, zle, zeq, zl_0, zl_1, zl_2, zl_3, zl_4, zl_5, zl_6, zl_7, zl_8, zl_9, zl_10, zl_11, zl_12, zl_13, zl_19, zl_20, zl_30, zl_64, zl_99, zl_100, zl_299, zl_300, zl_399, zl_999, zl_9999, zl_m1, zl_m2, zl_m3, zl_32, zl_280, zl_862, zl_464, zl_82, zl_382, zl_398, zl_400000000, zl_63] at c4 c5 c6 ⊢); omega)) | (rw [if_neg (by (try simp only [zlt, zle, zeq, zl_0, zl_1, zl_2, zl_3, zl_4, zl_5, zl_6, zl_7, zl_8, zl_9, zl_10, zl_11, zl_12, zl_13, zl_19, zl_20, zl_30, zl_64, zl_99, zl_100, zl_299, zl_300, zl_399, zl_999, zl_9999, zl_m1, zl_m2, zl_m3, zl_32, zl_280, zl_862, zl_464, zl_82, zl_382, zl_398, zl_400000000, zl_63] at c4 c5 c6 ⊢); omega)]; first | done | ((try simp only [zlt, zle, zeq, zl_0, zl_1, zl_2, zl_3, zl_4, zl_5, zl_6, zl_7, zl_8, zl_9, zl_10, zl_11, zl_12, zl_13, zl_19, zl_20, zl_30, zl_64, zl_99, zl_100, zl_299, zl_300, zl_399, zl_999, zl_9999, zl_m1, zl_m2, zl_m3, zl_32, zl_280, zl_862, zl_464, zl_82, zl_382, zl_398, zl_400000000, zl_63] at c4 c5 c6 ⊢); omega)))) dX12_pass_25 (Nat.le_of_ble_eq_true rfl) (Nat.le_of_ble_eq_true rfl)
  · obtain rfl : r2 = 0 := by rw [hrh3, if_neg c4]
    refine lv_if_eq (tgt := 24) hx hb dX12_pass_7 (by decide) (fun c7 => ?_) (fun h => absurd (by decide) h)
    refine lv_iconst (v := (-1)) hx hb dX12_pass_24 (by decide) ?_
    exact z_ret Z rfl hP hD hS ((by first | rfl | assumption | (rw [if_pos (by (try simp only [zlt, zle, zeq, zl_0, zl_1, zl_2, zl_3, zl_4, zl_5, zl_6, zl_7, zl_8, zl_9, zl_10, zl_11, zl_12, zl_13, zl_19, zl_20, zl_30, zl_64, zl_99, zl_100, zl_299, zl_300, zl_399, zl_999, zl_9999, zl_m1, zl_m2, zl_m3, zl_32, zl_280, zl_862, zl_464, zl_82, zl_382, zl_398, zl_400000000, zl_63] at c4 c7 ⊢); omega)]; first | done | ((try simp only [zlt, zle, zeq, zl_0, zl_1, zl_2, zl_3, zl_4, zl_5, zl_6, zl_7, zl_8, zl_9, zl_10, zl_11, zl_12, zl_13, zl_19, zl_20, zl_30, zl_64, zl_99, zl_100, zl_299, zl_300, zl_399, zl_999, zl_9999, zl_m1, zl_m2, zl_m3, zl_32, zl_280, zl_862, zl_464, zl_82, zl_382, zl_398, zl_400000000, zl_63] at c4 c7 ⊢); omega)) | (rw [if_neg (by (try simp only [zlt, zle, zeq, zl_0, zl_1, zl_2, zl_3, zl_4, zl_5, zl_6, zl_7, zl_8, zl_9, zl_10, zl_11, zl_12, zl_13, zl_19, zl_20, zl_30, zl_64, zl_99, zl_100, zl_299, zl_300, zl_399, zl_999, zl_9999, zl_m1, zl_m2, zl_m3, zl_32, zl_280, zl_862, zl_464, zl_82, zl_382, zl_398, zl_400000000, zl_63] at c4 c7 ⊢); omega)]; first | done | ((try simp only [zlt, zle, zeq, zl_0, zl_1, zl_2, zl_3, zl_4, zl_5, zl_6, zl_7, zl_8, zl_9, zl_10, zl_11, zl_12, zl_13, zl_19, zl_20, zl_30, zl_64, zl_99, zl_100, zl_299, zl_300, zl_399, zl_999, zl_9999, zl_m1, zl_m2, zl_m3, zl_32, zl_280, zl_862, zl_464, zl_82, zl_382, zl_398, zl_400000000, zl_63] at c4 c7 ⊢); omega)))) dX12_pass_25 (Nat.le_of_ble_eq_true rfl) (Nat.le_of_ble_eq_true rfl)
