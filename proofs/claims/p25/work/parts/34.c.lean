theorem dX12_nameOf_0 : decode cX12_nameOf 0 = .ok (.aload_n 0, 1) := by decide +kernel
theorem dX12_nameOf_1 : decode cX12_nameOf 1 = .ok (.getfield 96, 3) := by decide +kernel
theorem dX12_nameOf_4 : decode cX12_nameOf 4 = .ok (.iconst 2, 1) := by decide +kernel
theorem dX12_nameOf_5 : decode cX12_nameOf 5 = .ok (.if_icmp .eq 5, 3) := by decide +kernel
theorem dX12_nameOf_8 : decode cX12_nameOf 8 = .ok (.iconst (-1), 1) := by decide +kernel
theorem dX12_nameOf_9 : decode cX12_nameOf 9 = .ok (.ireturn, 1) := by decide +kernel
theorem dX12_nameOf_10 : decode cX12_nameOf 10 = .ok (.aload_n 0, 1) := by decide +kernel
theorem dX12_nameOf_11 : decode cX12_nameOf 11 = .ok (.getfield 109, 3) := by decide +kernel
theorem dX12_nameOf_14 : decode cX12_nameOf 14 = .ok (.bipush 104, 2) := by decide +kernel
theorem dX12_nameOf_16 : decode cX12_nameOf 16 = .ok (.bipush 111, 2) := by decide +kernel
theorem dX12_nameOf_18 : decode cX12_nameOf 18 = .ok (.bipush 114, 2) := by decide +kernel
theorem dX12_nameOf_20 : decode cX12_nameOf 20 = .ok (.bipush 115, 2) := by decide +kernel
theorem dX12_nameOf_22 : decode cX12_nameOf 22 = .ok (.bipush 101, 2) := by decide +kernel
theorem dX12_nameOf_24 : decode cX12_nameOf 24 = .ok (.invokestatic 117, 3) := by decide +kernel
theorem dX12_nameOf_27 : decode cX12_nameOf 27 = .ok (.lcmp, 1) := by decide +kernel
theorem dX12_nameOf_28 : decode cX12_nameOf 28 = .ok (.ifCond .ne 5, 3) := by decide +kernel
theorem dX12_nameOf_31 : decode cX12_nameOf 31 = .ok (.iconst 0, 1) := by decide +kernel
theorem dX12_nameOf_32 : decode cX12_nameOf 32 = .ok (.ireturn, 1) := by decide +kernel
theorem dX12_nameOf_33 : decode cX12_nameOf 33 = .ok (.aload_n 0, 1) := by decide +kernel
theorem dX12_nameOf_34 : decode cX12_nameOf 34 = .ok (.getfield 109, 3) := by decide +kernel
theorem dX12_nameOf_37 : decode cX12_nameOf 37 = .ok (.bipush 99, 2) := by decide +kernel
theorem dX12_nameOf_39 : decode cX12_nameOf 39 = .ok (.bipush 111, 2) := by decide +kernel
theorem dX12_nameOf_41 : decode cX12_nameOf 41 = .ok (.bipush 117, 2) := by decide +kernel
theorem dX12_nameOf_43 : decode cX12_nameOf 43 = .ok (.bipush 110, 2) := by decide +kernel
theorem dX12_nameOf_45 : decode cX12_nameOf 45 = .ok (.bipush 116, 2) := by decide +kernel
theorem dX12_nameOf_47 : decode cX12_nameOf 47 = .ok (.invokestatic 117, 3) := by decide +kernel
theorem dX12_nameOf_50 : decode cX12_nameOf 50 = .ok (.lcmp, 1) := by decide +kernel
theorem dX12_nameOf_51 : decode cX12_nameOf 51 = .ok (.ifCond .ne 5, 3) := by decide +kernel
theorem dX12_nameOf_54 : decode cX12_nameOf 54 = .ok (.iconst 1, 1) := by decide +kernel
theorem dX12_nameOf_55 : decode cX12_nameOf 55 = .ok (.ireturn, 1) := by decide +kernel
theorem dX12_nameOf_56 : decode cX12_nameOf 56 = .ok (.aload_n 0, 1) := by decide +kernel
theorem dX12_nameOf_57 : decode cX12_nameOf 57 = .ok (.getfield 109, 3) := by decide +kernel
theorem dX12_nameOf_60 : decode cX12_nameOf 60 = .ok (.bipush 115, 2) := by decide +kernel
theorem dX12_nameOf_62 : decode cX12_nameOf 62 = .ok (.bipush 104, 2) := by decide +kernel
theorem dX12_nameOf_64 : decode cX12_nameOf 64 = .ok (.bipush 111, 2) := by decide +kernel
theorem dX12_nameOf_66 : decode cX12_nameOf 66 = .ok (.bipush 101, 2) := by decide +kernel
theorem dX12_nameOf_68 : decode cX12_nameOf 68 = .ok (.invokestatic 201, 3) := by decide +kernel
theorem dX12_nameOf_71 : decode cX12_nameOf 71 = .ok (.lcmp, 1) := by decide +kernel
theorem dX12_nameOf_72 : decode cX12_nameOf 72 = .ok (.ifCond .ne 5, 3) := by decide +kernel
theorem dX12_nameOf_75 : decode cX12_nameOf 75 = .ok (.iconst 2, 1) := by decide +kernel
theorem dX12_nameOf_76 : decode cX12_nameOf 76 = .ok (.ireturn, 1) := by decide +kernel
theorem dX12_nameOf_77 : decode cX12_nameOf 77 = .ok (.aload_n 0, 1) := by decide +kernel
theorem dX12_nameOf_78 : decode cX12_nameOf 78 = .ok (.getfield 109, 3) := by decide +kernel
theorem dX12_nameOf_81 : decode cX12_nameOf 81 = .ok (.bipush 100, 2) := by decide +kernel
theorem dX12_nameOf_83 : decode cX12_nameOf 83 = .ok (.bipush 97, 2) := by decide +kernel
theorem dX12_nameOf_85 : decode cX12_nameOf 85 = .ok (.bipush 121, 2) := by decide +kernel
theorem dX12_nameOf_87 : decode cX12_nameOf 87 = .ok (.invokestatic 113, 3) := by decide +kernel
theorem dX12_nameOf_90 : decode cX12_nameOf 90 = .ok (.lcmp, 1) := by decide +kernel
theorem dX12_nameOf_91 : decode cX12_nameOf 91 = .ok (.ifCond .ne 5, 3) := by decide +kernel
theorem dX12_nameOf_94 : decode cX12_nameOf 94 = .ok (.iconst 3, 1) := by decide +kernel
theorem dX12_nameOf_95 : decode cX12_nameOf 95 = .ok (.ireturn, 1) := by decide +kernel
theorem dX12_nameOf_96 : decode cX12_nameOf 96 = .ok (.aload_n 0, 1) := by decide +kernel
theorem dX12_nameOf_97 : decode cX12_nameOf 97 = .ok (.getfield 109, 3) := by decide +kernel
theorem dX12_nameOf_100 : decode cX12_nameOf 100 = .ok (.bipush 109, 2) := by decide +kernel
theorem dX12_nameOf_102 : decode cX12_nameOf 102 = .ok (.bipush 117, 2) := by decide +kernel
theorem dX12_nameOf_104 : decode cX12_nameOf 104 = .ok (.bipush 100, 2) := by decide +kernel
theorem dX12_nameOf_106 : decode cX12_nameOf 106 = .ok (.invokestatic 113, 3) := by decide +kernel
theorem dX12_nameOf_109 : decode cX12_nameOf 109 = .ok (.lcmp, 1) := by decide +kernel
theorem dX12_nameOf_110 : decode cX12_nameOf 110 = .ok (.ifCond .ne 5, 3) := by decide +kernel
theorem dX12_nameOf_113 : decode cX12_nameOf 113 = .ok (.iconst 4, 1) := by decide +kernel
theorem dX12_nameOf_114 : decode cX12_nameOf 114 = .ok (.ireturn, 1) := by decide +kernel
theorem dX12_nameOf_115 : decode cX12_nameOf 115 = .ok (.aload_n 0, 1) := by decide +kernel
theorem dX12_nameOf_116 : decode cX12_nameOf 116 = .ok (.getfield 109, 3) := by decide +kernel
theorem dX12_nameOf_119 : decode cX12_nameOf 119 = .ok (.bipush 112, 2) := by decide +kernel
theorem dX12_nameOf_121 : decode cX12_nameOf 121 = .ok (.bipush 108, 2) := by decide +kernel
theorem dX12_nameOf_123 : decode cX12_nameOf 123 = .ok (.bipush 97, 2) := by decide +kernel
theorem dX12_nameOf_125 : decode cX12_nameOf 125 = .ok (.bipush 99, 2) := by decide +kernel
theorem dX12_nameOf_127 : decode cX12_nameOf 127 = .ok (.bipush 101, 2) := by decide +kernel
theorem dX12_nameOf_129 : decode cX12_nameOf 129 = .ok (.invokestatic 117, 3) := by decide +kernel
theorem dX12_nameOf_132 : decode cX12_nameOf 132 = .ok (.lcmp, 1) := by decide +kernel
theorem dX12_nameOf_133 : decode cX12_nameOf 133 = .ok (.ifCond .ne 5, 3) := by decide +kernel
theorem dX12_nameOf_136 : decode cX12_nameOf 136 = .ok (.iconst 5, 1) := by decide +kernel
theorem dX12_nameOf_137 : decode cX12_nameOf 137 = .ok (.ireturn, 1) := by decide +kernel
theorem dX12_nameOf_138 : decode cX12_nameOf 138 = .ok (.aload_n 0, 1) := by decide +kernel
theorem dX12_nameOf_139 : decode cX12_nameOf 139 = .ok (.getfield 109, 3) := by decide +kernel
theorem dX12_nameOf_142 : decode cX12_nameOf 142 = .ok (.bipush 115, 2) := by decide +kernel
theorem dX12_nameOf_144 : decode cX12_nameOf 144 = .ok (.bipush 116, 2) := by decide +kernel
theorem dX12_nameOf_146 : decode cX12_nameOf 146 = .ok (.bipush 101, 2) := by decide +kernel
theorem dX12_nameOf_148 : decode cX12_nameOf 148 = .ok (.bipush 112, 2) := by decide +kernel
theorem dX12_nameOf_150 : decode cX12_nameOf 150 = .ok (.invokestatic 201, 3) := by decide +kernel
theorem dX12_nameOf_153 : decode cX12_nameOf 153 = .ok (.lcmp, 1) := by decide +kernel
theorem dX12_nameOf_154 : decode cX12_nameOf 154 = .ok (.ifCond .ne 8, 3) := by decide +kernel
theorem dX12_nameOf_157 : decode cX12_nameOf 157 = .ok (.bipush 6, 2) := by decide +kernel
theorem dX12_nameOf_159 : decode cX12_nameOf 159 = .ok (.goto 28, 3) := by decide +kernel
theorem dX12_nameOf_162 : decode cX12_nameOf 162 = .ok (.aload_n 0, 1) := by decide +kernel
theorem dX12_nameOf_163 : decode cX12_nameOf 163 = .ok (.getfield 109, 3) := by decide +kernel
theorem dX12_nameOf_166 : decode cX12_nameOf 166 = .ok (.bipush 103, 2) := by decide +kernel
theorem dX12_nameOf_168 : decode cX12_nameOf 168 = .ok (.bipush 111, 2) := by decide +kernel
theorem dX12_nameOf_170 : decode cX12_nameOf 170 = .ok (.bipush 110, 2) := by decide +kernel
theorem dX12_nameOf_172 : decode cX12_nameOf 172 = .ok (.bipush 101, 2) := by decide +kernel
theorem dX12_nameOf_174 : decode cX12_nameOf 174 = .ok (.invokestatic 201, 3) := by decide +kernel
theorem dX12_nameOf_177 : decode cX12_nameOf 177 = .ok (.lcmp, 1) := by decide +kernel
theorem dX12_nameOf_178 : decode cX12_nameOf 178 = .ok (.ifCond .ne 8, 3) := by decide +kernel
theorem dX12_nameOf_181 : decode cX12_nameOf 181 = .ok (.bipush 7, 2) := by decide +kernel
theorem dX12_nameOf_183 : decode cX12_nameOf 183 = .ok (.goto 4, 3) := by decide +kernel
theorem dX12_nameOf_186 : decode cX12_nameOf 186 = .ok (.iconst (-1), 1) := by decide +kernel
theorem dX12_nameOf_187 : decode cX12_nameOf 187 = .ok (.ireturn, 1) := by decide +kernel
theorem dX12_isOf_0 : decode cX12_isOf 0 = .ok (.iload_n 1, 1) := by decide +kernel
theorem dX12_isOf_1 : decode cX12_isOf 1 = .ok (.iconst 4, 1) := by decide +kernel
theorem dX12_isOf_2 : decode cX12_isOf 2 = .ok (.if_icmp .ge 5, 3) := by decide +kernel
theorem dX12_isOf_5 : decode cX12_isOf 5 = .ok (.iconst 1, 1) := by decide +kernel
theorem dX12_isOf_6 : decode cX12_isOf 6 = .ok (.ireturn, 1) := by decide +kernel
theorem dX12_isOf_7 : decode cX12_isOf 7 = .ok (.iload_n 1, 1) := by decide +kernel
theorem dX12_isOf_8 : decode cX12_isOf 8 = .ok (.bipush 6, 2) := by decide +kernel
theorem dX12_isOf_10 : decode cX12_isOf 10 = .ok (.if_icmp .ge 19, 3) := by decide +kernel
theorem dX12_isOf_13 : decode cX12_isOf 13 = .ok (.aload_n 0, 1) := by decide +kernel
theorem dX12_isOf_14 : decode cX12_isOf 14 = .ok (.getfield 205, 3) := by decide +kernel
theorem dX12_isOf_17 : decode cX12_isOf 17 = .ok (.iconst 2, 1) := by decide +kernel
theorem dX12_isOf_18 : decode cX12_isOf 18 = .ok (.if_icmp .eq 7, 3) := by decide +kernel
theorem dX12_isOf_21 : decode cX12_isOf 21 = .ok (.iconst 1, 1) := by decide +kernel
theorem dX12_isOf_22 : decode cX12_isOf 22 = .ok (.goto 42, 3) := by decide +kernel
theorem dX12_isOf_25 : decode cX12_isOf 25 = .ok (.iconst 0, 1) := by decide +kernel
theorem dX12_isOf_26 : decode cX12_isOf 26 = .ok (.goto 38, 3) := by decide +kernel
theorem dX12_isOf_29 : decode cX12_isOf 29 = .ok (.iload_n 1, 1) := by decide +kernel
theorem dX12_isOf_30 : decode cX12_isOf 30 = .ok (.bipush 6, 2) := by decide +kernel
theorem dX12_isOf_32 : decode cX12_isOf 32 = .ok (.if_icmp .ne 19, 3) := by decide +kernel
theorem dX12_isOf_35 : decode cX12_isOf 35 = .ok (.aload_n 0, 1) := by decide +kernel
theorem dX12_isOf_36 : decode cX12_isOf 36 = .ok (.getfield 205, 3) := by decide +kernel
theorem dX12_isOf_39 : decode cX12_isOf 39 = .ok (.iconst 1, 1) := by decide +kernel
theorem dX12_isOf_40 : decode cX12_isOf 40 = .ok (.if_icmp .ne 7, 3) := by decide +kernel
theorem dX12_isOf_43 : decode cX12_isOf 43 = .ok (.iconst 1, 1) := by decide +kernel
theorem dX12_isOf_44 : decode cX12_isOf 44 = .ok (.goto 20, 3) := by decide +kernel
theorem dX12_isOf_47 : decode cX12_isOf 47 = .ok (.iconst 0, 1) := by decide +kernel
theorem dX12_isOf_48 : decode cX12_isOf 48 = .ok (.goto 16, 3) := by decide +kernel
theorem dX12_isOf_51 : decode cX12_isOf 51 = .ok (.aload_n 0, 1) := by decide +kernel
theorem dX12_isOf_52 : decode cX12_isOf 52 = .ok (.getfield 205, 3) := by decide +kernel
theorem dX12_isOf_55 : decode cX12_isOf 55 = .ok (.iconst 2, 1) := by decide +kernel
theorem dX12_isOf_56 : decode cX12_isOf 56 = .ok (.if_icmp .ne 7, 3) := by decide +kernel
theorem dX12_isOf_59 : decode cX12_isOf 59 = .ok (.iconst 1, 1) := by decide +kernel
theorem dX12_isOf_60 : decode cX12_isOf 60 = .ok (.goto 4, 3) := by decide +kernel
theorem dX12_isOf_63 : decode cX12_isOf 63 = .ok (.iconst 0, 1) := by decide +kernel
theorem dX12_isOf_64 : decode cX12_isOf 64 = .ok (.ireturn, 1) := by decide +kernel
theorem bw_1037 : Cond.fieldLink "CountingHorsesModel" 205 "CountingHorsesModel" "sort0" "I" ∈ BW := bw_at 1037 (by decide +kernel) (by decide +kernel)
theorem bw_1210 : Cond.methodLink "CountingHorsesModel" 201 ⟨"CountingHorsesModel", "w4", "(IIII)J"⟩ ∈ BW := bw_at 1210 (by decide +kernel) (by decide +kernel)
theorem bw_1211 : Cond.static ⟨"CountingHorsesModel", "w4", "(IIII)J"⟩ ∈ BW := bw_at 1211 (by decide +kernel) (by decide +kernel)
theorem bw_1212 : Cond.code ⟨"CountingHorsesModel", "w4", "(IIII)J"⟩ prog_14_method_23_code 4 (some .long) ∈ BW := bw_at 1212 (by decide +kernel) (by decide +kernel)
set_option maxHeartbeats 4000000 in
set_option maxRecDepth 100000 in
theorem c_X12_nameOf (l : Launch) (D : va_G) (cI cM cT cJ cZ : ClassId) (q : Nat) (aA : Nat) (aI : Nat) (xT : Nat) (tP_ : Nat) (td : Int32) (fu : Int32) (fp : Int32) (at_ : Int32) (plc : Int32) (tok : Int32) (num : Int32) (wrd : Int64) (tx0 : Int32) (cls : Int32) (wri : Int32) (cam : Int32) (pI : Nat) (pid : Int32) (ope : Int32) (isw : Int32) (so0 : Int32) (onc : Int32) (nm : Nat) (vL : Nat) (tR : Nat) (spp : Int32) (eat : Int32) (ste : Int32) (rW : Nat) (sP : Nat) (oT : Nat) (bS : Nat) (aS : Nat) (aO : Nat) (cS : Nat) (wY : Nat) (hi_td : 0 ≤ td.toInt ∧ td.toInt ≤ 300) (hi_spp : 0 ≤ spp.toInt ∧ spp.toInt ≤ 299) : Ci l D (ty3 cI cM cT cJ cZ) yX12_nameOf cX12_nameOf 1 (some .int) 2 0 0 [.ref q] ([(q, .inr (12, [.ref aA, .ref aI, .ref xT, .ref tP_, .int td, .int fu, .int fp, .int at_, .int plc, .int tok, .int num, .long wrd, .int tx0, .int cls, .int wri, .int cam, .ref pI, .int pid, .int ope, .int isw, .int so0, .int onc, .ref nm, .ref vL, .ref tR, .int spp, .int eat, .int ste, .ref rW, .ref sP, .ref oT, .ref bS, .ref aS, .ref aO, .ref cS, .ref wY]))]) (fun r u => (-1 ≤ r.toInt ∧ r.toInt ≤ 7) ∧ u = [(q, .inr (12, [.ref aA, .ref aI, .ref xT, .ref tP_, .int td, .int fu, .int fp, .int at_, .int plc, .int tok, .int num, .long wrd, .int tx0, .int cls, .int wri, .int cam, .ref pI, .int pid, .int ope, .int isw, .int so0, .int onc, .ref nm, .ref vL, .ref tR, .int spp, .int eat, .int ste, .ref rW, .ref sP, .ref oT, .ref bS, .ref aS, .ref aO, .ref cS, .ref wY]))] ∧ (r.toInt = -1 ∨ tok.toInt = 2)) := by
  refine Ci.of (by decide +kernel) (Nat.le_of_ble_eq_true rfl) ?_
  intro p e s m below meth c A ls Z hin hP hD hl
  have hx := Z.1
  have hb := Z.2.1
  have hS : va_S A s.heap s.heap [] := va_S.rf
  have hl : lv_has ls 1 [(0, .ref q)] := hl
  skip
  refine lv_aload_n hx hb dX12_nameOf_0 rfl (lv_at hl 0 rfl) ?_
  refine z_get Z i_X12 hP 0 rfl rfl 9 (by decide) bw_1028 rfl dX12_nameOf_1 ?_
  refine lv_iconst (v := 2) hx hb dX12_nameOf_4 (by decide) ?_
  refine lv_icmp_eq (tgt := 10) hx hb dX12_nameOf_5 (by decide) (fun c1 => ?_) (fun c1 => ?_)
  · refine lv_aload_n hx hb dX12_nameOf_10 rfl (lv_at hl 0 rfl) ?_
    refine z_get Z i_X12 hP 0 rfl rfl 11 (by decide) bw_1030 rfl dX12_nameOf_11 ?_
    refine lv_bipush (v := 104) hx hb dX12_nameOf_14 (by decide) ?_
    refine lv_bipush (v := 111) hx hb dX12_nameOf_16 (by decide) ?_
    refine lv_bipush (v := 114) hx hb dX12_nameOf_18 (by decide) ?_
    refine lv_bipush (v := 115) hx hb dX12_nameOf_20 (by decide) ?_
    refine lv_bipush (v := 101) hx hb dX12_nameOf_22 (by decide) ?_
    have hPc := hP.sub2 (wc := []) [] rfl
    have hDc := hD.sub (ws' := []) [] (by decide) rfl
    refine raw_Sl (nA := 5) (As := [.int 104, .int 111, .int 114, .int 115, .int 101]) (rest := [.long wrd]) Z hl.1 (c_X12_w5 l D cI cM cT cJ cZ 104 111 114 115 101) (bw_S bw_1197 bw_1198 bw_92 bw_1199) ⟨by decide +kernel, by decide +kernel, by decide +kernel⟩ rfl ⟨Nat.le_of_ble_eq_true rfl, Nat.le_of_ble_eq_true rfl⟩ hPc hDc hS rfl (Nat.le_of_ble_eq_true rfl) dX12_nameOf_24 ⟨Nat.le_of_ble_eq_true rfl, Nat.le_of_ble_eq_true rfl⟩ (fun r3 u2 H locs h4 hku2 hP1 hD1 hS1 => ?_)
    obtain rfl := h4
    obtain ⟨hP, hD⟩ := z_join (wr := [(q, .inr (12, [.ref aA, .ref aI, .ref xT, .ref tP_, .int td, .int fu, .int fp, .int at_, .int plc, .int tok, .int num, .long wrd, .int tx0, .int cls, .int wri, .int cam, .ref pI, .int pid, .int ope, .int isw, .int so0, .int onc, .ref nm, .ref vL, .ref tR, .int spp, .int eat, .int ste, .ref rW, .ref sP, .ref oT, .ref bS, .ref aS, .ref aO, .ref cS, .ref wY]))]) Z hS hP hD [] [0] rfl (by decide) rfl (by decide) (by decide) hku2 hP1 hD1
    have hS := hS1
    clear hS1
    have hP : va_P D vwCl ([(q, .inr (12, [.ref aA, .ref aI, .ref xT, .ref tP_, .int td, .int fu, .int fp, .int at_, .int plc, .int tok, .int num, .long wrd, .int tx0, .int cls, .int wri, .int cam, .ref pI, .int pid, .int ope, .int isw, .int so0, .int onc, .ref nm, .ref vL, .ref tR, .int spp, .int eat, .int ste, .ref rW, .ref sP, .ref oT, .ref bS, .ref aS, .ref aO, .ref cS, .ref wY]))]) H := hP
    have hD : va_D A ([(q, .inr (12, [.ref aA, .ref aI, .ref xT, .ref tP_, .int td, .int fu, .int fp, .int at_, .int plc, .int tok, .int num, .long wrd, .int tx0, .int cls, .int wri, .int cam, .ref pI, .int pid, .int ope, .int isw, .int so0, .int onc, .ref nm, .ref vL, .ref tR, .int spp, .int eat, .int ste, .ref rW, .ref sP, .ref oT, .ref bS, .ref aS, .ref aO, .ref cS, .ref wY]))]) := hD
    refine W.lcmp hx hb dX12_nameOf_27 ?_
    refine lv_topi (fun z5 ez5 => ?_)
    refine lv_if_ne (tgt := 33) hx hb dX12_nameOf_28 (by decide) (fun c6 => ?_) (fun c6 => ?_)
    · refine lv_aload_n hx hb dX12_nameOf_33 rfl (lv_at hl 0 rfl) ?_
      refine z_get Z i_X12 hP 0 rfl rfl 11 (by decide) bw_1030 rfl dX12_nameOf_34 ?_
      refine lv_bipush (v := 99) hx hb dX12_nameOf_37 (by decide) ?_
      refine lv_bipush (v := 111) hx hb dX12_nameOf_39 (by decide) ?_
      refine lv_bipush (v := 117) hx hb dX12_nameOf_41 (by decide) ?_
      refine lv_bipush (v := 110) hx hb dX12_nameOf_43 (by decide) ?_
      refine lv_bipush (v := 116) hx hb dX12_nameOf_45 (by decide) ?_
      have hPc := hP.sub2 (wc := []) [] rfl
      have hDc := hD.sub (ws' := []) [] (by decide) rfl
      refine raw_Sl (nA := 5) (As := [.int 99, .int 111, .int 117, .int 110, .int 116]) (rest := [.long wrd]) Z hl.1 (c_X12_w5 l D cI cM cT cJ cZ 99 111 117 110 116) (bw_S bw_1197 bw_1198 bw_92 bw_1199) ⟨by decide +kernel, by decide +kernel, by decide +kernel⟩ rfl ⟨Nat.le_of_ble_eq_true rfl, Nat.le_of_ble_eq_true rfl⟩ hPc hDc hS rfl (Nat.le_of_ble_eq_true rfl) dX12_nameOf_47 ⟨Nat.le_of_ble_eq_true rfl, Nat.le_of_ble_eq_true rfl⟩ (fun r8 u7 H locs h9 hku7 hP1 hD1 hS1 => ?_)
      obtain rfl := h9
      obtain ⟨hP, hD⟩ := z_join (wr := [(q, .inr (12, [.ref aA, .ref aI, .ref xT, .ref tP_, .int td, .int fu, .int fp, .int at_, .int plc, .int tok, .int num, .long wrd, .int tx0, .int cls, .int wri, .int cam, .ref pI, .int pid, .int ope, .int isw, .int so0, .int onc, .ref nm, .ref vL, .ref tR, .int spp, .int eat, .int ste, .ref rW, .ref sP, .ref oT, .ref bS, .ref aS, .ref aO, .ref cS, .ref wY]))]) Z hS hP hD [] [0] rfl (by decide) rfl (by decide) (by decide) hku7 hP1 hD1
      have hS := hS1
      clear hS1
      have hP : va_P D vwCl ([(q, .inr (12, [.ref aA, .ref aI, .ref xT, .ref tP_, .int td, .int fu, .int fp, .int at_, .int plc, .int tok, .int num, .long wrd, .int tx0, .int cls, .int wri, .int cam, .ref pI, .int pid, .int ope, .int isw, .int so0, .int onc, .ref nm, .ref vL, .ref tR, .int spp, .int eat, .int ste, .ref rW, .ref sP, .ref oT, .ref bS, .ref aS, .ref aO, .ref cS, .ref wY]))]) H := hP
      have hD : va_D A ([(q, .inr (12, [.ref aA, .ref aI, .ref xT, .ref tP_, .int td, .int fu, .int fp, .int at_, .int plc, .int tok, .int num, .long wrd, .int tx0, .int cls, .int wri, .int cam, .ref pI, .int pid, .int ope, .int isw, .int so0, .int onc, .ref nm, .ref vL, .ref tR, .int spp, .int eat, .int ste, .ref rW, .ref sP, .ref oT, .ref bS, .ref aS, .ref aO, .ref cS, .ref wY]))]) := hD
      refine W.lcmp hx hb dX12_nameOf_50 ?_
      refine lv_topi (fun z10 ez10 => ?_)
      refine lv_if_ne (tgt := 56) hx hb dX12_nameOf_51 (by decide) (fun c11 => ?_) (fun c11 => ?_)
      · refine lv_aload_n hx hb dX12_nameOf_56 rfl (lv_at hl 0 rfl) ?_
        refine z_get Z i_X12 hP 0 rfl rfl 11 (by decide) bw_1030 rfl dX12_nameOf_57 ?_
        refine lv_bipush (v := 115) hx hb dX12_nameOf_60 (by decide) ?_
        refine lv_bipush (v := 104) hx hb dX12_nameOf_62 (by decide) ?_
        refine lv_bipush (v := 111) hx hb dX12_nameOf_64 (by decide) ?_
        refine lv_bipush (v := 101) hx hb dX12_nameOf_66 (by decide) ?_
        have hPc := hP.sub2 (wc := []) [] rfl
        have hDc := hD.sub (ws' := []) [] (by decide) rfl
        refine raw_Sl (nA := 4) (As := [.int 115, .int 104, .int 111, .int 101]) (rest := [.long wrd]) Z hl.1 (c_X12_w4 l D cI cM cT cJ cZ 115 104 111 101) (bw_S bw_1210 bw_1211 bw_92 bw_1212) ⟨by decide +kernel, by decide +kernel, by decide +kernel⟩ rfl ⟨Nat.le_of_ble_eq_true rfl, Nat.le_of_ble_eq_true rfl⟩ hPc hDc hS rfl (Nat.le_of_ble_eq_true rfl) dX12_nameOf_68 ⟨Nat.le_of_ble_eq_true rfl, Nat.le_of_ble_eq_true rfl⟩ (fun r13 u12 H locs h14 hku12 hP1 hD1 hS1 => ?_)
        obtain rfl := h14
        obtain ⟨hP, hD⟩ := z_join (wr := [(q, .inr (12, [.ref aA, .ref aI, .ref xT, .ref tP_, .int td, .int fu, .int fp, .int at_, .int plc, .int tok, .int num, .long wrd, .int tx0, .int cls, .int wri, .int cam, .ref pI, .int pid, .int ope, .int isw, .int so0, .int onc, .ref nm, .ref vL, .ref tR, .int spp, .int eat, .int ste, .ref rW, .ref sP, .ref oT, .ref bS, .ref aS, .ref aO, .ref cS, .ref wY]))]) Z hS hP hD [] [0] rfl (by decide) rfl (by decide) (by decide) hku12 hP1 hD1
        have hS := hS1
        clear hS1
        have hP : va_P D vwCl ([(q, .inr (12, [.ref aA, .ref aI, .ref xT, .ref tP_, .int td, .int fu, .int fp, .int at_, .int plc, .int tok, .int num, .long wrd, .int tx0, .int cls, .int wri, .int cam, .ref pI, .int pid, .int ope, .int isw, .int so0, .int onc, .ref nm, .ref vL, .ref tR, .int spp, .int eat, .int ste, .ref rW, .ref sP, .ref oT, .ref bS, .ref aS, .ref aO, .ref cS, .ref wY]))]) H := hP
        have hD : va_D A ([(q, .inr (12, [.ref aA, .ref aI, .ref xT, .ref tP_, .int td, .int fu, .int fp, .int at_, .int plc, .int tok, .int num, .long wrd, .int tx0, .int cls, .int wri, .int cam, .ref pI, .int pid, .int ope, .int isw, .int so0, .int onc, .ref nm, .ref vL, .ref tR, .int spp, .int eat, .int ste, .ref rW, .ref sP, .ref oT, .ref bS, .ref aS, .ref aO, .ref cS, .ref wY]))]) := hD
        refine W.lcmp hx hb dX12_nameOf_71 ?_
        refine lv_topi (fun z15 ez15 => ?_)
        refine lv_if_ne (tgt := 77) hx hb dX12_nameOf_72 (by decide) (fun c16 => ?_) (fun c16 => ?_)
        · refine lv_aload_n hx hb dX12_nameOf_77 rfl (lv_at hl 0 rfl) ?_
          refine z_get Z i_X12 hP 0 rfl rfl 11 (by decide) bw_1030 rfl dX12_nameOf_78 ?_
          refine lv_bipush (v := 100) hx hb dX12_nameOf_81 (by decide) ?_
          refine lv_bipush (v := 97) hx hb dX12_nameOf_83 (by decide) ?_
          refine lv_bipush (v := 121) hx hb dX12_nameOf_85 (by decide) ?_
          have hPc := hP.sub2 (wc := []) [] rfl
          have hDc := hD.sub (ws' := []) [] (by decide) rfl
          refine raw_Sl (nA := 3) (As := [.int 100, .int 97, .int 121]) (rest := [.long wrd]) Z hl.1 (c_X12_w3 l D cI cM cT cJ cZ 100 97 121) (bw_S bw_1200 bw_1201 bw_92 bw_1202) ⟨by decide +kernel, by decide +kernel, by decide +kernel⟩ rfl ⟨Nat.le_of_ble_eq_true rfl, Nat.le_of_ble_eq_true rfl⟩ hPc hDc hS rfl (Nat.le_of_ble_eq_true rfl) dX12_nameOf_87 ⟨Nat.le_of_ble_eq_true rfl, Nat.le_of_ble_eq_true rfl⟩ (fun r18 u17 H locs h19 hku17 hP1 hD1 hS1 => ?_)
          obtain rfl := h19
          obtain ⟨hP, hD⟩ := z_join (wr := [(q, .inr (12, [.ref aA, .ref aI, .ref xT, .ref tP_, .int td, .int fu, .int fp, .int at_, .int plc, .int tok, .int num, .long wrd, .int tx0, .int cls, .int wri, .int cam, .ref pI, .int pid, .int ope, .int isw, .int so0, .int onc, .ref nm, .ref vL, .ref tR, .int spp, .int eat, .int ste, .ref rW, .ref sP, .ref oT, .ref bS, .ref aS, .ref aO, .ref cS, .ref wY]))]) Z hS hP hD [] [0] rfl (by decide) rfl (by decide) (by decide) hku17 hP1 hD1
          have hS := hS1
          clear hS1
          have hP : va_P D vwCl ([(q, .inr (12, [.ref aA, .ref aI, .ref xT, .ref tP_, .int td, .int fu, .int fp, .int at_, .int plc, .int tok, .int num, .long wrd, .int tx0, .int cls, .int wri, .int cam, .ref pI, .int pid, .int ope, .int isw, .int so0, .int onc, .ref nm, .ref vL, .ref tR, .int spp, .int eat, .int ste, .ref rW, .ref sP, .ref oT, .ref bS, .ref aS, .ref aO, .ref cS, .ref wY]))]) H := hP
          have hD : va_D A ([(q, .inr (12, [.ref aA, .ref aI, .ref xT, .ref tP_, .int td, .int fu, .int fp, .int at_, .int plc, .int tok, .int num, .long wrd, .int tx0, .int cls, .int wri, .int cam, .ref pI, .int pid, .int ope, .int isw, .int so0, .int onc, .ref nm, .ref vL, .ref tR, .int spp, .int eat, .int ste, .ref rW, .ref sP, .ref oT, .ref bS, .ref aS, .ref aO, .ref cS, .ref wY]))]) := hD
          refine W.lcmp hx hb dX12_nameOf_90 ?_
          refine lv_topi (fun z20 ez20 => ?_)
          refine lv_if_ne (tgt := 96) hx hb dX12_nameOf_91 (by decide) (fun c21 => ?_) (fun c21 => ?_)
          · refine lv_aload_n hx hb dX12_nameOf_96 rfl (lv_at hl 0 rfl) ?_
            refine z_get Z i_X12 hP 0 rfl rfl 11 (by decide) bw_1030 rfl dX12_nameOf_97 ?_
            refine lv_bipush (v := 109) hx hb dX12_nameOf_100 (by decide) ?_
            refine lv_bipush (v := 117) hx hb dX12_nameOf_102 (by decide) ?_
            refine lv_bipush (v := 100) hx hb dX12_nameOf_104 (by decide) ?_
            have hPc := hP.sub2 (wc := []) [] rfl
            have hDc := hD.sub (ws' := []) [] (by decide) rfl
            refine raw_Sl (nA := 3) (As := [.int 109, .int 117, .int 100]) (rest := [.long wrd]) Z hl.1 (c_X12_w3 l D cI cM cT cJ cZ 109 117 100) (bw_S bw_1200 bw_1201 bw_92 bw_1202) ⟨by decide +kernel, by decide +kernel, by decide +kernel⟩ rfl ⟨Nat.le_of_ble_eq_true rfl, Nat.le_of_ble_eq_true rfl⟩ hPc hDc hS rfl (Nat.le_of_ble_eq_true rfl) dX12_nameOf_106 ⟨Nat.le_of_ble_eq_true rfl, Nat.le_of_ble_eq_true rfl⟩ (fun r23 u22 H locs h24 hku22 hP1 hD1 hS1 => ?_)
            obtain rfl := h24
            obtain ⟨hP, hD⟩ := z_join (wr := [(q, .inr (12, [.ref aA, .ref aI, .ref xT, .ref tP_, .int td, .int fu, .int fp, .int at_, .int plc, .int tok, .int num, .long wrd, .int tx0, .int cls, .int wri, .int cam, .ref pI, .int pid, .int ope, .int isw, .int so0, .int onc, .ref nm, .ref vL, .ref tR, .int spp, .int eat, .int ste, .ref rW, .ref sP, .ref oT, .ref bS, .ref aS, .ref aO, .ref cS, .ref wY]))]) Z hS hP hD [] [0] rfl (by decide) rfl (by decide) (by decide) hku22 hP1 hD1
            have hS := hS1
            clear hS1
            have hP : va_P D vwCl ([(q, .inr (12, [.ref aA, .ref aI, .ref xT, .ref tP_, .int td, .int fu, .int fp, .int at_, .int plc, .int tok, .int num, .long wrd, .int tx0, .int cls, .int wri, .int cam, .ref pI, .int pid, .int ope, .int isw, .int so0, .int onc, .ref nm, .ref vL, .ref tR, .int spp, .int eat, .int ste, .ref rW, .ref sP, .ref oT, .ref bS, .ref aS, .ref aO, .ref cS, .ref wY]))]) H := hP
            have hD : va_D A ([(q, .inr (12, [.ref aA, .ref aI, .ref xT, .ref tP_, .int td, .int fu, .int fp, .int at_, .int plc, .int tok, .int num, .long wrd, .int tx0, .int cls, .int wri, .int cam, .ref pI, .int pid, .int ope, .int isw, .int so0, .int onc, .ref nm, .ref vL, .ref tR, .int spp, .int eat, .int ste, .ref rW, .ref sP, .ref oT, .ref bS, .ref aS, .ref aO, .ref cS, .ref wY]))]) := hD
            refine W.lcmp hx hb dX12_nameOf_109 ?_
            refine lv_topi (fun z25 ez25 => ?_)
            refine lv_if_ne (tgt := 115) hx hb dX12_nameOf_110 (by decide) (fun c26 => ?_) (fun c26 => ?_)
            · refine lv_aload_n hx hb dX12_nameOf_115 rfl (lv_at hl 0 rfl) ?_
              refine z_get Z i_X12 hP 0 rfl rfl 11 (by decide) bw_1030 rfl dX12_nameOf_116 ?_
              refine lv_bipush (v := 112) hx hb dX12_nameOf_119 (by decide) ?_
              refine lv_bipush (v := 108) hx hb dX12_nameOf_121 (by decide) ?_
              refine lv_bipush (v := 97) hx hb dX12_nameOf_123 (by decide) ?_
              refine lv_bipush (v := 99) hx hb dX12_nameOf_125 (by decide) ?_
              refine lv_bipush (v := 101) hx hb dX12_nameOf_127 (by decide) ?_
              have hPc := hP.sub2 (wc := []) [] rfl
              have hDc := hD.sub (ws' := []) [] (by decide) rfl
              refine raw_Sl (nA := 5) (As := [.int 112, .int 108, .int 97, .int 99, .int 101]) (rest := [.long wrd]) Z hl.1 (c_X12_w5 l D cI cM cT cJ cZ 112 108 97 99 101) (bw_S bw_1197 bw_1198 bw_92 bw_1199) ⟨by decide +kernel, by decide +kernel, by decide +kernel⟩ rfl ⟨Nat.le_of_ble_eq_true rfl, Nat.le_of_ble_eq_true rfl⟩ hPc hDc hS rfl (Nat.le_of_ble_eq_true rfl) dX12_nameOf_129 ⟨Nat.le_of_ble_eq_true rfl, Nat.le_of_ble_eq_true rfl⟩ (fun r28 u27 H locs h29 hku27 hP1 hD1 hS1 => ?_)
              obtain rfl := h29
              obtain ⟨hP, hD⟩ := z_join (wr := [(q, .inr (12, [.ref aA, .ref aI, .ref xT, .ref tP_, .int td, .int fu, .int fp, .int at_, .int plc, .int tok, .int num, .long wrd, .int tx0, .int cls, .int wri, .int cam, .ref pI, .int pid, .int ope, .int isw, .int so0, .int onc, .ref nm, .ref vL, .ref tR, .int spp, .int eat, .int ste, .ref rW, .ref sP, .ref oT, .ref bS, .ref aS, .ref aO, .ref cS, .ref wY]))]) Z hS hP hD [] [0] rfl (by decide) rfl (by decide) (by decide) hku27 hP1 hD1
              have hS := hS1
              clear hS1
              have hP : va_P D vwCl ([(q, .inr (12, [.ref aA, .ref aI, .ref xT, .ref tP_, .int td, .int fu, .int fp, .int at_, .int plc, .int tok, .int num, .long wrd, .int tx0, .int cls, .int wri, .int cam, .ref pI, .int pid, .int ope, .int isw, .int so0, .int onc, .ref nm, .ref vL, .ref tR, .int spp, .int eat, .int ste, .ref rW, .ref sP, .ref oT, .ref bS, .ref aS, .ref aO, .ref cS, .ref wY]))]) H := hP
              have hD : va_D A ([(q, .inr (12, [.ref aA, .ref aI, .ref xT, .ref tP_, .int td, .int fu, .int fp, .int at_, .int plc, .int tok, .int num, .long wrd, .int tx0, .int cls, .int wri, .int cam, .ref pI, .int pid, .int ope, .int isw, .int so0, .int onc, .ref nm, .ref vL, .ref tR, .int spp, .int eat, .int ste, .ref rW, .ref sP, .ref oT, .ref bS, .ref aS, .ref aO, .ref cS, .ref wY]))]) := hD
              refine W.lcmp hx hb dX12_nameOf_132 ?_
              refine lv_topi (fun z30 ez30 => ?_)
              refine lv_if_ne (tgt := 138) hx hb dX12_nameOf_133 (by decide) (fun c31 => ?_) (fun c31 => ?_)
              · refine lv_aload_n hx hb dX12_nameOf_138 rfl (lv_at hl 0 rfl) ?_
                refine z_get Z i_X12 hP 0 rfl rfl 11 (by decide) bw_1030 rfl dX12_nameOf_139 ?_
                refine lv_bipush (v := 115) hx hb dX12_nameOf_142 (by decide) ?_
                refine lv_bipush (v := 116) hx hb dX12_nameOf_144 (by decide) ?_
                refine lv_bipush (v := 101) hx hb dX12_nameOf_146 (by decide) ?_
                refine lv_bipush (v := 112) hx hb dX12_nameOf_148 (by decide) ?_
                have hPc := hP.sub2 (wc := []) [] rfl
                have hDc := hD.sub (ws' := []) [] (by decide) rfl
                refine raw_Sl (nA := 4) (As := [.int 115, .int 116, .int 101, .int 112]) (rest := [.long wrd]) Z hl.1 (c_X12_w4 l D cI cM cT cJ cZ 115 116 101 112) (bw_S bw_1210 bw_1211 bw_92 bw_1212) ⟨by decide +kernel, by decide +kernel, by decide +kernel⟩ rfl ⟨Nat.le_of_ble_eq_true rfl, Nat.le_of_ble_eq_true rfl⟩ hPc hDc hS rfl (Nat.le_of_ble_eq_true rfl) dX12_nameOf_150 ⟨Nat.le_of_ble_eq_true rfl, Nat.le_of_ble_eq_true rfl⟩ (fun r33 u32 H locs h34 hku32 hP1 hD1 hS1 => ?_)
                obtain rfl := h34
                obtain ⟨hP, hD⟩ := z_join (wr := [(q, .inr (12, [.ref aA, .ref aI, .ref xT, .ref tP_, .int td, .int fu, .int fp, .int at_, .int plc, .int tok, .int num, .long wrd, .int tx0, .int cls, .int wri, .int cam, .ref pI, .int pid, .int ope, .int isw, .int so0, .int onc, .ref nm, .ref vL, .ref tR, .int spp, .int eat, .int ste, .ref rW, .ref sP, .ref oT, .ref bS, .ref aS, .ref aO, .ref cS, .ref wY]))]) Z hS hP hD [] [0] rfl (by decide) rfl (by decide) (by decide) hku32 hP1 hD1
                have hS := hS1
                clear hS1
                have hP : va_P D vwCl ([(q, .inr (12, [.ref aA, .ref aI, .ref xT, .ref tP_, .int td, .int fu, .int fp, .int at_, .int plc, .int tok, .int num, .long wrd, .int tx0, .int cls, .int wri, .int cam, .ref pI, .int pid, .int ope, .int isw, .int so0, .int onc, .ref nm, .ref vL, .ref tR, .int spp, .int eat, .int ste, .ref rW, .ref sP, .ref oT, .ref bS, .ref aS, .ref aO, .ref cS, .ref wY]))]) H := hP
                have hD : va_D A ([(q, .inr (12, [.ref aA, .ref aI, .ref xT, .ref tP_, .int td, .int fu, .int fp, .int at_, .int plc, .int tok, .int num, .long wrd, .int tx0, .int cls, .int wri, .int cam, .ref pI, .int pid, .int ope, .int isw, .int so0, .int onc, .ref nm, .ref vL, .ref tR, .int spp, .int eat, .int ste, .ref rW, .ref sP, .ref oT, .ref bS, .ref aS, .ref aO, .ref cS, .ref wY]))]) := hD
                refine W.lcmp hx hb dX12_nameOf_153 ?_
                refine lv_topi (fun z35 ez35 => ?_)
                refine lv_if_ne (tgt := 162) hx hb dX12_nameOf_154 (by decide) (fun c36 => ?_) (fun c36 => ?_)
                · refine lv_aload_n hx hb dX12_nameOf_162 rfl (lv_at hl 0 rfl) ?_
                  refine z_get Z i_X12 hP 0 rfl rfl 11 (by decide) bw_1030 rfl dX12_nameOf_163 ?_
                  refine lv_bipush (v := 103) hx hb dX12_nameOf_166 (by decide) ?_
                  refine lv_bipush (v := 111) hx hb dX12_nameOf_168 (by decide) ?_
                  refine lv_bipush (v := 110) hx hb dX12_nameOf_170 (by decide) ?_
                  refine lv_bipush (v := 101) hx hb dX12_nameOf_172 (by decide) ?_
                  have hPc := hP.sub2 (wc := []) [] rfl
                  have hDc := hD.sub (ws' := []) [] (by decide) rfl
                  refine raw_Sl (nA := 4) (As := [.int 103, .int 111, .int 110, .int 101]) (rest := [.long wrd]) Z hl.1 (c_X12_w4 l D cI cM cT cJ cZ 103 111 110 101) (bw_S bw_1210 bw_1211 bw_92 bw_1212) ⟨by decide +kernel, by decide +kernel, by decide +kernel⟩ rfl ⟨Nat.le_of_ble_eq_true rfl, Nat.le_of_ble_eq_true rfl⟩ hPc hDc hS rfl (Nat.le_of_ble_eq_true rfl) dX12_nameOf_174 ⟨Nat.le_of_ble_eq_true rfl, Nat.le_of_ble_eq_true rfl⟩ (fun r38 u37 H locs h39 hku37 hP1 hD1 hS1 => ?_)
                  obtain rfl := h39
                  obtain ⟨hP, hD⟩ := z_join (wr := [(q, .inr (12, [.ref aA, .ref aI, .ref xT, .ref tP_, .int td, .int fu, .int fp, .int at_, .int plc, .int tok, .int num, .long wrd, .int tx0, .int cls, .int wri, .int cam, .ref pI, .int pid, .int ope, .int isw, .int so0, .int onc, .ref nm, .ref vL, .ref tR, .int spp, .int eat, .int ste, .ref rW, .ref sP, .ref oT, .ref bS, .ref aS, .ref aO, .ref cS, .ref wY]))]) Z hS hP hD [] [0] rfl (by decide) rfl (by decide) (by decide) hku37 hP1 hD1
                  have hS := hS1
                  clear hS1
                  have hP : va_P D vwCl ([(q, .inr (12, [.ref aA, .ref aI, .ref xT, .ref tP_, .int td, .int fu, .int fp, .int at_, .int plc, .int tok, .int num, .long wrd, .int tx0, .int cls, .int wri, .int cam, .ref pI, .int pid, .int ope, .int isw, .int so0, .int onc, .ref nm, .ref vL, .ref tR, .int spp, .int eat, .int ste, .ref rW, .ref sP, .ref oT, .ref bS, .ref aS, .ref aO, .ref cS, .ref wY]))]) H := hP
                  have hD : va_D A ([(q, .inr (12, [.ref aA, .ref aI, .ref xT, .ref tP_, .int td, .int fu, .int fp, .int at_, .int plc, .int tok, .int num, .long wrd, .int tx0, .int cls, .int wri, .int cam, .ref pI, .int pid, .int ope, .int isw, .int so0, .int onc, .ref nm, .ref vL, .ref tR, .int spp, .int eat, .int ste, .ref rW, .ref sP, .ref oT, .ref bS, .ref aS, .ref aO, .ref cS, .ref wY]))]) := hD
                  refine W.lcmp hx hb dX12_nameOf_177 ?_
                  refine lv_topi (fun z40 ez40 => ?_)
                  refine lv_if_ne (tgt := 186) hx hb dX12_nameOf_178 (by decide) (fun c41 => ?_) (fun c41 => ?_)
                  · refine lv_iconst (v := (-1)) hx hb dX12_nameOf_186 (by decide) ?_
                    exact z_ret Z rfl hP hD hS (⟨(by decide), rfl, (by (try simp only [zlt, zle, zeq, zl_0, zl_1, zl_2, zl_3, zl_4, zl_5, zl_6, zl_7, zl_8, zl_9, zl_10, zl_11, zl_12, zl_13, zl_14, zl_15, zl_16, zl_17, zl_18, zl_19, zl_20, zl_21, zl_22, zl_23, zl_24, zl_25, zl_26, zl_27, zl_28, zl_29, zl_30, zl_31, zl_32, zl_33, zl_34, zl_35, zl_36, zl_37, zl_38, zl_39, zl_40, zl_41, zl_42, zl_43, zl_44, zl_45, zl_46, zl_47, zl_48, zl_49, zl_50, zl_51, zl_52, zl_53, zl_54, zl_55, zl_56, zl_57, zl_58, zl_59, zl_60, zl_61, zl_62, zl_63, zl_64, zl_65, zl_82, zl_99, zl_100, zl_160, zl_299, zl_300, zl_301, zl_382, zl_398, zl_399, zl_464, zl_680, zl_862, zl_999, zl_1000, zl_9999, zl_10000, zl_1000000, zl_m1, zl_m2, zl_m3, zl_m8, zl_97, zl_122, zl_90, zl_100000, zl_75, zl_28530, zl_26982, zl_101, zl_104, zl_108, zl_110, zl_111, zl_112, zl_114, zl_115, zl_116, zl_117, zl_119, zl_121, and_true, true_and, and_false, false_and, or_false, false_or, or_true, true_or, not_true_eq_false, not_false_eq_true] at hi_td hi_spp c1 c6 c11 c16 c21 c26 c31 c36 c41 ⊢) <;> omega)⟩) dX12_nameOf_187 (Nat.le_of_ble_eq_true rfl) (Nat.le_of_ble_eq_true rfl)
                  · refine lv_bipush (v := 7) hx hb dX12_nameOf_181 (by decide) ?_
                    refine lv_goto (tgt := 187) hx hb dX12_nameOf_183 (by decide) ?_
                    exact z_ret Z rfl hP hD hS (⟨(by decide), rfl, (by (try simp only [zlt, zle, zeq, zl_0, zl_1, zl_2, zl_3, zl_4, zl_5, zl_6, zl_7, zl_8, zl_9, zl_10, zl_11, zl_12, zl_13, zl_14, zl_15, zl_16, zl_17, zl_18, zl_19, zl_20, zl_21, zl_22, zl_23, zl_24, zl_25, zl_26, zl_27, zl_28, zl_29, zl_30, zl_31, zl_32, zl_33, zl_34, zl_35, zl_36, zl_37, zl_38, zl_39, zl_40, zl_41, zl_42, zl_43, zl_44, zl_45, zl_46, zl_47, zl_48, zl_49, zl_50, zl_51, zl_52, zl_53, zl_54, zl_55, zl_56, zl_57, zl_58, zl_59, zl_60, zl_61, zl_62, zl_63, zl_64, zl_65, zl_82, zl_99, zl_100, zl_160, zl_299, zl_300, zl_301, zl_382, zl_398, zl_399, zl_464, zl_680, zl_862, zl_999, zl_1000, zl_9999, zl_10000, zl_1000000, zl_m1, zl_m2, zl_m3, zl_m8, zl_97, zl_122, zl_90, zl_100000, zl_75, zl_28530, zl_26982, zl_101, zl_104, zl_108, zl_110, zl_111, zl_112, zl_114, zl_115, zl_116, zl_117, zl_119, zl_121, and_true, true_and, and_false, false_and, or_false, false_or, or_true, true_or, not_true_eq_false, not_false_eq_true] at hi_td hi_spp c1 c6 c11 c16 c21 c26 c31 c36 c41 ⊢) <;> omega)⟩) dX12_nameOf_187 (Nat.le_of_ble_eq_true rfl) (Nat.le_of_ble_eq_true rfl)
                · refine lv_bipush (v := 6) hx hb dX12_nameOf_157 (by decide) ?_
                  refine lv_goto (tgt := 187) hx hb dX12_nameOf_159 (by decide) ?_
                  exact z_ret Z rfl hP hD hS (⟨(by decide), rfl, (by (try simp only [zlt, zle, zeq, zl_0, zl_1, zl_2, zl_3, zl_4, zl_5, zl_6, zl_7, zl_8, zl_9, zl_10, zl_11, zl_12, zl_13, zl_14, zl_15, zl_16, zl_17, zl_18, zl_19, zl_20, zl_21, zl_22, zl_23, zl_24, zl_25, zl_26, zl_27, zl_28, zl_29, zl_30, zl_31, zl_32, zl_33, zl_34, zl_35, zl_36, zl_37, zl_38, zl_39, zl_40, zl_41, zl_42, zl_43, zl_44, zl_45, zl_46, zl_47, zl_48, zl_49, zl_50, zl_51, zl_52, zl_53, zl_54, zl_55, zl_56, zl_57, zl_58, zl_59, zl_60, zl_61, zl_62, zl_63, zl_64, zl_65, zl_82, zl_99, zl_100, zl_160, zl_299, zl_300, zl_301, zl_382, zl_398, zl_399, zl_464, zl_680, zl_862, zl_999, zl_1000, zl_9999, zl_10000, zl_1000000, zl_m1, zl_m2, zl_m3, zl_m8, zl_97, zl_122, zl_90, zl_100000, zl_75, zl_28530, zl_26982, zl_101, zl_104, zl_108, zl_110, zl_111, zl_112, zl_114, zl_115, zl_116, zl_117, zl_119, zl_121, and_true, true_and, and_false, false_and, or_false, false_or, or_true, true_or, not_true_eq_false, not_false_eq_true] at hi_td hi_spp c1 c6 c11 c16 c21 c26 c31 c36 ⊢) <;> omega)⟩) dX12_nameOf_187 (Nat.le_of_ble_eq_true rfl) (Nat.le_of_ble_eq_true rfl)
              · refine lv_iconst (v := 5) hx hb dX12_nameOf_136 (by decide) ?_
                exact z_ret Z rfl hP hD hS (⟨(by decide), rfl, (by (try simp only [zlt, zle, zeq, zl_0, zl_1, zl_2, zl_3, zl_4, zl_5, zl_6, zl_7, zl_8, zl_9, zl_10, zl_11, zl_12, zl_13, zl_14, zl_15, zl_16, zl_17, zl_18, zl_19, zl_20, zl_21, zl_22, zl_23, zl_24, zl_25, zl_26, zl_27, zl_28, zl_29, zl_30, zl_31, zl_32, zl_33, zl_34, zl_35, zl_36, zl_37, zl_38, zl_39, zl_40, zl_41, zl_42, zl_43, zl_44, zl_45, zl_46, zl_47, zl_48, zl_49, zl_50, zl_51, zl_52, zl_53, zl_54, zl_55, zl_56, zl_57, zl_58, zl_59, zl_60, zl_61, zl_62, zl_63, zl_64, zl_65, zl_82, zl_99, zl_100, zl_160, zl_299, zl_300, zl_301, zl_382, zl_398, zl_399, zl_464, zl_680, zl_862, zl_999, zl_1000, zl_9999, zl_10000, zl_1000000, zl_m1, zl_m2, zl_m3, zl_m8, zl_97, zl_122, zl_90, zl_100000, zl_75, zl_28530, zl_26982, zl_101, zl_104, zl_108, zl_110, zl_111, zl_112, zl_114, zl_115, zl_116, zl_117, zl_119, zl_121, and_true, true_and, and_false, false_and, or_false, false_or, or_true, true_or, not_true_eq_false, not_false_eq_true] at hi_td hi_spp c1 c6 c11 c16 c21 c26 c31 ⊢) <;> omega)⟩) dX12_nameOf_137 (Nat.le_of_ble_eq_true rfl) (Nat.le_of_ble_eq_true rfl)
            · refine lv_iconst (v := 4) hx hb dX12_nameOf_113 (by decide) ?_
              exact z_ret Z rfl hP hD hS (⟨(by decide), rfl, (by (try simp only [zlt, zle, zeq, zl_0, zl_1, zl_2, zl_3, zl_4, zl_5, zl_6, zl_7, zl_8, zl_9, zl_10, zl_11, zl_12, zl_13, zl_14, zl_15, zl_16, zl_17, zl_18, zl_19, zl_20, zl_21, zl_22, zl_23, zl_24, zl_25, zl_26, zl_27, zl_28, zl_29, zl_30, zl_31, zl_32, zl_33, zl_34, zl_35, zl_36, zl_37, zl_38, zl_39, zl_40, zl_41, zl_42, zl_43, zl_44, zl_45, zl_46, zl_47, zl_48, zl_49, zl_50, zl_51, zl_52, zl_53, zl_54, zl_55, zl_56, zl_57, zl_58, zl_59, zl_60, zl_61, zl_62, zl_63, zl_64, zl_65, zl_82, zl_99, zl_100, zl_160, zl_299, zl_300, zl_301, zl_382, zl_398, zl_399, zl_464, zl_680, zl_862, zl_999, zl_1000, zl_9999, zl_10000, zl_1000000, zl_m1, zl_m2, zl_m3, zl_m8, zl_97, zl_122, zl_90, zl_100000, zl_75, zl_28530, zl_26982, zl_101, zl_104, zl_108, zl_110, zl_111, zl_112, zl_114, zl_115, zl_116, zl_117, zl_119, zl_121, and_true, true_and, and_false, false_and, or_false, false_or, or_true, true_or, not_true_eq_false, not_false_eq_true] at hi_td hi_spp c1 c6 c11 c16 c21 c26 ⊢) <;> omega)⟩) dX12_nameOf_114 (Nat.le_of_ble_eq_true rfl) (Nat.le_of_ble_eq_true rfl)
          · refine lv_iconst (v := 3) hx hb dX12_nameOf_94 (by decide) ?_
            exact z_ret Z rfl hP hD hS (⟨(by decide), rfl, (by (try simp only [zlt, zle, zeq, zl_0, zl_1, zl_2, zl_3, zl_4, zl_5, zl_6, zl_7, zl_8, zl_9, zl_10, zl_11, zl_12, zl_13, zl_14, zl_15, zl_16, zl_17, zl_18, zl_19, zl_20, zl_21, zl_22, zl_23, zl_24, zl_25, zl_26, zl_27, zl_28, zl_29, zl_30, zl_31, zl_32, zl_33, zl_34, zl_35, zl_36, zl_37, zl_38, zl_39, zl_40, zl_41, zl_42, zl_43, zl_44, zl_45, zl_46, zl_47, zl_48, zl_49, zl_50, zl_51, zl_52, zl_53, zl_54, zl_55, zl_56, zl_57, zl_58, zl_59, zl_60, zl_61, zl_62, zl_63, zl_64, zl_65, zl_82, zl_99, zl_100, zl_160, zl_299, zl_300, zl_301, zl_382, zl_398, zl_399, zl_464, zl_680, zl_862, zl_999, zl_1000, zl_9999, zl_10000, zl_1000000, zl_m1, zl_m2, zl_m3, zl_m8, zl_97, zl_122, zl_90, zl_100000, zl_75, zl_28530, zl_26982, zl_101, zl_104, zl_108, zl_110, zl_111, zl_112, zl_114, zl_115, zl_116, zl_117, zl_119, zl_121, and_true, true_and, and_false, false_and, or_false, false_or, or_true, true_or, not_true_eq_false, not_false_eq_true] at hi_td hi_spp c1 c6 c11 c16 c21 ⊢) <;> omega)⟩) dX12_nameOf_95 (Nat.le_of_ble_eq_true rfl) (Nat.le_of_ble_eq_true rfl)
        · refine lv_iconst (v := 2) hx hb dX12_nameOf_75 (by decide) ?_
          exact z_ret Z rfl hP hD hS (⟨(by decide), rfl, (by (try simp only [zlt, zle, zeq, zl_0, zl_1, zl_2, zl_3, zl_4, zl_5, zl_6, zl_7, zl_8, zl_9, zl_10, zl_11, zl_12, zl_13, zl_14, zl_15, zl_16, zl_17, zl_18, zl_19, zl_20, zl_21, zl_22, zl_23, zl_24, zl_25, zl_26, zl_27, zl_28, zl_29, zl_30, zl_31, zl_32, zl_33, zl_34, zl_35, zl_36, zl_37, zl_38, zl_39, zl_40, zl_41, zl_42, zl_43, zl_44, zl_45, zl_46, zl_47, zl_48, zl_49, zl_50, zl_51, zl_52, zl_53, zl_54, zl_55, zl_56, zl_57, zl_58, zl_59, zl_60, zl_61, zl_62, zl_63, zl_64, zl_65, zl_82, zl_99, zl_100, zl_160, zl_299, zl_300, zl_301, zl_382, zl_398, zl_399, zl_464, zl_680, zl_862, zl_999, zl_1000, zl_9999, zl_10000, zl_1000000, zl_m1, zl_m2, zl_m3, zl_m8, zl_97, zl_122, zl_90, zl_100000, zl_75, zl_28530, zl_26982, zl_101, zl_104, zl_108, zl_110, zl_111, zl_112, zl_114, zl_115, zl_116, zl_117, zl_119, zl_121, and_true, true_and, and_false, false_and, or_false, false_or, or_true, true_or, not_true_eq_false, not_false_eq_true] at hi_td hi_spp c1 c6 c11 c16 ⊢) <;> omega)⟩) dX12_nameOf_76 (Nat.le_of_ble_eq_true rfl) (Nat.le_of_ble_eq_true rfl)
      · refine lv_iconst (v := 1) hx hb dX12_nameOf_54 (by decide) ?_
        exact z_ret Z rfl hP hD hS (⟨(by decide), rfl, (by (try simp only [zlt, zle, zeq, zl_0, zl_1, zl_2, zl_3, zl_4, zl_5, zl_6, zl_7, zl_8, zl_9, zl_10, zl_11, zl_12, zl_13, zl_14, zl_15, zl_16, zl_17, zl_18, zl_19, zl_20, zl_21, zl_22, zl_23, zl_24, zl_25, zl_26, zl_27, zl_28, zl_29, zl_30, zl_31, zl_32, zl_33, zl_34, zl_35, zl_36, zl_37, zl_38, zl_39, zl_40, zl_41, zl_42, zl_43, zl_44, zl_45, zl_46, zl_47, zl_48, zl_49, zl_50, zl_51, zl_52, zl_53, zl_54, zl_55, zl_56, zl_57, zl_58, zl_59, zl_60, zl_61, zl_62, zl_63, zl_64, zl_65, zl_82, zl_99, zl_100, zl_160, zl_299, zl_300, zl_301, zl_382, zl_398, zl_399, zl_464, zl_680, zl_862, zl_999, zl_1000, zl_9999, zl_10000, zl_1000000, zl_m1, zl_m2, zl_m3, zl_m8, zl_97, zl_122, zl_90, zl_100000, zl_75, zl_28530, zl_26982, zl_101, zl_104, zl_108, zl_110, zl_111, zl_112, zl_114, zl_115, zl_116, zl_117, zl_119, zl_121, and_true, true_and, and_false, false_and, or_false, false_or, or_true, true_or, not_true_eq_false, not_false_eq_true] at hi_td hi_spp c1 c6 c11 ⊢) <;> omega)⟩) dX12_nameOf_55 (Nat.le_of_ble_eq_true rfl) (Nat.le_of_ble_eq_true rfl)
    · refine lv_iconst (v := 0) hx hb dX12_nameOf_31 (by decide) ?_
      exact z_ret Z rfl hP hD hS (⟨(by decide), rfl, (by (try simp only [zlt, zle, zeq, zl_0, zl_1, zl_2, zl_3, zl_4, zl_5, zl_6, zl_7, zl_8, zl_9, zl_10, zl_11, zl_12, zl_13, zl_14, zl_15, zl_16, zl_17, zl_18, zl_19, zl_20, zl_21, zl_22, zl_23, zl_24, zl_25, zl_26, zl_27, zl_28, zl_29, zl_30, zl_31, zl_32, zl_33, zl_34, zl_35, zl_36, zl_37, zl_38, zl_39, zl_40, zl_41, zl_42, zl_43, zl_44, zl_45, zl_46, zl_47, zl_48, zl_49, zl_50, zl_51, zl_52, zl_53, zl_54, zl_55, zl_56, zl_57, zl_58, zl_59, zl_60, zl_61, zl_62, zl_63, zl_64, zl_65, zl_82, zl_99, zl_100, zl_160, zl_299, zl_300, zl_301, zl_382, zl_398, zl_399, zl_464, zl_680, zl_862, zl_999, zl_1000, zl_9999, zl_10000, zl_1000000, zl_m1, zl_m2, zl_m3, zl_m8, zl_97, zl_122, zl_90, zl_100000, zl_75, zl_28530, zl_26982, zl_101, zl_104, zl_108, zl_110, zl_111, zl_112, zl_114, zl_115, zl_116, zl_117, zl_119, zl_121, and_true, true_and, and_false, false_and, or_false, false_or, or_true, true_or, not_true_eq_false, not_false_eq_true] at hi_td hi_spp c1 c6 ⊢) <;> omega)⟩) dX12_nameOf_32 (Nat.le_of_ble_eq_true rfl) (Nat.le_of_ble_eq_true rfl)
  · refine lv_iconst (v := (-1)) hx hb dX12_nameOf_8 (by decide) ?_
    exact z_ret Z rfl hP hD hS (⟨(by decide), rfl, (by (try simp only [zlt, zle, zeq, zl_0, zl_1, zl_2, zl_3, zl_4, zl_5, zl_6, zl_7, zl_8, zl_9, zl_10, zl_11, zl_12, zl_13, zl_14, zl_15, zl_16, zl_17, zl_18, zl_19, zl_20, zl_21, zl_22, zl_23, zl_24, zl_25, zl_26, zl_27, zl_28, zl_29, zl_30, zl_31, zl_32, zl_33, zl_34, zl_35, zl_36, zl_37, zl_38, zl_39, zl_40, zl_41, zl_42, zl_43, zl_44, zl_45, zl_46, zl_47, zl_48, zl_49, zl_50, zl_51, zl_52, zl_53, zl_54, zl_55, zl_56, zl_57, zl_58, zl_59, zl_60, zl_61, zl_62, zl_63, zl_64, zl_65, zl_82, zl_99, zl_100, zl_160, zl_299, zl_300, zl_301, zl_382, zl_398, zl_399, zl_464, zl_680, zl_862, zl_999, zl_1000, zl_9999, zl_10000, zl_1000000, zl_m1, zl_m2, zl_m3, zl_m8, zl_97, zl_122, zl_90, zl_100000, zl_75, zl_28530, zl_26982, zl_101, zl_104, zl_108, zl_110, zl_111, zl_112, zl_114, zl_115, zl_116, zl_117, zl_119, zl_121, and_true, true_and, and_false, false_and, or_false, false_or, or_true, true_or, not_true_eq_false, not_false_eq_true] at hi_td hi_spp c1 ⊢) <;> omega)⟩) dX12_nameOf_9 (Nat.le_of_ble_eq_true rfl) (Nat.le_of_ble_eq_true rfl)
set_option maxHeartbeats 4000000 in
set_option maxRecDepth 100000 in
theorem c_X12_isOf (l : Launch) (D : va_G) (cI cM cT cJ cZ : ClassId) (q : Nat) (p0 : Int32) (aA : Nat) (aI : Nat) (xT : Nat) (tP_ : Nat) (td : Int32) (fu : Int32) (fp : Int32) (at_ : Int32) (plc : Int32) (tok : Int32) (num : Int32) (wrd : Int64) (tx0 : Int32) (cls : Int32) (wri : Int32) (cam : Int32) (pI : Nat) (pid : Int32) (ope : Int32) (isw : Int32) (so0 : Int32) (onc : Int32) (nm : Nat) (vL : Nat) (tR : Nat) (spp : Int32) (eat : Int32) (ste : Int32) (rW : Nat) (sP : Nat) (oT : Nat) (bS : Nat) (aS : Nat) (aO : Nat) (cS : Nat) (wY : Nat) (hi_td : 0 ≤ td.toInt ∧ td.toInt ≤ 300) (hi_spp : 0 ≤ spp.toInt ∧ spp.toInt ≤ 299) : Ci l D (ty3 cI cM cT cJ cZ) yX12_isOf cX12_isOf 2 (some .boolean) 0 0 0 [.ref q, .int p0] ([(q, .inr (12, [.ref aA, .ref aI, .ref xT, .ref tP_, .int td, .int fu, .int fp, .int at_, .int plc, .int tok, .int num, .long wrd, .int tx0, .int cls, .int wri, .int cam, .ref pI, .int pid, .int ope, .int isw, .int so0, .int onc, .ref nm, .ref vL, .ref tR, .int spp, .int eat, .int ste, .ref rW, .ref sP, .ref oT, .ref bS, .ref aS, .ref aO, .ref cS, .ref wY]))]) (fun r u => (0 ≤ r.toInt ∧ r.toInt ≤ 1) ∧ u = [(q, .inr (12, [.ref aA, .ref aI, .ref xT, .ref tP_, .int td, .int fu, .int fp, .int at_, .int plc, .int tok, .int num, .long wrd, .int tx0, .int cls, .int wri, .int cam, .ref pI, .int pid, .int ope, .int isw, .int so0, .int onc, .ref nm, .ref vL, .ref tR, .int spp, .int eat, .int ste, .ref rW, .ref sP, .ref oT, .ref bS, .ref aS, .ref aO, .ref cS, .ref wY]))]) := by
  refine Ci.of (by decide +kernel) (Nat.le_of_ble_eq_true rfl) ?_
  intro p e s m below meth c A ls Z hin hP hD hl
  have hx := Z.1
  have hb := Z.2.1
  have hS : va_S A s.heap s.heap [] := va_S.rf
  have hl : lv_has ls 2 [(0, .ref q), (1, .int p0)] := hl
  skip
  refine lv_iload_n hx hb dX12_isOf_0 rfl (lv_at hl 1 rfl) ?_
  refine lv_iconst (v := 4) hx hb dX12_isOf_1 (by decide) ?_
  refine lv_icmp_ge (tgt := 7) hx hb dX12_isOf_2 (by decide) (fun c1 => ?_) (fun c1 => ?_)
  · refine lv_iload_n hx hb dX12_isOf_7 rfl (lv_at hl 1 rfl) ?_
    refine lv_bipush (v := 6) hx hb dX12_isOf_8 (by decide) ?_
    refine lv_icmp_ge (tgt := 29) hx hb dX12_isOf_10 (by decide) (fun c2 => ?_) (fun c2 => ?_)
    · refine lv_iload_n hx hb dX12_isOf_29 rfl (lv_at hl 1 rfl) ?_
      refine lv_bipush (v := 6) hx hb dX12_isOf_30 (by decide) ?_
      refine lv_icmp_ne (tgt := 51) hx hb dX12_isOf_32 (by decide) (fun c3 => ?_) (fun c3 => ?_)
      · refine lv_aload_n hx hb dX12_isOf_51 rfl (lv_at hl 0 rfl) ?_
        refine z_get Z i_X12 hP 0 rfl rfl 20 (by decide) bw_1037 rfl dX12_isOf_52 ?_
        refine lv_iconst (v := 2) hx hb dX12_isOf_55 (by decide) ?_
        refine lv_icmp_ne (tgt := 63) hx hb dX12_isOf_56 (by decide) (fun c4 => ?_) (fun c4 => ?_)
        · refine lv_iconst (v := 0) hx hb dX12_isOf_63 (by decide) ?_
          exact z_ret Z rfl hP hD hS (⟨(by decide), rfl⟩) dX12_isOf_64 (Nat.le_of_ble_eq_true rfl) (Nat.le_of_ble_eq_true rfl)
        · refine lv_iconst (v := 1) hx hb dX12_isOf_59 (by decide) ?_
          refine lv_goto (tgt := 64) hx hb dX12_isOf_60 (by decide) ?_
          exact z_ret Z rfl hP hD hS (⟨(by decide), rfl⟩) dX12_isOf_64 (Nat.le_of_ble_eq_true rfl) (Nat.le_of_ble_eq_true rfl)
      · refine lv_aload_n hx hb dX12_isOf_35 rfl (lv_at hl 0 rfl) ?_
        refine z_get Z i_X12 hP 0 rfl rfl 20 (by decide) bw_1037 rfl dX12_isOf_36 ?_
        refine lv_iconst (v := 1) hx hb dX12_isOf_39 (by decide) ?_
        refine lv_icmp_ne (tgt := 47) hx hb dX12_isOf_40 (by decide) (fun c5 => ?_) (fun c5 => ?_)
        · refine lv_iconst (v := 0) hx hb dX12_isOf_47 (by decide) ?_
          refine lv_goto (tgt := 64) hx hb dX12_isOf_48 (by decide) ?_
          exact z_ret Z rfl hP hD hS (⟨(by decide), rfl⟩) dX12_isOf_64 (Nat.le_of_ble_eq_true rfl) (Nat.le_of_ble_eq_true rfl)
        · refine lv_iconst (v := 1) hx hb dX12_isOf_43 (by decide) ?_
          refine lv_goto (tgt := 64) hx hb dX12_isOf_44 (by decide) ?_
          exact z_ret Z rfl hP hD hS (⟨(by decide), rfl⟩) dX12_isOf_64 (Nat.le_of_ble_eq_true rfl) (Nat.le_of_ble_eq_true rfl)
    · refine lv_aload_n hx hb dX12_isOf_13 rfl (lv_at hl 0 rfl) ?_
      refine z_get Z i_X12 hP 0 rfl rfl 20 (by decide) bw_1037 rfl dX12_isOf_14 ?_
      refine lv_iconst (v := 2) hx hb dX12_isOf_17 (by decide) ?_
      refine lv_icmp_eq (tgt := 25) hx hb dX12_isOf_18 (by decide) (fun c6 => ?_) (fun c6 => ?_)
      · refine lv_iconst (v := 0) hx hb dX12_isOf_25 (by decide) ?_
        refine lv_goto (tgt := 64) hx hb dX12_isOf_26 (by decide) ?_
        exact z_ret Z rfl hP hD hS (⟨(by decide), rfl⟩) dX12_isOf_64 (Nat.le_of_ble_eq_true rfl) (Nat.le_of_ble_eq_true rfl)
      · refine lv_iconst (v := 1) hx hb dX12_isOf_21 (by decide) ?_
        refine lv_goto (tgt := 64) hx hb dX12_isOf_22 (by decide) ?_
        exact z_ret Z rfl hP hD hS (⟨(by decide), rfl⟩) dX12_isOf_64 (Nat.le_of_ble_eq_true rfl) (Nat.le_of_ble_eq_true rfl)
  · refine lv_iconst (v := 1) hx hb dX12_isOf_5 (by decide) ?_
    exact z_ret Z rfl hP hD hS (⟨(by decide), rfl⟩) dX12_isOf_6 (Nat.le_of_ble_eq_true rfl) (Nat.le_of_ble_eq_true rfl)
