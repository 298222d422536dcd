theorem dX11_isWithin_0 : decode cX11_isWithin 0 = .ok (.iload_n 0, 1) := by decide +kernel
theorem dX11_isWithin_1 : decode cX11_isWithin 1 = .ok (.iload_n 1, 1) := by decide +kernel
theorem dX11_isWithin_2 : decode cX11_isWithin 2 = .ok (.if_icmp .lt 12, 3) := by decide +kernel
theorem dX11_isWithin_5 : decode cX11_isWithin 5 = .ok (.iload_n 0, 1) := by decide +kernel
theorem dX11_isWithin_6 : decode cX11_isWithin 6 = .ok (.iload_n 2, 1) := by decide +kernel
theorem dX11_isWithin_7 : decode cX11_isWithin 7 = .ok (.if_icmp .gt 7, 3) := by decide +kernel
theorem dX11_isWithin_10 : decode cX11_isWithin 10 = .ok (.iconst 1, 1) := by decide +kernel
theorem dX11_isWithin_11 : decode cX11_isWithin 11 = .ok (.goto 4, 3) := by decide +kernel
theorem dX11_isWithin_14 : decode cX11_isWithin 14 = .ok (.iconst 0, 1) := by decide +kernel
theorem dX11_isWithin_15 : decode cX11_isWithin 15 = .ok (.ireturn, 1) := by decide +kernel
theorem dX11_isPlace_0 : decode cX11_isPlace 0 = .ok (.iload_n 0, 1) := by decide +kernel
theorem dX11_isPlace_1 : decode cX11_isPlace 1 = .ok (.ifCond .lt 14, 3) := by decide +kernel
theorem dX11_isPlace_4 : decode cX11_isPlace 4 = .ok (.iload_n 0, 1) := by decide +kernel
theorem dX11_isPlace_5 : decode cX11_isPlace 5 = .ok (.sipush 300, 3) := by decide +kernel
theorem dX11_isPlace_8 : decode cX11_isPlace 8 = .ok (.if_icmp .ge 7, 3) := by decide +kernel
theorem dX11_isPlace_11 : decode cX11_isPlace 11 = .ok (.iconst 1, 1) := by decide +kernel
theorem dX11_isPlace_12 : decode cX11_isPlace 12 = .ok (.goto 4, 3) := by decide +kernel
theorem dX11_isPlace_15 : decode cX11_isPlace 15 = .ok (.iconst 0, 1) := by decide +kernel
theorem dX11_isPlace_16 : decode cX11_isPlace 16 = .ok (.ireturn, 1) := by decide +kernel
theorem dX12_isIn_0 : decode cX12_isIn 0 = .ok (.iload_n 0, 1) := by decide +kernel
theorem dX12_isIn_1 : decode cX12_isIn 1 = .ok (.iload_n 1, 1) := by decide +kernel
theorem dX12_isIn_2 : decode cX12_isIn 2 = .ok (.if_icmp .lt 12, 3) := by decide +kernel
theorem dX12_isIn_5 : decode cX12_isIn 5 = .ok (.iload_n 0, 1) := by decide +kernel
theorem dX12_isIn_6 : decode cX12_isIn 6 = .ok (.iload_n 2, 1) := by decide +kernel
theorem dX12_isIn_7 : decode cX12_isIn 7 = .ok (.if_icmp .gt 7, 3) := by decide +kernel
theorem dX12_isIn_10 : decode cX12_isIn 10 = .ok (.iconst 1, 1) := by decide +kernel
theorem dX12_isIn_11 : decode cX12_isIn 11 = .ok (.goto 4, 3) := by decide +kernel
theorem dX12_isIn_14 : decode cX12_isIn 14 = .ok (.iconst 0, 1) := by decide +kernel
theorem dX12_isIn_15 : decode cX12_isIn 15 = .ok (.ireturn, 1) := by decide +kernel
theorem dX12_isPlace_0 : decode cX12_isPlace 0 = .ok (.iload_n 0, 1) := by decide +kernel
theorem dX12_isPlace_1 : decode cX12_isPlace 1 = .ok (.iconst 0, 1) := by decide +kernel
theorem dX12_isPlace_2 : decode cX12_isPlace 2 = .ok (.sipush 299, 3) := by decide +kernel
theorem dX12_isPlace_5 : decode cX12_isPlace 5 = .ok (.invokestatic 71, 3) := by decide +kernel
theorem dX12_isPlace_8 : decode cX12_isPlace 8 = .ok (.ireturn, 1) := by decide +kernel
theorem dX11_cut_0 : decode cX11_cut 0 = .ok (.iload_n 0, 1) := by decide +kernel
theorem dX11_cut_1 : decode cX11_cut 1 = .ok (.iload_n 1, 1) := by decide +kernel
theorem dX11_cut_2 : decode cX11_cut 2 = .ok (.if_icmp .ge 5, 3) := by decide +kernel
theorem dX11_cut_5 : decode cX11_cut 5 = .ok (.iload_n 1, 1) := by decide +kernel
theorem dX11_cut_6 : decode cX11_cut 6 = .ok (.ireturn, 1) := by decide +kernel
theorem dX11_cut_7 : decode cX11_cut 7 = .ok (.iload_n 0, 1) := by decide +kernel
theorem dX11_cut_8 : decode cX11_cut 8 = .ok (.iload_n 2, 1) := by decide +kernel
theorem dX11_cut_9 : decode cX11_cut 9 = .ok (.if_icmp .le 7, 3) := by decide +kernel
theorem dX11_cut_12 : decode cX11_cut 12 = .ok (.iload_n 2, 1) := by decide +kernel
theorem dX11_cut_13 : decode cX11_cut 13 = .ok (.goto 4, 3) := by decide +kernel
theorem dX11_cut_16 : decode cX11_cut 16 = .ok (.iload_n 0, 1) := by decide +kernel
theorem dX11_cut_17 : decode cX11_cut 17 = .ok (.ireturn, 1) := by decide +kernel
theorem dX9_has_0 : decode cX9_has 0 = .ok (.aload_n 0, 1) := by decide +kernel
theorem dX9_has_1 : decode cX9_has 1 = .ok (.getfield 15, 3) := by decide +kernel
theorem dX9_has_4 : decode cX9_has 4 = .ok (.iload_n 1, 1) := by decide +kernel
theorem dX9_has_5 : decode cX9_has 5 = .ok (.iaload, 1) := by decide +kernel
theorem dX9_has_6 : decode cX9_has 6 = .ok (.aload_n 0, 1) := by decide +kernel
theorem dX9_has_7 : decode cX9_has 7 = .ok (.getfield 18, 3) := by decide +kernel
theorem dX9_has_10 : decode cX9_has 10 = .ok (.iload_n 1, 1) := by decide +kernel
theorem dX9_has_11 : decode cX9_has 11 = .ok (.iaload, 1) := by decide +kernel
theorem dX9_has_12 : decode cX9_has 12 = .ok (.if_icmp .ge 7, 3) := by decide +kernel
theorem dX9_has_15 : decode cX9_has 15 = .ok (.iconst 1, 1) := by decide +kernel
theorem dX9_has_16 : decode cX9_has 16 = .ok (.goto 4, 3) := by decide +kernel
theorem dX9_has_19 : decode cX9_has 19 = .ok (.iconst 0, 1) := by decide +kernel
theorem dX9_has_20 : decode cX9_has 20 = .ok (.ireturn, 1) := by decide +kernel
theorem bw_92 : Cond.initialized "CountingHorsesModel" ∈ BW := bw_at 92 (by decide +kernel) (by decide +kernel)
theorem bw_300 : Cond.fieldLink "CountingHorses$Text" 15 "CountingHorses$Text" "lawFrom" "[I" ∈ BW := bw_at 300 (by decide +kernel) (by decide +kernel)
theorem bw_303 : Cond.fieldLink "CountingHorses$Text" 18 "CountingHorses$Text" "lawTo" "[I" ∈ BW := bw_at 303 (by decide +kernel) (by decide +kernel)
theorem bw_1135 : Cond.methodLink "CountingHorsesModel" 71 ⟨"CountingHorsesModel", "isIn", "(III)Z"⟩ ∈ BW := bw_at 1135 (by decide +kernel) (by decide +kernel)
theorem bw_1136 : Cond.static ⟨"CountingHorsesModel", "isIn", "(III)Z"⟩ ∈ BW := bw_at 1136 (by decide +kernel) (by decide +kernel)
theorem bw_1137 : Cond.code ⟨"CountingHorsesModel", "isIn", "(III)Z"⟩ prog_14_method_3_code 3 (some .boolean) ∈ BW := bw_at 1137 (by decide +kernel) (by decide +kernel)
set_option maxHeartbeats 4000000 in
set_option maxRecDepth 100000 in
theorem c_X11_isWithin (l : Launch) (D : va_G) (cI cM cT cJ cZ : ClassId) (a : Int32) (b : Int32) (d : Int32) : Ci l D (ty3 cI cM cT cJ cZ) yX11_isWithin cX11_isWithin 3 (some .boolean) 0 0 0 [.int a, .int b, .int d] ([]) (fun r u => r = (if b ≤ a ∧ a ≤ d then 1 else 0) ∧ u = []) := by
  refine Ci.of (by decide +kernel) (Nat.le_of_ble_eq_true rfl) ?_
  intro p e s m below meth c A ls Z hin hP hD hl
  have hx := Z.1
  have hb := Z.2.1
  have hS : va_S A s.heap s.heap [] := va_S.rf
  have hl : lv_has ls 3 [(0, .int a), (1, .int b), (2, .int d)] := hl
  skip
  refine lv_iload_n hx hb dX11_isWithin_0 rfl (lv_at hl 0 rfl) ?_
  refine lv_iload_n hx hb dX11_isWithin_1 rfl (lv_at hl 1 rfl) ?_
  refine lv_icmp_lt (tgt := 14) hx hb dX11_isWithin_2 (by decide) (fun c1 => ?_) (fun c1 => ?_)
  · refine lv_iconst (v := 0) hx hb dX11_isWithin_14 (by decide) ?_
    exact z_ret Z rfl hP hD hS (⟨(if_neg (by first | with_reducible assumption | ((try simp only [zlt, zle, zeq, zl_0, zl_1, zl_2, zl_3, zl_4, zl_5, zl_6, zl_7, zl_8, zl_9, zl_10, zl_11, zl_12, zl_13, zl_14, zl_15, zl_16, zl_17, zl_18, zl_19, zl_20, zl_21, zl_22, zl_23, zl_24, zl_25, zl_26, zl_27, zl_28, zl_29, zl_30, zl_31, zl_32, zl_33, zl_34, zl_35, zl_36, zl_37, zl_38, zl_39, zl_40, zl_41, zl_42, zl_43, zl_44, zl_45, zl_46, zl_47, zl_48, zl_49, zl_50, zl_51, zl_52, zl_53, zl_54, zl_55, zl_56, zl_57, zl_58, zl_59, zl_60, zl_61, zl_62, zl_63, zl_64, zl_65, zl_82, zl_99, zl_100, zl_160, zl_299, zl_300, zl_301, zl_382, zl_398, zl_399, zl_464, zl_680, zl_862, zl_999, zl_1000, zl_9999, zl_10000, zl_1000000, zl_m1, zl_m2, zl_m3, zl_m8] at c1 ⊢); omega))).symm, rfl⟩) dX11_isWithin_15 (Nat.le_of_ble_eq_true rfl) (Nat.le_of_ble_eq_true rfl)
  · refine lv_iload_n hx hb dX11_isWithin_5 rfl (lv_at hl 0 rfl) ?_
    refine lv_iload_n hx hb dX11_isWithin_6 rfl (lv_at hl 2 rfl) ?_
    refine lv_icmp_gt (tgt := 14) hx hb dX11_isWithin_7 (by decide) (fun c2 => ?_) (fun c2 => ?_)
    · refine lv_iconst (v := 0) hx hb dX11_isWithin_14 (by decide) ?_
      exact z_ret Z rfl hP hD hS (⟨(if_neg (by first | with_reducible assumption | ((try simp only [zlt, zle, zeq, zl_0, zl_1, zl_2, zl_3, zl_4, zl_5, zl_6, zl_7, zl_8, zl_9, zl_10, zl_11, zl_12, zl_13, zl_14, zl_15, zl_16, zl_17, zl_18, zl_19, zl_20, zl_21, zl_22, zl_23, zl_24, zl_25, zl_26, zl_27, zl_28, zl_29, zl_30, zl_31, zl_32, zl_33, zl_34, zl_35, zl_36, zl_37, zl_38, zl_39, zl_40, zl_41, zl_42, zl_43, zl_44, zl_45, zl_46, zl_47, zl_48, zl_49, zl_50, zl_51, zl_52, zl_53, zl_54, zl_55, zl_56, zl_57, zl_58, zl_59, zl_60, zl_61, zl_62, zl_63, zl_64, zl_65, zl_82, zl_99, zl_100, zl_160, zl_299, zl_300, zl_301, zl_382, zl_398, zl_399, zl_464, zl_680, zl_862, zl_999, zl_1000, zl_9999, zl_10000, zl_1000000, zl_m1, zl_m2, zl_m3, zl_m8] at c1 c2 ⊢); omega))).symm, rfl⟩) dX11_isWithin_15 (Nat.le_of_ble_eq_true rfl) (Nat.le_of_ble_eq_true rfl)
    · refine lv_iconst (v := 1) hx hb dX11_isWithin_10 (by decide) ?_
      refine lv_goto (tgt := 15) hx hb dX11_isWithin_11 (by decide) ?_
      exact z_ret Z rfl hP hD hS (⟨(if_pos (by first | with_reducible assumption | ((try simp only [zlt, zle, zeq, zl_0, zl_1, zl_2, zl_3, zl_4, zl_5, zl_6, zl_7, zl_8, zl_9, zl_10, zl_11, zl_12, zl_13, zl_14, zl_15, zl_16, zl_17, zl_18, zl_19, zl_20, zl_21, zl_22, zl_23, zl_24, zl_25, zl_26, zl_27, zl_28, zl_29, zl_30, zl_31, zl_32, zl_33, zl_34, zl_35, zl_36, zl_37, zl_38, zl_39, zl_40, zl_41, zl_42, zl_43, zl_44, zl_45, zl_46, zl_47, zl_48, zl_49, zl_50, zl_51, zl_52, zl_53, zl_54, zl_55, zl_56, zl_57, zl_58, zl_59, zl_60, zl_61, zl_62, zl_63, zl_64, zl_65, zl_82, zl_99, zl_100, zl_160, zl_299, zl_300, zl_301, zl_382, zl_398, zl_399, zl_464, zl_680, zl_862, zl_999, zl_1000, zl_9999, zl_10000, zl_1000000, zl_m1, zl_m2, zl_m3, zl_m8] at c1 c2 ⊢); omega))).symm, rfl⟩) dX11_isWithin_15 (Nat.le_of_ble_eq_true rfl) (Nat.le_of_ble_eq_true rfl)
set_option maxHeartbeats 4000000 in
set_option maxRecDepth 100000 in
theorem c_X11_isPlace (l : Launch) (D : va_G) (cI cM cT cJ cZ : ClassId) (a : Int32) : Ci l D (ty3 cI cM cT cJ cZ) yX11_isPlace cX11_isPlace 1 (some .boolean) 0 0 0 [.int a] ([]) (fun r u => r = (if 0 ≤ a ∧ a < 300 then 1 else 0) ∧ u = []) := by
  refine Ci.of (by decide +kernel) (Nat.le_of_ble_eq_true rfl) ?_
  intro p e s m below meth c A ls Z hin hP hD hl
  have hx := Z.1
  have hb := Z.2.1
  have hS : va_S A s.heap s.heap [] := va_S.rf
  have hl : lv_has ls 1 [(0, .int a)] := hl
  skip
  refine lv_iload_n hx hb dX11_isPlace_0 rfl (lv_at hl 0 rfl) ?_
  refine lv_if_lt (tgt := 15) hx hb dX11_isPlace_1 (by decide) (fun c1 => ?_) (fun c1 => ?_)
  · refine lv_iconst (v := 0) hx hb dX11_isPlace_15 (by decide) ?_
    exact z_ret Z rfl hP hD hS (⟨(if_neg (by first | with_reducible assumption | ((try simp only [zlt, zle, zeq, zl_0, zl_1, zl_2, zl_3, zl_4, zl_5, zl_6, zl_7, zl_8, zl_9, zl_10, zl_11, zl_12, zl_13, zl_14, zl_15, zl_16, zl_17, zl_18, zl_19, zl_20, zl_21, zl_22, zl_23, zl_24, zl_25, zl_26, zl_27, zl_28, zl_29, zl_30, zl_31, zl_32, zl_33, zl_34, zl_35, zl_36, zl_37, zl_38, zl_39, zl_40, zl_41, zl_42, zl_43, zl_44, zl_45, zl_46, zl_47, zl_48, zl_49, zl_50, zl_51, zl_52, zl_53, zl_54, zl_55, zl_56, zl_57, zl_58, zl_59, zl_60, zl_61, zl_62, zl_63, zl_64, zl_65, zl_82, zl_99, zl_100, zl_160, zl_299, zl_300, zl_301, zl_382, zl_398, zl_399, zl_464, zl_680, zl_862, zl_999, zl_1000, zl_9999, zl_10000, zl_1000000, zl_m1, zl_m2, zl_m3, zl_m8] at c1 ⊢); omega))).symm, rfl⟩) dX11_isPlace_16 (Nat.le_of_ble_eq_true rfl) (Nat.le_of_ble_eq_true rfl)
  · refine lv_iload_n hx hb dX11_isPlace_4 rfl (lv_at hl 0 rfl) ?_
    refine lv_sipush (v := 300) hx hb dX11_isPlace_5 (by decide) ?_
    refine lv_icmp_ge (tgt := 15) hx hb dX11_isPlace_8 (by decide) (fun c2 => ?_) (fun c2 => ?_)
    · refine lv_iconst (v := 0) hx hb dX11_isPlace_15 (by decide) ?_
      exact z_ret Z rfl hP hD hS (⟨(if_neg (by first | with_reducible assumption | ((try simp only [zlt, zle, zeq, zl_0, zl_1, zl_2, zl_3, zl_4, zl_5, zl_6, zl_7, zl_8, zl_9, zl_10, zl_11, zl_12, zl_13, zl_14, zl_15, zl_16, zl_17, zl_18, zl_19, zl_20, zl_21, zl_22, zl_23, zl_24, zl_25, zl_26, zl_27, zl_28, zl_29, zl_30, zl_31, zl_32, zl_33, zl_34, zl_35, zl_36, zl_37, zl_38, zl_39, zl_40, zl_41, zl_42, zl_43, zl_44, zl_45, zl_46, zl_47, zl_48, zl_49, zl_50, zl_51, zl_52, zl_53, zl_54, zl_55, zl_56, zl_57, zl_58, zl_59, zl_60, zl_61, zl_62, zl_63, zl_64, zl_65, zl_82, zl_99, zl_100, zl_160, zl_299, zl_300, zl_301, zl_382, zl_398, zl_399, zl_464, zl_680, zl_862, zl_999, zl_1000, zl_9999, zl_10000, zl_1000000, zl_m1, zl_m2, zl_m3, zl_m8] at c1 c2 ⊢); omega))).symm, rfl⟩) dX11_isPlace_16 (Nat.le_of_ble_eq_true rfl) (Nat.le_of_ble_eq_true rfl)
    · refine lv_iconst (v := 1) hx hb dX11_isPlace_11 (by decide) ?_
      refine lv_goto (tgt := 16) hx hb dX11_isPlace_12 (by decide) ?_
      exact z_ret Z rfl hP hD hS (⟨(if_pos (by first | with_reducible assumption | ((try simp only [zlt, zle, zeq, zl_0, zl_1, zl_2, zl_3, zl_4, zl_5, zl_6, zl_7, zl_8, zl_9, zl_10, zl_11, zl_12, zl_13, zl_14, zl_15, zl_16, zl_17, zl_18, zl_19, zl_20, zl_21, zl_22, zl_23, zl_24, zl_25, zl_26, zl_27, zl_28, zl_29, zl_30, zl_31, zl_32, zl_33, zl_34, zl_35, zl_36, zl_37, zl_38, zl_39, zl_40, zl_41, zl_42, zl_43, zl_44, zl_45, zl_46, zl_47, zl_48, zl_49, zl_50, zl_51, zl_52, zl_53, zl_54, zl_55, zl_56, zl_57, zl_58, zl_59, zl_60, zl_61, zl_62, zl_63, zl_64, zl_65, zl_82, zl_99, zl_100, zl_160, zl_299, zl_300, zl_301, zl_382, zl_398, zl_399, zl_464, zl_680, zl_862, zl_999, zl_1000, zl_9999, zl_10000, zl_1000000, zl_m1, zl_m2, zl_m3, zl_m8] at c1 c2 ⊢); omega))).symm, rfl⟩) dX11_isPlace_16 (Nat.le_of_ble_eq_true rfl) (Nat.le_of_ble_eq_true rfl)
set_option maxHeartbeats 4000000 in
set_option maxRecDepth 100000 in
theorem c_X12_isIn (l : Launch) (D : va_G) (cI cM cT cJ cZ : ClassId) (a : Int32) (b : Int32) (d : Int32) : Ci l D (ty3 cI cM cT cJ cZ) yX12_isIn cX12_isIn 3 (some .boolean) 0 0 0 [.int a, .int b, .int d] ([]) (fun r u => r = (if b ≤ a ∧ a ≤ d then 1 else 0) ∧ u = []) := by
  refine Ci.of (by decide +kernel) (Nat.le_of_ble_eq_true rfl) ?_
  intro p e s m below meth c A ls Z hin hP hD hl
  have hx := Z.1
  have hb := Z.2.1
  have hS : va_S A s.heap s.heap [] := va_S.rf
  have hl : lv_has ls 3 [(0, .int a), (1, .int b), (2, .int d)] := hl
  skip
  refine lv_iload_n hx hb dX12_isIn_0 rfl (lv_at hl 0 rfl) ?_
  refine lv_iload_n hx hb dX12_isIn_1 rfl (lv_at hl 1 rfl) ?_
  refine lv_icmp_lt (tgt := 14) hx hb dX12_isIn_2 (by decide) (fun c1 => ?_) (fun c1 => ?_)
  · refine lv_iconst (v := 0) hx hb dX12_isIn_14 (by decide) ?_
    exact z_ret Z rfl hP hD hS (⟨(if_neg (by first | with_reducible assumption | ((try simp only [zlt, zle, zeq, zl_0, zl_1, zl_2, zl_3, zl_4, zl_5, zl_6, zl_7, zl_8, zl_9, zl_10, zl_11, zl_12, zl_13, zl_14, zl_15, zl_16, zl_17, zl_18, zl_19, zl_20, zl_21, zl_22, zl_23, zl_24, zl_25, zl_26, zl_27, zl_28, zl_29, zl_30, zl_31, zl_32, zl_33, zl_34, zl_35, zl_36, zl_37, zl_38, zl_39, zl_40, zl_41, zl_42, zl_43, zl_44, zl_45, zl_46, zl_47, zl_48, zl_49, zl_50, zl_51, zl_52, zl_53, zl_54, zl_55, zl_56, zl_57, zl_58, zl_59, zl_60, zl_61, zl_62, zl_63, zl_64, zl_65, zl_82, zl_99, zl_100, zl_160, zl_299, zl_300, zl_301, zl_382, zl_398, zl_399, zl_464, zl_680, zl_862, zl_999, zl_1000, zl_9999, zl_10000, zl_1000000, zl_m1, zl_m2, zl_m3, zl_m8] at c1 ⊢); omega))).symm, rfl⟩) dX12_isIn_15 (Nat.le_of_ble_eq_true rfl) (Nat.le_of_ble_eq_true rfl)
  · refine lv_iload_n hx hb dX12_isIn_5 rfl (lv_at hl 0 rfl) ?_
    refine lv_iload_n hx hb dX12_isIn_6 rfl (lv_at hl 2 rfl) ?_
    refine lv_icmp_gt (tgt := 14) hx hb dX12_isIn_7 (by decide) (fun c2 => ?_) (fun c2 => ?_)
    · refine lv_iconst (v := 0) hx hb dX12_isIn_14 (by decide) ?_
      exact z_ret Z rfl hP hD hS (⟨(if_neg (by first | with_reducible assumption | ((try simp only [zlt, zle, zeq, zl_0, zl_1, zl_2, zl_3, zl_4, zl_5, zl_6, zl_7, zl_8, zl_9, zl_10, zl_11, zl_12, zl_13, zl_14, zl_15, zl_16, zl_17, zl_18, zl_19, zl_20, zl_21, zl_22, zl_23, zl_24, zl_25, zl_26, zl_27, zl_28, zl_29, zl_30, zl_31, zl_32, zl_33, zl_34, zl_35, zl_36, zl_37, zl_38, zl_39, zl_40, zl_41, zl_42, zl_43, zl_44, zl_45, zl_46, zl_47, zl_48, zl_49, zl_50, zl_51, zl_52, zl_53, zl_54, zl_55, zl_56, zl_57, zl_58, zl_59, zl_60, zl_61, zl_62, zl_63, zl_64, zl_65, zl_82, zl_99, zl_100, zl_160, zl_299, zl_300, zl_301, zl_382, zl_398, zl_399, zl_464, zl_680, zl_862, zl_999, zl_1000, zl_9999, zl_10000, zl_1000000, zl_m1, zl_m2, zl_m3, zl_m8] at c1 c2 ⊢); omega))).symm, rfl⟩) dX12_isIn_15 (Nat.le_of_ble_eq_true rfl) (Nat.le_of_ble_eq_true rfl)
    · refine lv_iconst (v := 1) hx hb dX12_isIn_10 (by decide) ?_
      refine lv_goto (tgt := 15) hx hb dX12_isIn_11 (by decide) ?_
      exact z_ret Z rfl hP hD hS (⟨(if_pos (by first | with_reducible assumption | ((try simp only [zlt, zle, zeq, zl_0, zl_1, zl_2, zl_3, zl_4, zl_5, zl_6, zl_7, zl_8, zl_9, zl_10, zl_11, zl_12, zl_13, zl_14, zl_15, zl_16, zl_17, zl_18, zl_19, zl_20, zl_21, zl_22, zl_23, zl_24, zl_25, zl_26, zl_27, zl_28, zl_29, zl_30, zl_31, zl_32, zl_33, zl_34, zl_35, zl_36, zl_37, zl_38, zl_39, zl_40, zl_41, zl_42, zl_43, zl_44, zl_45, zl_46, zl_47, zl_48, zl_49, zl_50, zl_51, zl_52, zl_53, zl_54, zl_55, zl_56, zl_57, zl_58, zl_59, zl_60, zl_61, zl_62, zl_63, zl_64, zl_65, zl_82, zl_99, zl_100, zl_160, zl_299, zl_300, zl_301, zl_382, zl_398, zl_399, zl_464, zl_680, zl_862, zl_999, zl_1000, zl_9999, zl_10000, zl_1000000, zl_m1, zl_m2, zl_m3, zl_m8] at c1 c2 ⊢); omega))).symm, rfl⟩) dX12_isIn_15 (Nat.le_of_ble_eq_true rfl) (Nat.le_of_ble_eq_true rfl)
set_option maxHeartbeats 4000000 in
set_option maxRecDepth 100000 in
theorem c_X12_isPlace (l : Launch) (D : va_G) (cI cM cT cJ cZ : ClassId) (a : Int32) : Ci l D (ty3 cI cM cT cJ cZ) yX12_isPlace cX12_isPlace 1 (some .boolean) 1 0 0 [.int a] ([]) (fun r u => r = (if 0 ≤ a ∧ a ≤ 299 then 1 else 0) ∧ u = []) := by
  refine Ci.of (by decide +kernel) (Nat.le_of_ble_eq_true rfl) ?_
  intro p e s m below meth c A ls Z hin hP hD hl
  have hx := Z.1
  have hb := Z.2.1
  have hS : va_S A s.heap s.heap [] := va_S.rf
  have hl : lv_has ls 1 [(0, .int a)] := hl
  skip
  refine lv_iload_n hx hb dX12_isPlace_0 rfl (lv_at hl 0 rfl) ?_
  refine lv_iconst (v := 0) hx hb dX12_isPlace_1 (by decide) ?_
  refine lv_sipush (v := 299) hx hb dX12_isPlace_2 (by decide) ?_
  have hPc := hP.sub2 (wc := []) [] rfl
  have hDc := hD.sub (ws' := []) [] (by decide) rfl
  refine raw_Si (nA := 3) (As := [.int a, .int 0, .int 299]) (rest := []) Z hl.1 (c_X12_isIn l D cI cM cT cJ cZ a 0 299) (bw_S bw_1135 bw_1136 bw_92 bw_1137) ⟨by decide +kernel, by decide +kernel, by decide +kernel⟩ rfl ⟨Nat.le_of_ble_eq_true rfl, Nat.le_of_ble_eq_true rfl⟩ hPc hDc hS rfl (Nat.le_of_ble_eq_true rfl) dX12_isPlace_5 ⟨Nat.le_of_ble_eq_true rfl, Nat.le_of_ble_eq_true rfl⟩ (fun r2 u1 H locs h3 hku1 hP1 hD1 hS1 => ?_)
  obtain ⟨hrh3, rfl⟩ := h3
  obtain ⟨hP, hD⟩ := z_join (wr := []) Z hS hP hD [] [] rfl (by decide) rfl (by decide) (by decide) hku1 hP1 hD1
  have hS := hS1
  clear hS1
  have hP : va_P D vwCl ([]) H := hP
  have hD : va_D A ([]) := hD
  by_cases c4 : 0 ≤ a ∧ a ≤ 299
  · obtain rfl : r2 = 1 := by rw [hrh3, if_pos c4]
    exact z_ret Z rfl hP hD hS (⟨(if_pos (by first | with_reducible assumption | ((try simp only [zlt, zle, zeq, zl_0, zl_1, zl_2, zl_3, zl_4, zl_5, zl_6, zl_7, zl_8, zl_9, zl_10, zl_11, zl_12, zl_13, zl_14, zl_15, zl_16, zl_17, zl_18, zl_19, zl_20, zl_21, zl_22, zl_23, zl_24, zl_25, zl_26, zl_27, zl_28, zl_29, zl_30, zl_31, zl_32, zl_33, zl_34, zl_35, zl_36, zl_37, zl_38, zl_39, zl_40, zl_41, zl_42, zl_43, zl_44, zl_45, zl_46, zl_47, zl_48, zl_49, zl_50, zl_51, zl_52, zl_53, zl_54, zl_55, zl_56, zl_57, zl_58, zl_59, zl_60, zl_61, zl_62, zl_63, zl_64, zl_65, zl_82, zl_99, zl_100, zl_160, zl_299, zl_300, zl_301, zl_382, zl_398, zl_399, zl_464, zl_680, zl_862, zl_999, zl_1000, zl_9999, zl_10000, zl_1000000, zl_m1, zl_m2, zl_m3, zl_m8] at c4 ⊢); omega))).symm, rfl⟩) dX12_isPlace_8 (Nat.le_of_ble_eq_true rfl) (Nat.le_of_ble_eq_true rfl)
  · obtain rfl : r2 = 0 := by rw [hrh3, if_neg c4]
    exact z_ret Z rfl hP hD hS (⟨(if_neg (by first | with_reducible assumption | ((try simp only [zlt, zle, zeq, zl_0, zl_1, zl_2, zl_3, zl_4, zl_5, zl_6, zl_7, zl_8, zl_9, zl_10, zl_11, zl_12, zl_13, zl_14, zl_15, zl_16, zl_17, zl_18, zl_19, zl_20, zl_21, zl_22, zl_23, zl_24, zl_25, zl_26, zl_27, zl_28, zl_29, zl_30, zl_31, zl_32, zl_33, zl_34, zl_35, zl_36, zl_37, zl_38, zl_39, zl_40, zl_41, zl_42, zl_43, zl_44, zl_45, zl_46, zl_47, zl_48, zl_49, zl_50, zl_51, zl_52, zl_53, zl_54, zl_55, zl_56, zl_57, zl_58, zl_59, zl_60, zl_61, zl_62, zl_63, zl_64, zl_65, zl_82, zl_99, zl_100, zl_160, zl_299, zl_300, zl_301, zl_382, zl_398, zl_399, zl_464, zl_680, zl_862, zl_999, zl_1000, zl_9999, zl_10000, zl_1000000, zl_m1, zl_m2, zl_m3, zl_m8] at c4 ⊢); omega))).symm, rfl⟩) dX12_isPlace_8 (Nat.le_of_ble_eq_true rfl) (Nat.le_of_ble_eq_true rfl)
set_option maxHeartbeats 4000000 in
set_option maxRecDepth 100000 in
theorem c_X11_cut_99 (l : Launch) (D : va_G) (cI cM cT cJ cZ : ClassId) (a : Int32) : Ci l D (ty3 cI cM cT cJ cZ) yX11_cut cX11_cut 3 (some .int) 0 0 0 [.int a, .int 0, .int 99] ([]) (fun r u => (0 ≤ r.toInt ∧ r.toInt ≤ 99) ∧ u = []) := by
  refine Ci.of (by decide +kernel) (Nat.le_of_ble_eq_true rfl) ?_
  intro p e s m below meth c A ls Z hin hP hD hl
  have hx := Z.1
  have hb := Z.2.1
  have hS : va_S A s.heap s.heap [] := va_S.rf
  have hl : lv_has ls 3 [(0, .int a), (1, .int 0), (2, .int 99)] := hl
  skip
  refine lv_iload_n hx hb dX11_cut_0 rfl (lv_at hl 0 rfl) ?_
  refine lv_iload_n hx hb dX11_cut_1 rfl (lv_at hl 1 rfl) ?_
  refine lv_icmp_ge (tgt := 7) hx hb dX11_cut_2 (by decide) (fun c1 => ?_) (fun c1 => ?_)
  · refine lv_iload_n hx hb dX11_cut_7 rfl (lv_at hl 0 rfl) ?_
    refine lv_iload_n hx hb dX11_cut_8 rfl (lv_at hl 2 rfl) ?_
    refine lv_icmp_le (tgt := 16) hx hb dX11_cut_9 (by decide) (fun c2 => ?_) (fun c2 => ?_)
    · refine lv_iload_n hx hb dX11_cut_16 rfl (lv_at hl 0 rfl) ?_
      exact z_ret Z rfl hP hD hS (⟨(by first | with_reducible assumption | ((try simp only [zlt, zle, zeq, zl_0, zl_1, zl_2, zl_3, zl_4, zl_5, zl_6, zl_7, zl_8, zl_9, zl_10, zl_11, zl_12, zl_13, zl_14, zl_15, zl_16, zl_17, zl_18, zl_19, zl_20, zl_21, zl_22, zl_23, zl_24, zl_25, zl_26, zl_27, zl_28, zl_29, zl_30, zl_31, zl_32, zl_33, zl_34, zl_35, zl_36, zl_37, zl_38, zl_39, zl_40, zl_41, zl_42, zl_43, zl_44, zl_45, zl_46, zl_47, zl_48, zl_49, zl_50, zl_51, zl_52, zl_53, zl_54, zl_55, zl_56, zl_57, zl_58, zl_59, zl_60, zl_61, zl_62, zl_63, zl_64, zl_65, zl_82, zl_99, zl_100, zl_160, zl_299, zl_300, zl_301, zl_382, zl_398, zl_399, zl_464, zl_680, zl_862, zl_999, zl_1000, zl_9999, zl_10000, zl_1000000, zl_m1, zl_m2, zl_m3, zl_m8] at c1 c2 ⊢); omega)), rfl⟩) dX11_cut_17 (Nat.le_of_ble_eq_true rfl) (Nat.le_of_ble_eq_true rfl)
    · refine lv_iload_n hx hb dX11_cut_12 rfl (lv_at hl 2 rfl) ?_
      refine lv_goto (tgt := 17) hx hb dX11_cut_13 (by decide) ?_
      exact z_ret Z rfl hP hD hS (⟨(by decide), rfl⟩) dX11_cut_17 (Nat.le_of_ble_eq_true rfl) (Nat.le_of_ble_eq_true rfl)
  · refine lv_iload_n hx hb dX11_cut_5 rfl (lv_at hl 1 rfl) ?_
    exact z_ret Z rfl hP hD hS (⟨(by decide), rfl⟩) dX11_cut_6 (Nat.le_of_ble_eq_true rfl) (Nat.le_of_ble_eq_true rfl)
set_option maxHeartbeats 4000000 in
set_option maxRecDepth 100000 in
theorem c_X11_cut_9 (l : Launch) (D : va_G) (cI cM cT cJ cZ : ClassId) (a : Int32) : Ci l D (ty3 cI cM cT cJ cZ) yX11_cut cX11_cut 3 (some .int) 0 0 0 [.int a, .int 0, .int 9] ([]) (fun r u => (0 ≤ r.toInt ∧ r.toInt ≤ 9) ∧ u = []) := by
  refine Ci.of (by decide +kernel) (Nat.le_of_ble_eq_true rfl) ?_
  intro p e s m below meth c A ls Z hin hP hD hl
  have hx := Z.1
  have hb := Z.2.1
  have hS : va_S A s.heap s.heap [] := va_S.rf
  have hl : lv_has ls 3 [(0, .int a), (1, .int 0), (2, .int 9)] := hl
  skip
  refine lv_iload_n hx hb dX11_cut_0 rfl (lv_at hl 0 rfl) ?_
  refine lv_iload_n hx hb dX11_cut_1 rfl (lv_at hl 1 rfl) ?_
  refine lv_icmp_ge (tgt := 7) hx hb dX11_cut_2 (by decide) (fun c1 => ?_) (fun c1 => ?_)
  · refine lv_iload_n hx hb dX11_cut_7 rfl (lv_at hl 0 rfl) ?_
    refine lv_iload_n hx hb dX11_cut_8 rfl (lv_at hl 2 rfl) ?_
    refine lv_icmp_le (tgt := 16) hx hb dX11_cut_9 (by decide) (fun c2 => ?_) (fun c2 => ?_)
    · refine lv_iload_n hx hb dX11_cut_16 rfl (lv_at hl 0 rfl) ?_
      exact z_ret Z rfl hP hD hS (⟨(by first | with_reducible assumption | ((try simp only [zlt, zle, zeq, zl_0, zl_1, zl_2, zl_3, zl_4, zl_5, zl_6, zl_7, zl_8, zl_9, zl_10, zl_11, zl_12, zl_13, zl_14, zl_15, zl_16, zl_17, zl_18, zl_19, zl_20, zl_21, zl_22, zl_23, zl_24, zl_25, zl_26, zl_27, zl_28, zl_29, zl_30, zl_31, zl_32, zl_33, zl_34, zl_35, zl_36, zl_37, zl_38, zl_39, zl_40, zl_41, zl_42, zl_43, zl_44, zl_45, zl_46, zl_47, zl_48, zl_49, zl_50, zl_51, zl_52, zl_53, zl_54, zl_55, zl_56, zl_57, zl_58, zl_59, zl_60, zl_61, zl_62, zl_63, zl_64, zl_65, zl_82, zl_99, zl_100, zl_160, zl_299, zl_300, zl_301, zl_382, zl_398, zl_399, zl_464, zl_680, zl_862, zl_999, zl_1000, zl_9999, zl_10000, zl_1000000, zl_m1, zl_m2, zl_m3, zl_m8] at c1 c2 ⊢); omega)), rfl⟩) dX11_cut_17 (Nat.le_of_ble_eq_true rfl) (Nat.le_of_ble_eq_true rfl)
    · refine lv_iload_n hx hb dX11_cut_12 rfl (lv_at hl 2 rfl) ?_
      refine lv_goto (tgt := 17) hx hb dX11_cut_13 (by decide) ?_
      exact z_ret Z rfl hP hD hS (⟨(by decide), rfl⟩) dX11_cut_17 (Nat.le_of_ble_eq_true rfl) (Nat.le_of_ble_eq_true rfl)
  · refine lv_iload_n hx hb dX11_cut_5 rfl (lv_at hl 1 rfl) ?_
    exact z_ret Z rfl hP hD hS (⟨(by decide), rfl⟩) dX11_cut_6 (Nat.le_of_ble_eq_true rfl) (Nat.le_of_ble_eq_true rfl)
set_option maxHeartbeats 4000000 in
set_option maxRecDepth 100000 in
theorem c_X11_cut_999 (l : Launch) (D : va_G) (cI cM cT cJ cZ : ClassId) (a : Int32) : Ci l D (ty3 cI cM cT cJ cZ) yX11_cut cX11_cut 3 (some .int) 0 0 0 [.int a, .int 0, .int 999] ([]) (fun r u => (0 ≤ r.toInt ∧ r.toInt ≤ 999) ∧ u = []) := by
  refine Ci.of (by decide +kernel) (Nat.le_of_ble_eq_true rfl) ?_
  intro p e s m below meth c A ls Z hin hP hD hl
  have hx := Z.1
  have hb := Z.2.1
  have hS : va_S A s.heap s.heap [] := va_S.rf
  have hl : lv_has ls 3 [(0, .int a), (1, .int 0), (2, .int 999)] := hl
  skip
  refine lv_iload_n hx hb dX11_cut_0 rfl (lv_at hl 0 rfl) ?_
  refine lv_iload_n hx hb dX11_cut_1 rfl (lv_at hl 1 rfl) ?_
  refine lv_icmp_ge (tgt := 7) hx hb dX11_cut_2 (by decide) (fun c1 => ?_) (fun c1 => ?_)
  · refine lv_iload_n hx hb dX11_cut_7 rfl (lv_at hl 0 rfl) ?_
    refine lv_iload_n hx hb dX11_cut_8 rfl (lv_at hl 2 rfl) ?_
    refine lv_icmp_le (tgt := 16) hx hb dX11_cut_9 (by decide) (fun c2 => ?_) (fun c2 => ?_)
    · refine lv_iload_n hx hb dX11_cut_16 rfl (lv_at hl 0 rfl) ?_
      exact z_ret Z rfl hP hD hS (⟨(by first | with_reducible assumption | ((try simp only [zlt, zle, zeq, zl_0, zl_1, zl_2, zl_3, zl_4, zl_5, zl_6, zl_7, zl_8, zl_9, zl_10, zl_11, zl_12, zl_13, zl_14, zl_15, zl_16, zl_17, zl_18, zl_19, zl_20, zl_21, zl_22, zl_23, zl_24, zl_25, zl_26, zl_27, zl_28, zl_29, zl_30, zl_31, zl_32, zl_33, zl_34, zl_35, zl_36, zl_37, zl_38, zl_39, zl_40, zl_41, zl_42, zl_43, zl_44, zl_45, zl_46, zl_47, zl_48, zl_49, zl_50, zl_51, zl_52, zl_53, zl_54, zl_55, zl_56, zl_57, zl_58, zl_59, zl_60, zl_61, zl_62, zl_63, zl_64, zl_65, zl_82, zl_99, zl_100, zl_160, zl_299, zl_300, zl_301, zl_382, zl_398, zl_399, zl_464, zl_680, zl_862, zl_999, zl_1000, zl_9999, zl_10000, zl_1000000, zl_m1, zl_m2, zl_m3, zl_m8] at c1 c2 ⊢); omega)), rfl⟩) dX11_cut_17 (Nat.le_of_ble_eq_true rfl) (Nat.le_of_ble_eq_true rfl)
    · refine lv_iload_n hx hb dX11_cut_12 rfl (lv_at hl 2 rfl) ?_
      refine lv_goto (tgt := 17) hx hb dX11_cut_13 (by decide) ?_
      exact z_ret Z rfl hP hD hS (⟨(by decide), rfl⟩) dX11_cut_17 (Nat.le_of_ble_eq_true rfl) (Nat.le_of_ble_eq_true rfl)
  · refine lv_iload_n hx hb dX11_cut_5 rfl (lv_at hl 1 rfl) ?_
    exact z_ret Z rfl hP hD hS (⟨(by decide), rfl⟩) dX11_cut_6 (Nat.le_of_ble_eq_true rfl) (Nat.le_of_ble_eq_true rfl)
set_option maxHeartbeats 4000000 in
set_option maxRecDepth 100000 in
theorem c_X9_has (l : Launch) (D : va_G) (cI cM cT cJ cZ : ClassId) (tx : Nat) (p0 : Int32) (cd : Nat) (lF : Nat) (lT : Nat) (cK : Nat) (cU : Nat) (ln : Int32) (cl : Int32) (flf : Nat → Int32) (flt : Nat → Int32) (ha_p0 : 0 ≤ p0.toInt ∧ p0.toInt ≤ 3) (hi_ln : 0 ≤ ln.toInt ∧ ln.toInt ≤ 300) (hi_cl : 0 ≤ cl.toInt ∧ cl.toInt ≤ 24) (hr_flt : Rng (-2147483648) 300 4 flt) : Ci l D (ty3 cI cM cT cJ cZ) yX9_has cX9_has 2 (some .boolean) 0 0 0 [.ref tx, .int p0] ([(tx, .inr (9, [.ref cd, .ref lF, .ref lT, .ref cK, .ref cU, .int ln, .int cl])), (lF, .inl (cI, 4, .inl flf)), (lT, .inl (cI, 4, .inl flt))]) (fun r u => (0 ≤ r.toInt ∧ r.toInt ≤ 1) ∧ u = [(tx, .inr (9, [.ref cd, .ref lF, .ref lT, .ref cK, .ref cU, .int ln, .int cl])), (lF, .inl (cI, 4, .inl flf)), (lT, .inl (cI, 4, .inl flt))]) := by
  refine Ci.of (by decide +kernel) (Nat.le_of_ble_eq_true rfl) ?_
  intro p e s m below meth c A ls Z hin hP hD hl
  have hx := Z.1
  have hb := Z.2.1
  have hS : va_S A s.heap s.heap [] := va_S.rf
  have hl : lv_has ls 2 [(0, .ref tx), (1, .int p0)] := hl
  skip
  refine lv_aload_n hx hb dX9_has_0 rfl (lv_at hl 0 rfl) ?_
  refine z_get Z i_X9 hP 0 rfl rfl 1 (by decide) bw_300 rfl dX9_has_1 ?_
  refine lv_iload_n hx hb dX9_has_4 rfl (lv_at hl 1 rfl) ?_
  refine z_iald Z hP 1 0 rfl rfl (vp_in_iff.mpr (by first | with_reducible assumption | ((try simp only [zlt, zle, zeq, zl_0, zl_1, zl_2, zl_3, zl_4, zl_5, zl_6, zl_7, zl_8, zl_9, zl_10, zl_11, zl_12, zl_13, zl_14, zl_15, zl_16, zl_17, zl_18, zl_19, zl_20, zl_21, zl_22, zl_23, zl_24, zl_25, zl_26, zl_27, zl_28, zl_29, zl_30, zl_31, zl_32, zl_33, zl_34, zl_35, zl_36, zl_37, zl_38, zl_39, zl_40, zl_41, zl_42, zl_43, zl_44, zl_45, zl_46, zl_47, zl_48, zl_49, zl_50, zl_51, zl_52, zl_53, zl_54, zl_55, zl_56, zl_57, zl_58, zl_59, zl_60, zl_61, zl_62, zl_63, zl_64, zl_65, zl_82, zl_99, zl_100, zl_160, zl_299, zl_300, zl_301, zl_382, zl_398, zl_399, zl_464, zl_680, zl_862, zl_999, zl_1000, zl_9999, zl_10000, zl_1000000, zl_m1, zl_m2, zl_m3, zl_m8] at ha_p0 hi_ln hi_cl ⊢); omega))) dX9_has_5 ?_
  refine lv_topi (fun z1 ez1 => ?_)
  refine lv_aload_n hx hb dX9_has_6 rfl (lv_at hl 0 rfl) ?_
  refine z_get Z i_X9 hP 0 rfl rfl 2 (by decide) bw_303 rfl dX9_has_7 ?_
  refine lv_iload_n hx hb dX9_has_10 rfl (lv_at hl 1 rfl) ?_
  refine z_iald Z hP 2 0 rfl rfl (vp_in_iff.mpr (by first | with_reducible assumption | ((try simp only [zlt, zle, zeq, zl_0, zl_1, zl_2, zl_3, zl_4, zl_5, zl_6, zl_7, zl_8, zl_9, zl_10, zl_11, zl_12, zl_13, zl_14, zl_15, zl_16, zl_17, zl_18, zl_19, zl_20, zl_21, zl_22, zl_23, zl_24, zl_25, zl_26, zl_27, zl_28, zl_29, zl_30, zl_31, zl_32, zl_33, zl_34, zl_35, zl_36, zl_37, zl_38, zl_39, zl_40, zl_41, zl_42, zl_43, zl_44, zl_45, zl_46, zl_47, zl_48, zl_49, zl_50, zl_51, zl_52, zl_53, zl_54, zl_55, zl_56, zl_57, zl_58, zl_59, zl_60, zl_61, zl_62, zl_63, zl_64, zl_65, zl_82, zl_99, zl_100, zl_160, zl_299, zl_300, zl_301, zl_382, zl_398, zl_399, zl_464, zl_680, zl_862, zl_999, zl_1000, zl_9999, zl_10000, zl_1000000, zl_m1, zl_m2, zl_m3, zl_m8] at ha_p0 hi_ln hi_cl ⊢); omega))) dX9_has_11 ?_
  refine lv_topi (fun z2 ez2 => ?_)
  have hz2 : -2147483648 ≤ z2.toInt ∧ z2.toInt ≤ 300 := by rw [ez2]; exact hr_flt _ (zclt (by first | with_reducible assumption | ((try simp only [zlt, zle, zeq, zl_0, zl_1, zl_2, zl_3, zl_4, zl_5, zl_6, zl_7, zl_8, zl_9, zl_10, zl_11, zl_12, zl_13, zl_14, zl_15, zl_16, zl_17, zl_18, zl_19, zl_20, zl_21, zl_22, zl_23, zl_24, zl_25, zl_26, zl_27, zl_28, zl_29, zl_30, zl_31, zl_32, zl_33, zl_34, zl_35, zl_36, zl_37, zl_38, zl_39, zl_40, zl_41, zl_42, zl_43, zl_44, zl_45, zl_46, zl_47, zl_48, zl_49, zl_50, zl_51, zl_52, zl_53, zl_54, zl_55, zl_56, zl_57, zl_58, zl_59, zl_60, zl_61, zl_62, zl_63, zl_64, zl_65, zl_82, zl_99, zl_100, zl_160, zl_299, zl_300, zl_301, zl_382, zl_398, zl_399, zl_464, zl_680, zl_862, zl_999, zl_1000, zl_9999, zl_10000, zl_1000000, zl_m1, zl_m2, zl_m3, zl_m8] at ha_p0 hi_ln hi_cl ⊢); omega)) (by first | with_reducible assumption | ((try simp only [zlt, zle, zeq, zl_0, zl_1, zl_2, zl_3, zl_4, zl_5, zl_6, zl_7, zl_8, zl_9, zl_10, zl_11, zl_12, zl_13, zl_14, zl_15, zl_16, zl_17, zl_18, zl_19, zl_20, zl_21, zl_22, zl_23, zl_24, zl_25, zl_26, zl_27, zl_28, zl_29, zl_30, zl_31, zl_32, zl_33, zl_34, zl_35, zl_36, zl_37, zl_38, zl_39, zl_40, zl_41, zl_42, zl_43, zl_44, zl_45, zl_46, zl_47, zl_48, zl_49, zl_50, zl_51, zl_52, zl_53, zl_54, zl_55, zl_56, zl_57, zl_58, zl_59, zl_60, zl_61, zl_62, zl_63, zl_64, zl_65, zl_82, zl_99, zl_100, zl_160, zl_299, zl_300, zl_301, zl_382, zl_398, zl_399, zl_464, zl_680, zl_862, zl_999, zl_1000, zl_9999, zl_10000, zl_1000000, zl_m1, zl_m2, zl_m3, zl_m8] at ha_p0 hi_ln hi_cl ⊢); omega)))
  refine lv_icmp_ge (tgt := 19) hx hb dX9_has_12 (by decide) (fun c3 => ?_) (fun c3 => ?_)
  · refine lv_iconst (v := 0) hx hb dX9_has_19 (by decide) ?_
    exact z_ret Z rfl hP hD hS (⟨(by decide), rfl⟩) dX9_has_20 (Nat.le_of_ble_eq_true rfl) (Nat.le_of_ble_eq_true rfl)
  · refine lv_iconst (v := 1) hx hb dX9_has_15 (by decide) ?_
    refine lv_goto (tgt := 20) hx hb dX9_has_16 (by decide) ?_
    exact z_ret Z rfl hP hD hS (⟨(by decide), rfl⟩) dX9_has_20 (Nat.le_of_ble_eq_true rfl) (Nat.le_of_ble_eq_true rfl)
