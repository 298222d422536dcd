theorem dX11_isWithin_0 : decode cX11_isWithin 0 = .ok (.iload_n 0, 1) := by decide +kernel
theorem dX11_isWithin_1 : decode cX11_isWithin 1 = .ok (.iload_n 1, 1) := by decide +kernel
theorem dX11_isWithin_2 : decode cX11_isWithin 2 = .ok (.if_icmp .lt 12, 3) := by decide +kernel
theorem dX11_isWithin_5 : decode cX11_isWithin 5 = .ok (.iload_n 0, 1) := by decide +kernel
theorem dX11_isWithin_6 : decode cX11_isWithin 6 = .ok (.iload_n 2, 1) := by decide +kernel
theorem dX11_isWithin_7 : decode cX11_isWithin 7 = .ok (.if_icmp .gt 7, 3) := by decide +kernel
theorem dX11_isWithin_10 : decode cX11_isWithin 10 = .ok (.iconst 1, 1) := by decide +kernel
theorem dX11_isWithin_11 : decode cX11_isWithin 11 = .ok (.goto 4, 3) := by decide +kernel
theorem dX11_isWithin_14 : decode cX11_isWithin 14 = .ok (.iconst 0, 1) := by decide +kernel
theorem dX11_isWithin_15 : decode cX11_isWithin 15 = .ok (.ireturn, 1) := by decide +kernel
theorem dX11_isPlace_0 : decode cX11_isPlace 0 = .ok (.iload_n 0, 1) := by decide +kernel
theorem dX11_isPlace_1 : decode cX11_isPlace 1 = .ok (.ifCond .lt 14, 3) := by decide +kernel
theorem dX11_isPlace_4 : decode cX11_isPlace 4 = .ok (.iload_n 0, 1) := by decide +kernel
theorem dX11_isPlace_5 : decode cX11_isPlace 5 = .ok (.sipush 300, 3) := by decide +kernel
theorem dX11_isPlace_8 : decode cX11_isPlace 8 = .ok (.if_icmp .ge 7, 3) := by decide +kernel
theorem dX11_isPlace_11 : decode cX11_isPlace 11 = .ok (.iconst 1, 1) := by decide +kernel
theorem dX11_isPlace_12 : decode cX11_isPlace 12 = .ok (.goto 4, 3) := by decide +kernel
theorem dX11_isPlace_15 : decode cX11_isPlace 15 = .ok (.iconst 0, 1) := by decide +kernel
theorem dX11_isPlace_16 : decode cX11_isPlace 16 = .ok (.ireturn, 1) := by decide +kernel
theorem dX12_isIn_0 : decode cX12_isIn 0 = .ok (.iload_n 0, 1) := by decide +kernel
theorem dX12_isIn_1 : decode cX12_isIn 1 = .ok (.iload_n 1, 1) := by decide +kernel
theorem dX12_isIn_2 : decode cX12_isIn 2 = .ok (.if_icmp .lt 12, 3) := by decide +kernel
theorem dX12_isIn_5 : decode cX12_isIn 5 = .ok (.iload_n 0, 1) := by decide +kernel
theorem dX12_isIn_6 : decode cX12_isIn 6 = .ok (.iload_n 2, 1) := by decide +kernel
theorem dX12_isIn_7 : decode cX12_isIn 7 = .ok (.if_icmp .gt 7, 3) := by decide +kernel
theorem dX12_isIn_10 : decode cX12_isIn 10 = .ok (.iconst 1, 1) := by decide +kernel
theorem dX12_isIn_11 : decode cX12_isIn 11 = .ok (.goto 4, 3) := by decide +kernel
theorem dX12_isIn_14 : decode cX12_isIn 14 = .ok (.iconst 0, 1) := by decide +kernel
theorem dX12_isIn_15 : decode cX12_isIn 15 = .ok (.ireturn, 1) := by decide +kernel
set_option maxHeartbeats 4000000 in
set_option maxRecDepth 100000 in
theorem c_X11_isWithin (l : Launch) (D : va_G) (cI cM cT : ClassId) (a : Int32) (b : Int32) (d : Int32) : Ci l D (ty3 cI cM cT) yX11_isWithin cX11_isWithin 3 (some .boolean) 0 0 0 [.int a, .int b, .int d] ([]) (fun r u => r = (if b ≤ a ∧ a ≤ d then 1 else 0) ∧ u = []) := by
  refine Ci.of (by decide +kernel) (Nat.le_of_ble_eq_true rfl) ?_
  intro p e s m below meth c A ls Z hin hP hD hl
  have hx := Z.1
  have hb := Z.2.1
  have hS : va_S A s.heap s.heap [] := va_S.rf
  have hl : lv_has ls 3 [(0, .int a), (1, .int b), (2, .int d)] := hl
  skip
  refine lv_iload_n hx hb dX11_isWithin_0 rfl (lv_at hl 0 rfl) ?_
  refine lv_iload_n hx hb dX11_isWithin_1 rfl (lv_at hl 1 rfl) ?_
  refine lv_icmp_lt (tgt := 14) hx hb dX11_isWithin_2 (by decide) (fun c1 => ?_) (fun c1 => ?_)
  · refine lv_iconst (v := 0) hx hb dX11_isWithin_14 (by decide) ?_
    exact z_ret Z rfl hP hD hS (⟨(if_neg (by simp only [zlt, zle, zeq, zl_0, zl_1, zl_2, zl_3, zl_4, zl_5, zl_6, zl_7, zl_8, zl_9, zl_10, zl_11, zl_12, zl_13, zl_19, zl_20, zl_30, zl_64, zl_99, zl_100, zl_299, zl_300, zl_399, zl_999, zl_9999, zl_m1, zl_m2, zl_m3, zl_32, zl_280] at c1 ⊢; omega)).symm, rfl⟩) dX11_isWithin_15 (Nat.le_of_ble_eq_true rfl) (Nat.le_of_ble_eq_true rfl)
  · refine lv_iload_n hx hb dX11_isWithin_5 rfl (lv_at hl 0 rfl) ?_
    refine lv_iload_n hx hb dX11_isWithin_6 rfl (lv_at hl 2 rfl) ?_
    refine lv_icmp_gt (tgt := 14) hx hb dX11_isWithin_7 (by decide) (fun c2 => ?_) (fun c2 => ?_)
    · refine lv_iconst (v := 0) hx hb dX11_isWithin_14 (by decide) ?_
      exact z_ret Z rfl hP hD hS (⟨(if_neg (by simp only [zlt, zle, zeq, zl_0, zl_1, zl_2, zl_3, zl_4, zl_5, zl_6, zl_7, zl_8, zl_9, zl_10, zl_11, zl_12, zl_13, zl_19, zl_20, zl_30, zl_64, zl_99, zl_100, zl_299, zl_300, zl_399, zl_999, zl_9999, zl_m1, zl_m2, zl_m3, zl_32, zl_280] at c1 c2 ⊢; omega)).symm, rfl⟩) dX11_isWithin_15 (Nat.le_of_ble_eq_true rfl) (Nat.le_of_ble_eq_true rfl)
    · refine lv_iconst (v := 1) hx hb dX11_isWithin_10 (by decide) ?_
      refine lv_goto (tgt := 15) hx hb dX11_isWithin_11 (by decide) ?_
      exact z_ret Z rfl hP hD hS (⟨(if_pos (by simp only [zlt, zle, zeq, zl_0, zl_1, zl_2, zl_3, zl_4, zl_5, zl_6, zl_7, zl_8, zl_9, zl_10, zl_11, zl_12, zl_13, zl_19, zl_20, zl_30, zl_64, zl_99, zl_100, zl_299, zl_300, zl_399, zl_999, zl_9999, zl_m1, zl_m2, zl_m3, zl_32, zl_280] at c1 c2 ⊢; omega)).symm, rfl⟩) dX11_isWithin_15 (Nat.le_of_ble_eq_true rfl) (Nat.le_of_ble_eq_true rfl)
set_option maxHeartbeats 4000000 in
set_option maxRecDepth 100000 in
theorem c_X11_isPlace (l : Launch) (D : va_G) (cI cM cT : ClassId) (a : Int32) : Ci l D (ty3 cI cM cT) yX11_isPlace cX11_isPlace 1 (some .boolean) 0 0 0 [.int a] ([]) (fun r u => r = (if 0 ≤ a ∧ a < 300 then 1 else 0) ∧ u = []) := by
  refine Ci.of (by decide +kernel) (Nat.le_of_ble_eq_true rfl) ?_
  intro p e s m below meth c A ls Z hin hP hD hl
  have hx := Z.1
  have hb := Z.2.1
  have hS : va_S A s.heap s.heap [] := va_S.rf
  have hl : lv_has ls 1 [(0, .int a)] := hl
  skip
  refine lv_iload_n hx hb dX11_isPlace_0 rfl (lv_at hl 0 rfl) ?_
  refine lv_if_lt (tgt := 15) hx hb dX11_isPlace_1 (by decide) (fun c1 => ?_) (fun c1 => ?_)
  · refine lv_iconst (v := 0) hx hb dX11_isPlace_15 (by decide) ?_
    exact z_ret Z rfl hP hD hS (⟨(if_neg (by simp only [zlt, zle, zeq, zl_0, zl_1, zl_2, zl_3, zl_4, zl_5, zl_6, zl_7, zl_8, zl_9, zl_10, zl_11, zl_12, zl_13, zl_19, zl_20, zl_30, zl_64, zl_99, zl_100, zl_299, zl_300, zl_399, zl_999, zl_9999, zl_m1, zl_m2, zl_m3, zl_32, zl_280] at c1 ⊢; omega)).symm, rfl⟩) dX11_isPlace_16 (Nat.le_of_ble_eq_true rfl) (Nat.le_of_ble_eq_true rfl)
  · refine lv_iload_n hx hb dX11_isPlace_4 rfl (lv_at hl 0 rfl) ?_
    refine lv_sipush (v := 300) hx hb dX11_isPlace_5 (by decide) ?_
    refine lv_icmp_ge (tgt := 15) hx hb dX11_isPlace_8 (by decide) (fun c2 => ?_) (fun c2 => ?_)
    · refine lv_iconst (v := 0) hx hb dX11_isPlace_15 (by decide) ?_
      exact z_ret Z rfl hP hD hS (⟨(if_neg (by simp only [zlt, zle, zeq, zl_0, zl_1, zl_2, zl_3, zl_4, zl_5, zl_6, zl_7, zl_8, zl_9, zl_10, zl_11, zl_12, zl_13, zl_19, zl_20, zl_30, zl_64, zl_99, zl_100, zl_299, zl_300, zl_399, zl_999, zl_9999, zl_m1, zl_m2, zl_m3, zl_32, zl_280] at c1 c2 ⊢; omega)).symm, rfl⟩) dX11_isPlace_16 (Nat.le_of_ble_eq_true rfl) (Nat.le_of_ble_eq_true rfl)
    · refine lv_iconst (v := 1) hx hb dX11_isPlace_11 (by decide) ?_
      refine lv_goto (tgt := 16) hx hb dX11_isPlace_12 (by decide) ?_
      exact z_ret Z rfl hP hD hS (⟨(if_pos (by simp only [zlt, zle, zeq, zl_0, zl_1, zl_2, zl_3, zl_4, zl_5, zl_6, zl_7, zl_8, zl_9, zl_10, zl_11, zl_12, zl_13, zl_19, zl_20, zl_30, zl_64, zl_99, zl_100, zl_299, zl_300, zl_399, zl_999, zl_9999, zl_m1, zl_m2, zl_m3, zl_32, zl_280] at c1 c2 ⊢; omega)).symm, rfl⟩) dX11_isPlace_16 (Nat.le_of_ble_eq_true rfl) (Nat.le_of_ble_eq_true rfl)
set_option maxHeartbeats 4000000 in
set_option maxRecDepth 100000 in
theorem c_X12_isIn (l : Launch) (D : va_G) (cI cM cT : ClassId) (a : Int32) (b : Int32) (d : Int32) : Ci l D (ty3 cI cM cT) yX12_isIn cX12_isIn 3 (some .boolean) 0 0 0 [.int a, .int b, .int d] ([]) (fun r u => r = (if b ≤ a ∧ a ≤ d then 1 else 0) ∧ u = []) := by
  refine Ci.of (by decide +kernel) (Nat.le_of_ble_eq_true rfl) ?_
  intro p e s m below meth c A ls Z hin hP hD hl
  have hx := Z.1
  have hb := Z.2.1
  have hS : va_S A s.heap s.heap [] := va_S.rf
  have hl : lv_has ls 3 [(0, .int a), (1, .int b), (2, .int d)] := hl
  skip
  refine lv_iload_n hx hb dX12_isIn_0 rfl (lv_at hl 0 rfl) ?_
  refine lv_iload_n hx hb dX12_isIn_1 rfl (lv_at hl 1 rfl) ?_
  refine lv_icmp_lt (tgt := 14) hx hb dX12_isIn_2 (by decide) (fun c1 => ?_) (fun c1 => ?_)
  · refine lv_iconst (v := 0) hx hb dX12_isIn_14 (by decide) ?_
    exact z_ret Z rfl hP hD hS (⟨(if_neg (by simp only [zlt, zle, zeq, zl_0, zl_1, zl_2, zl_3, zl_4, zl_5, zl_6, zl_7, zl_8, zl_9, zl_10, zl_11, zl_12, zl_13, zl_19, zl_20, zl_30, zl_64, zl_99, zl_100, zl_299, zl_300, zl_399, zl_999, zl_9999, zl_m1, zl_m2, zl_m3, zl_32, zl_280] at c1 ⊢; omega)).symm, rfl⟩) dX12_isIn_15 (Nat.le_of_ble_eq_true rfl) (Nat.le_of_ble_eq_true rfl)
  · refine lv_iload_n hx hb dX12_isIn_5 rfl (lv_at hl 0 rfl) ?_
    refine lv_iload_n hx hb dX12_isIn_6 rfl (lv_at hl 2 rfl) ?_
    refine lv_icmp_gt (tgt := 14) hx hb dX12_isIn_7 (by decide) (fun c2 => ?_) (fun c2 => ?_)
    · refine lv_iconst (v := 0) hx hb dX12_isIn_14 (by decide) ?_
      exact z_ret Z rfl hP hD hS (⟨(if_neg (by simp only [zlt, zle, zeq, zl_0, zl_1, zl_2, zl_3, zl_4, zl_5, zl_6, zl_7, zl_8, zl_9, zl_10, zl_11, zl_12, zl_13, zl_19, zl_20, zl_30, zl_64, zl_99, zl_100, zl_299, zl_300, zl_399, zl_999, zl_9999, zl_m1, zl_m2, zl_m3, zl_32, zl_280] at c1 c2 ⊢; omega)).symm, rfl⟩) dX12_isIn_15 (Nat.le_of_ble_eq_true rfl) (Nat.le_of_ble_eq_true rfl)
    · refine lv_iconst (v := 1) hx hb dX12_isIn_10 (by decide) ?_
      refine lv_goto (tgt := 15) hx hb dX12_isIn_11 (by decide) ?_
      exact z_ret Z rfl hP hD hS (⟨(if_pos (by simp only [zlt, zle, zeq, zl_0, zl_1, zl_2, zl_3, zl_4, zl_5, zl_6, zl_7, zl_8, zl_9, zl_10, zl_11, zl_12, zl_13, zl_19, zl_20, zl_30, zl_64, zl_99, zl_100, zl_299, zl_300, zl_399, zl_999, zl_9999, zl_m1, zl_m2, zl_m3, zl_32, zl_280] at c1 c2 ⊢; omega)).symm, rfl⟩) dX12_isIn_15 (Nat.le_of_ble_eq_true rfl) (Nat.le_of_ble_eq_true rfl)
