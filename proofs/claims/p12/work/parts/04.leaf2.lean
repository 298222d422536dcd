theorem dX3_acrossFrom_0 : decode cX3_acrossFrom 0 = .ok (.iconst 0, 1) := by decide +kernel
theorem dX3_acrossFrom_1 : decode cX3_acrossFrom 1 = .ok (.istore_n 2, 1) := by decide +kernel
theorem dX3_acrossFrom_2 : decode cX3_acrossFrom 2 = .ok (.iload_n 2, 1) := by decide +kernel
theorem dX3_acrossFrom_3 : decode cX3_acrossFrom 3 = .ok (.aload_n 0, 1) := by decide +kernel
theorem dX3_acrossFrom_4 : decode cX3_acrossFrom 4 = .ok (.getfield 21, 3) := by decide +kernel
theorem dX3_acrossFrom_7 : decode cX3_acrossFrom 7 = .ok (.if_icmp .ge 26, 3) := by decide +kernel
theorem dX3_acrossFrom_10 : decode cX3_acrossFrom 10 = .ok (.aload_n 0, 1) := by decide +kernel
theorem dX3_acrossFrom_11 : decode cX3_acrossFrom 11 = .ok (.getfield 15, 3) := by decide +kernel
theorem dX3_acrossFrom_14 : decode cX3_acrossFrom 14 = .ok (.iload_n 2, 1) := by decide +kernel
theorem dX3_acrossFrom_15 : decode cX3_acrossFrom 15 = .ok (.iaload, 1) := by decide +kernel
theorem dX3_acrossFrom_16 : decode cX3_acrossFrom 16 = .ok (.iload_n 1, 1) := by decide +kernel
theorem dX3_acrossFrom_17 : decode cX3_acrossFrom 17 = .ok (.if_icmp .ne 10, 3) := by decide +kernel
theorem dX3_acrossFrom_20 : decode cX3_acrossFrom 20 = .ok (.aload_n 0, 1) := by decide +kernel
theorem dX3_acrossFrom_21 : decode cX3_acrossFrom 21 = .ok (.getfield 18, 3) := by decide +kernel
theorem dX3_acrossFrom_24 : decode cX3_acrossFrom 24 = .ok (.iload_n 2, 1) := by decide +kernel
theorem dX3_acrossFrom_25 : decode cX3_acrossFrom 25 = .ok (.iaload, 1) := by decide +kernel
theorem dX3_acrossFrom_26 : decode cX3_acrossFrom 26 = .ok (.ireturn, 1) := by decide +kernel
theorem dX3_acrossFrom_27 : decode cX3_acrossFrom 27 = .ok (.iinc 2 1, 3) := by decide +kernel
theorem dX3_acrossFrom_30 : decode cX3_acrossFrom 30 = .ok (.goto (-28), 3) := by decide +kernel
theorem dX3_acrossFrom_33 : decode cX3_acrossFrom 33 = .ok (.iload_n 1, 1) := by decide +kernel
theorem dX3_acrossFrom_34 : decode cX3_acrossFrom 34 = .ok (.ireturn, 1) := by decide +kernel
theorem dX1_slips_0 : decode cX1_slips 0 = .ok (.aload_n 0, 1) := by decide +kernel
theorem dX1_slips_1 : decode cX1_slips 1 = .ok (.getfield 31, 3) := by decide +kernel
theorem dX1_slips_4 : decode cX1_slips 4 = .ok (.bipush 10, 2) := by decide +kernel
theorem dX1_slips_6 : decode cX1_slips 6 = .ok (.irem, 1) := by decide +kernel
theorem dX1_slips_7 : decode cX1_slips 7 = .ok (.iload_n 1, 1) := by decide +kernel
theorem dX1_slips_8 : decode cX1_slips 8 = .ok (.if_icmp .ge 7, 3) := by decide +kernel
theorem dX1_slips_11 : decode cX1_slips 11 = .ok (.iconst 1, 1) := by decide +kernel
theorem dX1_slips_12 : decode cX1_slips 12 = .ok (.goto 4, 3) := by decide +kernel
theorem dX1_slips_15 : decode cX1_slips 15 = .ok (.iconst 0, 1) := by decide +kernel
theorem dX1_slips_16 : decode cX1_slips 16 = .ok (.istore_n 2, 1) := by decide +kernel
theorem dX1_slips_17 : decode cX1_slips 17 = .ok (.aload_n 0, 1) := by decide +kernel
theorem dX1_slips_18 : decode cX1_slips 18 = .ok (.aload_n 0, 1) := by decide +kernel
theorem dX1_slips_19 : decode cX1_slips 19 = .ok (.getfield 31, 3) := by decide +kernel
theorem dX1_slips_22 : decode cX1_slips 22 = .ok (.sipush 193, 3) := by decide +kernel
theorem dX1_slips_25 : decode cX1_slips 25 = .ok (.imul, 1) := by decide +kernel
theorem dX1_slips_26 : decode cX1_slips 26 = .ok (.bipush 89, 2) := by decide +kernel
theorem dX1_slips_28 : decode cX1_slips 28 = .ok (.iadd, 1) := by decide +kernel
theorem dX1_slips_29 : decode cX1_slips 29 = .ok (.sipush 30103, 3) := by decide +kernel
theorem dX1_slips_32 : decode cX1_slips 32 = .ok (.irem, 1) := by decide +kernel
theorem dX1_slips_33 : decode cX1_slips 33 = .ok (.putfield 31, 3) := by decide +kernel
theorem dX1_slips_36 : decode cX1_slips 36 = .ok (.iload_n 2, 1) := by decide +kernel
theorem dX1_slips_37 : decode cX1_slips 37 = .ok (.ireturn, 1) := by decide +kernel
theorem bw_137 : Cond.fieldLink "CountingHorses$Road" 15 "CountingHorses$Road" "bridgeFrom" "[I" ∈ BW := bw_at 137 (by decide +kernel) (by decide +kernel)
theorem bw_139 : Cond.fieldLink "CountingHorses$Road" 18 "CountingHorses$Road" "bridgeTo" "[I" ∈ BW := bw_at 139 (by decide +kernel) (by decide +kernel)
theorem bw_141 : Cond.fieldLink "CountingHorses$Road" 21 "CountingHorses$Road" "bridges" "I" ∈ BW := bw_at 141 (by decide +kernel) (by decide +kernel)
theorem bw_194 : Cond.fieldLink "CountingHorses$Mail" 31 "CountingHorses$Mail" "x" "I" ∈ BW := bw_at 194 (by decide +kernel) (by decide +kernel)
set_option maxHeartbeats 4000000 in
set_option maxRecDepth 100000 in
theorem lp_X3_acrossFrom {p : Program} (l : Launch) {e : Env} {s : State} {m : MethodId} {below : List Frame} {meth : Method} {c : Code} {A : Nat → Prop} (D : va_G) (cI cM cT cJ cZ : ClassId) (rO : Nat) (p0 : Int32) (mU : Nat) (bF : Nat) (bT : Nat) (br : Int32) (fbf : Nat → Int32) (fbt : Nat → Int32) (Z : Zx p s m ([.ref rO, .int p0] : List Value).toArray meth c cX3_acrossFrom 3 (some .int) yX3_acrossFrom.cls A (ty3 cI cM cT cJ cZ) D) (ha_p0 : 0 ≤ p0.toInt ∧ p0.toInt ≤ 299) (hi_br : 0 ≤ br.toInt ∧ br.toInt ≤ 4) (hr_fbt : Rng 0 299 4 fbt) : ∀ (n0 : Nat) (j : Int32) (h0 : 0 ≤ j.toInt ∧ j.toInt ≤ 4), (4 - j.toInt).toNat < n0 → ∀ (H : Heap) (locs : List Loc) (ls : Array Slot), va_P D vwCl ([(rO, .inr (3, [.ref mU, .ref bF, .ref bT, .int br])), (bF, .inl (cI, 4, .inl fbf)), (bT, .inl (cI, 4, .inl fbt))]) H → va_D A ([(rO, .inr (3, [.ref mU, .ref bF, .ref bT, .int br])), (bF, .inl (cI, 4, .inl fbf)), (bT, .inl (cI, 4, .inl fbt))]) → va_S A s.heap H locs → lv_has ls 3 [(0, .ref rO), (1, .int p0), (2, .int j)] → W p l e (rmv 0 0 0) s m ([.ref rO, .int p0] : List Value).toArray below meth c H locs 0 0 (MQ below (va_Qi (fun r u => (0 ≤ r.toInt ∧ r.toInt ≤ 299) ∧ u = [(rO, .inr (3, [.ref mU, .ref bF, .ref bT, .int br])), (bF, .inl (cI, 4, .inl fbf)), (bT, .inl (cI, 4, .inl fbt))]) (cB D (ty3 cI cM cT cJ cZ) A) A) ([.ref rO, .int p0] : List Value).toArray s 0 0 A) (F0 m 2 ls []) := by
  have hx := Z.1
  have hb := Z.2.1
  intro n0
  induction n0 with
  | zero => intro j h0 hm; exact absurd hm (Nat.not_lt_zero _)
  | succ n0 ih =>
    intro j h0 hm H locs ls hP hD hS hl
    refine lv_iload_n hx hb dX3_acrossFrom_2 rfl (lv_at hl 2 rfl) ?_
    refine lv_aload_n hx hb dX3_acrossFrom_3 rfl (lv_at hl 0 rfl) ?_
    refine z_get Z i_X3 hP 0 rfl rfl 3 (by decide) bw_141 rfl dX3_acrossFrom_4 ?_
    refine lv_icmp_ge (tgt := 33) hx hb dX3_acrossFrom_7 (by decide) (fun c1 => ?_) (fun c1 => ?_)
    · refine lv_iload_n hx hb dX3_acrossFrom_33 rfl (lv_at hl 1 rfl) ?_
      exact z_ret Z rfl hP hD hS (⟨(by first | with_reducible assumption | ((try simp only [zlt, zle, zeq, zl_0, zl_1, zl_2, zl_3, zl_4, zl_5, zl_6, zl_7, zl_8, zl_9, zl_10, zl_11, zl_12, zl_13, zl_14, zl_15, zl_16, zl_17, zl_18, zl_19, zl_20, zl_21, zl_22, zl_23, zl_24, zl_25, zl_26, zl_27, zl_28, zl_29, zl_30, zl_31, zl_32, zl_33, zl_34, zl_35, zl_36, zl_37, zl_38, zl_39, zl_40, zl_41, zl_42, zl_43, zl_44, zl_45, zl_46, zl_47, zl_48, zl_49, zl_50, zl_51, zl_52, zl_53, zl_54, zl_55, zl_56, zl_57, zl_58, zl_59, zl_60, zl_61, zl_62, zl_63, zl_64, zl_65, zl_82, zl_99, zl_100, zl_160, zl_299, zl_300, zl_301, zl_382, zl_398, zl_399, zl_464, zl_680, zl_862, zl_999, zl_1000, zl_9999, zl_10000, zl_1000000, zl_m1, zl_m2, zl_m3, zl_m8] at ha_p0 hi_br h0 hm c1 ⊢); omega)), rfl⟩) dX3_acrossFrom_34 (Nat.le_of_ble_eq_true rfl) (Nat.le_of_ble_eq_true rfl)
    · refine lv_aload_n hx hb dX3_acrossFrom_10 rfl (lv_at hl 0 rfl) ?_
      refine z_get Z i_X3 hP 0 rfl rfl 1 (by decide) bw_137 rfl dX3_acrossFrom_11 ?_
      refine lv_iload_n hx hb dX3_acrossFrom_14 rfl (lv_at hl 2 rfl) ?_
      refine z_iald Z hP 1 0 rfl rfl (vp_in_iff.mpr (by first | with_reducible assumption | ((try simp only [zlt, zle, zeq, zl_0, zl_1, zl_2, zl_3, zl_4, zl_5, zl_6, zl_7, zl_8, zl_9, zl_10, zl_11, zl_12, zl_13, zl_14, zl_15, zl_16, zl_17, zl_18, zl_19, zl_20, zl_21, zl_22, zl_23, zl_24, zl_25, zl_26, zl_27, zl_28, zl_29, zl_30, zl_31, zl_32, zl_33, zl_34, zl_35, zl_36, zl_37, zl_38, zl_39, zl_40, zl_41, zl_42, zl_43, zl_44, zl_45, zl_46, zl_47, zl_48, zl_49, zl_50, zl_51, zl_52, zl_53, zl_54, zl_55, zl_56, zl_57, zl_58, zl_59, zl_60, zl_61, zl_62, zl_63, zl_64, zl_65, zl_82, zl_99, zl_100, zl_160, zl_299, zl_300, zl_301, zl_382, zl_398, zl_399, zl_464, zl_680, zl_862, zl_999, zl_1000, zl_9999, zl_10000, zl_1000000, zl_m1, zl_m2, zl_m3, zl_m8] at ha_p0 hi_br h0 hm c1 ⊢); omega))) dX3_acrossFrom_15 ?_
      refine lv_topi (fun z2 ez2 => ?_)
      refine lv_iload_n hx hb dX3_acrossFrom_16 rfl (lv_at hl 1 rfl) ?_
      refine lv_icmp_ne (tgt := 27) hx hb dX3_acrossFrom_17 (by decide) (fun c3 => ?_) (fun c3 => ?_)
      · obtain ⟨z4, ez4⟩ : ∃ y : Int32, y = j + 1 := ⟨_, rfl⟩
        have hz4 : z4.toInt = j.toInt + 1 := by rw [ez4]; exact zaddg (by first | with_reducible assumption | ((try simp only [zlt, zle, zeq, zl_0, zl_1, zl_2, zl_3, zl_4, zl_5, zl_6, zl_7, zl_8, zl_9, zl_10, zl_11, zl_12, zl_13, zl_14, zl_15, zl_16, zl_17, zl_18, zl_19, zl_20, zl_21, zl_22, zl_23, zl_24, zl_25, zl_26, zl_27, zl_28, zl_29, zl_30, zl_31, zl_32, zl_33, zl_34, zl_35, zl_36, zl_37, zl_38, zl_39, zl_40, zl_41, zl_42, zl_43, zl_44, zl_45, zl_46, zl_47, zl_48, zl_49, zl_50, zl_51, zl_52, zl_53, zl_54, zl_55, zl_56, zl_57, zl_58, zl_59, zl_60, zl_61, zl_62, zl_63, zl_64, zl_65, zl_82, zl_99, zl_100, zl_160, zl_299, zl_300, zl_301, zl_382, zl_398, zl_399, zl_464, zl_680, zl_862, zl_999, zl_1000, zl_9999, zl_10000, zl_1000000, zl_m1, zl_m2, zl_m3, zl_m8] at ha_p0 hi_br h0 hm c1 c3 ⊢); omega)) (by first | with_reducible assumption | ((try simp only [zlt, zle, zeq, zl_0, zl_1, zl_2, zl_3, zl_4, zl_5, zl_6, zl_7, zl_8, zl_9, zl_10, zl_11, zl_12, zl_13, zl_14, zl_15, zl_16, zl_17, zl_18, zl_19, zl_20, zl_21, zl_22, zl_23, zl_24, zl_25, zl_26, zl_27, zl_28, zl_29, zl_30, zl_31, zl_32, zl_33, zl_34, zl_35, zl_36, zl_37, zl_38, zl_39, zl_40, zl_41, zl_42, zl_43, zl_44, zl_45, zl_46, zl_47, zl_48, zl_49, zl_50, zl_51, zl_52, zl_53, zl_54, zl_55, zl_56, zl_57, zl_58, zl_59, zl_60, zl_61, zl_62, zl_63, zl_64, zl_65, zl_82, zl_99, zl_100, zl_160, zl_299, zl_300, zl_301, zl_382, zl_398, zl_399, zl_464, zl_680, zl_862, zl_999, zl_1000, zl_9999, zl_10000, zl_1000000, zl_m1, zl_m2, zl_m3, zl_m8] at ha_p0 hi_br h0 hm c1 c3 ⊢); omega))
        refine lv_iinc (v := z4) (lv' := [(2, .int z4), (0, .ref rO), (1, .int p0)]) hx hb dX3_acrossFrom_27 hl (k := 2) rfl (by rw [ez4]; rfl) (by decide) rfl (fun ls hl => ?_)
        refine lv_goto (tgt := 2) hx hb dX3_acrossFrom_30 (by decide) ?_
        exact ih z4 (by first | with_reducible assumption | ((try simp only [zlt, zle, zeq, zl_0, zl_1, zl_2, zl_3, zl_4, zl_5, zl_6, zl_7, zl_8, zl_9, zl_10, zl_11, zl_12, zl_13, zl_14, zl_15, zl_16, zl_17, zl_18, zl_19, zl_20, zl_21, zl_22, zl_23, zl_24, zl_25, zl_26, zl_27, zl_28, zl_29, zl_30, zl_31, zl_32, zl_33, zl_34, zl_35, zl_36, zl_37, zl_38, zl_39, zl_40, zl_41, zl_42, zl_43, zl_44, zl_45, zl_46, zl_47, zl_48, zl_49, zl_50, zl_51, zl_52, zl_53, zl_54, zl_55, zl_56, zl_57, zl_58, zl_59, zl_60, zl_61, zl_62, zl_63, zl_64, zl_65, zl_82, zl_99, zl_100, zl_160, zl_299, zl_300, zl_301, zl_382, zl_398, zl_399, zl_464, zl_680, zl_862, zl_999, zl_1000, zl_9999, zl_10000, zl_1000000, zl_m1, zl_m2, zl_m3, zl_m8] at ha_p0 hi_br h0 hm c1 c3 hz4 ⊢); omega)) (by first | with_reducible assumption | ((try simp only [zlt, zle, zeq, zl_0, zl_1, zl_2, zl_3, zl_4, zl_5, zl_6, zl_7, zl_8, zl_9, zl_10, zl_11, zl_12, zl_13, zl_14, zl_15, zl_16, zl_17, zl_18, zl_19, zl_20, zl_21, zl_22, zl_23, zl_24, zl_25, zl_26, zl_27, zl_28, zl_29, zl_30, zl_31, zl_32, zl_33, zl_34, zl_35, zl_36, zl_37, zl_38, zl_39, zl_40, zl_41, zl_42, zl_43, zl_44, zl_45, zl_46, zl_47, zl_48, zl_49, zl_50, zl_51, zl_52, zl_53, zl_54, zl_55, zl_56, zl_57, zl_58, zl_59, zl_60, zl_61, zl_62, zl_63, zl_64, zl_65, zl_82, zl_99, zl_100, zl_160, zl_299, zl_300, zl_301, zl_382, zl_398, zl_399, zl_464, zl_680, zl_862, zl_999, zl_1000, zl_9999, zl_10000, zl_1000000, zl_m1, zl_m2, zl_m3, zl_m8] at ha_p0 hi_br h0 hm c1 c3 hz4 ⊢); omega)) _ _ _ hP hD hS (lv_sub hl [1, 2, 0] rfl)
      · refine lv_aload_n hx hb dX3_acrossFrom_20 rfl (lv_at hl 0 rfl) ?_
        refine z_get Z i_X3 hP 0 rfl rfl 2 (by decide) bw_139 rfl dX3_acrossFrom_21 ?_
        refine lv_iload_n hx hb dX3_acrossFrom_24 rfl (lv_at hl 2 rfl) ?_
        refine z_iald Z hP 2 0 rfl rfl (vp_in_iff.mpr (by first | with_reducible assumption | ((try simp only [zlt, zle, zeq, zl_0, zl_1, zl_2, zl_3, zl_4, zl_5, zl_6, zl_7, zl_8, zl_9, zl_10, zl_11, zl_12, zl_13, zl_14, zl_15, zl_16, zl_17, zl_18, zl_19, zl_20, zl_21, zl_22, zl_23, zl_24, zl_25, zl_26, zl_27, zl_28, zl_29, zl_30, zl_31, zl_32, zl_33, zl_34, zl_35, zl_36, zl_37, zl_38, zl_39, zl_40, zl_41, zl_42, zl_43, zl_44, zl_45, zl_46, zl_47, zl_48, zl_49, zl_50, zl_51, zl_52, zl_53, zl_54, zl_55, zl_56, zl_57, zl_58, zl_59, zl_60, zl_61, zl_62, zl_63, zl_64, zl_65, zl_82, zl_99, zl_100, zl_160, zl_299, zl_300, zl_301, zl_382, zl_398, zl_399, zl_464, zl_680, zl_862, zl_999, zl_1000, zl_9999, zl_10000, zl_1000000, zl_m1, zl_m2, zl_m3, zl_m8] at ha_p0 hi_br h0 hm c1 c3 ⊢); omega))) dX3_acrossFrom_25 ?_
        refine lv_topi (fun z5 ez5 => ?_)
        have hz5 : 0 ≤ z5.toInt ∧ z5.toInt ≤ 299 := by rw [ez5]; exact hr_fbt _ (zclt (by first | with_reducible assumption | ((try simp only [zlt, zle, zeq, zl_0, zl_1, zl_2, zl_3, zl_4, zl_5, zl_6, zl_7, zl_8, zl_9, zl_10, zl_11, zl_12, zl_13, zl_14, zl_15, zl_16, zl_17, zl_18, zl_19, zl_20, zl_21, zl_22, zl_23, zl_24, zl_25, zl_26, zl_27, zl_28, zl_29, zl_30, zl_31, zl_32, zl_33, zl_34, zl_35, zl_36, zl_37, zl_38, zl_39, zl_40, zl_41, zl_42, zl_43, zl_44, zl_45, zl_46, zl_47, zl_48, zl_49, zl_50, zl_51, zl_52, zl_53, zl_54, zl_55, zl_56, zl_57, zl_58, zl_59, zl_60, zl_61, zl_62, zl_63, zl_64, zl_65, zl_82, zl_99, zl_100, zl_160, zl_299, zl_300, zl_301, zl_382, zl_398, zl_399, zl_464, zl_680, zl_862, zl_999, zl_1000, zl_9999, zl_10000, zl_1000000, zl_m1, zl_m2, zl_m3, zl_m8] at ha_p0 hi_br h0 hm c1 c3 ⊢); omega)) (by first | with_reducible assumption | ((try simp only [zlt, zle, zeq, zl_0, zl_1, zl_2, zl_3, zl_4, zl_5, zl_6, zl_7, zl_8, zl_9, zl_10, zl_11, zl_12, zl_13, zl_14, zl_15, zl_16, zl_17, zl_18, zl_19, zl_20, zl_21, zl_22, zl_23, zl_24, zl_25, zl_26, zl_27, zl_28, zl_29, zl_30, zl_31, zl_32, zl_33, zl_34, zl_35, zl_36, zl_37, zl_38, zl_39, zl_40, zl_41, zl_42, zl_43, zl_44, zl_45, zl_46, zl_47, zl_48, zl_49, zl_50, zl_51, zl_52, zl_53, zl_54, zl_55, zl_56, zl_57, zl_58, zl_59, zl_60, zl_61, zl_62, zl_63, zl_64, zl_65, zl_82, zl_99, zl_100, zl_160, zl_299, zl_300, zl_301, zl_382, zl_398, zl_399, zl_464, zl_680, zl_862, zl_999, zl_1000, zl_9999, zl_10000, zl_1000000, zl_m1, zl_m2, zl_m3, zl_m8] at ha_p0 hi_br h0 hm c1 c3 ⊢); omega)))
        exact z_ret Z rfl hP hD hS (⟨(by first | with_reducible assumption | ((try simp only [zlt, zle, zeq, zl_0, zl_1, zl_2, zl_3, zl_4, zl_5, zl_6, zl_7, zl_8, zl_9, zl_10, zl_11, zl_12, zl_13, zl_14, zl_15, zl_16, zl_17, zl_18, zl_19, zl_20, zl_21, zl_22, zl_23, zl_24, zl_25, zl_26, zl_27, zl_28, zl_29, zl_30, zl_31, zl_32, zl_33, zl_34, zl_35, zl_36, zl_37, zl_38, zl_39, zl_40, zl_41, zl_42, zl_43, zl_44, zl_45, zl_46, zl_47, zl_48, zl_49, zl_50, zl_51, zl_52, zl_53, zl_54, zl_55, zl_56, zl_57, zl_58, zl_59, zl_60, zl_61, zl_62, zl_63, zl_64, zl_65, zl_82, zl_99, zl_100, zl_160, zl_299, zl_300, zl_301, zl_382, zl_398, zl_399, zl_464, zl_680, zl_862, zl_999, zl_1000, zl_9999, zl_10000, zl_1000000, zl_m1, zl_m2, zl_m3, zl_m8] at ha_p0 hi_br h0 hm c1 c3 hz5 ⊢); omega)), rfl⟩) dX3_acrossFrom_26 (Nat.le_of_ble_eq_true rfl) (Nat.le_of_ble_eq_true rfl)
set_option maxHeartbeats 4000000 in
set_option maxRecDepth 100000 in
theorem c_X3_acrossFrom (l : Launch) (D : va_G) (cI cM cT cJ cZ : ClassId) (rO : Nat) (p0 : Int32) (mU : Nat) (bF : Nat) (bT : Nat) (br : Int32) (fbf : Nat → Int32) (fbt : Nat → Int32) (ha_p0 : 0 ≤ p0.toInt ∧ p0.toInt ≤ 299) (hi_br : 0 ≤ br.toInt ∧ br.toInt ≤ 4) (hr_fbt : Rng 0 299 4 fbt) : Ci l D (ty3 cI cM cT cJ cZ) yX3_acrossFrom cX3_acrossFrom 3 (some .int) 0 0 0 [.ref rO, .int p0] ([(rO, .inr (3, [.ref mU, .ref bF, .ref bT, .int br])), (bF, .inl (cI, 4, .inl fbf)), (bT, .inl (cI, 4, .inl fbt))]) (fun r u => (0 ≤ r.toInt ∧ r.toInt ≤ 299) ∧ u = [(rO, .inr (3, [.ref mU, .ref bF, .ref bT, .int br])), (bF, .inl (cI, 4, .inl fbf)), (bT, .inl (cI, 4, .inl fbt))]) := by
  refine Ci.of (by decide +kernel) (Nat.le_of_ble_eq_true rfl) ?_
  intro p e s m below meth c A ls Z hin hP hD hl
  have hx := Z.1
  have hb := Z.2.1
  have hS : va_S A s.heap s.heap [] := va_S.rf
  have hl : lv_has ls 3 [(0, .ref rO), (1, .int p0)] := hl
  skip
  refine lv_iconst (v := 0) hx hb dX3_acrossFrom_0 (by decide) ?_
  refine lv_istore_n (lv' := [(2, .int 0), (0, .ref rO), (1, .int p0)]) hx hb dX3_acrossFrom_1 rfl hl (by decide) rfl (fun ls hl => ?_)
  refine W.widen (k := 0) (n := 0) (Nat.le_of_ble_eq_true rfl) (Nat.le_of_ble_eq_true rfl) ?_
  exact lp_X3_acrossFrom l D cI cM cT cJ cZ rO p0 mU bF bT br fbf fbt Z ha_p0 hi_br hr_fbt  _ 0 (by first | with_reducible assumption | ((try simp only [zlt, zle, zeq, zl_0, zl_1, zl_2, zl_3, zl_4, zl_5, zl_6, zl_7, zl_8, zl_9, zl_10, zl_11, zl_12, zl_13, zl_14, zl_15, zl_16, zl_17, zl_18, zl_19, zl_20, zl_21, zl_22, zl_23, zl_24, zl_25, zl_26, zl_27, zl_28, zl_29, zl_30, zl_31, zl_32, zl_33, zl_34, zl_35, zl_36, zl_37, zl_38, zl_39, zl_40, zl_41, zl_42, zl_43, zl_44, zl_45, zl_46, zl_47, zl_48, zl_49, zl_50, zl_51, zl_52, zl_53, zl_54, zl_55, zl_56, zl_57, zl_58, zl_59, zl_60, zl_61, zl_62, zl_63, zl_64, zl_65, zl_82, zl_99, zl_100, zl_160, zl_299, zl_300, zl_301, zl_382, zl_398, zl_399, zl_464, zl_680, zl_862, zl_999, zl_1000, zl_9999, zl_10000, zl_1000000, zl_m1, zl_m2, zl_m3, zl_m8] at ha_p0 hi_br ⊢); omega)) (Nat.lt_succ_self _) _ _ _ hP hD hS (lv_sub hl [1, 2, 0] rfl)
set_option maxHeartbeats 4000000 in
set_option maxRecDepth 100000 in
theorem c_X1_slips (l : Launch) (D : va_G) (cI cM cT cJ cZ : ClassId) (mA : Nat) (p0 : Int32) (iA : Nat) (in_ : Int32) (pl : Int32) (oa : Int32) (dv : Int32) (dy : Int32) (xx : Int32) (hi_in_ : 0 ≤ in_.toInt ∧ in_.toInt ≤ 10) (hi_pl : 0 ≤ pl.toInt ∧ pl.toInt ≤ 299) : Ci l D (ty3 cI cM cT cJ cZ) yX1_slips cX1_slips 3 (some .boolean) 0 0 0 [.ref mA, .int p0] ([(mA, .inr (1, [.ref iA, .int in_, .int pl, .int oa, .int dv, .int dy, .int xx]))]) (fun r u => ∃ (xx_n : Int32), (0 ≤ r.toInt ∧ r.toInt ≤ 1) ∧ u = [(mA, .inr (1, [.ref iA, .int in_, .int pl, .int oa, .int dv, .int dy, .int xx_n]))]) := by
  refine Ci.of (by decide +kernel) (Nat.le_of_ble_eq_true rfl) ?_
  intro p e s m below meth c A ls Z hin hP hD hl
  have hx := Z.1
  have hb := Z.2.1
  have hS : va_S A s.heap s.heap [] := va_S.rf
  have hl : lv_has ls 3 [(0, .ref mA), (1, .int p0)] := hl
  skip
  refine lv_aload_n hx hb dX1_slips_0 rfl (lv_at hl 0 rfl) ?_
  refine z_get Z i_X1 hP 0 rfl rfl 6 (by decide) bw_194 rfl dX1_slips_1 ?_
  refine lv_bipush (v := 10) hx hb dX1_slips_4 (by decide) ?_
  refine lv_irem hx hb dX1_slips_6 (by decide) ?_
  refine lv_topi (fun z1 ez1 => ?_)
  refine lv_iload_n hx hb dX1_slips_7 rfl (lv_at hl 1 rfl) ?_
  refine lv_icmp_ge (tgt := 15) hx hb dX1_slips_8 (by decide) (fun c2 => ?_) (fun c2 => ?_)
  · refine lv_iconst (v := 0) hx hb dX1_slips_15 (by decide) ?_
    refine lv_istore_n (lv' := [(2, .int 0), (0, .ref mA), (1, .int p0)]) hx hb dX1_slips_16 rfl hl (by decide) rfl (fun ls hl => ?_)
    refine lv_aload_n hx hb dX1_slips_17 rfl (lv_at hl 1 rfl) ?_
    refine lv_aload_n hx hb dX1_slips_18 rfl (lv_at hl 1 rfl) ?_
    refine z_get Z i_X1 hP 0 rfl rfl 6 (by decide) bw_194 rfl dX1_slips_19 ?_
    refine lv_sipush (v := 193) hx hb dX1_slips_22 (by decide) ?_
    refine lv_imul hx hb dX1_slips_25 ?_
    refine lv_topi (fun z3 ez3 => ?_)
    refine lv_bipush (v := 89) hx hb dX1_slips_26 (by decide) ?_
    refine lv_iadd hx hb dX1_slips_28 ?_
    refine lv_topi (fun z4 ez4 => ?_)
    refine lv_sipush (v := 30103) hx hb dX1_slips_29 (by decide) ?_
    refine lv_irem hx hb dX1_slips_32 (by decide) ?_
    refine lv_topi (fun z5 ez5 => ?_)
    refine z_put Z i_X1 tyX1 tyX1_ok nmX1 hP hD hS 0 rfl rfl 6 (by decide) bw_194 rfl rfl rfl (Nat.le_of_ble_eq_true rfl) dX1_slips_33 (fun H locs hP hD hS => ?_)
    have hP : va_P D vwCl ([(mA, .inr (1, [.ref iA, .int in_, .int pl, .int oa, .int dv, .int dy, .int z5]))]) H := hP
    have hD : va_D A ([(mA, .inr (1, [.ref iA, .int in_, .int pl, .int oa, .int dv, .int dy, .int z5]))]) := hD
    refine lv_iload_n hx hb dX1_slips_36 rfl (lv_at hl 0 rfl) ?_
    exact z_ret Z rfl hP hD hS (⟨z5, (by decide), rfl⟩) dX1_slips_37 (Nat.le_of_ble_eq_true rfl) (Nat.le_of_ble_eq_true rfl)
  · refine lv_iconst (v := 1) hx hb dX1_slips_11 (by decide) ?_
    refine lv_goto (tgt := 16) hx hb dX1_slips_12 (by decide) ?_
    refine lv_istore_n (lv' := [(2, .int 1), (0, .ref mA), (1, .int p0)]) hx hb dX1_slips_16 rfl hl (by decide) rfl (fun ls hl => ?_)
    refine lv_aload_n hx hb dX1_slips_17 rfl (lv_at hl 1 rfl) ?_
    refine lv_aload_n hx hb dX1_slips_18 rfl (lv_at hl 1 rfl) ?_
    refine z_get Z i_X1 hP 0 rfl rfl 6 (by decide) bw_194 rfl dX1_slips_19 ?_
    refine lv_sipush (v := 193) hx hb dX1_slips_22 (by decide) ?_
    refine lv_imul hx hb dX1_slips_25 ?_
    refine lv_topi (fun z6 ez6 => ?_)
    refine lv_bipush (v := 89) hx hb dX1_slips_26 (by decide) ?_
    refine lv_iadd hx hb dX1_slips_28 ?_
    refine lv_topi (fun z7 ez7 => ?_)
    refine lv_sipush (v := 30103) hx hb dX1_slips_29 (by decide) ?_
    refine lv_irem hx hb dX1_slips_32 (by decide) ?_
    refine lv_topi (fun z8 ez8 => ?_)
    refine z_put Z i_X1 tyX1 tyX1_ok nmX1 hP hD hS 0 rfl rfl 6 (by decide) bw_194 rfl rfl rfl (Nat.le_of_ble_eq_true rfl) dX1_slips_33 (fun H locs hP hD hS => ?_)
    have hP : va_P D vwCl ([(mA, .inr (1, [.ref iA, .int in_, .int pl, .int oa, .int dv, .int dy, .int z8]))]) H := hP
    have hD : va_D A ([(mA, .inr (1, [.ref iA, .int in_, .int pl, .int oa, .int dv, .int dy, .int z8]))]) := hD
    refine lv_iload_n hx hb dX1_slips_36 rfl (lv_at hl 0 rfl) ?_
    exact z_ret Z rfl hP hD hS (⟨z8, (by decide), rfl⟩) dX1_slips_37 (Nat.le_of_ble_eq_true rfl) (Nat.le_of_ble_eq_true rfl)
