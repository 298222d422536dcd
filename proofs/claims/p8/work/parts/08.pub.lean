theorem dX6_forget_0 : decode cX6_forget 0 = .ok (.aload_n 0, 1) := by decide +kernel
theorem dX6_forget_1 : decode cX6_forget 1 = .ok (.dup, 1) := by decide +kernel
theorem dX6_forget_2 : decode cX6_forget 2 = .ok (.getfield 28, 3) := by decide +kernel
theorem dX6_forget_5 : decode cX6_forget 5 = .ok (.iconst 1, 1) := by decide +kernel
theorem dX6_forget_6 : decode cX6_forget 6 = .ok (.iadd, 1) := by decide +kernel
theorem dX6_forget_7 : decode cX6_forget 7 = .ok (.putfield 28, 3) := by decide +kernel
theorem dX6_forget_10 : decode cX6_forget 10 = .ok (.return_, 1) := by decide +kernel
theorem dX11_end_0 : decode cX11_end 0 = .ok (.iload_n 1, 1) := by decide +kernel
theorem dX11_end_1 : decode cX11_end 1 = .ok (.iconst 0, 1) := by decide +kernel
theorem dX11_end_2 : decode cX11_end 2 = .ok (.aload_n 0, 1) := by decide +kernel
theorem dX11_end_3 : decode cX11_end 3 = .ok (.getfield 39, 3) := by decide +kernel
theorem dX11_end_6 : decode cX11_end 6 = .ok (.getfield 127, 3) := by decide +kernel
theorem dX11_end_9 : decode cX11_end 9 = .ok (.getfield 131, 3) := by decide +kernel
theorem dX11_end_12 : decode cX11_end 12 = .ok (.invokestatic 58, 3) := by decide +kernel
theorem dX11_end_15 : decode cX11_end 15 = .ok (.ifCond .ne 5, 3) := by decide +kernel
theorem dX11_end_18 : decode cX11_end 18 = .ok (.iconst (-1), 1) := by decide +kernel
theorem dX11_end_19 : decode cX11_end 19 = .ok (.ireturn, 1) := by decide +kernel
theorem dX11_end_20 : decode cX11_end 20 = .ok (.aload_n 0, 1) := by decide +kernel
theorem dX11_end_21 : decode cX11_end 21 = .ok (.getfield 39, 3) := by decide +kernel
theorem dX11_end_24 : decode cX11_end 24 = .ok (.getfield 127, 3) := by decide +kernel
theorem dX11_end_27 : decode cX11_end 27 = .ok (.iload_n 1, 1) := by decide +kernel
theorem dX11_end_28 : decode cX11_end 28 = .ok (.putfield 131, 3) := by decide +kernel
theorem dX11_end_31 : decode cX11_end 31 = .ok (.iload_n 1, 1) := by decide +kernel
theorem dX11_end_32 : decode cX11_end 32 = .ok (.ireturn, 1) := by decide +kernel
theorem dX11_fault_0 : decode cX11_fault 0 = .ok (.iload_n 1, 1) := by decide +kernel
theorem dX11_fault_1 : decode cX11_fault 1 = .ok (.ifCond .ne 11, 3) := by decide +kernel
theorem dX11_fault_4 : decode cX11_fault 4 = .ok (.aload_n 0, 1) := by decide +kernel
theorem dX11_fault_5 : decode cX11_fault 5 = .ok (.getfield 39, 3) := by decide +kernel
theorem dX11_fault_8 : decode cX11_fault 8 = .ok (.getfield 150, 3) := by decide +kernel
theorem dX11_fault_11 : decode cX11_fault 11 = .ok (.ireturn, 1) := by decide +kernel
theorem dX11_fault_12 : decode cX11_fault 12 = .ok (.iload_n 1, 1) := by decide +kernel
theorem dX11_fault_13 : decode cX11_fault 13 = .ok (.iconst 1, 1) := by decide +kernel
theorem dX11_fault_14 : decode cX11_fault 14 = .ok (.if_icmp .ne 13, 3) := by decide +kernel
theorem dX11_fault_17 : decode cX11_fault 17 = .ok (.aload_n 0, 1) := by decide +kernel
theorem dX11_fault_18 : decode cX11_fault 18 = .ok (.getfield 39, 3) := by decide +kernel
theorem dX11_fault_21 : decode cX11_fault 21 = .ok (.getfield 153, 3) := by decide +kernel
theorem dX11_fault_24 : decode cX11_fault 24 = .ok (.goto 4, 3) := by decide +kernel
theorem dX11_fault_27 : decode cX11_fault 27 = .ok (.iconst (-1), 1) := by decide +kernel
theorem dX11_fault_28 : decode cX11_fault 28 = .ok (.ireturn, 1) := by decide +kernel
theorem dX11_by_0 : decode cX11_by 0 = .ok (.iload_n 1, 1) := by decide +kernel
theorem dX11_by_1 : decode cX11_by 1 = .ok (.iconst (-1), 1) := by decide +kernel
theorem dX11_by_2 : decode cX11_by 2 = .ok (.aload_n 0, 1) := by decide +kernel
theorem dX11_by_3 : decode cX11_by 3 = .ok (.getfield 27, 3) := by decide +kernel
theorem dX11_by_6 : decode cX11_by 6 = .ok (.getfield 140, 3) := by decide +kernel
theorem dX11_by_9 : decode cX11_by 9 = .ok (.iconst 1, 1) := by decide +kernel
theorem dX11_by_10 : decode cX11_by 10 = .ok (.isub, 1) := by decide +kernel
theorem dX11_by_11 : decode cX11_by 11 = .ok (.invokestatic 58, 3) := by decide +kernel
theorem dX11_by_14 : decode cX11_by 14 = .ok (.ifCond .ne 5, 3) := by decide +kernel
theorem dX11_by_17 : decode cX11_by 17 = .ok (.iconst 0, 1) := by decide +kernel
theorem dX11_by_18 : decode cX11_by 18 = .ok (.ireturn, 1) := by decide +kernel
theorem dX11_by_19 : decode cX11_by 19 = .ok (.aload_n 0, 1) := by decide +kernel
theorem dX11_by_20 : decode cX11_by 20 = .ok (.getfield 27, 3) := by decide +kernel
theorem dX11_by_23 : decode cX11_by 23 = .ok (.iload_n 1, 1) := by decide +kernel
theorem dX11_by_24 : decode cX11_by 24 = .ok (.putfield 156, 3) := by decide +kernel
theorem dX11_by_27 : decode cX11_by 27 = .ok (.aload_n 0, 1) := by decide +kernel
theorem dX11_by_28 : decode cX11_by 28 = .ok (.getfield 10, 3) := by decide +kernel
theorem dX11_by_31 : decode cX11_by 31 = .ok (.invokevirtual 71, 3) := by decide +kernel
theorem dX11_by_34 : decode cX11_by 34 = .ok (.iconst 1, 1) := by decide +kernel
theorem dX11_by_35 : decode cX11_by 35 = .ok (.ireturn, 1) := by decide +kernel
theorem bw_80 : Cond.initialized "CountingHorses" ∈ BW := bw_at 80 (by decide +kernel) (by decide +kernel)
theorem bw_81 : Cond.initialized "CountingHorses$Stops" ∈ BW := bw_at 81 (by decide +kernel) (by decide +kernel)
theorem bw_255 : Cond.fieldLink "CountingHorses" 140 "CountingHorses$World" "texts" "I" ∈ BW := bw_at 255 (by decide +kernel) (by decide +kernel)
theorem bw_258 : Cond.fieldLink "CountingHorses" 156 "CountingHorses$World" "ruling" "I" ∈ BW := bw_at 258 (by decide +kernel) (by decide +kernel)
theorem bw_369 : Cond.fieldLink "CountingHorses$Stops" 28 "CountingHorses$Stops" "age" "I" ∈ BW := bw_at 369 (by decide +kernel) (by decide +kernel)
theorem bw_403 : Cond.fieldLink "CountingHorses" 131 "CountingHorses$Tape" "length" "I" ∈ BW := bw_at 403 (by decide +kernel) (by decide +kernel)
theorem bw_422 : Cond.fieldLink "CountingHorses" 127 "CountingHorses$Reader" "tape" "LCountingHorses$Tape;" ∈ BW := bw_at 422 (by decide +kernel) (by decide +kernel)
theorem bw_424 : Cond.fieldLink "CountingHorses" 150 "CountingHorses$Reader" "fault" "I" ∈ BW := bw_at 424 (by decide +kernel) (by decide +kernel)
theorem bw_426 : Cond.fieldLink "CountingHorses" 153 "CountingHorses$Reader" "faultAt" "I" ∈ BW := bw_at 426 (by decide +kernel) (by decide +kernel)
theorem bw_468 : Cond.fieldLink "CountingHorses" 10 "CountingHorses" "stops" "LCountingHorses$Stops;" ∈ BW := bw_at 468 (by decide +kernel) (by decide +kernel)
theorem bw_470 : Cond.fieldLink "CountingHorses" 27 "CountingHorses" "now" "LCountingHorses$World;" ∈ BW := bw_at 470 (by decide +kernel) (by decide +kernel)
theorem bw_472 : Cond.fieldLink "CountingHorses" 39 "CountingHorses" "reader" "LCountingHorses$Reader;" ∈ BW := bw_at 472 (by decide +kernel) (by decide +kernel)
theorem bw_497 : Cond.methodLink "CountingHorses" 58 ⟨"CountingHorses", "isWithin", "(III)Z"⟩ ∈ BW := bw_at 497 (by decide +kernel) (by decide +kernel)
theorem bw_498 : Cond.static ⟨"CountingHorses", "isWithin", "(III)Z"⟩ ∈ BW := bw_at 498 (by decide +kernel) (by decide +kernel)
theorem bw_499 : Cond.code ⟨"CountingHorses", "isWithin", "(III)Z"⟩ prog_1_method_31_code 3 (some .boolean) ∈ BW := bw_at 499 (by decide +kernel) (by decide +kernel)
theorem bw_500 : Cond.methodLink "CountingHorses" 71 ⟨"CountingHorses$Stops", "forget", "()V"⟩ ∈ BW := bw_at 500 (by decide +kernel) (by decide +kernel)
theorem bw_501 : Cond.instanceMethod ⟨"CountingHorses$Stops", "forget", "()V"⟩ ∈ BW := bw_at 501 (by decide +kernel) (by decide +kernel)
theorem bw_502 : Cond.selects "CountingHorses$Stops" ⟨"CountingHorses$Stops", "forget", "()V"⟩ ⟨"CountingHorses$Stops", "forget", "()V"⟩ ∈ BW := bw_at 502 (by decide +kernel) (by decide +kernel)
theorem bw_503 : Cond.code ⟨"CountingHorses$Stops", "forget", "()V"⟩ prog_8_method_2_code 1 none ∈ BW := bw_at 503 (by decide +kernel) (by decide +kernel)
set_option maxHeartbeats 4000000 in
set_option maxRecDepth 100000 in
theorem c_X6_forget (l : Launch) (D : va_G) (cI cM cT cJ cZ : ClassId) (st : Nat) (dr : Nat) (s1 : Nat) (s2 : Nat) (s3 : Nat) (ag : Int32) : Cv l D (ty3 cI cM cT cJ cZ) yX6_forget cX6_forget 1 0 0 0 [.ref st] ([(st, .inr (6, [.ref dr, .ref s1, .ref s2, .ref s3, .int ag]))]) (fun u => ∃ (ag_n : Int32), u = [(st, .inr (6, [.ref dr, .ref s1, .ref s2, .ref s3, .int ag_n]))]) := by
  refine Cv.of (by decide +kernel) (Nat.le_of_ble_eq_true rfl) ?_
  intro p e s m below meth c A ls Z hin hP hD hl
  have hx := Z.1
  have hb := Z.2.1
  have hS : va_S A s.heap s.heap [] := va_S.rf
  have hl : lv_has ls 1 [(0, .ref st)] := hl
  skip
  refine lv_aload_n hx hb dX6_forget_0 rfl (lv_at hl 0 rfl) ?_
  refine lv_dup hx hb dX6_forget_1 rfl ?_
  refine z_get Z i_X6 hP 0 rfl rfl 4 (by decide) bw_369 rfl dX6_forget_2 ?_
  refine lv_iconst (v := 1) hx hb dX6_forget_5 (by decide) ?_
  refine lv_iadd hx hb dX6_forget_6 ?_
  refine lv_topi (fun z1 ez1 => ?_)
  refine z_put Z i_X6 tyX6 tyX6_ok nmX6 hP hD hS 0 rfl rfl 4 (by decide) bw_369 rfl rfl rfl (Nat.le_of_ble_eq_true rfl) dX6_forget_7 (fun H locs hP hD hS => ?_)
  have hP : va_P D vwCl ([(st, .inr (6, [.ref dr, .ref s1, .ref s2, .ref s3, .int z1]))]) H := hP
  have hD : va_D A ([(st, .inr (6, [.ref dr, .ref s1, .ref s2, .ref s3, .int z1]))]) := hD
  exact z_vret Z hP hD hS (⟨z1, rfl⟩) dX6_forget_10 (Nat.le_of_ble_eq_true rfl) (Nat.le_of_ble_eq_true rfl)
set_option maxHeartbeats 4000000 in
set_option maxRecDepth 100000 in
theorem c_X11_end (l : Launch) (D : va_G) (cI cM cT cJ cZ : ClassId) (x : Nat) (p0 : Int32) (st : Nat) (dr : Nat) (nw : Nat) (kp : Nat) (rd : Nat) (tm : Nat) (co : Nat) (tP : Nat) (fa : Int32) (fb : Int32) (tk : Int32) (kd : Int32) (nb : Int32) (tX : Nat) (bY : Nat) (ki : Nat) (a_t : Nat) (nu : Nat) (le : Int32) (tks : Int32) (hi_le : 0 ≤ le.toInt ∧ le.toInt ≤ 300) : Ci l D (ty3 cI cM cT cJ cZ) yX11_end cX11_end 2 (some .int) 2 0 0 [.ref x, .int p0] ([(x, .inr (11, [.ref st, .ref dr, .ref nw, .ref kp, .ref rd, .ref tm, .ref co])), (rd, .inr (2, [.ref tP, .int fa, .int fb, .int tk, .int kd, .int nb, .ref tX])), (tP, .inr (7, [.ref bY, .ref ki, .ref a_t, .ref nu, .int le, .int tks]))]) (fun r u => ∃ (le_n : Int32), u = [(x, .inr (11, [.ref st, .ref dr, .ref nw, .ref kp, .ref rd, .ref tm, .ref co])), (rd, .inr (2, [.ref tP, .int fa, .int fb, .int tk, .int kd, .int nb, .ref tX])), (tP, .inr (7, [.ref bY, .ref ki, .ref a_t, .ref nu, .int le_n, .int tks]))] ∧ (0 ≤ le_n.toInt ∧ le_n.toInt ≤ 300) ∧ ((r.toInt = -1 ∧ (p0.toInt < 0 ∨ le.toInt < p0.toInt) ∧ le_n.toInt = le.toInt) ∨ (0 ≤ p0.toInt ∧ p0.toInt ≤ le.toInt ∧ r.toInt = p0.toInt ∧ le_n.toInt = p0.toInt))) := by
  refine Ci.of (by decide +kernel) (Nat.le_of_ble_eq_true rfl) ?_
  intro p e s m below meth c A ls Z hin hP hD hl
  have hx := Z.1
  have hb := Z.2.1
  have hS : va_S A s.heap s.heap [] := va_S.rf
  have hl : lv_has ls 2 [(0, .ref x), (1, .int p0)] := hl
  skip
  refine lv_iload_n hx hb dX11_end_0 rfl (lv_at hl 1 rfl) ?_
  refine lv_iconst (v := 0) hx hb dX11_end_1 (by decide) ?_
  refine lv_aload_n hx hb dX11_end_2 rfl (lv_at hl 0 rfl) ?_
  refine z_get Z i_X11 hP 0 rfl rfl 4 (by decide) bw_472 rfl dX11_end_3 ?_
  refine z_get Z i_X2 hP 1 rfl rfl 0 (by decide) bw_422 rfl dX11_end_6 ?_
  refine z_get Z i_X7 hP 2 rfl rfl 4 (by decide) bw_403 rfl dX11_end_9 ?_
  have hPc := hP.sub2 (wc := []) [] rfl
  have hDc := hD.sub (ws' := []) [] (by decide) rfl
  refine raw_Si (nA := 3) (As := [.int p0, .int 0, .int le]) (rest := []) Z hl.1 (c_X11_isWithin l D cI cM cT cJ cZ p0 0 le) (bw_S bw_497 bw_498 bw_80 bw_499) ⟨by decide +kernel, by decide +kernel, by decide +kernel⟩ rfl ⟨Nat.le_of_ble_eq_true rfl, Nat.le_of_ble_eq_true rfl⟩ hPc hDc hS rfl (Nat.le_of_ble_eq_true rfl) dX11_end_12 ⟨Nat.le_of_ble_eq_true rfl, Nat.le_of_ble_eq_true rfl⟩ (fun r2 u1 H1 locs1 h3 hku1 hP1 hD1 hS1 => ?_)
  obtain ⟨hrh3, rfl⟩ := h3
  obtain ⟨hP, hD⟩ := z_join (wr := [(x, .inr (11, [.ref st, .ref dr, .ref nw, .ref kp, .ref rd, .ref tm, .ref co])), (rd, .inr (2, [.ref tP, .int fa, .int fb, .int tk, .int kd, .int nb, .ref tX])), (tP, .inr (7, [.ref bY, .ref ki, .ref a_t, .ref nu, .int le, .int tks]))]) Z hS hP hD [] [0, 1, 2] rfl (by decide) rfl (by decide) (by decide) hku1 hP1 hD1
  have hS := hS1
  clear hS1
  generalize H1 = H at hP hS ⊢
  generalize locs1 = locs at hS ⊢
  have hP : va_P D vwCl ([(x, .inr (11, [.ref st, .ref dr, .ref nw, .ref kp, .ref rd, .ref tm, .ref co])), (rd, .inr (2, [.ref tP, .int fa, .int fb, .int tk, .int kd, .int nb, .ref tX])), (tP, .inr (7, [.ref bY, .ref ki, .ref a_t, .ref nu, .int le, .int tks]))]) H := hP
  have hD : va_D A ([(x, .inr (11, [.ref st, .ref dr, .ref nw, .ref kp, .ref rd, .ref tm, .ref co])), (rd, .inr (2, [.ref tP, .int fa, .int fb, .int tk, .int kd, .int nb, .ref tX])), (tP, .inr (7, [.ref bY, .ref ki, .ref a_t, .ref nu, .int le, .int tks]))]) := hD
  by_cases c4 : 0 ≤ p0 ∧ p0 ≤ le
  · obtain rfl : r2 = 1 := by rw [hrh3, if_pos c4]
    refine lv_if_ne (tgt := 20) hx hb dX11_end_15 (by decide) (fun c5 => ?_) (fun h => absurd h (by decide))
    refine lv_aload_n hx hb dX11_end_20 rfl (lv_at hl 0 rfl) ?_
    refine z_get Z i_X11 hP 0 rfl rfl 4 (by decide) bw_472 rfl dX11_end_21 ?_
    refine z_get Z i_X2 hP 1 rfl rfl 0 (by decide) bw_422 rfl dX11_end_24 ?_
    refine lv_iload_n hx hb dX11_end_27 rfl (lv_at hl 1 rfl) ?_
    refine z_put Z i_X7 tyX7 tyX7_ok nmX7 hP hD hS 2 rfl rfl 4 (by decide) bw_403 rfl rfl rfl (Nat.le_of_ble_eq_true rfl) dX11_end_28 (fun H locs hP hD hS => ?_)
    have hP : va_P D vwCl ([(x, .inr (11, [.ref st, .ref dr, .ref nw, .ref kp, .ref rd, .ref tm, .ref co])), (rd, .inr (2, [.ref tP, .int fa, .int fb, .int tk, .int kd, .int nb, .ref tX])), (tP, .inr (7, [.ref bY, .ref ki, .ref a_t, .ref nu, .int p0, .int tks]))]) H := hP
    have hD : va_D A ([(x, .inr (11, [.ref st, .ref dr, .ref nw, .ref kp, .ref rd, .ref tm, .ref co])), (rd, .inr (2, [.ref tP, .int fa, .int fb, .int tk, .int kd, .int nb, .ref tX])), (tP, .inr (7, [.ref bY, .ref ki, .ref a_t, .ref nu, .int p0, .int tks]))]) := hD
    refine lv_iload_n hx hb dX11_end_31 rfl (lv_at hl 1 rfl) ?_
    exact z_ret Z rfl hP hD hS (⟨p0, rfl, (by (try simp only [zlt, zle, zeq, zl_0, zl_1, zl_2, zl_3, zl_4, zl_5, zl_6, zl_7, zl_8, zl_9, zl_10, zl_11, zl_12, zl_13, zl_14, zl_15, zl_16, zl_17, zl_18, zl_19, zl_20, zl_21, zl_22, zl_23, zl_24, zl_25, zl_26, zl_27, zl_28, zl_29, zl_30, zl_31, zl_32, zl_33, zl_34, zl_35, zl_36, zl_37, zl_38, zl_39, zl_40, zl_41, zl_42, zl_43, zl_44, zl_45, zl_46, zl_47, zl_48, zl_49, zl_50, zl_51, zl_52, zl_53, zl_54, zl_55, zl_56, zl_57, zl_58, zl_59, zl_60, zl_61, zl_62, zl_63, zl_64, zl_65, zl_82, zl_99, zl_100, zl_160, zl_299, zl_300, zl_301, zl_382, zl_398, zl_399, zl_464, zl_680, zl_862, zl_999, zl_1000, zl_9999, zl_10000, zl_1000000, zl_m1, zl_m2, zl_m3, zl_m8] at hi_le c4 c5 ⊢); omega), (by (try simp only [zlt, zle, zeq, zl_0, zl_1, zl_2, zl_3, zl_4, zl_5, zl_6, zl_7, zl_8, zl_9, zl_10, zl_11, zl_12, zl_13, zl_14, zl_15, zl_16, zl_17, zl_18, zl_19, zl_20, zl_21, zl_22, zl_23, zl_24, zl_25, zl_26, zl_27, zl_28, zl_29, zl_30, zl_31, zl_32, zl_33, zl_34, zl_35, zl_36, zl_37, zl_38, zl_39, zl_40, zl_41, zl_42, zl_43, zl_44, zl_45, zl_46, zl_47, zl_48, zl_49, zl_50, zl_51, zl_52, zl_53, zl_54, zl_55, zl_56, zl_57, zl_58, zl_59, zl_60, zl_61, zl_62, zl_63, zl_64, zl_65, zl_82, zl_99, zl_100, zl_160, zl_299, zl_300, zl_301, zl_382, zl_398, zl_399, zl_464, zl_680, zl_862, zl_999, zl_1000, zl_9999, zl_10000, zl_1000000, zl_m1, zl_m2, zl_m3, zl_m8, and_true, true_and, and_false, false_and, or_false, false_or, or_true, true_or, not_true_eq_false, not_false_eq_true] at hi_le c4 c5 ⊢) <;> omega)⟩) dX11_end_32 (Nat.le_of_ble_eq_true rfl) (Nat.le_of_ble_eq_true rfl)
  · obtain rfl : r2 = 0 := by rw [hrh3, if_neg c4]
    refine lv_if_ne (tgt := 20) hx hb dX11_end_15 (by decide) (fun h => absurd (by decide) h) (fun c6 => ?_)
    refine lv_iconst (v := (-1)) hx hb dX11_end_18 (by decide) ?_
    exact z_ret Z rfl hP hD hS (⟨le, rfl, (by (try simp only [zlt, zle, zeq, zl_0, zl_1, zl_2, zl_3, zl_4, zl_5, zl_6, zl_7, zl_8, zl_9, zl_10, zl_11, zl_12, zl_13, zl_14, zl_15, zl_16, zl_17, zl_18, zl_19, zl_20, zl_21, zl_22, zl_23, zl_24, zl_25, zl_26, zl_27, zl_28, zl_29, zl_30, zl_31, zl_32, zl_33, zl_34, zl_35, zl_36, zl_37, zl_38, zl_39, zl_40, zl_41, zl_42, zl_43, zl_44, zl_45, zl_46, zl_47, zl_48, zl_49, zl_50, zl_51, zl_52, zl_53, zl_54, zl_55, zl_56, zl_57, zl_58, zl_59, zl_60, zl_61, zl_62, zl_63, zl_64, zl_65, zl_82, zl_99, zl_100, zl_160, zl_299, zl_300, zl_301, zl_382, zl_398, zl_399, zl_464, zl_680, zl_862, zl_999, zl_1000, zl_9999, zl_10000, zl_1000000, zl_m1, zl_m2, zl_m3, zl_m8] at hi_le c4 c6 ⊢); omega), (by (try simp only [zlt, zle, zeq, zl_0, zl_1, zl_2, zl_3, zl_4, zl_5, zl_6, zl_7, zl_8, zl_9, zl_10, zl_11, zl_12, zl_13, zl_14, zl_15, zl_16, zl_17, zl_18, zl_19, zl_20, zl_21, zl_22, zl_23, zl_24, zl_25, zl_26, zl_27, zl_28, zl_29, zl_30, zl_31, zl_32, zl_33, zl_34, zl_35, zl_36, zl_37, zl_38, zl_39, zl_40, zl_41, zl_42, zl_43, zl_44, zl_45, zl_46, zl_47, zl_48, zl_49, zl_50, zl_51, zl_52, zl_53, zl_54, zl_55, zl_56, zl_57, zl_58, zl_59, zl_60, zl_61, zl_62, zl_63, zl_64, zl_65, zl_82, zl_99, zl_100, zl_160, zl_299, zl_300, zl_301, zl_382, zl_398, zl_399, zl_464, zl_680, zl_862, zl_999, zl_1000, zl_9999, zl_10000, zl_1000000, zl_m1, zl_m2, zl_m3, zl_m8, and_true, true_and, and_false, false_and, or_false, false_or, or_true, true_or, not_true_eq_false, not_false_eq_true] at hi_le c4 c6 ⊢) <;> omega)⟩) dX11_end_19 (Nat.le_of_ble_eq_true rfl) (Nat.le_of_ble_eq_true rfl)
set_option maxHeartbeats 4000000 in
set_option maxRecDepth 100000 in
theorem c_X11_fault (l : Launch) (D : va_G) (cI cM cT cJ cZ : ClassId) (x : Nat) (p0 : Int32) (st : Nat) (dr : Nat) (nw : Nat) (kp : Nat) (rd : Nat) (tm : Nat) (co : Nat) (tP : Nat) (fa : Int32) (fb : Int32) (tk : Int32) (kd : Int32) (nb : Int32) (tX : Nat) : Ci l D (ty3 cI cM cT cJ cZ) yX11_fault cX11_fault 2 (some .int) 2 0 0 [.ref x, .int p0] ([(x, .inr (11, [.ref st, .ref dr, .ref nw, .ref kp, .ref rd, .ref tm, .ref co])), (rd, .inr (2, [.ref tP, .int fa, .int fb, .int tk, .int kd, .int nb, .ref tX]))]) (fun r u => u = [(x, .inr (11, [.ref st, .ref dr, .ref nw, .ref kp, .ref rd, .ref tm, .ref co])), (rd, .inr (2, [.ref tP, .int fa, .int fb, .int tk, .int kd, .int nb, .ref tX]))] ∧ ((p0.toInt = 0 ∧ r.toInt = fa.toInt) ∨ (p0.toInt = 1 ∧ r.toInt = fb.toInt) ∨ (p0.toInt ≠ 0 ∧ p0.toInt ≠ 1 ∧ r.toInt = -1))) := by
  refine Ci.of (by decide +kernel) (Nat.le_of_ble_eq_true rfl) ?_
  intro p e s m below meth c A ls Z hin hP hD hl
  have hx := Z.1
  have hb := Z.2.1
  have hS : va_S A s.heap s.heap [] := va_S.rf
  have hl : lv_has ls 2 [(0, .ref x), (1, .int p0)] := hl
  skip
  refine lv_iload_n hx hb dX11_fault_0 rfl (lv_at hl 1 rfl) ?_
  refine lv_if_ne (tgt := 12) hx hb dX11_fault_1 (by decide) (fun c1 => ?_) (fun c1 => ?_)
  · refine lv_iload_n hx hb dX11_fault_12 rfl (lv_at hl 1 rfl) ?_
    refine lv_iconst (v := 1) hx hb dX11_fault_13 (by decide) ?_
    refine lv_icmp_ne (tgt := 27) hx hb dX11_fault_14 (by decide) (fun c2 => ?_) (fun c2 => ?_)
    · refine lv_iconst (v := (-1)) hx hb dX11_fault_27 (by decide) ?_
      exact z_ret Z rfl hP hD hS (⟨rfl, (by (try simp only [zlt, zle, zeq, zl_0, zl_1, zl_2, zl_3, zl_4, zl_5, zl_6, zl_7, zl_8, zl_9, zl_10, zl_11, zl_12, zl_13, zl_14, zl_15, zl_16, zl_17, zl_18, zl_19, zl_20, zl_21, zl_22, zl_23, zl_24, zl_25, zl_26, zl_27, zl_28, zl_29, zl_30, zl_31, zl_32, zl_33, zl_34, zl_35, zl_36, zl_37, zl_38, zl_39, zl_40, zl_41, zl_42, zl_43, zl_44, zl_45, zl_46, zl_47, zl_48, zl_49, zl_50, zl_51, zl_52, zl_53, zl_54, zl_55, zl_56, zl_57, zl_58, zl_59, zl_60, zl_61, zl_62, zl_63, zl_64, zl_65, zl_82, zl_99, zl_100, zl_160, zl_299, zl_300, zl_301, zl_382, zl_398, zl_399, zl_464, zl_680, zl_862, zl_999, zl_1000, zl_9999, zl_10000, zl_1000000, zl_m1, zl_m2, zl_m3, zl_m8, and_true, true_and, and_false, false_and, or_false, false_or, or_true, true_or, not_true_eq_false, not_false_eq_true] at c1 c2 ⊢) <;> omega)⟩) dX11_fault_28 (Nat.le_of_ble_eq_true rfl) (Nat.le_of_ble_eq_true rfl)
    · refine lv_aload_n hx hb dX11_fault_17 rfl (lv_at hl 0 rfl) ?_
      refine z_get Z i_X11 hP 0 rfl rfl 4 (by decide) bw_472 rfl dX11_fault_18 ?_
      refine z_get Z i_X2 hP 1 rfl rfl 2 (by decide) bw_426 rfl dX11_fault_21 ?_
      refine lv_goto (tgt := 28) hx hb dX11_fault_24 (by decide) ?_
      exact z_ret Z rfl hP hD hS (⟨rfl, (by (try simp only [zlt, zle, zeq, zl_0, zl_1, zl_2, zl_3, zl_4, zl_5, zl_6, zl_7, zl_8, zl_9, zl_10, zl_11, zl_12, zl_13, zl_14, zl_15, zl_16, zl_17, zl_18, zl_19, zl_20, zl_21, zl_22, zl_23, zl_24, zl_25, zl_26, zl_27, zl_28, zl_29, zl_30, zl_31, zl_32, zl_33, zl_34, zl_35, zl_36, zl_37, zl_38, zl_39, zl_40, zl_41, zl_42, zl_43, zl_44, zl_45, zl_46, zl_47, zl_48, zl_49, zl_50, zl_51, zl_52, zl_53, zl_54, zl_55, zl_56, zl_57, zl_58, zl_59, zl_60, zl_61, zl_62, zl_63, zl_64, zl_65, zl_82, zl_99, zl_100, zl_160, zl_299, zl_300, zl_301, zl_382, zl_398, zl_399, zl_464, zl_680, zl_862, zl_999, zl_1000, zl_9999, zl_10000, zl_1000000, zl_m1, zl_m2, zl_m3, zl_m8, and_true, true_and, and_false, false_and, or_false, false_or, or_true, true_or, not_true_eq_false, not_false_eq_true] at c1 c2 ⊢) <;> omega)⟩) dX11_fault_28 (Nat.le_of_ble_eq_true rfl) (Nat.le_of_ble_eq_true rfl)
  · refine lv_aload_n hx hb dX11_fault_4 rfl (lv_at hl 0 rfl) ?_
    refine z_get Z i_X11 hP 0 rfl rfl 4 (by decide) bw_472 rfl dX11_fault_5 ?_
    refine z_get Z i_X2 hP 1 rfl rfl 1 (by decide) bw_424 rfl dX11_fault_8 ?_
    exact z_ret Z rfl hP hD hS (⟨rfl, (by (try simp only [zlt, zle, zeq, zl_0, zl_1, zl_2, zl_3, zl_4, zl_5, zl_6, zl_7, zl_8, zl_9, zl_10, zl_11, zl_12, zl_13, zl_14, zl_15, zl_16, zl_17, zl_18, zl_19, zl_20, zl_21, zl_22, zl_23, zl_24, zl_25, zl_26, zl_27, zl_28, zl_29, zl_30, zl_31, zl_32, zl_33, zl_34, zl_35, zl_36, zl_37, zl_38, zl_39, zl_40, zl_41, zl_42, zl_43, zl_44, zl_45, zl_46, zl_47, zl_48, zl_49, zl_50, zl_51, zl_52, zl_53, zl_54, zl_55, zl_56, zl_57, zl_58, zl_59, zl_60, zl_61, zl_62, zl_63, zl_64, zl_65, zl_82, zl_99, zl_100, zl_160, zl_299, zl_300, zl_301, zl_382, zl_398, zl_399, zl_464, zl_680, zl_862, zl_999, zl_1000, zl_9999, zl_10000, zl_1000000, zl_m1, zl_m2, zl_m3, zl_m8, and_true, true_and, and_false, false_and, or_false, false_or, or_true, true_or, not_true_eq_false, not_false_eq_true] at c1 ⊢) <;> omega)⟩) dX11_fault_11 (Nat.le_of_ble_eq_true rfl) (Nat.le_of_ble_eq_true rfl)
set_option maxHeartbeats 4000000 in
set_option maxRecDepth 100000 in
theorem c_X11_by (l : Launch) (D : va_G) (cI cM cT cJ cZ : ClassId) (x : Nat) (p0 : Int32) (st : Nat) (dr : Nat) (nw : Nat) (kp : Nat) (rd : Nat) (tm : Nat) (co : Nat) (rO : Nat) (sT : Nat) (mA : Nat) (sB : Nat) (sA : Nat) (tH : Nat) (tF : Nat) (tS : Nat) (sp : Int32) (tn : Int32) (ru : Int32) (se : Int32) (tr : Int32) (s1 : Nat) (s2 : Nat) (s3 : Nat) (ag : Int32) (hi_tn : 0 ≤ tn.toInt ∧ tn.toInt ≤ 4) (hi_se : 0 ≤ se.toInt ∧ se.toInt ≤ 6) (hi_tr : 0 ≤ tr.toInt ∧ tr.toInt ≤ 10) : Ci l D (ty3 cI cM cT cJ cZ) yX11_by cX11_by 2 (some .boolean) 2 0 0 [.ref x, .int p0] ([(x, .inr (11, [.ref st, .ref dr, .ref nw, .ref kp, .ref rd, .ref tm, .ref co])), (nw, .inr (10, [.ref rO, .ref sT, .ref mA, .ref sB, .ref sA, .ref tH, .ref tF, .ref tS, .int sp, .int tn, .int ru, .int se, .int tr])), (st, .inr (6, [.ref dr, .ref s1, .ref s2, .ref s3, .int ag]))]) (fun r u => ∃ (ru_n : Int32) (ag_n : Int32), (0 ≤ r.toInt ∧ r.toInt ≤ 1) ∧ u = [(x, .inr (11, [.ref st, .ref dr, .ref nw, .ref kp, .ref rd, .ref tm, .ref co])), (nw, .inr (10, [.ref rO, .ref sT, .ref mA, .ref sB, .ref sA, .ref tH, .ref tF, .ref tS, .int sp, .int tn, .int ru_n, .int se, .int tr])), (st, .inr (6, [.ref dr, .ref s1, .ref s2, .ref s3, .int ag_n]))] ∧ ((r.toInt = 1 ∧ -1 ≤ p0.toInt ∧ p0.toInt < tn.toInt) ∨ (r.toInt = 0 ∧ (p0.toInt < -1 ∨ tn.toInt ≤ p0.toInt)))) := by
  refine Ci.of (by decide +kernel) (Nat.le_of_ble_eq_true rfl) ?_
  intro p e s m below meth c A ls Z hin hP hD hl
  have hx := Z.1
  have hb := Z.2.1
  have hS : va_S A s.heap s.heap [] := va_S.rf
  have hl : lv_has ls 2 [(0, .ref x), (1, .int p0)] := hl
  skip
  refine lv_iload_n hx hb dX11_by_0 rfl (lv_at hl 1 rfl) ?_
  refine lv_iconst (v := (-1)) hx hb dX11_by_1 (by decide) ?_
  refine lv_aload_n hx hb dX11_by_2 rfl (lv_at hl 0 rfl) ?_
  refine z_get Z i_X11 hP 0 rfl rfl 2 (by decide) bw_470 rfl dX11_by_3 ?_
  refine z_get Z i_X10 hP 1 rfl rfl 9 (by decide) bw_255 rfl dX11_by_6 ?_
  refine lv_iconst (v := 1) hx hb dX11_by_9 (by decide) ?_
  refine lv_isub hx hb dX11_by_10 ?_
  refine lv_topi (fun z1 ez1 => ?_)
  have hz1 : z1.toInt = tn.toInt - 1 := by rw [ez1]; exact zsubg (by (try simp only [zlt, zle, zeq, zl_0, zl_1, zl_2, zl_3, zl_4, zl_5, zl_6, zl_7, zl_8, zl_9, zl_10, zl_11, zl_12, zl_13, zl_14, zl_15, zl_16, zl_17, zl_18, zl_19, zl_20, zl_21, zl_22, zl_23, zl_24, zl_25, zl_26, zl_27, zl_28, zl_29, zl_30, zl_31, zl_32, zl_33, zl_34, zl_35, zl_36, zl_37, zl_38, zl_39, zl_40, zl_41, zl_42, zl_43, zl_44, zl_45, zl_46, zl_47, zl_48, zl_49, zl_50, zl_51, zl_52, zl_53, zl_54, zl_55, zl_56, zl_57, zl_58, zl_59, zl_60, zl_61, zl_62, zl_63, zl_64, zl_65, zl_82, zl_99, zl_100, zl_160, zl_299, zl_300, zl_301, zl_382, zl_398, zl_399, zl_464, zl_680, zl_862, zl_999, zl_1000, zl_9999, zl_10000, zl_1000000, zl_m1, zl_m2, zl_m3, zl_m8] at hi_tn hi_se hi_tr ⊢); omega) (by (try simp only [zlt, zle, zeq, zl_0, zl_1, zl_2, zl_3, zl_4, zl_5, zl_6, zl_7, zl_8, zl_9, zl_10, zl_11, zl_12, zl_13, zl_14, zl_15, zl_16, zl_17, zl_18, zl_19, zl_20, zl_21, zl_22, zl_23, zl_24, zl_25, zl_26, zl_27, zl_28, zl_29, zl_30, zl_31, zl_32, zl_33, zl_34, zl_35, zl_36, zl_37, zl_38, zl_39, zl_40, zl_41, zl_42, zl_43, zl_44, zl_45, zl_46, zl_47, zl_48, zl_49, zl_50, zl_51, zl_52, zl_53, zl_54, zl_55, zl_56, zl_57, zl_58, zl_59, zl_60, zl_61, zl_62, zl_63, zl_64, zl_65, zl_82, zl_99, zl_100, zl_160, zl_299, zl_300, zl_301, zl_382, zl_398, zl_399, zl_464, zl_680, zl_862, zl_999, zl_1000, zl_9999, zl_10000, zl_1000000, zl_m1, zl_m2, zl_m3, zl_m8] at hi_tn hi_se hi_tr ⊢); omega)
  have hPc := hP.sub2 (wc := []) [] rfl
  have hDc := hD.sub (ws' := []) [] (by decide) rfl
  refine raw_Si (nA := 3) (As := [.int p0, .int (-1), .int z1]) (rest := []) Z hl.1 (c_X11_isWithin l D cI cM cT cJ cZ p0 (-1) z1) (bw_S bw_497 bw_498 bw_80 bw_499) ⟨by decide +kernel, by decide +kernel, by decide +kernel⟩ rfl ⟨Nat.le_of_ble_eq_true rfl, Nat.le_of_ble_eq_true rfl⟩ hPc hDc hS rfl (Nat.le_of_ble_eq_true rfl) dX11_by_11 ⟨Nat.le_of_ble_eq_true rfl, Nat.le_of_ble_eq_true rfl⟩ (fun r3 u2 H1 locs1 h4 hku2 hP1 hD1 hS1 => ?_)
  obtain ⟨hrh4, rfl⟩ := h4
  obtain ⟨hP, hD⟩ := z_join (wr := [(x, .inr (11, [.ref st, .ref dr, .ref nw, .ref kp, .ref rd, .ref tm, .ref co])), (nw, .inr (10, [.ref rO, .ref sT, .ref mA, .ref sB, .ref sA, .ref tH, .ref tF, .ref tS, .int sp, .int tn, .int ru, .int se, .int tr])), (st, .inr (6, [.ref dr, .ref s1, .ref s2, .ref s3, .int ag]))]) Z hS hP hD [] [0, 1, 2] rfl (by decide) rfl (by decide) (by decide) hku2 hP1 hD1
  have hS := hS1
  clear hS1
  generalize H1 = H at hP hS ⊢
  generalize locs1 = locs at hS ⊢
  have hP : va_P D vwCl ([(x, .inr (11, [.ref st, .ref dr, .ref nw, .ref kp, .ref rd, .ref tm, .ref co])), (nw, .inr (10, [.ref rO, .ref sT, .ref mA, .ref sB, .ref sA, .ref tH, .ref tF, .ref tS, .int sp, .int tn, .int ru, .int se, .int tr])), (st, .inr (6, [.ref dr, .ref s1, .ref s2, .ref s3, .int ag]))]) H := hP
  have hD : va_D A ([(x, .inr (11, [.ref st, .ref dr, .ref nw, .ref kp, .ref rd, .ref tm, .ref co])), (nw, .inr (10, [.ref rO, .ref sT, .ref mA, .ref sB, .ref sA, .ref tH, .ref tF, .ref tS, .int sp, .int tn, .int ru, .int se, .int tr])), (st, .inr (6, [.ref dr, .ref s1, .ref s2, .ref s3, .int ag]))]) := hD
  by_cases c5 : (-1) ≤ p0 ∧ p0 ≤ z1
  · obtain rfl : r3 = 1 := by rw [hrh4, if_pos c5]
    refine lv_if_ne (tgt := 19) hx hb dX11_by_14 (by decide) (fun c6 => ?_) (fun h => absurd h (by decide))
    refine lv_aload_n hx hb dX11_by_19 rfl (lv_at hl 0 rfl) ?_
    refine z_get Z i_X11 hP 0 rfl rfl 2 (by decide) bw_470 rfl dX11_by_20 ?_
    refine lv_iload_n hx hb dX11_by_23 rfl (lv_at hl 1 rfl) ?_
    refine z_put Z i_X10 tyX10 tyX10_ok nmX10 hP hD hS 1 rfl rfl 10 (by decide) bw_258 rfl rfl rfl (Nat.le_of_ble_eq_true rfl) dX11_by_24 (fun H locs hP hD hS => ?_)
    have hP : va_P D vwCl ([(x, .inr (11, [.ref st, .ref dr, .ref nw, .ref kp, .ref rd, .ref tm, .ref co])), (nw, .inr (10, [.ref rO, .ref sT, .ref mA, .ref sB, .ref sA, .ref tH, .ref tF, .ref tS, .int sp, .int tn, .int p0, .int se, .int tr])), (st, .inr (6, [.ref dr, .ref s1, .ref s2, .ref s3, .int ag]))]) H := hP
    have hD : va_D A ([(x, .inr (11, [.ref st, .ref dr, .ref nw, .ref kp, .ref rd, .ref tm, .ref co])), (nw, .inr (10, [.ref rO, .ref sT, .ref mA, .ref sB, .ref sA, .ref tH, .ref tF, .ref tS, .int sp, .int tn, .int p0, .int se, .int tr])), (st, .inr (6, [.ref dr, .ref s1, .ref s2, .ref s3, .int ag]))]) := hD
    refine lv_aload_n hx hb dX11_by_27 rfl (lv_at hl 0 rfl) ?_
    refine z_get Z i_X11 hP 0 rfl rfl 0 (by decide) bw_468 rfl dX11_by_28 ?_
    have hPc := hP.sub2 (wc := [(st, .inr (6, [.ref dr, .ref s1, .ref s2, .ref s3, .int ag]))]) [2] rfl
    have hDc := hD.sub (ws' := [(st, .inr (6, [.ref dr, .ref s1, .ref s2, .ref s3, .int ag]))]) [2] (by decide) rfl
    refine raw_Vv (ci := 6) (q0 := 0) (nA := 0) (As := []) (rest := []) Z hl.1 (c_X6_forget l D cI cM cT cJ cZ st dr s1 s2 s3 ag) (bw_V bw_500 bw_501 bw_502 bw_81 bw_503) ⟨by decide +kernel, by decide +kernel, by decide +kernel⟩ rfl ⟨Nat.le_of_ble_eq_true rfl, Nat.le_of_ble_eq_true rfl⟩ rfl rfl rfl hPc hDc hS rfl (Nat.le_of_ble_eq_true rfl) dX11_by_31 ⟨Nat.le_of_ble_eq_true rfl, Nat.le_of_ble_eq_true rfl⟩ (fun u7 H1 locs1 h9 hku7 hP1 hD1 hS1 => ?_)
    obtain ⟨ag_n_10, rfl⟩ := h9
    obtain ⟨hP, hD⟩ := z_join (wr := [(x, .inr (11, [.ref st, .ref dr, .ref nw, .ref kp, .ref rd, .ref tm, .ref co])), (nw, .inr (10, [.ref rO, .ref sT, .ref mA, .ref sB, .ref sA, .ref tH, .ref tF, .ref tS, .int sp, .int tn, .int p0, .int se, .int tr]))]) Z hS hP hD [2] [0, 1] rfl (by decide) rfl (by decide) (by decide) hku7 hP1 hD1
    have hS := hS1
    clear hS1
    generalize H1 = H at hP hS ⊢
    generalize locs1 = locs at hS ⊢
    have hP : va_P D vwCl ([(x, .inr (11, [.ref st, .ref dr, .ref nw, .ref kp, .ref rd, .ref tm, .ref co])), (nw, .inr (10, [.ref rO, .ref sT, .ref mA, .ref sB, .ref sA, .ref tH, .ref tF, .ref tS, .int sp, .int tn, .int p0, .int se, .int tr])), (st, .inr (6, [.ref dr, .ref s1, .ref s2, .ref s3, .int ag_n_10]))]) H := hP
    have hD : va_D A ([(x, .inr (11, [.ref st, .ref dr, .ref nw, .ref kp, .ref rd, .ref tm, .ref co])), (nw, .inr (10, [.ref rO, .ref sT, .ref mA, .ref sB, .ref sA, .ref tH, .ref tF, .ref tS, .int sp, .int tn, .int p0, .int se, .int tr])), (st, .inr (6, [.ref dr, .ref s1, .ref s2, .ref s3, .int ag_n_10]))]) := hD
    refine lv_iconst (v := 1) hx hb dX11_by_34 (by decide) ?_
    exact z_ret Z rfl hP hD hS (⟨p0, ag_n_10, (by decide), rfl, (by (try simp only [zlt, zle, zeq, zl_0, zl_1, zl_2, zl_3, zl_4, zl_5, zl_6, zl_7, zl_8, zl_9, zl_10, zl_11, zl_12, zl_13, zl_14, zl_15, zl_16, zl_17, zl_18, zl_19, zl_20, zl_21, zl_22, zl_23, zl_24, zl_25, zl_26, zl_27, zl_28, zl_29, zl_30, zl_31, zl_32, zl_33, zl_34, zl_35, zl_36, zl_37, zl_38, zl_39, zl_40, zl_41, zl_42, zl_43, zl_44, zl_45, zl_46, zl_47, zl_48, zl_49, zl_50, zl_51, zl_52, zl_53, zl_54, zl_55, zl_56, zl_57, zl_58, zl_59, zl_60, zl_61, zl_62, zl_63, zl_64, zl_65, zl_82, zl_99, zl_100, zl_160, zl_299, zl_300, zl_301, zl_382, zl_398, zl_399, zl_464, zl_680, zl_862, zl_999, zl_1000, zl_9999, zl_10000, zl_1000000, zl_m1, zl_m2, zl_m3, zl_m8, and_true, true_and, and_false, false_and, or_false, false_or, or_true, true_or, not_true_eq_false, not_false_eq_true] at hi_tn hi_se hi_tr hz1 c5 c6 ⊢) <;> omega)⟩) dX11_by_35 (Nat.le_of_ble_eq_true rfl) (Nat.le_of_ble_eq_true rfl)
  · obtain rfl : r3 = 0 := by rw [hrh4, if_neg c5]
    refine lv_if_ne (tgt := 19) hx hb dX11_by_14 (by decide) (fun h => absurd (by decide) h) (fun c11 => ?_)
    refine lv_iconst (v := 0) hx hb dX11_by_17 (by decide) ?_
    exact z_ret Z rfl hP hD hS (⟨ru, ag, (by decide), rfl, (by (try simp only [zlt, zle, zeq, zl_0, zl_1, zl_2, zl_3, zl_4, zl_5, zl_6, zl_7, zl_8, zl_9, zl_10, zl_11, zl_12, zl_13, zl_14, zl_15, zl_16, zl_17, zl_18, zl_19, zl_20, zl_21, zl_22, zl_23, zl_24, zl_25, zl_26, zl_27, zl_28, zl_29, zl_30, zl_31, zl_32, zl_33, zl_34, zl_35, zl_36, zl_37, zl_38, zl_39, zl_40, zl_41, zl_42, zl_43, zl_44, zl_45, zl_46, zl_47, zl_48, zl_49, zl_50, zl_51, zl_52, zl_53, zl_54, zl_55, zl_56, zl_57, zl_58, zl_59, zl_60, zl_61, zl_62, zl_63, zl_64, zl_65, zl_82, zl_99, zl_100, zl_160, zl_299, zl_300, zl_301, zl_382, zl_398, zl_399, zl_464, zl_680, zl_862, zl_999, zl_1000, zl_9999, zl_10000, zl_1000000, zl_m1, zl_m2, zl_m3, zl_m8, and_true, true_and, and_false, false_and, or_false, false_or, or_true, true_or, not_true_eq_false, not_false_eq_true] at hi_tn hi_se hi_tr hz1 c5 c11 ⊢) <;> omega)⟩) dX11_by_18 (Nat.le_of_ble_eq_true rfl) (Nat.le_of_ble_eq_true rfl)
