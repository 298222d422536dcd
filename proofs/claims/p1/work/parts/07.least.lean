theorem dX11_goOnFrom_0 : decode cX11_goOnFrom 0 = .ok (.iconst 0, 1) := by decide +kernel
theorem dX11_goOnFrom_1 : decode cX11_goOnFrom 1 = .ok (.istore_n 2, 1) := by decide +kernel
theorem dX11_goOnFrom_2 : decode cX11_goOnFrom 2 = .ok (.iload_n 2, 1) := by decide +kernel
theorem dX11_goOnFrom_3 : decode cX11_goOnFrom 3 = .ok (.aload_n 0, 1) := by decide +kernel
theorem dX11_goOnFrom_4 : decode cX11_goOnFrom 4 = .ok (.getfield 27, 3) := by decide +kernel
theorem dX11_goOnFrom_7 : decode cX11_goOnFrom 7 = .ok (.getfield 106, 3) := by decide +kernel
theorem dX11_goOnFrom_10 : decode cX11_goOnFrom 10 = .ok (.getfield 110, 3) := by decide +kernel
theorem dX11_goOnFrom_13 : decode cX11_goOnFrom 13 = .ok (.if_icmp .ge 81, 3) := by decide +kernel
theorem dX11_goOnFrom_16 : decode cX11_goOnFrom 16 = .ok (.aload_n 0, 1) := by decide +kernel
theorem dX11_goOnFrom_17 : decode cX11_goOnFrom 17 = .ok (.getfield 10, 3) := by decide +kernel
theorem dX11_goOnFrom_20 : decode cX11_goOnFrom 20 = .ok (.iload_n 2, 1) := by decide +kernel
theorem dX11_goOnFrom_21 : decode cX11_goOnFrom 21 = .ok (.iload_n 1, 1) := by decide +kernel
theorem dX11_goOnFrom_22 : decode cX11_goOnFrom 22 = .ok (.invokevirtual 181, 3) := by decide +kernel
theorem dX11_goOnFrom_25 : decode cX11_goOnFrom 25 = .ok (.istore_n 3, 1) := by decide +kernel
theorem dX11_goOnFrom_26 : decode cX11_goOnFrom 26 = .ok (.aload_n 0, 1) := by decide +kernel
theorem dX11_goOnFrom_27 : decode cX11_goOnFrom 27 = .ok (.getfield 10, 3) := by decide +kernel
theorem dX11_goOnFrom_30 : decode cX11_goOnFrom 30 = .ok (.getfield 185, 3) := by decide +kernel
theorem dX11_goOnFrom_33 : decode cX11_goOnFrom 33 = .ok (.iload_n 3, 1) := by decide +kernel
theorem dX11_goOnFrom_34 : decode cX11_goOnFrom 34 = .ok (.iaload, 1) := by decide +kernel
theorem dX11_goOnFrom_35 : decode cX11_goOnFrom 35 = .ok (.istore 4, 2) := by decide +kernel
theorem dX11_goOnFrom_37 : decode cX11_goOnFrom 37 = .ok (.aload_n 0, 1) := by decide +kernel
theorem dX11_goOnFrom_38 : decode cX11_goOnFrom 38 = .ok (.getfield 50, 3) := by decide +kernel
theorem dX11_goOnFrom_41 : decode cX11_goOnFrom 41 = .ok (.iload_n 1, 1) := by decide +kernel
theorem dX11_goOnFrom_42 : decode cX11_goOnFrom 42 = .ok (.iaload, 1) := by decide +kernel
theorem dX11_goOnFrom_43 : decode cX11_goOnFrom 43 = .ok (.aload_n 0, 1) := by decide +kernel
theorem dX11_goOnFrom_44 : decode cX11_goOnFrom 44 = .ok (.getfield 10, 3) := by decide +kernel
theorem dX11_goOnFrom_47 : decode cX11_goOnFrom 47 = .ok (.getfield 188, 3) := by decide +kernel
theorem dX11_goOnFrom_50 : decode cX11_goOnFrom 50 = .ok (.iload_n 3, 1) := by decide +kernel
theorem dX11_goOnFrom_51 : decode cX11_goOnFrom 51 = .ok (.iaload, 1) := by decide +kernel
theorem dX11_goOnFrom_52 : decode cX11_goOnFrom 52 = .ok (.sipush 1000, 3) := by decide +kernel
theorem dX11_goOnFrom_55 : decode cX11_goOnFrom 55 = .ok (.imul, 1) := by decide +kernel
theorem dX11_goOnFrom_56 : decode cX11_goOnFrom 56 = .ok (.iadd, 1) := by decide +kernel
theorem dX11_goOnFrom_57 : decode cX11_goOnFrom 57 = .ok (.iconst 1, 1) := by decide +kernel
theorem dX11_goOnFrom_58 : decode cX11_goOnFrom 58 = .ok (.iadd, 1) := by decide +kernel
theorem dX11_goOnFrom_59 : decode cX11_goOnFrom 59 = .ok (.istore 5, 2) := by decide +kernel
theorem dX11_goOnFrom_61 : decode cX11_goOnFrom 61 = .ok (.iload 4, 2) := by decide +kernel
theorem dX11_goOnFrom_63 : decode cX11_goOnFrom 63 = .ok (.iload_n 1, 1) := by decide +kernel
theorem dX11_goOnFrom_64 : decode cX11_goOnFrom 64 = .ok (.if_icmp .le 24, 3) := by decide +kernel
theorem dX11_goOnFrom_67 : decode cX11_goOnFrom 67 = .ok (.iload 5, 2) := by decide +kernel
theorem dX11_goOnFrom_69 : decode cX11_goOnFrom 69 = .ok (.aload_n 0, 1) := by decide +kernel
theorem dX11_goOnFrom_70 : decode cX11_goOnFrom 70 = .ok (.getfield 50, 3) := by decide +kernel
theorem dX11_goOnFrom_73 : decode cX11_goOnFrom 73 = .ok (.iload 4, 2) := by decide +kernel
theorem dX11_goOnFrom_75 : decode cX11_goOnFrom 75 = .ok (.iaload, 1) := by decide +kernel
theorem dX11_goOnFrom_76 : decode cX11_goOnFrom 76 = .ok (.if_icmp .ge 12, 3) := by decide +kernel
theorem dX11_goOnFrom_79 : decode cX11_goOnFrom 79 = .ok (.aload_n 0, 1) := by decide +kernel
theorem dX11_goOnFrom_80 : decode cX11_goOnFrom 80 = .ok (.getfield 50, 3) := by decide +kernel
theorem dX11_goOnFrom_83 : decode cX11_goOnFrom 83 = .ok (.iload 4, 2) := by decide +kernel
theorem dX11_goOnFrom_85 : decode cX11_goOnFrom 85 = .ok (.iload 5, 2) := by decide +kernel
theorem dX11_goOnFrom_87 : decode cX11_goOnFrom 87 = .ok (.iastore, 1) := by decide +kernel
theorem dX11_goOnFrom_88 : decode cX11_goOnFrom 88 = .ok (.iinc 2 1, 3) := by decide +kernel
theorem dX11_goOnFrom_91 : decode cX11_goOnFrom 91 = .ok (.goto (-89), 3) := by decide +kernel
theorem dX11_goOnFrom_94 : decode cX11_goOnFrom 94 = .ok (.return_, 1) := by decide +kernel
theorem dX11_least_0 : decode cX11_least 0 = .ok (.iload_n 1, 1) := by decide +kernel
theorem dX11_least_1 : decode cX11_least 1 = .ok (.invokestatic 54, 3) := by decide +kernel
theorem dX11_least_4 : decode cX11_least 4 = .ok (.ifCond .eq 10, 3) := by decide +kernel
theorem dX11_least_7 : decode cX11_least 7 = .ok (.iload_n 2, 1) := by decide +kernel
theorem dX11_least_8 : decode cX11_least 8 = .ok (.invokestatic 54, 3) := by decide +kernel
theorem dX11_least_11 : decode cX11_least 11 = .ok (.ifCond .ne 5, 3) := by decide +kernel
theorem dX11_least_14 : decode cX11_least 14 = .ok (.iconst (-1), 1) := by decide +kernel
theorem dX11_least_15 : decode cX11_least 15 = .ok (.ireturn, 1) := by decide +kernel
theorem dX11_least_16 : decode cX11_least 16 = .ok (.aload_n 0, 1) := by decide +kernel
theorem dX11_least_17 : decode cX11_least 17 = .ok (.getfield 50, 3) := by decide +kernel
theorem dX11_least_20 : decode cX11_least 20 = .ok (.ldc 228, 2) := by decide +kernel
theorem dX11_least_22 : decode cX11_least 22 = .ok (.invokestatic 229, 3) := by decide +kernel
theorem dX11_least_25 : decode cX11_least 25 = .ok (.aload_n 0, 1) := by decide +kernel
theorem dX11_least_26 : decode cX11_least 26 = .ok (.getfield 50, 3) := by decide +kernel
theorem dX11_least_29 : decode cX11_least 29 = .ok (.iload_n 1, 1) := by decide +kernel
theorem dX11_least_30 : decode cX11_least 30 = .ok (.iconst 0, 1) := by decide +kernel
theorem dX11_least_31 : decode cX11_least 31 = .ok (.iastore, 1) := by decide +kernel
theorem dX11_least_32 : decode cX11_least 32 = .ok (.iload_n 1, 1) := by decide +kernel
theorem dX11_least_33 : decode cX11_least 33 = .ok (.istore 4, 2) := by decide +kernel
theorem dX11_least_35 : decode cX11_least 35 = .ok (.iload 4, 2) := by decide +kernel
theorem dX11_least_37 : decode cX11_least 37 = .ok (.iload_n 2, 1) := by decide +kernel
theorem dX11_least_38 : decode cX11_least 38 = .ok (.if_icmp .ge 27, 3) := by decide +kernel
theorem dX11_least_41 : decode cX11_least 41 = .ok (.aload_n 0, 1) := by decide +kernel
theorem dX11_least_42 : decode cX11_least 42 = .ok (.getfield 50, 3) := by decide +kernel
theorem dX11_least_45 : decode cX11_least 45 = .ok (.iload 4, 2) := by decide +kernel
theorem dX11_least_47 : decode cX11_least 47 = .ok (.iaload, 1) := by decide +kernel
theorem dX11_least_48 : decode cX11_least 48 = .ok (.ldc 228, 2) := by decide +kernel
theorem dX11_least_50 : decode cX11_least 50 = .ok (.if_icmp .eq 9, 3) := by decide +kernel
theorem dX11_least_53 : decode cX11_least 53 = .ok (.aload_n 0, 1) := by decide +kernel
theorem dX11_least_54 : decode cX11_least 54 = .ok (.iload 4, 2) := by decide +kernel
theorem dX11_least_56 : decode cX11_least 56 = .ok (.invokevirtual 235, 3) := by decide +kernel
theorem dX11_least_59 : decode cX11_least 59 = .ok (.iinc 4 1, 3) := by decide +kernel
theorem dX11_least_62 : decode cX11_least 62 = .ok (.goto (-27), 3) := by decide +kernel
theorem dX11_least_65 : decode cX11_least 65 = .ok (.aload_n 0, 1) := by decide +kernel
theorem dX11_least_66 : decode cX11_least 66 = .ok (.getfield 50, 3) := by decide +kernel
theorem dX11_least_69 : decode cX11_least 69 = .ok (.iload_n 2, 1) := by decide +kernel
theorem dX11_least_70 : decode cX11_least 70 = .ok (.iaload, 1) := by decide +kernel
theorem dX11_least_71 : decode cX11_least 71 = .ok (.ldc 228, 2) := by decide +kernel
theorem dX11_least_73 : decode cX11_least 73 = .ok (.if_icmp .ne 5, 3) := by decide +kernel
theorem dX11_least_76 : decode cX11_least 76 = .ok (.iconst (-1), 1) := by decide +kernel
theorem dX11_least_77 : decode cX11_least 77 = .ok (.ireturn, 1) := by decide +kernel
theorem dX11_least_78 : decode cX11_least 78 = .ok (.iload_n 3, 1) := by decide +kernel
theorem dX11_least_79 : decode cX11_least 79 = .ok (.ifCond .eq 16, 3) := by decide +kernel
theorem dX11_least_82 : decode cX11_least 82 = .ok (.aload_n 0, 1) := by decide +kernel
theorem dX11_least_83 : decode cX11_least 83 = .ok (.getfield 50, 3) := by decide +kernel
theorem dX11_least_86 : decode cX11_least 86 = .ok (.iload_n 2, 1) := by decide +kernel
theorem dX11_least_87 : decode cX11_least 87 = .ok (.iaload, 1) := by decide +kernel
theorem dX11_least_88 : decode cX11_least 88 = .ok (.sipush 1000, 3) := by decide +kernel
theorem dX11_least_91 : decode cX11_least 91 = .ok (.irem, 1) := by decide +kernel
theorem dX11_least_92 : decode cX11_least 92 = .ok (.goto 13, 3) := by decide +kernel
theorem dX11_least_95 : decode cX11_least 95 = .ok (.aload_n 0, 1) := by decide +kernel
theorem dX11_least_96 : decode cX11_least 96 = .ok (.getfield 50, 3) := by decide +kernel
theorem dX11_least_99 : decode cX11_least 99 = .ok (.iload_n 2, 1) := by decide +kernel
theorem dX11_least_100 : decode cX11_least 100 = .ok (.iaload, 1) := by decide +kernel
theorem dX11_least_101 : decode cX11_least 101 = .ok (.sipush 1000, 3) := by decide +kernel
theorem dX11_least_104 : decode cX11_least 104 = .ok (.idiv, 1) := by decide +kernel
theorem dX11_least_105 : decode cX11_least 105 = .ok (.ireturn, 1) := by decide +kernel
theorem bw_31 : Cond.selects "CountingHorses" ⟨"CountingHorses", "goOnFrom", "(I)V"⟩ ⟨"CountingHorses", "goOnFrom", "(I)V"⟩ ∈ BW := bw_at 31 (by decide +kernel) (by decide +kernel)
theorem bw_474 : Cond.fieldLink "CountingHorses" 50 "CountingHorses" "costs" "[I" ∈ BW := bw_at 474 (by decide +kernel) (by decide +kernel)
theorem bw_926 : Cond.constant "CountingHorses" 228 2000000000 ∈ BW := bw_at 926 (by decide +kernel) (by decide +kernel)
theorem bw_927 : Cond.methodLink "CountingHorses" 229 ⟨"java/util/Arrays", "fill", "([II)V"⟩ ∈ BW := bw_at 927 (by decide +kernel) (by decide +kernel)
theorem bw_928 : Cond.methodLink "CountingHorses" 235 ⟨"CountingHorses", "goOnFrom", "(I)V"⟩ ∈ BW := bw_at 928 (by decide +kernel) (by decide +kernel)
theorem bw_930 : Cond.instanceMethod ⟨"CountingHorses", "goOnFrom", "(I)V"⟩ ∈ BW := bw_at 930 (by decide +kernel) (by decide +kernel)
theorem bw_931 : Cond.code ⟨"CountingHorses", "goOnFrom", "(I)V"⟩ prog_1_method_37_code 6 none ∈ BW := bw_at 931 (by decide +kernel) (by decide +kernel)
set_option maxHeartbeats 4000000 in
set_option maxRecDepth 100000 in
theorem c_X11_goOnFrom (l : Launch) (D : va_G) (cI cM cT : ClassId) (x : Nat) (st : Nat) (dr : Nat) (nw : Nat) (kp : Nat) (rd : Nat) (tm : Nat) (co : Nat) (rO : Nat) (sT : Nat) (mA : Nat) (sB : Nat) (sA : Nat) (tH : Nat) (tF : Nat) (tS : Nat) (cO : Nat) (sH : Nat) (p0 : Int32) : Cv l D (ty3 cI cM cT) yX11_goOnFrom cX11_goOnFrom 6 1 0 0 [.ref x, .int p0] ([(x, .inr (11, [.ref st, .ref dr, .ref nw, .ref kp, .ref rd, .ref tm, .ref co])), (nw, .inr (10, [.ref rO, .ref sT, .ref mA, .ref sB, .ref sA, .ref tH, .ref tF, .ref tS, .int 0, .int 0, .int (-1), .int 0, .int 0])), (sT, .inr (4, [.ref cO, .ref sH, .int 0]))]) (fun u => u = [(x, .inr (11, [.ref st, .ref dr, .ref nw, .ref kp, .ref rd, .ref tm, .ref co])), (nw, .inr (10, [.ref rO, .ref sT, .ref mA, .ref sB, .ref sA, .ref tH, .ref tF, .ref tS, .int 0, .int 0, .int (-1), .int 0, .int 0])), (sT, .inr (4, [.ref cO, .ref sH, .int 0]))]) := by
  refine Cv.of (by decide +kernel) (Nat.le_of_ble_eq_true rfl) ?_
  intro p e s m below meth c A ls Z hin hP hD hl
  have hx := Z.1
  have hb := Z.2.1
  have hS : va_S A s.heap s.heap [] := va_S.rf
  have hl : lv_has ls 6 [(0, .ref x), (1, .int p0)] := hl
  skip
  refine lv_iconst (v := 0) hx hb dX11_goOnFrom_0 (by decide) ?_
  refine lv_istore_n (lv' := [(2, .int 0), (0, .ref x), (1, .int p0)]) hx hb dX11_goOnFrom_1 rfl hl (by decide) rfl (fun ls hl => ?_)
  refine lv_iload_n hx hb dX11_goOnFrom_2 rfl (lv_at hl 0 rfl) ?_
  refine lv_aload_n hx hb dX11_goOnFrom_3 rfl (lv_at hl 1 rfl) ?_
  refine z_get Z i_X11 hP 0 rfl rfl 2 (by decide) bw_470 rfl dX11_goOnFrom_4 ?_
  refine z_get Z i_X10 hP 1 rfl rfl 1 (by decide) bw_237 rfl dX11_goOnFrom_7 ?_
  refine z_get Z i_X4 hP 2 rfl rfl 2 (by decide) bw_167 rfl dX11_goOnFrom_10 ?_
  refine lv_icmp_ge (tgt := 94) hx hb dX11_goOnFrom_13 (by decide) (fun c1 => ?_) (fun h => absurd (by decide) h)
  exact z_vret Z hP hD hS (rfl) dX11_goOnFrom_94 (Nat.le_of_ble_eq_true rfl) (Nat.le_of_ble_eq_true rfl)
set_option maxHeartbeats 4000000 in
set_option maxRecDepth 100000 in
theorem lp_X11_least {p : Program} (l : Launch) {e : Env} {s : State} {m : MethodId} {below : List Frame} {meth : Method} {c : Code} {A : Nat → Prop} (D : va_G) (cI cM cT : ClassId) (x : Nat) (st : Nat) (dr : Nat) (nw : Nat) (kp : Nat) (rd : Nat) (tm : Nat) (co : Nat) (rO : Nat) (sT : Nat) (mA : Nat) (sB : Nat) (sA : Nat) (tH : Nat) (tF : Nat) (tS : Nat) (cO : Nat) (sH : Nat) (p0 : Int32) (p1 : Int32) (p2 : Int32) (Z : Zx p s m ([.ref x, .int p0, .int p1, .int p2] : List Value).toArray meth c cX11_least 5 (some .int) yX11_least.cls A (ty3 cI cM cT) D) (f9 : Nat → Int32) (hfa : ∀ j, j < 300 → j ≠ (p0 : Int32).toNatClampNeg → f9 j = 2000000000) (hfb : f9 (p0 : Int32).toNatClampNeg = 0) (hc : (0 ≤ p0 ∧ p0 < 300) ∧ (0 ≤ p1 ∧ p1 < 300)) : ∀ (n0 : Nat) (i : Int32) (h0 : 0 ≤ i.toInt) (h1 : i.toInt ≤ 300), (300 - i.toInt).toNat < n0 → ∀ (H : Heap) (locs : List Loc) (ls : Array Slot), va_P D vwCl ([(x, .inr (11, [.ref st, .ref dr, .ref nw, .ref kp, .ref rd, .ref tm, .ref co])), (nw, .inr (10, [.ref rO, .ref sT, .ref mA, .ref sB, .ref sA, .ref tH, .ref tF, .ref tS, .int 0, .int 0, .int (-1), .int 0, .int 0])), (sT, .inr (4, [.ref cO, .ref sH, .int 0])), (co, .inl (cI, 300, .inl f9))]) H → va_D A ([(x, .inr (11, [.ref st, .ref dr, .ref nw, .ref kp, .ref rd, .ref tm, .ref co])), (nw, .inr (10, [.ref rO, .ref sT, .ref mA, .ref sB, .ref sA, .ref tH, .ref tF, .ref tS, .int 0, .int 0, .int (-1), .int 0, .int 0])), (sT, .inr (4, [.ref cO, .ref sH, .int 0])), (co, .inl (cI, 300, .inl f9))]) → va_S A s.heap H locs → lv_has ls 5 [(0, .ref x), (1, .int p0), (2, .int p1), (3, .int p2), (4, .int i)] → W p l e (rmv 3 0 0) s m ([.ref x, .int p0, .int p1, .int p2] : List Value).toArray below meth c H locs 0 0 (MQ below (va_Qi (fun r u => r = (if (0 ≤ p0 ∧ p0 < 300) ∧ (0 ≤ p1 ∧ p1 < 300) ∧ p0 = p1 then 0 else (-1))) (cB D (ty3 cI cM cT) A) A) ([.ref x, .int p0, .int p1, .int p2] : List Value).toArray s 0 0 A) (F0 m 35 ls []) := by
  have hx := Z.1
  have hb := Z.2.1
  intro n0
  induction n0 with
  | zero => intro i h0 h1 hm; exact absurd hm (Nat.not_lt_zero _)
  | succ n0 ih =>
    intro i h0 h1 hm H locs ls hP hD hS hl
    refine lv_iload hx hb dX11_least_35 (lv_at hl 4 rfl) ?_
    refine lv_iload_n hx hb dX11_least_37 rfl (lv_at hl 2 rfl) ?_
    refine lv_icmp_ge (tgt := 65) hx hb dX11_least_38 (by decide) (fun c1 => ?_) (fun c1 => ?_)
    · by_cases ce : p0 = p1
      · have hv : f9 (p1 : Int32).toNatClampNeg = 0 := by rw [← ce]; exact hfb
        refine lv_aload_n hx hb dX11_least_65 rfl (lv_at hl 0 rfl) ?_
        refine z_get Z i_X11 hP 0 rfl rfl 6 (by decide) bw_474 rfl dX11_least_66 ?_
        refine lv_iload_n hx hb dX11_least_69 rfl (lv_at hl 2 rfl) ?_
        refine z_iald Z hP 3 0 rfl rfl (vp_in_iff.mpr (by (try simp only [zlt, zle, zeq, zl_0, zl_1, zl_2, zl_3, zl_4, zl_5, zl_6, zl_7, zl_8, zl_9, zl_10, zl_11, zl_12, zl_13, zl_19, zl_20, zl_30, zl_64, zl_99, zl_100, zl_299, zl_300, zl_399, zl_999, zl_9999, zl_m1, zl_m2, zl_m3, zl_32, zl_280] at hc h0 h1 hm c1 ce ⊢); omega)) dX11_least_70 ?_
        refine z_topi (y := 0) hv ?_
        refine lv_ldc (v := 2000000000) hx hb Z.2.2.2.1 (Z.2.2.2.2.1 _ bw_926) dX11_least_71 ?_
        refine lv_icmp_ne (tgt := 78) hx hb dX11_least_73 (by decide) (fun c2 => ?_) (fun h => absurd h (by decide))
        refine lv_iload_n hx hb dX11_least_78 rfl (lv_at hl 3 rfl) ?_
        refine lv_if_eq (tgt := 95) hx hb dX11_least_79 (by decide) (fun c3 => ?_) (fun c3 => ?_)
        · refine lv_aload_n hx hb dX11_least_95 rfl (lv_at hl 0 rfl) ?_
          refine z_get Z i_X11 hP 0 rfl rfl 6 (by decide) bw_474 rfl dX11_least_96 ?_
          refine lv_iload_n hx hb dX11_least_99 rfl (lv_at hl 2 rfl) ?_
          refine z_iald Z hP 3 0 rfl rfl (vp_in_iff.mpr (by (try simp only [zlt, zle, zeq, zl_0, zl_1, zl_2, zl_3, zl_4, zl_5, zl_6, zl_7, zl_8, zl_9, zl_10, zl_11, zl_12, zl_13, zl_19, zl_20, zl_30, zl_64, zl_99, zl_100, zl_299, zl_300, zl_399, zl_999, zl_9999, zl_m1, zl_m2, zl_m3, zl_32, zl_280] at hc h0 h1 hm c1 ce c2 c3 ⊢); omega)) dX11_least_100 ?_
          refine z_topi (y := 0) hv ?_
          refine lv_sipush (v := 1000) hx hb dX11_least_101 (by decide) ?_
          refine lv_idiv hx hb dX11_least_104 (by decide) ?_
          refine z_topi (y := 0) (by decide) ?_
          exact z_ret Z rfl hP hD hS ((by first | rfl | assumption | (rw [if_pos (by (try simp only [zlt, zle, zeq, zl_0, zl_1, zl_2, zl_3, zl_4, zl_5, zl_6, zl_7, zl_8, zl_9, zl_10, zl_11, zl_12, zl_13, zl_19, zl_20, zl_30, zl_64, zl_99, zl_100, zl_299, zl_300, zl_399, zl_999, zl_9999, zl_m1, zl_m2, zl_m3, zl_32, zl_280] at hc h0 h1 hm c1 ce c2 c3 ⊢); omega)]; first | done | ((try simp only [zlt, zle, zeq, zl_0, zl_1, zl_2, zl_3, zl_4, zl_5, zl_6, zl_7, zl_8, zl_9, zl_10, zl_11, zl_12, zl_13, zl_19, zl_20, zl_30, zl_64, zl_99, zl_100, zl_299, zl_300, zl_399, zl_999, zl_9999, zl_m1, zl_m2, zl_m3, zl_32, zl_280] at hc h0 h1 hm c1 ce c2 c3 ⊢); omega)) | (rw [if_neg (by (try simp only [zlt, zle, zeq, zl_0, zl_1, zl_2, zl_3, zl_4, zl_5, zl_6, zl_7, zl_8, zl_9, zl_10, zl_11, zl_12, zl_13, zl_19, zl_20, zl_30, zl_64, zl_99, zl_100, zl_299, zl_300, zl_399, zl_999, zl_9999, zl_m1, zl_m2, zl_m3, zl_32, zl_280] at hc h0 h1 hm c1 ce c2 c3 ⊢); omega)]; first | done | ((try simp only [zlt, zle, zeq, zl_0, zl_1, zl_2, zl_3, zl_4, zl_5, zl_6, zl_7, zl_8, zl_9, zl_10, zl_11, zl_12, zl_13, zl_19, zl_20, zl_30, zl_64, zl_99, zl_100, zl_299, zl_300, zl_399, zl_999, zl_9999, zl_m1, zl_m2, zl_m3, zl_32, zl_280] at hc h0 h1 hm c1 ce c2 c3 ⊢); omega)))) dX11_least_105 (Nat.le_of_ble_eq_true rfl) (Nat.le_of_ble_eq_true rfl)
        · refine lv_aload_n hx hb dX11_least_82 rfl (lv_at hl 0 rfl) ?_
          refine z_get Z i_X11 hP 0 rfl rfl 6 (by decide) bw_474 rfl dX11_least_83 ?_
          refine lv_iload_n hx hb dX11_least_86 rfl (lv_at hl 2 rfl) ?_
          refine z_iald Z hP 3 0 rfl rfl (vp_in_iff.mpr (by (try simp only [zlt, zle, zeq, zl_0, zl_1, zl_2, zl_3, zl_4, zl_5, zl_6, zl_7, zl_8, zl_9, zl_10, zl_11, zl_12, zl_13, zl_19, zl_20, zl_30, zl_64, zl_99, zl_100, zl_299, zl_300, zl_399, zl_999, zl_9999, zl_m1, zl_m2, zl_m3, zl_32, zl_280] at hc h0 h1 hm c1 ce c2 c3 ⊢); omega)) dX11_least_87 ?_
          refine z_topi (y := 0) hv ?_
          refine lv_sipush (v := 1000) hx hb dX11_least_88 (by decide) ?_
          refine lv_irem hx hb dX11_least_91 (by decide) ?_
          refine z_topi (y := 0) (by decide) ?_
          refine lv_goto (tgt := 105) hx hb dX11_least_92 (by decide) ?_
          exact z_ret Z rfl hP hD hS ((by first | rfl | assumption | (rw [if_pos (by (try simp only [zlt, zle, zeq, zl_0, zl_1, zl_2, zl_3, zl_4, zl_5, zl_6, zl_7, zl_8, zl_9, zl_10, zl_11, zl_12, zl_13, zl_19, zl_20, zl_30, zl_64, zl_99, zl_100, zl_299, zl_300, zl_399, zl_999, zl_9999, zl_m1, zl_m2, zl_m3, zl_32, zl_280] at hc h0 h1 hm c1 ce c2 c3 ⊢); omega)]; first | done | ((try simp only [zlt, zle, zeq, zl_0, zl_1, zl_2, zl_3, zl_4, zl_5, zl_6, zl_7, zl_8, zl_9, zl_10, zl_11, zl_12, zl_13, zl_19, zl_20, zl_30, zl_64, zl_99, zl_100, zl_299, zl_300, zl_399, zl_999, zl_9999, zl_m1, zl_m2, zl_m3, zl_32, zl_280] at hc h0 h1 hm c1 ce c2 c3 ⊢); omega)) | (rw [if_neg (by (try simp only [zlt, zle, zeq, zl_0, zl_1, zl_2, zl_3, zl_4, zl_5, zl_6, zl_7, zl_8, zl_9, zl_10, zl_11, zl_12, zl_13, zl_19, zl_20, zl_30, zl_64, zl_99, zl_100, zl_299, zl_300, zl_399, zl_999, zl_9999, zl_m1, zl_m2, zl_m3, zl_32, zl_280] at hc h0 h1 hm c1 ce c2 c3 ⊢); omega)]; first | done | ((try simp only [zlt, zle, zeq, zl_0, zl_1, zl_2, zl_3, zl_4, zl_5, zl_6, zl_7, zl_8, zl_9, zl_10, zl_11, zl_12, zl_13, zl_19, zl_20, zl_30, zl_64, zl_99, zl_100, zl_299, zl_300, zl_399, zl_999, zl_9999, zl_m1, zl_m2, zl_m3, zl_32, zl_280] at hc h0 h1 hm c1 ce c2 c3 ⊢); omega)))) dX11_least_105 (Nat.le_of_ble_eq_true rfl) (Nat.le_of_ble_eq_true rfl)
      · have hv : f9 (p1 : Int32).toNatClampNeg = 2000000000 := hfa _ (zclt (by (try simp only [zlt, zle, zeq, zl_0, zl_1, zl_2, zl_3, zl_4, zl_5, zl_6, zl_7, zl_8, zl_9, zl_10, zl_11, zl_12, zl_13, zl_19, zl_20, zl_30, zl_64, zl_99, zl_100, zl_299, zl_300, zl_399, zl_999, zl_9999, zl_m1, zl_m2, zl_m3, zl_32, zl_280] at hc h0 h1 hm c1 ce ⊢); omega) (by (try simp only [zlt, zle, zeq, zl_0, zl_1, zl_2, zl_3, zl_4, zl_5, zl_6, zl_7, zl_8, zl_9, zl_10, zl_11, zl_12, zl_13, zl_19, zl_20, zl_30, zl_64, zl_99, zl_100, zl_299, zl_300, zl_399, zl_999, zl_9999, zl_m1, zl_m2, zl_m3, zl_32, zl_280] at hc h0 h1 hm c1 ce ⊢); omega)) (fun h => ce (zcinj (by (try simp only [zlt, zle, zeq, zl_0, zl_1, zl_2, zl_3, zl_4, zl_5, zl_6, zl_7, zl_8, zl_9, zl_10, zl_11, zl_12, zl_13, zl_19, zl_20, zl_30, zl_64, zl_99, zl_100, zl_299, zl_300, zl_399, zl_999, zl_9999, zl_m1, zl_m2, zl_m3, zl_32, zl_280] at hc h0 h1 hm c1 ce ⊢); omega) (by (try simp only [zlt, zle, zeq, zl_0, zl_1, zl_2, zl_3, zl_4, zl_5, zl_6, zl_7, zl_8, zl_9, zl_10, zl_11, zl_12, zl_13, zl_19, zl_20, zl_30, zl_64, zl_99, zl_100, zl_299, zl_300, zl_399, zl_999, zl_9999, zl_m1, zl_m2, zl_m3, zl_32, zl_280] at hc h0 h1 hm c1 ce ⊢); omega) h).symm)
        refine lv_aload_n hx hb dX11_least_65 rfl (lv_at hl 0 rfl) ?_
        refine z_get Z i_X11 hP 0 rfl rfl 6 (by decide) bw_474 rfl dX11_least_66 ?_
        refine lv_iload_n hx hb dX11_least_69 rfl (lv_at hl 2 rfl) ?_
        refine z_iald Z hP 3 0 rfl rfl (vp_in_iff.mpr (by (try simp only [zlt, zle, zeq, zl_0, zl_1, zl_2, zl_3, zl_4, zl_5, zl_6, zl_7, zl_8, zl_9, zl_10, zl_11, zl_12, zl_13, zl_19, zl_20, zl_30, zl_64, zl_99, zl_100, zl_299, zl_300, zl_399, zl_999, zl_9999, zl_m1, zl_m2, zl_m3, zl_32, zl_280] at hc h0 h1 hm c1 ce ⊢); omega)) dX11_least_70 ?_
        refine z_topi (y := 2000000000) hv ?_
        refine lv_ldc (v := 2000000000) hx hb Z.2.2.2.1 (Z.2.2.2.2.1 _ bw_926) dX11_least_71 ?_
        refine lv_icmp_ne (tgt := 78) hx hb dX11_least_73 (by decide) (fun h => absurd (by decide) h) (fun c4 => ?_)
        refine lv_iconst (v := (-1)) hx hb dX11_least_76 (by decide) ?_
        exact z_ret Z rfl hP hD hS ((by first | rfl | assumption | (rw [if_pos (by (try simp only [zlt, zle, zeq, zl_0, zl_1, zl_2, zl_3, zl_4, zl_5, zl_6, zl_7, zl_8, zl_9, zl_10, zl_11, zl_12, zl_13, zl_19, zl_20, zl_30, zl_64, zl_99, zl_100, zl_299, zl_300, zl_399, zl_999, zl_9999, zl_m1, zl_m2, zl_m3, zl_32, zl_280] at hc h0 h1 hm c1 ce c4 ⊢); omega)]; first | done | ((try simp only [zlt, zle, zeq, zl_0, zl_1, zl_2, zl_3, zl_4, zl_5, zl_6, zl_7, zl_8, zl_9, zl_10, zl_11, zl_12, zl_13, zl_19, zl_20, zl_30, zl_64, zl_99, zl_100, zl_299, zl_300, zl_399, zl_999, zl_9999, zl_m1, zl_m2, zl_m3, zl_32, zl_280] at hc h0 h1 hm c1 ce c4 ⊢); omega)) | (rw [if_neg (by (try simp only [zlt, zle, zeq, zl_0, zl_1, zl_2, zl_3, zl_4, zl_5, zl_6, zl_7, zl_8, zl_9, zl_10, zl_11, zl_12, zl_13, zl_19, zl_20, zl_30, zl_64, zl_99, zl_100, zl_299, zl_300, zl_399, zl_999, zl_9999, zl_m1, zl_m2, zl_m3, zl_32, zl_280] at hc h0 h1 hm c1 ce c4 ⊢); omega)]; first | done | ((try simp only [zlt, zle, zeq, zl_0, zl_1, zl_2, zl_3, zl_4, zl_5, zl_6, zl_7, zl_8, zl_9, zl_10, zl_11, zl_12, zl_13, zl_19, zl_20, zl_30, zl_64, zl_99, zl_100, zl_299, zl_300, zl_399, zl_999, zl_9999, zl_m1, zl_m2, zl_m3, zl_32, zl_280] at hc h0 h1 hm c1 ce c4 ⊢); omega)))) dX11_least_77 (Nat.le_of_ble_eq_true rfl) (Nat.le_of_ble_eq_true rfl)
    · refine lv_aload_n hx hb dX11_least_41 rfl (lv_at hl 0 rfl) ?_
      refine z_get Z i_X11 hP 0 rfl rfl 6 (by decide) bw_474 rfl dX11_least_42 ?_
      refine lv_iload hx hb dX11_least_45 (lv_at hl 4 rfl) ?_
      refine z_iald Z hP 3 0 rfl rfl (vp_in_iff.mpr (by (try simp only [zlt, zle, zeq, zl_0, zl_1, zl_2, zl_3, zl_4, zl_5, zl_6, zl_7, zl_8, zl_9, zl_10, zl_11, zl_12, zl_13, zl_19, zl_20, zl_30, zl_64, zl_99, zl_100, zl_299, zl_300, zl_399, zl_999, zl_9999, zl_m1, zl_m2, zl_m3, zl_32, zl_280] at hc h0 h1 hm c1 ⊢); omega)) dX11_least_47 ?_
      refine lv_topi (fun z5 ez5 => ?_)
      refine lv_ldc (v := 2000000000) hx hb Z.2.2.2.1 (Z.2.2.2.2.1 _ bw_926) dX11_least_48 ?_
      refine lv_icmp_eq (tgt := 59) hx hb dX11_least_50 (by decide) (fun c6 => ?_) (fun c6 => ?_)
      · refine lv_iinc (v := (i + 1)) (lv' := [(4, .int (i + 1)), (0, .ref x), (1, .int p0), (2, .int p1), (3, .int p2)]) hx hb dX11_least_59 hl (k := 4) rfl (by rfl) (by decide) rfl (fun ls hl => ?_)
        refine lv_goto (tgt := 35) hx hb dX11_least_62 (by decide) ?_
        have e9 : (i + 1).toInt = i.toInt + 1 := zinc (by (try simp only [zlt, zle, zeq, zl_0, zl_1, zl_2, zl_3, zl_4, zl_5, zl_6, zl_7, zl_8, zl_9, zl_10, zl_11, zl_12, zl_13, zl_19, zl_20, zl_30, zl_64, zl_99, zl_100, zl_299, zl_300, zl_399, zl_999, zl_9999, zl_m1, zl_m2, zl_m3, zl_32, zl_280] at hc h0 h1 hm c1 c6 ⊢); omega)
        exact ih (i + 1) (by (try simp only [zlt, zle, zeq, zl_0, zl_1, zl_2, zl_3, zl_4, zl_5, zl_6, zl_7, zl_8, zl_9, zl_10, zl_11, zl_12, zl_13, zl_19, zl_20, zl_30, zl_64, zl_99, zl_100, zl_299, zl_300, zl_399, zl_999, zl_9999, zl_m1, zl_m2, zl_m3, zl_32, zl_280] at hc h0 h1 hm c1 c6 e9 ⊢); omega) (by (try simp only [zlt, zle, zeq, zl_0, zl_1, zl_2, zl_3, zl_4, zl_5, zl_6, zl_7, zl_8, zl_9, zl_10, zl_11, zl_12, zl_13, zl_19, zl_20, zl_30, zl_64, zl_99, zl_100, zl_299, zl_300, zl_399, zl_999, zl_9999, zl_m1, zl_m2, zl_m3, zl_32, zl_280] at hc h0 h1 hm c1 c6 e9 ⊢); omega) (by (try simp only [zlt, zle, zeq, zl_0, zl_1, zl_2, zl_3, zl_4, zl_5, zl_6, zl_7, zl_8, zl_9, zl_10, zl_11, zl_12, zl_13, zl_19, zl_20, zl_30, zl_64, zl_99, zl_100, zl_299, zl_300, zl_399, zl_999, zl_9999, zl_m1, zl_m2, zl_m3, zl_32, zl_280] at hc h0 h1 hm c1 c6 e9 ⊢); omega) _ _ _ hP hD hS (lv_sub hl [1, 2, 3, 4, 0] rfl)
      · refine lv_aload_n hx hb dX11_least_53 rfl (lv_at hl 0 rfl) ?_
        refine lv_iload hx hb dX11_least_54 (lv_at hl 4 rfl) ?_
        have hPc := hP.sub2 (wc := [(x, .inr (11, [.ref st, .ref dr, .ref nw, .ref kp, .ref rd, .ref tm, .ref co])), (nw, .inr (10, [.ref rO, .ref sT, .ref mA, .ref sB, .ref sA, .ref tH, .ref tF, .ref tS, .int 0, .int 0, .int (-1), .int 0, .int 0])), (sT, .inr (4, [.ref cO, .ref sH, .int 0]))]) [0, 1, 2] rfl
        have hDc := hD.sub (ws' := [(x, .inr (11, [.ref st, .ref dr, .ref nw, .ref kp, .ref rd, .ref tm, .ref co])), (nw, .inr (10, [.ref rO, .ref sT, .ref mA, .ref sB, .ref sA, .ref tH, .ref tF, .ref tS, .int 0, .int 0, .int (-1), .int 0, .int 0])), (sT, .inr (4, [.ref cO, .ref sH, .int 0]))]) [0, 1, 2] (by decide) rfl
        refine raw_Vv (ci := 11) (q0 := 0) (nA := 1) (As := [.int i]) (rest := []) Z hl.1 (c_X11_goOnFrom l D cI cM cT x st dr nw kp rd tm co rO sT mA sB sA tH tF tS cO sH i) (bw_V bw_928 bw_930 bw_31 bw_80 bw_931) ⟨by decide +kernel, by decide +kernel, by decide +kernel⟩ rfl ⟨Nat.le_of_ble_eq_true rfl, Nat.le_of_ble_eq_true rfl⟩ rfl rfl rfl hPc hDc hS rfl (Nat.le_of_ble_eq_true rfl) dX11_least_56 ⟨Nat.le_of_ble_eq_true rfl, Nat.le_of_ble_eq_true rfl⟩ (fun u7 H1 locs1 h9 hku7 hP1 hD1 hS1 => ?_)
        obtain rfl := h9
        obtain ⟨hP, hD⟩ := z_join (wr := [(co, .inl (cI, 300, .inl f9))]) Z hS hP hD [0, 1, 2] [3] rfl (by decide) rfl (by decide) (by decide) hku7 hP1 hD1
        have hS := hS1
        clear hS1
        generalize H1 = H at hP hS ⊢
        generalize locs1 = locs at hS ⊢
        have hP : va_P D vwCl ([(co, .inl (cI, 300, .inl f9)), (x, .inr (11, [.ref st, .ref dr, .ref nw, .ref kp, .ref rd, .ref tm, .ref co])), (nw, .inr (10, [.ref rO, .ref sT, .ref mA, .ref sB, .ref sA, .ref tH, .ref tF, .ref tS, .int 0, .int 0, .int (-1), .int 0, .int 0])), (sT, .inr (4, [.ref cO, .ref sH, .int 0]))]) H := hP
        have hD : va_D A ([(co, .inl (cI, 300, .inl f9)), (x, .inr (11, [.ref st, .ref dr, .ref nw, .ref kp, .ref rd, .ref tm, .ref co])), (nw, .inr (10, [.ref rO, .ref sT, .ref mA, .ref sB, .ref sA, .ref tH, .ref tF, .ref tS, .int 0, .int 0, .int (-1), .int 0, .int 0])), (sT, .inr (4, [.ref cO, .ref sH, .int 0]))]) := hD
        refine lv_iinc (v := (i + 1)) (lv' := [(4, .int (i + 1)), (0, .ref x), (1, .int p0), (2, .int p1), (3, .int p2)]) hx hb dX11_least_59 hl (k := 4) rfl (by rfl) (by decide) rfl (fun ls hl => ?_)
        refine lv_goto (tgt := 35) hx hb dX11_least_62 (by decide) ?_
        have e9 : (i + 1).toInt = i.toInt + 1 := zinc (by (try simp only [zlt, zle, zeq, zl_0, zl_1, zl_2, zl_3, zl_4, zl_5, zl_6, zl_7, zl_8, zl_9, zl_10, zl_11, zl_12, zl_13, zl_19, zl_20, zl_30, zl_64, zl_99, zl_100, zl_299, zl_300, zl_399, zl_999, zl_9999, zl_m1, zl_m2, zl_m3, zl_32, zl_280] at hc h0 h1 hm c1 c6 ⊢); omega)
        exact ih (i + 1) (by (try simp only [zlt, zle, zeq, zl_0, zl_1, zl_2, zl_3, zl_4, zl_5, zl_6, zl_7, zl_8, zl_9, zl_10, zl_11, zl_12, zl_13, zl_19, zl_20, zl_30, zl_64, zl_99, zl_100, zl_299, zl_300, zl_399, zl_999, zl_9999, zl_m1, zl_m2, zl_m3, zl_32, zl_280] at hc h0 h1 hm c1 c6 e9 ⊢); omega) (by (try simp only [zlt, zle, zeq, zl_0, zl_1, zl_2, zl_3, zl_4, zl_5, zl_6, zl_7, zl_8, zl_9, zl_10, zl_11, zl_12, zl_13, zl_19, zl_20, zl_30, zl_64, zl_99, zl_100, zl_299, zl_300, zl_399, zl_999, zl_9999, zl_m1, zl_m2, zl_m3, zl_32, zl_280] at hc h0 h1 hm c1 c6 e9 ⊢); omega) (by (try simp only [zlt, zle, zeq, zl_0, zl_1, zl_2, zl_3, zl_4, zl_5, zl_6, zl_7, zl_8, zl_9, zl_10, zl_11, zl_12, zl_13, zl_19, zl_20, zl_30, zl_64, zl_99, zl_100, zl_299, zl_300, zl_399, zl_999, zl_9999, zl_m1, zl_m2, zl_m3, zl_32, zl_280] at hc h0 h1 hm c1 c6 e9 ⊢); omega) _ _ _ (hP.sub2 [1, 2, 3, 0] rfl) (hD.sub [1, 2, 3, 0] (by decide) rfl) hS (lv_sub hl [1, 2, 3, 4, 0] rfl)
set_option maxHeartbeats 4000000 in
set_option maxRecDepth 100000 in
theorem c_X11_least (l : Launch) (D : va_G) (cI cM cT : ClassId) (x : Nat) (st : Nat) (dr : Nat) (nw : Nat) (kp : Nat) (rd : Nat) (tm : Nat) (co : Nat) (rO : Nat) (sT : Nat) (mA : Nat) (sB : Nat) (sA : Nat) (tH : Nat) (tF : Nat) (tS : Nat) (cO : Nat) (sH : Nat) (p0 : Int32) (p1 : Int32) (p2 : Int32) : Ci l D (ty3 cI cM cT) yX11_least cX11_least 5 (some .int) 3 0 0 [.ref x, .int p0, .int p1, .int p2] ([(x, .inr (11, [.ref st, .ref dr, .ref nw, .ref kp, .ref rd, .ref tm, .ref co])), (nw, .inr (10, [.ref rO, .ref sT, .ref mA, .ref sB, .ref sA, .ref tH, .ref tF, .ref tS, .int 0, .int 0, .int (-1), .int 0, .int 0])), (sT, .inr (4, [.ref cO, .ref sH, .int 0])), (co, .inl (cI, 300, .inl (fun _ => 0)))]) (fun r u => r = (if (0 ≤ p0 ∧ p0 < 300) ∧ (0 ≤ p1 ∧ p1 < 300) ∧ p0 = p1 then 0 else (-1))) := by
  refine Ci.of (by decide +kernel) (Nat.le_of_ble_eq_true rfl) ?_
  intro p e s m below meth c A ls Z hin hP hD hl
  have hx := Z.1
  have hb := Z.2.1
  have hS : va_S A s.heap s.heap [] := va_S.rf
  have hl : lv_has ls 5 [(0, .ref x), (1, .int p0), (2, .int p1), (3, .int p2)] := hl
  skip
  refine lv_iload_n hx hb dX11_least_0 rfl (lv_at hl 1 rfl) ?_
  have hPc := hP.sub2 (wc := []) [] rfl
  have hDc := hD.sub (ws' := []) [] (by decide) rfl
  refine raw_Si (nA := 1) (As := [.int p0]) (rest := []) Z hl.1 (c_X11_isPlace l D cI cM cT p0) (bw_S bw_494 bw_495 bw_80 bw_496) ⟨by decide +kernel, by decide +kernel, by decide +kernel⟩ rfl ⟨Nat.le_of_ble_eq_true rfl, Nat.le_of_ble_eq_true rfl⟩ hPc hDc hS rfl (Nat.le_of_ble_eq_true rfl) dX11_least_1 ⟨Nat.le_of_ble_eq_true rfl, Nat.le_of_ble_eq_true rfl⟩ (fun r2 u1 H1 locs1 h3 hku1 hP1 hD1 hS1 => ?_)
  obtain ⟨hrh3, rfl⟩ := h3
  obtain ⟨hP, hD⟩ := z_join (wr := [(x, .inr (11, [.ref st, .ref dr, .ref nw, .ref kp, .ref rd, .ref tm, .ref co])), (nw, .inr (10, [.ref rO, .ref sT, .ref mA, .ref sB, .ref sA, .ref tH, .ref tF, .ref tS, .int 0, .int 0, .int (-1), .int 0, .int 0])), (sT, .inr (4, [.ref cO, .ref sH, .int 0])), (co, .inl (cI, 300, .inl (fun _ => 0)))]) Z hS hP hD [] [0, 1, 2, 3] rfl (by decide) rfl (by decide) (by decide) hku1 hP1 hD1
  have hS := hS1
  clear hS1
  generalize H1 = H at hP hS ⊢
  generalize locs1 = locs at hS ⊢
  have hP : va_P D vwCl ([(x, .inr (11, [.ref st, .ref dr, .ref nw, .ref kp, .ref rd, .ref tm, .ref co])), (nw, .inr (10, [.ref rO, .ref sT, .ref mA, .ref sB, .ref sA, .ref tH, .ref tF, .ref tS, .int 0, .int 0, .int (-1), .int 0, .int 0])), (sT, .inr (4, [.ref cO, .ref sH, .int 0])), (co, .inl (cI, 300, .inl (fun _ => 0)))]) H := hP
  have hD : va_D A ([(x, .inr (11, [.ref st, .ref dr, .ref nw, .ref kp, .ref rd, .ref tm, .ref co])), (nw, .inr (10, [.ref rO, .ref sT, .ref mA, .ref sB, .ref sA, .ref tH, .ref tF, .ref tS, .int 0, .int 0, .int (-1), .int 0, .int 0])), (sT, .inr (4, [.ref cO, .ref sH, .int 0])), (co, .inl (cI, 300, .inl (fun _ => 0)))]) := hD
  by_cases c4 : 0 ≤ p0 ∧ p0 < 300
  · obtain rfl : r2 = 1 := by rw [hrh3, if_pos c4]
    refine lv_if_eq (tgt := 14) hx hb dX11_least_4 (by decide) (fun h => absurd h (by decide)) (fun c5 => ?_)
    refine lv_iload_n hx hb dX11_least_7 rfl (lv_at hl 2 rfl) ?_
    have hPc := hP.sub2 (wc := []) [] rfl
    have hDc := hD.sub (ws' := []) [] (by decide) rfl
    refine raw_Si (nA := 1) (As := [.int p1]) (rest := []) Z hl.1 (c_X11_isPlace l D cI cM cT p1) (bw_S bw_494 bw_495 bw_80 bw_496) ⟨by decide +kernel, by decide +kernel, by decide +kernel⟩ rfl ⟨Nat.le_of_ble_eq_true rfl, Nat.le_of_ble_eq_true rfl⟩ hPc hDc hS rfl (Nat.le_of_ble_eq_true rfl) dX11_least_8 ⟨Nat.le_of_ble_eq_true rfl, Nat.le_of_ble_eq_true rfl⟩ (fun r7 u6 H1 locs1 h8 hku6 hP1 hD1 hS1 => ?_)
    obtain ⟨hrh8, rfl⟩ := h8
    obtain ⟨hP, hD⟩ := z_join (wr := [(x, .inr (11, [.ref st, .ref dr, .ref nw, .ref kp, .ref rd, .ref tm, .ref co])), (nw, .inr (10, [.ref rO, .ref sT, .ref mA, .ref sB, .ref sA, .ref tH, .ref tF, .ref tS, .int 0, .int 0, .int (-1), .int 0, .int 0])), (sT, .inr (4, [.ref cO, .ref sH, .int 0])), (co, .inl (cI, 300, .inl (fun _ => 0)))]) Z hS hP hD [] [0, 1, 2, 3] rfl (by decide) rfl (by decide) (by decide) hku6 hP1 hD1
    have hS := hS1
    clear hS1
    generalize H1 = H at hP hS ⊢
    generalize locs1 = locs at hS ⊢
    have hP : va_P D vwCl ([(x, .inr (11, [.ref st, .ref dr, .ref nw, .ref kp, .ref rd, .ref tm, .ref co])), (nw, .inr (10, [.ref rO, .ref sT, .ref mA, .ref sB, .ref sA, .ref tH, .ref tF, .ref tS, .int 0, .int 0, .int (-1), .int 0, .int 0])), (sT, .inr (4, [.ref cO, .ref sH, .int 0])), (co, .inl (cI, 300, .inl (fun _ => 0)))]) H := hP
    have hD : va_D A ([(x, .inr (11, [.ref st, .ref dr, .ref nw, .ref kp, .ref rd, .ref tm, .ref co])), (nw, .inr (10, [.ref rO, .ref sT, .ref mA, .ref sB, .ref sA, .ref tH, .ref tF, .ref tS, .int 0, .int 0, .int (-1), .int 0, .int 0])), (sT, .inr (4, [.ref cO, .ref sH, .int 0])), (co, .inl (cI, 300, .inl (fun _ => 0)))]) := hD
    by_cases c9 : 0 ≤ p1 ∧ p1 < 300
    · obtain rfl : r7 = 1 := by rw [hrh8, if_pos c9]
      refine lv_if_ne (tgt := 16) hx hb dX11_least_11 (by decide) (fun c10 => ?_) (fun h => absurd h (by decide))
      refine lv_aload_n hx hb dX11_least_16 rfl (lv_at hl 0 rfl) ?_
      refine z_get Z i_X11 hP 0 rfl rfl 6 (by decide) bw_474 rfl dX11_least_17 ?_
      refine lv_ldc (v := 2000000000) hx hb Z.2.2.2.1 (Z.2.2.2.2.1 _ bw_926) dX11_least_20 ?_
      have hPc := hP.sub2 (wc := [(co, .inl (cI, 300, .inl (fun _ => 0)))]) [3] rfl
      have hDc := hD.sub (ws' := [(co, .inl (cI, 300, .inl (fun _ => 0)))]) [3] (by decide) rfl
      refine raw_Sv (nA := 2) (As := [.ref co, .int 2000000000]) (rest := []) Z hl.1 (c_J7_fill_53178 l D cI cM cT co 300 (fun _ => 0) 2000000000 (by omega)) (bw_S bw_927 bw_560 bw_94 bw_561) ⟨by decide +kernel, by decide +kernel, by decide +kernel⟩ rfl ⟨Nat.le_of_ble_eq_true rfl, Nat.le_of_ble_eq_true rfl⟩ hPc hDc hS rfl (Nat.le_of_ble_eq_true rfl) dX11_least_22 ⟨Nat.le_of_ble_eq_true rfl, Nat.le_of_ble_eq_true rfl⟩ (fun u11 H1 locs1 h13 hku11 hP1 hD1 hS1 => ?_)
      obtain ⟨g_14, rfl, huh13_0⟩ := h13
      obtain ⟨hP, hD⟩ := z_join (wr := [(x, .inr (11, [.ref st, .ref dr, .ref nw, .ref kp, .ref rd, .ref tm, .ref co])), (nw, .inr (10, [.ref rO, .ref sT, .ref mA, .ref sB, .ref sA, .ref tH, .ref tF, .ref tS, .int 0, .int 0, .int (-1), .int 0, .int 0])), (sT, .inr (4, [.ref cO, .ref sH, .int 0]))]) Z hS hP hD [3] [0, 1, 2] rfl (by decide) rfl (by decide) (by decide) hku11 hP1 hD1
      have hS := hS1
      clear hS1
      generalize H1 = H at hP hS ⊢
      generalize locs1 = locs at hS ⊢
      have hP : va_P D vwCl ([(x, .inr (11, [.ref st, .ref dr, .ref nw, .ref kp, .ref rd, .ref tm, .ref co])), (nw, .inr (10, [.ref rO, .ref sT, .ref mA, .ref sB, .ref sA, .ref tH, .ref tF, .ref tS, .int 0, .int 0, .int (-1), .int 0, .int 0])), (sT, .inr (4, [.ref cO, .ref sH, .int 0])), (co, .inl (cI, 300, .inl g_14))]) H := hP
      have hD : va_D A ([(x, .inr (11, [.ref st, .ref dr, .ref nw, .ref kp, .ref rd, .ref tm, .ref co])), (nw, .inr (10, [.ref rO, .ref sT, .ref mA, .ref sB, .ref sA, .ref tH, .ref tF, .ref tS, .int 0, .int 0, .int (-1), .int 0, .int 0])), (sT, .inr (4, [.ref cO, .ref sH, .int 0])), (co, .inl (cI, 300, .inl g_14))]) := hD
      have hg := huh13_0
      refine lv_aload_n hx hb dX11_least_25 rfl (lv_at hl 0 rfl) ?_
      refine z_get Z i_X11 hP 0 rfl rfl 6 (by decide) bw_474 rfl dX11_least_26 ?_
      refine lv_iload_n hx hb dX11_least_29 rfl (lv_at hl 1 rfl) ?_
      refine lv_iconst (v := 0) hx hb dX11_least_30 (by decide) ?_
      refine z_iast Z hP hD hS 3 0 rfl rfl (vp_in_iff.mpr (by (try simp only [zlt, zle, zeq, zl_0, zl_1, zl_2, zl_3, zl_4, zl_5, zl_6, zl_7, zl_8, zl_9, zl_10, zl_11, zl_12, zl_13, zl_19, zl_20, zl_30, zl_64, zl_99, zl_100, zl_299, zl_300, zl_399, zl_999, zl_9999, zl_m1, zl_m2, zl_m3, zl_32, zl_280] at c4 c5 c9 c10 ⊢); omega)) dX11_least_31 (fun H locs hP hD hS => ?_)
      obtain ⟨f9, hf9⟩ : ∃ f9, f9 = upd g_14 (p0 : Int32).toNatClampNeg 0 := ⟨_, rfl⟩
      rw [← hf9] at hP hD
      have hP : va_P D vwCl ([(x, .inr (11, [.ref st, .ref dr, .ref nw, .ref kp, .ref rd, .ref tm, .ref co])), (nw, .inr (10, [.ref rO, .ref sT, .ref mA, .ref sB, .ref sA, .ref tH, .ref tF, .ref tS, .int 0, .int 0, .int (-1), .int 0, .int 0])), (sT, .inr (4, [.ref cO, .ref sH, .int 0])), (co, .inl (cI, 300, .inl f9))]) H := hP
      have hD : va_D A ([(x, .inr (11, [.ref st, .ref dr, .ref nw, .ref kp, .ref rd, .ref tm, .ref co])), (nw, .inr (10, [.ref rO, .ref sT, .ref mA, .ref sB, .ref sA, .ref tH, .ref tF, .ref tS, .int 0, .int 0, .int (-1), .int 0, .int 0])), (sT, .inr (4, [.ref cO, .ref sH, .int 0])), (co, .inl (cI, 300, .inl f9))]) := hD
      have hfa : ∀ j, j < 300 → j ≠ (p0 : Int32).toNatClampNeg → f9 j = 2000000000 := fun j h1 h2 => by rw [hf9, pk_un h2]; exact hg j h1
      have hfb : f9 (p0 : Int32).toNatClampNeg = 0 := by rw [hf9, pk_us]
      refine lv_iload_n hx hb dX11_least_32 rfl (lv_at hl 1 rfl) ?_
      refine lv_istore (lv' := [(4, .int p0), (0, .ref x), (1, .int p0), (2, .int p1), (3, .int p2)]) hx hb dX11_least_33 hl (by decide) rfl (fun ls hl => ?_)
      refine W.widen (k := 0) (n := 0) (Nat.le_of_ble_eq_true rfl) (Nat.le_of_ble_eq_true rfl) ?_
      exact lp_X11_least l D cI cM cT x st dr nw kp rd tm co rO sT mA sB sA tH tF tS cO sH p0 p1 p2 Z  f9 hfa hfb (by (try simp only [zlt, zle, zeq, zl_0, zl_1, zl_2, zl_3, zl_4, zl_5, zl_6, zl_7, zl_8, zl_9, zl_10, zl_11, zl_12, zl_13, zl_19, zl_20, zl_30, zl_64, zl_99, zl_100, zl_299, zl_300, zl_399, zl_999, zl_9999, zl_m1, zl_m2, zl_m3, zl_32, zl_280] at c4 c5 c9 c10 ⊢); omega) _ p0 (by (try simp only [zlt, zle, zeq, zl_0, zl_1, zl_2, zl_3, zl_4, zl_5, zl_6, zl_7, zl_8, zl_9, zl_10, zl_11, zl_12, zl_13, zl_19, zl_20, zl_30, zl_64, zl_99, zl_100, zl_299, zl_300, zl_399, zl_999, zl_9999, zl_m1, zl_m2, zl_m3, zl_32, zl_280] at c4 c5 c9 c10 ⊢); omega) (by (try simp only [zlt, zle, zeq, zl_0, zl_1, zl_2, zl_3, zl_4, zl_5, zl_6, zl_7, zl_8, zl_9, zl_10, zl_11, zl_12, zl_13, zl_19, zl_20, zl_30, zl_64, zl_99, zl_100, zl_299, zl_300, zl_399, zl_999, zl_9999, zl_m1, zl_m2, zl_m3, zl_32, zl_280] at c4 c5 c9 c10 ⊢); omega) (Nat.lt_succ_self _) _ _ _ hP hD hS (lv_sub hl [1, 2, 3, 4, 0] rfl)
    · obtain rfl : r7 = 0 := by rw [hrh8, if_neg c9]
      refine lv_if_ne (tgt := 16) hx hb dX11_least_11 (by decide) (fun h => absurd (by decide) h) (fun c15 => ?_)
      refine lv_iconst (v := (-1)) hx hb dX11_least_14 (by decide) ?_
      exact z_ret Z rfl hP hD hS ((by first | rfl | assumption | (rw [if_pos (by (try simp only [zlt, zle, zeq, zl_0, zl_1, zl_2, zl_3, zl_4, zl_5, zl_6, zl_7, zl_8, zl_9, zl_10, zl_11, zl_12, zl_13, zl_19, zl_20, zl_30, zl_64, zl_99, zl_100, zl_299, zl_300, zl_399, zl_999, zl_9999, zl_m1, zl_m2, zl_m3, zl_32, zl_280] at c4 c5 c9 c15 ⊢); omega)]; first | done | ((try simp only [zlt, zle, zeq, zl_0, zl_1, zl_2, zl_3, zl_4, zl_5, zl_6, zl_7, zl_8, zl_9, zl_10, zl_11, zl_12, zl_13, zl_19, zl_20, zl_30, zl_64, zl_99, zl_100, zl_299, zl_300, zl_399, zl_999, zl_9999, zl_m1, zl_m2, zl_m3, zl_32, zl_280] at c4 c5 c9 c15 ⊢); omega)) | (rw [if_neg (by (try simp only [zlt, zle, zeq, zl_0, zl_1, zl_2, zl_3, zl_4, zl_5, zl_6, zl_7, zl_8, zl_9, zl_10, zl_11, zl_12, zl_13, zl_19, zl_20, zl_30, zl_64, zl_99, zl_100, zl_299, zl_300, zl_399, zl_999, zl_9999, zl_m1, zl_m2, zl_m3, zl_32, zl_280] at c4 c5 c9 c15 ⊢); omega)]; first | done | ((try simp only [zlt, zle, zeq, zl_0, zl_1, zl_2, zl_3, zl_4, zl_5, zl_6, zl_7, zl_8, zl_9, zl_10, zl_11, zl_12, zl_13, zl_19, zl_20, zl_30, zl_64, zl_99, zl_100, zl_299, zl_300, zl_399, zl_999, zl_9999, zl_m1, zl_m2, zl_m3, zl_32, zl_280] at c4 c5 c9 c15 ⊢); omega)))) dX11_least_15 (Nat.le_of_ble_eq_true rfl) (Nat.le_of_ble_eq_true rfl)
  · obtain rfl : r2 = 0 := by rw [hrh3, if_neg c4]
    refine lv_if_eq (tgt := 14) hx hb dX11_least_4 (by decide) (fun c16 => ?_) (fun h => absurd (by decide) h)
    refine lv_iconst (v := (-1)) hx hb dX11_least_14 (by decide) ?_
    exact z_ret Z rfl hP hD hS ((by first | rfl | assumption | (rw [if_pos (by (try simp only [zlt, zle, zeq, zl_0, zl_1, zl_2, zl_3, zl_4, zl_5, zl_6, zl_7, zl_8, zl_9, zl_10, zl_11, zl_12, zl_13, zl_19, zl_20, zl_30, zl_64, zl_99, zl_100, zl_299, zl_300, zl_399, zl_999, zl_9999, zl_m1, zl_m2, zl_m3, zl_32, zl_280] at c4 c16 ⊢); omega)]; first | done | ((try simp only [zlt, zle, zeq, zl_0, zl_1, zl_2, zl_3, zl_4, zl_5, zl_6, zl_7, zl_8, zl_9, zl_10, zl_11, zl_12, zl_13, zl_19, zl_20, zl_30, zl_64, zl_99, zl_100, zl_299, zl_300, zl_399, zl_999, zl_9999, zl_m1, zl_m2, zl_m3, zl_32, zl_280] at c4 c16 ⊢); omega)) | (rw [if_neg (by (try simp only [zlt, zle, zeq, zl_0, zl_1, zl_2, zl_3, zl_4, zl_5, zl_6, zl_7, zl_8, zl_9, zl_10, zl_11, zl_12, zl_13, zl_19, zl_20, zl_30, zl_64, zl_99, zl_100, zl_299, zl_300, zl_399, zl_999, zl_9999, zl_m1, zl_m2, zl_m3, zl_32, zl_280] at c4 c16 ⊢); omega)]; first | done | ((try simp only [zlt, zle, zeq, zl_0, zl_1, zl_2, zl_3, zl_4, zl_5, zl_6, zl_7, zl_8, zl_9, zl_10, zl_11, zl_12, zl_13, zl_19, zl_20, zl_30, zl_64, zl_99, zl_100, zl_299, zl_300, zl_399, zl_999, zl_9999, zl_m1, zl_m2, zl_m3, zl_32, zl_280] at c4 c16 ⊢); omega)))) dX11_least_15 (Nat.le_of_ble_eq_true rfl) (Nat.le_of_ble_eq_true rfl)
