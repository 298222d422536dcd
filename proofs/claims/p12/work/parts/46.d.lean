theorem bw_950 : Cond.methodLink "CountingHorsesLaw" 110 ⟨"CountingHorses", "who", "(II)I"⟩ ∈ BW := bw_at 950 (by decide +kernel) (by decide +kernel)
theorem bw_951 : Cond.instanceMethod ⟨"CountingHorses", "who", "(II)I"⟩ ∈ BW := bw_at 951 (by decide +kernel) (by decide +kernel)
theorem bw_952 : Cond.selects "CountingHorses" ⟨"CountingHorses", "who", "(II)I"⟩ ⟨"CountingHorses", "who", "(II)I"⟩ ∈ BW := bw_at 952 (by decide +kernel) (by decide +kernel)
theorem bw_953 : Cond.code ⟨"CountingHorses", "who", "(II)I"⟩ prog_1_method_24_code 6 (some .int) ∈ BW := bw_at 953 (by decide +kernel) (by decide +kernel)
theorem bw_958 : Cond.methodLink "CountingHorsesLaw" 114 ⟨"CountingHorses", "tried", "(III)I"⟩ ∈ BW := bw_at 958 (by decide +kernel) (by decide +kernel)
theorem bw_959 : Cond.instanceMethod ⟨"CountingHorses", "tried", "(III)I"⟩ ∈ BW := bw_at 959 (by decide +kernel) (by decide +kernel)
theorem bw_960 : Cond.selects "CountingHorses" ⟨"CountingHorses", "tried", "(III)I"⟩ ⟨"CountingHorses", "tried", "(III)I"⟩ ∈ BW := bw_at 960 (by decide +kernel) (by decide +kernel)
theorem bw_961 : Cond.code ⟨"CountingHorses", "tried", "(III)I"⟩ prog_1_method_25_code 4 (some .int) ∈ BW := bw_at 961 (by decide +kernel) (by decide +kernel)
theorem bw_962 : Cond.methodLink "CountingHorsesLaw" 118 ⟨"CountingHorses", "taught", "()I"⟩ ∈ BW := bw_at 962 (by decide +kernel) (by decide +kernel)
theorem bw_963 : Cond.instanceMethod ⟨"CountingHorses", "taught", "()I"⟩ ∈ BW := bw_at 963 (by decide +kernel) (by decide +kernel)
theorem bw_964 : Cond.selects "CountingHorses" ⟨"CountingHorses", "taught", "()I"⟩ ⟨"CountingHorses", "taught", "()I"⟩ ∈ BW := bw_at 964 (by decide +kernel) (by decide +kernel)
theorem bw_965 : Cond.code ⟨"CountingHorses", "taught", "()I"⟩ prog_1_method_26_code 3 (some .int) ∈ BW := bw_at 965 (by decide +kernel) (by decide +kernel)
theorem bw_970 : Cond.methodLink "CountingHorsesLaw" 122 ⟨"CountingHorses", "never", "()I"⟩ ∈ BW := bw_at 970 (by decide +kernel) (by decide +kernel)
theorem bw_971 : Cond.instanceMethod ⟨"CountingHorses", "never", "()I"⟩ ∈ BW := bw_at 971 (by decide +kernel) (by decide +kernel)
theorem bw_972 : Cond.selects "CountingHorses" ⟨"CountingHorses", "never", "()I"⟩ ⟨"CountingHorses", "never", "()I"⟩ ∈ BW := bw_at 972 (by decide +kernel) (by decide +kernel)
theorem bw_973 : Cond.code ⟨"CountingHorses", "never", "()I"⟩ prog_1_method_27_code 3 (some .int) ∈ BW := bw_at 973 (by decide +kernel) (by decide +kernel)
theorem bw_978 : Cond.methodLink "CountingHorsesLaw" 126 ⟨"CountingHorses", "image", "()I"⟩ ∈ BW := bw_at 978 (by decide +kernel) (by decide +kernel)
theorem bw_979 : Cond.instanceMethod ⟨"CountingHorses", "image", "()I"⟩ ∈ BW := bw_at 979 (by decide +kernel) (by decide +kernel)
theorem bw_980 : Cond.selects "CountingHorses" ⟨"CountingHorses", "image", "()I"⟩ ⟨"CountingHorses", "image", "()I"⟩ ∈ BW := bw_at 980 (by decide +kernel) (by decide +kernel)
theorem bw_981 : Cond.code ⟨"CountingHorses", "image", "()I"⟩ prog_1_method_28_code 1 (some .int) ∈ BW := bw_at 981 (by decide +kernel) (by decide +kernel)
theorem bw_1002 : Cond.methodLink "CountingHorsesLaw" 130 ⟨"CountingHorses", "back", "()I"⟩ ∈ BW := bw_at 1002 (by decide +kernel) (by decide +kernel)
theorem bw_1003 : Cond.instanceMethod ⟨"CountingHorses", "back", "()I"⟩ ∈ BW := bw_at 1003 (by decide +kernel) (by decide +kernel)
theorem bw_1004 : Cond.selects "CountingHorses" ⟨"CountingHorses", "back", "()I"⟩ ⟨"CountingHorses", "back", "()I"⟩ ∈ BW := bw_at 1004 (by decide +kernel) (by decide +kernel)
theorem bw_1005 : Cond.code ⟨"CountingHorses", "back", "()I"⟩ prog_1_method_29_code 1 (some .int) ∈ BW := bw_at 1005 (by decide +kernel) (by decide +kernel)
theorem bw_1006 : Cond.methodLink "CountingHorsesLaw" 134 ⟨"CountingHorses", "about", "(I)I"⟩ ∈ BW := bw_at 1006 (by decide +kernel) (by decide +kernel)
theorem bw_1007 : Cond.instanceMethod ⟨"CountingHorses", "about", "(I)I"⟩ ∈ BW := bw_at 1007 (by decide +kernel) (by decide +kernel)
theorem bw_1008 : Cond.selects "CountingHorses" ⟨"CountingHorses", "about", "(I)I"⟩ ⟨"CountingHorses", "about", "(I)I"⟩ ∈ BW := bw_at 1008 (by decide +kernel) (by decide +kernel)
theorem bw_1009 : Cond.code ⟨"CountingHorses", "about", "(I)I"⟩ prog_1_method_30_code 2 (some .int) ∈ BW := bw_at 1009 (by decide +kernel) (by decide +kernel)
theorem bw_1427 : Cond.methodLink "CountingHorsesLaw" 113 ⟨"CountingHorsesModel", "who", "(II)I"⟩ ∈ BW := bw_at 1427 (by decide +kernel) (by decide +kernel)
theorem bw_1428 : Cond.instanceMethod ⟨"CountingHorsesModel", "who", "(II)I"⟩ ∈ BW := bw_at 1428 (by decide +kernel) (by decide +kernel)
theorem bw_1429 : Cond.selects "CountingHorsesModel" ⟨"CountingHorsesModel", "who", "(II)I"⟩ ⟨"CountingHorsesModel", "who", "(II)I"⟩ ∈ BW := bw_at 1429 (by decide +kernel) (by decide +kernel)
theorem bw_1430 : Cond.code ⟨"CountingHorsesModel", "who", "(II)I"⟩ prog_14_method_82_code 3 (some .int) ∈ BW := bw_at 1430 (by decide +kernel) (by decide +kernel)
theorem bw_1442 : Cond.methodLink "CountingHorsesLaw" 117 ⟨"CountingHorsesModel", "tried", "(III)I"⟩ ∈ BW := bw_at 1442 (by decide +kernel) (by decide +kernel)
theorem bw_1443 : Cond.instanceMethod ⟨"CountingHorsesModel", "tried", "(III)I"⟩ ∈ BW := bw_at 1443 (by decide +kernel) (by decide +kernel)
theorem bw_1444 : Cond.selects "CountingHorsesModel" ⟨"CountingHorsesModel", "tried", "(III)I"⟩ ⟨"CountingHorsesModel", "tried", "(III)I"⟩ ∈ BW := bw_at 1444 (by decide +kernel) (by decide +kernel)
theorem bw_1445 : Cond.code ⟨"CountingHorsesModel", "tried", "(III)I"⟩ prog_14_method_83_code 5 (some .int) ∈ BW := bw_at 1445 (by decide +kernel) (by decide +kernel)
theorem bw_1446 : Cond.methodLink "CountingHorsesLaw" 121 ⟨"CountingHorsesModel", "taught", "()I"⟩ ∈ BW := bw_at 1446 (by decide +kernel) (by decide +kernel)
theorem bw_1447 : Cond.instanceMethod ⟨"CountingHorsesModel", "taught", "()I"⟩ ∈ BW := bw_at 1447 (by decide +kernel) (by decide +kernel)
theorem bw_1448 : Cond.selects "CountingHorsesModel" ⟨"CountingHorsesModel", "taught", "()I"⟩ ⟨"CountingHorsesModel", "taught", "()I"⟩ ∈ BW := bw_at 1448 (by decide +kernel) (by decide +kernel)
theorem bw_1449 : Cond.code ⟨"CountingHorsesModel", "taught", "()I"⟩ prog_14_method_85_code 3 (some .int) ∈ BW := bw_at 1449 (by decide +kernel) (by decide +kernel)
theorem bw_1454 : Cond.methodLink "CountingHorsesLaw" 125 ⟨"CountingHorsesModel", "never", "()I"⟩ ∈ BW := bw_at 1454 (by decide +kernel) (by decide +kernel)
theorem bw_1455 : Cond.instanceMethod ⟨"CountingHorsesModel", "never", "()I"⟩ ∈ BW := bw_at 1455 (by decide +kernel) (by decide +kernel)
theorem bw_1456 : Cond.selects "CountingHorsesModel" ⟨"CountingHorsesModel", "never", "()I"⟩ ⟨"CountingHorsesModel", "never", "()I"⟩ ∈ BW := bw_at 1456 (by decide +kernel) (by decide +kernel)
theorem bw_1457 : Cond.code ⟨"CountingHorsesModel", "never", "()I"⟩ prog_14_method_86_code 6 (some .int) ∈ BW := bw_at 1457 (by decide +kernel) (by decide +kernel)
theorem bw_1458 : Cond.methodLink "CountingHorsesLaw" 129 ⟨"CountingHorsesModel", "image", "()I"⟩ ∈ BW := bw_at 1458 (by decide +kernel) (by decide +kernel)
theorem bw_1459 : Cond.instanceMethod ⟨"CountingHorsesModel", "image", "()I"⟩ ∈ BW := bw_at 1459 (by decide +kernel) (by decide +kernel)
theorem bw_1460 : Cond.selects "CountingHorsesModel" ⟨"CountingHorsesModel", "image", "()I"⟩ ⟨"CountingHorsesModel", "image", "()I"⟩ ∈ BW := bw_at 1460 (by decide +kernel) (by decide +kernel)
theorem bw_1461 : Cond.code ⟨"CountingHorsesModel", "image", "()I"⟩ prog_14_method_87_code 1 (some .int) ∈ BW := bw_at 1461 (by decide +kernel) (by decide +kernel)
theorem bw_1462 : Cond.methodLink "CountingHorsesLaw" 133 ⟨"CountingHorsesModel", "back", "()I"⟩ ∈ BW := bw_at 1462 (by decide +kernel) (by decide +kernel)
theorem bw_1463 : Cond.instanceMethod ⟨"CountingHorsesModel", "back", "()I"⟩ ∈ BW := bw_at 1463 (by decide +kernel) (by decide +kernel)
theorem bw_1464 : Cond.selects "CountingHorsesModel" ⟨"CountingHorsesModel", "back", "()I"⟩ ⟨"CountingHorsesModel", "back", "()I"⟩ ∈ BW := bw_at 1464 (by decide +kernel) (by decide +kernel)
theorem bw_1465 : Cond.code ⟨"CountingHorsesModel", "back", "()I"⟩ prog_14_method_88_code 1 (some .int) ∈ BW := bw_at 1465 (by decide +kernel) (by decide +kernel)
theorem bw_1466 : Cond.methodLink "CountingHorsesLaw" 137 ⟨"CountingHorsesModel", "about", "(I)I"⟩ ∈ BW := bw_at 1466 (by decide +kernel) (by decide +kernel)
theorem bw_1467 : Cond.instanceMethod ⟨"CountingHorsesModel", "about", "(I)I"⟩ ∈ BW := bw_at 1467 (by decide +kernel) (by decide +kernel)
theorem bw_1468 : Cond.selects "CountingHorsesModel" ⟨"CountingHorsesModel", "about", "(I)I"⟩ ⟨"CountingHorsesModel", "about", "(I)I"⟩ ∈ BW := bw_at 1468 (by decide +kernel) (by decide +kernel)
theorem bw_1469 : Cond.code ⟨"CountingHorsesModel", "about", "(I)I"⟩ prog_14_method_89_code 2 (some .int) ∈ BW := bw_at 1469 (by decide +kernel) (by decide +kernel)

set_option maxHeartbeats 4000000 in
set_option maxRecDepth 100000 in
theorem law_22 {p : Program} {l : Launch} {e : Env} {s : State} {m : MethodId} {below : List Frame} {meth : Method} {c : Code} {b L : Nat} {xs : Nat → Int32} {D : va_G} {cI cM cT cJ cZ : ClassId} {ii : Int32} {x q : Nat} (Z : Zx p s m #[Value.ref b] meth c code 4 ret R_law (fun q : Nat => s.heap.size ≤ q) (ty3 cI cM cT cJ cZ) D) (hX : va_X b L xs s s.heap) (hbl : b < s.heap.size) (hL : L ≤ 3072) (h0 : 0 ≤ ii.toInt) (h1 : ii.toInt + 6 ≤ (L : Int)) (kk : ∀ {kc0 kc1 kc9 kc10 kc6 ki0 ki1 ki9 ki10 ki6 tl fu0 fp0 : Int} {bt : Nat → Int} {xw mw : va_W} {H : Heap} {locs : List Loc} {ls : Array Slot} (hXi : InvX cI cM cT cJ cZ x kc0 kc1 kc9 kc10 kc6 ki0 ki1 ki9 ki10 ki6 tl fu0 fp0 bt xw) (hMi : InvM cI cM cT cJ cZ q kc0 kc1 kc9 kc10 kc6 ki0 ki1 ki9 ki10 ki6 tl fu0 fp0 bt mw) (hP : va_P D vwCl (xw ++ mw) H) (hD : va_D (fun q : Nat => s.heap.size ≤ q) (xw ++ mw)) (hS : va_S (fun q : Nat => s.heap.size ≤ q) s.heap H locs) (hl : lv_has ls 4 [(0, .ref b), (1, .ref x), (2, .ref q), (3, .int ii)]), W p l e room_1 s m #[Value.ref b] below meth c H locs 300 28000 (lw_Z below #[Value.ref b] s) (F0 m 997 ls [])) : ∀ {kc0 kc1 kc9 kc10 kc6 ki0 ki1 ki9 ki10 ki6 tl fu0 fp0 : Int} {bt : Nat → Int} {xw mw : va_W} {H : Heap} {locs : List Loc} {ls : Array Slot} (hXi : InvX cI cM cT cJ cZ x kc0 kc1 kc9 kc10 kc6 ki0 ki1 ki9 ki10 ki6 tl fu0 fp0 bt xw) (hMi : InvM cI cM cT cJ cZ q kc0 kc1 kc9 kc10 kc6 ki0 ki1 ki9 ki10 ki6 tl fu0 fp0 bt mw) (hP : va_P D vwCl (xw ++ mw) H) (hD : va_D (fun q : Nat => s.heap.size ≤ q) (xw ++ mw)) (hS : va_S (fun q : Nat => s.heap.size ≤ q) s.heap H locs) (hl : lv_has ls 4 [(0, .ref b), (1, .ref x), (2, .ref q), (3, .int ii)]), W p l e room_1 s m #[Value.ref b] below meth c H locs 300 28000 (lw_Z below #[Value.ref b] s) (F0 m 846 ls []) := by
  intro kc0 kc1 kc9 kc10 kc6 ki0 ki1 ki9 ki10 ki6 tl fu0 fp0 bt xw mw H locs ls hXi hMi hP hD hS hl
  have hx := Z.1
  have hb := Z.2.1
  have hbA : ¬ (fun q : Nat => s.heap.size ≤ q) b := Nat.not_le.mpr hbl
  obtain ⟨fs1, hd1⟩ := InvX.head hXi
  obtain ⟨fs2, hd2⟩ := InvM.head hMi
  refine lv_aload_n hx hb dL_law_846 rfl (lv_at hl 1 rfl) ?_
  refine lv_aload_n hx hb dL_law_847 rfl (lv_at hl 0 rfl) ?_
  refine lv_iload_n hx hb dL_law_848 rfl (lv_at hl 3 rfl) ?_
  refine lv_iconst (v := 1) hx hb dL_law_849 (by decide) ?_
  refine lv_iadd hx hb dL_law_850 ?_
  refine va_sld hx hb hX hbl hbA hS (zin h0 h1 hL (by decide)) dL_law_851 ?_
  refine lv_aload_n hx hb dL_law_852 rfl (lv_at hl 0 rfl) ?_
  refine lv_iload_n hx hb dL_law_853 rfl (lv_at hl 3 rfl) ?_
  refine lv_iconst (v := 2) hx hb dL_law_854 (by decide) ?_
  refine lv_iadd hx hb dL_law_855 ?_
  refine va_sld hx hb hX hbl hbA hS (zin h0 h1 hL (by decide)) dL_law_856 ?_
  have hDc := (va_D_left hD)
  refine raw_Vi (ci := 11) (q0 := 0) (nA := 2) (As := [.int (xs (ii + 1).toNatClampNeg), .int (xs (ii + 2).toNatClampNeg)]) (rest := []) Z hl.1 (w_X_who l D cI cM cT cJ cZ x kc0 kc1 kc9 kc10 kc6 ki0 ki1 ki9 ki10 ki6 tl fu0 fp0 bt (xs (ii + 1).toNatClampNeg) (xs (ii + 2).toNatClampNeg) hXi) (bw_V bw_950 bw_951 bw_952 bw_80 bw_953) ⟨by decide +kernel, by decide +kernel, by decide +kernel⟩ rfl ⟨Nat.le_of_ble_eq_true rfl, Nat.le_of_ble_eq_true rfl⟩ rfl rfl hd1 (va_P_left hP) hDc hS rfl (Nat.le_of_ble_eq_true rfl) dL_law_857 ⟨Nat.le_of_ble_eq_true rfl, Nat.le_of_ble_eq_true rfl⟩ (fun r1 u H locs h9 hk9 hP1 hD1 hS1 => ?_)
  obtain ⟨d0, d1, d9, d10, d6, j0, j1, j9, j10, j6, tl_, fu_, fp_, bn, hrel1, hX2⟩ := h9
  obtain ⟨hP, hD⟩ := joinL hP hD hk9 (raw_free hDc Z.2.2.2.2.2.2.2.1 hS) hP1 hD1
  have hS := hS1
  clear hS1
  refine lv_pop hx hb dL_law_860 rfl ?_
  refine lv_aload_n hx hb dL_law_861 rfl (lv_at hl 2 rfl) ?_
  refine lv_aload_n hx hb dL_law_862 rfl (lv_at hl 0 rfl) ?_
  refine lv_iload_n hx hb dL_law_863 rfl (lv_at hl 3 rfl) ?_
  refine lv_iconst (v := 1) hx hb dL_law_864 (by decide) ?_
  refine lv_iadd hx hb dL_law_865 ?_
  refine va_sld hx hb hX hbl hbA hS (zin h0 h1 hL (by decide)) dL_law_866 ?_
  refine lv_aload_n hx hb dL_law_867 rfl (lv_at hl 0 rfl) ?_
  refine lv_iload_n hx hb dL_law_868 rfl (lv_at hl 3 rfl) ?_
  refine lv_iconst (v := 2) hx hb dL_law_869 (by decide) ?_
  refine lv_iadd hx hb dL_law_870 ?_
  refine va_sld hx hb hX hbl hbA hS (zin h0 h1 hL (by decide)) dL_law_871 ?_
  have hDc := (va_D_right hD)
  refine raw_Vi (ci := 12) (q0 := 0) (nA := 2) (As := [.int (xs (ii + 1).toNatClampNeg), .int (xs (ii + 2).toNatClampNeg)]) (rest := []) Z hl.1 (w_M_who l D cI cM cT cJ cZ q kc0 kc1 kc9 kc10 kc6 ki0 ki1 ki9 ki10 ki6 tl fu0 fp0 bt (xs (ii + 1).toNatClampNeg) (xs (ii + 2).toNatClampNeg) hMi) (bw_V bw_1427 bw_1428 bw_1429 bw_92 bw_1430) ⟨by decide +kernel, by decide +kernel, by decide +kernel⟩ rfl ⟨Nat.le_of_ble_eq_true rfl, Nat.le_of_ble_eq_true rfl⟩ rfl rfl hd2 (va_P_right hP) hDc hS rfl (Nat.le_of_ble_eq_true rfl) dL_law_872 ⟨Nat.le_of_ble_eq_true rfl, Nat.le_of_ble_eq_true rfl⟩ (fun r2 u H locs h9 hk9 hP1 hD1 hS1 => ?_)
  obtain ⟨d0m, d1m, d9m, d10m, d6m, j0m, j1m, j9m, j10m, j6m, tl_m, fu_m, fp_m, bnm, hrel2, hM2⟩ := h9
  obtain ⟨hP, hD⟩ := joinR hP hD hk9 (raw_free hDc Z.2.2.2.2.2.2.2.1 hS) hP1 hD1
  have hS := hS1
  clear hS1
  have hbn : bnm = bn := hrel2.2.2.2.2.2.2.2.2.2.2.2.2.2.trans hrel1.2.2.2.2.2.2.2.2.2.2.2.2.2.symm
  have heq : d0m = d0 ∧ d1m = d1 ∧ d9m = d9 ∧ d10m = d10 ∧ d6m = d6 ∧ j0m = j0 ∧ j1m = j1 ∧ j9m = j9 ∧ j10m = j10 ∧ j6m = j6 ∧ tl_m = tl_ ∧ fu_m = fu_ ∧ fp_m = fp_ := by omega
  obtain ⟨rfl, rfl, rfl, rfl, rfl, rfl, rfl, rfl, rfl, rfl, rfl, rfl, rfl⟩ := heq
  subst hbn
  refine lv_pop hx hb dL_law_875 rfl ?_
  refine lv_goto (tgt := 997) hx hb dL_law_876 (by decide) ?_
  exact kk hX2 hM2 hP hD hS hl
set_option maxHeartbeats 4000000 in
set_option maxRecDepth 100000 in
theorem law_23 {p : Program} {l : Launch} {e : Env} {s : State} {m : MethodId} {below : List Frame} {meth : Method} {c : Code} {b L : Nat} {xs : Nat → Int32} {D : va_G} {cI cM cT cJ cZ : ClassId} {ii : Int32} {x q : Nat} (Z : Zx p s m #[Value.ref b] meth c code 4 ret R_law (fun q : Nat => s.heap.size ≤ q) (ty3 cI cM cT cJ cZ) D) (hX : va_X b L xs s s.heap) (hbl : b < s.heap.size) (hL : L ≤ 3072) (h0 : 0 ≤ ii.toInt) (h1 : ii.toInt + 6 ≤ (L : Int)) (kk : ∀ {kc0 kc1 kc9 kc10 kc6 ki0 ki1 ki9 ki10 ki6 tl fu0 fp0 : Int} {bt : Nat → Int} {xw mw : va_W} {H : Heap} {locs : List Loc} {ls : Array Slot} (hXi : InvX cI cM cT cJ cZ x kc0 kc1 kc9 kc10 kc6 ki0 ki1 ki9 ki10 ki6 tl fu0 fp0 bt xw) (hMi : InvM cI cM cT cJ cZ q kc0 kc1 kc9 kc10 kc6 ki0 ki1 ki9 ki10 ki6 tl fu0 fp0 bt mw) (hP : va_P D vwCl (xw ++ mw) H) (hD : va_D (fun q : Nat => s.heap.size ≤ q) (xw ++ mw)) (hS : va_S (fun q : Nat => s.heap.size ≤ q) s.heap H locs) (hl : lv_has ls 4 [(0, .ref b), (1, .ref x), (2, .ref q), (3, .int ii)]), W p l e room_1 s m #[Value.ref b] below meth c H locs 300 28000 (lw_Z below #[Value.ref b] s) (F0 m 997 ls [])) : ∀ {kc0 kc1 kc9 kc10 kc6 ki0 ki1 ki9 ki10 ki6 tl fu0 fp0 : Int} {bt : Nat → Int} {xw mw : va_W} {H : Heap} {locs : List Loc} {ls : Array Slot} (hXi : InvX cI cM cT cJ cZ x kc0 kc1 kc9 kc10 kc6 ki0 ki1 ki9 ki10 ki6 tl fu0 fp0 bt xw) (hMi : InvM cI cM cT cJ cZ q kc0 kc1 kc9 kc10 kc6 ki0 ki1 ki9 ki10 ki6 tl fu0 fp0 bt mw) (hP : va_P D vwCl (xw ++ mw) H) (hD : va_D (fun q : Nat => s.heap.size ≤ q) (xw ++ mw)) (hS : va_S (fun q : Nat => s.heap.size ≤ q) s.heap H locs) (hl : lv_has ls 4 [(0, .ref b), (1, .ref x), (2, .ref q), (3, .int ii)]), W p l e room_1 s m #[Value.ref b] below meth c H locs 300 28000 (lw_Z below #[Value.ref b] s) (F0 m 879 ls []) := by
  intro kc0 kc1 kc9 kc10 kc6 ki0 ki1 ki9 ki10 ki6 tl fu0 fp0 bt xw mw H locs ls hXi hMi hP hD hS hl
  have hx := Z.1
  have hb := Z.2.1
  have hbA : ¬ (fun q : Nat => s.heap.size ≤ q) b := Nat.not_le.mpr hbl
  obtain ⟨fs1, hd1⟩ := InvX.head hXi
  obtain ⟨fs2, hd2⟩ := InvM.head hMi
  refine lv_aload_n hx hb dL_law_879 rfl (lv_at hl 1 rfl) ?_
  refine lv_aload_n hx hb dL_law_880 rfl (lv_at hl 0 rfl) ?_
  refine lv_iload_n hx hb dL_law_881 rfl (lv_at hl 3 rfl) ?_
  refine lv_iconst (v := 1) hx hb dL_law_882 (by decide) ?_
  refine lv_iadd hx hb dL_law_883 ?_
  refine va_sld hx hb hX hbl hbA hS (zin h0 h1 hL (by decide)) dL_law_884 ?_
  refine lv_aload_n hx hb dL_law_885 rfl (lv_at hl 0 rfl) ?_
  refine lv_iload_n hx hb dL_law_886 rfl (lv_at hl 3 rfl) ?_
  refine lv_iconst (v := 2) hx hb dL_law_887 (by decide) ?_
  refine lv_iadd hx hb dL_law_888 ?_
  refine va_sld hx hb hX hbl hbA hS (zin h0 h1 hL (by decide)) dL_law_889 ?_
  refine lv_aload_n hx hb dL_law_890 rfl (lv_at hl 0 rfl) ?_
  refine lv_iload_n hx hb dL_law_891 rfl (lv_at hl 3 rfl) ?_
  refine lv_iconst (v := 3) hx hb dL_law_892 (by decide) ?_
  refine lv_iadd hx hb dL_law_893 ?_
  refine va_sld hx hb hX hbl hbA hS (zin h0 h1 hL (by decide)) dL_law_894 ?_
  have hDc := (va_D_left hD)
  refine raw_Vi (ci := 11) (q0 := 0) (nA := 3) (As := [.int (xs (ii + 1).toNatClampNeg), .int (xs (ii + 2).toNatClampNeg), .int (xs (ii + 3).toNatClampNeg)]) (rest := []) Z hl.1 (w_X_tried l D cI cM cT cJ cZ x kc0 kc1 kc9 kc10 kc6 ki0 ki1 ki9 ki10 ki6 tl fu0 fp0 bt (xs (ii + 1).toNatClampNeg) (xs (ii + 2).toNatClampNeg) (xs (ii + 3).toNatClampNeg) hXi) (bw_V bw_958 bw_959 bw_960 bw_80 bw_961) ⟨by decide +kernel, by decide +kernel, by decide +kernel⟩ rfl ⟨Nat.le_of_ble_eq_true rfl, Nat.le_of_ble_eq_true rfl⟩ rfl rfl hd1 (va_P_left hP) hDc hS rfl (Nat.le_of_ble_eq_true rfl) dL_law_895 ⟨Nat.le_of_ble_eq_true rfl, Nat.le_of_ble_eq_true rfl⟩ (fun r1 u H locs h9 hk9 hP1 hD1 hS1 => ?_)
  obtain ⟨d0, d1, d9, d10, d6, j0, j1, j9, j10, j6, tl_, fu_, fp_, bn, hrel1, hX2⟩ := h9
  obtain ⟨hP, hD⟩ := joinL hP hD hk9 (raw_free hDc Z.2.2.2.2.2.2.2.1 hS) hP1 hD1
  have hS := hS1
  clear hS1
  refine lv_pop hx hb dL_law_898 rfl ?_
  refine lv_aload_n hx hb dL_law_899 rfl (lv_at hl 2 rfl) ?_
  refine lv_aload_n hx hb dL_law_900 rfl (lv_at hl 0 rfl) ?_
  refine lv_iload_n hx hb dL_law_901 rfl (lv_at hl 3 rfl) ?_
  refine lv_iconst (v := 1) hx hb dL_law_902 (by decide) ?_
  refine lv_iadd hx hb dL_law_903 ?_
  refine va_sld hx hb hX hbl hbA hS (zin h0 h1 hL (by decide)) dL_law_904 ?_
  refine lv_aload_n hx hb dL_law_905 rfl (lv_at hl 0 rfl) ?_
  refine lv_iload_n hx hb dL_law_906 rfl (lv_at hl 3 rfl) ?_
  refine lv_iconst (v := 2) hx hb dL_law_907 (by decide) ?_
  refine lv_iadd hx hb dL_law_908 ?_
  refine va_sld hx hb hX hbl hbA hS (zin h0 h1 hL (by decide)) dL_law_909 ?_
  refine lv_aload_n hx hb dL_law_910 rfl (lv_at hl 0 rfl) ?_
  refine lv_iload_n hx hb dL_law_911 rfl (lv_at hl 3 rfl) ?_
  refine lv_iconst (v := 3) hx hb dL_law_912 (by decide) ?_
  refine lv_iadd hx hb dL_law_913 ?_
  refine va_sld hx hb hX hbl hbA hS (zin h0 h1 hL (by decide)) dL_law_914 ?_
  have hDc := (va_D_right hD)
  refine raw_Vi (ci := 12) (q0 := 0) (nA := 3) (As := [.int (xs (ii + 1).toNatClampNeg), .int (xs (ii + 2).toNatClampNeg), .int (xs (ii + 3).toNatClampNeg)]) (rest := []) Z hl.1 (w_M_tried l D cI cM cT cJ cZ q kc0 kc1 kc9 kc10 kc6 ki0 ki1 ki9 ki10 ki6 tl fu0 fp0 bt (xs (ii + 1).toNatClampNeg) (xs (ii + 2).toNatClampNeg) (xs (ii + 3).toNatClampNeg) hMi) (bw_V bw_1442 bw_1443 bw_1444 bw_92 bw_1445) ⟨by decide +kernel, by decide +kernel, by decide +kernel⟩ rfl ⟨Nat.le_of_ble_eq_true rfl, Nat.le_of_ble_eq_true rfl⟩ rfl rfl hd2 (va_P_right hP) hDc hS rfl (Nat.le_of_ble_eq_true rfl) dL_law_915 ⟨Nat.le_of_ble_eq_true rfl, Nat.le_of_ble_eq_true rfl⟩ (fun r2 u H locs h9 hk9 hP1 hD1 hS1 => ?_)
  obtain ⟨d0m, d1m, d9m, d10m, d6m, j0m, j1m, j9m, j10m, j6m, tl_m, fu_m, fp_m, bnm, hrel2, hM2⟩ := h9
  obtain ⟨hP, hD⟩ := joinR hP hD hk9 (raw_free hDc Z.2.2.2.2.2.2.2.1 hS) hP1 hD1
  have hS := hS1
  clear hS1
  have hbn : bnm = bn := hrel2.2.2.2.2.2.2.2.2.2.2.2.2.2.trans hrel1.2.2.2.2.2.2.2.2.2.2.2.2.2.symm
  have heq : d0m = d0 ∧ d1m = d1 ∧ d9m = d9 ∧ d10m = d10 ∧ d6m = d6 ∧ j0m = j0 ∧ j1m = j1 ∧ j9m = j9 ∧ j10m = j10 ∧ j6m = j6 ∧ tl_m = tl_ ∧ fu_m = fu_ ∧ fp_m = fp_ := by omega
  obtain ⟨rfl, rfl, rfl, rfl, rfl, rfl, rfl, rfl, rfl, rfl, rfl, rfl, rfl⟩ := heq
  subst hbn
  refine lv_pop hx hb dL_law_918 rfl ?_
  refine lv_goto (tgt := 997) hx hb dL_law_919 (by decide) ?_
  exact kk hX2 hM2 hP hD hS hl
set_option maxHeartbeats 4000000 in
set_option maxRecDepth 100000 in
theorem law_24 {p : Program} {l : Launch} {e : Env} {s : State} {m : MethodId} {below : List Frame} {meth : Method} {c : Code} {b L : Nat} {xs : Nat → Int32} {D : va_G} {cI cM cT cJ cZ : ClassId} {ii : Int32} {x q : Nat} (Z : Zx p s m #[Value.ref b] meth c code 4 ret R_law (fun q : Nat => s.heap.size ≤ q) (ty3 cI cM cT cJ cZ) D) (hX : va_X b L xs s s.heap) (hbl : b < s.heap.size) (hL : L ≤ 3072) (h0 : 0 ≤ ii.toInt) (h1 : ii.toInt + 6 ≤ (L : Int)) (kk : ∀ {kc0 kc1 kc9 kc10 kc6 ki0 ki1 ki9 ki10 ki6 tl fu0 fp0 : Int} {bt : Nat → Int} {xw mw : va_W} {H : Heap} {locs : List Loc} {ls : Array Slot} (hXi : InvX cI cM cT cJ cZ x kc0 kc1 kc9 kc10 kc6 ki0 ki1 ki9 ki10 ki6 tl fu0 fp0 bt xw) (hMi : InvM cI cM cT cJ cZ q kc0 kc1 kc9 kc10 kc6 ki0 ki1 ki9 ki10 ki6 tl fu0 fp0 bt mw) (hP : va_P D vwCl (xw ++ mw) H) (hD : va_D (fun q : Nat => s.heap.size ≤ q) (xw ++ mw)) (hS : va_S (fun q : Nat => s.heap.size ≤ q) s.heap H locs) (hl : lv_has ls 4 [(0, .ref b), (1, .ref x), (2, .ref q), (3, .int ii)]), W p l e room_1 s m #[Value.ref b] below meth c H locs 300 28000 (lw_Z below #[Value.ref b] s) (F0 m 997 ls [])) : ∀ {kc0 kc1 kc9 kc10 kc6 ki0 ki1 ki9 ki10 ki6 tl fu0 fp0 : Int} {bt : Nat → Int} {xw mw : va_W} {H : Heap} {locs : List Loc} {ls : Array Slot} (hXi : InvX cI cM cT cJ cZ x kc0 kc1 kc9 kc10 kc6 ki0 ki1 ki9 ki10 ki6 tl fu0 fp0 bt xw) (hMi : InvM cI cM cT cJ cZ q kc0 kc1 kc9 kc10 kc6 ki0 ki1 ki9 ki10 ki6 tl fu0 fp0 bt mw) (hP : va_P D vwCl (xw ++ mw) H) (hD : va_D (fun q : Nat => s.heap.size ≤ q) (xw ++ mw)) (hS : va_S (fun q : Nat => s.heap.size ≤ q) s.heap H locs) (hl : lv_has ls 4 [(0, .ref b), (1, .ref x), (2, .ref q), (3, .int ii)]), W p l e room_1 s m #[Value.ref b] below meth c H locs 300 28000 (lw_Z below #[Value.ref b] s) (F0 m 922 ls []) := by
  intro kc0 kc1 kc9 kc10 kc6 ki0 ki1 ki9 ki10 ki6 tl fu0 fp0 bt xw mw H locs ls hXi hMi hP hD hS hl
  have hx := Z.1
  have hb := Z.2.1
  have hbA : ¬ (fun q : Nat => s.heap.size ≤ q) b := Nat.not_le.mpr hbl
  obtain ⟨fs1, hd1⟩ := InvX.head hXi
  obtain ⟨fs2, hd2⟩ := InvM.head hMi
  refine lv_aload_n hx hb dL_law_922 rfl (lv_at hl 1 rfl) ?_
  have hDc := (va_D_left hD)
  refine raw_Vi (ci := 11) (q0 := 0) (nA := 0) (As := []) (rest := []) Z hl.1 (w_X_taught l D cI cM cT cJ cZ x kc0 kc1 kc9 kc10 kc6 ki0 ki1 ki9 ki10 ki6 tl fu0 fp0 bt  hXi) (bw_V bw_962 bw_963 bw_964 bw_80 bw_965) ⟨by decide +kernel, by decide +kernel, by decide +kernel⟩ rfl ⟨Nat.le_of_ble_eq_true rfl, Nat.le_of_ble_eq_true rfl⟩ rfl rfl hd1 (va_P_left hP) hDc hS rfl (Nat.le_of_ble_eq_true rfl) dL_law_923 ⟨Nat.le_of_ble_eq_true rfl, Nat.le_of_ble_eq_true rfl⟩ (fun r1 u H locs h9 hk9 hP1 hD1 hS1 => ?_)
  obtain ⟨d0, d1, d9, d10, d6, j0, j1, j9, j10, j6, tl_, fu_, fp_, bn, hrel1, hX2⟩ := h9
  obtain ⟨hP, hD⟩ := joinL hP hD hk9 (raw_free hDc Z.2.2.2.2.2.2.2.1 hS) hP1 hD1
  have hS := hS1
  clear hS1
  refine lv_pop hx hb dL_law_926 rfl ?_
  refine lv_aload_n hx hb dL_law_927 rfl (lv_at hl 2 rfl) ?_
  have hDc := (va_D_right hD)
  refine raw_Vi (ci := 12) (q0 := 0) (nA := 0) (As := []) (rest := []) Z hl.1 (w_M_taught l D cI cM cT cJ cZ q kc0 kc1 kc9 kc10 kc6 ki0 ki1 ki9 ki10 ki6 tl fu0 fp0 bt  hMi) (bw_V bw_1446 bw_1447 bw_1448 bw_92 bw_1449) ⟨by decide +kernel, by decide +kernel, by decide +kernel⟩ rfl ⟨Nat.le_of_ble_eq_true rfl, Nat.le_of_ble_eq_true rfl⟩ rfl rfl hd2 (va_P_right hP) hDc hS rfl (Nat.le_of_ble_eq_true rfl) dL_law_928 ⟨Nat.le_of_ble_eq_true rfl, Nat.le_of_ble_eq_true rfl⟩ (fun r2 u H locs h9 hk9 hP1 hD1 hS1 => ?_)
  obtain ⟨d0m, d1m, d9m, d10m, d6m, j0m, j1m, j9m, j10m, j6m, tl_m, fu_m, fp_m, bnm, hrel2, hM2⟩ := h9
  obtain ⟨hP, hD⟩ := joinR hP hD hk9 (raw_free hDc Z.2.2.2.2.2.2.2.1 hS) hP1 hD1
  have hS := hS1
  clear hS1
  have hbn : bnm = bn := hrel2.2.2.2.2.2.2.2.2.2.2.2.2.2.trans hrel1.2.2.2.2.2.2.2.2.2.2.2.2.2.symm
  have heq : d0m = d0 ∧ d1m = d1 ∧ d9m = d9 ∧ d10m = d10 ∧ d6m = d6 ∧ j0m = j0 ∧ j1m = j1 ∧ j9m = j9 ∧ j10m = j10 ∧ j6m = j6 ∧ tl_m = tl_ ∧ fu_m = fu_ ∧ fp_m = fp_ := by omega
  obtain ⟨rfl, rfl, rfl, rfl, rfl, rfl, rfl, rfl, rfl, rfl, rfl, rfl, rfl⟩ := heq
  subst hbn
  refine lv_pop hx hb dL_law_931 rfl ?_
  refine lv_goto (tgt := 997) hx hb dL_law_932 (by decide) ?_
  exact kk hX2 hM2 hP hD hS hl
set_option maxHeartbeats 4000000 in
set_option maxRecDepth 100000 in
theorem law_25 {p : Program} {l : Launch} {e : Env} {s : State} {m : MethodId} {below : List Frame} {meth : Method} {c : Code} {b L : Nat} {xs : Nat → Int32} {D : va_G} {cI cM cT cJ cZ : ClassId} {ii : Int32} {x q : Nat} (Z : Zx p s m #[Value.ref b] meth c code 4 ret R_law (fun q : Nat => s.heap.size ≤ q) (ty3 cI cM cT cJ cZ) D) (hX : va_X b L xs s s.heap) (hbl : b < s.heap.size) (hL : L ≤ 3072) (h0 : 0 ≤ ii.toInt) (h1 : ii.toInt + 6 ≤ (L : Int)) (kk : ∀ {kc0 kc1 kc9 kc10 kc6 ki0 ki1 ki9 ki10 ki6 tl fu0 fp0 : Int} {bt : Nat → Int} {xw mw : va_W} {H : Heap} {locs : List Loc} {ls : Array Slot} (hXi : InvX cI cM cT cJ cZ x kc0 kc1 kc9 kc10 kc6 ki0 ki1 ki9 ki10 ki6 tl fu0 fp0 bt xw) (hMi : InvM cI cM cT cJ cZ q kc0 kc1 kc9 kc10 kc6 ki0 ki1 ki9 ki10 ki6 tl fu0 fp0 bt mw) (hP : va_P D vwCl (xw ++ mw) H) (hD : va_D (fun q : Nat => s.heap.size ≤ q) (xw ++ mw)) (hS : va_S (fun q : Nat => s.heap.size ≤ q) s.heap H locs) (hl : lv_has ls 4 [(0, .ref b), (1, .ref x), (2, .ref q), (3, .int ii)]), W p l e room_1 s m #[Value.ref b] below meth c H locs 300 28000 (lw_Z below #[Value.ref b] s) (F0 m 997 ls [])) : ∀ {kc0 kc1 kc9 kc10 kc6 ki0 ki1 ki9 ki10 ki6 tl fu0 fp0 : Int} {bt : Nat → Int} {xw mw : va_W} {H : Heap} {locs : List Loc} {ls : Array Slot} (hXi : InvX cI cM cT cJ cZ x kc0 kc1 kc9 kc10 kc6 ki0 ki1 ki9 ki10 ki6 tl fu0 fp0 bt xw) (hMi : InvM cI cM cT cJ cZ q kc0 kc1 kc9 kc10 kc6 ki0 ki1 ki9 ki10 ki6 tl fu0 fp0 bt mw) (hP : va_P D vwCl (xw ++ mw) H) (hD : va_D (fun q : Nat => s.heap.size ≤ q) (xw ++ mw)) (hS : va_S (fun q : Nat => s.heap.size ≤ q) s.heap H locs) (hl : lv_has ls 4 [(0, .ref b), (1, .ref x), (2, .ref q), (3, .int ii)]), W p l e room_1 s m #[Value.ref b] below meth c H locs 300 28000 (lw_Z below #[Value.ref b] s) (F0 m 935 ls []) := by
  intro kc0 kc1 kc9 kc10 kc6 ki0 ki1 ki9 ki10 ki6 tl fu0 fp0 bt xw mw H locs ls hXi hMi hP hD hS hl
  have hx := Z.1
  have hb := Z.2.1
  have hbA : ¬ (fun q : Nat => s.heap.size ≤ q) b := Nat.not_le.mpr hbl
  obtain ⟨fs1, hd1⟩ := InvX.head hXi
  obtain ⟨fs2, hd2⟩ := InvM.head hMi
  refine lv_aload_n hx hb dL_law_935 rfl (lv_at hl 1 rfl) ?_
  have hDc := (va_D_left hD)
  refine raw_Vi (ci := 11) (q0 := 0) (nA := 0) (As := []) (rest := []) Z hl.1 (w_X_never l D cI cM cT cJ cZ x kc0 kc1 kc9 kc10 kc6 ki0 ki1 ki9 ki10 ki6 tl fu0 fp0 bt  hXi) (bw_V bw_970 bw_971 bw_972 bw_80 bw_973) ⟨by decide +kernel, by decide +kernel, by decide +kernel⟩ rfl ⟨Nat.le_of_ble_eq_true rfl, Nat.le_of_ble_eq_true rfl⟩ rfl rfl hd1 (va_P_left hP) hDc hS rfl (Nat.le_of_ble_eq_true rfl) dL_law_936 ⟨Nat.le_of_ble_eq_true rfl, Nat.le_of_ble_eq_true rfl⟩ (fun r1 u H locs h9 hk9 hP1 hD1 hS1 => ?_)
  obtain ⟨d0, d1, d9, d10, d6, j0, j1, j9, j10, j6, tl_, fu_, fp_, bn, hrel1, hX2⟩ := h9
  obtain ⟨hP, hD⟩ := joinL hP hD hk9 (raw_free hDc Z.2.2.2.2.2.2.2.1 hS) hP1 hD1
  have hS := hS1
  clear hS1
  refine lv_pop hx hb dL_law_939 rfl ?_
  refine lv_aload_n hx hb dL_law_940 rfl (lv_at hl 2 rfl) ?_
  have hDc := (va_D_right hD)
  refine raw_Vi (ci := 12) (q0 := 0) (nA := 0) (As := []) (rest := []) Z hl.1 (w_M_never l D cI cM cT cJ cZ q kc0 kc1 kc9 kc10 kc6 ki0 ki1 ki9 ki10 ki6 tl fu0 fp0 bt  hMi) (bw_V bw_1454 bw_1455 bw_1456 bw_92 bw_1457) ⟨by decide +kernel, by decide +kernel, by decide +kernel⟩ rfl ⟨Nat.le_of_ble_eq_true rfl, Nat.le_of_ble_eq_true rfl⟩ rfl rfl hd2 (va_P_right hP) hDc hS rfl (Nat.le_of_ble_eq_true rfl) dL_law_941 ⟨Nat.le_of_ble_eq_true rfl, Nat.le_of_ble_eq_true rfl⟩ (fun r2 u H locs h9 hk9 hP1 hD1 hS1 => ?_)
  obtain ⟨d0m, d1m, d9m, d10m, d6m, j0m, j1m, j9m, j10m, j6m, tl_m, fu_m, fp_m, bnm, hrel2, hM2⟩ := h9
  obtain ⟨hP, hD⟩ := joinR hP hD hk9 (raw_free hDc Z.2.2.2.2.2.2.2.1 hS) hP1 hD1
  have hS := hS1
  clear hS1
  have hbn : bnm = bn := hrel2.2.2.2.2.2.2.2.2.2.2.2.2.2.trans hrel1.2.2.2.2.2.2.2.2.2.2.2.2.2.symm
  have heq : d0m = d0 ∧ d1m = d1 ∧ d9m = d9 ∧ d10m = d10 ∧ d6m = d6 ∧ j0m = j0 ∧ j1m = j1 ∧ j9m = j9 ∧ j10m = j10 ∧ j6m = j6 ∧ tl_m = tl_ ∧ fu_m = fu_ ∧ fp_m = fp_ := by omega
  obtain ⟨rfl, rfl, rfl, rfl, rfl, rfl, rfl, rfl, rfl, rfl, rfl, rfl, rfl⟩ := heq
  subst hbn
  refine lv_pop hx hb dL_law_944 rfl ?_
  refine lv_goto (tgt := 997) hx hb dL_law_945 (by decide) ?_
  exact kk hX2 hM2 hP hD hS hl
set_option maxHeartbeats 4000000 in
set_option maxRecDepth 100000 in
theorem law_26 {p : Program} {l : Launch} {e : Env} {s : State} {m : MethodId} {below : List Frame} {meth : Method} {c : Code} {b L : Nat} {xs : Nat → Int32} {D : va_G} {cI cM cT cJ cZ : ClassId} {ii : Int32} {x q : Nat} (Z : Zx p s m #[Value.ref b] meth c code 4 ret R_law (fun q : Nat => s.heap.size ≤ q) (ty3 cI cM cT cJ cZ) D) (hX : va_X b L xs s s.heap) (hbl : b < s.heap.size) (hL : L ≤ 3072) (h0 : 0 ≤ ii.toInt) (h1 : ii.toInt + 6 ≤ (L : Int)) (kk : ∀ {kc0 kc1 kc9 kc10 kc6 ki0 ki1 ki9 ki10 ki6 tl fu0 fp0 : Int} {bt : Nat → Int} {xw mw : va_W} {H : Heap} {locs : List Loc} {ls : Array Slot} (hXi : InvX cI cM cT cJ cZ x kc0 kc1 kc9 kc10 kc6 ki0 ki1 ki9 ki10 ki6 tl fu0 fp0 bt xw) (hMi : InvM cI cM cT cJ cZ q kc0 kc1 kc9 kc10 kc6 ki0 ki1 ki9 ki10 ki6 tl fu0 fp0 bt mw) (hP : va_P D vwCl (xw ++ mw) H) (hD : va_D (fun q : Nat => s.heap.size ≤ q) (xw ++ mw)) (hS : va_S (fun q : Nat => s.heap.size ≤ q) s.heap H locs) (hl : lv_has ls 4 [(0, .ref b), (1, .ref x), (2, .ref q), (3, .int ii)]), W p l e room_1 s m #[Value.ref b] below meth c H locs 300 28000 (lw_Z below #[Value.ref b] s) (F0 m 997 ls [])) : ∀ {kc0 kc1 kc9 kc10 kc6 ki0 ki1 ki9 ki10 ki6 tl fu0 fp0 : Int} {bt : Nat → Int} {xw mw : va_W} {H : Heap} {locs : List Loc} {ls : Array Slot} (hXi : InvX cI cM cT cJ cZ x kc0 kc1 kc9 kc10 kc6 ki0 ki1 ki9 ki10 ki6 tl fu0 fp0 bt xw) (hMi : InvM cI cM cT cJ cZ q kc0 kc1 kc9 kc10 kc6 ki0 ki1 ki9 ki10 ki6 tl fu0 fp0 bt mw) (hP : va_P D vwCl (xw ++ mw) H) (hD : va_D (fun q : Nat => s.heap.size ≤ q) (xw ++ mw)) (hS : va_S (fun q : Nat => s.heap.size ≤ q) s.heap H locs) (hl : lv_has ls 4 [(0, .ref b), (1, .ref x), (2, .ref q), (3, .int ii)]), W p l e room_1 s m #[Value.ref b] below meth c H locs 300 28000 (lw_Z below #[Value.ref b] s) (F0 m 948 ls []) := by
  intro kc0 kc1 kc9 kc10 kc6 ki0 ki1 ki9 ki10 ki6 tl fu0 fp0 bt xw mw H locs ls hXi hMi hP hD hS hl
  have hx := Z.1
  have hb := Z.2.1
  have hbA : ¬ (fun q : Nat => s.heap.size ≤ q) b := Nat.not_le.mpr hbl
  obtain ⟨fs1, hd1⟩ := InvX.head hXi
  obtain ⟨fs2, hd2⟩ := InvM.head hMi
  refine lv_aload_n hx hb dL_law_948 rfl (lv_at hl 1 rfl) ?_
  have hDc := (va_D_left hD)
  refine raw_Vi (ci := 11) (q0 := 0) (nA := 0) (As := []) (rest := []) Z hl.1 (w_X_image l D cI cM cT cJ cZ x kc0 kc1 kc9 kc10 kc6 ki0 ki1 ki9 ki10 ki6 tl fu0 fp0 bt  hXi) (bw_V bw_978 bw_979 bw_980 bw_80 bw_981) ⟨by decide +kernel, by decide +kernel, by decide +kernel⟩ rfl ⟨Nat.le_of_ble_eq_true rfl, Nat.le_of_ble_eq_true rfl⟩ rfl rfl hd1 (va_P_left hP) hDc hS rfl (Nat.le_of_ble_eq_true rfl) dL_law_949 ⟨Nat.le_of_ble_eq_true rfl, Nat.le_of_ble_eq_true rfl⟩ (fun r1 u H locs h9 hk9 hP1 hD1 hS1 => ?_)
  obtain ⟨d0, d1, d9, d10, d6, j0, j1, j9, j10, j6, tl_, fu_, fp_, bn, hrel1, hX2⟩ := h9
  obtain ⟨hP, hD⟩ := joinL hP hD hk9 (raw_free hDc Z.2.2.2.2.2.2.2.1 hS) hP1 hD1
  have hS := hS1
  clear hS1
  refine lv_pop hx hb dL_law_952 rfl ?_
  refine lv_aload_n hx hb dL_law_953 rfl (lv_at hl 2 rfl) ?_
  have hDc := (va_D_right hD)
  refine raw_Vi (ci := 12) (q0 := 0) (nA := 0) (As := []) (rest := []) Z hl.1 (w_M_image l D cI cM cT cJ cZ q kc0 kc1 kc9 kc10 kc6 ki0 ki1 ki9 ki10 ki6 tl fu0 fp0 bt  hMi) (bw_V bw_1458 bw_1459 bw_1460 bw_92 bw_1461) ⟨by decide +kernel, by decide +kernel, by decide +kernel⟩ rfl ⟨Nat.le_of_ble_eq_true rfl, Nat.le_of_ble_eq_true rfl⟩ rfl rfl hd2 (va_P_right hP) hDc hS rfl (Nat.le_of_ble_eq_true rfl) dL_law_954 ⟨Nat.le_of_ble_eq_true rfl, Nat.le_of_ble_eq_true rfl⟩ (fun r2 u H locs h9 hk9 hP1 hD1 hS1 => ?_)
  obtain ⟨d0m, d1m, d9m, d10m, d6m, j0m, j1m, j9m, j10m, j6m, tl_m, fu_m, fp_m, bnm, hrel2, hM2⟩ := h9
  obtain ⟨hP, hD⟩ := joinR hP hD hk9 (raw_free hDc Z.2.2.2.2.2.2.2.1 hS) hP1 hD1
  have hS := hS1
  clear hS1
  have hbn : bnm = bn := hrel2.2.2.2.2.2.2.2.2.2.2.2.2.2.trans hrel1.2.2.2.2.2.2.2.2.2.2.2.2.2.symm
  have heq : d0m = d0 ∧ d1m = d1 ∧ d9m = d9 ∧ d10m = d10 ∧ d6m = d6 ∧ j0m = j0 ∧ j1m = j1 ∧ j9m = j9 ∧ j10m = j10 ∧ j6m = j6 ∧ tl_m = tl_ ∧ fu_m = fu_ ∧ fp_m = fp_ := by omega
  obtain ⟨rfl, rfl, rfl, rfl, rfl, rfl, rfl, rfl, rfl, rfl, rfl, rfl, rfl⟩ := heq
  subst hbn
  refine lv_pop hx hb dL_law_957 rfl ?_
  refine lv_goto (tgt := 997) hx hb dL_law_958 (by decide) ?_
  exact kk hX2 hM2 hP hD hS hl
set_option maxHeartbeats 4000000 in
set_option maxRecDepth 100000 in
theorem law_27 {p : Program} {l : Launch} {e : Env} {s : State} {m : MethodId} {below : List Frame} {meth : Method} {c : Code} {b L : Nat} {xs : Nat → Int32} {D : va_G} {cI cM cT cJ cZ : ClassId} {ii : Int32} {x q : Nat} (Z : Zx p s m #[Value.ref b] meth c code 4 ret R_law (fun q : Nat => s.heap.size ≤ q) (ty3 cI cM cT cJ cZ) D) (hX : va_X b L xs s s.heap) (hbl : b < s.heap.size) (hL : L ≤ 3072) (h0 : 0 ≤ ii.toInt) (h1 : ii.toInt + 6 ≤ (L : Int)) (kk : ∀ {kc0 kc1 kc9 kc10 kc6 ki0 ki1 ki9 ki10 ki6 tl fu0 fp0 : Int} {bt : Nat → Int} {xw mw : va_W} {H : Heap} {locs : List Loc} {ls : Array Slot} (hXi : InvX cI cM cT cJ cZ x kc0 kc1 kc9 kc10 kc6 ki0 ki1 ki9 ki10 ki6 tl fu0 fp0 bt xw) (hMi : InvM cI cM cT cJ cZ q kc0 kc1 kc9 kc10 kc6 ki0 ki1 ki9 ki10 ki6 tl fu0 fp0 bt mw) (hP : va_P D vwCl (xw ++ mw) H) (hD : va_D (fun q : Nat => s.heap.size ≤ q) (xw ++ mw)) (hS : va_S (fun q : Nat => s.heap.size ≤ q) s.heap H locs) (hl : lv_has ls 4 [(0, .ref b), (1, .ref x), (2, .ref q), (3, .int ii)]), W p l e room_1 s m #[Value.ref b] below meth c H locs 300 28000 (lw_Z below #[Value.ref b] s) (F0 m 997 ls [])) : ∀ {kc0 kc1 kc9 kc10 kc6 ki0 ki1 ki9 ki10 ki6 tl fu0 fp0 : Int} {bt : Nat → Int} {xw mw : va_W} {H : Heap} {locs : List Loc} {ls : Array Slot} (hXi : InvX cI cM cT cJ cZ x kc0 kc1 kc9 kc10 kc6 ki0 ki1 ki9 ki10 ki6 tl fu0 fp0 bt xw) (hMi : InvM cI cM cT cJ cZ q kc0 kc1 kc9 kc10 kc6 ki0 ki1 ki9 ki10 ki6 tl fu0 fp0 bt mw) (hP : va_P D vwCl (xw ++ mw) H) (hD : va_D (fun q : Nat => s.heap.size ≤ q) (xw ++ mw)) (hS : va_S (fun q : Nat => s.heap.size ≤ q) s.heap H locs) (hl : lv_has ls 4 [(0, .ref b), (1, .ref x), (2, .ref q), (3, .int ii)]), W p l e room_1 s m #[Value.ref b] below meth c H locs 300 28000 (lw_Z below #[Value.ref b] s) (F0 m 961 ls []) := by
  intro kc0 kc1 kc9 kc10 kc6 ki0 ki1 ki9 ki10 ki6 tl fu0 fp0 bt xw mw H locs ls hXi hMi hP hD hS hl
  have hx := Z.1
  have hb := Z.2.1
  have hbA : ¬ (fun q : Nat => s.heap.size ≤ q) b := Nat.not_le.mpr hbl
  obtain ⟨fs1, hd1⟩ := InvX.head hXi
  obtain ⟨fs2, hd2⟩ := InvM.head hMi
  refine lv_aload_n hx hb dL_law_961 rfl (lv_at hl 1 rfl) ?_
  have hDc := (va_D_left hD)
  refine raw_Vi (ci := 11) (q0 := 0) (nA := 0) (As := []) (rest := []) Z hl.1 (w_X_back l D cI cM cT cJ cZ x kc0 kc1 kc9 kc10 kc6 ki0 ki1 ki9 ki10 ki6 tl fu0 fp0 bt  hXi) (bw_V bw_1002 bw_1003 bw_1004 bw_80 bw_1005) ⟨by decide +kernel, by decide +kernel, by decide +kernel⟩ rfl ⟨Nat.le_of_ble_eq_true rfl, Nat.le_of_ble_eq_true rfl⟩ rfl rfl hd1 (va_P_left hP) hDc hS rfl (Nat.le_of_ble_eq_true rfl) dL_law_962 ⟨Nat.le_of_ble_eq_true rfl, Nat.le_of_ble_eq_true rfl⟩ (fun r1 u H locs h9 hk9 hP1 hD1 hS1 => ?_)
  obtain ⟨d0, d1, d9, d10, d6, j0, j1, j9, j10, j6, tl_, fu_, fp_, bn, hrel1, hX2⟩ := h9
  obtain ⟨hP, hD⟩ := joinL hP hD hk9 (raw_free hDc Z.2.2.2.2.2.2.2.1 hS) hP1 hD1
  have hS := hS1
  clear hS1
  refine lv_pop hx hb dL_law_965 rfl ?_
  refine lv_aload_n hx hb dL_law_966 rfl (lv_at hl 2 rfl) ?_
  have hDc := (va_D_right hD)
  refine raw_Vi (ci := 12) (q0 := 0) (nA := 0) (As := []) (rest := []) Z hl.1 (w_M_back l D cI cM cT cJ cZ q kc0 kc1 kc9 kc10 kc6 ki0 ki1 ki9 ki10 ki6 tl fu0 fp0 bt  hMi) (bw_V bw_1462 bw_1463 bw_1464 bw_92 bw_1465) ⟨by decide +kernel, by decide +kernel, by decide +kernel⟩ rfl ⟨Nat.le_of_ble_eq_true rfl, Nat.le_of_ble_eq_true rfl⟩ rfl rfl hd2 (va_P_right hP) hDc hS rfl (Nat.le_of_ble_eq_true rfl) dL_law_967 ⟨Nat.le_of_ble_eq_true rfl, Nat.le_of_ble_eq_true rfl⟩ (fun r2 u H locs h9 hk9 hP1 hD1 hS1 => ?_)
  obtain ⟨d0m, d1m, d9m, d10m, d6m, j0m, j1m, j9m, j10m, j6m, tl_m, fu_m, fp_m, bnm, hrel2, hM2⟩ := h9
  obtain ⟨hP, hD⟩ := joinR hP hD hk9 (raw_free hDc Z.2.2.2.2.2.2.2.1 hS) hP1 hD1
  have hS := hS1
  clear hS1
  have hbn : bnm = bn := hrel2.2.2.2.2.2.2.2.2.2.2.2.2.2.trans hrel1.2.2.2.2.2.2.2.2.2.2.2.2.2.symm
  have heq : d0m = d0 ∧ d1m = d1 ∧ d9m = d9 ∧ d10m = d10 ∧ d6m = d6 ∧ j0m = j0 ∧ j1m = j1 ∧ j9m = j9 ∧ j10m = j10 ∧ j6m = j6 ∧ tl_m = tl_ ∧ fu_m = fu_ ∧ fp_m = fp_ := by omega
  obtain ⟨rfl, rfl, rfl, rfl, rfl, rfl, rfl, rfl, rfl, rfl, rfl, rfl, rfl⟩ := heq
  subst hbn
  refine lv_pop hx hb dL_law_970 rfl ?_
  refine lv_goto (tgt := 997) hx hb dL_law_971 (by decide) ?_
  exact kk hX2 hM2 hP hD hS hl
set_option maxHeartbeats 4000000 in
set_option maxRecDepth 100000 in
theorem law_28 {p : Program} {l : Launch} {e : Env} {s : State} {m : MethodId} {below : List Frame} {meth : Method} {c : Code} {b L : Nat} {xs : Nat → Int32} {D : va_G} {cI cM cT cJ cZ : ClassId} {ii : Int32} {x q : Nat} (Z : Zx p s m #[Value.ref b] meth c code 4 ret R_law (fun q : Nat => s.heap.size ≤ q) (ty3 cI cM cT cJ cZ) D) (hX : va_X b L xs s s.heap) (hbl : b < s.heap.size) (hL : L ≤ 3072) (h0 : 0 ≤ ii.toInt) (h1 : ii.toInt + 6 ≤ (L : Int)) (kk : ∀ {kc0 kc1 kc9 kc10 kc6 ki0 ki1 ki9 ki10 ki6 tl fu0 fp0 : Int} {bt : Nat → Int} {xw mw : va_W} {H : Heap} {locs : List Loc} {ls : Array Slot} (hXi : InvX cI cM cT cJ cZ x kc0 kc1 kc9 kc10 kc6 ki0 ki1 ki9 ki10 ki6 tl fu0 fp0 bt xw) (hMi : InvM cI cM cT cJ cZ q kc0 kc1 kc9 kc10 kc6 ki0 ki1 ki9 ki10 ki6 tl fu0 fp0 bt mw) (hP : va_P D vwCl (xw ++ mw) H) (hD : va_D (fun q : Nat => s.heap.size ≤ q) (xw ++ mw)) (hS : va_S (fun q : Nat => s.heap.size ≤ q) s.heap H locs) (hl : lv_has ls 4 [(0, .ref b), (1, .ref x), (2, .ref q), (3, .int ii)]), W p l e room_1 s m #[Value.ref b] below meth c H locs 300 28000 (lw_Z below #[Value.ref b] s) (F0 m 997 ls [])) : ∀ {kc0 kc1 kc9 kc10 kc6 ki0 ki1 ki9 ki10 ki6 tl fu0 fp0 : Int} {bt : Nat → Int} {xw mw : va_W} {H : Heap} {locs : List Loc} {ls : Array Slot} (hXi : InvX cI cM cT cJ cZ x kc0 kc1 kc9 kc10 kc6 ki0 ki1 ki9 ki10 ki6 tl fu0 fp0 bt xw) (hMi : InvM cI cM cT cJ cZ q kc0 kc1 kc9 kc10 kc6 ki0 ki1 ki9 ki10 ki6 tl fu0 fp0 bt mw) (hP : va_P D vwCl (xw ++ mw) H) (hD : va_D (fun q : Nat => s.heap.size ≤ q) (xw ++ mw)) (hS : va_S (fun q : Nat => s.heap.size ≤ q) s.heap H locs) (hl : lv_has ls 4 [(0, .ref b), (1, .ref x), (2, .ref q), (3, .int ii)]), W p l e room_1 s m #[Value.ref b] below meth c H locs 300 28000 (lw_Z below #[Value.ref b] s) (F0 m 974 ls []) := by
  intro kc0 kc1 kc9 kc10 kc6 ki0 ki1 ki9 ki10 ki6 tl fu0 fp0 bt xw mw H locs ls hXi hMi hP hD hS hl
  have hx := Z.1
  have hb := Z.2.1
  have hbA : ¬ (fun q : Nat => s.heap.size ≤ q) b := Nat.not_le.mpr hbl
  obtain ⟨fs1, hd1⟩ := InvX.head hXi
  obtain ⟨fs2, hd2⟩ := InvM.head hMi
  refine lv_aload_n hx hb dL_law_974 rfl (lv_at hl 1 rfl) ?_
  refine lv_aload_n hx hb dL_law_975 rfl (lv_at hl 0 rfl) ?_
  refine lv_iload_n hx hb dL_law_976 rfl (lv_at hl 3 rfl) ?_
  refine lv_iconst (v := 1) hx hb dL_law_977 (by decide) ?_
  refine lv_iadd hx hb dL_law_978 ?_
  refine va_sld hx hb hX hbl hbA hS (zin h0 h1 hL (by decide)) dL_law_979 ?_
  have hDc := (va_D_left hD)
  refine raw_Vi (ci := 11) (q0 := 0) (nA := 1) (As := [.int (xs (ii + 1).toNatClampNeg)]) (rest := []) Z hl.1 (w_X_about l D cI cM cT cJ cZ x kc0 kc1 kc9 kc10 kc6 ki0 ki1 ki9 ki10 ki6 tl fu0 fp0 bt (xs (ii + 1).toNatClampNeg) hXi) (bw_V bw_1006 bw_1007 bw_1008 bw_80 bw_1009) ⟨by decide +kernel, by decide +kernel, by decide +kernel⟩ rfl ⟨Nat.le_of_ble_eq_true rfl, Nat.le_of_ble_eq_true rfl⟩ rfl rfl hd1 (va_P_left hP) hDc hS rfl (Nat.le_of_ble_eq_true rfl) dL_law_980 ⟨Nat.le_of_ble_eq_true rfl, Nat.le_of_ble_eq_true rfl⟩ (fun r1 u H locs h9 hk9 hP1 hD1 hS1 => ?_)
  obtain ⟨d0, d1, d9, d10, d6, j0, j1, j9, j10, j6, tl_, fu_, fp_, bn, hrel1, hX2⟩ := h9
  obtain ⟨hP, hD⟩ := joinL hP hD hk9 (raw_free hDc Z.2.2.2.2.2.2.2.1 hS) hP1 hD1
  have hS := hS1
  clear hS1
  refine lv_pop hx hb dL_law_983 rfl ?_
  refine lv_aload_n hx hb dL_law_984 rfl (lv_at hl 2 rfl) ?_
  refine lv_aload_n hx hb dL_law_985 rfl (lv_at hl 0 rfl) ?_
  refine lv_iload_n hx hb dL_law_986 rfl (lv_at hl 3 rfl) ?_
  refine lv_iconst (v := 1) hx hb dL_law_987 (by decide) ?_
  refine lv_iadd hx hb dL_law_988 ?_
  refine va_sld hx hb hX hbl hbA hS (zin h0 h1 hL (by decide)) dL_law_989 ?_
  have hDc := (va_D_right hD)
  refine raw_Vi (ci := 12) (q0 := 0) (nA := 1) (As := [.int (xs (ii + 1).toNatClampNeg)]) (rest := []) Z hl.1 (w_M_about l D cI cM cT cJ cZ q kc0 kc1 kc9 kc10 kc6 ki0 ki1 ki9 ki10 ki6 tl fu0 fp0 bt (xs (ii + 1).toNatClampNeg) hMi) (bw_V bw_1466 bw_1467 bw_1468 bw_92 bw_1469) ⟨by decide +kernel, by decide +kernel, by decide +kernel⟩ rfl ⟨Nat.le_of_ble_eq_true rfl, Nat.le_of_ble_eq_true rfl⟩ rfl rfl hd2 (va_P_right hP) hDc hS rfl (Nat.le_of_ble_eq_true rfl) dL_law_990 ⟨Nat.le_of_ble_eq_true rfl, Nat.le_of_ble_eq_true rfl⟩ (fun r2 u H locs h9 hk9 hP1 hD1 hS1 => ?_)
  obtain ⟨d0m, d1m, d9m, d10m, d6m, j0m, j1m, j9m, j10m, j6m, tl_m, fu_m, fp_m, bnm, hrel2, hM2⟩ := h9
  obtain ⟨hP, hD⟩ := joinR hP hD hk9 (raw_free hDc Z.2.2.2.2.2.2.2.1 hS) hP1 hD1
  have hS := hS1
  clear hS1
  have hbn : bnm = bn := hrel2.2.2.2.2.2.2.2.2.2.2.2.2.2.trans hrel1.2.2.2.2.2.2.2.2.2.2.2.2.2.symm
  have heq : d0m = d0 ∧ d1m = d1 ∧ d9m = d9 ∧ d10m = d10 ∧ d6m = d6 ∧ j0m = j0 ∧ j1m = j1 ∧ j9m = j9 ∧ j10m = j10 ∧ j6m = j6 ∧ tl_m = tl_ ∧ fu_m = fu_ ∧ fp_m = fp_ := by omega
  obtain ⟨rfl, rfl, rfl, rfl, rfl, rfl, rfl, rfl, rfl, rfl, rfl, rfl, rfl⟩ := heq
  subst hbn
  refine lv_pop hx hb dL_law_993 rfl ?_
  refine lv_goto (tgt := 997) hx hb dL_law_994 (by decide) ?_
  exact kk hX2 hM2 hP hD hS hl
