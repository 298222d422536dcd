theorem bw_884 : Cond.methodLink "CountingHorsesLaw" 81 ⟨"CountingHorses", "played", "(I)I"⟩ ∈ BW := bw_at 884 (by decide +kernel) (by decide +kernel)
theorem bw_885 : Cond.instanceMethod ⟨"CountingHorses", "played", "(I)I"⟩ ∈ BW := bw_at 885 (by decide +kernel) (by decide +kernel)
theorem bw_886 : Cond.selects "CountingHorses" ⟨"CountingHorses", "played", "(I)I"⟩ ⟨"CountingHorses", "played", "(I)I"⟩ ∈ BW := bw_at 886 (by decide +kernel) (by decide +kernel)
theorem bw_887 : Cond.code ⟨"CountingHorses", "played", "(I)I"⟩ prog_1_method_17_code 6 (some .int) ∈ BW := bw_at 887 (by decide +kernel) (by decide +kernel)
theorem bw_888 : Cond.methodLink "CountingHorsesLaw" 85 ⟨"CountingHorses", "undo", "()I"⟩ ∈ BW := bw_at 888 (by decide +kernel) (by decide +kernel)
theorem bw_889 : Cond.instanceMethod ⟨"CountingHorses", "undo", "()I"⟩ ∈ BW := bw_at 889 (by decide +kernel) (by decide +kernel)
theorem bw_890 : Cond.selects "CountingHorses" ⟨"CountingHorses", "undo", "()I"⟩ ⟨"CountingHorses", "undo", "()I"⟩ ∈ BW := bw_at 890 (by decide +kernel) (by decide +kernel)
theorem bw_891 : Cond.code ⟨"CountingHorses", "undo", "()I"⟩ prog_1_method_18_code 1 (some .int) ∈ BW := bw_at 891 (by decide +kernel) (by decide +kernel)
theorem bw_896 : Cond.methodLink "CountingHorsesLaw" 89 ⟨"CountingHorses", "coach", "(I)I"⟩ ∈ BW := bw_at 896 (by decide +kernel) (by decide +kernel)
theorem bw_897 : Cond.instanceMethod ⟨"CountingHorses", "coach", "(I)I"⟩ ∈ BW := bw_at 897 (by decide +kernel) (by decide +kernel)
theorem bw_898 : Cond.selects "CountingHorses" ⟨"CountingHorses", "coach", "(I)I"⟩ ⟨"CountingHorses", "coach", "(I)I"⟩ ∈ BW := bw_at 898 (by decide +kernel) (by decide +kernel)
theorem bw_899 : Cond.code ⟨"CountingHorses", "coach", "(I)I"⟩ prog_1_method_19_code 2 (some .int) ∈ BW := bw_at 899 (by decide +kernel) (by decide +kernel)
theorem bw_904 : Cond.methodLink "CountingHorsesLaw" 93 ⟨"CountingHorses", "harness", "(III)I"⟩ ∈ BW := bw_at 904 (by decide +kernel) (by decide +kernel)
theorem bw_905 : Cond.instanceMethod ⟨"CountingHorses", "harness", "(III)I"⟩ ∈ BW := bw_at 905 (by decide +kernel) (by decide +kernel)
theorem bw_906 : Cond.selects "CountingHorses" ⟨"CountingHorses", "harness", "(III)I"⟩ ⟨"CountingHorses", "harness", "(III)I"⟩ ∈ BW := bw_at 906 (by decide +kernel) (by decide +kernel)
theorem bw_907 : Cond.code ⟨"CountingHorses", "harness", "(III)I"⟩ prog_1_method_20_code 4 (some .int) ∈ BW := bw_at 907 (by decide +kernel) (by decide +kernel)
theorem bw_922 : Cond.methodLink "CountingHorsesLaw" 97 ⟨"CountingHorses", "least", "(IIZ)I"⟩ ∈ BW := bw_at 922 (by decide +kernel) (by decide +kernel)
theorem bw_923 : Cond.instanceMethod ⟨"CountingHorses", "least", "(IIZ)I"⟩ ∈ BW := bw_at 923 (by decide +kernel) (by decide +kernel)
theorem bw_924 : Cond.selects "CountingHorses" ⟨"CountingHorses", "least", "(IIZ)I"⟩ ⟨"CountingHorses", "least", "(IIZ)I"⟩ ∈ BW := bw_at 924 (by decide +kernel) (by decide +kernel)
theorem bw_925 : Cond.code ⟨"CountingHorses", "least", "(IIZ)I"⟩ prog_1_method_21_code 5 (some .int) ∈ BW := bw_at 925 (by decide +kernel) (by decide +kernel)
theorem bw_932 : Cond.methodLink "CountingHorsesLaw" 102 ⟨"CountingHorses", "thief", "(III)I"⟩ ∈ BW := bw_at 932 (by decide +kernel) (by decide +kernel)
theorem bw_933 : Cond.instanceMethod ⟨"CountingHorses", "thief", "(III)I"⟩ ∈ BW := bw_at 933 (by decide +kernel) (by decide +kernel)
theorem bw_934 : Cond.selects "CountingHorses" ⟨"CountingHorses", "thief", "(III)I"⟩ ⟨"CountingHorses", "thief", "(III)I"⟩ ∈ BW := bw_at 934 (by decide +kernel) (by decide +kernel)
theorem bw_935 : Cond.code ⟨"CountingHorses", "thief", "(III)I"⟩ prog_1_method_22_code 6 (some .int) ∈ BW := bw_at 935 (by decide +kernel) (by decide +kernel)
theorem bw_946 : Cond.methodLink "CountingHorsesLaw" 106 ⟨"CountingHorses", "seen", "(I)I"⟩ ∈ BW := bw_at 946 (by decide +kernel) (by decide +kernel)
theorem bw_947 : Cond.instanceMethod ⟨"CountingHorses", "seen", "(I)I"⟩ ∈ BW := bw_at 947 (by decide +kernel) (by decide +kernel)
theorem bw_948 : Cond.selects "CountingHorses" ⟨"CountingHorses", "seen", "(I)I"⟩ ⟨"CountingHorses", "seen", "(I)I"⟩ ∈ BW := bw_at 948 (by decide +kernel) (by decide +kernel)
theorem bw_949 : Cond.code ⟨"CountingHorses", "seen", "(I)I"⟩ prog_1_method_23_code 2 (some .int) ∈ BW := bw_at 949 (by decide +kernel) (by decide +kernel)
theorem bw_1344 : Cond.methodLink "CountingHorsesLaw" 88 ⟨"CountingHorsesModel", "undo", "()I"⟩ ∈ BW := bw_at 1344 (by decide +kernel) (by decide +kernel)
theorem bw_1345 : Cond.instanceMethod ⟨"CountingHorsesModel", "undo", "()I"⟩ ∈ BW := bw_at 1345 (by decide +kernel) (by decide +kernel)
theorem bw_1346 : Cond.selects "CountingHorsesModel" ⟨"CountingHorsesModel", "undo", "()I"⟩ ⟨"CountingHorsesModel", "undo", "()I"⟩ ∈ BW := bw_at 1346 (by decide +kernel) (by decide +kernel)
theorem bw_1347 : Cond.code ⟨"CountingHorsesModel", "undo", "()I"⟩ prog_14_method_63_code 3 (some .int) ∈ BW := bw_at 1347 (by decide +kernel) (by decide +kernel)
theorem bw_1368 : Cond.methodLink "CountingHorsesLaw" 84 ⟨"CountingHorsesModel", "played", "(I)I"⟩ ∈ BW := bw_at 1368 (by decide +kernel) (by decide +kernel)
theorem bw_1369 : Cond.instanceMethod ⟨"CountingHorsesModel", "played", "(I)I"⟩ ∈ BW := bw_at 1369 (by decide +kernel) (by decide +kernel)
theorem bw_1370 : Cond.selects "CountingHorsesModel" ⟨"CountingHorsesModel", "played", "(I)I"⟩ ⟨"CountingHorsesModel", "played", "(I)I"⟩ ∈ BW := bw_at 1370 (by decide +kernel) (by decide +kernel)
theorem bw_1371 : Cond.code ⟨"CountingHorsesModel", "played", "(I)I"⟩ prog_14_method_69_code 3 (some .int) ∈ BW := bw_at 1371 (by decide +kernel) (by decide +kernel)
theorem bw_1378 : Cond.methodLink "CountingHorsesLaw" 92 ⟨"CountingHorsesModel", "coach", "(I)I"⟩ ∈ BW := bw_at 1378 (by decide +kernel) (by decide +kernel)
theorem bw_1379 : Cond.instanceMethod ⟨"CountingHorsesModel", "coach", "(I)I"⟩ ∈ BW := bw_at 1379 (by decide +kernel) (by decide +kernel)
theorem bw_1380 : Cond.selects "CountingHorsesModel" ⟨"CountingHorsesModel", "coach", "(I)I"⟩ ⟨"CountingHorsesModel", "coach", "(I)I"⟩ ∈ BW := bw_at 1380 (by decide +kernel) (by decide +kernel)
theorem bw_1381 : Cond.code ⟨"CountingHorsesModel", "coach", "(I)I"⟩ prog_14_method_71_code 2 (some .int) ∈ BW := bw_at 1381 (by decide +kernel) (by decide +kernel)
theorem bw_1386 : Cond.methodLink "CountingHorsesLaw" 96 ⟨"CountingHorsesModel", "harness", "(III)I"⟩ ∈ BW := bw_at 1386 (by decide +kernel) (by decide +kernel)
theorem bw_1387 : Cond.instanceMethod ⟨"CountingHorsesModel", "harness", "(III)I"⟩ ∈ BW := bw_at 1387 (by decide +kernel) (by decide +kernel)
theorem bw_1388 : Cond.selects "CountingHorsesModel" ⟨"CountingHorsesModel", "harness", "(III)I"⟩ ⟨"CountingHorsesModel", "harness", "(III)I"⟩ ∈ BW := bw_at 1388 (by decide +kernel) (by decide +kernel)
theorem bw_1389 : Cond.code ⟨"CountingHorsesModel", "harness", "(III)I"⟩ prog_14_method_74_code 6 (some .int) ∈ BW := bw_at 1389 (by decide +kernel) (by decide +kernel)
theorem bw_1399 : Cond.methodLink "CountingHorsesLaw" 101 ⟨"CountingHorsesModel", "least", "(IIZ)I"⟩ ∈ BW := bw_at 1399 (by decide +kernel) (by decide +kernel)
theorem bw_1400 : Cond.instanceMethod ⟨"CountingHorsesModel", "least", "(IIZ)I"⟩ ∈ BW := bw_at 1400 (by decide +kernel) (by decide +kernel)
theorem bw_1401 : Cond.selects "CountingHorsesModel" ⟨"CountingHorsesModel", "least", "(IIZ)I"⟩ ⟨"CountingHorsesModel", "least", "(IIZ)I"⟩ ∈ BW := bw_at 1401 (by decide +kernel) (by decide +kernel)
theorem bw_1402 : Cond.code ⟨"CountingHorsesModel", "least", "(IIZ)I"⟩ prog_14_method_76_code 8 (some .int) ∈ BW := bw_at 1402 (by decide +kernel) (by decide +kernel)
theorem bw_1408 : Cond.methodLink "CountingHorsesLaw" 105 ⟨"CountingHorsesModel", "thief", "(III)I"⟩ ∈ BW := bw_at 1408 (by decide +kernel) (by decide +kernel)
theorem bw_1409 : Cond.instanceMethod ⟨"CountingHorsesModel", "thief", "(III)I"⟩ ∈ BW := bw_at 1409 (by decide +kernel) (by decide +kernel)
theorem bw_1410 : Cond.selects "CountingHorsesModel" ⟨"CountingHorsesModel", "thief", "(III)I"⟩ ⟨"CountingHorsesModel", "thief", "(III)I"⟩ ∈ BW := bw_at 1410 (by decide +kernel) (by decide +kernel)
theorem bw_1411 : Cond.code ⟨"CountingHorsesModel", "thief", "(III)I"⟩ prog_14_method_78_code 6 (some .int) ∈ BW := bw_at 1411 (by decide +kernel) (by decide +kernel)
theorem bw_1423 : Cond.methodLink "CountingHorsesLaw" 109 ⟨"CountingHorsesModel", "seen", "(I)I"⟩ ∈ BW := bw_at 1423 (by decide +kernel) (by decide +kernel)
theorem bw_1424 : Cond.instanceMethod ⟨"CountingHorsesModel", "seen", "(I)I"⟩ ∈ BW := bw_at 1424 (by decide +kernel) (by decide +kernel)
theorem bw_1425 : Cond.selects "CountingHorsesModel" ⟨"CountingHorsesModel", "seen", "(I)I"⟩ ⟨"CountingHorsesModel", "seen", "(I)I"⟩ ∈ BW := bw_at 1425 (by decide +kernel) (by decide +kernel)
theorem bw_1426 : Cond.code ⟨"CountingHorsesModel", "seen", "(I)I"⟩ prog_14_method_79_code 2 (some .int) ∈ BW := bw_at 1426 (by decide +kernel) (by decide +kernel)

set_option maxHeartbeats 4000000 in
set_option maxRecDepth 100000 in
theorem law_15 {p : Program} {l : Launch} {e : Env} {s : State} {m : MethodId} {below : List Frame} {meth : Method} {c : Code} {b L : Nat} {xs : Nat → Int32} {D : va_G} {cI cM cT cJ cZ : ClassId} {ii : Int32} {x q : Nat} (Z : Zx p s m #[Value.ref b] meth c code 4 ret R_law (fun q : Nat => s.heap.size ≤ q) (ty3 cI cM cT cJ cZ) D) (hX : va_X b L xs s s.heap) (hbl : b < s.heap.size) (hL : L ≤ 3072) (h0 : 0 ≤ ii.toInt) (h1 : ii.toInt + 6 ≤ (L : Int)) (kk : ∀ {kc0 kc1 kc9 kc10 kc6 ki0 ki1 ki9 ki10 ki6 tl fu0 fp0 : Int} {bt : Nat → Int} {xw mw : va_W} {H : Heap} {locs : List Loc} {ls : Array Slot} (hXi : InvX cI cM cT cJ cZ x kc0 kc1 kc9 kc10 kc6 ki0 ki1 ki9 ki10 ki6 tl fu0 fp0 bt xw) (hMi : InvM cI cM cT cJ cZ q kc0 kc1 kc9 kc10 kc6 ki0 ki1 ki9 ki10 ki6 tl fu0 fp0 bt mw) (hP : va_P D vwCl (xw ++ mw) H) (hD : va_D (fun q : Nat => s.heap.size ≤ q) (xw ++ mw)) (hS : va_S (fun q : Nat => s.heap.size ≤ q) s.heap H locs) (hl : lv_has ls 4 [(0, .ref b), (1, .ref x), (2, .ref q), (3, .int ii)]), W p l e room_1 s m #[Value.ref b] below meth c H locs 300 28000 (lw_Z below #[Value.ref b] s) (F0 m 997 ls [])) : ∀ {kc0 kc1 kc9 kc10 kc6 ki0 ki1 ki9 ki10 ki6 tl fu0 fp0 : Int} {bt : Nat → Int} {xw mw : va_W} {H : Heap} {locs : List Loc} {ls : Array Slot} (hXi : InvX cI cM cT cJ cZ x kc0 kc1 kc9 kc10 kc6 ki0 ki1 ki9 ki10 ki6 tl fu0 fp0 bt xw) (hMi : InvM cI cM cT cJ cZ q kc0 kc1 kc9 kc10 kc6 ki0 ki1 ki9 ki10 ki6 tl fu0 fp0 bt mw) (hP : va_P D vwCl (xw ++ mw) H) (hD : va_D (fun q : Nat => s.heap.size ≤ q) (xw ++ mw)) (hS : va_S (fun q : Nat => s.heap.size ≤ q) s.heap H locs) (hl : lv_has ls 4 [(0, .ref b), (1, .ref x), (2, .ref q), (3, .int ii)]), W p l e room_1 s m #[Value.ref b] below meth c H locs 300 28000 (lw_Z below #[Value.ref b] s) (F0 m 619 ls []) := by
  intro kc0 kc1 kc9 kc10 kc6 ki0 ki1 ki9 ki10 ki6 tl fu0 fp0 bt xw mw H locs ls hXi hMi hP hD hS hl
  have hx := Z.1
  have hb := Z.2.1
  have hbA : ¬ (fun q : Nat => s.heap.size ≤ q) b := Nat.not_le.mpr hbl
  obtain ⟨fs1, hd1⟩ := InvX.head hXi
  obtain ⟨fs2, hd2⟩ := InvM.head hMi
  refine lv_aload_n hx hb dL_law_619 rfl (lv_at hl 1 rfl) ?_
  refine lv_aload_n hx hb dL_law_620 rfl (lv_at hl 0 rfl) ?_
  refine lv_iload_n hx hb dL_law_621 rfl (lv_at hl 3 rfl) ?_
  refine lv_iconst (v := 1) hx hb dL_law_622 (by decide) ?_
  refine lv_iadd hx hb dL_law_623 ?_
  refine va_sld hx hb hX hbl hbA hS (zin h0 h1 hL (by decide)) dL_law_624 ?_
  have hDc := (va_D_left hD)
  refine raw_Vi (ci := 11) (q0 := 0) (nA := 1) (As := [.int (xs (ii + 1).toNatClampNeg)]) (rest := []) Z hl.1 (w_X_played l D cI cM cT cJ cZ x kc0 kc1 kc9 kc10 kc6 ki0 ki1 ki9 ki10 ki6 tl fu0 fp0 bt (xs (ii + 1).toNatClampNeg) hXi) (bw_V bw_884 bw_885 bw_886 bw_80 bw_887) ⟨by decide +kernel, by decide +kernel, by decide +kernel⟩ rfl ⟨Nat.le_of_ble_eq_true rfl, Nat.le_of_ble_eq_true rfl⟩ rfl rfl hd1 (va_P_left hP) hDc hS rfl (Nat.le_of_ble_eq_true rfl) dL_law_625 ⟨Nat.le_of_ble_eq_true rfl, Nat.le_of_ble_eq_true rfl⟩ (fun r1 u H locs h9 hk9 hP1 hD1 hS1 => ?_)
  obtain ⟨d0, d1, d9, d10, d6, j0, j1, j9, j10, j6, tl_, fu_, fp_, bn, hrel1, hX2⟩ := h9
  obtain ⟨hP, hD⟩ := joinL hP hD hk9 (raw_free hDc Z.2.2.2.2.2.2.2.1 hS) hP1 hD1
  have hS := hS1
  clear hS1
  refine lv_pop hx hb dL_law_628 rfl ?_
  refine lv_aload_n hx hb dL_law_629 rfl (lv_at hl 2 rfl) ?_
  refine lv_aload_n hx hb dL_law_630 rfl (lv_at hl 0 rfl) ?_
  refine lv_iload_n hx hb dL_law_631 rfl (lv_at hl 3 rfl) ?_
  refine lv_iconst (v := 1) hx hb dL_law_632 (by decide) ?_
  refine lv_iadd hx hb dL_law_633 ?_
  refine va_sld hx hb hX hbl hbA hS (zin h0 h1 hL (by decide)) dL_law_634 ?_
  have hDc := (va_D_right hD)
  refine raw_Vi (ci := 12) (q0 := 0) (nA := 1) (As := [.int (xs (ii + 1).toNatClampNeg)]) (rest := []) Z hl.1 (w_M_played l D cI cM cT cJ cZ q kc0 kc1 kc9 kc10 kc6 ki0 ki1 ki9 ki10 ki6 tl fu0 fp0 bt (xs (ii + 1).toNatClampNeg) hMi) (bw_V bw_1368 bw_1369 bw_1370 bw_92 bw_1371) ⟨by decide +kernel, by decide +kernel, by decide +kernel⟩ rfl ⟨Nat.le_of_ble_eq_true rfl, Nat.le_of_ble_eq_true rfl⟩ rfl rfl hd2 (va_P_right hP) hDc hS rfl (Nat.le_of_ble_eq_true rfl) dL_law_635 ⟨Nat.le_of_ble_eq_true rfl, Nat.le_of_ble_eq_true rfl⟩ (fun r2 u H locs h9 hk9 hP1 hD1 hS1 => ?_)
  obtain ⟨d0m, d1m, d9m, d10m, d6m, j0m, j1m, j9m, j10m, j6m, tl_m, fu_m, fp_m, bnm, hrel2, hM2⟩ := h9
  obtain ⟨hP, hD⟩ := joinR hP hD hk9 (raw_free hDc Z.2.2.2.2.2.2.2.1 hS) hP1 hD1
  have hS := hS1
  clear hS1
  have hbn : bnm = bn := hrel2.2.2.2.2.2.2.2.2.2.2.2.2.2.trans hrel1.2.2.2.2.2.2.2.2.2.2.2.2.2.symm
  have heq : d0m = d0 ∧ d1m = d1 ∧ d9m = d9 ∧ d10m = d10 ∧ d6m = d6 ∧ j0m = j0 ∧ j1m = j1 ∧ j9m = j9 ∧ j10m = j10 ∧ j6m = j6 ∧ tl_m = tl_ ∧ fu_m = fu_ ∧ fp_m = fp_ := by omega
  obtain ⟨rfl, rfl, rfl, rfl, rfl, rfl, rfl, rfl, rfl, rfl, rfl, rfl, rfl⟩ := heq
  subst hbn
  refine lv_pop hx hb dL_law_638 rfl ?_
  refine lv_goto (tgt := 997) hx hb dL_law_639 (by decide) ?_
  exact kk hX2 hM2 hP hD hS hl
set_option maxHeartbeats 4000000 in
set_option maxRecDepth 100000 in
theorem law_16 {p : Program} {l : Launch} {e : Env} {s : State} {m : MethodId} {below : List Frame} {meth : Method} {c : Code} {b L : Nat} {xs : Nat → Int32} {D : va_G} {cI cM cT cJ cZ : ClassId} {ii : Int32} {x q : Nat} (Z : Zx p s m #[Value.ref b] meth c code 4 ret R_law (fun q : Nat => s.heap.size ≤ q) (ty3 cI cM cT cJ cZ) D) (hX : va_X b L xs s s.heap) (hbl : b < s.heap.size) (hL : L ≤ 3072) (h0 : 0 ≤ ii.toInt) (h1 : ii.toInt + 6 ≤ (L : Int)) (kk : ∀ {kc0 kc1 kc9 kc10 kc6 ki0 ki1 ki9 ki10 ki6 tl fu0 fp0 : Int} {bt : Nat → Int} {xw mw : va_W} {H : Heap} {locs : List Loc} {ls : Array Slot} (hXi : InvX cI cM cT cJ cZ x kc0 kc1 kc9 kc10 kc6 ki0 ki1 ki9 ki10 ki6 tl fu0 fp0 bt xw) (hMi : InvM cI cM cT cJ cZ q kc0 kc1 kc9 kc10 kc6 ki0 ki1 ki9 ki10 ki6 tl fu0 fp0 bt mw) (hP : va_P D vwCl (xw ++ mw) H) (hD : va_D (fun q : Nat => s.heap.size ≤ q) (xw ++ mw)) (hS : va_S (fun q : Nat => s.heap.size ≤ q) s.heap H locs) (hl : lv_has ls 4 [(0, .ref b), (1, .ref x), (2, .ref q), (3, .int ii)]), W p l e room_1 s m #[Value.ref b] below meth c H locs 300 28000 (lw_Z below #[Value.ref b] s) (F0 m 997 ls [])) : ∀ {kc0 kc1 kc9 kc10 kc6 ki0 ki1 ki9 ki10 ki6 tl fu0 fp0 : Int} {bt : Nat → Int} {xw mw : va_W} {H : Heap} {locs : List Loc} {ls : Array Slot} (hXi : InvX cI cM cT cJ cZ x kc0 kc1 kc9 kc10 kc6 ki0 ki1 ki9 ki10 ki6 tl fu0 fp0 bt xw) (hMi : InvM cI cM cT cJ cZ q kc0 kc1 kc9 kc10 kc6 ki0 ki1 ki9 ki10 ki6 tl fu0 fp0 bt mw) (hP : va_P D vwCl (xw ++ mw) H) (hD : va_D (fun q : Nat => s.heap.size ≤ q) (xw ++ mw)) (hS : va_S (fun q : Nat => s.heap.size ≤ q) s.heap H locs) (hl : lv_has ls 4 [(0, .ref b), (1, .ref x), (2, .ref q), (3, .int ii)]), W p l e room_1 s m #[Value.ref b] below meth c H locs 300 28000 (lw_Z below #[Value.ref b] s) (F0 m 642 ls []) := by
  intro kc0 kc1 kc9 kc10 kc6 ki0 ki1 ki9 ki10 ki6 tl fu0 fp0 bt xw mw H locs ls hXi hMi hP hD hS hl
  have hx := Z.1
  have hb := Z.2.1
  have hbA : ¬ (fun q : Nat => s.heap.size ≤ q) b := Nat.not_le.mpr hbl
  obtain ⟨fs1, hd1⟩ := InvX.head hXi
  obtain ⟨fs2, hd2⟩ := InvM.head hMi
  refine lv_aload_n hx hb dL_law_642 rfl (lv_at hl 1 rfl) ?_
  have hDc := (va_D_left hD)
  refine raw_Vi (ci := 11) (q0 := 0) (nA := 0) (As := []) (rest := []) Z hl.1 (w_X_undo l D cI cM cT cJ cZ x kc0 kc1 kc9 kc10 kc6 ki0 ki1 ki9 ki10 ki6 tl fu0 fp0 bt  hXi) (bw_V bw_888 bw_889 bw_890 bw_80 bw_891) ⟨by decide +kernel, by decide +kernel, by decide +kernel⟩ rfl ⟨Nat.le_of_ble_eq_true rfl, Nat.le_of_ble_eq_true rfl⟩ rfl rfl hd1 (va_P_left hP) hDc hS rfl (Nat.le_of_ble_eq_true rfl) dL_law_643 ⟨Nat.le_of_ble_eq_true rfl, Nat.le_of_ble_eq_true rfl⟩ (fun r1 u H locs h9 hk9 hP1 hD1 hS1 => ?_)
  obtain ⟨d0, d1, d9, d10, d6, j0, j1, j9, j10, j6, tl_, fu_, fp_, bn, hrel1, hX2⟩ := h9
  obtain ⟨hP, hD⟩ := joinL hP hD hk9 (raw_free hDc Z.2.2.2.2.2.2.2.1 hS) hP1 hD1
  have hS := hS1
  clear hS1
  refine lv_pop hx hb dL_law_646 rfl ?_
  refine lv_aload_n hx hb dL_law_647 rfl (lv_at hl 2 rfl) ?_
  have hDc := (va_D_right hD)
  refine raw_Vi (ci := 12) (q0 := 0) (nA := 0) (As := []) (rest := []) Z hl.1 (w_M_undo l D cI cM cT cJ cZ q kc0 kc1 kc9 kc10 kc6 ki0 ki1 ki9 ki10 ki6 tl fu0 fp0 bt  hMi) (bw_V bw_1344 bw_1345 bw_1346 bw_92 bw_1347) ⟨by decide +kernel, by decide +kernel, by decide +kernel⟩ rfl ⟨Nat.le_of_ble_eq_true rfl, Nat.le_of_ble_eq_true rfl⟩ rfl rfl hd2 (va_P_right hP) hDc hS rfl (Nat.le_of_ble_eq_true rfl) dL_law_648 ⟨Nat.le_of_ble_eq_true rfl, Nat.le_of_ble_eq_true rfl⟩ (fun r2 u H locs h9 hk9 hP1 hD1 hS1 => ?_)
  obtain ⟨d0m, d1m, d9m, d10m, d6m, j0m, j1m, j9m, j10m, j6m, tl_m, fu_m, fp_m, bnm, hrel2, hM2⟩ := h9
  obtain ⟨hP, hD⟩ := joinR hP hD hk9 (raw_free hDc Z.2.2.2.2.2.2.2.1 hS) hP1 hD1
  have hS := hS1
  clear hS1
  have hbn : bnm = bn := hrel2.2.2.2.2.2.2.2.2.2.2.2.2.2.trans hrel1.2.2.2.2.2.2.2.2.2.2.2.2.2.symm
  have heq : d0m = d0 ∧ d1m = d1 ∧ d9m = d9 ∧ d10m = d10 ∧ d6m = d6 ∧ j0m = j0 ∧ j1m = j1 ∧ j9m = j9 ∧ j10m = j10 ∧ j6m = j6 ∧ tl_m = tl_ ∧ fu_m = fu_ ∧ fp_m = fp_ := by omega
  obtain ⟨rfl, rfl, rfl, rfl, rfl, rfl, rfl, rfl, rfl, rfl, rfl, rfl, rfl⟩ := heq
  subst hbn
  refine lv_pop hx hb dL_law_651 rfl ?_
  refine lv_goto (tgt := 997) hx hb dL_law_652 (by decide) ?_
  exact kk hX2 hM2 hP hD hS hl
set_option maxHeartbeats 4000000 in
set_option maxRecDepth 100000 in
theorem law_17 {p : Program} {l : Launch} {e : Env} {s : State} {m : MethodId} {below : List Frame} {meth : Method} {c : Code} {b L : Nat} {xs : Nat → Int32} {D : va_G} {cI cM cT cJ cZ : ClassId} {ii : Int32} {x q : Nat} (Z : Zx p s m #[Value.ref b] meth c code 4 ret R_law (fun q : Nat => s.heap.size ≤ q) (ty3 cI cM cT cJ cZ) D) (hX : va_X b L xs s s.heap) (hbl : b < s.heap.size) (hL : L ≤ 3072) (h0 : 0 ≤ ii.toInt) (h1 : ii.toInt + 6 ≤ (L : Int)) (kk : ∀ {kc0 kc1 kc9 kc10 kc6 ki0 ki1 ki9 ki10 ki6 tl fu0 fp0 : Int} {bt : Nat → Int} {xw mw : va_W} {H : Heap} {locs : List Loc} {ls : Array Slot} (hXi : InvX cI cM cT cJ cZ x kc0 kc1 kc9 kc10 kc6 ki0 ki1 ki9 ki10 ki6 tl fu0 fp0 bt xw) (hMi : InvM cI cM cT cJ cZ q kc0 kc1 kc9 kc10 kc6 ki0 ki1 ki9 ki10 ki6 tl fu0 fp0 bt mw) (hP : va_P D vwCl (xw ++ mw) H) (hD : va_D (fun q : Nat => s.heap.size ≤ q) (xw ++ mw)) (hS : va_S (fun q : Nat => s.heap.size ≤ q) s.heap H locs) (hl : lv_has ls 4 [(0, .ref b), (1, .ref x), (2, .ref q), (3, .int ii)]), W p l e room_1 s m #[Value.ref b] below meth c H locs 300 28000 (lw_Z below #[Value.ref b] s) (F0 m 997 ls [])) : ∀ {kc0 kc1 kc9 kc10 kc6 ki0 ki1 ki9 ki10 ki6 tl fu0 fp0 : Int} {bt : Nat → Int} {xw mw : va_W} {H : Heap} {locs : List Loc} {ls : Array Slot} (hXi : InvX cI cM cT cJ cZ x kc0 kc1 kc9 kc10 kc6 ki0 ki1 ki9 ki10 ki6 tl fu0 fp0 bt xw) (hMi : InvM cI cM cT cJ cZ q kc0 kc1 kc9 kc10 kc6 ki0 ki1 ki9 ki10 ki6 tl fu0 fp0 bt mw) (hP : va_P D vwCl (xw ++ mw) H) (hD : va_D (fun q : Nat => s.heap.size ≤ q) (xw ++ mw)) (hS : va_S (fun q : Nat => s.heap.size ≤ q) s.heap H locs) (hl : lv_has ls 4 [(0, .ref b), (1, .ref x), (2, .ref q), (3, .int ii)]), W p l e room_1 s m #[Value.ref b] below meth c H locs 300 28000 (lw_Z below #[Value.ref b] s) (F0 m 655 ls []) := by
  intro kc0 kc1 kc9 kc10 kc6 ki0 ki1 ki9 ki10 ki6 tl fu0 fp0 bt xw mw H locs ls hXi hMi hP hD hS hl
  have hx := Z.1
  have hb := Z.2.1
  have hbA : ¬ (fun q : Nat => s.heap.size ≤ q) b := Nat.not_le.mpr hbl
  obtain ⟨fs1, hd1⟩ := InvX.head hXi
  obtain ⟨fs2, hd2⟩ := InvM.head hMi
  refine lv_aload_n hx hb dL_law_655 rfl (lv_at hl 1 rfl) ?_
  refine lv_aload_n hx hb dL_law_656 rfl (lv_at hl 0 rfl) ?_
  refine lv_iload_n hx hb dL_law_657 rfl (lv_at hl 3 rfl) ?_
  refine lv_iconst (v := 1) hx hb dL_law_658 (by decide) ?_
  refine lv_iadd hx hb dL_law_659 ?_
  refine va_sld hx hb hX hbl hbA hS (zin h0 h1 hL (by decide)) dL_law_660 ?_
  have hDc := (va_D_left hD)
  refine raw_Vi (ci := 11) (q0 := 0) (nA := 1) (As := [.int (xs (ii + 1).toNatClampNeg)]) (rest := []) Z hl.1 (w_X_coach l D cI cM cT cJ cZ x kc0 kc1 kc9 kc10 kc6 ki0 ki1 ki9 ki10 ki6 tl fu0 fp0 bt (xs (ii + 1).toNatClampNeg) hXi) (bw_V bw_896 bw_897 bw_898 bw_80 bw_899) ⟨by decide +kernel, by decide +kernel, by decide +kernel⟩ rfl ⟨Nat.le_of_ble_eq_true rfl, Nat.le_of_ble_eq_true rfl⟩ rfl rfl hd1 (va_P_left hP) hDc hS rfl (Nat.le_of_ble_eq_true rfl) dL_law_661 ⟨Nat.le_of_ble_eq_true rfl, Nat.le_of_ble_eq_true rfl⟩ (fun r1 u H locs h9 hk9 hP1 hD1 hS1 => ?_)
  obtain ⟨d0, d1, d9, d10, d6, j0, j1, j9, j10, j6, tl_, fu_, fp_, bn, hrel1, hX2⟩ := h9
  obtain ⟨hP, hD⟩ := joinL hP hD hk9 (raw_free hDc Z.2.2.2.2.2.2.2.1 hS) hP1 hD1
  have hS := hS1
  clear hS1
  refine lv_pop hx hb dL_law_664 rfl ?_
  refine lv_aload_n hx hb dL_law_665 rfl (lv_at hl 2 rfl) ?_
  refine lv_aload_n hx hb dL_law_666 rfl (lv_at hl 0 rfl) ?_
  refine lv_iload_n hx hb dL_law_667 rfl (lv_at hl 3 rfl) ?_
  refine lv_iconst (v := 1) hx hb dL_law_668 (by decide) ?_
  refine lv_iadd hx hb dL_law_669 ?_
  refine va_sld hx hb hX hbl hbA hS (zin h0 h1 hL (by decide)) dL_law_670 ?_
  have hDc := (va_D_right hD)
  refine raw_Vi (ci := 12) (q0 := 0) (nA := 1) (As := [.int (xs (ii + 1).toNatClampNeg)]) (rest := []) Z hl.1 (w_M_coach l D cI cM cT cJ cZ q kc0 kc1 kc9 kc10 kc6 ki0 ki1 ki9 ki10 ki6 tl fu0 fp0 bt (xs (ii + 1).toNatClampNeg) hMi) (bw_V bw_1378 bw_1379 bw_1380 bw_92 bw_1381) ⟨by decide +kernel, by decide +kernel, by decide +kernel⟩ rfl ⟨Nat.le_of_ble_eq_true rfl, Nat.le_of_ble_eq_true rfl⟩ rfl rfl hd2 (va_P_right hP) hDc hS rfl (Nat.le_of_ble_eq_true rfl) dL_law_671 ⟨Nat.le_of_ble_eq_true rfl, Nat.le_of_ble_eq_true rfl⟩ (fun r2 u H locs h9 hk9 hP1 hD1 hS1 => ?_)
  obtain ⟨d0m, d1m, d9m, d10m, d6m, j0m, j1m, j9m, j10m, j6m, tl_m, fu_m, fp_m, bnm, hrel2, hM2⟩ := h9
  obtain ⟨hP, hD⟩ := joinR hP hD hk9 (raw_free hDc Z.2.2.2.2.2.2.2.1 hS) hP1 hD1
  have hS := hS1
  clear hS1
  have hbn : bnm = bn := hrel2.2.2.2.2.2.2.2.2.2.2.2.2.2.trans hrel1.2.2.2.2.2.2.2.2.2.2.2.2.2.symm
  have heq : d0m = d0 ∧ d1m = d1 ∧ d9m = d9 ∧ d10m = d10 ∧ d6m = d6 ∧ j0m = j0 ∧ j1m = j1 ∧ j9m = j9 ∧ j10m = j10 ∧ j6m = j6 ∧ tl_m = tl_ ∧ fu_m = fu_ ∧ fp_m = fp_ := by omega
  obtain ⟨rfl, rfl, rfl, rfl, rfl, rfl, rfl, rfl, rfl, rfl, rfl, rfl, rfl⟩ := heq
  subst hbn
  refine lv_pop hx hb dL_law_674 rfl ?_
  refine lv_goto (tgt := 997) hx hb dL_law_675 (by decide) ?_
  exact kk hX2 hM2 hP hD hS hl
set_option maxHeartbeats 4000000 in
set_option maxRecDepth 100000 in
theorem law_18 {p : Program} {l : Launch} {e : Env} {s : State} {m : MethodId} {below : List Frame} {meth : Method} {c : Code} {b L : Nat} {xs : Nat → Int32} {D : va_G} {cI cM cT cJ cZ : ClassId} {ii : Int32} {x q : Nat} (Z : Zx p s m #[Value.ref b] meth c code 4 ret R_law (fun q : Nat => s.heap.size ≤ q) (ty3 cI cM cT cJ cZ) D) (hX : va_X b L xs s s.heap) (hbl : b < s.heap.size) (hL : L ≤ 3072) (h0 : 0 ≤ ii.toInt) (h1 : ii.toInt + 6 ≤ (L : Int)) (kk : ∀ {kc0 kc1 kc9 kc10 kc6 ki0 ki1 ki9 ki10 ki6 tl fu0 fp0 : Int} {bt : Nat → Int} {xw mw : va_W} {H : Heap} {locs : List Loc} {ls : Array Slot} (hXi : InvX cI cM cT cJ cZ x kc0 kc1 kc9 kc10 kc6 ki0 ki1 ki9 ki10 ki6 tl fu0 fp0 bt xw) (hMi : InvM cI cM cT cJ cZ q kc0 kc1 kc9 kc10 kc6 ki0 ki1 ki9 ki10 ki6 tl fu0 fp0 bt mw) (hP : va_P D vwCl (xw ++ mw) H) (hD : va_D (fun q : Nat => s.heap.size ≤ q) (xw ++ mw)) (hS : va_S (fun q : Nat => s.heap.size ≤ q) s.heap H locs) (hl : lv_has ls 4 [(0, .ref b), (1, .ref x), (2, .ref q), (3, .int ii)]), W p l e room_1 s m #[Value.ref b] below meth c H locs 300 28000 (lw_Z below #[Value.ref b] s) (F0 m 997 ls [])) : ∀ {kc0 kc1 kc9 kc10 kc6 ki0 ki1 ki9 ki10 ki6 tl fu0 fp0 : Int} {bt : Nat → Int} {xw mw : va_W} {H : Heap} {locs : List Loc} {ls : Array Slot} (hXi : InvX cI cM cT cJ cZ x kc0 kc1 kc9 kc10 kc6 ki0 ki1 ki9 ki10 ki6 tl fu0 fp0 bt xw) (hMi : InvM cI cM cT cJ cZ q kc0 kc1 kc9 kc10 kc6 ki0 ki1 ki9 ki10 ki6 tl fu0 fp0 bt mw) (hP : va_P D vwCl (xw ++ mw) H) (hD : va_D (fun q : Nat => s.heap.size ≤ q) (xw ++ mw)) (hS : va_S (fun q : Nat => s.heap.size ≤ q) s.heap H locs) (hl : lv_has ls 4 [(0, .ref b), (1, .ref x), (2, .ref q), (3, .int ii)]), W p l e room_1 s m #[Value.ref b] below meth c H locs 300 28000 (lw_Z below #[Value.ref b] s) (F0 m 678 ls []) := by
  intro kc0 kc1 kc9 kc10 kc6 ki0 ki1 ki9 ki10 ki6 tl fu0 fp0 bt xw mw H locs ls hXi hMi hP hD hS hl
  have hx := Z.1
  have hb := Z.2.1
  have hbA : ¬ (fun q : Nat => s.heap.size ≤ q) b := Nat.not_le.mpr hbl
  obtain ⟨fs1, hd1⟩ := InvX.head hXi
  obtain ⟨fs2, hd2⟩ := InvM.head hMi
  refine lv_aload_n hx hb dL_law_678 rfl (lv_at hl 1 rfl) ?_
  refine lv_aload_n hx hb dL_law_679 rfl (lv_at hl 0 rfl) ?_
  refine lv_iload_n hx hb dL_law_680 rfl (lv_at hl 3 rfl) ?_
  refine lv_iconst (v := 1) hx hb dL_law_681 (by decide) ?_
  refine lv_iadd hx hb dL_law_682 ?_
  refine va_sld hx hb hX hbl hbA hS (zin h0 h1 hL (by decide)) dL_law_683 ?_
  refine lv_aload_n hx hb dL_law_684 rfl (lv_at hl 0 rfl) ?_
  refine lv_iload_n hx hb dL_law_685 rfl (lv_at hl 3 rfl) ?_
  refine lv_iconst (v := 2) hx hb dL_law_686 (by decide) ?_
  refine lv_iadd hx hb dL_law_687 ?_
  refine va_sld hx hb hX hbl hbA hS (zin h0 h1 hL (by decide)) dL_law_688 ?_
  refine lv_aload_n hx hb dL_law_689 rfl (lv_at hl 0 rfl) ?_
  refine lv_iload_n hx hb dL_law_690 rfl (lv_at hl 3 rfl) ?_
  refine lv_iconst (v := 3) hx hb dL_law_691 (by decide) ?_
  refine lv_iadd hx hb dL_law_692 ?_
  refine va_sld hx hb hX hbl hbA hS (zin h0 h1 hL (by decide)) dL_law_693 ?_
  have hDc := (va_D_left hD)
  refine raw_Vi (ci := 11) (q0 := 0) (nA := 3) (As := [.int (xs (ii + 1).toNatClampNeg), .int (xs (ii + 2).toNatClampNeg), .int (xs (ii + 3).toNatClampNeg)]) (rest := []) Z hl.1 (w_X_harness l D cI cM cT cJ cZ x kc0 kc1 kc9 kc10 kc6 ki0 ki1 ki9 ki10 ki6 tl fu0 fp0 bt (xs (ii + 1).toNatClampNeg) (xs (ii + 2).toNatClampNeg) (xs (ii + 3).toNatClampNeg) hXi) (bw_V bw_904 bw_905 bw_906 bw_80 bw_907) ⟨by decide +kernel, by decide +kernel, by decide +kernel⟩ rfl ⟨Nat.le_of_ble_eq_true rfl, Nat.le_of_ble_eq_true rfl⟩ rfl rfl hd1 (va_P_left hP) hDc hS rfl (Nat.le_of_ble_eq_true rfl) dL_law_694 ⟨Nat.le_of_ble_eq_true rfl, Nat.le_of_ble_eq_true rfl⟩ (fun r1 u H locs h9 hk9 hP1 hD1 hS1 => ?_)
  obtain ⟨d0, d1, d9, d10, d6, j0, j1, j9, j10, j6, tl_, fu_, fp_, bn, hrel1, hX2⟩ := h9
  obtain ⟨hP, hD⟩ := joinL hP hD hk9 (raw_free hDc Z.2.2.2.2.2.2.2.1 hS) hP1 hD1
  have hS := hS1
  clear hS1
  refine lv_pop hx hb dL_law_697 rfl ?_
  refine lv_aload_n hx hb dL_law_698 rfl (lv_at hl 2 rfl) ?_
  refine lv_aload_n hx hb dL_law_699 rfl (lv_at hl 0 rfl) ?_
  refine lv_iload_n hx hb dL_law_700 rfl (lv_at hl 3 rfl) ?_
  refine lv_iconst (v := 1) hx hb dL_law_701 (by decide) ?_
  refine lv_iadd hx hb dL_law_702 ?_
  refine va_sld hx hb hX hbl hbA hS (zin h0 h1 hL (by decide)) dL_law_703 ?_
  refine lv_aload_n hx hb dL_law_704 rfl (lv_at hl 0 rfl) ?_
  refine lv_iload_n hx hb dL_law_705 rfl (lv_at hl 3 rfl) ?_
  refine lv_iconst (v := 2) hx hb dL_law_706 (by decide) ?_
  refine lv_iadd hx hb dL_law_707 ?_
  refine va_sld hx hb hX hbl hbA hS (zin h0 h1 hL (by decide)) dL_law_708 ?_
  refine lv_aload_n hx hb dL_law_709 rfl (lv_at hl 0 rfl) ?_
  refine lv_iload_n hx hb dL_law_710 rfl (lv_at hl 3 rfl) ?_
  refine lv_iconst (v := 3) hx hb dL_law_711 (by decide) ?_
  refine lv_iadd hx hb dL_law_712 ?_
  refine va_sld hx hb hX hbl hbA hS (zin h0 h1 hL (by decide)) dL_law_713 ?_
  have hDc := (va_D_right hD)
  refine raw_Vi (ci := 12) (q0 := 0) (nA := 3) (As := [.int (xs (ii + 1).toNatClampNeg), .int (xs (ii + 2).toNatClampNeg), .int (xs (ii + 3).toNatClampNeg)]) (rest := []) Z hl.1 (w_M_harness l D cI cM cT cJ cZ q kc0 kc1 kc9 kc10 kc6 ki0 ki1 ki9 ki10 ki6 tl fu0 fp0 bt (xs (ii + 1).toNatClampNeg) (xs (ii + 2).toNatClampNeg) (xs (ii + 3).toNatClampNeg) hMi) (bw_V bw_1386 bw_1387 bw_1388 bw_92 bw_1389) ⟨by decide +kernel, by decide +kernel, by decide +kernel⟩ rfl ⟨Nat.le_of_ble_eq_true rfl, Nat.le_of_ble_eq_true rfl⟩ rfl rfl hd2 (va_P_right hP) hDc hS rfl (Nat.le_of_ble_eq_true rfl) dL_law_714 ⟨Nat.le_of_ble_eq_true rfl, Nat.le_of_ble_eq_true rfl⟩ (fun r2 u H locs h9 hk9 hP1 hD1 hS1 => ?_)
  obtain ⟨d0m, d1m, d9m, d10m, d6m, j0m, j1m, j9m, j10m, j6m, tl_m, fu_m, fp_m, bnm, hrel2, hM2⟩ := h9
  obtain ⟨hP, hD⟩ := joinR hP hD hk9 (raw_free hDc Z.2.2.2.2.2.2.2.1 hS) hP1 hD1
  have hS := hS1
  clear hS1
  have hbn : bnm = bn := hrel2.2.2.2.2.2.2.2.2.2.2.2.2.2.trans hrel1.2.2.2.2.2.2.2.2.2.2.2.2.2.symm
  have heq : d0m = d0 ∧ d1m = d1 ∧ d9m = d9 ∧ d10m = d10 ∧ d6m = d6 ∧ j0m = j0 ∧ j1m = j1 ∧ j9m = j9 ∧ j10m = j10 ∧ j6m = j6 ∧ tl_m = tl_ ∧ fu_m = fu_ ∧ fp_m = fp_ := by omega
  obtain ⟨rfl, rfl, rfl, rfl, rfl, rfl, rfl, rfl, rfl, rfl, rfl, rfl, rfl⟩ := heq
  subst hbn
  refine lv_pop hx hb dL_law_717 rfl ?_
  refine lv_goto (tgt := 997) hx hb dL_law_718 (by decide) ?_
  exact kk hX2 hM2 hP hD hS hl
set_option maxHeartbeats 4000000 in
set_option maxRecDepth 100000 in
theorem law_19 {p : Program} {l : Launch} {e : Env} {s : State} {m : MethodId} {below : List Frame} {meth : Method} {c : Code} {b L : Nat} {xs : Nat → Int32} {D : va_G} {cI cM cT cJ cZ : ClassId} {ii : Int32} {x q : Nat} (Z : Zx p s m #[Value.ref b] meth c code 4 ret R_law (fun q : Nat => s.heap.size ≤ q) (ty3 cI cM cT cJ cZ) D) (hX : va_X b L xs s s.heap) (hbl : b < s.heap.size) (hL : L ≤ 3072) (h0 : 0 ≤ ii.toInt) (h1 : ii.toInt + 6 ≤ (L : Int)) (kk : ∀ {kc0 kc1 kc9 kc10 kc6 ki0 ki1 ki9 ki10 ki6 tl fu0 fp0 : Int} {bt : Nat → Int} {xw mw : va_W} {H : Heap} {locs : List Loc} {ls : Array Slot} (hXi : InvX cI cM cT cJ cZ x kc0 kc1 kc9 kc10 kc6 ki0 ki1 ki9 ki10 ki6 tl fu0 fp0 bt xw) (hMi : InvM cI cM cT cJ cZ q kc0 kc1 kc9 kc10 kc6 ki0 ki1 ki9 ki10 ki6 tl fu0 fp0 bt mw) (hP : va_P D vwCl (xw ++ mw) H) (hD : va_D (fun q : Nat => s.heap.size ≤ q) (xw ++ mw)) (hS : va_S (fun q : Nat => s.heap.size ≤ q) s.heap H locs) (hl : lv_has ls 4 [(0, .ref b), (1, .ref x), (2, .ref q), (3, .int ii)]), W p l e room_1 s m #[Value.ref b] below meth c H locs 300 28000 (lw_Z below #[Value.ref b] s) (F0 m 997 ls [])) : ∀ {kc0 kc1 kc9 kc10 kc6 ki0 ki1 ki9 ki10 ki6 tl fu0 fp0 : Int} {bt : Nat → Int} {xw mw : va_W} {H : Heap} {locs : List Loc} {ls : Array Slot} (hXi : InvX cI cM cT cJ cZ x kc0 kc1 kc9 kc10 kc6 ki0 ki1 ki9 ki10 ki6 tl fu0 fp0 bt xw) (hMi : InvM cI cM cT cJ cZ q kc0 kc1 kc9 kc10 kc6 ki0 ki1 ki9 ki10 ki6 tl fu0 fp0 bt mw) (hP : va_P D vwCl (xw ++ mw) H) (hD : va_D (fun q : Nat => s.heap.size ≤ q) (xw ++ mw)) (hS : va_S (fun q : Nat => s.heap.size ≤ q) s.heap H locs) (hl : lv_has ls 4 [(0, .ref b), (1, .ref x), (2, .ref q), (3, .int ii)]), W p l e room_1 s m #[Value.ref b] below meth c H locs 300 28000 (lw_Z below #[Value.ref b] s) (F0 m 721 ls []) := by
  intro kc0 kc1 kc9 kc10 kc6 ki0 ki1 ki9 ki10 ki6 tl fu0 fp0 bt xw mw H locs ls hXi hMi hP hD hS hl
  have hx := Z.1
  have hb := Z.2.1
  have hbA : ¬ (fun q : Nat => s.heap.size ≤ q) b := Nat.not_le.mpr hbl
  obtain ⟨fs1, hd1⟩ := InvX.head hXi
  obtain ⟨fs2, hd2⟩ := InvM.head hMi
  refine lv_aload_n hx hb dL_law_721 rfl (lv_at hl 1 rfl) ?_
  refine lv_aload_n hx hb dL_law_722 rfl (lv_at hl 0 rfl) ?_
  refine lv_iload_n hx hb dL_law_723 rfl (lv_at hl 3 rfl) ?_
  refine lv_iconst (v := 1) hx hb dL_law_724 (by decide) ?_
  refine lv_iadd hx hb dL_law_725 ?_
  refine va_sld hx hb hX hbl hbA hS (zin h0 h1 hL (by decide)) dL_law_726 ?_
  refine lv_aload_n hx hb dL_law_727 rfl (lv_at hl 0 rfl) ?_
  refine lv_iload_n hx hb dL_law_728 rfl (lv_at hl 3 rfl) ?_
  refine lv_iconst (v := 2) hx hb dL_law_729 (by decide) ?_
  refine lv_iadd hx hb dL_law_730 ?_
  refine va_sld hx hb hX hbl hbA hS (zin h0 h1 hL (by decide)) dL_law_731 ?_
  refine lv_aload_n hx hb dL_law_732 rfl (lv_at hl 0 rfl) ?_
  refine lv_iload_n hx hb dL_law_733 rfl (lv_at hl 3 rfl) ?_
  refine lv_iconst (v := 3) hx hb dL_law_734 (by decide) ?_
  refine lv_iadd hx hb dL_law_735 ?_
  refine va_sld hx hb hX hbl hbA hS (zin h0 h1 hL (by decide)) dL_law_736 ?_
  by_cases hb3 : (xs (ii + 3).toNatClampNeg) = 0
  · refine lv_if_eq (tgt := 744) hx hb dL_law_737 (by decide) (fun _ => ?_) (fun h => absurd hb3 h)
    refine lv_iconst (v := 0) hx hb dL_law_744 (by decide) ?_
    have hDc := (va_D_left hD)
    refine raw_Vi (ci := 11) (q0 := 0) (nA := 3) (As := [.int (xs (ii + 1).toNatClampNeg), .int (xs (ii + 2).toNatClampNeg), .int 0]) (rest := []) Z hl.1 (w_X_least l D cI cM cT cJ cZ x kc0 kc1 kc9 kc10 kc6 ki0 ki1 ki9 ki10 ki6 tl fu0 fp0 bt (xs (ii + 1).toNatClampNeg) (xs (ii + 2).toNatClampNeg) 0 hXi) (bw_V bw_922 bw_923 bw_924 bw_80 bw_925) ⟨by decide +kernel, by decide +kernel, by decide +kernel⟩ rfl ⟨Nat.le_of_ble_eq_true rfl, Nat.le_of_ble_eq_true rfl⟩ rfl rfl hd1 (va_P_left hP) hDc hS rfl (Nat.le_of_ble_eq_true rfl) dL_law_745 ⟨Nat.le_of_ble_eq_true rfl, Nat.le_of_ble_eq_true rfl⟩ (fun r1 u H locs h9 hk9 hP1 hD1 hS1 => ?_)
    obtain ⟨d0, d1, d9, d10, d6, j0, j1, j9, j10, j6, tl_, fu_, fp_, bn, hrel1, hX2⟩ := h9
    obtain ⟨hP, hD⟩ := joinL hP hD hk9 (raw_free hDc Z.2.2.2.2.2.2.2.1 hS) hP1 hD1
    have hS := hS1
    clear hS1
    refine lv_pop hx hb dL_law_748 rfl ?_
    refine lv_aload_n hx hb dL_law_749 rfl (lv_at hl 2 rfl) ?_
    refine lv_aload_n hx hb dL_law_750 rfl (lv_at hl 0 rfl) ?_
    refine lv_iload_n hx hb dL_law_751 rfl (lv_at hl 3 rfl) ?_
    refine lv_iconst (v := 1) hx hb dL_law_752 (by decide) ?_
    refine lv_iadd hx hb dL_law_753 ?_
    refine va_sld hx hb hX hbl hbA hS (zin h0 h1 hL (by decide)) dL_law_754 ?_
    refine lv_aload_n hx hb dL_law_755 rfl (lv_at hl 0 rfl) ?_
    refine lv_iload_n hx hb dL_law_756 rfl (lv_at hl 3 rfl) ?_
    refine lv_iconst (v := 2) hx hb dL_law_757 (by decide) ?_
    refine lv_iadd hx hb dL_law_758 ?_
    refine va_sld hx hb hX hbl hbA hS (zin h0 h1 hL (by decide)) dL_law_759 ?_
    refine lv_aload_n hx hb dL_law_760 rfl (lv_at hl 0 rfl) ?_
    refine lv_iload_n hx hb dL_law_761 rfl (lv_at hl 3 rfl) ?_
    refine lv_iconst (v := 3) hx hb dL_law_762 (by decide) ?_
    refine lv_iadd hx hb dL_law_763 ?_
    refine va_sld hx hb hX hbl hbA hS (zin h0 h1 hL (by decide)) dL_law_764 ?_
    refine lv_if_eq (tgt := 772) hx hb dL_law_765 (by decide) (fun _ => ?_) (fun h => absurd hb3 h)
    refine lv_iconst (v := 0) hx hb dL_law_772 (by decide) ?_
    have hDc := (va_D_right hD)
    refine raw_Vi (ci := 12) (q0 := 0) (nA := 3) (As := [.int (xs (ii + 1).toNatClampNeg), .int (xs (ii + 2).toNatClampNeg), .int 0]) (rest := []) Z hl.1 (w_M_least l D cI cM cT cJ cZ q kc0 kc1 kc9 kc10 kc6 ki0 ki1 ki9 ki10 ki6 tl fu0 fp0 bt (xs (ii + 1).toNatClampNeg) (xs (ii + 2).toNatClampNeg) 0 hMi) (bw_V bw_1399 bw_1400 bw_1401 bw_92 bw_1402) ⟨by decide +kernel, by decide +kernel, by decide +kernel⟩ rfl ⟨Nat.le_of_ble_eq_true rfl, Nat.le_of_ble_eq_true rfl⟩ rfl rfl hd2 (va_P_right hP) hDc hS rfl (Nat.le_of_ble_eq_true rfl) dL_law_773 ⟨Nat.le_of_ble_eq_true rfl, Nat.le_of_ble_eq_true rfl⟩ (fun r2 u H locs h9 hk9 hP1 hD1 hS1 => ?_)
    obtain ⟨d0m, d1m, d9m, d10m, d6m, j0m, j1m, j9m, j10m, j6m, tl_m, fu_m, fp_m, bnm, hrel2, hM2⟩ := h9
    obtain ⟨hP, hD⟩ := joinR hP hD hk9 (raw_free hDc Z.2.2.2.2.2.2.2.1 hS) hP1 hD1
    have hS := hS1
    clear hS1
    have hbn : bnm = bn := hrel2.2.2.2.2.2.2.2.2.2.2.2.2.2.trans hrel1.2.2.2.2.2.2.2.2.2.2.2.2.2.symm
    have heq : d0m = d0 ∧ d1m = d1 ∧ d9m = d9 ∧ d10m = d10 ∧ d6m = d6 ∧ j0m = j0 ∧ j1m = j1 ∧ j9m = j9 ∧ j10m = j10 ∧ j6m = j6 ∧ tl_m = tl_ ∧ fu_m = fu_ ∧ fp_m = fp_ := by omega
    obtain ⟨rfl, rfl, rfl, rfl, rfl, rfl, rfl, rfl, rfl, rfl, rfl, rfl, rfl⟩ := heq
    subst hbn
    refine lv_pop hx hb dL_law_776 rfl ?_
    refine lv_goto (tgt := 997) hx hb dL_law_777 (by decide) ?_
    exact kk hX2 hM2 hP hD hS hl
  · refine lv_if_eq (tgt := 744) hx hb dL_law_737 (by decide) (fun h => absurd h hb3) (fun _ => ?_)
    refine lv_iconst (v := 1) hx hb dL_law_740 (by decide) ?_
    refine lv_goto (tgt := 745) hx hb dL_law_741 (by decide) ?_
    have hDc := (va_D_left hD)
    refine raw_Vi (ci := 11) (q0 := 0) (nA := 3) (As := [.int (xs (ii + 1).toNatClampNeg), .int (xs (ii + 2).toNatClampNeg), .int 1]) (rest := []) Z hl.1 (w_X_least l D cI cM cT cJ cZ x kc0 kc1 kc9 kc10 kc6 ki0 ki1 ki9 ki10 ki6 tl fu0 fp0 bt (xs (ii + 1).toNatClampNeg) (xs (ii + 2).toNatClampNeg) 1 hXi) (bw_V bw_922 bw_923 bw_924 bw_80 bw_925) ⟨by decide +kernel, by decide +kernel, by decide +kernel⟩ rfl ⟨Nat.le_of_ble_eq_true rfl, Nat.le_of_ble_eq_true rfl⟩ rfl rfl hd1 (va_P_left hP) hDc hS rfl (Nat.le_of_ble_eq_true rfl) dL_law_745 ⟨Nat.le_of_ble_eq_true rfl, Nat.le_of_ble_eq_true rfl⟩ (fun r1 u H locs h9 hk9 hP1 hD1 hS1 => ?_)
    obtain ⟨d0, d1, d9, d10, d6, j0, j1, j9, j10, j6, tl_, fu_, fp_, bn, hrel1, hX2⟩ := h9
    obtain ⟨hP, hD⟩ := joinL hP hD hk9 (raw_free hDc Z.2.2.2.2.2.2.2.1 hS) hP1 hD1
    have hS := hS1
    clear hS1
    refine lv_pop hx hb dL_law_748 rfl ?_
    refine lv_aload_n hx hb dL_law_749 rfl (lv_at hl 2 rfl) ?_
    refine lv_aload_n hx hb dL_law_750 rfl (lv_at hl 0 rfl) ?_
    refine lv_iload_n hx hb dL_law_751 rfl (lv_at hl 3 rfl) ?_
    refine lv_iconst (v := 1) hx hb dL_law_752 (by decide) ?_
    refine lv_iadd hx hb dL_law_753 ?_
    refine va_sld hx hb hX hbl hbA hS (zin h0 h1 hL (by decide)) dL_law_754 ?_
    refine lv_aload_n hx hb dL_law_755 rfl (lv_at hl 0 rfl) ?_
    refine lv_iload_n hx hb dL_law_756 rfl (lv_at hl 3 rfl) ?_
    refine lv_iconst (v := 2) hx hb dL_law_757 (by decide) ?_
    refine lv_iadd hx hb dL_law_758 ?_
    refine va_sld hx hb hX hbl hbA hS (zin h0 h1 hL (by decide)) dL_law_759 ?_
    refine lv_aload_n hx hb dL_law_760 rfl (lv_at hl 0 rfl) ?_
    refine lv_iload_n hx hb dL_law_761 rfl (lv_at hl 3 rfl) ?_
    refine lv_iconst (v := 3) hx hb dL_law_762 (by decide) ?_
    refine lv_iadd hx hb dL_law_763 ?_
    refine va_sld hx hb hX hbl hbA hS (zin h0 h1 hL (by decide)) dL_law_764 ?_
    refine lv_if_eq (tgt := 772) hx hb dL_law_765 (by decide) (fun h => absurd h hb3) (fun _ => ?_)
    refine lv_iconst (v := 1) hx hb dL_law_768 (by decide) ?_
    refine lv_goto (tgt := 773) hx hb dL_law_769 (by decide) ?_
    have hDc := (va_D_right hD)
    refine raw_Vi (ci := 12) (q0 := 0) (nA := 3) (As := [.int (xs (ii + 1).toNatClampNeg), .int (xs (ii + 2).toNatClampNeg), .int 1]) (rest := []) Z hl.1 (w_M_least l D cI cM cT cJ cZ q kc0 kc1 kc9 kc10 kc6 ki0 ki1 ki9 ki10 ki6 tl fu0 fp0 bt (xs (ii + 1).toNatClampNeg) (xs (ii + 2).toNatClampNeg) 1 hMi) (bw_V bw_1399 bw_1400 bw_1401 bw_92 bw_1402) ⟨by decide +kernel, by decide +kernel, by decide +kernel⟩ rfl ⟨Nat.le_of_ble_eq_true rfl, Nat.le_of_ble_eq_true rfl⟩ rfl rfl hd2 (va_P_right hP) hDc hS rfl (Nat.le_of_ble_eq_true rfl) dL_law_773 ⟨Nat.le_of_ble_eq_true rfl, Nat.le_of_ble_eq_true rfl⟩ (fun r2 u H locs h9 hk9 hP1 hD1 hS1 => ?_)
    obtain ⟨d0m, d1m, d9m, d10m, d6m, j0m, j1m, j9m, j10m, j6m, tl_m, fu_m, fp_m, bnm, hrel2, hM2⟩ := h9
    obtain ⟨hP, hD⟩ := joinR hP hD hk9 (raw_free hDc Z.2.2.2.2.2.2.2.1 hS) hP1 hD1
    have hS := hS1
    clear hS1
    have hbn : bnm = bn := hrel2.2.2.2.2.2.2.2.2.2.2.2.2.2.trans hrel1.2.2.2.2.2.2.2.2.2.2.2.2.2.symm
    have heq : d0m = d0 ∧ d1m = d1 ∧ d9m = d9 ∧ d10m = d10 ∧ d6m = d6 ∧ j0m = j0 ∧ j1m = j1 ∧ j9m = j9 ∧ j10m = j10 ∧ j6m = j6 ∧ tl_m = tl_ ∧ fu_m = fu_ ∧ fp_m = fp_ := by omega
    obtain ⟨rfl, rfl, rfl, rfl, rfl, rfl, rfl, rfl, rfl, rfl, rfl, rfl, rfl⟩ := heq
    subst hbn
    refine lv_pop hx hb dL_law_776 rfl ?_
    refine lv_goto (tgt := 997) hx hb dL_law_777 (by decide) ?_
    exact kk hX2 hM2 hP hD hS hl
set_option maxHeartbeats 4000000 in
set_option maxRecDepth 100000 in
theorem law_20 {p : Program} {l : Launch} {e : Env} {s : State} {m : MethodId} {below : List Frame} {meth : Method} {c : Code} {b L : Nat} {xs : Nat → Int32} {D : va_G} {cI cM cT cJ cZ : ClassId} {ii : Int32} {x q : Nat} (Z : Zx p s m #[Value.ref b] meth c code 4 ret R_law (fun q : Nat => s.heap.size ≤ q) (ty3 cI cM cT cJ cZ) D) (hX : va_X b L xs s s.heap) (hbl : b < s.heap.size) (hL : L ≤ 3072) (h0 : 0 ≤ ii.toInt) (h1 : ii.toInt + 6 ≤ (L : Int)) (kk : ∀ {kc0 kc1 kc9 kc10 kc6 ki0 ki1 ki9 ki10 ki6 tl fu0 fp0 : Int} {bt : Nat → Int} {xw mw : va_W} {H : Heap} {locs : List Loc} {ls : Array Slot} (hXi : InvX cI cM cT cJ cZ x kc0 kc1 kc9 kc10 kc6 ki0 ki1 ki9 ki10 ki6 tl fu0 fp0 bt xw) (hMi : InvM cI cM cT cJ cZ q kc0 kc1 kc9 kc10 kc6 ki0 ki1 ki9 ki10 ki6 tl fu0 fp0 bt mw) (hP : va_P D vwCl (xw ++ mw) H) (hD : va_D (fun q : Nat => s.heap.size ≤ q) (xw ++ mw)) (hS : va_S (fun q : Nat => s.heap.size ≤ q) s.heap H locs) (hl : lv_has ls 4 [(0, .ref b), (1, .ref x), (2, .ref q), (3, .int ii)]), W p l e room_1 s m #[Value.ref b] below meth c H locs 300 28000 (lw_Z below #[Value.ref b] s) (F0 m 997 ls [])) : ∀ {kc0 kc1 kc9 kc10 kc6 ki0 ki1 ki9 ki10 ki6 tl fu0 fp0 : Int} {bt : Nat → Int} {xw mw : va_W} {H : Heap} {locs : List Loc} {ls : Array Slot} (hXi : InvX cI cM cT cJ cZ x kc0 kc1 kc9 kc10 kc6 ki0 ki1 ki9 ki10 ki6 tl fu0 fp0 bt xw) (hMi : InvM cI cM cT cJ cZ q kc0 kc1 kc9 kc10 kc6 ki0 ki1 ki9 ki10 ki6 tl fu0 fp0 bt mw) (hP : va_P D vwCl (xw ++ mw) H) (hD : va_D (fun q : Nat => s.heap.size ≤ q) (xw ++ mw)) (hS : va_S (fun q : Nat => s.heap.size ≤ q) s.heap H locs) (hl : lv_has ls 4 [(0, .ref b), (1, .ref x), (2, .ref q), (3, .int ii)]), W p l e room_1 s m #[Value.ref b] below meth c H locs 300 28000 (lw_Z below #[Value.ref b] s) (F0 m 780 ls []) := by
  intro kc0 kc1 kc9 kc10 kc6 ki0 ki1 ki9 ki10 ki6 tl fu0 fp0 bt xw mw H locs ls hXi hMi hP hD hS hl
  have hx := Z.1
  have hb := Z.2.1
  have hbA : ¬ (fun q : Nat => s.heap.size ≤ q) b := Nat.not_le.mpr hbl
  obtain ⟨fs1, hd1⟩ := InvX.head hXi
  obtain ⟨fs2, hd2⟩ := InvM.head hMi
  refine lv_aload_n hx hb dL_law_780 rfl (lv_at hl 1 rfl) ?_
  refine lv_aload_n hx hb dL_law_781 rfl (lv_at hl 0 rfl) ?_
  refine lv_iload_n hx hb dL_law_782 rfl (lv_at hl 3 rfl) ?_
  refine lv_iconst (v := 1) hx hb dL_law_783 (by decide) ?_
  refine lv_iadd hx hb dL_law_784 ?_
  refine va_sld hx hb hX hbl hbA hS (zin h0 h1 hL (by decide)) dL_law_785 ?_
  refine lv_aload_n hx hb dL_law_786 rfl (lv_at hl 0 rfl) ?_
  refine lv_iload_n hx hb dL_law_787 rfl (lv_at hl 3 rfl) ?_
  refine lv_iconst (v := 2) hx hb dL_law_788 (by decide) ?_
  refine lv_iadd hx hb dL_law_789 ?_
  refine va_sld hx hb hX hbl hbA hS (zin h0 h1 hL (by decide)) dL_law_790 ?_
  refine lv_aload_n hx hb dL_law_791 rfl (lv_at hl 0 rfl) ?_
  refine lv_iload_n hx hb dL_law_792 rfl (lv_at hl 3 rfl) ?_
  refine lv_iconst (v := 3) hx hb dL_law_793 (by decide) ?_
  refine lv_iadd hx hb dL_law_794 ?_
  refine va_sld hx hb hX hbl hbA hS (zin h0 h1 hL (by decide)) dL_law_795 ?_
  have hDc := (va_D_left hD)
  refine raw_Vi (ci := 11) (q0 := 0) (nA := 3) (As := [.int (xs (ii + 1).toNatClampNeg), .int (xs (ii + 2).toNatClampNeg), .int (xs (ii + 3).toNatClampNeg)]) (rest := []) Z hl.1 (w_X_thief l D cI cM cT cJ cZ x kc0 kc1 kc9 kc10 kc6 ki0 ki1 ki9 ki10 ki6 tl fu0 fp0 bt (xs (ii + 1).toNatClampNeg) (xs (ii + 2).toNatClampNeg) (xs (ii + 3).toNatClampNeg) hXi) (bw_V bw_932 bw_933 bw_934 bw_80 bw_935) ⟨by decide +kernel, by decide +kernel, by decide +kernel⟩ rfl ⟨Nat.le_of_ble_eq_true rfl, Nat.le_of_ble_eq_true rfl⟩ rfl rfl hd1 (va_P_left hP) hDc hS rfl (Nat.le_of_ble_eq_true rfl) dL_law_796 ⟨Nat.le_of_ble_eq_true rfl, Nat.le_of_ble_eq_true rfl⟩ (fun r1 u H locs h9 hk9 hP1 hD1 hS1 => ?_)
  obtain ⟨d0, d1, d9, d10, d6, j0, j1, j9, j10, j6, tl_, fu_, fp_, bn, hrel1, hX2⟩ := h9
  obtain ⟨hP, hD⟩ := joinL hP hD hk9 (raw_free hDc Z.2.2.2.2.2.2.2.1 hS) hP1 hD1
  have hS := hS1
  clear hS1
  refine lv_pop hx hb dL_law_799 rfl ?_
  refine lv_aload_n hx hb dL_law_800 rfl (lv_at hl 2 rfl) ?_
  refine lv_aload_n hx hb dL_law_801 rfl (lv_at hl 0 rfl) ?_
  refine lv_iload_n hx hb dL_law_802 rfl (lv_at hl 3 rfl) ?_
  refine lv_iconst (v := 1) hx hb dL_law_803 (by decide) ?_
  refine lv_iadd hx hb dL_law_804 ?_
  refine va_sld hx hb hX hbl hbA hS (zin h0 h1 hL (by decide)) dL_law_805 ?_
  refine lv_aload_n hx hb dL_law_806 rfl (lv_at hl 0 rfl) ?_
  refine lv_iload_n hx hb dL_law_807 rfl (lv_at hl 3 rfl) ?_
  refine lv_iconst (v := 2) hx hb dL_law_808 (by decide) ?_
  refine lv_iadd hx hb dL_law_809 ?_
  refine va_sld hx hb hX hbl hbA hS (zin h0 h1 hL (by decide)) dL_law_810 ?_
  refine lv_aload_n hx hb dL_law_811 rfl (lv_at hl 0 rfl) ?_
  refine lv_iload_n hx hb dL_law_812 rfl (lv_at hl 3 rfl) ?_
  refine lv_iconst (v := 3) hx hb dL_law_813 (by decide) ?_
  refine lv_iadd hx hb dL_law_814 ?_
  refine va_sld hx hb hX hbl hbA hS (zin h0 h1 hL (by decide)) dL_law_815 ?_
  have hDc := (va_D_right hD)
  refine raw_Vi (ci := 12) (q0 := 0) (nA := 3) (As := [.int (xs (ii + 1).toNatClampNeg), .int (xs (ii + 2).toNatClampNeg), .int (xs (ii + 3).toNatClampNeg)]) (rest := []) Z hl.1 (w_M_thief l D cI cM cT cJ cZ q kc0 kc1 kc9 kc10 kc6 ki0 ki1 ki9 ki10 ki6 tl fu0 fp0 bt (xs (ii + 1).toNatClampNeg) (xs (ii + 2).toNatClampNeg) (xs (ii + 3).toNatClampNeg) hMi) (bw_V bw_1408 bw_1409 bw_1410 bw_92 bw_1411) ⟨by decide +kernel, by decide +kernel, by decide +kernel⟩ rfl ⟨Nat.le_of_ble_eq_true rfl, Nat.le_of_ble_eq_true rfl⟩ rfl rfl hd2 (va_P_right hP) hDc hS rfl (Nat.le_of_ble_eq_true rfl) dL_law_816 ⟨Nat.le_of_ble_eq_true rfl, Nat.le_of_ble_eq_true rfl⟩ (fun r2 u H locs h9 hk9 hP1 hD1 hS1 => ?_)
  obtain ⟨d0m, d1m, d9m, d10m, d6m, j0m, j1m, j9m, j10m, j6m, tl_m, fu_m, fp_m, bnm, hrel2, hM2⟩ := h9
  obtain ⟨hP, hD⟩ := joinR hP hD hk9 (raw_free hDc Z.2.2.2.2.2.2.2.1 hS) hP1 hD1
  have hS := hS1
  clear hS1
  have hbn : bnm = bn := hrel2.2.2.2.2.2.2.2.2.2.2.2.2.2.trans hrel1.2.2.2.2.2.2.2.2.2.2.2.2.2.symm
  have heq : d0m = d0 ∧ d1m = d1 ∧ d9m = d9 ∧ d10m = d10 ∧ d6m = d6 ∧ j0m = j0 ∧ j1m = j1 ∧ j9m = j9 ∧ j10m = j10 ∧ j6m = j6 ∧ tl_m = tl_ ∧ fu_m = fu_ ∧ fp_m = fp_ := by omega
  obtain ⟨rfl, rfl, rfl, rfl, rfl, rfl, rfl, rfl, rfl, rfl, rfl, rfl, rfl⟩ := heq
  subst hbn
  refine lv_pop hx hb dL_law_819 rfl ?_
  refine lv_goto (tgt := 997) hx hb dL_law_820 (by decide) ?_
  exact kk hX2 hM2 hP hD hS hl
set_option maxHeartbeats 4000000 in
set_option maxRecDepth 100000 in
theorem law_21 {p : Program} {l : Launch} {e : Env} {s : State} {m : MethodId} {below : List Frame} {meth : Method} {c : Code} {b L : Nat} {xs : Nat → Int32} {D : va_G} {cI cM cT cJ cZ : ClassId} {ii : Int32} {x q : Nat} (Z : Zx p s m #[Value.ref b] meth c code 4 ret R_law (fun q : Nat => s.heap.size ≤ q) (ty3 cI cM cT cJ cZ) D) (hX : va_X b L xs s s.heap) (hbl : b < s.heap.size) (hL : L ≤ 3072) (h0 : 0 ≤ ii.toInt) (h1 : ii.toInt + 6 ≤ (L : Int)) (kk : ∀ {kc0 kc1 kc9 kc10 kc6 ki0 ki1 ki9 ki10 ki6 tl fu0 fp0 : Int} {bt : Nat → Int} {xw mw : va_W} {H : Heap} {locs : List Loc} {ls : Array Slot} (hXi : InvX cI cM cT cJ cZ x kc0 kc1 kc9 kc10 kc6 ki0 ki1 ki9 ki10 ki6 tl fu0 fp0 bt xw) (hMi : InvM cI cM cT cJ cZ q kc0 kc1 kc9 kc10 kc6 ki0 ki1 ki9 ki10 ki6 tl fu0 fp0 bt mw) (hP : va_P D vwCl (xw ++ mw) H) (hD : va_D (fun q : Nat => s.heap.size ≤ q) (xw ++ mw)) (hS : va_S (fun q : Nat => s.heap.size ≤ q) s.heap H locs) (hl : lv_has ls 4 [(0, .ref b), (1, .ref x), (2, .ref q), (3, .int ii)]), W p l e room_1 s m #[Value.ref b] below meth c H locs 300 28000 (lw_Z below #[Value.ref b] s) (F0 m 997 ls [])) : ∀ {kc0 kc1 kc9 kc10 kc6 ki0 ki1 ki9 ki10 ki6 tl fu0 fp0 : Int} {bt : Nat → Int} {xw mw : va_W} {H : Heap} {locs : List Loc} {ls : Array Slot} (hXi : InvX cI cM cT cJ cZ x kc0 kc1 kc9 kc10 kc6 ki0 ki1 ki9 ki10 ki6 tl fu0 fp0 bt xw) (hMi : InvM cI cM cT cJ cZ q kc0 kc1 kc9 kc10 kc6 ki0 ki1 ki9 ki10 ki6 tl fu0 fp0 bt mw) (hP : va_P D vwCl (xw ++ mw) H) (hD : va_D (fun q : Nat => s.heap.size ≤ q) (xw ++ mw)) (hS : va_S (fun q : Nat => s.heap.size ≤ q) s.heap H locs) (hl : lv_has ls 4 [(0, .ref b), (1, .ref x), (2, .ref q), (3, .int ii)]), W p l e room_1 s m #[Value.ref b] below meth c H locs 300 28000 (lw_Z below #[Value.ref b] s) (F0 m 823 ls []) := by
  intro kc0 kc1 kc9 kc10 kc6 ki0 ki1 ki9 ki10 ki6 tl fu0 fp0 bt xw mw H locs ls hXi hMi hP hD hS hl
  have hx := Z.1
  have hb := Z.2.1
  have hbA : ¬ (fun q : Nat => s.heap.size ≤ q) b := Nat.not_le.mpr hbl
  obtain ⟨fs1, hd1⟩ := InvX.head hXi
  obtain ⟨fs2, hd2⟩ := InvM.head hMi
  refine lv_aload_n hx hb dL_law_823 rfl (lv_at hl 1 rfl) ?_
  refine lv_aload_n hx hb dL_law_824 rfl (lv_at hl 0 rfl) ?_
  refine lv_iload_n hx hb dL_law_825 rfl (lv_at hl 3 rfl) ?_
  refine lv_iconst (v := 1) hx hb dL_law_826 (by decide) ?_
  refine lv_iadd hx hb dL_law_827 ?_
  refine va_sld hx hb hX hbl hbA hS (zin h0 h1 hL (by decide)) dL_law_828 ?_
  have hDc := (va_D_left hD)
  refine raw_Vi (ci := 11) (q0 := 0) (nA := 1) (As := [.int (xs (ii + 1).toNatClampNeg)]) (rest := []) Z hl.1 (w_X_seen l D cI cM cT cJ cZ x kc0 kc1 kc9 kc10 kc6 ki0 ki1 ki9 ki10 ki6 tl fu0 fp0 bt (xs (ii + 1).toNatClampNeg) hXi) (bw_V bw_946 bw_947 bw_948 bw_80 bw_949) ⟨by decide +kernel, by decide +kernel, by decide +kernel⟩ rfl ⟨Nat.le_of_ble_eq_true rfl, Nat.le_of_ble_eq_true rfl⟩ rfl rfl hd1 (va_P_left hP) hDc hS rfl (Nat.le_of_ble_eq_true rfl) dL_law_829 ⟨Nat.le_of_ble_eq_true rfl, Nat.le_of_ble_eq_true rfl⟩ (fun r1 u H locs h9 hk9 hP1 hD1 hS1 => ?_)
  obtain ⟨d0, d1, d9, d10, d6, j0, j1, j9, j10, j6, tl_, fu_, fp_, bn, hrel1, hX2⟩ := h9
  obtain ⟨hP, hD⟩ := joinL hP hD hk9 (raw_free hDc Z.2.2.2.2.2.2.2.1 hS) hP1 hD1
  have hS := hS1
  clear hS1
  refine lv_pop hx hb dL_law_832 rfl ?_
  refine lv_aload_n hx hb dL_law_833 rfl (lv_at hl 2 rfl) ?_
  refine lv_aload_n hx hb dL_law_834 rfl (lv_at hl 0 rfl) ?_
  refine lv_iload_n hx hb dL_law_835 rfl (lv_at hl 3 rfl) ?_
  refine lv_iconst (v := 1) hx hb dL_law_836 (by decide) ?_
  refine lv_iadd hx hb dL_law_837 ?_
  refine va_sld hx hb hX hbl hbA hS (zin h0 h1 hL (by decide)) dL_law_838 ?_
  have hDc := (va_D_right hD)
  refine raw_Vi (ci := 12) (q0 := 0) (nA := 1) (As := [.int (xs (ii + 1).toNatClampNeg)]) (rest := []) Z hl.1 (w_M_seen l D cI cM cT cJ cZ q kc0 kc1 kc9 kc10 kc6 ki0 ki1 ki9 ki10 ki6 tl fu0 fp0 bt (xs (ii + 1).toNatClampNeg) hMi) (bw_V bw_1423 bw_1424 bw_1425 bw_92 bw_1426) ⟨by decide +kernel, by decide +kernel, by decide +kernel⟩ rfl ⟨Nat.le_of_ble_eq_true rfl, Nat.le_of_ble_eq_true rfl⟩ rfl rfl hd2 (va_P_right hP) hDc hS rfl (Nat.le_of_ble_eq_true rfl) dL_law_839 ⟨Nat.le_of_ble_eq_true rfl, Nat.le_of_ble_eq_true rfl⟩ (fun r2 u H locs h9 hk9 hP1 hD1 hS1 => ?_)
  obtain ⟨d0m, d1m, d9m, d10m, d6m, j0m, j1m, j9m, j10m, j6m, tl_m, fu_m, fp_m, bnm, hrel2, hM2⟩ := h9
  obtain ⟨hP, hD⟩ := joinR hP hD hk9 (raw_free hDc Z.2.2.2.2.2.2.2.1 hS) hP1 hD1
  have hS := hS1
  clear hS1
  have hbn : bnm = bn := hrel2.2.2.2.2.2.2.2.2.2.2.2.2.2.trans hrel1.2.2.2.2.2.2.2.2.2.2.2.2.2.symm
  have heq : d0m = d0 ∧ d1m = d1 ∧ d9m = d9 ∧ d10m = d10 ∧ d6m = d6 ∧ j0m = j0 ∧ j1m = j1 ∧ j9m = j9 ∧ j10m = j10 ∧ j6m = j6 ∧ tl_m = tl_ ∧ fu_m = fu_ ∧ fp_m = fp_ := by omega
  obtain ⟨rfl, rfl, rfl, rfl, rfl, rfl, rfl, rfl, rfl, rfl, rfl, rfl, rfl⟩ := heq
  subst hbn
  refine lv_pop hx hb dL_law_842 rfl ?_
  refine lv_goto (tgt := 997) hx hb dL_law_843 (by decide) ?_
  exact kk hX2 hM2 hP hD hS hl
