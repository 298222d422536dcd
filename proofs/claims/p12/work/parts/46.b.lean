theorem bw_547 : Cond.methodLink "CountingHorsesLaw" 50 ⟨"CountingHorses", "text", "()I"⟩ ∈ BW := bw_at 547 (by decide +kernel) (by decide +kernel)
theorem bw_548 : Cond.instanceMethod ⟨"CountingHorses", "text", "()I"⟩ ∈ BW := bw_at 548 (by decide +kernel) (by decide +kernel)
theorem bw_549 : Cond.selects "CountingHorses" ⟨"CountingHorses", "text", "()I"⟩ ⟨"CountingHorses", "text", "()I"⟩ ∈ BW := bw_at 549 (by decide +kernel) (by decide +kernel)
theorem bw_550 : Cond.code ⟨"CountingHorses", "text", "()I"⟩ prog_1_method_10_code 1 (some .int) ∈ BW := bw_at 550 (by decide +kernel) (by decide +kernel)
theorem bw_787 : Cond.methodLink "CountingHorsesLaw" 55 ⟨"CountingHorses", "fault", "(I)I"⟩ ∈ BW := bw_at 787 (by decide +kernel) (by decide +kernel)
theorem bw_788 : Cond.instanceMethod ⟨"CountingHorses", "fault", "(I)I"⟩ ∈ BW := bw_at 788 (by decide +kernel) (by decide +kernel)
theorem bw_789 : Cond.selects "CountingHorses" ⟨"CountingHorses", "fault", "(I)I"⟩ ⟨"CountingHorses", "fault", "(I)I"⟩ ∈ BW := bw_at 789 (by decide +kernel) (by decide +kernel)
theorem bw_790 : Cond.code ⟨"CountingHorses", "fault", "(I)I"⟩ prog_1_method_11_code 2 (some .int) ∈ BW := bw_at 790 (by decide +kernel) (by decide +kernel)
theorem bw_791 : Cond.methodLink "CountingHorsesLaw" 59 ⟨"CountingHorses", "by", "(I)Z"⟩ ∈ BW := bw_at 791 (by decide +kernel) (by decide +kernel)
theorem bw_792 : Cond.instanceMethod ⟨"CountingHorses", "by", "(I)Z"⟩ ∈ BW := bw_at 792 (by decide +kernel) (by decide +kernel)
theorem bw_793 : Cond.selects "CountingHorses" ⟨"CountingHorses", "by", "(I)Z"⟩ ⟨"CountingHorses", "by", "(I)Z"⟩ ∈ BW := bw_at 793 (by decide +kernel) (by decide +kernel)
theorem bw_794 : Cond.code ⟨"CountingHorses", "by", "(I)Z"⟩ prog_1_method_12_code 2 (some .boolean) ∈ BW := bw_at 794 (by decide +kernel) (by decide +kernel)
theorem bw_795 : Cond.methodLink "CountingHorsesLaw" 64 ⟨"CountingHorses", "start", "(I)Z"⟩ ∈ BW := bw_at 795 (by decide +kernel) (by decide +kernel)
theorem bw_796 : Cond.instanceMethod ⟨"CountingHorses", "start", "(I)Z"⟩ ∈ BW := bw_at 796 (by decide +kernel) (by decide +kernel)
theorem bw_797 : Cond.selects "CountingHorses" ⟨"CountingHorses", "start", "(I)Z"⟩ ⟨"CountingHorses", "start", "(I)Z"⟩ ∈ BW := bw_at 797 (by decide +kernel) (by decide +kernel)
theorem bw_798 : Cond.code ⟨"CountingHorses", "start", "(I)Z"⟩ prog_1_method_13_code 2 (some .boolean) ∈ BW := bw_at 798 (by decide +kernel) (by decide +kernel)
theorem bw_799 : Cond.methodLink "CountingHorsesLaw" 68 ⟨"CountingHorses", "would", "(III)I"⟩ ∈ BW := bw_at 799 (by decide +kernel) (by decide +kernel)
theorem bw_800 : Cond.instanceMethod ⟨"CountingHorses", "would", "(III)I"⟩ ∈ BW := bw_at 800 (by decide +kernel) (by decide +kernel)
theorem bw_801 : Cond.selects "CountingHorses" ⟨"CountingHorses", "would", "(III)I"⟩ ⟨"CountingHorses", "would", "(III)I"⟩ ∈ BW := bw_at 801 (by decide +kernel) (by decide +kernel)
theorem bw_802 : Cond.code ⟨"CountingHorses", "would", "(III)I"⟩ prog_1_method_14_code 5 (some .int) ∈ BW := bw_at 802 (by decide +kernel) (by decide +kernel)
theorem bw_867 : Cond.methodLink "CountingHorsesLaw" 73 ⟨"CountingHorses", "drive", "(I)I"⟩ ∈ BW := bw_at 867 (by decide +kernel) (by decide +kernel)
theorem bw_868 : Cond.instanceMethod ⟨"CountingHorses", "drive", "(I)I"⟩ ∈ BW := bw_at 868 (by decide +kernel) (by decide +kernel)
theorem bw_869 : Cond.selects "CountingHorses" ⟨"CountingHorses", "drive", "(I)I"⟩ ⟨"CountingHorses", "drive", "(I)I"⟩ ∈ BW := bw_at 869 (by decide +kernel) (by decide +kernel)
theorem bw_870 : Cond.code ⟨"CountingHorses", "drive", "(I)I"⟩ prog_1_method_15_code 2 (some .int) ∈ BW := bw_at 870 (by decide +kernel) (by decide +kernel)
theorem bw_876 : Cond.methodLink "CountingHorsesLaw" 77 ⟨"CountingHorses", "pass", "(I)I"⟩ ∈ BW := bw_at 876 (by decide +kernel) (by decide +kernel)
theorem bw_877 : Cond.instanceMethod ⟨"CountingHorses", "pass", "(I)I"⟩ ∈ BW := bw_at 877 (by decide +kernel) (by decide +kernel)
theorem bw_878 : Cond.selects "CountingHorses" ⟨"CountingHorses", "pass", "(I)I"⟩ ⟨"CountingHorses", "pass", "(I)I"⟩ ∈ BW := bw_at 878 (by decide +kernel) (by decide +kernel)
theorem bw_879 : Cond.code ⟨"CountingHorses", "pass", "(I)I"⟩ prog_1_method_16_code 2 (some .int) ∈ BW := bw_at 879 (by decide +kernel) (by decide +kernel)
theorem bw_1166 : Cond.methodLink "CountingHorsesLaw" 54 ⟨"CountingHorsesModel", "text", "()I"⟩ ∈ BW := bw_at 1166 (by decide +kernel) (by decide +kernel)
theorem bw_1167 : Cond.instanceMethod ⟨"CountingHorsesModel", "text", "()I"⟩ ∈ BW := bw_at 1167 (by decide +kernel) (by decide +kernel)
theorem bw_1168 : Cond.selects "CountingHorsesModel" ⟨"CountingHorsesModel", "text", "()I"⟩ ⟨"CountingHorsesModel", "text", "()I"⟩ ∈ BW := bw_at 1168 (by decide +kernel) (by decide +kernel)
theorem bw_1169 : Cond.code ⟨"CountingHorsesModel", "text", "()I"⟩ prog_14_method_47_code 1 (some .int) ∈ BW := bw_at 1169 (by decide +kernel) (by decide +kernel)
theorem bw_1286 : Cond.methodLink "CountingHorsesLaw" 58 ⟨"CountingHorsesModel", "fault", "(I)I"⟩ ∈ BW := bw_at 1286 (by decide +kernel) (by decide +kernel)
theorem bw_1287 : Cond.instanceMethod ⟨"CountingHorsesModel", "fault", "(I)I"⟩ ∈ BW := bw_at 1287 (by decide +kernel) (by decide +kernel)
theorem bw_1288 : Cond.selects "CountingHorsesModel" ⟨"CountingHorsesModel", "fault", "(I)I"⟩ ⟨"CountingHorsesModel", "fault", "(I)I"⟩ ∈ BW := bw_at 1288 (by decide +kernel) (by decide +kernel)
theorem bw_1289 : Cond.code ⟨"CountingHorsesModel", "fault", "(I)I"⟩ prog_14_method_48_code 2 (some .int) ∈ BW := bw_at 1289 (by decide +kernel) (by decide +kernel)
theorem bw_1290 : Cond.methodLink "CountingHorsesLaw" 63 ⟨"CountingHorsesModel", "by", "(I)Z"⟩ ∈ BW := bw_at 1290 (by decide +kernel) (by decide +kernel)
theorem bw_1291 : Cond.instanceMethod ⟨"CountingHorsesModel", "by", "(I)Z"⟩ ∈ BW := bw_at 1291 (by decide +kernel) (by decide +kernel)
theorem bw_1292 : Cond.selects "CountingHorsesModel" ⟨"CountingHorsesModel", "by", "(I)Z"⟩ ⟨"CountingHorsesModel", "by", "(I)Z"⟩ ∈ BW := bw_at 1292 (by decide +kernel) (by decide +kernel)
theorem bw_1293 : Cond.code ⟨"CountingHorsesModel", "by", "(I)Z"⟩ prog_14_method_49_code 2 (some .boolean) ∈ BW := bw_at 1293 (by decide +kernel) (by decide +kernel)
theorem bw_1294 : Cond.methodLink "CountingHorsesLaw" 72 ⟨"CountingHorsesModel", "would", "(III)I"⟩ ∈ BW := bw_at 1294 (by decide +kernel) (by decide +kernel)
theorem bw_1295 : Cond.instanceMethod ⟨"CountingHorsesModel", "would", "(III)I"⟩ ∈ BW := bw_at 1295 (by decide +kernel) (by decide +kernel)
theorem bw_1296 : Cond.selects "CountingHorsesModel" ⟨"CountingHorsesModel", "would", "(III)I"⟩ ⟨"CountingHorsesModel", "would", "(III)I"⟩ ∈ BW := bw_at 1296 (by decide +kernel) (by decide +kernel)
theorem bw_1297 : Cond.code ⟨"CountingHorsesModel", "would", "(III)I"⟩ prog_14_method_61_code 4 (some .int) ∈ BW := bw_at 1297 (by decide +kernel) (by decide +kernel)
theorem bw_1356 : Cond.methodLink "CountingHorsesLaw" 67 ⟨"CountingHorsesModel", "start", "(I)Z"⟩ ∈ BW := bw_at 1356 (by decide +kernel) (by decide +kernel)
theorem bw_1357 : Cond.instanceMethod ⟨"CountingHorsesModel", "start", "(I)Z"⟩ ∈ BW := bw_at 1357 (by decide +kernel) (by decide +kernel)
theorem bw_1358 : Cond.selects "CountingHorsesModel" ⟨"CountingHorsesModel", "start", "(I)Z"⟩ ⟨"CountingHorsesModel", "start", "(I)Z"⟩ ∈ BW := bw_at 1358 (by decide +kernel) (by decide +kernel)
theorem bw_1359 : Cond.code ⟨"CountingHorsesModel", "start", "(I)Z"⟩ prog_14_method_65_code 2 (some .boolean) ∈ BW := bw_at 1359 (by decide +kernel) (by decide +kernel)
theorem bw_1360 : Cond.methodLink "CountingHorsesLaw" 76 ⟨"CountingHorsesModel", "drive", "(I)I"⟩ ∈ BW := bw_at 1360 (by decide +kernel) (by decide +kernel)
theorem bw_1364 : Cond.methodLink "CountingHorsesLaw" 80 ⟨"CountingHorsesModel", "pass", "(I)I"⟩ ∈ BW := bw_at 1364 (by decide +kernel) (by decide +kernel)

set_option maxHeartbeats 4000000 in
set_option maxRecDepth 100000 in
theorem law_8 {p : Program} {l : Launch} {e : Env} {s : State} {m : MethodId} {below : List Frame} {meth : Method} {c : Code} {b L : Nat} {xs : Nat → Int32} {D : va_G} {cI cM cT cJ cZ : ClassId} {ii : Int32} {x q : Nat} (Z : Zx p s m #[Value.ref b] meth c code 4 ret R_law (fun q : Nat => s.heap.size ≤ q) (ty3 cI cM cT cJ cZ) D) (hX : va_X b L xs s s.heap) (hbl : b < s.heap.size) (hL : L ≤ 3072) (h0 : 0 ≤ ii.toInt) (h1 : ii.toInt + 6 ≤ (L : Int)) (kk : ∀ {kc0 kc1 kc9 kc10 kc6 ki0 ki1 ki9 ki10 ki6 tl fu0 fp0 : Int} {bt : Nat → Int} {xw mw : va_W} {H : Heap} {locs : List Loc} {ls : Array Slot} (hXi : InvX cI cM cT cJ cZ x kc0 kc1 kc9 kc10 kc6 ki0 ki1 ki9 ki10 ki6 tl fu0 fp0 bt xw) (hMi : InvM cI cM cT cJ cZ q kc0 kc1 kc9 kc10 kc6 ki0 ki1 ki9 ki10 ki6 tl fu0 fp0 bt mw) (hP : va_P D vwCl (xw ++ mw) H) (hD : va_D (fun q : Nat => s.heap.size ≤ q) (xw ++ mw)) (hS : va_S (fun q : Nat => s.heap.size ≤ q) s.heap H locs) (hl : lv_has ls 4 [(0, .ref b), (1, .ref x), (2, .ref q), (3, .int ii)]), W p l e room_1 s m #[Value.ref b] below meth c H locs 300 28000 (lw_Z below #[Value.ref b] s) (F0 m 997 ls [])) : ∀ {kc0 kc1 kc9 kc10 kc6 ki0 ki1 ki9 ki10 ki6 tl fu0 fp0 : Int} {bt : Nat → Int} {xw mw : va_W} {H : Heap} {locs : List Loc} {ls : Array Slot} (hXi : InvX cI cM cT cJ cZ x kc0 kc1 kc9 kc10 kc6 ki0 ki1 ki9 ki10 ki6 tl fu0 fp0 bt xw) (hMi : InvM cI cM cT cJ cZ q kc0 kc1 kc9 kc10 kc6 ki0 ki1 ki9 ki10 ki6 tl fu0 fp0 bt mw) (hP : va_P D vwCl (xw ++ mw) H) (hD : va_D (fun q : Nat => s.heap.size ≤ q) (xw ++ mw)) (hS : va_S (fun q : Nat => s.heap.size ≤ q) s.heap H locs) (hl : lv_has ls 4 [(0, .ref b), (1, .ref x), (2, .ref q), (3, .int ii)]), W p l e room_1 s m #[Value.ref b] below meth c H locs 300 28000 (lw_Z below #[Value.ref b] s) (F0 m 448 ls []) := by
  intro kc0 kc1 kc9 kc10 kc6 ki0 ki1 ki9 ki10 ki6 tl fu0 fp0 bt xw mw H locs ls hXi hMi hP hD hS hl
  have hx := Z.1
  have hb := Z.2.1
  have hbA : ¬ (fun q : Nat => s.heap.size ≤ q) b := Nat.not_le.mpr hbl
  obtain ⟨fs1, hd1⟩ := InvX.head hXi
  obtain ⟨fs2, hd2⟩ := InvM.head hMi
  refine lv_aload_n hx hb dL_law_448 rfl (lv_at hl 1 rfl) ?_
  have hDc := (va_D_left hD)
  refine raw_Vi (ci := 11) (q0 := 0) (nA := 0) (As := []) (rest := []) Z hl.1 (w_X_text l D cI cM cT cJ cZ x kc0 kc1 kc9 kc10 kc6 ki0 ki1 ki9 ki10 ki6 tl fu0 fp0 bt  hXi) (bw_V bw_547 bw_548 bw_549 bw_80 bw_550) ⟨by decide +kernel, by decide +kernel, by decide +kernel⟩ rfl ⟨Nat.le_of_ble_eq_true rfl, Nat.le_of_ble_eq_true rfl⟩ rfl rfl hd1 (va_P_left hP) hDc hS rfl (Nat.le_of_ble_eq_true rfl) dL_law_449 ⟨Nat.le_of_ble_eq_true rfl, Nat.le_of_ble_eq_true rfl⟩ (fun r1 u H locs h9 hk9 hP1 hD1 hS1 => ?_)
  obtain ⟨d0, d1, d9, d10, d6, j0, j1, j9, j10, j6, tl_, fu_, fp_, bn, hrel1, hX2⟩ := h9
  obtain ⟨hP, hD⟩ := joinL hP hD hk9 (raw_free hDc Z.2.2.2.2.2.2.2.1 hS) hP1 hD1
  have hS := hS1
  clear hS1
  refine lv_pop hx hb dL_law_452 rfl ?_
  refine lv_aload_n hx hb dL_law_453 rfl (lv_at hl 2 rfl) ?_
  have hDc := (va_D_right hD)
  refine raw_Vi (ci := 12) (q0 := 0) (nA := 0) (As := []) (rest := []) Z hl.1 (w_M_text l D cI cM cT cJ cZ q kc0 kc1 kc9 kc10 kc6 ki0 ki1 ki9 ki10 ki6 tl fu0 fp0 bt  hMi) (bw_V bw_1166 bw_1167 bw_1168 bw_92 bw_1169) ⟨by decide +kernel, by decide +kernel, by decide +kernel⟩ rfl ⟨Nat.le_of_ble_eq_true rfl, Nat.le_of_ble_eq_true rfl⟩ rfl rfl hd2 (va_P_right hP) hDc hS rfl (Nat.le_of_ble_eq_true rfl) dL_law_454 ⟨Nat.le_of_ble_eq_true rfl, Nat.le_of_ble_eq_true rfl⟩ (fun r2 u H locs h9 hk9 hP1 hD1 hS1 => ?_)
  obtain ⟨d0m, d1m, d9m, d10m, d6m, j0m, j1m, j9m, j10m, j6m, tl_m, fu_m, fp_m, bnm, hrel2, hM2⟩ := h9
  obtain ⟨hP, hD⟩ := joinR hP hD hk9 (raw_free hDc Z.2.2.2.2.2.2.2.1 hS) hP1 hD1
  have hS := hS1
  clear hS1
  have hd9 := TxP.det hrel1.1 hrel2.1
  have hbn : bnm = bn := by
    rcases hrel1.2.1 with h9 | h9 <;> rcases hrel2.2.1 with h8 | h8
    · rw [h9.2, h8.2]
    · exfalso; omega
    · exfalso; omega
    · rw [h9.2, h8.2]
  have heq : d0m = d0 ∧ d1m = d1 ∧ d9m = d9 ∧ d10m = d10 ∧ d6m = d6 ∧ j0m = j0 ∧ j1m = j1 ∧ j9m = j9 ∧ j10m = j10 ∧ j6m = j6 ∧ tl_m = tl_ ∧ fu_m = fu_ ∧ fp_m = fp_ := by omega
  obtain ⟨rfl, rfl, rfl, rfl, rfl, rfl, rfl, rfl, rfl, rfl, rfl, rfl, rfl⟩ := heq
  subst hbn
  refine lv_pop hx hb dL_law_457 rfl ?_
  refine lv_goto (tgt := 997) hx hb dL_law_458 (by decide) ?_
  exact kk hX2 hM2 hP hD hS hl
set_option maxHeartbeats 4000000 in
set_option maxRecDepth 100000 in
theorem law_9 {p : Program} {l : Launch} {e : Env} {s : State} {m : MethodId} {below : List Frame} {meth : Method} {c : Code} {b L : Nat} {xs : Nat → Int32} {D : va_G} {cI cM cT cJ cZ : ClassId} {ii : Int32} {x q : Nat} (Z : Zx p s m #[Value.ref b] meth c code 4 ret R_law (fun q : Nat => s.heap.size ≤ q) (ty3 cI cM cT cJ cZ) D) (hX : va_X b L xs s s.heap) (hbl : b < s.heap.size) (hL : L ≤ 3072) (h0 : 0 ≤ ii.toInt) (h1 : ii.toInt + 6 ≤ (L : Int)) (kk : ∀ {kc0 kc1 kc9 kc10 kc6 ki0 ki1 ki9 ki10 ki6 tl fu0 fp0 : Int} {bt : Nat → Int} {xw mw : va_W} {H : Heap} {locs : List Loc} {ls : Array Slot} (hXi : InvX cI cM cT cJ cZ x kc0 kc1 kc9 kc10 kc6 ki0 ki1 ki9 ki10 ki6 tl fu0 fp0 bt xw) (hMi : InvM cI cM cT cJ cZ q kc0 kc1 kc9 kc10 kc6 ki0 ki1 ki9 ki10 ki6 tl fu0 fp0 bt mw) (hP : va_P D vwCl (xw ++ mw) H) (hD : va_D (fun q : Nat => s.heap.size ≤ q) (xw ++ mw)) (hS : va_S (fun q : Nat => s.heap.size ≤ q) s.heap H locs) (hl : lv_has ls 4 [(0, .ref b), (1, .ref x), (2, .ref q), (3, .int ii)]), W p l e room_1 s m #[Value.ref b] below meth c H locs 300 28000 (lw_Z below #[Value.ref b] s) (F0 m 997 ls [])) : ∀ {kc0 kc1 kc9 kc10 kc6 ki0 ki1 ki9 ki10 ki6 tl fu0 fp0 : Int} {bt : Nat → Int} {xw mw : va_W} {H : Heap} {locs : List Loc} {ls : Array Slot} (hXi : InvX cI cM cT cJ cZ x kc0 kc1 kc9 kc10 kc6 ki0 ki1 ki9 ki10 ki6 tl fu0 fp0 bt xw) (hMi : InvM cI cM cT cJ cZ q kc0 kc1 kc9 kc10 kc6 ki0 ki1 ki9 ki10 ki6 tl fu0 fp0 bt mw) (hP : va_P D vwCl (xw ++ mw) H) (hD : va_D (fun q : Nat => s.heap.size ≤ q) (xw ++ mw)) (hS : va_S (fun q : Nat => s.heap.size ≤ q) s.heap H locs) (hl : lv_has ls 4 [(0, .ref b), (1, .ref x), (2, .ref q), (3, .int ii)]), W p l e room_1 s m #[Value.ref b] below meth c H locs 300 28000 (lw_Z below #[Value.ref b] s) (F0 m 461 ls []) := by
  intro kc0 kc1 kc9 kc10 kc6 ki0 ki1 ki9 ki10 ki6 tl fu0 fp0 bt xw mw H locs ls hXi hMi hP hD hS hl
  have hx := Z.1
  have hb := Z.2.1
  have hbA : ¬ (fun q : Nat => s.heap.size ≤ q) b := Nat.not_le.mpr hbl
  obtain ⟨fs1, hd1⟩ := InvX.head hXi
  obtain ⟨fs2, hd2⟩ := InvM.head hMi
  refine lv_aload_n hx hb dL_law_461 rfl (lv_at hl 1 rfl) ?_
  refine lv_aload_n hx hb dL_law_462 rfl (lv_at hl 0 rfl) ?_
  refine lv_iload_n hx hb dL_law_463 rfl (lv_at hl 3 rfl) ?_
  refine lv_iconst (v := 1) hx hb dL_law_464 (by decide) ?_
  refine lv_iadd hx hb dL_law_465 ?_
  refine va_sld hx hb hX hbl hbA hS (zin h0 h1 hL (by decide)) dL_law_466 ?_
  have hDc := (va_D_left hD)
  refine raw_Vi (ci := 11) (q0 := 0) (nA := 1) (As := [.int (xs (ii + 1).toNatClampNeg)]) (rest := []) Z hl.1 (w_X_fault l D cI cM cT cJ cZ x kc0 kc1 kc9 kc10 kc6 ki0 ki1 ki9 ki10 ki6 tl fu0 fp0 bt (xs (ii + 1).toNatClampNeg) hXi) (bw_V bw_787 bw_788 bw_789 bw_80 bw_790) ⟨by decide +kernel, by decide +kernel, by decide +kernel⟩ rfl ⟨Nat.le_of_ble_eq_true rfl, Nat.le_of_ble_eq_true rfl⟩ rfl rfl hd1 (va_P_left hP) hDc hS rfl (Nat.le_of_ble_eq_true rfl) dL_law_467 ⟨Nat.le_of_ble_eq_true rfl, Nat.le_of_ble_eq_true rfl⟩ (fun r1 u H locs h9 hk9 hP1 hD1 hS1 => ?_)
  obtain ⟨d0, d1, d9, d10, d6, j0, j1, j9, j10, j6, tl_, fu_, fp_, bn, hrel1, hX2⟩ := h9
  obtain ⟨hP, hD⟩ := joinL hP hD hk9 (raw_free hDc Z.2.2.2.2.2.2.2.1 hS) hP1 hD1
  have hS := hS1
  clear hS1
  refine lv_pop hx hb dL_law_470 rfl ?_
  refine lv_aload_n hx hb dL_law_471 rfl (lv_at hl 2 rfl) ?_
  refine lv_aload_n hx hb dL_law_472 rfl (lv_at hl 0 rfl) ?_
  refine lv_iload_n hx hb dL_law_473 rfl (lv_at hl 3 rfl) ?_
  refine lv_iconst (v := 1) hx hb dL_law_474 (by decide) ?_
  refine lv_iadd hx hb dL_law_475 ?_
  refine va_sld hx hb hX hbl hbA hS (zin h0 h1 hL (by decide)) dL_law_476 ?_
  have hDc := (va_D_right hD)
  refine raw_Vi (ci := 12) (q0 := 0) (nA := 1) (As := [.int (xs (ii + 1).toNatClampNeg)]) (rest := []) Z hl.1 (w_M_fault l D cI cM cT cJ cZ q kc0 kc1 kc9 kc10 kc6 ki0 ki1 ki9 ki10 ki6 tl fu0 fp0 bt (xs (ii + 1).toNatClampNeg) hMi) (bw_V bw_1286 bw_1287 bw_1288 bw_92 bw_1289) ⟨by decide +kernel, by decide +kernel, by decide +kernel⟩ rfl ⟨Nat.le_of_ble_eq_true rfl, Nat.le_of_ble_eq_true rfl⟩ rfl rfl hd2 (va_P_right hP) hDc hS rfl (Nat.le_of_ble_eq_true rfl) dL_law_477 ⟨Nat.le_of_ble_eq_true rfl, Nat.le_of_ble_eq_true rfl⟩ (fun r2 u H locs h9 hk9 hP1 hD1 hS1 => ?_)
  obtain ⟨d0m, d1m, d9m, d10m, d6m, j0m, j1m, j9m, j10m, j6m, tl_m, fu_m, fp_m, bnm, hrel2, hM2⟩ := h9
  obtain ⟨hP, hD⟩ := joinR hP hD hk9 (raw_free hDc Z.2.2.2.2.2.2.2.1 hS) hP1 hD1
  have hS := hS1
  clear hS1
  have hbn : bnm = bn := hrel2.2.2.2.2.2.2.2.2.2.2.2.2.2.2.trans hrel1.2.2.2.2.2.2.2.2.2.2.2.2.2.2.symm
  have heq : d0m = d0 ∧ d1m = d1 ∧ d9m = d9 ∧ d10m = d10 ∧ d6m = d6 ∧ j0m = j0 ∧ j1m = j1 ∧ j9m = j9 ∧ j10m = j10 ∧ j6m = j6 ∧ tl_m = tl_ ∧ fu_m = fu_ ∧ fp_m = fp_ := by omega
  obtain ⟨rfl, rfl, rfl, rfl, rfl, rfl, rfl, rfl, rfl, rfl, rfl, rfl, rfl⟩ := heq
  subst hbn
  refine lv_pop hx hb dL_law_480 rfl ?_
  refine lv_goto (tgt := 997) hx hb dL_law_481 (by decide) ?_
  exact kk hX2 hM2 hP hD hS hl
set_option maxHeartbeats 4000000 in
set_option maxRecDepth 100000 in
theorem law_10 {p : Program} {l : Launch} {e : Env} {s : State} {m : MethodId} {below : List Frame} {meth : Method} {c : Code} {b L : Nat} {xs : Nat → Int32} {D : va_G} {cI cM cT cJ cZ : ClassId} {ii : Int32} {x q : Nat} (Z : Zx p s m #[Value.ref b] meth c code 4 ret R_law (fun q : Nat => s.heap.size ≤ q) (ty3 cI cM cT cJ cZ) D) (hX : va_X b L xs s s.heap) (hbl : b < s.heap.size) (hL : L ≤ 3072) (h0 : 0 ≤ ii.toInt) (h1 : ii.toInt + 6 ≤ (L : Int)) (kk : ∀ {kc0 kc1 kc9 kc10 kc6 ki0 ki1 ki9 ki10 ki6 tl fu0 fp0 : Int} {bt : Nat → Int} {xw mw : va_W} {H : Heap} {locs : List Loc} {ls : Array Slot} (hXi : InvX cI cM cT cJ cZ x kc0 kc1 kc9 kc10 kc6 ki0 ki1 ki9 ki10 ki6 tl fu0 fp0 bt xw) (hMi : InvM cI cM cT cJ cZ q kc0 kc1 kc9 kc10 kc6 ki0 ki1 ki9 ki10 ki6 tl fu0 fp0 bt mw) (hP : va_P D vwCl (xw ++ mw) H) (hD : va_D (fun q : Nat => s.heap.size ≤ q) (xw ++ mw)) (hS : va_S (fun q : Nat => s.heap.size ≤ q) s.heap H locs) (hl : lv_has ls 4 [(0, .ref b), (1, .ref x), (2, .ref q), (3, .int ii)]), W p l e room_1 s m #[Value.ref b] below meth c H locs 300 28000 (lw_Z below #[Value.ref b] s) (F0 m 997 ls [])) : ∀ {kc0 kc1 kc9 kc10 kc6 ki0 ki1 ki9 ki10 ki6 tl fu0 fp0 : Int} {bt : Nat → Int} {xw mw : va_W} {H : Heap} {locs : List Loc} {ls : Array Slot} (hXi : InvX cI cM cT cJ cZ x kc0 kc1 kc9 kc10 kc6 ki0 ki1 ki9 ki10 ki6 tl fu0 fp0 bt xw) (hMi : InvM cI cM cT cJ cZ q kc0 kc1 kc9 kc10 kc6 ki0 ki1 ki9 ki10 ki6 tl fu0 fp0 bt mw) (hP : va_P D vwCl (xw ++ mw) H) (hD : va_D (fun q : Nat => s.heap.size ≤ q) (xw ++ mw)) (hS : va_S (fun q : Nat => s.heap.size ≤ q) s.heap H locs) (hl : lv_has ls 4 [(0, .ref b), (1, .ref x), (2, .ref q), (3, .int ii)]), W p l e room_1 s m #[Value.ref b] below meth c H locs 300 28000 (lw_Z below #[Value.ref b] s) (F0 m 484 ls []) := by
  intro kc0 kc1 kc9 kc10 kc6 ki0 ki1 ki9 ki10 ki6 tl fu0 fp0 bt xw mw H locs ls hXi hMi hP hD hS hl
  have hx := Z.1
  have hb := Z.2.1
  have hbA : ¬ (fun q : Nat => s.heap.size ≤ q) b := Nat.not_le.mpr hbl
  obtain ⟨fs1, hd1⟩ := InvX.head hXi
  obtain ⟨fs2, hd2⟩ := InvM.head hMi
  refine lv_aload_n hx hb dL_law_484 rfl (lv_at hl 1 rfl) ?_
  refine lv_aload_n hx hb dL_law_485 rfl (lv_at hl 0 rfl) ?_
  refine lv_iload_n hx hb dL_law_486 rfl (lv_at hl 3 rfl) ?_
  refine lv_iconst (v := 1) hx hb dL_law_487 (by decide) ?_
  refine lv_iadd hx hb dL_law_488 ?_
  refine va_sld hx hb hX hbl hbA hS (zin h0 h1 hL (by decide)) dL_law_489 ?_
  have hDc := (va_D_left hD)
  refine raw_Vi (ci := 11) (q0 := 0) (nA := 1) (As := [.int (xs (ii + 1).toNatClampNeg)]) (rest := []) Z hl.1 (w_X_by l D cI cM cT cJ cZ x kc0 kc1 kc9 kc10 kc6 ki0 ki1 ki9 ki10 ki6 tl fu0 fp0 bt (xs (ii + 1).toNatClampNeg) hXi) (bw_V bw_791 bw_792 bw_793 bw_80 bw_794) ⟨by decide +kernel, by decide +kernel, by decide +kernel⟩ rfl ⟨Nat.le_of_ble_eq_true rfl, Nat.le_of_ble_eq_true rfl⟩ rfl rfl hd1 (va_P_left hP) hDc hS rfl (Nat.le_of_ble_eq_true rfl) dL_law_490 ⟨Nat.le_of_ble_eq_true rfl, Nat.le_of_ble_eq_true rfl⟩ (fun r1 u H locs h9 hk9 hP1 hD1 hS1 => ?_)
  obtain ⟨d0, d1, d9, d10, d6, j0, j1, j9, j10, j6, tl_, fu_, fp_, bn, hrel1, hX2⟩ := h9
  obtain ⟨hP, hD⟩ := joinL hP hD hk9 (raw_free hDc Z.2.2.2.2.2.2.2.1 hS) hP1 hD1
  have hS := hS1
  clear hS1
  refine lv_aload_n hx hb dL_law_493 rfl (lv_at hl 2 rfl) ?_
  refine lv_aload_n hx hb dL_law_494 rfl (lv_at hl 0 rfl) ?_
  refine lv_iload_n hx hb dL_law_495 rfl (lv_at hl 3 rfl) ?_
  refine lv_iconst (v := 1) hx hb dL_law_496 (by decide) ?_
  refine lv_iadd hx hb dL_law_497 ?_
  refine va_sld hx hb hX hbl hbA hS (zin h0 h1 hL (by decide)) dL_law_498 ?_
  have hDc := (va_D_right hD)
  refine raw_Vi (ci := 12) (q0 := 0) (nA := 1) (As := [.int (xs (ii + 1).toNatClampNeg)]) (rest := [.int r1]) Z hl.1 (w_M_by l D cI cM cT cJ cZ q kc0 kc1 kc9 kc10 kc6 ki0 ki1 ki9 ki10 ki6 tl fu0 fp0 bt (xs (ii + 1).toNatClampNeg) hMi) (bw_V bw_1290 bw_1291 bw_1292 bw_92 bw_1293) ⟨by decide +kernel, by decide +kernel, by decide +kernel⟩ rfl ⟨Nat.le_of_ble_eq_true rfl, Nat.le_of_ble_eq_true rfl⟩ rfl rfl hd2 (va_P_right hP) hDc hS rfl (Nat.le_of_ble_eq_true rfl) dL_law_499 ⟨Nat.le_of_ble_eq_true rfl, Nat.le_of_ble_eq_true rfl⟩ (fun r2 u H locs h9 hk9 hP1 hD1 hS1 => ?_)
  obtain ⟨d0m, d1m, d9m, d10m, d6m, j0m, j1m, j9m, j10m, j6m, tl_m, fu_m, fp_m, bnm, hrel2, hM2⟩ := h9
  obtain ⟨hP, hD⟩ := joinR hP hD hk9 (raw_free hDc Z.2.2.2.2.2.2.2.1 hS) hP1 hD1
  have hS := hS1
  clear hS1
  have hbn : bnm = bn := hrel2.2.2.2.2.2.2.2.2.2.2.2.2.2.2.trans hrel1.2.2.2.2.2.2.2.2.2.2.2.2.2.2.symm
  have heq : d0m = d0 ∧ d1m = d1 ∧ d9m = d9 ∧ d10m = d10 ∧ d6m = d6 ∧ j0m = j0 ∧ j1m = j1 ∧ j9m = j9 ∧ j10m = j10 ∧ j6m = j6 ∧ tl_m = tl_ ∧ fu_m = fu_ ∧ fp_m = fp_ := by omega
  obtain ⟨rfl, rfl, rfl, rfl, rfl, rfl, rfl, rfl, rfl, rfl, rfl, rfl, rfl⟩ := heq
  subst hbn
  refine lv_icmp_eq (tgt := 997) hx hb dL_law_502 (by decide) (fun _ => ?_) (fun h => absurd (Int32.toInt_inj.mp (by omega)) h)
  exact kk hX2 hM2 hP hD hS hl
set_option maxHeartbeats 4000000 in
set_option maxRecDepth 100000 in
theorem law_11 {p : Program} {l : Launch} {e : Env} {s : State} {m : MethodId} {below : List Frame} {meth : Method} {c : Code} {b L : Nat} {xs : Nat → Int32} {D : va_G} {cI cM cT cJ cZ : ClassId} {ii : Int32} {x q : Nat} (Z : Zx p s m #[Value.ref b] meth c code 4 ret R_law (fun q : Nat => s.heap.size ≤ q) (ty3 cI cM cT cJ cZ) D) (hX : va_X b L xs s s.heap) (hbl : b < s.heap.size) (hL : L ≤ 3072) (h0 : 0 ≤ ii.toInt) (h1 : ii.toInt + 6 ≤ (L : Int)) (kk : ∀ {kc0 kc1 kc9 kc10 kc6 ki0 ki1 ki9 ki10 ki6 tl fu0 fp0 : Int} {bt : Nat → Int} {xw mw : va_W} {H : Heap} {locs : List Loc} {ls : Array Slot} (hXi : InvX cI cM cT cJ cZ x kc0 kc1 kc9 kc10 kc6 ki0 ki1 ki9 ki10 ki6 tl fu0 fp0 bt xw) (hMi : InvM cI cM cT cJ cZ q kc0 kc1 kc9 kc10 kc6 ki0 ki1 ki9 ki10 ki6 tl fu0 fp0 bt mw) (hP : va_P D vwCl (xw ++ mw) H) (hD : va_D (fun q : Nat => s.heap.size ≤ q) (xw ++ mw)) (hS : va_S (fun q : Nat => s.heap.size ≤ q) s.heap H locs) (hl : lv_has ls 4 [(0, .ref b), (1, .ref x), (2, .ref q), (3, .int ii)]), W p l e room_1 s m #[Value.ref b] below meth c H locs 300 28000 (lw_Z below #[Value.ref b] s) (F0 m 997 ls [])) : ∀ {kc0 kc1 kc9 kc10 kc6 ki0 ki1 ki9 ki10 ki6 tl fu0 fp0 : Int} {bt : Nat → Int} {xw mw : va_W} {H : Heap} {locs : List Loc} {ls : Array Slot} (hXi : InvX cI cM cT cJ cZ x kc0 kc1 kc9 kc10 kc6 ki0 ki1 ki9 ki10 ki6 tl fu0 fp0 bt xw) (hMi : InvM cI cM cT cJ cZ q kc0 kc1 kc9 kc10 kc6 ki0 ki1 ki9 ki10 ki6 tl fu0 fp0 bt mw) (hP : va_P D vwCl (xw ++ mw) H) (hD : va_D (fun q : Nat => s.heap.size ≤ q) (xw ++ mw)) (hS : va_S (fun q : Nat => s.heap.size ≤ q) s.heap H locs) (hl : lv_has ls 4 [(0, .ref b), (1, .ref x), (2, .ref q), (3, .int ii)]), W p l e room_1 s m #[Value.ref b] below meth c H locs 300 28000 (lw_Z below #[Value.ref b] s) (F0 m 507 ls []) := by
  intro kc0 kc1 kc9 kc10 kc6 ki0 ki1 ki9 ki10 ki6 tl fu0 fp0 bt xw mw H locs ls hXi hMi hP hD hS hl
  have hx := Z.1
  have hb := Z.2.1
  have hbA : ¬ (fun q : Nat => s.heap.size ≤ q) b := Nat.not_le.mpr hbl
  obtain ⟨fs1, hd1⟩ := InvX.head hXi
  obtain ⟨fs2, hd2⟩ := InvM.head hMi
  refine lv_aload_n hx hb dL_law_507 rfl (lv_at hl 1 rfl) ?_
  refine lv_aload_n hx hb dL_law_508 rfl (lv_at hl 0 rfl) ?_
  refine lv_iload_n hx hb dL_law_509 rfl (lv_at hl 3 rfl) ?_
  refine lv_iconst (v := 1) hx hb dL_law_510 (by decide) ?_
  refine lv_iadd hx hb dL_law_511 ?_
  refine va_sld hx hb hX hbl hbA hS (zin h0 h1 hL (by decide)) dL_law_512 ?_
  have hDc := (va_D_left hD)
  refine raw_Vi (ci := 11) (q0 := 0) (nA := 1) (As := [.int (xs (ii + 1).toNatClampNeg)]) (rest := []) Z hl.1 (w_X_start l D cI cM cT cJ cZ x kc0 kc1 kc9 kc10 kc6 ki0 ki1 ki9 ki10 ki6 tl fu0 fp0 bt (xs (ii + 1).toNatClampNeg) hXi) (bw_V bw_795 bw_796 bw_797 bw_80 bw_798) ⟨by decide +kernel, by decide +kernel, by decide +kernel⟩ rfl ⟨Nat.le_of_ble_eq_true rfl, Nat.le_of_ble_eq_true rfl⟩ rfl rfl hd1 (va_P_left hP) hDc hS rfl (Nat.le_of_ble_eq_true rfl) dL_law_513 ⟨Nat.le_of_ble_eq_true rfl, Nat.le_of_ble_eq_true rfl⟩ (fun r1 u H locs h9 hk9 hP1 hD1 hS1 => ?_)
  obtain ⟨d0, d1, d9, d10, d6, j0, j1, j9, j10, j6, tl_, fu_, fp_, bn, hrel1, hX2⟩ := h9
  obtain ⟨hP, hD⟩ := joinL hP hD hk9 (raw_free hDc Z.2.2.2.2.2.2.2.1 hS) hP1 hD1
  have hS := hS1
  clear hS1
  refine lv_pop hx hb dL_law_516 rfl ?_
  refine lv_aload_n hx hb dL_law_517 rfl (lv_at hl 2 rfl) ?_
  refine lv_aload_n hx hb dL_law_518 rfl (lv_at hl 0 rfl) ?_
  refine lv_iload_n hx hb dL_law_519 rfl (lv_at hl 3 rfl) ?_
  refine lv_iconst (v := 1) hx hb dL_law_520 (by decide) ?_
  refine lv_iadd hx hb dL_law_521 ?_
  refine va_sld hx hb hX hbl hbA hS (zin h0 h1 hL (by decide)) dL_law_522 ?_
  have hDc := (va_D_right hD)
  refine raw_Vi (ci := 12) (q0 := 0) (nA := 1) (As := [.int (xs (ii + 1).toNatClampNeg)]) (rest := []) Z hl.1 (w_M_start l D cI cM cT cJ cZ q kc0 kc1 kc9 kc10 kc6 ki0 ki1 ki9 ki10 ki6 tl fu0 fp0 bt (xs (ii + 1).toNatClampNeg) hMi) (bw_V bw_1356 bw_1357 bw_1358 bw_92 bw_1359) ⟨by decide +kernel, by decide +kernel, by decide +kernel⟩ rfl ⟨Nat.le_of_ble_eq_true rfl, Nat.le_of_ble_eq_true rfl⟩ rfl rfl hd2 (va_P_right hP) hDc hS rfl (Nat.le_of_ble_eq_true rfl) dL_law_523 ⟨Nat.le_of_ble_eq_true rfl, Nat.le_of_ble_eq_true rfl⟩ (fun r2 u H locs h9 hk9 hP1 hD1 hS1 => ?_)
  obtain ⟨d0m, d1m, d9m, d10m, d6m, j0m, j1m, j9m, j10m, j6m, tl_m, fu_m, fp_m, bnm, hrel2, hM2⟩ := h9
  obtain ⟨hP, hD⟩ := joinR hP hD hk9 (raw_free hDc Z.2.2.2.2.2.2.2.1 hS) hP1 hD1
  have hS := hS1
  clear hS1
  have hbn : bnm = bn := hrel2.2.2.2.2.2.2.2.2.2.2.2.2.2.2.trans hrel1.2.2.2.2.2.2.2.2.2.2.2.2.2.2.symm
  have heq : d0m = d0 ∧ d1m = d1 ∧ d9m = d9 ∧ d10m = d10 ∧ d6m = d6 ∧ j0m = j0 ∧ j1m = j1 ∧ j9m = j9 ∧ j10m = j10 ∧ j6m = j6 ∧ tl_m = tl_ ∧ fu_m = fu_ ∧ fp_m = fp_ := by omega
  obtain ⟨rfl, rfl, rfl, rfl, rfl, rfl, rfl, rfl, rfl, rfl, rfl, rfl, rfl⟩ := heq
  subst hbn
  refine lv_pop hx hb dL_law_526 rfl ?_
  refine lv_goto (tgt := 997) hx hb dL_law_527 (by decide) ?_
  exact kk hX2 hM2 hP hD hS hl
set_option maxHeartbeats 4000000 in
set_option maxRecDepth 100000 in
theorem law_12 {p : Program} {l : Launch} {e : Env} {s : State} {m : MethodId} {below : List Frame} {meth : Method} {c : Code} {b L : Nat} {xs : Nat → Int32} {D : va_G} {cI cM cT cJ cZ : ClassId} {ii : Int32} {x q : Nat} (Z : Zx p s m #[Value.ref b] meth c code 4 ret R_law (fun q : Nat => s.heap.size ≤ q) (ty3 cI cM cT cJ cZ) D) (hX : va_X b L xs s s.heap) (hbl : b < s.heap.size) (hL : L ≤ 3072) (h0 : 0 ≤ ii.toInt) (h1 : ii.toInt + 6 ≤ (L : Int)) (kk : ∀ {kc0 kc1 kc9 kc10 kc6 ki0 ki1 ki9 ki10 ki6 tl fu0 fp0 : Int} {bt : Nat → Int} {xw mw : va_W} {H : Heap} {locs : List Loc} {ls : Array Slot} (hXi : InvX cI cM cT cJ cZ x kc0 kc1 kc9 kc10 kc6 ki0 ki1 ki9 ki10 ki6 tl fu0 fp0 bt xw) (hMi : InvM cI cM cT cJ cZ q kc0 kc1 kc9 kc10 kc6 ki0 ki1 ki9 ki10 ki6 tl fu0 fp0 bt mw) (hP : va_P D vwCl (xw ++ mw) H) (hD : va_D (fun q : Nat => s.heap.size ≤ q) (xw ++ mw)) (hS : va_S (fun q : Nat => s.heap.size ≤ q) s.heap H locs) (hl : lv_has ls 4 [(0, .ref b), (1, .ref x), (2, .ref q), (3, .int ii)]), W p l e room_1 s m #[Value.ref b] below meth c H locs 300 28000 (lw_Z below #[Value.ref b] s) (F0 m 997 ls [])) : ∀ {kc0 kc1 kc9 kc10 kc6 ki0 ki1 ki9 ki10 ki6 tl fu0 fp0 : Int} {bt : Nat → Int} {xw mw : va_W} {H : Heap} {locs : List Loc} {ls : Array Slot} (hXi : InvX cI cM cT cJ cZ x kc0 kc1 kc9 kc10 kc6 ki0 ki1 ki9 ki10 ki6 tl fu0 fp0 bt xw) (hMi : InvM cI cM cT cJ cZ q kc0 kc1 kc9 kc10 kc6 ki0 ki1 ki9 ki10 ki6 tl fu0 fp0 bt mw) (hP : va_P D vwCl (xw ++ mw) H) (hD : va_D (fun q : Nat => s.heap.size ≤ q) (xw ++ mw)) (hS : va_S (fun q : Nat => s.heap.size ≤ q) s.heap H locs) (hl : lv_has ls 4 [(0, .ref b), (1, .ref x), (2, .ref q), (3, .int ii)]), W p l e room_1 s m #[Value.ref b] below meth c H locs 300 28000 (lw_Z below #[Value.ref b] s) (F0 m 530 ls []) := by
  intro kc0 kc1 kc9 kc10 kc6 ki0 ki1 ki9 ki10 ki6 tl fu0 fp0 bt xw mw H locs ls hXi hMi hP hD hS hl
  have hx := Z.1
  have hb := Z.2.1
  have hbA : ¬ (fun q : Nat => s.heap.size ≤ q) b := Nat.not_le.mpr hbl
  obtain ⟨fs1, hd1⟩ := InvX.head hXi
  obtain ⟨fs2, hd2⟩ := InvM.head hMi
  refine lv_aload_n hx hb dL_law_530 rfl (lv_at hl 1 rfl) ?_
  refine lv_aload_n hx hb dL_law_531 rfl (lv_at hl 0 rfl) ?_
  refine lv_iload_n hx hb dL_law_532 rfl (lv_at hl 3 rfl) ?_
  refine lv_iconst (v := 1) hx hb dL_law_533 (by decide) ?_
  refine lv_iadd hx hb dL_law_534 ?_
  refine va_sld hx hb hX hbl hbA hS (zin h0 h1 hL (by decide)) dL_law_535 ?_
  refine lv_aload_n hx hb dL_law_536 rfl (lv_at hl 0 rfl) ?_
  refine lv_iload_n hx hb dL_law_537 rfl (lv_at hl 3 rfl) ?_
  refine lv_iconst (v := 2) hx hb dL_law_538 (by decide) ?_
  refine lv_iadd hx hb dL_law_539 ?_
  refine va_sld hx hb hX hbl hbA hS (zin h0 h1 hL (by decide)) dL_law_540 ?_
  refine lv_aload_n hx hb dL_law_541 rfl (lv_at hl 0 rfl) ?_
  refine lv_iload_n hx hb dL_law_542 rfl (lv_at hl 3 rfl) ?_
  refine lv_iconst (v := 3) hx hb dL_law_543 (by decide) ?_
  refine lv_iadd hx hb dL_law_544 ?_
  refine va_sld hx hb hX hbl hbA hS (zin h0 h1 hL (by decide)) dL_law_545 ?_
  have hDc := (va_D_left hD)
  refine raw_Vi (ci := 11) (q0 := 0) (nA := 3) (As := [.int (xs (ii + 1).toNatClampNeg), .int (xs (ii + 2).toNatClampNeg), .int (xs (ii + 3).toNatClampNeg)]) (rest := []) Z hl.1 (w_X_would l D cI cM cT cJ cZ x kc0 kc1 kc9 kc10 kc6 ki0 ki1 ki9 ki10 ki6 tl fu0 fp0 bt (xs (ii + 1).toNatClampNeg) (xs (ii + 2).toNatClampNeg) (xs (ii + 3).toNatClampNeg) hXi) (bw_V bw_799 bw_800 bw_801 bw_80 bw_802) ⟨by decide +kernel, by decide +kernel, by decide +kernel⟩ rfl ⟨Nat.le_of_ble_eq_true rfl, Nat.le_of_ble_eq_true rfl⟩ rfl rfl hd1 (va_P_left hP) hDc hS rfl (Nat.le_of_ble_eq_true rfl) dL_law_546 ⟨Nat.le_of_ble_eq_true rfl, Nat.le_of_ble_eq_true rfl⟩ (fun r1 u H locs h9 hk9 hP1 hD1 hS1 => ?_)
  obtain ⟨d0, d1, d9, d10, d6, j0, j1, j9, j10, j6, tl_, fu_, fp_, bn, hrel1, hX2⟩ := h9
  obtain ⟨hP, hD⟩ := joinL hP hD hk9 (raw_free hDc Z.2.2.2.2.2.2.2.1 hS) hP1 hD1
  have hS := hS1
  clear hS1
  refine lv_pop hx hb dL_law_549 rfl ?_
  refine lv_aload_n hx hb dL_law_550 rfl (lv_at hl 2 rfl) ?_
  refine lv_aload_n hx hb dL_law_551 rfl (lv_at hl 0 rfl) ?_
  refine lv_iload_n hx hb dL_law_552 rfl (lv_at hl 3 rfl) ?_
  refine lv_iconst (v := 1) hx hb dL_law_553 (by decide) ?_
  refine lv_iadd hx hb dL_law_554 ?_
  refine va_sld hx hb hX hbl hbA hS (zin h0 h1 hL (by decide)) dL_law_555 ?_
  refine lv_aload_n hx hb dL_law_556 rfl (lv_at hl 0 rfl) ?_
  refine lv_iload_n hx hb dL_law_557 rfl (lv_at hl 3 rfl) ?_
  refine lv_iconst (v := 2) hx hb dL_law_558 (by decide) ?_
  refine lv_iadd hx hb dL_law_559 ?_
  refine va_sld hx hb hX hbl hbA hS (zin h0 h1 hL (by decide)) dL_law_560 ?_
  refine lv_aload_n hx hb dL_law_561 rfl (lv_at hl 0 rfl) ?_
  refine lv_iload_n hx hb dL_law_562 rfl (lv_at hl 3 rfl) ?_
  refine lv_iconst (v := 3) hx hb dL_law_563 (by decide) ?_
  refine lv_iadd hx hb dL_law_564 ?_
  refine va_sld hx hb hX hbl hbA hS (zin h0 h1 hL (by decide)) dL_law_565 ?_
  have hDc := (va_D_right hD)
  refine raw_Vi (ci := 12) (q0 := 0) (nA := 3) (As := [.int (xs (ii + 1).toNatClampNeg), .int (xs (ii + 2).toNatClampNeg), .int (xs (ii + 3).toNatClampNeg)]) (rest := []) Z hl.1 (w_M_would l D cI cM cT cJ cZ q kc0 kc1 kc9 kc10 kc6 ki0 ki1 ki9 ki10 ki6 tl fu0 fp0 bt (xs (ii + 1).toNatClampNeg) (xs (ii + 2).toNatClampNeg) (xs (ii + 3).toNatClampNeg) hMi) (bw_V bw_1294 bw_1295 bw_1296 bw_92 bw_1297) ⟨by decide +kernel, by decide +kernel, by decide +kernel⟩ rfl ⟨Nat.le_of_ble_eq_true rfl, Nat.le_of_ble_eq_true rfl⟩ rfl rfl hd2 (va_P_right hP) hDc hS rfl (Nat.le_of_ble_eq_true rfl) dL_law_566 ⟨Nat.le_of_ble_eq_true rfl, Nat.le_of_ble_eq_true rfl⟩ (fun r2 u H locs h9 hk9 hP1 hD1 hS1 => ?_)
  obtain ⟨d0m, d1m, d9m, d10m, d6m, j0m, j1m, j9m, j10m, j6m, tl_m, fu_m, fp_m, bnm, hrel2, hM2⟩ := h9
  obtain ⟨hP, hD⟩ := joinR hP hD hk9 (raw_free hDc Z.2.2.2.2.2.2.2.1 hS) hP1 hD1
  have hS := hS1
  clear hS1
  have hbn : bnm = bn := hrel2.2.2.2.2.2.2.2.2.2.2.2.2.2.trans hrel1.2.2.2.2.2.2.2.2.2.2.2.2.2.symm
  have heq : d0m = d0 ∧ d1m = d1 ∧ d9m = d9 ∧ d10m = d10 ∧ d6m = d6 ∧ j0m = j0 ∧ j1m = j1 ∧ j9m = j9 ∧ j10m = j10 ∧ j6m = j6 ∧ tl_m = tl_ ∧ fu_m = fu_ ∧ fp_m = fp_ := by omega
  obtain ⟨rfl, rfl, rfl, rfl, rfl, rfl, rfl, rfl, rfl, rfl, rfl, rfl, rfl⟩ := heq
  subst hbn
  refine lv_pop hx hb dL_law_569 rfl ?_
  refine lv_goto (tgt := 997) hx hb dL_law_570 (by decide) ?_
  exact kk hX2 hM2 hP hD hS hl
set_option maxHeartbeats 4000000 in
set_option maxRecDepth 100000 in
theorem law_13 {p : Program} {l : Launch} {e : Env} {s : State} {m : MethodId} {below : List Frame} {meth : Method} {c : Code} {b L : Nat} {xs : Nat → Int32} {D : va_G} {cI cM cT cJ cZ : ClassId} {ii : Int32} {x q : Nat} (Z : Zx p s m #[Value.ref b] meth c code 4 ret R_law (fun q : Nat => s.heap.size ≤ q) (ty3 cI cM cT cJ cZ) D) (hX : va_X b L xs s s.heap) (hbl : b < s.heap.size) (hL : L ≤ 3072) (h0 : 0 ≤ ii.toInt) (h1 : ii.toInt + 6 ≤ (L : Int)) (kk : ∀ {kc0 kc1 kc9 kc10 kc6 ki0 ki1 ki9 ki10 ki6 tl fu0 fp0 : Int} {bt : Nat → Int} {xw mw : va_W} {H : Heap} {locs : List Loc} {ls : Array Slot} (hXi : InvX cI cM cT cJ cZ x kc0 kc1 kc9 kc10 kc6 ki0 ki1 ki9 ki10 ki6 tl fu0 fp0 bt xw) (hMi : InvM cI cM cT cJ cZ q kc0 kc1 kc9 kc10 kc6 ki0 ki1 ki9 ki10 ki6 tl fu0 fp0 bt mw) (hP : va_P D vwCl (xw ++ mw) H) (hD : va_D (fun q : Nat => s.heap.size ≤ q) (xw ++ mw)) (hS : va_S (fun q : Nat => s.heap.size ≤ q) s.heap H locs) (hl : lv_has ls 4 [(0, .ref b), (1, .ref x), (2, .ref q), (3, .int ii)]), W p l e room_1 s m #[Value.ref b] below meth c H locs 300 28000 (lw_Z below #[Value.ref b] s) (F0 m 997 ls [])) : ∀ {kc0 kc1 kc9 kc10 kc6 ki0 ki1 ki9 ki10 ki6 tl fu0 fp0 : Int} {bt : Nat → Int} {xw mw : va_W} {H : Heap} {locs : List Loc} {ls : Array Slot} (hXi : InvX cI cM cT cJ cZ x kc0 kc1 kc9 kc10 kc6 ki0 ki1 ki9 ki10 ki6 tl fu0 fp0 bt xw) (hMi : InvM cI cM cT cJ cZ q kc0 kc1 kc9 kc10 kc6 ki0 ki1 ki9 ki10 ki6 tl fu0 fp0 bt mw) (hP : va_P D vwCl (xw ++ mw) H) (hD : va_D (fun q : Nat => s.heap.size ≤ q) (xw ++ mw)) (hS : va_S (fun q : Nat => s.heap.size ≤ q) s.heap H locs) (hl : lv_has ls 4 [(0, .ref b), (1, .ref x), (2, .ref q), (3, .int ii)]), W p l e room_1 s m #[Value.ref b] below meth c H locs 300 28000 (lw_Z below #[Value.ref b] s) (F0 m 573 ls []) := by
  intro kc0 kc1 kc9 kc10 kc6 ki0 ki1 ki9 ki10 ki6 tl fu0 fp0 bt xw mw H locs ls hXi hMi hP hD hS hl
  have hx := Z.1
  have hb := Z.2.1
  have hbA : ¬ (fun q : Nat => s.heap.size ≤ q) b := Nat.not_le.mpr hbl
  obtain ⟨fs1, hd1⟩ := InvX.head hXi
  obtain ⟨fs2, hd2⟩ := InvM.head hMi
  refine lv_aload_n hx hb dL_law_573 rfl (lv_at hl 1 rfl) ?_
  refine lv_aload_n hx hb dL_law_574 rfl (lv_at hl 0 rfl) ?_
  refine lv_iload_n hx hb dL_law_575 rfl (lv_at hl 3 rfl) ?_
  refine lv_iconst (v := 1) hx hb dL_law_576 (by decide) ?_
  refine lv_iadd hx hb dL_law_577 ?_
  refine va_sld hx hb hX hbl hbA hS (zin h0 h1 hL (by decide)) dL_law_578 ?_
  have hDc := (va_D_left hD)
  refine raw_Vi (ci := 11) (q0 := 0) (nA := 1) (As := [.int (xs (ii + 1).toNatClampNeg)]) (rest := []) Z hl.1 (w_X_drive l D cI cM cT cJ cZ x kc0 kc1 kc9 kc10 kc6 ki0 ki1 ki9 ki10 ki6 tl fu0 fp0 bt (xs (ii + 1).toNatClampNeg) hXi) (bw_V bw_867 bw_868 bw_869 bw_80 bw_870) ⟨by decide +kernel, by decide +kernel, by decide +kernel⟩ rfl ⟨Nat.le_of_ble_eq_true rfl, Nat.le_of_ble_eq_true rfl⟩ rfl rfl hd1 (va_P_left hP) hDc hS rfl (Nat.le_of_ble_eq_true rfl) dL_law_579 ⟨Nat.le_of_ble_eq_true rfl, Nat.le_of_ble_eq_true rfl⟩ (fun r1 u H locs h9 hk9 hP1 hD1 hS1 => ?_)
  obtain ⟨d0, d1, d9, d10, d6, j0, j1, j9, j10, j6, tl_, fu_, fp_, bn, hrel1, hX2⟩ := h9
  obtain ⟨hP, hD⟩ := joinL hP hD hk9 (raw_free hDc Z.2.2.2.2.2.2.2.1 hS) hP1 hD1
  have hS := hS1
  clear hS1
  refine lv_pop hx hb dL_law_582 rfl ?_
  refine lv_aload_n hx hb dL_law_583 rfl (lv_at hl 2 rfl) ?_
  refine lv_aload_n hx hb dL_law_584 rfl (lv_at hl 0 rfl) ?_
  refine lv_iload_n hx hb dL_law_585 rfl (lv_at hl 3 rfl) ?_
  refine lv_iconst (v := 1) hx hb dL_law_586 (by decide) ?_
  refine lv_iadd hx hb dL_law_587 ?_
  refine va_sld hx hb hX hbl hbA hS (zin h0 h1 hL (by decide)) dL_law_588 ?_
  have hDc := (va_D_right hD)
  refine raw_Vi (ci := 12) (q0 := 0) (nA := 1) (As := [.int (xs (ii + 1).toNatClampNeg)]) (rest := []) Z hl.1 (w_M_drive l D cI cM cT cJ cZ q kc0 kc1 kc9 kc10 kc6 ki0 ki1 ki9 ki10 ki6 tl fu0 fp0 bt (xs (ii + 1).toNatClampNeg) hMi) (bw_V bw_1360 bw_1361 bw_1362 bw_92 bw_1363) ⟨by decide +kernel, by decide +kernel, by decide +kernel⟩ rfl ⟨Nat.le_of_ble_eq_true rfl, Nat.le_of_ble_eq_true rfl⟩ rfl rfl hd2 (va_P_right hP) hDc hS rfl (Nat.le_of_ble_eq_true rfl) dL_law_589 ⟨Nat.le_of_ble_eq_true rfl, Nat.le_of_ble_eq_true rfl⟩ (fun r2 u H locs h9 hk9 hP1 hD1 hS1 => ?_)
  obtain ⟨d0m, d1m, d9m, d10m, d6m, j0m, j1m, j9m, j10m, j6m, tl_m, fu_m, fp_m, bnm, hrel2, hM2⟩ := h9
  obtain ⟨hP, hD⟩ := joinR hP hD hk9 (raw_free hDc Z.2.2.2.2.2.2.2.1 hS) hP1 hD1
  have hS := hS1
  clear hS1
  have hbn : bnm = bn := hrel2.2.2.2.2.2.2.2.2.2.2.2.2.2.trans hrel1.2.2.2.2.2.2.2.2.2.2.2.2.2.symm
  have heq : d0m = d0 ∧ d1m = d1 ∧ d9m = d9 ∧ d10m = d10 ∧ d6m = d6 ∧ j0m = j0 ∧ j1m = j1 ∧ j9m = j9 ∧ j10m = j10 ∧ j6m = j6 ∧ tl_m = tl_ ∧ fu_m = fu_ ∧ fp_m = fp_ := by omega
  obtain ⟨rfl, rfl, rfl, rfl, rfl, rfl, rfl, rfl, rfl, rfl, rfl, rfl, rfl⟩ := heq
  subst hbn
  refine lv_pop hx hb dL_law_592 rfl ?_
  refine lv_goto (tgt := 997) hx hb dL_law_593 (by decide) ?_
  exact kk hX2 hM2 hP hD hS hl
set_option maxHeartbeats 4000000 in
set_option maxRecDepth 100000 in
theorem law_14 {p : Program} {l : Launch} {e : Env} {s : State} {m : MethodId} {below : List Frame} {meth : Method} {c : Code} {b L : Nat} {xs : Nat → Int32} {D : va_G} {cI cM cT cJ cZ : ClassId} {ii : Int32} {x q : Nat} (Z : Zx p s m #[Value.ref b] meth c code 4 ret R_law (fun q : Nat => s.heap.size ≤ q) (ty3 cI cM cT cJ cZ) D) (hX : va_X b L xs s s.heap) (hbl : b < s.heap.size) (hL : L ≤ 3072) (h0 : 0 ≤ ii.toInt) (h1 : ii.toInt + 6 ≤ (L : Int)) (kk : ∀ {kc0 kc1 kc9 kc10 kc6 ki0 ki1 ki9 ki10 ki6 tl fu0 fp0 : Int} {bt : Nat → Int} {xw mw : va_W} {H : Heap} {locs : List Loc} {ls : Array Slot} (hXi : InvX cI cM cT cJ cZ x kc0 kc1 kc9 kc10 kc6 ki0 ki1 ki9 ki10 ki6 tl fu0 fp0 bt xw) (hMi : InvM cI cM cT cJ cZ q kc0 kc1 kc9 kc10 kc6 ki0 ki1 ki9 ki10 ki6 tl fu0 fp0 bt mw) (hP : va_P D vwCl (xw ++ mw) H) (hD : va_D (fun q : Nat => s.heap.size ≤ q) (xw ++ mw)) (hS : va_S (fun q : Nat => s.heap.size ≤ q) s.heap H locs) (hl : lv_has ls 4 [(0, .ref b), (1, .ref x), (2, .ref q), (3, .int ii)]), W p l e room_1 s m #[Value.ref b] below meth c H locs 300 28000 (lw_Z below #[Value.ref b] s) (F0 m 997 ls [])) : ∀ {kc0 kc1 kc9 kc10 kc6 ki0 ki1 ki9 ki10 ki6 tl fu0 fp0 : Int} {bt : Nat → Int} {xw mw : va_W} {H : Heap} {locs : List Loc} {ls : Array Slot} (hXi : InvX cI cM cT cJ cZ x kc0 kc1 kc9 kc10 kc6 ki0 ki1 ki9 ki10 ki6 tl fu0 fp0 bt xw) (hMi : InvM cI cM cT cJ cZ q kc0 kc1 kc9 kc10 kc6 ki0 ki1 ki9 ki10 ki6 tl fu0 fp0 bt mw) (hP : va_P D vwCl (xw ++ mw) H) (hD : va_D (fun q : Nat => s.heap.size ≤ q) (xw ++ mw)) (hS : va_S (fun q : Nat => s.heap.size ≤ q) s.heap H locs) (hl : lv_has ls 4 [(0, .ref b), (1, .ref x), (2, .ref q), (3, .int ii)]), W p l e room_1 s m #[Value.ref b] below meth c H locs 300 28000 (lw_Z below #[Value.ref b] s) (F0 m 596 ls []) := by
  intro kc0 kc1 kc9 kc10 kc6 ki0 ki1 ki9 ki10 ki6 tl fu0 fp0 bt xw mw H locs ls hXi hMi hP hD hS hl
  have hx := Z.1
  have hb := Z.2.1
  have hbA : ¬ (fun q : Nat => s.heap.size ≤ q) b := Nat.not_le.mpr hbl
  obtain ⟨fs1, hd1⟩ := InvX.head hXi
  obtain ⟨fs2, hd2⟩ := InvM.head hMi
  refine lv_aload_n hx hb dL_law_596 rfl (lv_at hl 1 rfl) ?_
  refine lv_aload_n hx hb dL_law_597 rfl (lv_at hl 0 rfl) ?_
  refine lv_iload_n hx hb dL_law_598 rfl (lv_at hl 3 rfl) ?_
  refine lv_iconst (v := 1) hx hb dL_law_599 (by decide) ?_
  refine lv_iadd hx hb dL_law_600 ?_
  refine va_sld hx hb hX hbl hbA hS (zin h0 h1 hL (by decide)) dL_law_601 ?_
  have hDc := (va_D_left hD)
  refine raw_Vi (ci := 11) (q0 := 0) (nA := 1) (As := [.int (xs (ii + 1).toNatClampNeg)]) (rest := []) Z hl.1 (w_X_pass l D cI cM cT cJ cZ x kc0 kc1 kc9 kc10 kc6 ki0 ki1 ki9 ki10 ki6 tl fu0 fp0 bt (xs (ii + 1).toNatClampNeg) hXi) (bw_V bw_876 bw_877 bw_878 bw_80 bw_879) ⟨by decide +kernel, by decide +kernel, by decide +kernel⟩ rfl ⟨Nat.le_of_ble_eq_true rfl, Nat.le_of_ble_eq_true rfl⟩ rfl rfl hd1 (va_P_left hP) hDc hS rfl (Nat.le_of_ble_eq_true rfl) dL_law_602 ⟨Nat.le_of_ble_eq_true rfl, Nat.le_of_ble_eq_true rfl⟩ (fun r1 u H locs h9 hk9 hP1 hD1 hS1 => ?_)
  obtain ⟨d0, d1, d9, d10, d6, j0, j1, j9, j10, j6, tl_, fu_, fp_, bn, hrel1, hX2⟩ := h9
  obtain ⟨hP, hD⟩ := joinL hP hD hk9 (raw_free hDc Z.2.2.2.2.2.2.2.1 hS) hP1 hD1
  have hS := hS1
  clear hS1
  refine lv_pop hx hb dL_law_605 rfl ?_
  refine lv_aload_n hx hb dL_law_606 rfl (lv_at hl 2 rfl) ?_
  refine lv_aload_n hx hb dL_law_607 rfl (lv_at hl 0 rfl) ?_
  refine lv_iload_n hx hb dL_law_608 rfl (lv_at hl 3 rfl) ?_
  refine lv_iconst (v := 1) hx hb dL_law_609 (by decide) ?_
  refine lv_iadd hx hb dL_law_610 ?_
  refine va_sld hx hb hX hbl hbA hS (zin h0 h1 hL (by decide)) dL_law_611 ?_
  have hDc := (va_D_right hD)
  refine raw_Vi (ci := 12) (q0 := 0) (nA := 1) (As := [.int (xs (ii + 1).toNatClampNeg)]) (rest := []) Z hl.1 (w_M_pass l D cI cM cT cJ cZ q kc0 kc1 kc9 kc10 kc6 ki0 ki1 ki9 ki10 ki6 tl fu0 fp0 bt (xs (ii + 1).toNatClampNeg) hMi) (bw_V bw_1364 bw_1365 bw_1366 bw_92 bw_1367) ⟨by decide +kernel, by decide +kernel, by decide +kernel⟩ rfl ⟨Nat.le_of_ble_eq_true rfl, Nat.le_of_ble_eq_true rfl⟩ rfl rfl hd2 (va_P_right hP) hDc hS rfl (Nat.le_of_ble_eq_true rfl) dL_law_612 ⟨Nat.le_of_ble_eq_true rfl, Nat.le_of_ble_eq_true rfl⟩ (fun r2 u H locs h9 hk9 hP1 hD1 hS1 => ?_)
  obtain ⟨d0m, d1m, d9m, d10m, d6m, j0m, j1m, j9m, j10m, j6m, tl_m, fu_m, fp_m, bnm, hrel2, hM2⟩ := h9
  obtain ⟨hP, hD⟩ := joinR hP hD hk9 (raw_free hDc Z.2.2.2.2.2.2.2.1 hS) hP1 hD1
  have hS := hS1
  clear hS1
  have hbn : bnm = bn := hrel2.2.2.2.2.2.2.2.2.2.2.2.2.2.trans hrel1.2.2.2.2.2.2.2.2.2.2.2.2.2.symm
  have heq : d0m = d0 ∧ d1m = d1 ∧ d9m = d9 ∧ d10m = d10 ∧ d6m = d6 ∧ j0m = j0 ∧ j1m = j1 ∧ j9m = j9 ∧ j10m = j10 ∧ j6m = j6 ∧ tl_m = tl_ ∧ fu_m = fu_ ∧ fp_m = fp_ := by omega
  obtain ⟨rfl, rfl, rfl, rfl, rfl, rfl, rfl, rfl, rfl, rfl, rfl, rfl, rfl⟩ := heq
  subst hbn
  refine lv_pop hx hb dL_law_615 rfl ?_
  refine lv_goto (tgt := 997) hx hb dL_law_616 (by decide) ?_
  exact kk hX2 hM2 hP hD hS hl
