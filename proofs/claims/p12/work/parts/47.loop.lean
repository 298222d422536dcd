theorem bw_103 : Cond.instantiable "CountingHorses" 7 ∈ BW := bw_at 103 (by decide +kernel) (by decide +kernel)
theorem bw_1011 : Cond.instantiable "CountingHorsesModel" 36 ∈ BW := bw_at 1011 (by decide +kernel) (by decide +kernel)
/-- what the tables give of classes and arrays -/
theorem law_K {s : State} {args : Array Value} (hw : ∀ w ∈ BW, w.before args s = true) (h1 : va_AO RX1 s) (h9 : va_AO RX9 s) : ∃ (D : va_G) (cI cM cT cJ cZ : ClassId), va_K D vwCl (ty3 cI cM cT cJ cZ) s := by
  obtain ⟨c0, iS0, hKn0⟩ := u_known (C := RX0) (T := TX0) (N := 7) (n := 7) hw i_X0 (hw (.instantiable RX0 7) bw_117)
  obtain ⟨c1, iS1, hKn1⟩ := u_known (C := RX1) (T := TX1) (N := 7) (n := 7) hw i_X1 (hw (.instantiable RX1 7) bw_176)
  obtain ⟨c2, iS2, hKn2⟩ := u_known (C := RX2) (T := TX2) (N := 7) (n := 7) hw i_X2 (hw (.instantiable RX2 7) bw_384)
  obtain ⟨c3, iS3, hKn3⟩ := u_known (C := RX3) (T := TX3) (N := 4) (n := 4) hw i_X3 (hw (.instantiable RX3 4) bw_129)
  obtain ⟨c4, iS4, hKn4⟩ := u_known (C := RX4) (T := TX4) (N := 3) (n := 3) hw i_X4 (hw (.instantiable RX4 3) bw_154)
  obtain ⟨c5, iS5, hKn5⟩ := u_known (C := RX5) (T := TX5) (N := 3) (n := 3) hw i_X5 (hw (.instantiable RX5 3) bw_212)
  obtain ⟨c6, iS6, hKn6⟩ := u_known (C := RX6) (T := TX6) (N := 5) (n := 5) hw i_X6 (hw (.instantiable RX6 5) bw_111)
  obtain ⟨c7, iS7, hKn7⟩ := u_known (C := RX7) (T := TX7) (N := 6) (n := 6) hw i_X7 (hw (.instantiable RX7 6) bw_390)
  obtain ⟨c8, iS8, hKn8⟩ := u_known (C := RX8) (T := TX8) (N := 4) (n := 4) hw i_X8 (hw (.instantiable RX8 4) bw_447)
  obtain ⟨c9, iS9, hKn9⟩ := u_known (C := RX9) (T := TX9) (N := 7) (n := 7) hw i_X9 (hw (.instantiable RX9 7) bw_292)
  obtain ⟨c10, iS10, hKn10⟩ := u_known (C := RX10) (T := TX10) (N := 13) (n := 13) hw i_X10 (hw (.instantiable RX10 13) bw_123)
  obtain ⟨c11, iS11, hKn11⟩ := u_known (C := RX11) (T := TX11) (N := 7) (n := 7) hw i_X11 (hw (.instantiable RX11 7) bw_103)
  obtain ⟨c12, iS12, hKn12⟩ := u_known (C := RX12) (T := TX12) (N := 36) (n := 36) hw i_X12 (hw (.instantiable RX12 36) bw_1011)
  obtain ⟨cI, kI, compI, e1, e2, e3⟩ := Cond.arrayClass_spec (hw (.arrayClass .int) bw_152)
  obtain ⟨cJ, kJ, compJ, j1, j2, j3⟩ := Cond.arrayClass_spec (hw (.arrayClass .long) bw_1126)
  obtain ⟨cZ, kZ, compZ, z1, z2, z3⟩ := Cond.arrayClass_spec (hw (.arrayClass .boolean) bw_1127)
  obtain ⟨compM, cM, kM, m1, m2, m3, m4, m5⟩ := Cond.arrayOver_spec h1
  obtain ⟨compT, cT, kT, t1, t2, t3, t4, t5⟩ := Cond.arrayOver_spec h9
  refine ⟨(fun k => match k with | 0 => c0 | 1 => c1 | 2 => c2 | 3 => c3 | 4 => c4 | 5 => c5 | 6 => c6 | 7 => c7 | 8 => c8 | 9 => c9 | 10 => c10 | 11 => c11 | _ => c12, fun k => match k with | 0 => iS0 | 1 => iS1 | 2 => iS2 | 3 => iS3 | 4 => iS4 | 5 => iS5 | 6 => iS6 | 7 => iS7 | 8 => iS8 | 9 => iS9 | 10 => iS10 | 11 => iS11 | _ => iS12), cI, cM, cT, cJ, cZ, ?_, ?_⟩
  · intro k q hq
    match k, hq with
    | 0, hq => cases hq; exact hKn0
    | 1, hq => cases hq; exact hKn1
    | 2, hq => cases hq; exact hKn2
    | 3, hq => cases hq; exact hKn3
    | 4, hq => cases hq; exact hKn4
    | 5, hq => cases hq; exact hKn5
    | 6, hq => cases hq; exact hKn6
    | 7, hq => cases hq; exact hKn7
    | 8, hq => cases hq; exact hKn8
    | 9, hq => cases hq; exact hKn9
    | 10, hq => cases hq; exact hKn10
    | 11, hq => cases hq; exact hKn11
    | 12, hq => cases hq; exact hKn12
    | k + 13, hq => simp [vwCl] at hq
  · intro k q hq
    match k, hq with
    | 0, hq => cases hq; exact ⟨fun n z => ⟨fun k h => (by cases h), kI, e2, compI, e3⟩, e1⟩
    | 1, hq => cases hq; exact ⟨fun n z => ⟨fun k h => (by cases h), kM, m3, compM, m4⟩, ⟨kM, compM, m3, m4, m1, m5⟩⟩
    | 2, hq => cases hq; exact ⟨fun n z => ⟨fun k h => (by cases h), kT, t3, compT, t4⟩, ⟨kT, compT, t3, t4, t1, t5⟩⟩
    | 3, hq => cases hq; exact ⟨fun n z => ⟨fun k h => (by cases h), kJ, j2, compJ, j3⟩, j1⟩
    | 4, hq => cases hq; exact ⟨fun n z => ⟨fun k h => (by cases h), kZ, z2, compZ, z3⟩, z1⟩
    | k + 5, hq => simp [ty3] at hq

theorem law_NW {s : State} {args : Array Value} (hts : ∀ w ∈ lw_tbl, w.before args s = true) : NW s := by
  refine ⟨fun q hq => ?_, va_AO.of (hts (.arrayOver (.object RX1)) (List.mem_of_getElem? (i := 218) (by decide +kernel))), va_AO.of (hts (.arrayOver (.object RX9)) (List.mem_of_getElem? (i := 291) (by decide +kernel)))⟩
  simp only [nwq, List.mem_cons, List.not_mem_nil, or_false] at hq
  rcases hq with rfl | rfl | rfl | rfl | rfl | rfl | rfl | rfl | rfl | rfl | rfl | rfl | rfl | rfl | rfl | rfl
  · exact va_Nw.of rfl (hts (.methodLinkNest RX11 9 yX6_init RX11) (List.mem_of_getElem? (i := 112) (by decide +kernel)))
  · exact va_Nw.of rfl (hts (.methodLinkNest RX0 11 yX10_init RX11) (List.mem_of_getElem? (i := 124) (by decide +kernel)))
  · exact va_Nw.of rfl (hts (.methodLinkNest RX10 11 yX3_init RX11) (List.mem_of_getElem? (i := 130) (by decide +kernel)))
  · exact va_Nw.of rfl (hts (.methodLinkNest RX10 20 yX4_init RX11) (List.mem_of_getElem? (i := 155) (by decide +kernel)))
  · exact va_Nw.of rfl (hts (.methodLinkNest RX10 27 yX1_init RX11) (List.mem_of_getElem? (i := 177) (by decide +kernel)))
  · exact va_Nw.of rfl (hts (.methodLinkNest RX5 24 yX1_init RX11) (List.mem_of_getElem? (i := 219) (by decide +kernel)))
  · exact va_Nw.of rfl (hts (.methodLinkNest RX0 24 yX9_init RX11) (List.mem_of_getElem? (i := 293) (by decide +kernel)))
  · exact va_Nw.of rfl (hts (.methodLinkNest RX11 32 yX10_init RX11) (List.mem_of_getElem? (i := 382) (by decide +kernel)))
  · exact va_Nw.of rfl (hts (.methodLinkNest RX11 38 yX2_init RX11) (List.mem_of_getElem? (i := 385) (by decide +kernel)))
  · exact va_Nw.of rfl (hts (.methodLinkNest RX2 11 yX7_init RX11) (List.mem_of_getElem? (i := 391) (by decide +kernel)))
  · exact va_Nw.of rfl (hts (.methodLinkNest RX2 36 yX9_init RX11) (List.mem_of_getElem? (i := 420) (by decide +kernel)))
  · exact va_Nw.of rfl (hts (.methodLinkNest RX11 45 yX8_init RX11) (List.mem_of_getElem? (i := 448) (by decide +kernel)))
  · exact va_Nw.of rfl (hts (.methodLinkNest RX7 62 yX11_isWithin RX11) (List.mem_of_getElem? (i := 573) (by decide +kernel)))
  · exact va_Nw.of rfl (hts (.methodLinkNest RX2 69 yX11_isWithin RX11) (List.mem_of_getElem? (i := 709) (by decide +kernel)))
  · exact va_Nw.of rfl (hts (.methodLinkNest RX0 46 yX11_isWithin RX11) (List.mem_of_getElem? (i := 811) (by decide +kernel)))
  · exact va_Nw.of rfl (hts (.methodLinkNest RX0 113 yX11_cut RX11) (List.mem_of_getElem? (i := 836) (by decide +kernel)))

set_option maxHeartbeats 8000000 in
set_option maxRecDepth 100000 in
theorem law_loop {p : Program} {l : Launch} {e : Env} {s : State} {m : MethodId} {below : List Frame} {meth : Method} {c : Code} {b L : Nat} {xs : Nat → Int32} {D : va_G} {cI cM cT cJ cZ : ClassId} {x q : Nat} (Z : Zx p s m #[Value.ref b] meth c code 4 ret R_law (fun q : Nat => s.heap.size ≤ q) (ty3 cI cM cT cJ cZ) D) (hX : va_X b L xs s s.heap) (hbl : b < s.heap.size) (hL : L ≤ 3072) : ∀ (n0 : Nat) (ii : Int32), 0 ≤ ii.toInt → ii.toInt ≤ 3078 → ((L : Int) - ii.toInt).toNat < n0 → ∀ {kc0 kc1 kc9 kc10 kc6 ki0 ki1 ki9 ki10 ki6 tl fu0 fp0 : Int} {bt : Nat → Int} {xw mw : va_W} {H : Heap} {locs : List Loc} {ls : Array Slot} (hXi : InvX cI cM cT cJ cZ x kc0 kc1 kc9 kc10 kc6 ki0 ki1 ki9 ki10 ki6 tl fu0 fp0 bt xw) (hMi : InvM cI cM cT cJ cZ q kc0 kc1 kc9 kc10 kc6 ki0 ki1 ki9 ki10 ki6 tl fu0 fp0 bt mw) (hP : va_P D vwCl (xw ++ mw) H) (hD : va_D (fun q : Nat => s.heap.size ≤ q) (xw ++ mw)) (hS : va_S (fun q : Nat => s.heap.size ≤ q) s.heap H locs) (hl : lv_has ls 4 [(0, .ref b), (1, .ref x), (2, .ref q), (3, .int ii)]), W p l e room_1 s m #[Value.ref b] below meth c H locs 300 28000 (lw_Z below #[Value.ref b] s) (F0 m 18 ls []) := by
  have hx := Z.1
  have hb := Z.2.1
  have hbA : ¬ (fun q : Nat => s.heap.size ≤ q) b := Nat.not_le.mpr hbl
  have eL : (Int32.ofNat L - 6).toInt = (L : Int) - 6 := by
    have e1 : (Int32.ofNat L).toInt = (L : Int) := Int32.toInt_ofNat_of_lt (by omega)
    have e2 := zsubg (a := Int32.ofNat L) (b := 6) (by rw [e1, show (6 : Int32).toInt = 6 by decide]; omega) (by rw [e1, show (6 : Int32).toInt = 6 by decide]; omega)
    rw [e2, e1, show (6 : Int32).toInt = 6 by decide]
  intro n0
  induction n0 with
  | zero => intro ii _ _ h; exact absurd h (Nat.not_lt_zero _)
  | succ n0 ih =>
    intro ii h0 h3 hm kc0 kc1 kc9 kc10 kc6 ki0 ki1 ki9 ki10 ki6 tl fu0 fp0 bt xw mw H locs ls hXi hMi hP hD hS hl
    refine lv_iload_n hx hb dL_law_18 rfl (lv_at hl 3 rfl) ?_
    refine lv_aload_n hx hb dL_law_19 rfl (lv_at hl 0 rfl) ?_
    refine va_slen hx hb hX hbl hbA hS dL_law_20 ?_
    refine lv_bipush (v := 6) hx hb dL_law_21 (by decide) ?_
    refine lv_isub hx hb dL_law_23 ?_
    refine lv_icmp_gt (tgt := 1003) hx hb dL_law_24 (by decide) (fun c1 => ?_) (fun c1 => ?_)
    · refine lv_iconst (v := 1) hx hb dL_law_1003 (by decide) ?_
      refine va_forget (fun q hq => hS.2.2 q hq) ?_
      refine W.widen (k := 600000) (n := 7302250) (by decide) (by decide) ?_
      exact lw_ret hx hb Z.2.2.2.2.2.2.2.2.2 Z.2.2.2.2.2.2.2.2.1 dL_law_1004
    · have h1 : ii.toInt + 6 ≤ (L : Int) := by simp only [zlt] at c1; rw [eL] at c1; omega
      have hin : vp_in ii L := vp_in_iff.mpr (by omega)
      have e6 := zaddg (a := ii) (b := 6) (by rw [show (6 : Int32).toInt = 6 by decide]; omega) (by rw [show (6 : Int32).toInt = 6 by decide]; omega)
      rw [show (6 : Int32).toInt = 6 by decide] at e6
      have kk : ∀ {kc0 kc1 kc9 kc10 kc6 ki0 ki1 ki9 ki10 ki6 tl fu0 fp0 : Int} {bt : Nat → Int} {xw mw : va_W} {H : Heap} {locs : List Loc} {ls : Array Slot} (hXi : InvX cI cM cT cJ cZ x kc0 kc1 kc9 kc10 kc6 ki0 ki1 ki9 ki10 ki6 tl fu0 fp0 bt xw) (hMi : InvM cI cM cT cJ cZ q kc0 kc1 kc9 kc10 kc6 ki0 ki1 ki9 ki10 ki6 tl fu0 fp0 bt mw) (hP : va_P D vwCl (xw ++ mw) H) (hD : va_D (fun q : Nat => s.heap.size ≤ q) (xw ++ mw)) (hS : va_S (fun q : Nat => s.heap.size ≤ q) s.heap H locs) (hl : lv_has ls 4 [(0, .ref b), (1, .ref x), (2, .ref q), (3, .int ii)]), W p l e room_1 s m #[Value.ref b] below meth c H locs 300 28000 (lw_Z below #[Value.ref b] s) (F0 m 997 ls []) := by
        intro kc0 kc1 kc9 kc10 kc6 ki0 ki1 ki9 ki10 ki6 tl fu0 fp0 bt xw mw H locs ls hXi hMi hP hD hS hl
        refine lv_iinc (v := (ii + 6)) (lv' := [(3, .int (ii + 6)), (0, .ref b), (1, .ref x), (2, .ref q)]) hx hb dL_law_997 hl (k := 3) rfl (by rfl) (by decide) rfl (fun ls hl => ?_)
        refine lv_goto (tgt := 18) hx hb dL_law_1000 (by decide) ?_
        exact ih (ii + 6) (by omega) (by omega) (by omega) hXi hMi hP hD hS (lv_sub hl [1, 2, 3, 0] rfl)
      refine lv_aload_n hx hb dL_law_27 rfl (lv_at hl 0 rfl) ?_
      refine lv_iload_n hx hb dL_law_28 rfl (lv_at hl 3 rfl) ?_
      refine va_sld hx hb hX hbl hbA hS hin dL_law_29 ?_
      refine lv_bipush (v := 31) hx hb dL_law_30 (by decide) ?_
      refine lv_iand hx hb dL_law_32 ?_
      obtain ⟨j, hj, ej⟩ := pk_andE (xs ii.toNatClampNeg) (m := 31) 5 (by decide)
      refine z_topi (y := nI j) ej ?_
      clear ej
      have hj2 : j = 0 ∨ j = 1 ∨ j = 2 ∨ j = 3 ∨ j = 4 ∨ j = 5 ∨ j = 6 ∨ j = 7 ∨ j = 8 ∨ j = 9 ∨ j = 10 ∨ j = 11 ∨ j = 12 ∨ j = 13 ∨ j = 14 ∨ j = 15 ∨ j = 16 ∨ j = 17 ∨ j = 18 ∨ j = 19 ∨ j = 20 ∨ j = 21 ∨ j = 22 ∨ j = 23 ∨ j = 24 ∨ j = 25 ∨ j = 26 ∨ j = 27 ∨ j = 28 ∨ j = 29 ∨ j = 30 ∨ j = 31 := by omega
      rcases hj2 with rfl | rfl | rfl | rfl | rfl | rfl | rfl | rfl | rfl | rfl | rfl | rfl | rfl | rfl | rfl | rfl | rfl | rfl | rfl | rfl | rfl | rfl | rfl | rfl | rfl | rfl | rfl | rfl | rfl | rfl | rfl | rfl
      · refine lv_tableIn (off := 131) (tgt := 164) hx hb dL_law_33 (by decide) (by decide) rfl (by decide) ?_
        exact law_0 Z hX hbl hL h0 h1 kk hXi hMi hP hD hS hl
      · refine lv_tableIn (off := 174) (tgt := 207) hx hb dL_law_33 (by decide) (by decide) rfl (by decide) ?_
        exact law_1 Z hX hbl hL h0 h1 kk hXi hMi hP hD hS hl
      · refine lv_tableIn (off := 207) (tgt := 240) hx hb dL_law_33 (by decide) (by decide) rfl (by decide) ?_
        exact law_2 Z hX hbl hL h0 h1 kk hXi hMi hP hD hS hl
      · refine lv_tableIn (off := 230) (tgt := 263) hx hb dL_law_33 (by decide) (by decide) rfl (by decide) ?_
        exact law_3 Z hX hbl hL h0 h1 kk hXi hMi hP hD hS hl
      · refine lv_tableIn (off := 263) (tgt := 296) hx hb dL_law_33 (by decide) (by decide) rfl (by decide) ?_
        exact law_4 Z hX hbl hL h0 h1 kk hXi hMi hP hD hS hl
      · refine lv_tableIn (off := 296) (tgt := 329) hx hb dL_law_33 (by decide) (by decide) rfl (by decide) ?_
        exact law_5 Z hX hbl hL h0 h1 kk hXi hMi hP hD hS hl
      · refine lv_tableIn (off := 329) (tgt := 362) hx hb dL_law_33 (by decide) (by decide) rfl (by decide) ?_
        exact law_6 Z hX hbl hL h0 h1 kk hXi hMi hP hD hS hl
      · refine lv_tableIn (off := 392) (tgt := 425) hx hb dL_law_33 (by decide) (by decide) rfl (by decide) ?_
        exact law_7 Z hX hbl hL h0 h1 kk hXi hMi hP hD hS hl
      · refine lv_tableIn (off := 415) (tgt := 448) hx hb dL_law_33 (by decide) (by decide) rfl (by decide) ?_
        exact law_8 Z hX hbl hL h0 h1 kk hXi hMi hP hD hS hl
      · refine lv_tableIn (off := 428) (tgt := 461) hx hb dL_law_33 (by decide) (by decide) rfl (by decide) ?_
        exact law_9 Z hX hbl hL h0 h1 kk hXi hMi hP hD hS hl
      · refine lv_tableIn (off := 451) (tgt := 484) hx hb dL_law_33 (by decide) (by decide) rfl (by decide) ?_
        exact law_10 Z hX hbl hL h0 h1 kk hXi hMi hP hD hS hl
      · refine lv_tableIn (off := 474) (tgt := 507) hx hb dL_law_33 (by decide) (by decide) rfl (by decide) ?_
        exact law_11 Z hX hbl hL h0 h1 kk hXi hMi hP hD hS hl
      · refine lv_tableIn (off := 497) (tgt := 530) hx hb dL_law_33 (by decide) (by decide) rfl (by decide) ?_
        exact law_12 Z hX hbl hL h0 h1 kk hXi hMi hP hD hS hl
      · refine lv_tableIn (off := 540) (tgt := 573) hx hb dL_law_33 (by decide) (by decide) rfl (by decide) ?_
        exact law_13 Z hX hbl hL h0 h1 kk hXi hMi hP hD hS hl
      · refine lv_tableIn (off := 563) (tgt := 596) hx hb dL_law_33 (by decide) (by decide) rfl (by decide) ?_
        exact law_14 Z hX hbl hL h0 h1 kk hXi hMi hP hD hS hl
      · refine lv_tableIn (off := 586) (tgt := 619) hx hb dL_law_33 (by decide) (by decide) rfl (by decide) ?_
        exact law_15 Z hX hbl hL h0 h1 kk hXi hMi hP hD hS hl
      · refine lv_tableIn (off := 609) (tgt := 642) hx hb dL_law_33 (by decide) (by decide) rfl (by decide) ?_
        exact law_16 Z hX hbl hL h0 h1 kk hXi hMi hP hD hS hl
      · refine lv_tableIn (off := 622) (tgt := 655) hx hb dL_law_33 (by decide) (by decide) rfl (by decide) ?_
        exact law_17 Z hX hbl hL h0 h1 kk hXi hMi hP hD hS hl
      · refine lv_tableIn (off := 645) (tgt := 678) hx hb dL_law_33 (by decide) (by decide) rfl (by decide) ?_
        exact law_18 Z hX hbl hL h0 h1 kk hXi hMi hP hD hS hl
      · refine lv_tableIn (off := 688) (tgt := 721) hx hb dL_law_33 (by decide) (by decide) rfl (by decide) ?_
        exact law_19 Z hX hbl hL h0 h1 kk hXi hMi hP hD hS hl
      · refine lv_tableIn (off := 747) (tgt := 780) hx hb dL_law_33 (by decide) (by decide) rfl (by decide) ?_
        exact law_20 Z hX hbl hL h0 h1 kk hXi hMi hP hD hS hl
      · refine lv_tableIn (off := 790) (tgt := 823) hx hb dL_law_33 (by decide) (by decide) rfl (by decide) ?_
        exact law_21 Z hX hbl hL h0 h1 kk hXi hMi hP hD hS hl
      · refine lv_tableIn (off := 813) (tgt := 846) hx hb dL_law_33 (by decide) (by decide) rfl (by decide) ?_
        exact law_22 Z hX hbl hL h0 h1 kk hXi hMi hP hD hS hl
      · refine lv_tableIn (off := 846) (tgt := 879) hx hb dL_law_33 (by decide) (by decide) rfl (by decide) ?_
        exact law_23 Z hX hbl hL h0 h1 kk hXi hMi hP hD hS hl
      · refine lv_tableIn (off := 889) (tgt := 922) hx hb dL_law_33 (by decide) (by decide) rfl (by decide) ?_
        exact law_24 Z hX hbl hL h0 h1 kk hXi hMi hP hD hS hl
      · refine lv_tableIn (off := 902) (tgt := 935) hx hb dL_law_33 (by decide) (by decide) rfl (by decide) ?_
        exact law_25 Z hX hbl hL h0 h1 kk hXi hMi hP hD hS hl
      · refine lv_tableIn (off := 915) (tgt := 948) hx hb dL_law_33 (by decide) (by decide) rfl (by decide) ?_
        exact law_26 Z hX hbl hL h0 h1 kk hXi hMi hP hD hS hl
      · refine lv_tableIn (off := 928) (tgt := 961) hx hb dL_law_33 (by decide) (by decide) rfl (by decide) ?_
        exact law_27 Z hX hbl hL h0 h1 kk hXi hMi hP hD hS hl
      · refine lv_tableIn (off := 941) (tgt := 974) hx hb dL_law_33 (by decide) (by decide) rfl (by decide) ?_
        exact law_28 Z hX hbl hL h0 h1 kk hXi hMi hP hD hS hl
      · refine lv_tableOut (tgt := 997) hx hb dL_law_33 (by decide) (by decide) ?_
        exact kk hXi hMi hP hD hS hl
      · refine lv_tableOut (tgt := 997) hx hb dL_law_33 (by decide) (by decide) ?_
        exact kk hXi hMi hP hD hS hl
      · refine lv_tableOut (tgt := 997) hx hb dL_law_33 (by decide) (by decide) ?_
        exact kk hXi hMi hP hD hS hl
