theorem dX5_init_0 : decode cX5_init 0 = .ok (.aload_n 0, 1) := by decide +kernel
theorem dX5_init_1 : decode cX5_init 1 = .ok (.invokespecial 3, 3) := by decide +kernel
theorem dX5_init_4 : decode cX5_init 4 = .ok (.aload_n 0, 1) := by decide +kernel
theorem dX5_init_5 : decode cX5_init 5 = .ok (.bipush 30, 2) := by decide +kernel
theorem dX5_init_7 : decode cX5_init 7 = .ok (.anewarray 9, 3) := by decide +kernel
theorem dX5_init_10 : decode cX5_init 10 = .ok (.putfield 11, 3) := by decide +kernel
theorem dX5_init_13 : decode cX5_init 13 = .ok (.aload_n 0, 1) := by decide +kernel
theorem dX5_init_14 : decode cX5_init 14 = .ok (.iconst 0, 1) := by decide +kernel
theorem dX5_init_15 : decode cX5_init 15 = .ok (.putfield 17, 3) := by decide +kernel
theorem dX5_init_18 : decode cX5_init 18 = .ok (.aload_n 0, 1) := by decide +kernel
theorem dX5_init_19 : decode cX5_init 19 = .ok (.iconst 0, 1) := by decide +kernel
theorem dX5_init_20 : decode cX5_init 20 = .ok (.putfield 21, 3) := by decide +kernel
theorem dX5_init_23 : decode cX5_init 23 = .ok (.iconst 0, 1) := by decide +kernel
theorem dX5_init_24 : decode cX5_init 24 = .ok (.istore_n 1, 1) := by decide +kernel
theorem dX5_init_25 : decode cX5_init 25 = .ok (.iload_n 1, 1) := by decide +kernel
theorem dX5_init_26 : decode cX5_init 26 = .ok (.bipush 30, 2) := by decide +kernel
theorem dX5_init_28 : decode cX5_init 28 = .ok (.if_icmp .ge 22, 3) := by decide +kernel
theorem dX5_init_31 : decode cX5_init 31 = .ok (.aload_n 0, 1) := by decide +kernel
theorem dX5_init_32 : decode cX5_init 32 = .ok (.getfield 11, 3) := by decide +kernel
theorem dX5_init_35 : decode cX5_init 35 = .ok (.iload_n 1, 1) := by decide +kernel
theorem dX5_init_36 : decode cX5_init 36 = .ok (.new 9, 3) := by decide +kernel
theorem dX5_init_39 : decode cX5_init 39 = .ok (.dup, 1) := by decide +kernel
theorem dX5_init_40 : decode cX5_init 40 = .ok (.invokespecial 24, 3) := by decide +kernel
theorem dX5_init_43 : decode cX5_init 43 = .ok (.aastore, 1) := by decide +kernel
theorem dX5_init_44 : decode cX5_init 44 = .ok (.iinc 1 1, 3) := by decide +kernel
theorem dX5_init_47 : decode cX5_init 47 = .ok (.goto (-22), 3) := by decide +kernel
theorem dX5_init_50 : decode cX5_init 50 = .ok (.return_, 1) := by decide +kernel
theorem bw_176 : Cond.instantiable "CountingHorses$Mail" 7 ∈ BW := bw_at 176 (by decide +kernel) (by decide +kernel)
theorem bw_178 : Cond.instanceMethod ⟨"CountingHorses$Mail", "<init>", "()V"⟩ ∈ BW := bw_at 178 (by decide +kernel) (by decide +kernel)
theorem bw_179 : Cond.code ⟨"CountingHorses$Mail", "<init>", "()V"⟩ prog_3_method_1_code 1 none ∈ BW := bw_at 179 (by decide +kernel) (by decide +kernel)
theorem bw_216 : Cond.methodLink "CountingHorses$StepsBack" 3 ⟨"java/lang/Object", "<init>", "()V"⟩ ∈ BW := bw_at 216 (by decide +kernel) (by decide +kernel)
theorem bw_217 : Cond.classLink "CountingHorses$StepsBack" 9 "CountingHorses$Mail" ∈ BW := bw_at 217 (by decide +kernel) (by decide +kernel)
theorem bw_220 : Cond.fieldLink "CountingHorses$StepsBack" 11 "CountingHorses$StepsBack" "ring" "[LCountingHorses$Mail;" ∈ BW := bw_at 220 (by decide +kernel) (by decide +kernel)
theorem bw_221 : Cond.fieldLink "CountingHorses$StepsBack" 17 "CountingHorses$StepsBack" "next" "I" ∈ BW := bw_at 221 (by decide +kernel) (by decide +kernel)
section ZQ
variable {p : Program} {l : Launch} {e : Env} {R : Room} {s : State} {m : MethodId} {args : Array Value} {below : List Frame} {meth : Method} {c : Code} {H : Heap} {locs : List Loc} {cells slots : Nat} {Q : State → Prop}
variable {cc : ByteArray} {pc nL index : Nat} {rt : Option FieldType} {ls : Array Slot} {rest : List Value} {D : va_G} {A : Nat → Prop} {tys : vw_Y} {ws : va_W} {own : String}
theorem z_newq (Z : Zx p s m args meth c cc nL rt own A tys D) {C : String} (hcl : Cond.classLink own index C ∈ BW) (hov : va_AO C s) (hP : va_P D vwCl ws H) (hD : va_D A ws) (hS : va_S A s.heap H locs) (t0 : Nat) {cA : ClassId} (ht : tys[t0]? = some (cA, .object C)) {n : Int32} {N : Nat} (hn : ¬ n < 0) (hN : n.toNatClampNeg = N) (hby : N * 4 ≤ 536870912) (hc : cells + 1 ≤ R.cells) (hs : slots + N ≤ R.slots) (hdg : decode cc pc = .ok (.anewarray index, 3))
    (kk : ∀ (q : Nat) (H1 : Heap), va_P D vwCl (ws ++ [(q, .inl (cA, N, .inr (.inr (.inr (.inr (fun _ => none))))))]) H1 → va_D A (ws ++ [(q, .inl (cA, N, .inr (.inr (.inr (.inr (fun _ => none))))))]) → va_S A s.heap H1 locs → W p l e R s m args below meth c H1 locs (cells + 1) (slots + N) Q (F0 m (pc + 3) ls (.ref q :: rest))) : W p l e R s m args below meth c H locs cells slots Q (F0 m pc ls (.int n :: rest)) := by
  refine va_newq Z.1 Z.2.1 Z.2.2.2.1 (Z.2.2.2.2.1 _ hcl) hov Z.2.2.2.2.2.2.1 hP hD hS Z.2.2.2.2.2.2.2.1 hn hN hby hc hs hdg (fun q cB H1 hK1 hP1 hD1 hS1 => ?_)
  obtain ⟨-, -, -, -, -, h1⟩ := (Z.2.2.2.2.2.2.1.2 t0 _ ht).2
  obtain ⟨-, -, -, -, -, h2⟩ := (hK1.2 tys.length (cB, .object C) (by simp)).2
  have e : cB = cA := Option.some.inj (h2.symm.trans h1)
  subst e
  exact kk q H1 hP1 hD1 hS1
theorem z_aast (Z : Zx p s m args meth c cc nL rt own A tys D) (hP : va_P D vwCl ws H) (hD : va_D A ws) (hS : va_S A s.heap H locs) (q0 t0 qk ci : Nat) {a : Nat} {cA : ClassId} {r : vw_C} {n v : Nat} {vs : List Value} {f : Nat → Option Nat} (ha : ws[q0]? = some (a, .inl (cA, n, .inr (.inr (.inr (.inr f)))))) (ht : tys[t0]? = some (cA, .object r.1)) (hv : ws[qk]? = some (v, .inr (ci, vs))) (hc : vwCl[ci]? = some r) {i : Int32} (hin : vp_in i n) (hdg : decode cc pc = .ok (.aastore, 1))
    (kk : ∀ (H1 : Heap) (locs1 : List Loc), va_P D vwCl (ws.set q0 (a, .inl (cA, n, .inr (.inr (.inr (.inr (va_up f i.toNatClampNeg (some v)))))))) H1 → va_D A (ws.set q0 (a, .inl (cA, n, .inr (.inr (.inr (.inr (va_up f i.toNatClampNeg (some v)))))))) → va_S A s.heap H1 locs1 → W p l e R s m args below meth c H1 locs1 cells slots Q (F0 m (pc + 1) ls rest)) : W p l e R s m args below meth c H locs cells slots Q (F0 m pc ls (.ref v :: .int i :: .ref a :: rest)) :=
  va_astq Z.1 Z.2.1 Z.2.2.2.2.2.2.1 hP hD hS q0 t0 qk ci ha ht hv hc hin hdg kk
end ZQ

set_option maxHeartbeats 4000000 in
set_option maxRecDepth 100000 in
theorem lp_X5_init {p : Program} (l : Launch) {e : Env} {s : State} {m : MethodId} {below : List Frame} {meth : Method} {c : Code} {A : Nat → Prop} (D : va_G) (cI cM cT : ClassId) (sB : Nat) (Z : Zx p s m ([.ref sB] : List Value).toArray meth c cX5_init 2 none yX5_init.cls A (ty3 cI cM cT) D) : ∀ (n0 : Nat) (i : Nat) (rG : Nat) (f : Nat → Option Nat) (PL : va_W) (h0 : i ≤ 30) (hR : RingOK cI f i PL (fun _ => True)), 30 - i < n0 → ∀ (H : Heap) (locs : List Loc) (ls : Array Slot), va_P D vwCl ([(sB, .inr (5, [.ref rG, .int 0, .int 0])), (rG, .inl (cM, 30, .inr (.inr (.inr (.inr f)))))] ++ PL) H → va_D A ([(sB, .inr (5, [.ref rG, .int 0, .int 0])), (rG, .inl (cM, 30, .inr (.inr (.inr (.inr f)))))] ++ PL) → va_S A s.heap H locs → lv_has ls 2 [(0, .ref sB), (1, .int (nI i))] → W p l e (rmv 2 61 540) s m ([.ref sB] : List Value).toArray below meth c H locs (1 + 2 * i) (30 + 17 * i) (MQ below (va_Qv (fun u => ∃ (rG : Nat) (f : Nat → Option Nat) (PL : va_W), u = [(sB, .inr (5, [.ref rG, .int 0, .int 0])), (rG, .inl (cM, 30, .inr (.inr (.inr (.inr f)))))] ++ PL ∧ RingOK cI f 30 PL (fun _ => True)) (cB D (ty3 cI cM cT) A) A) ([.ref sB] : List Value).toArray s 61 540 A) (F0 m 25 ls []) := by
  have hx := Z.1
  have hb := Z.2.1
  intro n0
  induction n0 with
  | zero => intro i rG f PL h0 hR hm; exact absurd hm (Nat.not_lt_zero _)
  | succ n0 ih =>
    intro i rG f PL h0 hR hm H locs ls hP hD hS hl
    have ei : (nI i).toInt = (i : Int) := nI_toInt (by omega)
    refine lv_iload_n hx hb dX5_init_25 rfl (lv_at hl 1 rfl) ?_
    refine lv_bipush (v := 30) hx hb dX5_init_26 (by decide) ?_
    refine lv_icmp_ge (tgt := 50) hx hb dX5_init_28 (by decide) (fun c1 => ?_) (fun c1 => ?_)
    · have he30 : i = 30 := by (try simp only [zlt, zle, zeq, zl_0, zl_1, zl_2, zl_3, zl_4, zl_5, zl_6, zl_7, zl_8, zl_9, zl_10, zl_11, zl_12, zl_13, zl_19, zl_20, zl_30, zl_64, zl_99, zl_100, zl_299, zl_300, zl_399, zl_999, zl_9999, zl_m1, zl_m2, zl_m3, zl_32, zl_280, zl_862, zl_464, zl_82, zl_382, zl_398, zl_400000000, zl_63] at ei h0 hm c1 ⊢); omega
      exact z_vret Z hP hD hS (⟨rG, f, PL, rfl, he30 ▸ hR⟩) dX5_init_50 (by show _ ≤ 61; omega) (by show _ ≤ 540; omega)
    · have hi30 : i < 30 := by (try simp only [zlt, zle, zeq, zl_0, zl_1, zl_2, zl_3, zl_4, zl_5, zl_6, zl_7, zl_8, zl_9, zl_10, zl_11, zl_12, zl_13, zl_19, zl_20, zl_30, zl_64, zl_99, zl_100, zl_299, zl_300, zl_399, zl_999, zl_9999, zl_m1, zl_m2, zl_m3, zl_32, zl_280, zl_862, zl_464, zl_82, zl_382, zl_398, zl_400000000, zl_63] at ei h0 hm c1 ⊢); omega
      refine lv_aload_n hx hb dX5_init_31 rfl (lv_at hl 0 rfl) ?_
      refine z_get Z i_X5 hP 0 rfl rfl 0 (by decide) bw_220 rfl dX5_init_32 ?_
      refine lv_iload_n hx hb dX5_init_35 rfl (lv_at hl 1 rfl) ?_
      refine z_new Z (ci := 1) (fs := [.null, .int 0, .int 0, .int 0, .int 0, .int 0, .int 0]) i_X1 tyX1 tyX1_ok bw_217 bw_176 bw_86 hP hD hS rfl rfl (by show _ ≤ 61; omega) (by show _ ≤ 540; omega) dX5_init_36 (fun q2 H hP hD hS => ?_)
      have hP := hP.swap
      have hD := hD.swap
      have hP : va_P D vwCl ([(sB, .inr (5, [.ref rG, .int 0, .int 0])), (rG, .inl (cM, 30, .inr (.inr (.inr (.inr f))))), (q2, .inr (1, [.null, .int 0, .int 0, .int 0, .int 0, .int 0, .int 0]))] ++ PL) H := hP
      have hD : va_D A ([(sB, .inr (5, [.ref rG, .int 0, .int 0])), (rG, .inl (cM, 30, .inr (.inr (.inr (.inr f))))), (q2, .inr (1, [.null, .int 0, .int 0, .int 0, .int 0, .int 0, .int 0]))] ++ PL) := hD
      refine lv_dup hx hb dX5_init_39 rfl ?_
      have hPc := (va_P_left hP).sub2 (wc := [(q2, .inr (1, [.null, .int 0, .int 0, .int 0, .int 0, .int 0, .int 0]))]) [2] rfl
      have hDc := (va_D_left hD).sub (ws' := [(q2, .inr (1, [.null, .int 0, .int 0, .int 0, .int 0, .int 0, .int 0]))]) [2] (by decide) rfl
      refine raw_IN (nA := 0) (As := []) (rest := [.ref q2, .int (nI i), .ref rG]) Z hl.1 (c_X1_init l D cI cM cT q2) (List.mem_of_getElem? (i := 5) rfl) bw_178 bw_86 bw_179 rfl ⟨by decide +kernel, by decide +kernel, by decide +kernel⟩ rfl ⟨Nat.le_of_ble_eq_true rfl, Nat.le_of_ble_eq_true rfl⟩ hPc hDc hS rfl (Nat.le_of_ble_eq_true rfl) dX5_init_40 ⟨(by show _ ≤ 61; omega), (by show _ ≤ 540; omega)⟩ (fun u3 H1 locs1 h5 hku3 hP1 hD1 hS1 => ?_)
      obtain ⟨iA_6, rfl⟩ := h5
      obtain ⟨hP, hD⟩ := z_joinQ (wr := [(sB, .inr (5, [.ref rG, .int 0, .int 0])), (rG, .inl (cM, 30, .inr (.inr (.inr (.inr f)))))]) Z hS hP hD [2] [0, 1] rfl (by decide) rfl (by decide) (by decide) hku3 hP1 hD1
      have hS := hS1
      clear hS1
      generalize H1 = H at hP hS ⊢
      generalize locs1 = locs at hS ⊢
      have hP : va_P D vwCl ([(sB, .inr (5, [.ref rG, .int 0, .int 0])), (rG, .inl (cM, 30, .inr (.inr (.inr (.inr f))))), (q2, .inr (1, [.ref iA_6, .int 0, .int 0, .int 0, .int 0, .int 0, .int 13])), (iA_6, .inl (cI, 10, .inl (fun _ => 0)))] ++ PL) H := hP
      have hD : va_D A ([(sB, .inr (5, [.ref rG, .int 0, .int 0])), (rG, .inl (cM, 30, .inr (.inr (.inr (.inr f))))), (q2, .inr (1, [.ref iA_6, .int 0, .int 0, .int 0, .int 0, .int 0, .int 13])), (iA_6, .inl (cI, 10, .inl (fun _ => 0)))] ++ PL) := hD
      refine z_aast Z hP hD hS 1 1 2 1 rfl rfl rfl rfl (vp_in_nI (by (try simp only [zlt, zle, zeq, zl_0, zl_1, zl_2, zl_3, zl_4, zl_5, zl_6, zl_7, zl_8, zl_9, zl_10, zl_11, zl_12, zl_13, zl_19, zl_20, zl_30, zl_64, zl_99, zl_100, zl_299, zl_300, zl_399, zl_999, zl_9999, zl_m1, zl_m2, zl_m3, zl_32, zl_280, zl_862, zl_464, zl_82, zl_382, zl_398, zl_400000000, zl_63] at ei h0 hm c1 ⊢); omega) (by omega)) dX5_init_43 (fun H locs hP hD hS => ?_)
      rw [nI_clamp (by omega)] at hP hD
      have hP : va_P D vwCl ([(sB, .inr (5, [.ref rG, .int 0, .int 0])), (rG, .inl (cM, 30, .inr (.inr (.inr (.inr (va_up f i (some q2))))))), (q2, .inr (1, [.ref iA_6, .int 0, .int 0, .int 0, .int 0, .int 0, .int 13])), (iA_6, .inl (cI, 10, .inl (fun _ => 0)))] ++ PL) H := hP
      have hD : va_D A ([(sB, .inr (5, [.ref rG, .int 0, .int 0])), (rG, .inl (cM, 30, .inr (.inr (.inr (.inr (va_up f i (some q2))))))), (q2, .inr (1, [.ref iA_6, .int 0, .int 0, .int 0, .int 0, .int 0, .int 13])), (iA_6, .inl (cI, 10, .inl (fun _ => 0)))] ++ PL) := hD
      refine lv_iinc (v := (nI (i + 1))) (lv' := [(1, .int (nI (i + 1))), (0, .ref sB)]) hx hb dX5_init_44 hl (k := 1) rfl (nI_1 i) (by decide) rfl (fun ls hl => ?_)
      refine lv_goto (tgt := 25) hx hb dX5_init_47 (by decide) ?_
      have hP : va_P D vwCl ([(sB, .inr (5, [.ref rG, .int 0, .int 0])), (rG, .inl (cM, 30, .inr (.inr (.inr (.inr (va_up f i (some q2)))))))] ++ ((q2, .inr (1, [.ref iA_6, .int 0, .int 0, .int 0, .int 0, .int 0, .int 13])) :: (iA_6, .inl (cI, 10, .inl (fun _ => 0))) :: PL)) H := hP
      have hD : va_D A ([(sB, .inr (5, [.ref rG, .int 0, .int 0])), (rG, .inl (cM, 30, .inr (.inr (.inr (.inr (va_up f i (some q2)))))))] ++ ((q2, .inr (1, [.ref iA_6, .int 0, .int 0, .int 0, .int 0, .int 0, .int 13])) :: (iA_6, .inl (cI, 10, .inl (fun _ => 0))) :: PL)) := hD
      refine W.widen (k := 1 + 2 * (i + 1)) (n := 30 + 17 * (i + 1)) (by omega) (by omega) ?_
      exact ih (i + 1) rG (va_up f i (some q2)) ((q2, .inr (1, [.ref iA_6, .int 0, .int 0, .int 0, .int 0, .int 0, .int 13])) :: (iA_6, .inl (cI, 10, .inl (fun _ => 0))) :: PL) (by (try simp only [zlt, zle, zeq, zl_0, zl_1, zl_2, zl_3, zl_4, zl_5, zl_6, zl_7, zl_8, zl_9, zl_10, zl_11, zl_12, zl_13, zl_19, zl_20, zl_30, zl_64, zl_99, zl_100, zl_299, zl_300, zl_399, zl_999, zl_9999, zl_m1, zl_m2, zl_m3, zl_32, zl_280, zl_862, zl_464, zl_82, zl_382, zl_398, zl_400000000, zl_63] at ei h0 hm c1 ⊢); omega) (ring_push hR) (by (try simp only [zlt, zle, zeq, zl_0, zl_1, zl_2, zl_3, zl_4, zl_5, zl_6, zl_7, zl_8, zl_9, zl_10, zl_11, zl_12, zl_13, zl_19, zl_20, zl_30, zl_64, zl_99, zl_100, zl_299, zl_300, zl_399, zl_999, zl_9999, zl_m1, zl_m2, zl_m3, zl_32, zl_280, zl_862, zl_464, zl_82, zl_382, zl_398, zl_400000000, zl_63] at ei h0 hm c1 ⊢); omega) _ _ _ hP hD hS (lv_sub hl [1, 0] rfl)
set_option maxHeartbeats 4000000 in
set_option maxRecDepth 100000 in
theorem c_X5_init (l : Launch) (D : va_G) (cI cM cT : ClassId) (sB : Nat) : Cv l D (ty3 cI cM cT) yX5_init cX5_init 2 2 61 540 [.ref sB] ([(sB, .inr (5, [.null, .int 0, .int 0]))]) (fun u => ∃ (rG : Nat) (f : Nat → Option Nat) (PL : va_W), u = [(sB, .inr (5, [.ref rG, .int 0, .int 0])), (rG, .inl (cM, 30, .inr (.inr (.inr (.inr f)))))] ++ PL ∧ RingOK cI f 30 PL (fun _ => True)) := by
  refine Cv.of (by decide +kernel) (Nat.le_of_ble_eq_true rfl) ?_
  intro p e s m below meth c A ls Z hin hP hD hl
  have hx := Z.1
  have hb := Z.2.1
  have hS : va_S A s.heap s.heap [] := va_S.rf
  have hl : lv_has ls 2 [(0, .ref sB)] := hl
  skip
  refine lv_aload_n hx hb dX5_init_0 rfl (lv_at hl 0 rfl) ?_
  refine z_obj Z hl.1 bw_216 bw_108 bw_109 dX5_init_1 (Nat.le_of_ble_eq_true rfl) (Nat.le_of_ble_eq_true rfl) ?_
  refine lv_aload_n hx hb dX5_init_4 rfl (lv_at hl 0 rfl) ?_
  refine lv_bipush (v := 30) hx hb dX5_init_5 (by decide) ?_
  refine z_newq (N := 30) Z bw_217 Z.2.2.2.2.2.1.2.1 hP hD hS 1 rfl (by decide) (by decide) (by decide) (Nat.le_of_ble_eq_true rfl) (Nat.le_of_ble_eq_true rfl) dX5_init_7 (fun q1 H hP hD hS => ?_)
  have hP : va_P D vwCl ([(sB, .inr (5, [.null, .int 0, .int 0])), (q1, .inl (cM, 30, .inr (.inr (.inr (.inr (fun _ => none))))))]) H := hP
  have hD : va_D A ([(sB, .inr (5, [.null, .int 0, .int 0])), (q1, .inl (cM, 30, .inr (.inr (.inr (.inr (fun _ => none))))))]) := hD
  refine z_putF Z i_X5 tyX5 tyX5_ok nmX5 hP hD hS 0 rfl rfl 0 (by decide) bw_220 rfl hin rfl rfl rfl (Nat.le_of_ble_eq_true rfl) dX5_init_10 (fun H locs hP hD hS => ?_)
  have hP : va_P D vwCl ([(sB, .inr (5, [.ref q1, .int 0, .int 0])), (q1, .inl (cM, 30, .inr (.inr (.inr (.inr (fun _ => none))))))]) H := hP
  have hD : va_D A ([(sB, .inr (5, [.ref q1, .int 0, .int 0])), (q1, .inl (cM, 30, .inr (.inr (.inr (.inr (fun _ => none))))))]) := hD
  refine lv_aload_n hx hb dX5_init_13 rfl (lv_at hl 0 rfl) ?_
  refine lv_iconst (v := 0) hx hb dX5_init_14 (by decide) ?_
  refine z_put Z i_X5 tyX5 tyX5_ok nmX5 hP hD hS 0 rfl rfl 1 (by decide) bw_221 rfl rfl rfl (Nat.le_of_ble_eq_true rfl) dX5_init_15 (fun H locs hP hD hS => ?_)
  have hP : va_P D vwCl ([(sB, .inr (5, [.ref q1, .int 0, .int 0])), (q1, .inl (cM, 30, .inr (.inr (.inr (.inr (fun _ => none))))))]) H := hP
  have hD : va_D A ([(sB, .inr (5, [.ref q1, .int 0, .int 0])), (q1, .inl (cM, 30, .inr (.inr (.inr (.inr (fun _ => none))))))]) := hD
  refine lv_aload_n hx hb dX5_init_18 rfl (lv_at hl 0 rfl) ?_
  refine lv_iconst (v := 0) hx hb dX5_init_19 (by decide) ?_
  refine z_put Z i_X5 tyX5 tyX5_ok nmX5 hP hD hS 0 rfl rfl 2 (by decide) bw_222 rfl rfl rfl (Nat.le_of_ble_eq_true rfl) dX5_init_20 (fun H locs hP hD hS => ?_)
  have hP : va_P D vwCl ([(sB, .inr (5, [.ref q1, .int 0, .int 0])), (q1, .inl (cM, 30, .inr (.inr (.inr (.inr (fun _ => none))))))]) H := hP
  have hD : va_D A ([(sB, .inr (5, [.ref q1, .int 0, .int 0])), (q1, .inl (cM, 30, .inr (.inr (.inr (.inr (fun _ => none))))))]) := hD
  refine lv_iconst (v := 0) hx hb dX5_init_23 (by decide) ?_
  refine lv_istore_n (lv' := [(1, .int 0), (0, .ref sB)]) hx hb dX5_init_24 rfl hl (by decide) rfl (fun ls hl => ?_)
  refine W.widen (k := 1 + 2 * 0) (n := 30 + 17 * 0) (Nat.le_of_ble_eq_true rfl) (Nat.le_of_ble_eq_true rfl) ?_
  have hP : va_P D vwCl ([(sB, .inr (5, [.ref q1, .int 0, .int 0])), (q1, .inl (cM, 30, .inr (.inr (.inr (.inr (fun _ => none))))))] ++ []) H := hP
  have hD : va_D A ([(sB, .inr (5, [.ref q1, .int 0, .int 0])), (q1, .inl (cM, 30, .inr (.inr (.inr (.inr (fun _ => none))))))] ++ []) := hD
  exact lp_X5_init l D cI cM cT sB Z   _ 0 q1 (fun _ => none) ([]) (Nat.zero_le _) ring_0 (Nat.lt_succ_self _) _ _ _ hP hD hS (lv_sub hl [1, 0] rfl)
