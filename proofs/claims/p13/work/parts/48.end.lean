theorem bw_102 : Cond.classLink "CountingHorsesLaw" 7 "CountingHorses" ∈ BW := bw_at 102 (by decide +kernel) (by decide +kernel)
theorem bw_104 : Cond.methodLink "CountingHorsesLaw" 9 ⟨"CountingHorses", "<init>", "()V"⟩ ∈ BW := bw_at 104 (by decide +kernel) (by decide +kernel)
theorem bw_105 : Cond.instanceMethod ⟨"CountingHorses", "<init>", "()V"⟩ ∈ BW := bw_at 105 (by decide +kernel) (by decide +kernel)
theorem bw_106 : Cond.code ⟨"CountingHorses", "<init>", "()V"⟩ prog_1_method_1_code 1 none ∈ BW := bw_at 106 (by decide +kernel) (by decide +kernel)
theorem bw_1010 : Cond.classLink "CountingHorsesLaw" 10 "CountingHorsesModel" ∈ BW := bw_at 1010 (by decide +kernel) (by decide +kernel)
theorem bw_1012 : Cond.methodLink "CountingHorsesLaw" 12 ⟨"CountingHorsesModel", "<init>", "()V"⟩ ∈ BW := bw_at 1012 (by decide +kernel) (by decide +kernel)
theorem bw_1013 : Cond.instanceMethod ⟨"CountingHorsesModel", "<init>", "()V"⟩ ∈ BW := bw_at 1013 (by decide +kernel) (by decide +kernel)
theorem bw_1014 : Cond.code ⟨"CountingHorsesModel", "<init>", "()V"⟩ prog_14_method_1_code 1 none ∈ BW := bw_at 1014 (by decide +kernel) (by decide +kernel)
set_option maxRecDepth 100000 in
set_option maxHeartbeats 4000000 in
theorem law_SW {s : State} {args : Array Value} (hts : ∀ w ∈ lw_tbl, w.before args s = true) (hgv : (Jvm.Cond.and given_1 narrow_1).before args s = true) {A : Nat → Prop} (hA : ∀ a : Nat, a < s.heap.size → ¬ A a) : SWA A s s.heap := by
  have hs := flat_of_before _ hgv
  have h01 : ∀ i : Nat, i < 2 → i = 0 ∨ i = 1 := fun i hi => by omega
  obtain ⟨adK, adV, h1, h2⟩ := vk_Sof (args := args) (s := s) (N := 2) (tm := (fun i : Nat => if i = 0 then Term.string RX7 66 else Term.string RX7 73)) (len := lenS) (byt := bytS) (A := A)
    (fun i hi => by rcases h01 i hi with rfl | rfl <;> decide)
    (fun i hi => by rcases h01 i hi with rfl | rfl <;> exact hs _ (by decide +kernel))
    (fun i hi => by rcases h01 i hi with rfl | rfl <;> exact hs _ (by decide +kernel))
    (fun i hi => by rcases h01 i hi with rfl | rfl <;> exact hs _ (by decide +kernel))
    (fun i hi => by rcases h01 i hi with rfl | rfl <;> exact hs _ (by decide +kernel))
    (fun i hi j hj => by
      rcases h01 i hi with rfl | rfl
      · exact hs _ ((by decide +kernel : ∀ j : Nat, j < 13 → Cond.eq (.elem (.field (Term.string RX7 66) "java/lang/String" "value" "[B") (.int (Int32.ofNat j))) (.int ((bytS.getD 0 []).getD j 0)) ∈ _) j hj)
      · exact hs _ ((by decide +kernel : ∀ j : Nat, j < 88 → Cond.eq (.elem (.field (Term.string RX7 73) "java/lang/String" "value" "[B") (.int (Int32.ofNat j))) (.int ((bytS.getD 1 []).getD j 0)) ∈ _) j hj))
    (fun i j hi hj hne => by
      rcases h01 i hi with rfl | rfl <;> rcases h01 j hj with rfl | rfl
      · exact absurd rfl hne
      · first | exact Or.inl (hs _ (by decide +kernel)) | exact Or.inr (hs _ (by decide +kernel))
      · first | exact Or.inl (hs _ (by decide +kernel)) | exact Or.inr (hs _ (by decide +kernel))
      · exact absurd rfl hne) hA
  refine ⟨adK, adV, h1, vk_R.of (hts (.stringRef RX7 66 "<>=#+-*/();?:") (by decide +kernel)) (h2 0 (by decide)), vk_R.of (hts (.stringRef RX7 73 "steps stride oats drive pass if end or and not horse count shoe day mud place step gone ") (by decide +kernel)) (h2 1 (by decide)), ?_, ?_⟩
  · exact va_Zof (hts _ (by decide +kernel)) (hts _ (by decide +kernel)) (va_eqt (hs (.eq (.static "java/lang/String" "COMPACT_STRINGS" "Z") (.int 1)) (by decide +kernel))) hA
  · exact va_Zqof (hts _ (by decide +kernel)) (hts _ (by decide +kernel)) (hs _ (by decide +kernel)) hA

theorem rng_0 {lo hi : Int} {n : Nat} (h1 : lo ≤ 0) (h2 : 0 ≤ hi) : Rng lo hi n (fun _ => 0) := by
  intro j _
  have e : (0 : Int32).toInt = 0 := by decide
  show lo ≤ (0 : Int32).toInt ∧ (0 : Int32).toInt ≤ hi
  rw [e]
  exact ⟨h1, h2⟩
theorem af0_at {j : Nat} (h5 : j ≠ 5) (h7 : j ≠ 7) : af0 j = 0 := by
  have e5 : (5 : Int32).toNatClampNeg = 5 := by decide
  have e7 : (7 : Int32).toNatClampNeg = 7 := by decide
  unfold af0
  rw [e5, e7]
  unfold upd
  rw [if_neg h5, if_neg h7]
theorem ak_0 : AK 0 0 0 0 0 af0 := by
  refine ⟨by decide, by decide, by decide, by decide, by decide, by decide, by decide, fun j hj => ?_⟩
  by_cases h5 : j = 5
  · subst h5
    unfold RAi
    refine ⟨fun h => ?_, fun h => ?_, fun h => ?_, fun h => ?_, fun h => ?_, fun h => ?_, fun h => ?_, fun h => ?_, fun h => ?_, fun h => ?_, fun h => ?_, fun h => ?_⟩ <;> (exfalso; omega)
  by_cases h7 : j = 7
  · subst h7
    unfold RAi
    refine ⟨fun h => ?_, fun h => ?_, fun h => ?_, fun h => ?_, fun h => ?_, fun h => ?_, fun h => ?_, fun h => ?_, fun h => ?_, fun h => ?_, fun h => ?_, fun h => ?_⟩ <;> (exfalso; omega)
  rw [af0_at h5 h7]
  have e : (0 : Int32).toInt = 0 := by decide
  unfold RAi
  rw [e]
  refine ⟨fun h => ?_, fun h => ?_, fun h => ?_, fun h => ?_, fun h => ?_, fun h => ?_, fun h => ?_, fun h => ?_, fun h => ?_, fun h => ?_, fun h => ?_, fun h => ?_⟩ <;> decide
theorem tok_0 {t : Nat → Int32} : TOK 0 t := fun k hk => by omega
theorem nk_0 : NK (fun _ => 0) := ⟨⟨by decide, by decide⟩, ⟨by decide, by decide⟩, ⟨by decide, by decide⟩⟩
set_option maxHeartbeats 4000000 in
set_option maxRecDepth 100000 in
theorem law_IX {cI cM cT cJ cZ : ClassId} {x : Nat} {u : va_W} (h : ∃ (st : Nat) (dr : Nat) (nw : Nat) (kp : Nat) (rd : Nat) (tm : Nat) (co : Nat) (s1 : Nat) (s2 : Nat) (s3 : Nat) (tA : Nat) (lW : Nat) (nA : Nat) (kA : Nat) (t0 : Nat) (cd_t0 : Nat) (lF_t0 : Nat) (lT_t0 : Nat) (cK_t0 : Nat) (cU_t0 : Nat) (t1 : Nat) (cd_t1 : Nat) (lF_t1 : Nat) (lT_t1 : Nat) (cK_t1 : Nat) (cU_t1 : Nat) (t2 : Nat) (cd_t2 : Nat) (lF_t2 : Nat) (lT_t2 : Nat) (cK_t2 : Nat) (cU_t2 : Nat) (t3 : Nat) (cd_t3 : Nat) (lF_t3 : Nat) (lT_t3 : Nat) (cK_t3 : Nat) (cU_t3 : Nat) (cd_lW : Nat) (lF_lW : Nat) (lT_lW : Nat) (cK_lW : Nat) (cU_lW : Nat) (rO : Nat) (sT : Nat) (mA : Nat) (sB : Nat) (sA : Nat) (tH : Nat) (tF : Nat) (tS : Nat) (mU : Nat) (bF : Nat) (bT : Nat) (cO : Nat) (sH : Nat) (iA : Nat) (rG : Nat) (rOk : Nat) (sTk : Nat) (mAk : Nat) (sBk : Nat) (sAk : Nat) (tHk : Nat) (tFk : Nat) (tSk : Nat) (mUk : Nat) (bFk : Nat) (bTk : Nat) (cOk : Nat) (sHk : Nat) (iAk : Nat) (rGk : Nat) (tP : Nat) (tX : Nat) (bY : Nat) (ki : Nat) (a_t : Nat) (nu : Nat) (bE : Nat) (oR : Nat) (tf : Nat → Option Nat) (fN : Nat → Option Nat) (fNk : Nat → Option Nat) (PLL : va_W) (Ka : Nat → Prop) (Kb : Nat → Prop), u = [(x, .inr (11, [.ref st, .ref dr, .ref nw, .ref kp, .ref rd, .ref tm, .ref co])), (st, .inr (6, [.ref dr, .ref s1, .ref s2, .ref s3, .int 1])), (s1, .inl (cI, 1800, .inl (fun _ => 0))), (s2, .inl (cI, 1800, .inl (fun _ => 0))), (s3, .inl (cI, 1800, .inl (fun _ => 0))), (dr, .inr (0, [.ref nw, .ref tA, .ref lW, .ref nA, .ref kA, .int 0, .int 0])), (nA, .inl (cI, 8, .inl (fun _ => 0))), (kA, .inl (cI, 64, .inl (fun _ => 0))), (tA, .inl (cT, 4, .inr (.inr (.inr (.inr tf))))), (t0, .inr (9, [.ref cd_t0, .ref lF_t0, .ref lT_t0, .ref cK_t0, .ref cU_t0, .int 0, .int 0])), (cd_t0, .inl (cI, 300, .inl (fun _ => 0))), (lF_t0, .inl (cI, 4, .inl (fun _ => 0))), (lT_t0, .inl (cI, 4, .inl (fun _ => 0))), (cK_t0, .inl (cI, 24, .inl (fun _ => 0))), (cU_t0, .inl (cI, 24, .inl (fun _ => 0))), (t1, .inr (9, [.ref cd_t1, .ref lF_t1, .ref lT_t1, .ref cK_t1, .ref cU_t1, .int 0, .int 0])), (cd_t1, .inl (cI, 300, .inl (fun _ => 0))), (lF_t1, .inl (cI, 4, .inl (fun _ => 0))), (lT_t1, .inl (cI, 4, .inl (fun _ => 0))), (cK_t1, .inl (cI, 24, .inl (fun _ => 0))), (cU_t1, .inl (cI, 24, .inl (fun _ => 0))), (t2, .inr (9, [.ref cd_t2, .ref lF_t2, .ref lT_t2, .ref cK_t2, .ref cU_t2, .int 0, .int 0])), (cd_t2, .inl (cI, 300, .inl (fun _ => 0))), (lF_t2, .inl (cI, 4, .inl (fun _ => 0))), (lT_t2, .inl (cI, 4, .inl (fun _ => 0))), (cK_t2, .inl (cI, 24, .inl (fun _ => 0))), (cU_t2, .inl (cI, 24, .inl (fun _ => 0))), (t3, .inr (9, [.ref cd_t3, .ref lF_t3, .ref lT_t3, .ref cK_t3, .ref cU_t3, .int 0, .int 0])), (cd_t3, .inl (cI, 300, .inl (fun _ => 0))), (lF_t3, .inl (cI, 4, .inl (fun _ => 0))), (lT_t3, .inl (cI, 4, .inl (fun _ => 0))), (cK_t3, .inl (cI, 24, .inl (fun _ => 0))), (cU_t3, .inl (cI, 24, .inl (fun _ => 0))), (lW, .inr (9, [.ref cd_lW, .ref lF_lW, .ref lT_lW, .ref cK_lW, .ref cU_lW, .int 0, .int 0])), (cd_lW, .inl (cI, 300, .inl (fun _ => 0))), (lF_lW, .inl (cI, 4, .inl (fun _ => 0))), (lT_lW, .inl (cI, 4, .inl (fun _ => 0))), (nw, .inr (10, [.ref rO, .ref sT, .ref mA, .ref sB, .ref sA, .ref tH, .ref tF, .ref tS, .int 0, .int 0, .int (-1), .int 0, .int 0])), (rO, .inr (3, [.ref mU, .ref bF, .ref bT, .int 0])), (mU, .inl (cI, 300, .inl (fun _ => 0))), (bF, .inl (cI, 4, .inl (fun _ => 0))), (bT, .inl (cI, 4, .inl (fun _ => 0))), (sT, .inr (4, [.ref cO, .ref sH, .int 0])), (cO, .inl (cI, 6, .inl (fun _ => 0))), (sH, .inl (cI, 6, .inl (fun _ => 0))), (mA, .inr (1, [.ref iA, .int 0, .int 0, .int 0, .int 0, .int 0, .int 13])), (iA, .inl (cI, 10, .inl (fun _ => 0))), (sB, .inr (5, [.ref rG, .int 0, .int 0])), (rG, .inl (cM, 30, .inr (.inr (.inr (.inr fN))))), (sA, .inl (cI, 6, .inl (fun _ => 0))), (tH, .inl (cI, 10, .inl (fun _ => 0))), (tF, .inl (cI, 10, .inl (fun _ => 0))), (tS, .inl (cI, 10, .inl (fun _ => 0))), (kp, .inr (10, [.ref rOk, .ref sTk, .ref mAk, .ref sBk, .ref sAk, .ref tHk, .ref tFk, .ref tSk, .int 0, .int 0, .int (-1), .int 0, .int 0])), (rOk, .inr (3, [.ref mUk, .ref bFk, .ref bTk, .int 0])), (mUk, .inl (cI, 300, .inl (fun _ => 0))), (bFk, .inl (cI, 4, .inl (fun _ => 0))), (bTk, .inl (cI, 4, .inl (fun _ => 0))), (sTk, .inr (4, [.ref cOk, .ref sHk, .int 0])), (cOk, .inl (cI, 6, .inl (fun _ => 0))), (sHk, .inl (cI, 6, .inl (fun _ => 0))), (mAk, .inr (1, [.ref iAk, .int 0, .int 0, .int 0, .int 0, .int 0, .int 13])), (iAk, .inl (cI, 10, .inl (fun _ => 0))), (sBk, .inr (5, [.ref rGk, .int 0, .int 0])), (rGk, .inl (cM, 30, .inr (.inr (.inr (.inr fNk))))), (sAk, .inl (cI, 6, .inl (fun _ => 0))), (tHk, .inl (cI, 10, .inl (fun _ => 0))), (tFk, .inl (cI, 10, .inl (fun _ => 0))), (tSk, .inl (cI, 10, .inl (fun _ => 0))), (rd, .inr (2, [.ref tP, .int (-1), .int (-1), .int 0, .int 37, .int 0, .ref tX])), (tP, .inr (7, [.ref bY, .ref ki, .ref a_t, .ref nu, .int 0, .int 0])), (bY, .inl (cI, 300, .inl (fun _ => 0))), (ki, .inl (cI, 301, .inl (fun _ => 0))), (a_t, .inl (cI, 301, .inl (fun _ => 0))), (nu, .inl (cI, 301, .inl (fun _ => 0))), (tm, .inr (8, [.ref bE, .ref oR, .int 0, .int (-1)])), (bE, .inl (cI, 6, .inl (fun _ => 0))), (oR, .inl (cI, 6, .inl (fun _ => 0))), (co, .inl (cI, 300, .inl (fun _ => 0)))] ++ PLL ∧ RingOK cI fN 30 PLL Ka ∧ RingOK cI fNk 30 PLL Kb ∧ (∀ k, Ka k → ¬ Kb k) ∧ tf 0 = some t0 ∧ tf 1 = some t1 ∧ tf 2 = some t2 ∧ tf 3 = some t3) : InvX cI cM cT cJ cZ x 0 0 0 0 0 0 0 0 u := by
  obtain ⟨st, dr, nw, kp, rd, tm, co, s1, s2, s3, tA, lW, nA, kA, t0, cd_t0, lF_t0, lT_t0, cK_t0, cU_t0, t1, cd_t1, lF_t1, lT_t1, cK_t1, cU_t1, t2, cd_t2, lF_t2, lT_t2, cK_t2, cU_t2, t3, cd_t3, lF_t3, lT_t3, cK_t3, cU_t3, cd_lW, lF_lW, lT_lW, cK_lW, cU_lW, rO, sT, mA, sB, sA, tH, tF, tS, mU, bF, bT, cO, sH, iA, rG, rOk, sTk, mAk, sBk, sAk, tHk, tFk, tSk, mUk, bFk, bTk, cOk, sHk, iAk, rGk, tP, tX, bY, ki, a_t, nu, bE, oR, tf, fN, fNk, PLL, Ka, Kb, rfl, u0, u1, u2, u3, u4, u5, u6⟩ := h
  exact fun C9 k9 => k9 st dr nw kp rd tm co s1 s2 s3 tA lW nA kA t0 cd_t0 lF_t0 lT_t0 cK_t0 cU_t0 t1 cd_t1 lF_t1 lT_t1 cK_t1 cU_t1 t2 cd_t2 lF_t2 lT_t2 cK_t2 cU_t2 t3 cd_t3 lF_t3 lT_t3 cK_t3 cU_t3 cd_lW lF_lW lT_lW cK_lW cU_lW rO sT mA sB sA tH tF tS mU bF bT cO sH iA rG rOk sTk mAk sBk sAk tHk tFk tSk mUk bFk bTk cOk sHk iAk rGk tP tX bY ki a_t nu bE oR 1 0 0 0 0 0 0 0 0 0 0 0 0 0 0 (-1) 0 0 0 0 0 0 0 0 0 13 0 0 0 0 (-1) 0 0 0 0 0 0 0 0 0 13 0 0 (-1) (-1) 0 37 0 0 0 0 (-1) (fun _ => 0) (fun _ => 0) (fun _ => 0) (fun _ => 0) (fun _ => 0) tf (fun _ => 0) (fun _ => 0) (fun _ => 0) (fun _ => 0) (fun _ => 0) (fun _ => 0) (fun _ => 0) (fun _ => 0) (fun _ => 0) (fun _ => 0) (fun _ => 0) (fun _ => 0) (fun _ => 0) (fun _ => 0) (fun _ => 0) (fun _ => 0) (fun _ => 0) (fun _ => 0) (fun _ => 0) (fun _ => 0) (fun _ => 0) (fun _ => 0) (fun _ => 0) (fun _ => 0) (fun _ => 0) (fun _ => 0) (fun _ => 0) (fun _ => 0) (fun _ => 0) fN (fun _ => 0) (fun _ => 0) (fun _ => 0) (fun _ => 0) (fun _ => 0) (fun _ => 0) (fun _ => 0) (fun _ => 0) (fun _ => 0) (fun _ => 0) fNk (fun _ => 0) (fun _ => 0) (fun _ => 0) (fun _ => 0) (fun _ => 0) (fun _ => 0) (fun _ => 0) (fun _ => 0) (fun _ => 0) (fun _ => 0) (fun _ => 0) PLL Ka Kb rfl (rng_0 (by decide) (by decide)) (by decide) (by decide) (by decide) (rng_0 (by decide) (by decide)) (by decide) (by decide) (rng_0 (by decide) (by decide)) (by decide) (by decide) (rng_0 (by decide) (by decide)) (by decide) (by decide) (rng_0 (by decide) (by decide)) (by decide) (by decide) (rng_0 (by decide) (by decide)) (by decide) (by decide) (by decide) (by decide) (rng_0 (by decide) (by decide)) (rng_0 (by decide) (by decide)) (by decide) (rng_0 (by decide) (by decide)) (rng_0 (by decide) (by decide)) (by decide) (by decide) (rng_0 (by decide) (by decide)) (by decide) (rng_0 (by decide) (by decide)) (rng_0 (by decide) (by decide)) (rng_0 (by decide) (by decide)) (by decide) (by decide) (by decide) (by decide) (rng_0 (by decide) (by decide)) (rng_0 (by decide) (by decide)) (by decide) (rng_0 (by decide) (by decide)) (rng_0 (by decide) (by decide)) (by decide) (by decide) (rng_0 (by decide) (by decide)) (by decide) (rng_0 (by decide) (by decide)) (rng_0 (by decide) (by decide)) (rng_0 (by decide) (by decide)) (by decide) (by decide) (by decide) (by decide) u3 u4 u5 u6 u0 u1 u2 (by decide) (by decide) (by decide) (by decide) (by decide) (by decide) (by decide) (by decide)
set_option maxHeartbeats 4000000 in
set_option maxRecDepth 100000 in
theorem law_IM {cI cM cT cJ cZ : ClassId} {q : Nat} {u : va_W} (h : ∃ (aA : Nat) (aI : Nat) (xT : Nat) (tP_ : Nat) (pI : Nat) (nm : Nat) (vL : Nat) (tR : Nat) (rW : Nat) (sP : Nat) (oT : Nat) (bS : Nat) (aS : Nat) (aO : Nat) (cS : Nat) (wY : Nat) (gi : Nat → Int32), u = [(q, .inr (12, [.ref aA, .ref aI, .ref xT, .ref tP_, .int 0, .int (-1), .int (-1), .int 0, .int 0, .int 0, .int 0, .long 0, .int 0, .int 0, .int 0, .int 0, .ref pI, .int 0, .int 0, .int 0, .int 0, .int 0, .ref nm, .ref vL, .ref tR, .int 0, .int 0, .int 0, .ref rW, .ref sP, .ref oT, .ref bS, .ref aS, .ref aO, .ref cS, .ref wY])), (aA, .inl (cI, 862, .inl af0)), (aI, .inl (cI, 862, .inl gi)), (xT, .inl (cI, 2720, .inl (fun _ => 0))), (tP_, .inl (cI, 300, .inl (fun _ => 0))), (pI, .inl (cI, 160, .inl (fun _ => 0))), (nm, .inl (cI, 8, .inl (fun _ => 0))), (vL, .inl (cJ, 330, .inr (.inl (fun _ => 0)))), (tR, .inl (cZ, 330, .inl (fun _ => 0))), (rW, .inl (cI, 7, .inl (fun _ => 0))), (sP, .inl (cI, 7, .inl (fun _ => 0))), (oT, .inl (cI, 7, .inl (fun _ => 0))), (bS, .inl (cI, 6, .inl (fun _ => 0))), (aS, .inl (cI, 1800, .inl (fun _ => 0))), (aO, .inl (cI, 1800, .inl (fun _ => 0))), (cS, .inl (cI, 300, .inl (fun _ => 0))), (wY, .inl (cI, 64, .inl (fun _ => 0)))] ∧ ∀ j, j < 862 → gi j = af0 j) : InvM cI cM cT cJ cZ q 0 0 0 0 0 0 0 0 u := by
  obtain ⟨aA, aI, xT, tP_, pI, nm, vL, tR, rW, sP, oT, bS, aS, aO, cS, wY, gi, rfl, u0⟩ := h
  exact fun C9 k9 => k9 aA aI xT tP_ pI nm vL tR rW sP oT bS aS aO cS wY 0 (-1) (-1) 0 0 0 0 0 0 0 0 0 0 0 0 0 0 0 0 0 af0 gi (fun _ => 0) (fun _ => 0) (fun _ => 0) (fun _ => 0) (fun _ => 0) (fun _ => 0) (fun _ => 0) (fun _ => 0) (fun _ => 0) (fun _ => 0) (fun _ => 0) (fun _ => 0) (fun _ => 0) (fun _ => 0) 0 0 rfl (by decide) (by decide) ak_0 (AK.ext ak_0 u0) tok_0 nk_0 (rng_0 (by decide) (by decide)) (rng_0 (by decide) (by decide)) (Int.le_refl 0)
set_option maxHeartbeats 8000000 in
set_option maxRecDepth 100000 in
theorem whole_start {p : Program} {e : Env} {s : State} {m : MethodId} {below : List Frame} {meth : Method} {c : Code} (l : Launch) {b L : Nat} {xs : Nat → Int32} (hL : L ≤ 3072) (C0 : lw_At p s m meth c b L xs) : W p l e room_1 s m #[Value.ref b] below meth c s.heap [] 0 0 (lw_Z below #[Value.ref b] s) (entryFrame m ([Value.ref b] : List Value).toArray 4) := by
  obtain ⟨hx, hb, hr, hml, hown, hts, hX, hbl, hlocks, hgv⟩ := id C0
  have hw : ∀ w ∈ BW, w.before #[Value.ref b] s = true := fun w h => hts w (bw_tbl h)
  have hN := law_NW hts
  obtain ⟨D, cI, cM, cT, cJ, cZ, hK⟩ := law_K hw hN.2.1 hN.2.2
  have Z : Zx p s m #[Value.ref b] meth c code 4 ret R_law (fun q : Nat => s.heap.size ≤ q) (ty3 cI cM cT cJ cZ) D := ⟨hx, hb, hml, hown, hw, ⟨hN, law_SW hts hgv (fun a h => Nat.not_le.mpr h)⟩, hK, fun _ h => h, hlocks, hr⟩
  have hS : va_S (fun q : Nat => s.heap.size ≤ q) s.heap s.heap [] := va_S.rf
  have hP : va_P D vwCl [] s.heap := va_P_nil
  have hD : va_D (fun q : Nat => s.heap.size ≤ q) [] := va_D_nil
  have hl := lv_entry ([.ref b]) (n := 4) (Nat.le_of_ble_eq_true rfl)
  rw [lg_entry_eq]
  generalize (lg_sl ([.ref b]) ++ List.replicate (4 - (lg_sl ([.ref b])).length) Slot.unset).toArray = ls at hl ⊢
  have hl : lv_has ls 4 [(0, .ref b)] := hl
  refine z_new Z (ci := 11) (fs := [.null, .null, .null, .null, .null, .null, .null]) i_X11 tyX11 tyX11_ok bw_102 bw_103 bw_80 hP hD hS rfl rfl (Nat.le_of_ble_eq_true rfl) (Nat.le_of_ble_eq_true rfl) dL_law_0 (fun x H hP hD hS => ?_)
  refine lv_dup hx hb dL_law_3 rfl ?_
  have hPc := va_P_right hP
  have hDc := va_D_right hD
  refine raw_I (nA := 0) (As := []) (rest := [.ref x]) Z hl.1 (c_X11_init l D cI cM cT cJ cZ x) bw_104 bw_105 bw_80 bw_106 rfl ⟨by decide +kernel, by decide +kernel, by decide +kernel⟩ rfl ⟨Nat.le_of_ble_eq_true rfl, Nat.le_of_ble_eq_true rfl⟩ hPc hDc hS rfl (Nat.le_of_ble_eq_true rfl) dL_law_4 ⟨Nat.le_of_ble_eq_true rfl, Nat.le_of_ble_eq_true rfl⟩ (fun ux H1 locs1 hu hk9 hP1 hD1 hS1 => ?_)
  have hIx := law_IX hu
  clear hu
  obtain ⟨hP, hD⟩ := joinR hP hD hk9 (raw_free hDc Z.2.2.2.2.2.2.2.1 hS) hP1 hD1
  have hP : va_P D vwCl ux H1 := hP
  have hD : va_D (fun q : Nat => s.heap.size ≤ q) ux := hD
  clear hPc hDc hP1 hD1 hk9
  have hS := hS1
  clear hS1
  generalize H1 = H at hP hS ⊢
  generalize locs1 = locs at hS ⊢
  refine lv_astore_n (lv' := [(1, .ref x), (0, .ref b)]) hx hb dL_law_7 rfl hl (by decide) rfl (fun ls hl => ?_)
  refine z_new Z (ci := 12) (fs := [.null, .null, .null, .null, .int 0, .int 0, .int 0, .int 0, .int 0, .int 0, .int 0, .long 0, .int 0, .int 0, .int 0, .int 0, .null, .int 0, .int 0, .int 0, .int 0, .int 0, .null, .null, .null, .int 0, .int 0, .int 0, .null, .null, .null, .null, .null, .null, .null, .null]) i_X12 tyX12 tyX12_ok bw_1010 bw_1011 bw_92 hP hD hS rfl rfl (Nat.le_of_ble_eq_true rfl) (Nat.le_of_ble_eq_true rfl) dL_law_8 (fun q H hP hD hS => ?_)
  refine lv_dup hx hb dL_law_11 rfl ?_
  have hPc := va_P_right hP
  have hDc := va_D_right hD
  refine raw_I (nA := 0) (As := []) (rest := [.ref q]) Z hl.1 (c_X12_init l D cI cM cT cJ cZ q) bw_1012 bw_1013 bw_92 bw_1014 rfl ⟨by decide +kernel, by decide +kernel, by decide +kernel⟩ rfl ⟨Nat.le_of_ble_eq_true rfl, Nat.le_of_ble_eq_true rfl⟩ hPc hDc hS rfl (Nat.le_of_ble_eq_true rfl) dL_law_12 ⟨Nat.le_of_ble_eq_true rfl, Nat.le_of_ble_eq_true rfl⟩ (fun uq H1 locs1 hu hk9 hP1 hD1 hS1 => ?_)
  have hIq := law_IM hu
  clear hu
  obtain ⟨hP, hD⟩ := joinR hP hD hk9 (raw_free hDc Z.2.2.2.2.2.2.2.1 hS) hP1 hD1
  clear hPc hDc hP1 hD1 hk9
  have hS := hS1
  clear hS1
  generalize H1 = H at hP hS ⊢
  generalize locs1 = locs at hS ⊢
  refine lv_astore_n (lv' := [(2, .ref q), (1, .ref x), (0, .ref b)]) hx hb dL_law_15 rfl hl (by decide) rfl (fun ls hl => ?_)
  refine lv_iconst (v := 0) hx hb dL_law_16 (by decide) ?_
  refine lv_istore_n (lv' := [(3, .int 0), (2, .ref q), (1, .ref x), (0, .ref b)]) hx hb dL_law_17 rfl hl (by decide) rfl (fun ls hl => ?_)
  refine W.widen (k := 300) (n := 28000) (by decide) (by decide) ?_
  exact law_loop Z hX hbl hL _ 0 (by decide) (by decide) (Nat.lt_succ_self _) hIx hIq hP hD hS (lv_sub hl [3, 2, 1, 0] rfl)
-- ===== YOUR PART ENDS =====
set_option maxHeartbeats 4000000 in
theorem lw_walk (l : Launch) (b : Addr) (xs : List Int32) : MetFree l x (headSpec (Jvm.Cond.code x code maxLocals ret :: tables_1) room_1) (lw_P b xs) (fun _ _ _ _ _ => True) lw_Q := by
  refine MetFree.of_bodyS (code := code) (maxLocals := maxLocals) (ret := ret) (by decide) ?_ ?_
  · intro args s m h hn
    obtain ⟨meth, c, h1, h2, h3, h4, h5, h6, -, -⟩ := Cond.code_spec hn (atoms_spec (ws := Jvm.Cond.code x code maxLocals ret :: tables_1) h _ List.mem_cons_self)
    exact ⟨meth, c, h1, h2, h3, h4, h5, h6⟩
  · intro p e s m args below meth c s₁ B hml0 hP _
    obtain ⟨rfl, hx, hbd, hgv⟩ := hP
    obtain ⟨scr, harrAt, hlist, hof, hsmall⟩ := hx
    obtain ⟨hcb, hkn, -, -⟩ := State.arrayAt?_spec harrAt
    have hown : s.vm.findClass R_law = some m.cls := findClass_of_methodNamed B.named
    have hts0 : ∀ c ∈ (Jvm.Cond.code x code maxLocals ret :: tables_1), c.before #[Value.ref b] s = true := atoms_spec (ws := Jvm.Cond.code x code maxLocals ret :: tables_1) B.pre
    have hts : ∀ w ∈ lw_tbl, w.before #[Value.ref b] s = true := k2_hts_sels lw_privs (fun w hw => hts0 w (List.mem_cons_of_mem _ hw)) lw_privs_ok
    have hml : c.maxLocals = 4 := B.maxLocals_eq (hts0 _ List.mem_cons_self)
    have X₀ : Stand p l e room_1 s m #[Value.ref b] below meth c s₁ [] 0 0 := Stand.of_body B
    have hh0 : s₁.heap = s.heap := by rw [B.state]; rfl
    have hsz : scr.slots.size = xs.length := by rw [← Array.length_toList, hlist, List.length_map]
    have hval : ∀ j : Nat, j < xs.length → scr.slots[j]? = some (.int (xs.getD j 0)) := fun j hj => by
      rw [← Array.getElem?_toList, hlist]
      simp [hj]
    have hbl : b < s.heap.size := (Array.getElem?_eq_some_iff.mp hcb).1
    have hX : va_X b xs.length (fun j => xs.getD j 0) s s.heap := ⟨scr, hcb, hof, hkn, hsz, hval⟩
    have K : W p l e room_1 s m #[Value.ref b] below meth c s₁.heap [] 0 0 (lw_Z below #[Value.ref b] s) (entryFrame m ([Value.ref b] : List Value).toArray 4) := by
      rw [hh0]
      exact whole_start l hbd ⟨B.exec, B.bytes, B.returns, hml, hown, hts, hX, hbl, B.notSynchronized, hgv⟩
    obtain ⟨t, a1, o, b1, b2, b3⟩ := K s₁ rfl X₀
    exact ⟨t, o, a1, b1, b2, b3⟩
theorem lw_pre_spec {args : Array Value} {s : State} (h : (Jvm.Cond.and given_1 narrow_1).before args s = true) (hr : rest_1_c.before args s = true) : ∃ (b : Addr) (xs : List Int32), lw_P b xs args s := by
  have hs := flat_of_before _ h
  have hq := flat_of_before _ hr
  have hc : (Cond.count 1).before args s = true := hs _ (by decide +kernel)
  have harr : (Cond.arrayOf (.arg 0) .int).before args s = true := hs _ (by decide +kernel)
  have hle : (Cond.le (.length (.arg 0)) (.int 3072)).before args s = true := hs _ (by decide +kernel)
  have hlen : (Cond.isInt (.length (.arg 0))).before args s = true := hq _ (by decide +kernel)
  have hall : (Cond.all (.arg 0) (.isInt (.elem (.arg 0) (.index 0)))).before args s = true := hq _ (by decide +kernel)
  obtain ⟨b, xs, hb, hx⟩ := State.ints_of_pre rfl harr hlen hall
  have hsm : xs.length < 2 ^ 31 := hx.choose_spec.2.2.2
  have hev : (Term.length (.arg 0)).eval args s none [] s = some (.int xs.length.toInt32) := hx.length_eval hb
  have hv := Cond.le_ints hev (show (Term.int 3072).eval args s none [] s = some (.int 3072) from rfl)
  have hd : xs.length.toInt32 ≤ 3072 := by
    simpa [Cond.before, Cond.holds, hv] using hle
  have hN : xs.length ≤ 3072 := (Int32.ofNat_le_ofNat hsm (by decide)).mp (show Int32.ofNat xs.length ≤ Int32.ofNat 3072 from hd)
  exact ⟨b, xs, Cond.one_arg hc (show args[0]? = some (.ref b) from hb), hx, hN, h⟩
theorem lw_comes (l : Launch) : Comes l x (Jvm.Cond.code x code maxLocals ret :: tables_1) room_1 (fun tb e args s => Calls_1 tb e args s ∧ rest_1 tb e args s ∧ Pre_1 tb e args s)
    (fun _ _ args s o t => lw_Q args s o t) := by
  intro p e ha hc hk s m args below hf hfit hheap happ hpre
  obtain ⟨b, xs, hP⟩ := lw_pre_spec hpre.2.2 hpre.2.1
  obtain ⟨k, o, h1, h2, h3, hQ⟩ := lw_walk l b xs p e ha hc hk s m args below hf ((Spec.applies_iff_loose hf).mp happ).1 hP trivial
  exact ⟨k, o, h1, h2, h3, hQ⟩
theorem lw_frame {s t : State} {o : Outcome} {args : Array Value} (h : Framed s o t [] 600000 7302250) :
    Framed s o t (fieldLocs frame_1_writes args s ++ arrayLocs frame_1_arrays args s ++ staticLocs frame_1_statics s) 600000 7302250 := h
theorem lw_limb (L : Cond) (hL : ∀ (args : Array Value) (s t : State), L.after args s (.returned (some (.int 1))) t = true) :
    ArmFor flags0 classFile x code maxLocals ret World_1 tables_1 room_1 Calls_1 rest_1 Pre_1
      (fun tb e a s o t => postC L tb e a s o t ∧ Framed s o t (fieldLocs frame_1_writes a s ++ arrayLocs frame_1_arrays a s ++ staticLocs frame_1_statics s) 600000 7302250) := by
  intro l _ _ _ p e ha hc hk s m args below hf hfit hheap happ hpre
  obtain ⟨k, o, h1, h2, h3, rfl, hF⟩ := lw_comes l p e ha hc hk s m args below hf hfit hheap happ hpre
  exact ⟨k, _, h1, h2, h3, hL args s _, lw_frame hF⟩
theorem i_vc : Claimed_1_1 ∧ Claimed_1_2 := ⟨lw_limb limb_1_1 (fun args s t => by simp [limb_1_1, Cond.after, Cond.holds, Cond.value]), lw_limb limb_1_2 (fun args s t => Cond.after_iff.mpr (by
  first | (rw [show limb_1_2 = Cond.eq .result (.int 1) from rfl, Cond.eq_ints (x := 1) (y := 1) rfl rfl]; simp; done) | (simp [limb_1_2, Cond.value, Term.eval]; done)))⟩

