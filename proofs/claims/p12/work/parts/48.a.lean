set_option maxRecDepth 100000 in
set_option maxHeartbeats 4000000 in
theorem law_SW {s : State} {args : Array Value} (hts : ∀ w ∈ lw_tbl, w.before args s = true) (hgv : (Jvm.Cond.and given_1 narrow_1).before args s = true) {A : Nat → Prop} (hA : ∀ a : Nat, a < s.heap.size → ¬ A a) : SWA A s s.heap := by
  have hs := flat_of_before _ hgv
  have h01 : ∀ i : Nat, i < 2 → i = 0 ∨ i = 1 := fun i hi => by omega
  obtain ⟨adK, adV, h1, h2⟩ := vk_Sof (args := args) (s := s) (N := 2) (tm := (fun i : Nat => if i = 0 then Term.string RX7 66 else Term.string RX7 73)) (len := lenS) (byt := bytS) (A := A)
    (fun i hi => by rcases h01 i hi with rfl | rfl <;> decide)
    (fun i hi => by rcases h01 i hi with rfl | rfl <;> exact hs _ (by decide +kernel))
    (fun i hi => by rcases h01 i hi with rfl | rfl <;> exact hs _ (by decide +kernel))
    (fun i hi => by rcases h01 i hi with rfl | rfl <;> exact hs _ (by decide +kernel))
    (fun i hi => by rcases h01 i hi with rfl | rfl <;> exact hs _ (by decide +kernel))
    (fun i hi j hj => by
      rcases h01 i hi with rfl | rfl
      · exact hs _ ((by decide +kernel : ∀ j : Nat, j < 13 → Cond.eq (.elem (.field (Term.string RX7 66) "java/lang/String" "value" "[B") (.int (Int32.ofNat j))) (.int ((bytS.getD 0 []).getD j 0)) ∈ _) j hj)
      · exact hs _ ((by decide +kernel : ∀ j : Nat, j < 88 → Cond.eq (.elem (.field (Term.string RX7 73) "java/lang/String" "value" "[B") (.int (Int32.ofNat j))) (.int ((bytS.getD 1 []).getD j 0)) ∈ _) j hj))
    (fun i j hi hj hne => by
      rcases h01 i hi with rfl | rfl <;> rcases h01 j hj with rfl | rfl
      · exact absurd rfl hne
      · first | exact Or.inl (hs _ (by decide +kernel)) | exact Or.inr (hs _ (by decide +kernel))
      · first | exact Or.inl (hs _ (by decide +kernel)) | exact Or.inr (hs _ (by decide +kernel))
      · exact absurd rfl hne) hA
  refine ⟨adK, adV, h1, vk_R.of (hts (.stringRef RX7 66 "<>=#+-*/();?:") (by decide +kernel)) (h2 0 (by decide)), vk_R.of (hts (.stringRef RX7 73 "steps stride oats drive pass if end or and not horse count shoe day mud place step gone ") (by decide +kernel)) (h2 1 (by decide)), ?_, ?_⟩
  · exact va_Zof (hts _ (by decide +kernel)) (hts _ (by decide +kernel)) (va_eqt (hs (.eq (.static "java/lang/String" "COMPACT_STRINGS" "Z") (.int 1)) (by decide +kernel))) hA
  · exact va_Zqof (hts _ (by decide +kernel)) (hts _ (by decide +kernel)) (hs _ (by decide +kernel)) hA

theorem rng_0 {lo hi : Int} {n : Nat} (h1 : lo ≤ 0) (h2 : 0 ≤ hi) : Rng lo hi n (fun _ => 0) := by
  intro j _
  have e : (0 : Int32).toInt = 0 := by decide
  show lo ≤ (0 : Int32).toInt ∧ (0 : Int32).toInt ≤ hi
  rw [e]
  exact ⟨h1, h2⟩
theorem af0_at {j : Nat} (h5 : j ≠ 5) (h7 : j ≠ 7) : af0 j = 0 := by
  have e5 : (5 : Int32).toNatClampNeg = 5 := by decide
  have e7 : (7 : Int32).toNatClampNeg = 7 := by decide
  unfold af0
  rw [e5, e7]
  unfold upd
  rw [if_neg h5, if_neg h7]
theorem ak_0 : AK 0 0 0 0 0 af0 := by
  refine ⟨by decide, by decide, by decide, by decide, by decide, by decide, by decide, fun j hj => ?_⟩
  by_cases h5 : j = 5
  · subst h5
    unfold RAi
    refine ⟨fun h => ?_, fun h => ?_, fun h => ?_, fun h => ?_, fun h => ?_, fun h => ?_, fun h => ?_, fun h => ?_, fun h => ?_, fun h => ?_, fun h => ?_, fun h => ?_⟩ <;> (exfalso; omega)
  by_cases h7 : j = 7
  · subst h7
    unfold RAi
    refine ⟨fun h => ?_, fun h => ?_, fun h => ?_, fun h => ?_, fun h => ?_, fun h => ?_, fun h => ?_, fun h => ?_, fun h => ?_, fun h => ?_, fun h => ?_, fun h => ?_⟩ <;> (exfalso; omega)
  rw [af0_at h5 h7]
  have e : (0 : Int32).toInt = 0 := by decide
  unfold RAi
  rw [e]
  refine ⟨fun h => ?_, fun h => ?_, fun h => ?_, fun h => ?_, fun h => ?_, fun h => ?_, fun h => ?_, fun h => ?_, fun h => ?_, fun h => ?_, fun h => ?_, fun h => ?_⟩ <;> decide
theorem tok_0 {t : Nat → Int32} : TOK 0 t := fun k hk => by omega
theorem nk_0 : NK (fun _ => 0) := ⟨⟨by decide, by decide⟩, ⟨by decide, by decide⟩, ⟨by decide, by decide⟩⟩
