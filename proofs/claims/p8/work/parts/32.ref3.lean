theorem zl_400000000 : (400000000 : Int32).toInt = 400000000 := by decide
theorem zl_100000000 : (100000000 : Int32).toInt = 100000000 := by decide
theorem or_tab : ∀ j, j < 6 → ∀ k, k < 64 → 0 ≤ ((nI k) ||| ((1 : Int32) <<< ((nI j) &&& 31))).toInt ∧ ((nI k) ||| ((1 : Int32) <<< ((nI j) &&& 31))).toInt < 64 := by decide +kernel
theorem or_lt {s j : Int32} (hs : 0 ≤ s.toInt ∧ s.toInt < 64) (hj : 0 ≤ j.toInt ∧ j.toInt < 6) : 0 ≤ (s ||| ((1 : Int32) <<< (j &&& 31))).toInt ∧ (s ||| ((1 : Int32) <<< (j &&& 31))).toInt < 64 := by
  obtain ⟨k, hk, rfl⟩ := nI_of (x := s) (by rw [Int32.lt_iff_toInt_lt, show (0 : Int32).toInt = 0 by decide]; omega)
  obtain ⟨i, hi, rfl⟩ := nI_of (x := j) (by rw [Int32.lt_iff_toInt_lt, show (0 : Int32).toInt = 0 by decide]; omega)
  have e1 := nI_toInt hk
  have e2 := nI_toInt hi
  exact or_tab i (by omega) k (by omega)
theorem zl_97 : (97 : Int32).toInt = 97 := by decide
theorem zl_122 : (122 : Int32).toInt = 122 := by decide
theorem zl_90 : (90 : Int32).toInt = 90 := by decide
