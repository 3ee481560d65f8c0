theorem inb_am1 (c : Nat) {k : Int32} (h : 0 ≤ k ∧ k < 6) (hc : c < 7) : vp_in (120 + 7 * k + nI c) 2076 := by
  obtain ⟨j, hj, ej⟩ := vp_in_of (x := k) (n := 6) (vp_in_iff.mpr (by simp only [Int32.lt_iff_toInt_lt, Int32.le_iff_toInt_le, Int32.reduceToInt] at *; omega)) (by decide)
  rw [ej, show (120 : Int32) = nI 120 from rfl, show (7 : Int32) = nI 7 from rfl, pk_mul, nI_add, nI_add]
  exact vp_in_nI (by omega) (by decide)
