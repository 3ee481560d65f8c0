theorem updL_zero (k : Nat) : vp_updL (fun _ => (0 : Int64)) k 0 = fun _ => 0 := by
  funext j
  unfold vp_updL
  split <;> rfl
theorem pm_at {g : Nat → Int32} (h : ∀ i : Nat, i < 4 → g i = -1) {c : Int32} (hc : 0 ≤ c ∧ c < 4) : g c.toNatClampNeg = -1 := by
  obtain ⟨j, hj, ej⟩ := vp_in_of (x := c) (n := 4) (vp_in_iff.mpr (by simp only [Int32.lt_iff_toInt_lt, Int32.le_iff_toInt_le, Int32.reduceToInt] at *; omega)) (by decide)
  rw [ej, nI_clamp (by omega)]
  exact h j hj
/-- rows of b numbers, the c-th of them, from i on -/
theorem inb_ma (b k N i : Nat) {c : Int32} (h : 0 ≤ c ∧ c < nI k) (hk : k < 2 ^ 31) (hi : i < b) (hN : b * k ≤ N) (hs : N < 2 ^ 30) : vp_in (nI b * c + nI i) N := by
  obtain ⟨j, hj, ej⟩ : ∃ j : Nat, j < k ∧ c = nI j := by
    obtain ⟨h1, h2⟩ := h
    obtain ⟨j, hj, ej⟩ := nI_of (x := c) (by simp only [Int32.lt_iff_toInt_lt, Int32.le_iff_toInt_le] at *; omega)
    refine ⟨j, ?_, ej⟩
    rw [ej] at h2
    exact (nI_ltI hj hk).mp h2
  have hm : b * (j + 1) ≤ b * k := Nat.mul_le_mul_left b hj
  rw [Nat.mul_add] at hm
  rw [ej, pk_mul, nI_add]
  exact vp_in_nI (by omega) (by omega)
