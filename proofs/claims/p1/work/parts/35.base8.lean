def kd2 : va_E → Nat
  | .inr o => o.1
  | .inl (_, n, .inl _) => 1000 + n
  | .inl (_, n, .inr (.inl _)) => 20000 + n
  | .inl (_, n, .inr (.inr (.inr (.inr _)))) => 40000 + n
  | .inl (_, n, _) => 60000 + n
theorem FB.keep2 {E : Ez} {b : Nat} {L L1 : List Nat} {f f1 : Nat → va_E} (h : FB E b L f) (hk : ∀ a ∈ L, kd2 (f a) ≠ 40003 → a ∈ L1 ∧ f1 a = f a) : FB E b L1 f1 := by
  obtain ⟨pa, pas, paf, sh, wy, wt, wtc, lo, lok, lof, los, cl, gwy, gcl, ⟨m0, e0⟩, ⟨m1, e1⟩, ⟨m2, e2⟩, ⟨m3, e3⟩, ⟨m4, e4⟩, ⟨m5, e5⟩, ⟨m6, e6⟩, ⟨m7, e7⟩, ⟨m8, e8⟩, ⟨m9, e9⟩, ⟨m10, e10⟩, ⟨m11, e11⟩, ⟨m12, e12⟩, pwy, pcl⟩ := h
  have k : ∀ {a : Nat} {e : va_E}, a ∈ L → f a = e → kd2 e ≠ 40003 → a ∈ L1 ∧ f1 a = e := fun m e h => by
    have q := hk _ m (by rw [e]; exact h)
    exact ⟨q.1, q.2.trans e⟩
  refine ⟨pa, pas, paf, sh, wy, wt, wtc, lo, lok, lof, los, cl, gwy, gcl, k m0 e0 (Nat.ne_of_beq_eq_false rfl), k m1 e1 (Nat.ne_of_beq_eq_false rfl), k m2 e2 (Nat.ne_of_beq_eq_false rfl), k m3 e3 (Nat.ne_of_beq_eq_false rfl), k m4 e4 (Nat.ne_of_beq_eq_false rfl), k m5 e5 (Nat.ne_of_beq_eq_false rfl), k m6 e6 (Nat.ne_of_beq_eq_false rfl), k m7 e7 (Nat.ne_of_beq_eq_false rfl), k m8 e8 (Nat.ne_of_beq_eq_false rfl), k m9 e9 (Nat.ne_of_beq_eq_false rfl), k m10 e10 (Nat.ne_of_beq_eq_false rfl), k m11 e11 (Nat.ne_of_beq_eq_false rfl), k m12 e12 (Nat.ne_of_beq_eq_false rfl), fun i hi => ?_, fun i hi => ?_⟩
  · obtain ⟨q, h1, h2, h3⟩ := pwy i hi
    exact ⟨q, h1, k h2 h3 (Nat.ne_of_beq_eq_false rfl)⟩
  · obtain ⟨q, s, h1, ⟨h2, h3⟩, h4, h5⟩ := pcl i hi
    exact ⟨q, s, h1, k h2 h3 (Nat.ne_of_beq_eq_false rfl), k h4 h5 (Nat.ne_of_beq_eq_false rfl)⟩
theorem FB.obj {E : Ez} {b : Nat} {L : List Nat} {f : Nat → va_E} (h : FB E b L f) : b ∈ L ∧ ∃ v1 v2 v3 v4 v5 v6 : Nat, f b = ob 0 [.ref v1, .ref v2, .ref v3, .ref v4, .ref v5, .ref v6] := by
  obtain ⟨pa, pas, paf, sh, wy, wt, wtc, lo, lok, lof, los, cl, gwy, gcl, ⟨m0, e0⟩, -⟩ := h
  exact ⟨m0, pa, sh, wy, wt, lo, cl, e0⟩
