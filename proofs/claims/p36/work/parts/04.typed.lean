/-! what a cell may hold: a typing T of addresses, kept by every method -/
def WT (T : Nat → va_E → Prop) (L : List Nat) (f : Nat → va_E) : Prop := ∀ a ∈ L, T a (f a)
theorem WT.up {T : Nat → va_E → Prop} {L : List Nat} {f f1 : Nat → va_E} {a : Nat} {e : va_E} {P : va_E → Prop} (h : WT T L f) (h1 : f1 a = e) (h2 : ∀ b, b ≠ a → f1 b = f b) (hT : T a = P) (ht : P e) : WT T L f1 := by
  intro b hb
  by_cases hba : b = a
  · rw [hba, h1, hT]
    exact ht
  · rw [h2 b hba]
    exact h b hb
theorem WT.at {T : Nat → va_E → Prop} {L : List Nat} {f : Nat → va_E} {a : Nat} {P : va_E → Prop} (h : WT T L f) (m : a ∈ L) (hT : T a = P) : P (f a) := by
  rw [← hT]
  exact h a m
def tI (E : Ez) (n : Nat) : va_E → Prop := fun e => ∃ g : Nat → Int32, e = aI E n g
def tJ (E : Ez) (n : Nat) : va_E → Prop := fun e => ∃ g : Nat → Int64, e = aJ E n g
def tB (E : Ez) (n : Nat) : va_E → Prop := fun e => ∃ g : Nat → Int32, e = aB E n g ∧ ∀ j, fits .byte (.int (g j)) = true
def tR (E : Ez) (t n : Nat) (g : Nat → Option Nat) : va_E → Prop := fun e => e = aR E t n g
theorem nar01 {x : Int32} (h0 : 0 ≤ x) (h1 : x ≤ 1) : narrow .boolean (.int x) = .int x := by
  have : x = 0 ∨ x = 1 := by
    simp only [Int32.le_iff_toInt_le, Int32.reduceToInt, ← Int32.toInt_inj] at *
    omega
  rcases this with rfl | rfl <;> rfl
theorem add_toInt {a b : Int32} (h1 : -2147483648 ≤ a.toInt + b.toInt) (h2 : a.toInt + b.toInt ≤ 2147483647) : (a + b).toInt = a.toInt + b.toInt := by
  rw [Int32.toInt_add]
  exact Int.bmod_eq_of_le (by omega) (by omega)
theorem sub_toInt {a b : Int32} (h1 : -2147483648 ≤ a.toInt - b.toInt) (h2 : a.toInt - b.toInt ≤ 2147483647) : (a - b).toInt = a.toInt - b.toInt := by
  rw [Int32.toInt_sub]
  exact Int.bmod_eq_of_le (by omega) (by omega)
theorem mul_toInt {a b : Int32} (h1 : -2147483648 ≤ a.toInt * b.toInt) (h2 : a.toInt * b.toInt ≤ 2147483647) : (a * b).toInt = a.toInt * b.toInt := by
  rw [Int32.toInt_mul]
  exact Int.bmod_eq_of_le (by omega) (by omega)
theorem mul_bd {a b : Int} {A B : Int} (h0 : 0 ≤ a) (h1 : a ≤ A) (h2 : 0 ≤ b) (h3 : b ≤ B) : 0 ≤ a * b ∧ a * b ≤ A * B := ⟨Int.mul_nonneg h0 h2, Int.mul_le_mul h1 h3 h2 (Int.le_trans h0 h1)⟩
def tTape (q : Nat) : va_E → Prop := fun e => ∃ v1 v2 v3 v4 v5 v6 : Int32, e = ob 7 [.ref q, .int v1, .int v2, .int v3, .int v4, .int v5, .int v6] ∧ (0 ≤ v1 ∧ v1 ≤ 600) ∧ (0 ≤ v3 ∧ v3 ≤ 600) ∧ (0 ≤ v4 ∧ v4 ≤ 600)
def tPat (q1 : Nat) (q2 : Nat) : va_E → Prop := fun e => ∃ v1 v2 v3 : Int32, e = ob 4 [.ref q1, .ref q2, .int v1, .int v2, .int v3] ∧ (0 ≤ v1 ∧ v1 ≤ 16) ∧ (0 ≤ v2 ∧ v2 ≤ 16) ∧ (0 ≤ v3 ∧ v3 ≤ 256)
def tWay : va_E → Prop := fun e => ∃ v1 v2 v3 v4 v5 v6 v7 : Int32, e = ob 10 [.int v1, .int v2, .int v3, .int v4, .int v5, .int v6, .int v7] ∧ (0 ≤ v1 ∧ v1 ≤ 1) ∧ (1 ≤ v3 ∧ v3 ≤ 9) ∧ (1 ≤ v4 ∧ v4 ≤ 5) ∧ (1 ≤ v5 ∧ v5 ≤ 5) ∧ (0 ≤ v6 ∧ v6 ≤ 1) ∧ (0 ≤ v7 ∧ v7 ≤ 1)
def tWat (q : Nat) : va_E → Prop := fun e => ∃ v1 v2 : Int32, e = ob 9 [.ref q, .int v1, .int v2] ∧ (0 ≤ v1 ∧ v1 ≤ 300)
def tLos (q1 : Nat) (q2 : Nat) (q3 : Nat) : va_E → Prop := fun e => ∃ v1 : Int32, e = ob 3 [.ref q1, .ref q2, .ref q3, .int v1] ∧ (0 ≤ v1 ∧ v1 ≤ 12)
def tLet (q : Nat) : va_E → Prop := fun e => ∃ v1 : Int32, e = ob 2 [.ref q, .int v1] ∧ (0 ≤ v1 ∧ v1 ≤ 51)
def tClo (q : Nat) : va_E → Prop := fun e => ∃ v1 : Int32, e = ob 1 [.ref q, .int v1] ∧ (0 ≤ v1 ∧ v1 ≤ 1)
def tWalk (q : Nat) : va_E → Prop := fun e => ∃ v1 v2 v3 v4 : Int32, e = ob 8 [.ref q, .int v1, .int v2, .int v3, .int v4] ∧ (0 ≤ v1 ∧ v1 ≤ 256) ∧ (1 ≤ v2 ∧ v2 ≤ 5) ∧ (1 ≤ v3 ∧ v3 ≤ 5) ∧ (0 ≤ v4 ∧ v4 ≤ 256)
def tTal (q1 : Nat) (q2 : Nat) (q3 : Nat) (q4 : Nat) (q5 : Nat) : va_E → Prop := fun e => ∃ v1 v2 v3 v4 v5 : Int32, e = ob 6 [.ref q1, .ref q2, .ref q3, .ref q4, .ref q5, .int v1, .int v2, .int v3, .int v4, .int v5] ∧ (0 ≤ v2 ∧ v2 ≤ 16) ∧ (0 ≤ v3 ∧ v3 ≤ 256)
def tSlot (q : Nat) : va_E → Prop := fun e => ∃ v1 v2 : Int32, e = ob 5 [.ref q, .int v1, .int v2] ∧ ((-1) ≤ v1 ∧ v1 ≤ 3) ∧ (0 ≤ v2 ∧ v2 ≤ 60)
def tBas (q1 : Nat) (q2 : Nat) (q3 : Nat) (q4 : Nat) (q5 : Nat) (q6 : Nat) : va_E → Prop := fun e => e = ob 0 [.ref q1, .ref q2, .ref q3, .ref q4, .ref q5, .ref q6]
def tX (q1 : Nat) (q2 : Nat) (q3 : Nat) (q4 : Nat) (q5 : Nat) (q6 : Nat) (q7 : Nat) (q8 : Nat) (q9 : Nat) (q10 : Nat) (q11 : Nat) (q12 : Nat) (q13 : Nat) (q14 : Nat) : va_E → Prop := fun e => e = ob 11 [.ref q1, .ref q2, .ref q3, .ref q4, .ref q5, .ref q6, .ref q7, .ref q8, .ref q9, .ref q10, .ref q11, .ref q12, .ref q13, .ref q14]
