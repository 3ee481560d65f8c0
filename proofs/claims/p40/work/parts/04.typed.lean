/-! what a cell may hold: a typing T of addresses, kept by every method -/
def WT (T : Nat → va_E → Prop) (L : List Nat) (f : Nat → va_E) : Prop := ∀ a ∈ L, T a (f a)
theorem WT.up {T : Nat → va_E → Prop} {L : List Nat} {f f1 : Nat → va_E} {a : Nat} {e : va_E} {P : va_E → Prop} (h : WT T L f) (h1 : f1 a = e) (h2 : ∀ b, b ≠ a → f1 b = f b) (hT : T a = P) (ht : P e) : WT T L f1 := by
  intro b hb
  by_cases hba : b = a
  · rw [hba, h1, hT]
    exact ht
  · rw [h2 b hba]
    exact h b hb
theorem WT.at {T : Nat → va_E → Prop} {L : List Nat} {f : Nat → va_E} {a : Nat} {P : va_E → Prop} (h : WT T L f) (m : a ∈ L) (hT : T a = P) : P (f a) := by
  rw [← hT]
  exact h a m
def tI (E : Ez) (n : Nat) : va_E → Prop := fun e => ∃ g : Nat → Int32, e = aI E n g
def tJ (E : Ez) (n : Nat) : va_E → Prop := fun e => ∃ g : Nat → Int64, e = aJ E n g
def tB (E : Ez) (n : Nat) : va_E → Prop := fun e => ∃ g : Nat → Int32, e = aB E n g ∧ ∀ j, fits .byte (.int (g j)) = true
def tR (E : Ez) (t n : Nat) (g : Nat → Option Nat) : va_E → Prop := fun e => e = aR E t n g
def isI (T : Nat → va_E → Prop) (L : List Nat) (E : Ez) (n : Nat) (a : Nat) : Prop := a ∈ L ∧ T a = tI E n
def isJ (T : Nat → va_E → Prop) (L : List Nat) (E : Ez) (n : Nat) (a : Nat) : Prop := a ∈ L ∧ T a = tJ E n
def isB (T : Nat → va_E → Prop) (L : List Nat) (E : Ez) (n : Nat) (a : Nat) : Prop := a ∈ L ∧ T a = tB E n
theorem nar01 {x : Int32} (h : 0 ≤ x.toInt ∧ x.toInt ≤ 1) : narrow .boolean (.int x) = .int x := by
  have : x = 0 ∨ x = 1 := by
    simp only [Int32.reduceToInt, ← Int32.toInt_inj]
    omega
  rcases this with rfl | rfl <;> rfl
theorem add_v {a b v : Int32} (h : a + b = v) (h1 : -2147483648 ≤ a.toInt + b.toInt) (h2 : a.toInt + b.toInt ≤ 2147483647) : v.toInt = a.toInt + b.toInt := by
  rw [← h, Int32.toInt_add]
  exact Int.bmod_eq_of_le (by omega) (by omega)
theorem sub_v {a b v : Int32} (h : a - b = v) (h1 : -2147483648 ≤ a.toInt - b.toInt) (h2 : a.toInt - b.toInt ≤ 2147483647) : v.toInt = a.toInt - b.toInt := by
  rw [← h, Int32.toInt_sub]
  exact Int.bmod_eq_of_le (by omega) (by omega)
theorem mul_v {a b v : Int32} (A B C : Int) (h : a * b = v) (ha : 0 ≤ a.toInt ∧ a.toInt ≤ A) (hb : 0 ≤ b.toInt ∧ b.toInt ≤ B) (hC : A * B = C) (hC2 : C ≤ 2147483647) : v.toInt = a.toInt * b.toInt ∧ 0 ≤ v.toInt ∧ v.toInt ≤ C := by
  have h0 : 0 ≤ a.toInt * b.toInt := Int.mul_nonneg ha.1 hb.1
  have h1 : a.toInt * b.toInt ≤ A * B := Int.mul_le_mul ha.2 hb.2 hb.1 (Int.le_trans ha.1 ha.2)
  have e : v.toInt = a.toInt * b.toInt := by
    rw [← h, Int32.toInt_mul]
    exact Int.bmod_eq_of_le (by omega) (by omega)
  rw [e]
  exact ⟨rfl, h0, by omega⟩
theorem div_v {a b v : Int32} (h : a / b = v) (ha : 0 ≤ a.toInt) (hb : 1 ≤ b.toInt) : v.toInt = a.toInt / b.toInt ∧ 0 ≤ v.toInt ∧ v.toInt ≤ a.toInt := by
  have h0 : 0 ≤ a.toInt / b.toInt := Int.ediv_nonneg ha (by omega)
  have h1 : a.toInt / b.toInt ≤ a.toInt := Int.ediv_le_self _ ha
  have e : v.toInt = a.toInt / b.toInt := by
    have ht := Int32.toInt_lt a
    rw [← h, Int32.toInt_div, Int.tdiv_eq_ediv_of_nonneg ha]
    exact Int.bmod_eq_of_le (by omega) (by omega)
  rw [e]
  exact ⟨rfl, h0, h1⟩
theorem rem_v {a b v : Int32} (h : a - a / b * b = v) (ha : 0 ≤ a.toInt) (hb : 1 ≤ b.toInt) : v.toInt = a.toInt % b.toInt ∧ 0 ≤ v.toInt ∧ v.toInt < b.toInt := by
  obtain ⟨d1, d2, d3⟩ := div_v (a := a) (b := b) rfl ha hb
  have m0 := Int.emod_nonneg a.toInt (show b.toInt ≠ 0 by omega)
  have m1 := Int.emod_lt_of_pos a.toInt (show 0 < b.toInt by omega)
  have m2 := Int.mul_ediv_add_emod a.toInt b.toInt
  have hmul : (a / b * b).toInt = b.toInt * (a.toInt / b.toInt) := by
    have ht := Int32.toInt_lt a
    have hp := Int.mul_nonneg (show 0 ≤ b.toInt by omega) (show 0 ≤ a.toInt / b.toInt by omega)
    rw [Int32.toInt_mul, d1, Int.mul_comm]
    exact Int.bmod_eq_of_le (by omega) (by omega)
  have e : v.toInt = a.toInt % b.toInt := by
    have ht := Int32.toInt_lt a
    rw [← h, Int32.toInt_sub, hmul]
    have hq : a.toInt - b.toInt * (a.toInt / b.toInt) = a.toInt % b.toInt := by omega
    rw [hq]
    have ht2 := Int32.toInt_lt b
    exact Int.bmod_eq_of_le (by omega) (by omega)
  rw [e]
  exact ⟨rfl, m0, m1⟩
theorem and_v {a b v : Int32} (h : a &&& b = v) (hb : 0 ≤ b.toInt) : 0 ≤ v.toInt ∧ v.toInt ≤ b.toInt := by
  have e1 : v.toBitVec = a.toBitVec &&& b.toBitVec := by rw [← h]; rfl
  have e2 : v.toInt = v.toBitVec.toInt := rfl
  have e3 : b.toInt = b.toBitVec.toInt := rfl
  have hn : v.toBitVec.toNat ≤ b.toBitVec.toNat := by
    rw [e1, BitVec.toNat_and]
    exact Nat.and_le_right
  have hb1 := b.toBitVec.isLt
  rw [e3, BitVec.toInt_eq_toNat_cond] at hb
  rw [e2, e3, BitVec.toInt_eq_toNat_cond, BitVec.toInt_eq_toNat_cond]
  split at hb
  · rename_i hlt
    rw [if_pos hlt, if_pos (by omega)]
    omega
  · omega
theorem clamp_lt {x : Int32} {n : Nat} (h : vp_in x n) : x.toNatClampNeg < n := by
  have := vp_in_iff.mp h
  have hc : x.toNatClampNeg = x.toInt.toNat := rfl
  omega
theorem nar_fit (x : Int32) : fits .byte (.int (vp_nar .byte x)) = true := by
  exact fits_narrow_byte x
theorem fit_upd {g : Nat → Int32} {k : Nat} {x : Int32} (h : ∀ j, fits .byte (.int (g j)) = true) : ∀ j, fits .byte (.int (upd g k (vp_nar .byte x) j)) = true := by
  intro j
  unfold upd
  split
  · exact nar_fit x
  · exact h j
theorem fit_cpy {g g1 : Nat → Int32} {a b n : Nat} (h : ∀ j, fits .byte (.int (g j)) = true) (h1 : ∀ j, fits .byte (.int (g1 j)) = true) : ∀ j, fits .byte (.int (va_cpy g g1 a b n j)) = true := by
  intro j
  unfold va_cpy
  split
  · exact h _
  · exact h1 _
theorem cp_n {x : Int32} (h : 0 ≤ x.toInt) : ¬ x < 0 := by
  rw [Int32.lt_iff_toInt_lt]
  simp only [Int32.reduceToInt]
  omega
theorem cp_le {x y : Int32} {n : Nat} (h0 : 0 ≤ x.toInt) (h1 : 0 ≤ y.toInt) (h : x.toInt + y.toInt ≤ n) : x.toNatClampNeg + y.toNatClampNeg ≤ n := by
  have hc : x.toNatClampNeg = x.toInt.toNat := rfl
  have hd : y.toNatClampNeg = y.toInt.toNat := rfl
  omega
theorem min_v {x y v : Int32} (h : (if y < x then y else x) = v) : v.toInt ≤ x.toInt ∧ v.toInt ≤ y.toInt ∧ (v.toInt = x.toInt ∨ v.toInt = y.toInt) := by
  rw [← h]
  split <;> rename_i q <;> rw [Int32.lt_iff_toInt_lt] at q <;> omega
theorem max_v {x y v : Int32} (h : (if x < y then y else x) = v) : x.toInt ≤ v.toInt ∧ y.toInt ≤ v.toInt ∧ (v.toInt = x.toInt ∨ v.toInt = y.toInt) := by
  rw [← h]
  split <;> rename_i q <;> rw [Int32.lt_iff_toInt_lt] at q <;> omega
/-- what is not of these kinds stays -/
def FR (S : List Nat) (f f1 : Nat → va_E) : Prop := ∀ b, S.contains (kd (f b)) = false → f1 b = f b
theorem FR.rf {S : List Nat} {f : Nat → va_E} : FR S f f := fun _ _ => rfl
theorem FR.tr {S S1 : List Nat} {f f1 f2 : Nat → va_E} (h : FR S f f1) (h1 : FR S1 f1 f2) : FR (S ++ S1) f f2 := by
  intro b hb
  have hb2 : (S.contains (kd (f b)) || S1.contains (kd (f b))) = false := by rw [← List.contains_append]; exact hb
  rw [Bool.or_eq_false_iff] at hb2
  have e := h b hb2.1
  rw [h1 b (by rw [e]; exact hb2.2), e]
theorem FR.mono {S S1 : List Nat} {f f1 : Nat → va_E} (h : FR S f f1) (hs : S.all (fun k => S1.contains k) = true) : FR S1 f f1 := by
  intro b hb
  refine h b ?_
  cases hc : S.contains (kd (f b)) with
  | false => rfl
  | true =>
    have hm : kd (f b) ∈ S := List.contains_iff_mem.mp hc
    have := List.all_eq_true.mp hs _ hm
    rw [this] at hb
    cases hb
theorem FR.w {f f1 : Nat → va_E} {a k : Nat} {x : va_E} (h2 : ∀ b, b ≠ a → f1 b = f b) (e : f a = x) (hk : kd x = k) : FR [k] f f1 := by
  intro b hb
  refine h2 b (fun h => ?_)
  subst h
  rw [e, hk] at hb
  simp at hb
theorem FR.at {S : List Nat} {f f1 : Nat → va_E} {b : Nat} {x : va_E} (h : FR S f f1) (e : f b = x) (hk : S.contains (kd x) = false) : f1 b = x := by
  rw [← e] at hk
  rw [h b hk, e]
/-- an int field of a cell -/
def fld (e : va_E) (k : Nat) : Int := match e with
  | .inr (_, fs) => match fs[k]? with
    | some (.int v) => v.toInt
    | _ => 0
  | _ => 0
theorem str_len : ∀ i, i < 77 → (bytStr.getD i []).length ≤ 40 := by decide +kernel
theorem len_v {i : Nat} (h : i < 77) : 0 ≤ (nI (bytStr.getD i []).length).toInt ∧ (nI (bytStr.getD i []).length).toInt ≤ 40 ∧ (nI (bytStr.getD i []).length).toInt = (bytStr.getD i []).length := by
  have h1 := str_len i h
  have e : (nI (bytStr.getD i []).length).toInt = (bytStr.getD i []).length := by
    exact Int32.toInt_ofNat_of_lt (by omega)
  omega
def tTape (q0 : Nat) : va_E → Prop := fun e => ∃ v1 v2 v3 v4 v5 v6 : Int32, e = ob 7 [.ref q0, .int v1, .int v2, .int v3, .int v4, .int v5, .int v6] ∧ (0 ≤ v1.toInt ∧ v1.toInt ≤ 600) ∧ (0 ≤ v3.toInt ∧ v3.toInt ≤ 600) ∧ (0 ≤ v4.toInt ∧ v4.toInt ≤ 600)
def tPat (q0 q1 : Nat) : va_E → Prop := fun e => ∃ v1 v2 v3 : Int32, e = ob 4 [.ref q0, .ref q1, .int v1, .int v2, .int v3] ∧ (0 ≤ v1.toInt ∧ v1.toInt ≤ 16) ∧ (0 ≤ v2.toInt ∧ v2.toInt ≤ 16) ∧ (0 ≤ v3.toInt ∧ v3.toInt ≤ 256)
def tWay : va_E → Prop := fun e => ∃ v1 v2 v3 v4 v5 v6 v7 : Int32, e = ob 10 [.int v1, .int v2, .int v3, .int v4, .int v5, .int v6, .int v7] ∧ (0 ≤ v1.toInt ∧ v1.toInt ≤ 1) ∧ (1 ≤ v4.toInt ∧ v4.toInt ≤ 5) ∧ (1 ≤ v5.toInt ∧ v5.toInt ≤ 5) ∧ (0 ≤ v6.toInt ∧ v6.toInt ≤ 1) ∧ (0 ≤ v7.toInt ∧ v7.toInt ≤ 1)
def tWat (q0 : Nat) : va_E → Prop := fun e => ∃ v1 v2 : Int32, e = ob 9 [.ref q0, .int v1, .int v2] ∧ (0 ≤ v1.toInt ∧ v1.toInt ≤ 300)
def tLos (q0 q1 q2 : Nat) : va_E → Prop := fun e => ∃ v1 : Int32, e = ob 3 [.ref q0, .ref q1, .ref q2, .int v1] ∧ (0 ≤ v1.toInt ∧ v1.toInt ≤ 12)
def tLet (q0 : Nat) : va_E → Prop := fun e => ∃ v1 : Int32, e = ob 2 [.ref q0, .int v1] ∧ (0 ≤ v1.toInt ∧ v1.toInt ≤ 51)
def tClo (q0 : Nat) : va_E → Prop := fun e => ∃ v1 : Int32, e = ob 1 [.ref q0, .int v1] ∧ (0 ≤ v1.toInt ∧ v1.toInt ≤ 1)
def tWalk (q0 : Nat) : va_E → Prop := fun e => ∃ v1 v2 v3 v4 : Int32, e = ob 8 [.ref q0, .int v1, .int v2, .int v3, .int v4] ∧ (0 ≤ v1.toInt ∧ v1.toInt ≤ 256) ∧ (1 ≤ v2.toInt ∧ v2.toInt ≤ 5) ∧ (1 ≤ v3.toInt ∧ v3.toInt ≤ 5) ∧ (0 ≤ v4.toInt ∧ v4.toInt ≤ 256)
def tTal (q0 q1 q2 q3 q4 : Nat) : va_E → Prop := fun e => ∃ v1 v2 v3 v4 v5 : Int32, e = ob 6 [.ref q0, .ref q1, .ref q2, .ref q3, .ref q4, .int v1, .int v2, .int v3, .int v4, .int v5] ∧ (0 ≤ v2.toInt ∧ v2.toInt ≤ 16) ∧ (0 ≤ v3.toInt ∧ v3.toInt ≤ 256)
def tSlot (q0 : Nat) : va_E → Prop := fun e => ∃ v1 v2 : Int32, e = ob 5 [.ref q0, .int v1, .int v2] ∧ ((-1) ≤ v1.toInt ∧ v1.toInt ≤ 3) ∧ (0 ≤ v2.toInt ∧ v2.toInt ≤ 60)
def tBas (q0 q1 q2 q3 q4 q5 : Nat) : va_E → Prop := fun e => e = ob 0 [.ref q0, .ref q1, .ref q2, .ref q3, .ref q4, .ref q5]
def tX (q0 q1 q2 q3 q4 q5 q6 q7 q8 q9 q10 q11 q12 q13 : Nat) : va_E → Prop := fun e => e = ob 11 [.ref q0, .ref q1, .ref q2, .ref q3, .ref q4, .ref q5, .ref q6, .ref q7, .ref q8, .ref q9, .ref q10, .ref q11, .ref q12, .ref q13]
def isTape (T : Nat → va_E → Prop) (L : List Nat) (E : Ez) (a : Nat) : Prop := a ∈ L ∧ ∃ q0 : Nat, T a = tTape q0 ∧ isI T L E 600 q0
def isPat (T : Nat → va_E → Prop) (L : List Nat) (E : Ez) (a : Nat) : Prop := a ∈ L ∧ ∃ q0 q1 : Nat, T a = tPat q0 q1 ∧ isI T L E 256 q0 ∧ isI T L E 256 q1
def isWay (T : Nat → va_E → Prop) (L : List Nat) (E : Ez) (a : Nat) : Prop := a ∈ L ∧ T a = tWay
def isWat (T : Nat → va_E → Prop) (L : List Nat) (E : Ez) (a : Nat) : Prop := a ∈ L ∧ ∃ q0 : Nat, T a = tWat q0 ∧ isI T L E 300 q0
def isLos (T : Nat → va_E → Prop) (L : List Nat) (E : Ez) (a : Nat) : Prop := a ∈ L ∧ ∃ q0 q1 q2 : Nat, T a = tLos q0 q1 q2 ∧ isI T L E 12 q0 ∧ isI T L E 12 q1 ∧ isI T L E 12 q2
def isLet (T : Nat → va_E → Prop) (L : List Nat) (E : Ez) (a : Nat) : Prop := a ∈ L ∧ ∃ q0 : Nat, T a = tLet q0 ∧ isI T L E 51 q0
def isClo (T : Nat → va_E → Prop) (L : List Nat) (E : Ez) (a : Nat) : Prop := a ∈ L ∧ ∃ q0 : Nat, T a = tClo q0 ∧ isB T L E 256 q0
def isWalk (T : Nat → va_E → Prop) (L : List Nat) (E : Ez) (a : Nat) : Prop := a ∈ L ∧ ∃ q0 : Nat, T a = tWalk q0 ∧ isI T L E 256 q0
def isTal (T : Nat → va_E → Prop) (L : List Nat) (E : Ez) (a : Nat) : Prop := a ∈ L ∧ ∃ q0 q1 q2 q3 q4 : Nat, T a = tTal q0 q1 q2 q3 q4 ∧ isClo T L E q0 ∧ isI T L E 5 q1 ∧ isI T L E 16 q2 ∧ isI T L E 256 q3 ∧ isI T L E 256 q4
def isSlot (T : Nat → va_E → Prop) (L : List Nat) (E : Ez) (a : Nat) : Prop := a ∈ L ∧ ∃ q0 : Nat, T a = tSlot q0 ∧ isJ T L E 60 q0
def isRWay (T : Nat → va_E → Prop) (L : List Nat) (E : Ez) (a : Nat) : Prop := a ∈ L ∧ ∃ g : Nat → Option Nat, T a = tR E 7 6 g ∧ ∀ k : Nat, k < 6 → ∃ w : Nat, g k = some w ∧ isWay T L E w
def isRClo (T : Nat → va_E → Prop) (L : List Nat) (E : Ez) (a : Nat) : Prop := a ∈ L ∧ ∃ g : Nat → Option Nat, T a = tR E 5 4 g ∧ ∀ k : Nat, k < 4 → ∃ w : Nat, g k = some w ∧ isClo T L E w
def isBas (T : Nat → va_E → Prop) (L : List Nat) (E : Ez) (a : Nat) : Prop := a ∈ L ∧ ∃ q0 q1 q2 q3 q4 q5 : Nat, T a = tBas q0 q1 q2 q3 q4 q5 ∧ isPat T L E q0 ∧ isI T L E 3 q1 ∧ isRWay T L E q2 ∧ isWat T L E q3 ∧ isLos T L E q4 ∧ isRClo T L E q5
def isRImg (T : Nat → va_E → Prop) (L : List Nat) (E : Ez) (a : Nat) : Prop := a ∈ L ∧ ∃ g : Nat → Option Nat, T a = tR E 4 3 g ∧ ∀ k : Nat, k < 3 → g k = none ∨ ∃ w : Nat, g k = some w ∧ isBas T L E w
def isRSlot (T : Nat → va_E → Prop) (L : List Nat) (E : Ez) (a : Nat) : Prop := a ∈ L ∧ ∃ g : Nat → Option Nat, T a = tR E 6 4 g ∧ ∀ k : Nat, k < 4 → ∃ w : Nat, g k = some w ∧ isSlot T L E w
def isX (T : Nat → va_E → Prop) (L : List Nat) (E : Ez) (a : Nat) : Prop := a ∈ L ∧ ∃ q0 q1 q2 q3 q4 q5 q6 q7 q8 q9 q10 q11 q12 q13 : Nat, T a = tX q0 q1 q2 q3 q4 q5 q6 q7 q8 q9 q10 q11 q12 q13 ∧ isTape T L E q0 ∧ isBas T L E q1 ∧ isRImg T L E q2 ∧ isLet T L E q3 ∧ isRSlot T L E q4 ∧ isPat T L E q5 ∧ isI T L E 3 q6 ∧ isWay T L E q7 ∧ isWat T L E q8 ∧ isLos T L E q9 ∧ isLet T L E q10 ∧ isWalk T L E q11 ∧ isClo T L E q12 ∧ isTal T L E q13
