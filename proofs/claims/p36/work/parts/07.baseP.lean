/-! the reference's tape -/
def bat (t : va_E) (k : Nat) : Int32 := match t with
  | .inl (_, _, .inl g) => g k
  | _ => 0
def sv (e t : va_E) (k : Int32) : Int32 := if k.toInt < fld e 7 then bat t k.toNatClampNeg &&& 255 else -1
theorem sv_b (e t : va_E) (k : Int32) : (-1 ≤ (sv e t k).toInt ∧ (sv e t k).toInt ≤ 255) ∧ ((sv e t k).toInt = -1 ∨ k.toInt < fld e 7) := by
  unfold sv
  split
  · rename_i h
    have := and_v (a := bat t k.toNatClampNeg) (b := 255) rfl (by decide)
    have e : (255 : Int32).toInt = 255 := by decide
    omega
  · have e : (-1 : Int32).toInt = -1 := by decide
    omega
theorem sv_in {e t : va_E} {E : Ez} {n : Nat} {g : Nat → Int32} {k x v : Int32} (h : k.toInt < fld e 7) (ht : t = aB E n g) (hx : g k.toNatClampNeg = x) (hv : x &&& 255 = v) : v = sv e t k := by
  unfold sv
  rw [if_pos h, ht, ← hv, ← hx]
  rfl
theorem sv_out {e t : va_E} {k : Int32} (h : ¬ k.toInt < fld e 7) : -1 = sv e t k := by
  unfold sv
  rw [if_neg h]
def chv (i : Nat) (k : Int32) : Int32 := (((((bytStr.getD i []).getD k.toNatClampNeg 0) &&& 255).toUInt32) % 65536).toInt32
def iwP (e t : va_E) (i : Nat) : Prop := fld e 12 = 0 ∧ fld e 10 = 1 ∧ fld e 8 - fld e 9 = ((bytStr.getD i []).length : Int) ∧ ∀ k : Nat, k < (bytStr.getD i []).length → bat t ((fld e 9).toNat + k) = chv i (nI k)
def iwD (e t : va_E) (i : Nat) : Decidable (iwP e t i) := by
  unfold iwP
  infer_instance
def iw (e t : va_E) (i : Nat) : Int32 := @ite _ (iwP e t i) (iwD e t i) 1 0
theorem iw_b (e t : va_E) (i : Nat) : (0 ≤ (iw e t i).toInt ∧ (iw e t i).toInt ≤ 1) ∧ ((iw e t i).toInt = 0 ∨ (fld e 12 = 0 ∧ fld e 10 = 1 ∧ fld e 8 - fld e 9 = ((bytStr.getD i []).length : Int))) := by
  have e0 : (0 : Int32).toInt = 0 := by decide
  have e1 : (1 : Int32).toInt = 1 := by decide
  unfold iw
  split
  · rename_i h
    rw [e1]
    exact ⟨by decide, .inr ⟨h.1, h.2.1, h.2.2.1⟩⟩
  · rw [e0]
    exact ⟨by decide, .inl rfl⟩
def IWI (e t : va_E) (i : Nat) (b k : Int32) : Prop := (b.toInt = 1 ∧ fld e 12 = 0 ∧ fld e 10 = 1 ∧ fld e 8 - fld e 9 = ((bytStr.getD i []).length : Int) ∧ ∀ j : Nat, (j : Int) < k.toInt → bat t ((fld e 9).toNat + j) = chv i (nI j)) ∨ (b.toInt = 0 ∧ ¬ iwP e t i)
theorem IWI.s1 {e t : va_E} {i : Nat} (h1 : fld e 12 = 0) (h2 : fld e 10 = 1) (h3 : fld e 8 - fld e 9 = ((bytStr.getD i []).length : Int)) : IWI e t i 1 0 := .inl ⟨by decide, h1, h2, h3, fun j h => absurd h (by simp only [Int32.reduceToInt]; omega)⟩
theorem IWI.s0 {e t : va_E} {i : Nat} (h : ¬ (fld e 12 = 0 ∧ fld e 10 = 1 ∧ fld e 8 - fld e 9 = ((bytStr.getD i []).length : Int))) : IWI e t i 0 0 := .inr ⟨by decide, fun q => h ⟨q.1, q.2.1, q.2.2.1⟩⟩
theorem IWI.yes {e t : va_E} {i : Nat} {b k k1 : Int32} (h : IWI e t i b k) (hb : ¬ b.toInt = 0) (h0 : 0 ≤ k.toInt) (hk : k1.toInt = k.toInt + 1) (hm : bat t ((fld e 9).toNat + k.toNatClampNeg) = chv i k) : IWI e t i 1 k1 := by
  rcases h with ⟨a, b1, c, d, g⟩ | ⟨a, _⟩
  · refine .inl ⟨by decide, b1, c, d, fun j hj => ?_⟩
    by_cases q : (j : Int) < k.toInt
    · exact g j q
    · have hc : k.toNatClampNeg = k.toInt.toNat := rfl
      have e1 : j = k.toNatClampNeg := by omega
      have e2 : nI j = k := by
        rw [e1]
        refine Int32.toInt_inj.mp ?_
        have := Int32.toInt_lt k
        rw [show nI k.toNatClampNeg = Int32.ofNat k.toNatClampNeg from rfl, Int32.toInt_ofNat_of_lt (by omega)]
        omega
      rw [e2, e1]
      exact hm
  · omega
theorem IWI.no {e t : va_E} {i : Nat} {b k k1 : Int32} (h : IWI e t i b k) (hb : ¬ b.toInt = 0) (h0 : 0 ≤ k.toInt) (hl : k.toInt < ((bytStr.getD i []).length : Int)) (hm : ¬ bat t ((fld e 9).toNat + k.toNatClampNeg) = chv i k) : IWI e t i 0 k1 := by
  refine .inr ⟨by decide, fun q => hm ?_⟩
  have hc : k.toNatClampNeg = k.toInt.toNat := rfl
  have e2 : nI k.toNatClampNeg = k := by
    refine Int32.toInt_inj.mp ?_
    have := Int32.toInt_lt k
    rw [show nI k.toNatClampNeg = Int32.ofNat k.toNatClampNeg from rfl, Int32.toInt_ofNat_of_lt (by omega)]
    omega
  have hl2 : k.toInt < ((bytStr.getD i []).length : Int) := hl
  have := q.2.2.2 k.toNatClampNeg (by omega)
  rw [e2] at this
  exact this
theorem IWI.fin {e t : va_E} {i : Nat} {b k : Int32} (h : IWI e t i b k) (hx : b.toInt = 0 ∨ ((bytStr.getD i []).length : Int) ≤ k.toInt) : b = iw e t i := by
  refine Int32.toInt_inj.mp ?_
  unfold iw
  rcases h with ⟨a, b1, c, d, g⟩ | ⟨a, n⟩
  · have hp : iwP e t i := ⟨b1, c, d, fun j hj => g j (by
      have hx2 : b.toInt = 0 ∨ ((bytStr.getD i []).length : Int) ≤ k.toInt := hx
      omega)⟩
    rw [if_pos hp, a]
    decide
  · rw [if_neg n, a]
    decide
theorem bat_at {t : va_E} {E : Ez} {n : Nat} {g : Nat → Int32} {i k x : Int32} {F : Int} (ht : t = aB E n g) (hx : g i.toNatClampNeg = x) (hi : i.toInt = F + k.toInt) (h0 : 0 ≤ F) (h1 : 0 ≤ k.toInt) : bat t (F.toNat + k.toNatClampNeg) = x := by
  have hc : i.toNatClampNeg = i.toInt.toNat := rfl
  have hd : k.toNatClampNeg = k.toInt.toNat := rfl
  rw [ht, ← hx, show F.toNat + k.toNatClampNeg = i.toNatClampNeg by omega]
  rfl
theorem sv_congr {e e1 t t1 : va_E} {k : Int32} (h : fld e 7 = fld e1 7) (ht : t = t1) : sv e t k = sv e1 t1 k := by
  unfold sv
  rw [h, ht]
theorem IWI.bs {e t : va_E} {i : Nat} {b k : Int32} (h : IWI e t i b k) : b.toInt = 0 ∨ (fld e 12 = 0 ∧ fld e 10 = 1 ∧ fld e 8 - fld e 9 = ((bytStr.getD i []).length : Int)) := by
  rcases h with ⟨a, b1, c, d, g⟩ | ⟨a, n⟩
  · exact .inr ⟨b1, c, d⟩
  · exact .inl a
def wvf (e : va_E) (k j : Int32) : Int := (wv (bat e) k j).toInt
