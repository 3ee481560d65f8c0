/-! the reference: what its rows hold -/
def WOK (g : Nat → Int32) : Prop :=
  (0 ≤ (g 0).toInt ∧ (g 0).toInt ≤ 16) ∧
  (0 ≤ (g 1).toInt ∧ (g 1).toInt ≤ 16) ∧
  ((g 0).toInt = 0 ∨ (1 ≤ (g 1).toInt ∧ 1 ≤ (g 2).toInt ∧ (g 2).toInt ≤ 8 ∧ ∀ r : Nat, (r : Int) < (g 2).toInt → 1 ≤ (g (16 + 13 * r)).toInt)) ∧
  (∀ j : Nat, 16 ≤ j → j < 120 → -1 ≤ (g j).toInt ∧ (g j).toInt ≤ 12) ∧
  (∀ k : Nat, k < 6 → (g (120 + 7 * k)).toInt = 1 → (1 ≤ (g (122 + 7 * k)).toInt ∧ (g (122 + 7 * k)).toInt ≤ 9) ∧ (1 ≤ (g (123 + 7 * k)).toInt ∧ (g (123 + 7 * k)).toInt ≤ 5) ∧ (1 ≤ (g (124 + 7 * k)).toInt ∧ (g (124 + 7 * k)).toInt ≤ 5)) ∧
  ((0 ≤ (g 4).toInt ∧ (g 4).toInt ≤ 100) ∧ ∀ t : Nat, (t : Int) < (g 4).toInt → (0 ≤ (g (163 + 4 * t)).toInt ∧ (g (163 + 4 * t)).toInt ≤ 150) ∧ (-150 ≤ (g (164 + 4 * t)).toInt ∧ (g (163 + 4 * t)).toInt + (g (164 + 4 * t)).toInt ≤ 150)) ∧
  (∀ k : Nat, k < 150 → 0 ≤ (g (563 + 3 * k)).toInt ∧ (g (563 + 3 * k)).toInt ≤ 8) ∧
  ((0 ≤ (g 6).toInt ∧ (g 6).toInt ≤ 12) ∧ ∀ l : Nat, (l : Int) < (g 6).toInt → (g (1012 + 3 * l)).toInt = 2 → 1 ≤ (g (1013 + 3 * l)).toInt)
theorem WOK.r0 {g : Nat → Int32} (h : WOK g) : 0 ≤ (g 0).toInt ∧ (g 0).toInt ≤ 16 := h.1
theorem WOK.w0 {g : Nat → Int32} (h : WOK g) : 0 ≤ (g 1).toInt ∧ (g 1).toInt ≤ 16 := h.2.1
theorem WOK.pat {g : Nat → Int32} (h : WOK g) : (g 0).toInt = 0 ∨ (1 ≤ (g 1).toInt ∧ 1 ≤ (g 2).toInt ∧ (g 2).toInt ≤ 8 ∧ ∀ r : Nat, (r : Int) < (g 2).toInt → 1 ≤ (g (16 + 13 * r)).toInt) := h.2.2.1
theorem WOK.sg {g : Nat → Int32} (h : WOK g) : ∀ j : Nat, 16 ≤ j → j < 120 → -1 ≤ (g j).toInt ∧ (g j).toInt ≤ 12 := h.2.2.2.1
theorem WOK.way {g : Nat → Int32} (h : WOK g) : ∀ k : Nat, k < 6 → (g (120 + 7 * k)).toInt = 1 → (1 ≤ (g (122 + 7 * k)).toInt ∧ (g (122 + 7 * k)).toInt ≤ 9) ∧ (1 ≤ (g (123 + 7 * k)).toInt ∧ (g (123 + 7 * k)).toInt ≤ 5) ∧ (1 ≤ (g (124 + 7 * k)).toInt ∧ (g (124 + 7 * k)).toInt ≤ 5) := h.2.2.2.2.1
theorem WOK.tst {g : Nat → Int32} (h : WOK g) : (0 ≤ (g 4).toInt ∧ (g 4).toInt ≤ 100) ∧ ∀ t : Nat, (t : Int) < (g 4).toInt → (0 ≤ (g (163 + 4 * t)).toInt ∧ (g (163 + 4 * t)).toInt ≤ 150) ∧ (-150 ≤ (g (164 + 4 * t)).toInt ∧ (g (163 + 4 * t)).toInt + (g (164 + 4 * t)).toInt ≤ 150) := h.2.2.2.2.2.1
theorem WOK.knd {g : Nat → Int32} (h : WOK g) : ∀ k : Nat, k < 150 → 0 ≤ (g (563 + 3 * k)).toInt ∧ (g (563 + 3 * k)).toInt ≤ 8 := h.2.2.2.2.2.2.1
theorem WOK.los {g : Nat → Int32} (h : WOK g) : (0 ≤ (g 6).toInt ∧ (g 6).toInt ≤ 12) ∧ ∀ l : Nat, (l : Int) < (g 6).toInt → (g (1012 + 3 * l)).toInt = 2 → 1 ≤ (g (1013 + 3 * l)).toInt := h.2.2.2.2.2.2.2
theorem WOK.zero : WOK (fun _ => 0) := by
  refine ⟨?_, ?_, ?_, ?_, ?_, ?_, ?_, ?_⟩ <;> simp only [Int32.reduceToInt]
  · decide
  · decide
  · exact .inl trivial
  · intros; decide
  · intro k _ h; exact absurd h (by decide)
  · exact ⟨by decide, fun t h => absurd h (by omega)⟩
  · intros; decide
  · exact ⟨by decide, fun l _ h => absurd h (by decide)⟩
/-- a world that is the same below CLOTH -/
theorem WOK.lo {g g1 : Nat → Int32} (h : WOK g) (e : ∀ j : Nat, j < 1048 → g1 j = g j) : WOK g1 := by
  obtain ⟨h1, h2, h3, h4, h5, h6, h7, h8⟩ := h
  refine ⟨by rw [e 0 (by decide)]; exact h1, by rw [e 1 (by decide)]; exact h2, ?_, ?_, ?_, ?_, ?_, ?_⟩
  · rw [e 0 (by decide), e 1 (by decide), e 2 (by decide)]
    rcases h3 with h3 | ⟨a, b, c, d⟩
    · exact .inl h3
    · exact .inr ⟨a, b, c, fun r hr => by rw [e _ (by omega)]; exact d r hr⟩
  · intro j a b
    rw [e j (by omega)]
    exact h4 j a b
  · intro k hk
    rw [e _ (by omega), e _ (by omega), e _ (by omega), e _ (by omega)]
    exact h5 k hk
  · rw [e 4 (by decide)]
    refine ⟨h6.1, fun t ht => ?_⟩
    rw [e _ (by omega), e _ (by omega)]
    exact h6.2 t ht
  · intro k hk
    rw [e _ (by omega)]
    exact h7 k hk
  · rw [e 6 (by decide)]
    refine ⟨h8.1, fun l hl => ?_⟩
    rw [e _ (by omega), e _ (by omega)]
    exact h8.2 l hl
theorem WOK.hi {g : Nat → Int32} (h : WOK g) {i x : Int32} (hi : 1048 ≤ i.toInt) : WOK (upd g i.toNatClampNeg x) := by
  refine h.lo (fun j hj => ?_)
  have hc : i.toNatClampNeg = i.toInt.toNat := rfl
  unfold upd
  rw [if_neg (by omega)]
def IOK (g : Nat → Int32) : Prop := ∀ k : Nat, k < 3 → WOK (fun i => g (2076 * k + i))
def FOK (g : Nat → Int32) : Prop :=
  (∀ j : Nat, 16 ≤ j → j < 120 → -1 ≤ (g j).toInt ∧ (g j).toInt ≤ 12) ∧
  (∀ k : Nat, k < 150 → 0 ≤ (g (563 + 3 * k)).toInt ∧ (g (563 + 3 * k)).toInt ≤ 8)
theorem FOK.sg {g : Nat → Int32} (h : FOK g) : ∀ j : Nat, 16 ≤ j → j < 120 → -1 ≤ (g j).toInt ∧ (g j).toInt ≤ 12 := h.1
theorem FOK.knd {g : Nat → Int32} (h : FOK g) : ∀ k : Nat, k < 150 → 0 ≤ (g (563 + 3 * k)).toInt ∧ (g (563 + 3 * k)).toInt ≤ 8 := h.2
theorem FOK.zero : FOK (fun _ => 0) := by
  refine ⟨?_, ?_⟩ <;> simp only [Int32.reduceToInt] <;> intros <;> decide
theorem FOK.up {g : Nat → Int32} (h : FOK g) {i x : Int32} (h1 : 0 ≤ i.toInt) (hs : 16 ≤ i.toInt → i.toInt < 120 → -1 ≤ x.toInt ∧ x.toInt ≤ 12) (hk : ∀ k : Int, 0 ≤ k → k < 150 → i.toInt = 563 + 3 * k → 0 ≤ x.toInt ∧ x.toInt ≤ 8) : FOK (upd g i.toNatClampNeg x) := by
  have hc : i.toNatClampNeg = i.toInt.toNat := rfl
  refine ⟨fun j a b => ?_, fun k a => ?_⟩ <;> unfold upd <;> split
  · exact hs (by omega) (by omega)
  · exact h.sg j a b
  · exact hk k (by omega) (by omega) (by omega)
  · exact h.knd k a
def POK (g : Nat → Int32) : Prop := ∀ j : Nat, 0 ≤ (g j).toInt ∧ (g j).toInt ≤ 255
theorem POK.up {g : Nat → Int32} (h : POK g) {i x : Int32} (hx : 0 ≤ x.toInt ∧ x.toInt ≤ 255) : POK (upd g i.toNatClampNeg x) := by
  intro j
  unfold upd
  split
  · exact hx
  · exact h j
def MOK (g : Nat → Int32) : Prop := ∀ j : Nat, j < 4 → -1 ≤ (g j).toInt ∧ (g j).toInt ≤ 60
theorem MOK.up {g : Nat → Int32} (h : MOK g) {i x : Int32} (hx : -1 ≤ x.toInt ∧ x.toInt ≤ 60) : MOK (upd g i.toNatClampNeg x) := by
  intro j hj
  unfold upd
  split
  · exact hx
  · exact h j hj
def tC (E : Ez) (n : Nat) (P : (Nat → Int32) → Prop) : va_E → Prop := fun e => ∃ g : Nat → Int32, e = aI E n g ∧ P g
def tZ (E : Ez) (n : Nat) : va_E → Prop := fun e => ∃ g : Nat → Int32, e = aZ E n g
def isC (T : Nat → va_E → Prop) (L : List Nat) (E : Ez) (n : Nat) (P : (Nat → Int32) → Prop) (a : Nat) : Prop := a ∈ L ∧ T a = tC E n P
def isZ (T : Nat → va_E → Prop) (L : List Nat) (E : Ez) (n : Nat) (a : Nat) : Prop := a ∈ L ∧ T a = tZ E n
/-- entry j of a WAY k -/
def wv (g : Nat → Int32) (k j : Int32) : Int32 := g (120 + 7 * k.toNatClampNeg + j.toNatClampNeg)
theorem wv_eq {g : Nat → Int32} {i k j : Int32} (hk : 0 ≤ k.toInt ∧ k.toInt ≤ 5) (hj : 0 ≤ j.toInt) (hi : i.toInt = 120 + 7 * k.toInt + j.toInt) : g i.toNatClampNeg = wv g k j := by
  have hc : i.toNatClampNeg = i.toInt.toNat := rfl
  have hd : k.toNatClampNeg = k.toInt.toNat := rfl
  have he : j.toNatClampNeg = j.toInt.toNat := rfl
  unfold wv
  rw [show i.toNatClampNeg = 120 + 7 * k.toNatClampNeg + j.toNatClampNeg by omega]
theorem WOK.told {g : Nat → Int32} (h : WOK g) {k : Int32} (hk : 0 ≤ k.toInt ∧ k.toInt ≤ 5) (h1 : (wv g k 0).toInt = 1) : (1 ≤ (wv g k 2).toInt ∧ (wv g k 2).toInt ≤ 9) ∧ (1 ≤ (wv g k 3).toInt ∧ (wv g k 3).toInt ≤ 5) ∧ (1 ≤ (wv g k 4).toInt ∧ (wv g k 4).toInt ≤ 5) := by
  have hd : k.toNatClampNeg = k.toInt.toNat := rfl
  have := h.way k.toNatClampNeg (by omega) h1
  have e2 : wv g k 2 = g (122 + 7 * k.toNatClampNeg) := by unfold wv; rw [show 120 + 7 * k.toNatClampNeg + (2 : Int32).toNatClampNeg = 122 + 7 * k.toNatClampNeg from by rw [show (2 : Int32).toNatClampNeg = 2 from rfl]; omega]
  have e3 : wv g k 3 = g (123 + 7 * k.toNatClampNeg) := by unfold wv; rw [show 120 + 7 * k.toNatClampNeg + (3 : Int32).toNatClampNeg = 123 + 7 * k.toNatClampNeg from by rw [show (3 : Int32).toNatClampNeg = 3 from rfl]; omega]
  have e4 : wv g k 4 = g (124 + 7 * k.toNatClampNeg) := by unfold wv; rw [show 120 + 7 * k.toNatClampNeg + (4 : Int32).toNatClampNeg = 124 + 7 * k.toNatClampNeg from by rw [show (4 : Int32).toNatClampNeg = 4 from rfl]; omega]
  rw [e2, e3, e4]
  exact this
theorem area_v {g : Nat → Int32} (h : WOK g) : (g 0 * g 1).toInt = (g 0).toInt * (g 1).toInt ∧ 0 ≤ (g 0 * g 1).toInt ∧ (g 0 * g 1).toInt ≤ 256 ∧ ((g 0 * g 1).toInt = 0 ∨ (1 ≤ (g 0).toInt ∧ 1 ≤ (g 1).toInt)) := by
  obtain ⟨a, b, c⟩ := mul_v (a := g 0) (b := g 1) 16 16 256 rfl h.r0 h.w0 (by decide) (by decide)
  refine ⟨a, b, c, ?_⟩
  have h1 := h.r0
  have h2 := h.w0
  by_cases q : (g 0).toInt = 0
  · left; rw [a, q, Int.zero_mul]
  · by_cases q2 : (g 1).toInt = 0
    · left; rw [a, q2, Int.mul_zero]
    · right; omega
theorem mul_mono {G X gr : Int} (h : G + 1 ≤ X) (hx : X * gr ≤ 256) (hg : 0 ≤ gr) : G * gr + gr ≤ 256 := by
  have := Int.mul_le_mul_of_nonneg_right h hg
  rw [Int.add_mul, Int.one_mul] at this
  omega
theorem room_v {r pm gr gu : Int} (h : r = pm / gr / gu) (hp : pm ≤ 256) (h1 : 1 ≤ gr) (h2 : 1 ≤ gu) : ∀ i : Int, 0 ≤ i → i < r → (i * gu + gu) * gr ≤ 256 := by
  intro i h0 hi
  have a1 : (i + 1) * gu ≤ pm / gr := (Int.le_ediv_iff_mul_le (by omega)).mp (by omega)
  have a2 : (i + 1) * gu * gr ≤ pm := (Int.le_ediv_iff_mul_le (by omega)).mp a1
  have e : i * gu + gu = (i + 1) * gu := by rw [Int.add_mul, Int.one_mul]
  rw [e]
  omega
theorem div_lt_v {i r w : Int} (h0 : 0 ≤ i) (h : i < r * w) (hw : 1 ≤ w) : 0 ≤ i / w ∧ i / w < r := ⟨Int.ediv_nonneg h0 (by omega), (Int.ediv_lt_iff_lt_mul (by omega)).mpr h⟩
theorem len_at {g : Nat → Int32} (h : WOK g) {i r : Int32} (hp : 1 ≤ (g 0).toInt) (h0 : 0 ≤ r.toInt) (h1 : r.toInt < (g 2).toInt) (hi : i.toInt = 16 + 13 * r.toInt) : 1 ≤ (g i.toNatClampNeg).toInt ∧ (g i.toNatClampNeg).toInt ≤ 12 := by
  have hc : i.toNatClampNeg = i.toInt.toNat := rfl
  rcases h.pat with h3 | ⟨a, b, c, d⟩
  · omega
  · have e : i.toNatClampNeg = 16 + 13 * r.toInt.toNat := by omega
    have := d r.toInt.toNat (by omega)
    rw [e]
    exact ⟨this, (h.sg _ (by omega) (by omega)).2⟩
theorem sg_at {g : Nat → Int32} (h : WOK g) {i : Int32} (h0 : 16 ≤ i.toInt) (h1 : i.toInt < 120) : -1 ≤ (g i.toNatClampNeg).toInt ∧ (g i.toNatClampNeg).toInt ≤ 12 := by
  have hc : i.toNatClampNeg = i.toInt.toNat := rfl
  exact h.sg _ (by omega) (by omega)
theorem knd_at {g : Nat → Int32} (h : WOK g) {i k : Int32} (h0 : 0 ≤ k.toInt) (h1 : k.toInt < 150) (hi : i.toInt = 563 + 3 * k.toInt) : 0 ≤ (g i.toNatClampNeg).toInt ∧ (g i.toNatClampNeg).toInt ≤ 8 := by
  have hc : i.toNatClampNeg = i.toInt.toNat := rfl
  have := h.knd k.toInt.toNat (by omega)
  rw [show 563 + 3 * k.toInt.toNat = i.toNatClampNeg by omega] at this
  exact this
theorem tst_at {g : Nat → Int32} (h : WOK g) {i i2 t : Int32} (h0 : 0 ≤ t.toInt) (h1 : t.toInt < (g 4).toInt) (hi : i.toInt = 163 + 4 * t.toInt) (hi2 : i2.toInt = 164 + 4 * t.toInt) : (0 ≤ (g i.toNatClampNeg).toInt ∧ (g i.toNatClampNeg).toInt ≤ 150) ∧ (-150 ≤ (g i2.toNatClampNeg).toInt ∧ (g i.toNatClampNeg).toInt + (g i2.toNatClampNeg).toInt ≤ 150) := by
  have hc : i.toNatClampNeg = i.toInt.toNat := rfl
  have hd : i2.toNatClampNeg = i2.toInt.toNat := rfl
  have := h.tst.2 t.toInt.toNat (by omega)
  rw [show 163 + 4 * t.toInt.toNat = i.toNatClampNeg by omega, show 164 + 4 * t.toInt.toNat = i2.toNatClampNeg by omega] at this
  exact this
theorem los_at {g : Nat → Int32} (h : WOK g) {i i2 l : Int32} (h0 : 0 ≤ l.toInt) (h1 : l.toInt < (g 6).toInt) (hi : i.toInt = 1012 + 3 * l.toInt) (hi2 : i2.toInt = 1013 + 3 * l.toInt) : (g i.toNatClampNeg).toInt = 2 → 1 ≤ (g i2.toNatClampNeg).toInt := by
  have hc : i.toNatClampNeg = i.toInt.toNat := rfl
  have hd : i2.toNatClampNeg = i2.toInt.toNat := rfl
  have := h.los.2 l.toInt.toNat (by omega)
  rw [show 1012 + 3 * l.toInt.toNat = i.toNatClampNeg by omega, show 1013 + 3 * l.toInt.toNat = i2.toNatClampNeg by omega] at this
  exact this
theorem WOK.pt {g : Nat → Int32} (h : WOK g) (hp : 1 ≤ (g 0).toInt) : 1 ≤ (g 1).toInt ∧ 1 ≤ (g 2).toInt ∧ (g 2).toInt ≤ 8 := by
  rcases h.pat with h3 | ⟨a, b, c, d⟩
  · omega
  · exact ⟨a, b, c⟩
theorem tl_pre {G X gr : Int} (h : G + 1 ≤ X) (hx : X * gr ≤ 256) (hg : 1 ≤ gr) : G * gr + gr ≤ 256 ∧ G ≤ 255 := by
  have h1 := mul_mono h hx (by omega)
  refine ⟨h1, ?_⟩
  by_cases q : 0 ≤ G
  · have := Int.mul_le_mul_of_nonneg_left hg q
    omega
  · omega
theorem ladd_v {a b v : Int64} {x y : Int32} (h : a + b = v) (ha : x.toInt64 = a) (hb : y.toInt64 = b) : v.toInt = x.toInt + y.toInt := by
  have a1 := Int32.toInt_lt x
  have a2 := Int32.le_toInt x
  have b1 := Int32.toInt_lt y
  have b2 := Int32.le_toInt y
  rw [← h, ← ha, ← hb, Int64.toInt_add, Int32.toInt_toInt64, Int32.toInt_toInt64]
  exact Int.bmod_eq_of_le (by omega) (by omega)
theorem cpy_nil {α : Type} (f g : Nat → α) (a b : Nat) : va_cpy f g a b 0 = g := by
  funext k
  unfold va_cpy
  rw [if_neg (by omega)]
theorem clamp_0 : (0 : Int32).toNatClampNeg = 0 := rfl
theorem cpy_step {gs g0 : Nat → Int32} {s d n i : Nat} {x : Int32} (hi : i = d + n) (hx : x = gs (s + n)) : upd (va_cpy gs g0 s d n) i x = va_cpy gs g0 s d (n + 1) := by
  funext k
  unfold upd va_cpy
  by_cases h : k = i
  · rw [if_pos h, if_pos (by omega), hx, show s + (k - d) = s + n by omega]
  · rw [if_neg h]
    by_cases h2 : d ≤ k ∧ k < d + n
    · rw [if_pos h2, if_pos (by omega)]
    · rw [if_neg h2, if_neg (by omega)]
theorem clamp_t (x : Int32) : x.toNatClampNeg = x.toInt.toNat := rfl
theorem WOK.lo2 {g g1 : Nat → Int32} (h : WOK g) (e : ∀ j : Nat, j < 1048 → ¬ (10 ≤ j ∧ j < 13) → g1 j = g j) : WOK g1 := by
  obtain ⟨h1, h2, h3, h4, h5, h6, h7, h8⟩ := h
  refine ⟨by rw [e 0 (by decide) (by decide)]; exact h1, by rw [e 1 (by decide) (by decide)]; exact h2, ?_, ?_, ?_, ?_, ?_, ?_⟩
  · rw [e 0 (by decide) (by decide), e 1 (by decide) (by decide), e 2 (by decide) (by decide)]
    rcases h3 with h3 | ⟨a, b, c, d⟩
    · exact .inl h3
    · exact .inr ⟨a, b, c, fun r hr => by rw [e _ (by omega) (by omega)]; exact d r hr⟩
  · intro j a b
    rw [e j (by omega) (by omega)]
    exact h4 j a b
  · intro k hk
    rw [e _ (by omega) (by omega), e _ (by omega) (by omega), e _ (by omega) (by omega), e _ (by omega) (by omega)]
    exact h5 k hk
  · rw [e 4 (by decide) (by decide)]
    refine ⟨h6.1, fun t ht => ?_⟩
    rw [e _ (by omega) (by omega), e _ (by omega) (by omega)]
    exact h6.2 t ht
  · intro k hk
    rw [e _ (by omega) (by omega)]
    exact h7 k hk
  · rw [e 6 (by decide) (by decide)]
    refine ⟨h8.1, fun l hl => ?_⟩
    rw [e _ (by omega) (by omega), e _ (by omega) (by omega)]
    exact h8.2 l hl
theorem WOK.hand {g gf : Nat → Int32} (h : WOK g) {a n : Nat} (ha : a = 10) (hn : n = 3) : WOK (va_cpy gf g a a n) := by
  refine h.lo2 (fun j h1 h2 => ?_)
  unfold va_cpy
  rw [if_neg (by omega)]
theorem IOK.keep {gi gw : Nat → Int32} (h : IOK gi) (hw : WOK gw) {k n d : Nat} (hd : d = 2076 * k) (hn : n = 2076) : IOK (va_cpy gw gi 0 d n) := by
  intro k1 hk1
  by_cases e : k1 = k
  · refine hw.lo (fun j hj => ?_)
    show va_cpy gw gi 0 d n (2076 * k1 + j) = gw j
    unfold va_cpy
    rw [if_pos (by omega), show 0 + (2076 * k1 + j - d) = j by omega]
  · refine (h k1 hk1).lo (fun j hj => ?_)
    show va_cpy gw gi 0 d n (2076 * k1 + j) = gi (2076 * k1 + j)
    unfold va_cpy
    rw [if_neg (by omega)]
theorem WOK.back {gi gw : Nat → Int32} (h : IOK gi) {k n s : Nat} (hk : k < 3) (hs : s = 2076 * k) (hn : n = 2076) : WOK (va_cpy gi gw s 0 n) := by
  refine (h k hk).lo (fun j hj => ?_)
  show va_cpy gi gw s 0 n j = gi (2076 * k + j)
  unfold va_cpy
  rw [if_pos (by omega), show s + (j - 0) = 2076 * k + j by omega]
def wvr (g : Nat → Int32) (k : Int32) : Prop := (wv g k 0).toInt = 1 ∧ (1 ≤ (wv g k 2).toInt ∧ (wv g k 2).toInt ≤ 9) ∧ (1 ≤ (wv g k 3).toInt ∧ (wv g k 3).toInt ≤ 5) ∧ (1 ≤ (wv g k 4).toInt ∧ (wv g k 4).toInt ≤ 5)
theorem wv_upd_eq {g g1 : Nat → Int32} {i k j x : Int32} (e : g1 = upd g i.toNatClampNeg x) (hk : 0 ≤ k.toInt ∧ k.toInt ≤ 5) (hj : 0 ≤ j.toInt) (hi : i.toInt = 120 + 7 * k.toInt + j.toInt) : (wv g1 k j).toInt = x.toInt := by
  have hc : i.toNatClampNeg = i.toInt.toNat := rfl
  have hd : k.toNatClampNeg = k.toInt.toNat := rfl
  have he : j.toNatClampNeg = j.toInt.toNat := rfl
  rw [e]
  unfold wv upd
  rw [if_pos (by omega)]
theorem wv_upd_ne {g g1 : Nat → Int32} {i k j x : Int32} (e : g1 = upd g i.toNatClampNeg x) (hk : 0 ≤ k.toInt ∧ k.toInt ≤ 5) (hj : 0 ≤ j.toInt) (h0 : 0 ≤ i.toInt) (hi : ¬ i.toInt = 120 + 7 * k.toInt + j.toInt) : (wv g1 k j).toInt = (wv g k j).toInt := by
  have hc : i.toNatClampNeg = i.toInt.toNat := rfl
  have hd : k.toNatClampNeg = k.toInt.toNat := rfl
  have he : j.toNatClampNeg = j.toInt.toNat := rfl
  rw [e]
  unfold wv upd
  rw [if_neg (by omega)]
theorem wv_cpy {gf gw : Nat → Int32} {a n : Nat} {k j : Int32} (hk : 0 ≤ k.toInt ∧ k.toInt ≤ 5) (hj : 0 ≤ j.toInt ∧ j.toInt < 7) (ha : a = 120 + 7 * k.toInt.toNat) (hn : n = 7) : wv (va_cpy gf gw a a n) k j = wv gf k j := by
  have hd : k.toNatClampNeg = k.toInt.toNat := rfl
  have he : j.toNatClampNeg = j.toInt.toNat := rfl
  unfold wv va_cpy
  rw [if_pos (by omega), show a + (120 + 7 * k.toNatClampNeg + j.toNatClampNeg - a) = 120 + 7 * k.toNatClampNeg + j.toNatClampNeg by omega]
theorem WOK.wayc {gw gf : Nat → Int32} (h : WOK gw) {a n : Nat} {k : Int32} (hk : 0 ≤ k.toInt ∧ k.toInt ≤ 5) (hr : wvr gf k) (ha : a = 120 + 7 * k.toInt.toNat) (hn : n = 7) : WOK (va_cpy gf gw a a n) := by
  have hd : k.toNatClampNeg = k.toInt.toNat := rfl
  have e : ∀ j : Nat, ¬ (a ≤ j ∧ j < a + 7) → va_cpy gf gw a a n j = gw j := fun j hj => by
    unfold va_cpy
    rw [if_neg (by omega)]
  obtain ⟨h1, h2, h3, h4, h5, h6, h7, h8⟩ := h
  refine ⟨by rw [e 0 (by omega)]; exact h1, by rw [e 1 (by omega)]; exact h2, ?_, ?_, ?_, ?_, ?_, ?_⟩
  · rw [e 0 (by omega), e 1 (by omega), e 2 (by omega)]
    rcases h3 with h3 | ⟨a1, b, c, d⟩
    · exact .inl h3
    · exact .inr ⟨a1, b, c, fun r hr => by rw [e _ (by omega)]; exact d r hr⟩
  · intro j a1 b
    rw [e j (by omega)]
    exact h4 j a1 b
  · intro k1 hk1 h0
    by_cases q : k1 = k.toNatClampNeg
    · have e2 : va_cpy gf gw a a n (122 + 7 * k1) = wv gf k 2 := by
        rw [← wv_cpy hk (by decide) ha hn (gw := gw), q]
        unfold wv
        rw [show 120 + 7 * k.toNatClampNeg + (2 : Int32).toNatClampNeg = 122 + 7 * k.toNatClampNeg from by rw [show (2 : Int32).toNatClampNeg = 2 from rfl]; omega]
      have e3 : va_cpy gf gw a a n (123 + 7 * k1) = wv gf k 3 := by
        rw [← wv_cpy hk (by decide) ha hn (gw := gw), q]
        unfold wv
        rw [show 120 + 7 * k.toNatClampNeg + (3 : Int32).toNatClampNeg = 123 + 7 * k.toNatClampNeg from by rw [show (3 : Int32).toNatClampNeg = 3 from rfl]; omega]
      have e4 : va_cpy gf gw a a n (124 + 7 * k1) = wv gf k 4 := by
        rw [← wv_cpy hk (by decide) ha hn (gw := gw), q]
        unfold wv
        rw [show 120 + 7 * k.toNatClampNeg + (4 : Int32).toNatClampNeg = 124 + 7 * k.toNatClampNeg from by rw [show (4 : Int32).toNatClampNeg = 4 from rfl]; omega]
      rw [e2, e3, e4]
      exact hr.2
    · rw [e _ (by omega)] at h0
      rw [e _ (by omega), e _ (by omega), e _ (by omega)]
      exact h5 k1 hk1 h0
  · rw [e 4 (by omega)]
    refine ⟨h6.1, fun t ht => ?_⟩
    rw [e _ (by omega), e _ (by omega)]
    exact h6.2 t ht
  · intro k1 hk1
    rw [e _ (by omega)]
    exact h7 k1 hk1
  · rw [e 6 (by omega)]
    refine ⟨h8.1, fun l hl => ?_⟩
    rw [e _ (by omega), e _ (by omega)]
    exact h8.2 l hl
def tM (q : Nat → Nat) : va_E → Prop := fun e => ∃ v0 v5 v7 v8 v9 v10 v11 v12 v13 v17 v20 : Int32, e = ob 12 [.int v0, .ref (q 1), .ref (q 2), .ref (q 3), .ref (q 4), .int v5, .ref (q 6), .int v7, .int v8, .int v9, .int v10, .int v11, .int v12, .int v13, .ref (q 14), .ref (q 15), .ref (q 16), .int v17, .ref (q 18), .ref (q 19), .int v20, .ref (q 21), .ref (q 22), .ref (q 23), .ref (q 24), .ref (q 25), .ref (q 26), .ref (q 27), .ref (q 28)] ∧ (0 ≤ v5.toInt ∧ v5.toInt ≤ 600) ∧ (0 ≤ v7.toInt ∧ v7.toInt ≤ 600) ∧ (0 ≤ v8.toInt ∧ v8.toInt ≤ 600) ∧ (0 ≤ v9.toInt ∧ v9.toInt ≤ 600) ∧ (0 ≤ v10.toInt ∧ v10.toInt ≤ 4) ∧ (0 ≤ v17.toInt ∧ v17.toInt ≤ 256) ∧ ((-1) ≤ v20.toInt ∧ v20.toInt ≤ 100)
def isM (T : Nat → va_E → Prop) (L : List Nat) (E : Ez) (a : Nat) (q : Nat → Nat) : Prop := a ∈ L ∧ T a = tM q ∧ q 1 ≠ q 14 ∧ isC T L E 2076 WOK (q 1) ∧ isC T L E 6228 IOK (q 2) ∧ isZ T L E 3 (q 3) ∧ isB T L E 600 (q 4) ∧ isI T L E 5 (q 6) ∧ isC T L E 2076 FOK (q 14) ∧ isI T L E 256 (q 15) ∧ isC T L E 256 POK (q 16) ∧ isI T L E 600 (q 18) ∧ isI T L E 100 (q 19) ∧ isI T L E 100 (q 21) ∧ isI T L E 8 (q 22) ∧ isI T L E 256 (q 23) ∧ isI T L E 256 (q 24) ∧ isC T L E 4 MOK (q 25) ∧ isI T L E 4 (q 26) ∧ isJ T L E 240 (q 27) ∧ isJ T L E 60 (q 28)
