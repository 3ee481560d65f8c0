/-! the reference: its watcher -/
def WC (g : Nat → Int32) : Prop := (0 ≤ (g 5).toInt ∧ (g 5).toInt ≤ 150) ∧ (0 ≤ (g 4).toInt ∧ 2 * (g 4).toInt ≤ (g 5).toInt) ∧ ∀ t : Nat, (t : Int) < (g 4).toInt → 0 ≤ (g (163 + 4 * t)).toInt ∧ 0 ≤ (g (164 + 4 * t)).toInt ∧ (g (163 + 4 * t)).toInt + (g (164 + 4 * t)).toInt ≤ 150
/-- a row that is as g0 but in its parts and their number -/
def PG (g0 g : Nat → Int32) : Prop := ∀ j : Nat, j < 562 → j ≠ 5 → g j = g0 j
theorem PG.rf {g : Nat → Int32} : PG g g := fun _ _ _ => rfl
theorem PG.tr {g0 g g1 : Nat → Int32} (h : PG g0 g) (h1 : PG g g1) : PG g0 g1 := fun j a b => (h1 j a b).trans (h j a b)
theorem PG.st {g0 g g1 : Nat → Int32} (h : PG g0 g) {i x : Int32} (e : g1 = upd g i.toNatClampNeg x) (hi : 562 ≤ i.toInt) : PG g0 g1 := fun j a b => by
  rw [upd_ne (n := j) e (by omega) (by omega)]
  exact h j a b
theorem PG.st5 {g0 g g1 : Nat → Int32} (h : PG g0 g) {x : Int32} (e : g1 = upd g (5 : Int32).toNatClampNeg x) : PG g0 g1 ∧ g1 5 = x := by
  have h5 : (5 : Int32).toInt = 5 := by decide
  refine ⟨fun j a b => ?_, upd_at (n := 5) e (by rw [h5]; rfl)⟩
  rw [upd_ne (n := j) e (by rw [h5]; decide) (by rw [h5]; omega)]
  exact h j a b
theorem upd_lo {g0 g g1 : Nat → Int32} (n : Nat) {i x : Int32} (e : g1 = upd g i.toNatClampNeg x) (h : (g n).toInt = (g0 n).toInt) (hi : (n : Int) < i.toInt) : (g1 n).toInt = (g0 n).toInt := by
  rw [upd_ne (n := n) e (by omega) (by omega)]
  exact h
theorem WC.pg {g0 g : Nat → Int32} (h : WC g0) (hp : PG g0 g) (h5 : (g0 5).toInt ≤ (g 5).toInt ∧ (g 5).toInt ≤ 150) : WC g := by
  obtain ⟨h1, h2, h3⟩ := h
  refine ⟨by omega, by rw [hp 4 (by decide) (by decide)]; omega, fun t ht => ?_⟩
  rw [hp 4 (by decide) (by decide)] at ht
  rw [hp _ (by omega) (by omega), hp _ (by omega) (by omega)]
  exact h3 t ht
theorem WC.fin {g0 g g1 g2 g3 g4 g5 : Nat → Int32} (h : WC g0) (hp : PG g0 g) (hb : (g0 5).toInt + 2 ≤ (g 5).toInt ∧ (g 5).toInt ≤ 150) {i1 i2 i3 i4 x1 x2 x3 x4 x5 : Int32} (e1 : g1 = upd g i1.toNatClampNeg x1) (e2 : g2 = upd g1 i2.toNatClampNeg x2) (e3 : g3 = upd g2 i3.toNatClampNeg x3) (e4 : g4 = upd g3 i4.toNatClampNeg x4) (e5 : g5 = upd g4 (4 : Int32).toNatClampNeg x5) (h1 : i1.toInt = 162 + 4 * (g0 4).toInt) (h2 : i2.toInt = 163 + 4 * (g0 4).toInt) (h3 : i3.toInt = 164 + 4 * (g0 4).toInt) (h4 : i4.toInt = 165 + 4 * (g0 4).toInt) (hx2 : 0 ≤ x2.toInt) (hx3 : 0 ≤ x3.toInt) (hx : x2.toInt + x3.toInt ≤ 150) (h5 : x5.toInt = (g0 4).toInt + 1) : WC g5 ∧ (g5 5).toInt = (g 5).toInt := by
  obtain ⟨k1, k2, k3⟩ := h
  have h44 : (4 : Int32).toInt = 4 := by decide
  have f4 : g5 4 = x5 := upd_at (n := 4) e5 (by rw [h44]; rfl)
  have ee : ∀ n : Nat, n ≠ 4 → g5 n = g4 n := fun n hn => upd_ne (n := n) e5 (by rw [h44]; decide) (by rw [h44]; omega)
  have f5 : g5 5 = g 5 := by
    rw [ee 5 (by decide), upd_ne (n := 5) e4 (by omega) (by omega), upd_ne (n := 5) e3 (by omega) (by omega), upd_ne (n := 5) e2 (by omega) (by omega), upd_ne (n := 5) e1 (by omega) (by omega)]
  have lo : ∀ n : Nat, n ≠ 4 → n ≠ 5 → (n : Int) < 162 + 4 * (g0 4).toInt → g5 n = g0 n := fun n n4 n5 hn => by
    rw [ee n n4, upd_ne (n := n) e4 (by omega) (by omega), upd_ne (n := n) e3 (by omega) (by omega), upd_ne (n := n) e2 (by omega) (by omega), upd_ne (n := n) e1 (by omega) (by omega)]
    exact hp n (by omega) n5
  refine ⟨⟨by rw [f5]; omega, by rw [f4, f5]; omega, fun t ht => ?_⟩, by rw [f5]⟩
  rw [f4] at ht
  by_cases q : (t : Int) < (g0 4).toInt
  · rw [lo _ (by omega) (by omega) (by omega), lo _ (by omega) (by omega) (by omega)]
    exact k3 t q
  · have a2 : g5 (163 + 4 * t) = x2 := by
      rw [ee _ (by omega), upd_ne e4 (by omega) (by omega), upd_ne e3 (by omega) (by omega), upd_at e2 (by omega)]
    have a3 : g5 (164 + 4 * t) = x3 := by
      rw [ee _ (by omega), upd_ne e4 (by omega) (by omega), upd_at e3 (by omega)]
    rw [a2, a3]
    exact ⟨hx2, hx3, hx⟩
theorem WC.zero {g : Nat → Int32} (h4 : g 4 = 0) (h5 : g 5 = 0) : WC g := by
  have e0 : (0 : Int32).toInt = 0 := by decide
  refine ⟨by rw [h5, e0]; decide, by rw [h4, h5, e0]; decide, fun t ht => ?_⟩
  rw [h4, e0] at ht
  omega
theorem WC.n3 {g g1 : Nat → Int32} {x : Int32} (h : WC g) (e : g1 = upd g (3 : Int32).toNatClampNeg x) : WC g1 ∧ (g1 5).toInt = (g 5).toInt := by
  have h33 : (3 : Int32).toInt = 3 := by decide
  have ee : ∀ n : Nat, n ≠ 3 → g1 n = g n := fun n hn => upd_ne (n := n) e (by rw [h33]; decide) (by rw [h33]; omega)
  obtain ⟨k1, k2, k3⟩ := h
  refine ⟨⟨by rw [ee 5 (by decide)]; exact k1, by rw [ee 4 (by decide), ee 5 (by decide)]; exact k2, fun t ht => ?_⟩, by rw [ee 5 (by decide)]⟩
  rw [ee 4 (by decide)] at ht
  rw [ee _ (by omega), ee _ (by omega)]
  exact k3 t ht
theorem WOK.watx {gw gf g : Nat → Int32} (h : WOK gw) (hf : FOK gf) (hw : WC gf) (ea : ∀ j : Nat, j < 162 → ¬ (3 ≤ j ∧ j < 6) → g j = gw j) (eb : ∀ j : Nat, 3 ≤ j → j < 6 → g j = gf j) (ec : ∀ j : Nat, 162 ≤ j → j < 1012 → g j = gf j) (ed : ∀ j : Nat, 1012 ≤ j → j < 1048 → g j = gw j) : WOK g := by
  obtain ⟨h1, h2, h3, h4, h5, h6, h7, h8⟩ := h
  obtain ⟨k1, k2, k3⟩ := hw
  refine ⟨by rw [ea 0 (by decide) (by decide)]; exact h1, by rw [ea 1 (by decide) (by decide)]; exact h2, ?_, ?_, ?_, ?_, ?_, ?_⟩
  · rw [ea 0 (by decide) (by decide), ea 1 (by decide) (by decide), ea 2 (by decide) (by decide)]
    rcases h3 with h3 | ⟨a, b, c, d⟩
    · exact .inl h3
    · exact .inr ⟨a, b, c, fun r hr => by rw [ea _ (by omega) (by omega)]; exact d r hr⟩
  · intro j a b
    rw [ea j (by omega) (by omega)]
    exact h4 j a b
  · intro k hk
    rw [ea _ (by omega) (by omega), ea _ (by omega) (by omega), ea _ (by omega) (by omega), ea _ (by omega) (by omega)]
    exact h5 k hk
  · rw [eb 4 (by decide) (by decide)]
    refine ⟨by omega, fun t ht => ?_⟩
    rw [ec _ (by omega) (by omega), ec _ (by omega) (by omega)]
    have := k3 t ht
    omega
  · intro k hk
    rw [ec _ (by omega) (by omega)]
    exact hf.knd k hk
  · rw [ea 6 (by decide) (by decide)]
    refine ⟨h8.1, fun l hl => ?_⟩
    have := h8.1
    rw [ed _ (by omega) (by omega), ed _ (by omega) (by omega)]
    exact h8.2 l hl
theorem WOK.wat {gw gf : Nat → Int32} (h : WOK gw) (hf : FOK gf) (hw : WC gf) : WOK (va_cpy gf (va_cpy gf gw 3 3 3) 162 162 850) := by
  refine h.watx hf hw (fun j a b => ?_) (fun j a b => ?_) (fun j a b => ?_) (fun j a b => ?_)
  · unfold va_cpy
    rw [if_neg (by omega), if_neg (by omega)]
  · unfold va_cpy
    rw [if_neg (by omega), if_pos (by omega), show 3 + (j - 3) = j by omega]
  · unfold va_cpy
    rw [if_pos (by omega), show 162 + (j - 162) = j by omega]
  · unfold va_cpy
    rw [if_neg (by omega), if_neg (by omega)]
