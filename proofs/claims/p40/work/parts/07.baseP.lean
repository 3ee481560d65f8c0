/-! the reference's tape -/
def bat (t : va_E) (k : Nat) : Int32 := match t with
  | .inl (_, _, .inl g) => g k
  | _ => 0
def sv (e t : va_E) (k : Int32) : Int32 := if k.toInt < fld e 7 then bat t k.toNatClampNeg &&& 255 else -1
theorem sv_b (e t : va_E) (k : Int32) : (-1 ≤ (sv e t k).toInt ∧ (sv e t k).toInt ≤ 255) ∧ ((sv e t k).toInt = -1 ∨ k.toInt < fld e 7) := by
  unfold sv
  split
  · rename_i h
    have := and_v (a := bat t k.toNatClampNeg) (b := 255) rfl (by decide)
    have e : (255 : Int32).toInt = 255 := by decide
    omega
  · have e : (-1 : Int32).toInt = -1 := by decide
    omega
theorem sv_in {e t : va_E} {E : Ez} {n : Nat} {g : Nat → Int32} {k x v : Int32} (h : k.toInt < fld e 7) (ht : t = aB E n g) (hx : g k.toNatClampNeg = x) (hv : x &&& 255 = v) : v = sv e t k := by
  unfold sv
  rw [if_pos h, ht, ← hv, ← hx]
  rfl
theorem sv_out {e t : va_E} {k : Int32} (h : ¬ k.toInt < fld e 7) : -1 = sv e t k := by
  unfold sv
  rw [if_neg h]
def chv (i : Nat) (k : Int32) : Int32 := (((((bytStr.getD i []).getD k.toNatClampNeg 0) &&& 255).toUInt32) % 65536).toInt32
def iwP (e t : va_E) (i : Nat) : Prop := fld e 12 = 0 ∧ fld e 10 = 1 ∧ fld e 8 - fld e 9 = ((bytStr.getD i []).length : Int) ∧ ∀ k : Nat, k < (bytStr.getD i []).length → bat t ((fld e 9).toNat + k) = chv i (nI k)
def iwD (e t : va_E) (i : Nat) : Decidable (iwP e t i) := by
  unfold iwP
  infer_instance
def iw (e t : va_E) (i : Nat) : Int32 := @ite _ (iwP e t i) (iwD e t i) 1 0
theorem iw_b (e t : va_E) (i : Nat) : (0 ≤ (iw e t i).toInt ∧ (iw e t i).toInt ≤ 1) ∧ ((iw e t i).toInt = 0 ∨ (fld e 12 = 0 ∧ fld e 10 = 1 ∧ fld e 8 - fld e 9 = ((bytStr.getD i []).length : Int))) := by
  have e0 : (0 : Int32).toInt = 0 := by decide
  have e1 : (1 : Int32).toInt = 1 := by decide
  unfold iw
  split
  · rename_i h
    rw [e1]
    exact ⟨by decide, .inr ⟨h.1, h.2.1, h.2.2.1⟩⟩
  · rw [e0]
    exact ⟨by decide, .inl rfl⟩
def IWI (e t : va_E) (i : Nat) (b k : Int32) : Prop := (b.toInt = 1 ∧ fld e 12 = 0 ∧ fld e 10 = 1 ∧ fld e 8 - fld e 9 = ((bytStr.getD i []).length : Int) ∧ ∀ j : Nat, (j : Int) < k.toInt → bat t ((fld e 9).toNat + j) = chv i (nI j)) ∨ (b.toInt = 0 ∧ ¬ iwP e t i)
theorem IWI.s1 {e t : va_E} {i : Nat} (h1 : fld e 12 = 0) (h2 : fld e 10 = 1) (h3 : fld e 8 - fld e 9 = ((bytStr.getD i []).length : Int)) : IWI e t i 1 0 := .inl ⟨by decide, h1, h2, h3, fun j h => absurd h (by simp only [Int32.reduceToInt]; omega)⟩
theorem IWI.s0 {e t : va_E} {i : Nat} (h : ¬ (fld e 12 = 0 ∧ fld e 10 = 1 ∧ fld e 8 - fld e 9 = ((bytStr.getD i []).length : Int))) : IWI e t i 0 0 := .inr ⟨by decide, fun q => h ⟨q.1, q.2.1, q.2.2.1⟩⟩
theorem IWI.yes {e t : va_E} {i : Nat} {b k k1 : Int32} (h : IWI e t i b k) (hb : ¬ b.toInt = 0) (h0 : 0 ≤ k.toInt) (hk : k1.toInt = k.toInt + 1) (hm : bat t ((fld e 9).toNat + k.toNatClampNeg) = chv i k) : IWI e t i 1 k1 := by
  rcases h with ⟨a, b1, c, d, g⟩ | ⟨a, _⟩
  · refine .inl ⟨by decide, b1, c, d, fun j hj => ?_⟩
    by_cases q : (j : Int) < k.toInt
    · exact g j q
    · have hc : k.toNatClampNeg = k.toInt.toNat := rfl
      have e1 : j = k.toNatClampNeg := by omega
      have e2 : nI j = k := by
        rw [e1]
        refine Int32.toInt_inj.mp ?_
        have := Int32.toInt_lt k
        rw [show nI k.toNatClampNeg = Int32.ofNat k.toNatClampNeg from rfl, Int32.toInt_ofNat_of_lt (by omega)]
        omega
      rw [e2, e1]
      exact hm
  · omega
theorem IWI.no {e t : va_E} {i : Nat} {b k k1 : Int32} (h : IWI e t i b k) (hb : ¬ b.toInt = 0) (h0 : 0 ≤ k.toInt) (hl : k.toInt < ((bytStr.getD i []).length : Int)) (hm : ¬ bat t ((fld e 9).toNat + k.toNatClampNeg) = chv i k) : IWI e t i 0 k1 := by
  refine .inr ⟨by decide, fun q => hm ?_⟩
  have hc : k.toNatClampNeg = k.toInt.toNat := rfl
  have e2 : nI k.toNatClampNeg = k := by
    refine Int32.toInt_inj.mp ?_
    have := Int32.toInt_lt k
    rw [show nI k.toNatClampNeg = Int32.ofNat k.toNatClampNeg from rfl, Int32.toInt_ofNat_of_lt (by omega)]
    omega
  have hl2 : k.toInt < ((bytStr.getD i []).length : Int) := hl
  have := q.2.2.2 k.toNatClampNeg (by omega)
  rw [e2] at this
  exact this
theorem IWI.fin {e t : va_E} {i : Nat} {b k : Int32} (h : IWI e t i b k) (hx : b.toInt = 0 ∨ ((bytStr.getD i []).length : Int) ≤ k.toInt) : b = iw e t i := by
  refine Int32.toInt_inj.mp ?_
  unfold iw
  rcases h with ⟨a, b1, c, d, g⟩ | ⟨a, n⟩
  · have hp : iwP e t i := ⟨b1, c, d, fun j hj => g j (by
      have hx2 : b.toInt = 0 ∨ ((bytStr.getD i []).length : Int) ≤ k.toInt := hx
      omega)⟩
    rw [if_pos hp, a]
    decide
  · rw [if_neg n, a]
    decide
theorem bat_at {t : va_E} {E : Ez} {n : Nat} {g : Nat → Int32} {i k x : Int32} {F : Int} (ht : t = aB E n g) (hx : g i.toNatClampNeg = x) (hi : i.toInt = F + k.toInt) (h0 : 0 ≤ F) (h1 : 0 ≤ k.toInt) : bat t (F.toNat + k.toNatClampNeg) = x := by
  have hc : i.toNatClampNeg = i.toInt.toNat := rfl
  have hd : k.toNatClampNeg = k.toInt.toNat := rfl
  rw [ht, ← hx, show F.toNat + k.toNatClampNeg = i.toNatClampNeg by omega]
  rfl
theorem sv_congr {e e1 t t1 : va_E} {k : Int32} (h : fld e 7 = fld e1 7) (ht : t = t1) : sv e t k = sv e1 t1 k := by
  unfold sv
  rw [h, ht]
theorem IWI.bs {e t : va_E} {i : Nat} {b k : Int32} (h : IWI e t i b k) : b.toInt = 0 ∨ (fld e 12 = 0 ∧ fld e 10 = 1 ∧ fld e 8 - fld e 9 = ((bytStr.getD i []).length : Int)) := by
  rcases h with ⟨a, b1, c, d, g⟩ | ⟨a, n⟩
  · exact .inr ⟨b1, c, d⟩
  · exact .inl a
def wvf (e : va_E) (k j : Int32) : Int := (wv (bat e) k j).toInt
def PR (g : Nat → Int32) : Prop := (0 ≤ (g 2).toInt ∧ (g 2).toInt ≤ 8) ∧ ∀ r : Nat, (r : Int) < (g 2).toInt → 1 ≤ (g (16 + 13 * r)).toInt
def RR (g0 g : Nat → Int32) : Prop := FOK g ∧ PR g ∧ g 0 = g0 0 ∧ g 1 = g0 1 ∧ g 2 = g0 2
theorem RR.rf {g : Nat → Int32} (h : FOK g) (h1 : PR g) : RR g g := ⟨h, h1, rfl, rfl, rfl⟩
theorem RR.st {g0 g : Nat → Int32} (h : RR g0 g) {i x : Int32} {j : Int} (hN : 0 ≤ (g0 2).toInt ∧ (g0 2).toInt ≤ 7) (hj : 0 ≤ j ∧ j ≤ 11) (hi : i.toInt = 17 + 13 * (g0 2).toInt + j) (hx : -1 ≤ x.toInt ∧ x.toInt ≤ 12) : RR g0 (upd g i.toNatClampNeg x) := by
  obtain ⟨h1, ⟨h2, h3⟩, h4, h5, h6⟩ := h
  have hc : i.toNatClampNeg = i.toInt.toNat := rfl
  have e : ∀ n : Nat, (n : Int) ≠ i.toInt → upd g i.toNatClampNeg x n = g n := fun n hn => by
    unfold upd
    rw [if_neg (by omega)]
  refine ⟨h1.up (by omega) (fun _ _ => hx) (fun k9 a b c => by omega), ⟨by rw [e 2 (by omega)]; exact h2, fun r hr => ?_⟩, by rw [e 0 (by omega)]; exact h4, by rw [e 1 (by omega)]; exact h5, by rw [e 2 (by omega)]; exact h6⟩
  rw [e 2 (by omega), h6] at hr
  rw [e _ (by omega)]
  exact h3 r (by rw [h6]; exact hr)
theorem RR.fin {g0 g g1 g2 : Nat → Int32} (h : RR g0 g) {i n x : Int32} (e1 : g1 = upd g i.toNatClampNeg n) (e2 : g2 = upd g1 (2 : Int32).toNatClampNeg x) (hN : 0 ≤ (g0 2).toInt ∧ (g0 2).toInt ≤ 7) (hi : i.toInt = 16 + 13 * (g0 2).toInt) (hn : 1 ≤ n.toInt ∧ n.toInt ≤ 12) (hx : x.toInt = (g0 2).toInt + 1) : FOK g2 ∧ PR g2 ∧ g2 0 = g0 0 ∧ g2 1 = g0 1 ∧ (g2 2).toInt = (g0 2).toInt + 1 := by
  obtain ⟨h1, ⟨h2, h3⟩, h4, h5, h6⟩ := h
  have hc : i.toNatClampNeg = i.toInt.toNat := rfl
  have h22 : (2 : Int32).toNatClampNeg = 2 := rfl
  have f1 : FOK g1 := by
    rw [e1]
    exact h1.up (by omega) (fun _ _ => by omega) (fun k9 a b c => by omega)
  have f2 : FOK g2 := by
    rw [e2]
    exact f1.up (i := 2) (by decide) (fun q1 q2 => absurd (And.intro q1 q2) (by decide)) (fun k9 q1 q2 q3 => by simp only [Int32.reduceToInt] at q3; omega)
  have e : ∀ m : Nat, m ≠ 2 → g2 m = g1 m := fun m hm => by
    rw [e2]
    unfold upd
    rw [if_neg (by omega)]
  have e' : ∀ m : Nat, (m : Int) ≠ i.toInt → g1 m = g m := fun m hm => by
    rw [e1]
    unfold upd
    rw [if_neg (by omega)]
  have e3 : g2 2 = x := by
    rw [e2]
    unfold upd
    rw [if_pos h22.symm]
  have e4 : g1 i.toNatClampNeg = n := by
    rw [e1]
    unfold upd
    rw [if_pos rfl]
  refine ⟨f2, ⟨by rw [e3]; omega, fun r hr => ?_⟩, by rw [e 0 (by decide), e' 0 (by omega)]; exact h4, by rw [e 1 (by decide), e' 1 (by omega)]; exact h5, by rw [e3]; exact hx⟩
  rw [e3] at hr
  rw [e _ (by omega)]
  by_cases q : (r : Int) < (g0 2).toInt
  · rw [e' _ (by omega)]
    exact h3 r (by rw [h6]; exact q)
  · rw [show 16 + 13 * r = i.toNatClampNeg by omega, e4]
    exact hn.1
theorem FOK.clr {g : Nat → Int32} (h : FOK g) (a n : Nat) : FOK (va_cpy (fun _ => 0) g a a n) := by
  refine ⟨fun j h1 h2 => ?_, fun k h1 => ?_⟩ <;> unfold va_cpy <;> split
  · show -1 ≤ (0 : Int32).toInt ∧ (0 : Int32).toInt ≤ 12
    decide
  · exact h.sg j h1 h2
  · show 0 ≤ (0 : Int32).toInt ∧ (0 : Int32).toInt ≤ 8
    decide
  · exact h.knd k h1
theorem PR.zero {g : Nat → Int32} (h : g 2 = 0) : PR g := by
  have e : (g 2).toInt = 0 := by rw [h]; decide
  exact ⟨by omega, fun r hr => by omega⟩
theorem WOK.patx {g gf gw : Nat → Int32} (h : WOK gw) (hf : FOK gf) (hp : PR gf) (h0 : 1 ≤ (gf 0).toInt ∧ (gf 0).toInt ≤ 16) (h1 : 1 ≤ (gf 1).toInt ∧ (gf 1).toInt ≤ 16) (h2 : 1 ≤ (gf 2).toInt) (ea : ∀ j : Nat, j < 3 → g j = gf j) (eb : ∀ j : Nat, 16 ≤ j → j < 120 → g j = gf j) (ec : ∀ j : Nat, j < 1048 → 3 ≤ j → ¬ (16 ≤ j ∧ j < 120) → g j = gw j) : WOK g := by
  obtain ⟨_, _, _, _, g5, g6, g7, g8⟩ := h
  refine ⟨by rw [ea 0 (by decide)]; omega, by rw [ea 1 (by decide)]; omega, .inr ?_, ?_, ?_, ?_, ?_, ?_⟩
  · rw [ea 1 (by decide), ea 2 (by decide)]
    refine ⟨h1.1, h2, hp.1.2, fun r hr => ?_⟩
    have := hp.1.2
    rw [eb _ (by omega) (by omega)]
    exact hp.2 r hr
  · intro j a b
    rw [eb j a b]
    exact hf.sg j a b
  · intro k hk
    rw [ec _ (by omega) (by omega) (by omega), ec _ (by omega) (by omega) (by omega), ec _ (by omega) (by omega) (by omega), ec _ (by omega) (by omega) (by omega)]
    exact g5 k hk
  · rw [ec 4 (by decide) (by decide) (by decide)]
    refine ⟨g6.1, fun t ht => ?_⟩
    have := g6.1
    rw [ec _ (by omega) (by omega) (by omega), ec _ (by omega) (by omega) (by omega)]
    exact g6.2 t ht
  · intro k hk
    rw [ec _ (by omega) (by omega) (by omega)]
    exact g7 k hk
  · rw [ec 6 (by decide) (by decide) (by decide)]
    refine ⟨g8.1, fun l hl => ?_⟩
    have := g8.1
    rw [ec _ (by omega) (by omega) (by omega), ec _ (by omega) (by omega) (by omega)]
    exact g8.2 l hl
theorem WOK.patf {gf gw : Nat → Int32} (h : WOK gw) (hf : FOK gf) (hp : PR gf) (h0 : 1 ≤ (gf 0).toInt ∧ (gf 0).toInt ≤ 16) (h1 : 1 ≤ (gf 1).toInt ∧ (gf 1).toInt ≤ 16) (h2 : 1 ≤ (gf 2).toInt) : WOK (upd (upd (upd (upd (va_cpy gf (upd (upd (upd gw 0 (gf 0)) 1 (gf 1)) 2 (gf 2)) 16 16 104) 1048 0) 1305 0) 1562 0) 1819 0) := by
  refine h.patx hf hp h0 h1 h2 (fun j hj => ?_) (fun j ha hb => ?_) (fun j ha hb hc => ?_)
  · unfold upd va_cpy
    rw [if_neg (by omega), if_neg (by omega), if_neg (by omega), if_neg (by omega), if_neg (by omega)]
    dsimp only
    by_cases q : j = 2
    · rw [if_pos q, q]
    · rw [if_neg q]
      by_cases q1 : j = 1
      · rw [if_pos q1, q1]
      · rw [if_neg q1, if_pos (by omega), show j = 0 by omega]
  · unfold upd va_cpy
    rw [if_neg (by omega), if_neg (by omega), if_neg (by omega), if_neg (by omega), if_pos (by omega), show 16 + (j - 16) = j by omega]
  · unfold upd va_cpy
    rw [if_neg (by omega), if_neg (by omega), if_neg (by omega), if_neg (by omega), if_neg (by omega)]
    dsimp only
    rw [if_neg (by omega), if_neg (by omega), if_neg (by omega)]
def LO (g : Nat → Int32) : Prop := ∀ l : Nat, (l : Int) < (g 6).toInt → (g (1012 + 3 * l)).toInt = 2 → 1 ≤ (g (1013 + 3 * l)).toInt
/-- a row that is as g0 but in the N-th LOSS -/
def AG (g0 g : Nat → Int32) : Prop := FOK g ∧ g 6 = g0 6 ∧ ∀ j : Nat, (j : Int) < 1012 + 3 * (g0 6).toInt → g j = g0 j
theorem AG.rf {g : Nat → Int32} (h : FOK g) : AG g g := ⟨h, rfl, fun _ _ => rfl⟩
theorem AG.st {g0 g g1 : Nat → Int32} (h : AG g0 g) {i x : Int32} (e : g1 = upd g i.toNatClampNeg x) (hN : 0 ≤ (g0 6).toInt) (hi : 1012 + 3 * (g0 6).toInt ≤ i.toInt) : AG g0 g1 := by
  obtain ⟨h1, h2, h3⟩ := h
  have hc : i.toNatClampNeg = i.toInt.toNat := rfl
  have e' : ∀ m : Nat, (m : Int) ≠ i.toInt → g1 m = g m := fun m hm => by
    rw [e]
    unfold upd
    rw [if_neg (by omega)]
  refine ⟨?_, by rw [e' 6 (by omega)]; exact h2, fun j hj => by rw [e' j (by omega)]; exact h3 j hj⟩
  rw [e]
  exact h1.up (by omega) (fun a b => by omega) (fun k9 a b c => by omega)
theorem upd_at {g g1 : Nat → Int32} {i x : Int32} {n : Nat} (e : g1 = upd g i.toNatClampNeg x) (hi : i.toInt = (n : Int)) : g1 n = x := by
  have hc : i.toNatClampNeg = i.toInt.toNat := rfl
  rw [e]
  unfold upd
  rw [if_pos (by omega)]
theorem upd_ne {g g1 : Nat → Int32} {i x : Int32} {n : Nat} (e : g1 = upd g i.toNatClampNeg x) (h0 : 0 ≤ i.toInt) (hi : ¬ i.toInt = (n : Int)) : g1 n = g n := by
  have hc : i.toNatClampNeg = i.toInt.toNat := rfl
  rw [e]
  unfold upd
  rw [if_neg (by omega)]
/-- the kind and the first number of the N-th LOSS -/
def lk (g0 g : Nat → Int32) : Int := (g (1012 + 3 * (g0 6).toInt.toNat)).toInt
def lf (g0 g : Nat → Int32) : Int := (g (1013 + 3 * (g0 6).toInt.toNat)).toInt
theorem lk_at {g0 g g1 : Nat → Int32} {i x : Int32} (e : g1 = upd g i.toNatClampNeg x) (hN : 0 ≤ (g0 6).toInt) (hi : i.toInt = 1012 + 3 * (g0 6).toInt) : lk g0 g1 = x.toInt ∧ lf g0 g1 = lf g0 g := by
  unfold lk lf
  rw [upd_at (n := 1012 + 3 * (g0 6).toInt.toNat) e (by omega), upd_ne (n := 1013 + 3 * (g0 6).toInt.toNat) e (by omega) (by omega)]
  exact ⟨rfl, rfl⟩
theorem lf_at {g0 g g1 : Nat → Int32} {i x : Int32} (e : g1 = upd g i.toNatClampNeg x) (hN : 0 ≤ (g0 6).toInt) (hi : i.toInt = 1013 + 3 * (g0 6).toInt) : lk g0 g1 = lk g0 g ∧ lf g0 g1 = x.toInt := by
  unfold lk lf
  rw [upd_at (n := 1013 + 3 * (g0 6).toInt.toNat) e (by omega), upd_ne (n := 1012 + 3 * (g0 6).toInt.toNat) e (by omega) (by omega)]
  exact ⟨rfl, rfl⟩
theorem l2_at {g0 g g1 : Nat → Int32} {i x : Int32} (e : g1 = upd g i.toNatClampNeg x) (hN : 0 ≤ (g0 6).toInt) (hi : i.toInt = 1014 + 3 * (g0 6).toInt) : lk g0 g1 = lk g0 g ∧ lf g0 g1 = lf g0 g := by
  unfold lk lf
  rw [upd_ne (n := 1012 + 3 * (g0 6).toInt.toNat) e (by omega) (by omega), upd_ne (n := 1013 + 3 * (g0 6).toInt.toNat) e (by omega) (by omega)]
  exact ⟨rfl, rfl⟩
theorem LO.fin {g0 g g2 : Nat → Int32} (h0 : LO g0) (h : AG g0 g) {x : Int32} (e2 : g2 = upd g (6 : Int32).toNatClampNeg x) (hN : 0 ≤ (g0 6).toInt) (hx : x.toInt = (g0 6).toInt + 1) (hl : lk g0 g = 2 → 1 ≤ lf g0 g) : LO g2 := by
  obtain ⟨h1, h2, h3⟩ := h
  have h66 : (6 : Int32).toNatClampNeg = 6 := rfl
  have e : ∀ m : Nat, m ≠ 6 → g2 m = g m := fun m hm => by
    rw [e2]
    unfold upd
    rw [if_neg (by omega)]
  have e3 : g2 6 = x := by
    rw [e2]
    unfold upd
    rw [if_pos h66.symm]
  intro l hl1 hl2
  rw [e3] at hl1
  rw [e _ (by omega)] at hl2 ⊢
  by_cases q : (l : Int) < (g0 6).toInt
  · rw [h3 _ (by omega)] at hl2 ⊢
    exact h0 l q hl2
  · have e4 : l = (g0 6).toInt.toNat := by omega
    rw [e4] at hl2 ⊢
    exact hl hl2
theorem FOK.n6 {g g2 : Nat → Int32} {x : Int32} (h : FOK g) (e2 : g2 = upd g (6 : Int32).toNatClampNeg x) : FOK g2 ∧ g2 6 = x := by
  refine ⟨?_, ?_⟩
  · rw [e2]
    exact h.up (i := 6) (by decide) (fun q1 q2 => absurd (And.intro q1 q2) (by decide)) (fun k9 q1 q2 q3 => by simp only [Int32.reduceToInt] at q3; omega)
  · rw [e2]
    rfl
theorem WOK.losx {gw gf : Nat → Int32} (h : WOK gw) (h6 : 0 ≤ (gf 6).toInt ∧ (gf 6).toInt ≤ 12) (hl : LO gf) : WOK (va_cpy gf (upd gw 6 (gf 6)) 1012 1012 36) := by
  have e : ∀ j : Nat, j < 1012 → j ≠ 6 → va_cpy gf (upd gw 6 (gf 6)) 1012 1012 36 j = gw j := fun j hj h2 => by
    unfold va_cpy upd
    rw [if_neg (by omega), if_neg h2]
  have e6 : va_cpy gf (upd gw 6 (gf 6)) 1012 1012 36 6 = gf 6 := rfl
  have ef : ∀ j : Nat, 1012 ≤ j → j < 1048 → va_cpy gf (upd gw 6 (gf 6)) 1012 1012 36 j = gf j := fun j h1 h2 => by
    unfold va_cpy
    rw [if_pos (by omega), show 1012 + (j - 1012) = j by omega]
  obtain ⟨h1, h2, h3, h4, h5, h6', h7, h8⟩ := h
  refine ⟨by rw [e 0 (by decide) (by decide)]; exact h1, by rw [e 1 (by decide) (by decide)]; exact h2, ?_, ?_, ?_, ?_, ?_, ?_⟩
  · rw [e 0 (by decide) (by decide), e 1 (by decide) (by decide), e 2 (by decide) (by decide)]
    rcases h3 with h3 | ⟨a, b, c, d⟩
    · exact .inl h3
    · exact .inr ⟨a, b, c, fun r hr => by rw [e _ (by omega) (by omega)]; exact d r hr⟩
  · intro j a b
    rw [e j (by omega) (by omega)]
    exact h4 j a b
  · intro k hk
    rw [e _ (by omega) (by omega), e _ (by omega) (by omega), e _ (by omega) (by omega), e _ (by omega) (by omega)]
    exact h5 k hk
  · rw [e 4 (by decide) (by decide)]
    refine ⟨h6'.1, fun t ht => ?_⟩
    have := h6'.1
    rw [e _ (by omega) (by omega), e _ (by omega) (by omega)]
    exact h6'.2 t ht
  · intro k hk
    rw [e _ (by omega) (by omega)]
    exact h7 k hk
  · rw [e6]
    refine ⟨h6, fun l hll => ?_⟩
    rw [ef _ (by omega) (by omega), ef _ (by omega) (by omega)]
    exact hl l hll
theorem gd_t {r V : Int} (x : (r = 1 ∧ V = 0) ∨ (r = 0 ∧ ¬ V = 0)) (h : ¬ r = 0) : V = 0 := by omega
theorem gd_f {r V : Int} (x : (r = 1 ∧ V = 0) ∨ (r = 0 ∧ ¬ V = 0)) (h : r = 0) : ¬ V = 0 := by omega
theorem gdb_z {r : Int32} {V : Int} (x : (r.toInt = 1 ∧ V = 0) ∨ (r.toInt = 0 ∧ ¬ V = 0)) (h : ¬ V = 0) : r = 0 := Int32.toInt_inj.mp (by simp only [Int32.reduceToInt]; omega)
theorem gdb_n {r : Int32} {V : Int} (x : (r.toInt = 1 ∧ V = 0) ∨ (r.toInt = 0 ∧ ¬ V = 0)) (h : V = 0) : ¬ r = 0 := fun e => by
  have e0 : (0 : Int32).toInt = 0 := by decide
  rw [e, e0] at x
  omega
/-- what is left of the tape, while no fault is there -/
def gm (e : va_E) : Int := if fld e 12 = 0 then 601 - fld e 8 else 0
theorem gm_b (e : va_E) : (gm e = 601 - fld e 8 ∧ fld e 12 = 0) ∨ (gm e = 0 ∧ ¬ fld e 12 = 0) := by
  unfold gm
  split
  · rename_i h
    exact .inl ⟨rfl, h⟩
  · rename_i h
    exact .inr ⟨rfl, h⟩
/-! the rows: of the class, of the reference -/
def rfld (e : va_E) (k : Nat) : Nat := match e with
  | .inr (_, fs) => match fs[k]? with
    | some (.ref a) => a
    | _ => 0
  | _ => 0
def optm (e : va_E) (k : Nat) : Option Nat := match e with
  | .inl (_, _, .inr (.inr (.inr (.inr g)))) => g k
  | _ => none
def zso (f : Nat → va_E) (x k : Nat) : Nat := (optm (f (rfld (f x) 4)) k).getD 0
def zsw (f : Nat → va_E) (x k : Nat) : Int := fld (f (zso f x k)) 1
def zss (f : Nat → va_E) (x k : Nat) : Int := fld (f (zso f x k)) 2
def zmn (f : Nat → va_E) (m k : Nat) : Int := (bat (f (rfld (f m) 25)) k).toInt
def zwd (f : Nat → va_E) (m k : Nat) : Int := (bat (f (rfld (f m) 26)) k).toInt
theorem zso_eq (f : Nat → va_E) (x : Nat) {E : Ez} {c w k : Nat} {g : Nat → Option Nat} (e1 : rfld (f x) 4 = c) (e2 : f c = aR E 6 4 g) (hg : g k = some w) : zso f x k = w := by
  unfold zso
  rw [e1, e2]
  show (g k).getD 0 = w
  rw [hg]
  rfl
theorem zmn_eq (f : Nat → va_E) (m : Nat) {E : Ez} {c : Nat} {g : Nat → Int32} (e1 : rfld (f m) 25 = c) (e2 : f c = aI E 4 g) (k : Nat) : zmn f m k = (g k).toInt := by
  unfold zmn
  rw [e1, e2]
  rfl
theorem zwd_eq (f : Nat → va_E) (m : Nat) {E : Ez} {c : Nat} {g : Nat → Int32} (e1 : rfld (f m) 26 = c) (e2 : f c = aI E 4 g) (k : Nat) : zwd f m k = (g k).toInt := by
  unfold zwd
  rw [e1, e2]
  rfl
theorem ne_MI {T : Nat → va_E → Prop} {E : Ez} {a b : Nat} (t : T a = tC E 4 MOK) (t2 : T b = tI E 4) : a ≠ b := by
  intro h
  rw [h, t2] at t
  have h1 : tI E 4 (aI E 4 (fun _ => 100)) := ⟨_, rfl⟩
  rw [t] at h1
  obtain ⟨g, e, ok⟩ := h1
  have h2 := congrArg (fun e => bat e 0) e
  have h3 : (100 : Int32) = g 0 := h2
  have h4 := (ok 0 (by decide)).2
  rw [← h3] at h4
  exact absurd h4 (by decide)
theorem ai_inj {E : Ez} {n : Nat} {g g1 : Nat → Int32} (h : aI E n g = aI E n g1) : g = g1 := funext fun k => congrArg (fun e => bat e k) h
def RWX (f f1 : Nat → va_E) (x : Nat) (a w n : Int32) : Prop := fld (f1 (zso f x a.toNatClampNeg)) 1 = w.toInt ∧ fld (f1 (zso f x a.toNatClampNeg)) 2 = n.toInt ∧ ∀ (b : Nat) (c : List Value), b ≠ zso f x a.toNatClampNeg → f b = ob 5 c → f1 b = ob 5 c
def RWM (f f1 : Nat → va_E) (m : Nat) (a w n : Int32) : Prop := ∀ k : Nat, k < 4 → ((k : Int) = a.toInt → zmn f1 m k = n.toInt ∧ zwd f1 m k = w.toInt) ∧ (¬ (k : Int) = a.toInt → zmn f1 m k = zmn f m k ∧ zwd f1 m k = zwd f m k)
theorem rwm_of {f f1 : Nat → va_E} {m : Nat} {g h g1 h1 : Nat → Int32} {a w n : Int32} (ha : 0 ≤ a.toInt) (e1 : ∀ k, zmn f m k = (g k).toInt) (e2 : ∀ k, zwd f m k = (h k).toInt) (e3 : ∀ k, zmn f1 m k = (g1 k).toInt) (e4 : ∀ k, zwd f1 m k = (h1 k).toInt) (u1 : g1 = upd g a.toNatClampNeg n) (u2 : h1 = upd h a.toNatClampNeg w) : RWM f f1 m a w n := by
  intro k _
  rw [e1, e2, e3, e4, u1, u2]
  unfold upd
  constructor
  · intro e
    have e1 : k = a.toNatClampNeg := by
      rw [clamp_t]
      omega
    rw [if_pos e1, if_pos e1]
    exact ⟨rfl, rfl⟩
  · intro e
    have e1 : ¬ k = a.toNatClampNeg := by
      rw [clamp_t]
      omega
    rw [if_neg e1, if_neg e1]
    exact ⟨rfl, rfl⟩
theorem kfr {S : List Nat} {f f1 : Nat → va_E} (F : FR S f f1) (h5 : S.contains 5 = false) (h11 : S.contains 11 = false) (h104 : S.contains 104 = false) {b : Nat} {c : va_E} (k : kd c = 5 ∨ kd c = 11 ∨ kd c = 104) (e : f b = c) : f1 b = c := F.at e (by rcases k with k | k | k <;> rw [k] <;> assumption)
theorem kne {f : Nat → va_E} {b a : Nat} {c x : va_E} (e : f b = c) (ea : f a = x) (hx : kd x = 103) (k : kd c = 5 ∨ kd c = 11 ∨ kd c = 104) : b ≠ a := by
  intro h
  have h1 : kd c = kd x := by rw [← e, ← ea, h]
  omega
theorem inj4 {g : Nat → Nat} {a b c d : Nat} (h0 : g 0 = a) (h1 : g 1 = b) (h2 : g 2 = c) (h3 : g 3 = d) (n1 : a ≠ b) (n2 : a ≠ c) (n3 : a ≠ d) (n4 : b ≠ c) (n5 : b ≠ d) (n6 : c ≠ d) : ∀ j k : Nat, j < 4 → k < 4 → g j = g k → j = k := by
  intro j k hj hk
  rcases (show j = 0 ∨ j = 1 ∨ j = 2 ∨ j = 3 by omega) with rfl | rfl | rfl | rfl <;> rcases (show k = 0 ∨ k = 1 ∨ k = 2 ∨ k = 3 by omega) with rfl | rfl | rfl | rfl <;> intro h <;> omega
theorem cmp_wr {W S M D : Int} {r1 r2 a i : Int32} (hx : (r1.toInt = -2 ∧ (a.toInt < 0 ∨ 3 < a.toInt)) ∨ ((0 ≤ a.toInt ∧ a.toInt ≤ 3) ∧ ((r1.toInt = -6 ∧ W = -1) ∨ (¬ W = -1 ∧ ((r1.toInt = -7 ∧ (i.toInt < 0 ∨ S ≤ i.toInt)) ∨ (r1.toInt = 0 ∧ 0 ≤ i.toInt ∧ i.toInt < S)))))) (hm : (r2.toInt = -2 ∧ (a.toInt < 0 ∨ 3 < a.toInt)) ∨ ((0 ≤ a.toInt ∧ a.toInt ≤ 3) ∧ ((r2.toInt = -6 ∧ M = -1) ∨ (¬ M = -1 ∧ ((r2.toInt = -7 ∧ (i.toInt < 0 ∨ M ≤ i.toInt)) ∨ (r2.toInt = 0 ∧ 0 ≤ i.toInt ∧ i.toInt < M)))))) (hr : 0 ≤ a.toInt ∧ a.toInt ≤ 3 → (M = -1 ∧ W = -1) ∨ (0 ≤ M ∧ S = M ∧ W = D ∧ 0 ≤ W)) : r1 = r2 := by
  refine Int32.toInt_inj.mp ?_
  by_cases ha : 0 ≤ a.toInt ∧ a.toInt ≤ 3
  · have h := hr ha
    clear hr
    omega
  · clear hr
    omega
theorem cmp_ps {W S M D W1 S1 M1 D1 : Int} {r1 r2 a i b k n : Int32} (hx : (r1.toInt = -2 ∧ (a.toInt < 0 ∨ 3 < a.toInt ∨ b.toInt < 0 ∨ 3 < b.toInt)) ∨ ((0 ≤ a.toInt ∧ a.toInt ≤ 3 ∧ 0 ≤ b.toInt ∧ b.toInt ≤ 3) ∧ ((r1.toInt = -6 ∧ (W = -1 ∨ W1 = -1)) ∨ ((¬ W = -1 ∧ ¬ W1 = -1) ∧ ((r1.toInt = -8 ∧ ¬ W = W1) ∨ (W = W1 ∧ ((r1.toInt = -7 ∧ (i.toInt < 0 ∨ k.toInt < 0 ∨ n.toInt < 0 ∨ S < i.toInt + n.toInt ∨ S1 < k.toInt + n.toInt)) ∨ (r1.toInt = 0 ∧ 0 ≤ i.toInt ∧ 0 ≤ k.toInt ∧ 0 ≤ n.toInt ∧ i.toInt + n.toInt ≤ S ∧ k.toInt + n.toInt ≤ S1)))))))) (hm : (r2.toInt = -2 ∧ (a.toInt < 0 ∨ 3 < a.toInt ∨ b.toInt < 0 ∨ 3 < b.toInt)) ∨ ((0 ≤ a.toInt ∧ a.toInt ≤ 3 ∧ 0 ≤ b.toInt ∧ b.toInt ≤ 3) ∧ ((r2.toInt = -6 ∧ (M = -1 ∨ M1 = -1)) ∨ ((¬ M = -1 ∧ ¬ M1 = -1) ∧ ((r2.toInt = -8 ∧ ¬ D = D1) ∨ (D = D1 ∧ ((r2.toInt = -7 ∧ (i.toInt < 0 ∨ k.toInt < 0 ∨ n.toInt < 0 ∨ M < i.toInt + n.toInt ∨ M1 < k.toInt + n.toInt)) ∨ (r2.toInt = 0 ∧ 0 ≤ i.toInt ∧ 0 ≤ k.toInt ∧ 0 ≤ n.toInt ∧ i.toInt + n.toInt ≤ M ∧ k.toInt + n.toInt ≤ M1)))))))) (hr : 0 ≤ a.toInt ∧ a.toInt ≤ 3 → (M = -1 ∧ W = -1) ∨ (0 ≤ M ∧ S = M ∧ W = D ∧ 0 ≤ W)) (hs : 0 ≤ b.toInt ∧ b.toInt ≤ 3 → (M1 = -1 ∧ W1 = -1) ∨ (0 ≤ M1 ∧ S1 = M1 ∧ W1 = D1 ∧ 0 ≤ W1)) : r1 = r2 := by
  refine Int32.toInt_inj.mp ?_
  by_cases ha : (0 ≤ a.toInt ∧ a.toInt ≤ 3) ∧ 0 ≤ b.toInt ∧ b.toInt ≤ 3
  · have h := hr ha.1
    have h1 := hs ha.2
    clear hr hs
    rcases hx with ⟨a1, a2⟩ | ⟨a1, ⟨a2, a3⟩ | ⟨a2, ⟨a3, a4⟩ | ⟨a3, ⟨a4, a5⟩ | a4⟩⟩⟩ <;> rcases hm with ⟨b1, b2⟩ | ⟨b1, ⟨b2, b3⟩ | ⟨b2, ⟨b3, b4⟩ | ⟨b3, ⟨b4, b5⟩ | b4⟩⟩⟩ <;> omega
  · clear hr hs
    omega
