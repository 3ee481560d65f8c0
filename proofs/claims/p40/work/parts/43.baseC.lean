/-! worlds that grow -/
/-- the shape of a cell -/
def ksh : va_E → Nat
  | .inl (_, _, .inl _) => 1
  | .inl (_, _, .inr (.inl _)) => 2
  | .inl (_, n, .inr (.inr _)) => 100 + n
  | .inr (k, _) => 1000 + k
def FREE : va_E → Prop := fun _ => True
/-- all whose typing has no cell of the shape κ stay -/
def XTk (κ : Nat) (T : Nat → va_E → Prop) (L : List Nat) (T1 : Nat → va_E → Prop) (L1 : List Nat) : Prop := ∀ b ∈ L, (∀ e, T b e → ksh e ≠ κ) → b ∈ L1 ∧ T1 b = T b
/-- all that was there is there as it was -/
def EX (T : Nat → va_E → Prop) (L : List Nat) (f : Nat → va_E) (T1 : Nat → va_E → Prop) (L1 : List Nat) (f1 : Nat → va_E) : Prop := ∀ b ∈ L, b ∈ L1 ∧ T1 b = T b ∧ f1 b = f b
/-- the same, but for h -/
def EXT (h : Nat) (T : Nat → va_E → Prop) (L : List Nat) (f : Nat → va_E) (T1 : Nat → va_E → Prop) (L1 : List Nat) (f1 : Nat → va_E) : Prop := ∀ b ∈ L, b ≠ h → b ∈ L1 ∧ T1 b = T b ∧ f1 b = f b
theorem EX.xt {κ : Nat} {T T1 : Nat → va_E → Prop} {L L1 : List Nat} {f f1 : Nat → va_E} (h : EX T L f T1 L1 f1) : XTk κ T L T1 L1 := fun b hb _ => ⟨(h b hb).1, (h b hb).2.1⟩
theorem EX.at {T T1 : Nat → va_E → Prop} {L L1 : List Nat} {f f1 : Nat → va_E} (h : EX T L f T1 L1 f1) {b : Nat} {e : va_E} (m : b ∈ L) (hb : f b = e) : b ∈ L1 ∧ f1 b = e := ⟨(h b m).1, (h b m).2.2.trans hb⟩
theorem EXT.rf {h : Nat} {T : Nat → va_E → Prop} {L : List Nat} {f : Nat → va_E} : EXT h T L f T L f := fun _ hb _ => ⟨hb, rfl, rfl⟩
theorem EXT.al {h : Nat} {T0 T T1 : Nat → va_E → Prop} {L0 L L1 : List Nat} {f0 f f1 : Nat → va_E} (x : EXT h T0 L0 f0 T L f) (y : EX T L f T1 L1 f1) : EXT h T0 L0 f0 T1 L1 f1 := fun b hb hn => by
  obtain ⟨a1, a2, a3⟩ := x b hb hn
  obtain ⟨b1, b2, b3⟩ := y b a1
  exact ⟨b1, b2.trans a2, b3.trans a3⟩
theorem EXT.put {h : Nat} {T0 T : Nat → va_E → Prop} {L0 L : List Nat} {f0 f f1 : Nat → va_E} (x : EXT h T0 L0 f0 T L f) (y : ∀ b, b ≠ h → f1 b = f b) : EXT h T0 L0 f0 T L f1 := fun b hb hn => by
  obtain ⟨a1, a2, a3⟩ := x b hb hn
  exact ⟨a1, a2, (y b hn).trans a3⟩
theorem EXT.put2 {h a : Nat} {T0 T : Nat → va_E → Prop} {L0 L : List Nat} {f0 f f1 : Nat → va_E} (x : EXT h T0 L0 f0 T L f) (ha : a ∉ L0) (y : ∀ b, b ≠ a → f1 b = f b) : EXT h T0 L0 f0 T L f1 := fun b hb hn => by
  obtain ⟨a1, a2, a3⟩ := x b hb hn
  exact ⟨a1, a2, (y b (fun e => ha (e ▸ hb))).trans a3⟩
theorem EXT.ty {h a : Nat} {T0 T T1 : Nat → va_E → Prop} {L0 L : List Nat} {f0 f : Nat → va_E} (x : EXT h T0 L0 f0 T L f) (ha : a = h ∨ a ∉ L0) (y : ∀ b, b ≠ a → T1 b = T b) : EXT h T0 L0 f0 T1 L f := fun b hb hn => by
  obtain ⟨a1, a2, a3⟩ := x b hb hn
  refine ⟨a1, (y b (fun e => ?_)).trans a2, a3⟩
  rcases ha with ha | ha
  · exact hn (e.trans ha)
  · exact ha (e ▸ hb)
theorem EXT.nin {h q : Nat} {T0 T : Nat → va_E → Prop} {L0 L : List Nat} {f0 f : Nat → va_E} (x : EXT h T0 L0 f0 T L f) (hh : h ∈ L) (hq : q ∉ L) : q ∉ L0 := fun hc => by
  by_cases e : q = h
  · exact hq (e ▸ hh)
  · exact hq (x q hc e).1
theorem EX.ct {q : Nat} {T T1 T2 : Nat → va_E → Prop} {L L1 L2 : List Nat} {f f1 f2 : Nat → va_E} (x : EX T L f T1 L1 f1) (hq : q ∉ L) (y : EXT q T1 L1 f1 T2 L2 f2) : EX T L f T2 L2 f2 := fun b hb => by
  obtain ⟨a1, a2, a3⟩ := x b hb
  obtain ⟨b1, b2, b3⟩ := y b a1 (ne_in hb hq)
  exact ⟨b1, b2.trans a2, b3.trans a3⟩
theorem nw_t {T : Nat → va_E → Prop} {L : List Nat} {f f1 : Nat → va_E} {q : Nat} {e : va_E} (P : va_E → Prop) (W : WT T L f) (hq : q ∉ L) (h1 : f1 q = e) (h2 : ∀ b, b ≠ q → f1 b = f b) (hp : P e) : ∃ T1, EX T L f T1 (L ++ [q]) f1 ∧ WT T1 (L ++ [q]) f1 ∧ q ∈ L ++ [q] ∧ T1 q = P := by
  refine ⟨fun b => if b = q then P else T b, fun b hb => ⟨List.mem_append_left _ hb, ?_, h2 b (ne_in hb hq)⟩, fun b hb => ?_, List.mem_append_right _ List.mem_cons_self, ?_⟩
  · show (if b = q then P else T b) = T b
    rw [if_neg (ne_in hb hq)]
  · show (if b = q then P else T b) (f1 b)
    by_cases e : b = q
    · rw [if_pos e, e, h1]
      exact hp
    · rw [if_neg e, h2 b e]
      rcases List.mem_append.mp hb with h | h
      · exact W b h
      · exact absurd (List.mem_singleton.mp h) e
  · show (if q = q then P else T q) = P
    rw [if_pos rfl]
theorem ty_ch {T : Nat → va_E → Prop} {L : List Nat} {f : Nat → va_E} {a κ : Nat} {x : va_E} (P : va_E → Prop) (W : WT T L f) (ha : ∃ e, T a e ∧ ksh e = κ) (e : f a = x) (hp : P x) : ∃ T1, XTk κ T L T1 L ∧ WT T1 L f ∧ T1 a = P ∧ (∀ b, b ≠ a → T1 b = T b) := by
  refine ⟨fun b => if b = a then P else T b, fun b hb hn => ⟨hb, ?_⟩, fun b hb => ?_, ?_, fun b hb => ?_⟩
  · show (if b = a then P else T b) = T b
    rw [if_neg (fun e => ?_)]
    subst e
    obtain ⟨e1, h1, h2⟩ := ha
    exact hn e1 h1 h2
  · show (if b = a then P else T b) (f b)
    by_cases q : b = a
    · rw [if_pos q, q, e]
      exact hp
    · rw [if_neg q]
      exact W b hb
  · show (if a = a then P else T a) = P
    rw [if_pos rfl]
  · show (if b = a then P else T b) = T b
    rw [if_neg hb]
theorem fr_sh {T : Nat → va_E → Prop} {a : Nat} (h : T a = FREE) : ∃ e, T a e ∧ ksh e = 1099 := ⟨ob 99 [], by rw [h]; trivial, rfl⟩
theorem isI.mo {T T1 : Nat → va_E → Prop} {L L1 : List Nat} {E : Ez} {κ : Nat} {n a : Nat} (hk : κ = 1099 ∨ κ = 103) (x : XTk κ T L T1 L1) (h : isI T L E n a) : isI T1 L1 E n a := by
  have y := x a h.1 (fun e he hs => by
    rw [h.2] at he
    obtain ⟨g, rfl⟩ := he
    have hs2 : (1 : Nat) = κ := hs
    omega)
  exact ⟨y.1, y.2.trans h.2⟩
theorem isJ.mo {T T1 : Nat → va_E → Prop} {L L1 : List Nat} {E : Ez} {κ : Nat} {n a : Nat} (hk : κ = 1099 ∨ κ = 103) (x : XTk κ T L T1 L1) (h : isJ T L E n a) : isJ T1 L1 E n a := by
  have y := x a h.1 (fun e he hs => by
    rw [h.2] at he
    obtain ⟨g, rfl⟩ := he
    have hs2 : (2 : Nat) = κ := hs
    omega)
  exact ⟨y.1, y.2.trans h.2⟩
theorem isB.mo {T T1 : Nat → va_E → Prop} {L L1 : List Nat} {E : Ez} {κ : Nat} {n a : Nat} (hk : κ = 1099 ∨ κ = 103) (x : XTk κ T L T1 L1) (h : isB T L E n a) : isB T1 L1 E n a := by
  have y := x a h.1 (fun e he hs => by
    rw [h.2] at he
    obtain ⟨g, rfl, -⟩ := he
    have hs2 : (1 : Nat) = κ := hs
    omega)
  exact ⟨y.1, y.2.trans h.2⟩
theorem isZ.mo {T T1 : Nat → va_E → Prop} {L L1 : List Nat} {E : Ez} {κ : Nat} {n a : Nat} (hk : κ = 1099 ∨ κ = 103) (x : XTk κ T L T1 L1) (h : isZ T L E n a) : isZ T1 L1 E n a := by
  have y := x a h.1 (fun e he hs => by
    rw [h.2] at he
    obtain ⟨g, rfl⟩ := he
    have hs2 : (1 : Nat) = κ := hs
    omega)
  exact ⟨y.1, y.2.trans h.2⟩
theorem isC.mo {T T1 : Nat → va_E → Prop} {L L1 : List Nat} {E : Ez} {κ : Nat} {n a : Nat} {P : (Nat → Int32) → Prop} (hk : κ = 1099 ∨ κ = 103) (x : XTk κ T L T1 L1) (h : isC T L E n P a) : isC T1 L1 E n P a := by
  have y := x a h.1 (fun e he hs => by
    rw [h.2] at he
    obtain ⟨g, rfl, -⟩ := he
    have hs2 : (1 : Nat) = κ := hs
    omega)
  exact ⟨y.1, y.2.trans h.2⟩
theorem isTape.mo {T T1 : Nat → va_E → Prop} {L L1 : List Nat} {E : Ez} {κ : Nat} {a : Nat} (hk : κ = 1099 ∨ κ = 103) (x : XTk κ T L T1 L1) (h : isTape T L E a) : isTape T1 L1 E a := by
  obtain ⟨m, q0, t, kq0⟩ := h
  have y := x a m (fun e he hs => by
    rw [t] at he
    obtain ⟨v0, v1, v2, v3, v4, v5, rfl, -, -, -⟩ := he
    have hs2 : (1000 + 7 : Nat) = κ := hs
    omega)
  exact ⟨y.1, q0, y.2.trans t, kq0.mo hk x⟩
theorem isPat.mo {T T1 : Nat → va_E → Prop} {L L1 : List Nat} {E : Ez} {κ : Nat} {a : Nat} (hk : κ = 1099 ∨ κ = 103) (x : XTk κ T L T1 L1) (h : isPat T L E a) : isPat T1 L1 E a := by
  obtain ⟨m, q0, q1, t, kq0, kq1⟩ := h
  have y := x a m (fun e he hs => by
    rw [t] at he
    obtain ⟨v0, v1, v2, rfl, -, -, -⟩ := he
    have hs2 : (1000 + 4 : Nat) = κ := hs
    omega)
  exact ⟨y.1, q0, q1, y.2.trans t, kq0.mo hk x, kq1.mo hk x⟩
theorem isWay.mo {T T1 : Nat → va_E → Prop} {L L1 : List Nat} {E : Ez} {κ : Nat} {a : Nat} (hk : κ = 1099 ∨ κ = 103) (x : XTk κ T L T1 L1) (h : isWay T L E a) : isWay T1 L1 E a := by
  obtain ⟨m, t⟩ := h
  have y := x a m (fun e he hs => by
    rw [t] at he
    obtain ⟨v0, v1, v2, v3, v4, v5, v6, rfl, -, -, -, -, -⟩ := he
    have hs2 : (1000 + 10 : Nat) = κ := hs
    omega)
  exact ⟨y.1, y.2.trans t⟩
theorem isWat.mo {T T1 : Nat → va_E → Prop} {L L1 : List Nat} {E : Ez} {κ : Nat} {a : Nat} (hk : κ = 1099 ∨ κ = 103) (x : XTk κ T L T1 L1) (h : isWat T L E a) : isWat T1 L1 E a := by
  obtain ⟨m, q0, t, kq0⟩ := h
  have y := x a m (fun e he hs => by
    rw [t] at he
    obtain ⟨v0, v1, rfl, -⟩ := he
    have hs2 : (1000 + 9 : Nat) = κ := hs
    omega)
  exact ⟨y.1, q0, y.2.trans t, kq0.mo hk x⟩
theorem isLos.mo {T T1 : Nat → va_E → Prop} {L L1 : List Nat} {E : Ez} {κ : Nat} {a : Nat} (hk : κ = 1099 ∨ κ = 103) (x : XTk κ T L T1 L1) (h : isLos T L E a) : isLos T1 L1 E a := by
  obtain ⟨m, q0, q1, q2, t, kq0, kq1, kq2⟩ := h
  have y := x a m (fun e he hs => by
    rw [t] at he
    obtain ⟨v0, rfl, -⟩ := he
    have hs2 : (1000 + 3 : Nat) = κ := hs
    omega)
  exact ⟨y.1, q0, q1, q2, y.2.trans t, kq0.mo hk x, kq1.mo hk x, kq2.mo hk x⟩
theorem isLet.mo {T T1 : Nat → va_E → Prop} {L L1 : List Nat} {E : Ez} {κ : Nat} {a : Nat} (hk : κ = 1099 ∨ κ = 103) (x : XTk κ T L T1 L1) (h : isLet T L E a) : isLet T1 L1 E a := by
  obtain ⟨m, q0, t, kq0⟩ := h
  have y := x a m (fun e he hs => by
    rw [t] at he
    obtain ⟨v0, rfl, -⟩ := he
    have hs2 : (1000 + 2 : Nat) = κ := hs
    omega)
  exact ⟨y.1, q0, y.2.trans t, kq0.mo hk x⟩
theorem isClo.mo {T T1 : Nat → va_E → Prop} {L L1 : List Nat} {E : Ez} {κ : Nat} {a : Nat} (hk : κ = 1099 ∨ κ = 103) (x : XTk κ T L T1 L1) (h : isClo T L E a) : isClo T1 L1 E a := by
  obtain ⟨m, q0, t, kq0⟩ := h
  have y := x a m (fun e he hs => by
    rw [t] at he
    obtain ⟨v0, rfl, -⟩ := he
    have hs2 : (1000 + 1 : Nat) = κ := hs
    omega)
  exact ⟨y.1, q0, y.2.trans t, kq0.mo hk x⟩
theorem isWalk.mo {T T1 : Nat → va_E → Prop} {L L1 : List Nat} {E : Ez} {κ : Nat} {a : Nat} (hk : κ = 1099 ∨ κ = 103) (x : XTk κ T L T1 L1) (h : isWalk T L E a) : isWalk T1 L1 E a := by
  obtain ⟨m, q0, t, kq0⟩ := h
  have y := x a m (fun e he hs => by
    rw [t] at he
    obtain ⟨v0, v1, v2, v3, rfl, -, -, -, -⟩ := he
    have hs2 : (1000 + 8 : Nat) = κ := hs
    omega)
  exact ⟨y.1, q0, y.2.trans t, kq0.mo hk x⟩
theorem isTal.mo {T T1 : Nat → va_E → Prop} {L L1 : List Nat} {E : Ez} {κ : Nat} {a : Nat} (hk : κ = 1099 ∨ κ = 103) (x : XTk κ T L T1 L1) (h : isTal T L E a) : isTal T1 L1 E a := by
  obtain ⟨m, q0, q1, q2, q3, q4, t, kq0, kq1, kq2, kq3, kq4⟩ := h
  have y := x a m (fun e he hs => by
    rw [t] at he
    obtain ⟨v0, v1, v2, v3, v4, rfl, -, -⟩ := he
    have hs2 : (1000 + 6 : Nat) = κ := hs
    omega)
  exact ⟨y.1, q0, q1, q2, q3, q4, y.2.trans t, kq0.mo hk x, kq1.mo hk x, kq2.mo hk x, kq3.mo hk x, kq4.mo hk x⟩
theorem isSlot.mo {T T1 : Nat → va_E → Prop} {L L1 : List Nat} {E : Ez} {κ : Nat} {a : Nat} (hk : κ = 1099 ∨ κ = 103) (x : XTk κ T L T1 L1) (h : isSlot T L E a) : isSlot T1 L1 E a := by
  obtain ⟨m, q0, t, kq0⟩ := h
  have y := x a m (fun e he hs => by
    rw [t] at he
    obtain ⟨v0, v1, rfl, -, -⟩ := he
    have hs2 : (1000 + 5 : Nat) = κ := hs
    omega)
  exact ⟨y.1, q0, y.2.trans t, kq0.mo hk x⟩
theorem isRWay.mo {T T1 : Nat → va_E → Prop} {L L1 : List Nat} {E : Ez} {κ : Nat} {a : Nat} (hk : κ = 1099 ∨ κ = 103) (x : XTk κ T L T1 L1) (h : isRWay T L E a) : isRWay T1 L1 E a := by
  obtain ⟨m, g, t, k⟩ := h
  have y := x a m (fun e he hs => by
    rw [t] at he
    have he2 : e = aR E 7 6 g := he
    subst he2
    have hs2 : (100 + 6 : Nat) = κ := hs
    omega)
  refine ⟨y.1, g, y.2.trans t, fun i hi => ?_⟩
  obtain ⟨w, k1, k2⟩ := k i hi
  exact ⟨w, k1, k2.mo hk x⟩
theorem isRClo.mo {T T1 : Nat → va_E → Prop} {L L1 : List Nat} {E : Ez} {κ : Nat} {a : Nat} (hk : κ = 1099 ∨ κ = 103) (x : XTk κ T L T1 L1) (h : isRClo T L E a) : isRClo T1 L1 E a := by
  obtain ⟨m, g, t, k⟩ := h
  have y := x a m (fun e he hs => by
    rw [t] at he
    have he2 : e = aR E 5 4 g := he
    subst he2
    have hs2 : (100 + 4 : Nat) = κ := hs
    omega)
  refine ⟨y.1, g, y.2.trans t, fun i hi => ?_⟩
  obtain ⟨w, k1, k2⟩ := k i hi
  exact ⟨w, k1, k2.mo hk x⟩
theorem isBas.mo {T T1 : Nat → va_E → Prop} {L L1 : List Nat} {E : Ez} {κ : Nat} {a : Nat} (hk : κ = 1099 ∨ κ = 103) (x : XTk κ T L T1 L1) (h : isBas T L E a) : isBas T1 L1 E a := by
  obtain ⟨m, q0, q1, q2, q3, q4, q5, t, kq0, kq1, kq2, kq3, kq4, kq5⟩ := h
  have y := x a m (fun e he hs => by
    rw [t] at he
    have he2 : e = ob 0 [.ref q0, .ref q1, .ref q2, .ref q3, .ref q4, .ref q5] := he
    subst he2
    have hs2 : (1000 + 0 : Nat) = κ := hs
    omega)
  exact ⟨y.1, q0, q1, q2, q3, q4, q5, y.2.trans t, kq0.mo hk x, kq1.mo hk x, kq2.mo hk x, kq3.mo hk x, kq4.mo hk x, kq5.mo hk x⟩
theorem isRImg.mo {T T1 : Nat → va_E → Prop} {L L1 : List Nat} {E : Ez} {κ : Nat} {a : Nat} (hk : κ = 1099) (x : XTk κ T L T1 L1) (h : isRImg T L E a) : isRImg T1 L1 E a := by
  obtain ⟨m, g, t, k⟩ := h
  have y := x a m (fun e he hs => by
    rw [t] at he
    have he2 : e = aR E 4 3 g := he
    subst he2
    have hs2 : (100 + 3 : Nat) = κ := hs
    omega)
  refine ⟨y.1, g, y.2.trans t, fun i hi => ?_⟩
  rcases k i hi with k | ⟨w, k1, k2⟩
  · exact .inl k
  · exact .inr ⟨w, k1, k2.mo (.inl hk) x⟩
theorem isRSlot.mo {T T1 : Nat → va_E → Prop} {L L1 : List Nat} {E : Ez} {κ : Nat} {a : Nat} (hk : κ = 1099 ∨ κ = 103) (x : XTk κ T L T1 L1) (h : isRSlot T L E a) : isRSlot T1 L1 E a := by
  obtain ⟨m, g, t, k⟩ := h
  have y := x a m (fun e he hs => by
    rw [t] at he
    have he2 : e = aR E 6 4 g := he
    subst he2
    have hs2 : (100 + 4 : Nat) = κ := hs
    omega)
  refine ⟨y.1, g, y.2.trans t, fun i hi => ?_⟩
  obtain ⟨w, k1, k2⟩ := k i hi
  exact ⟨w, k1, k2.mo hk x⟩
theorem isX.mo {T T1 : Nat → va_E → Prop} {L L1 : List Nat} {E : Ez} {κ : Nat} {a : Nat} (hk : κ = 1099) (x : XTk κ T L T1 L1) (h : isX T L E a) : isX T1 L1 E a := by
  obtain ⟨m, q0, q1, q2, q3, q4, q5, q6, q7, q8, q9, q10, q11, q12, q13, t, kq0, kq1, kq2, kq3, kq4, kq5, kq6, kq7, kq8, kq9, kq10, kq11, kq12, kq13⟩ := h
  have y := x a m (fun e he hs => by
    rw [t] at he
    have he2 : e = ob 11 [.ref q0, .ref q1, .ref q2, .ref q3, .ref q4, .ref q5, .ref q6, .ref q7, .ref q8, .ref q9, .ref q10, .ref q11, .ref q12, .ref q13] := he
    subst he2
    have hs2 : (1000 + 11 : Nat) = κ := hs
    omega)
  exact ⟨y.1, q0, q1, q2, q3, q4, q5, q6, q7, q8, q9, q10, q11, q12, q13, y.2.trans t, kq0.mo (.inl hk) x, kq1.mo (.inl hk) x, kq2.mo hk x, kq3.mo (.inl hk) x, kq4.mo (.inl hk) x, kq5.mo (.inl hk) x, kq6.mo (.inl hk) x, kq7.mo (.inl hk) x, kq8.mo (.inl hk) x, kq9.mo (.inl hk) x, kq10.mo (.inl hk) x, kq11.mo (.inl hk) x, kq12.mo (.inl hk) x, kq13.mo (.inl hk) x⟩
theorem ty_up {T : Nat → va_E → Prop} {L : List Nat} {f f1 : Nat → va_E} {a κ : Nat} {x : va_E} (P : va_E → Prop) (W : WT T L f) (ha : ∃ e, T a e ∧ ksh e = κ) (h1 : f1 a = x) (h2 : ∀ b, b ≠ a → f1 b = f b) (hp : P x) : ∃ T1, XTk κ T L T1 L ∧ WT T1 L f1 ∧ T1 a = P := by
  refine ⟨fun b => if b = a then P else T b, fun b hb hn => ⟨hb, ?_⟩, fun b hb => ?_, ?_⟩
  · show (if b = a then P else T b) = T b
    rw [if_neg (fun e => ?_)]
    subst e
    obtain ⟨e1, k1, k2⟩ := ha
    exact hn e1 k1 k2
  · show (if b = a then P else T b) (f1 b)
    by_cases q : b = a
    · rw [if_pos q, q, h1]
      exact hp
    · rw [if_neg q, h2 b q]
      exact W b hb
  · show (if a = a then P else T a) = P
    rw [if_pos rfl]
theorem isX_at {T T1 : Nat → va_E → Prop} {L L1 : List Nat} {a q0 q1 q2 q3 q4 q5 q6 q7 q8 q9 q10 q11 q12 q13 : Nat} (x : XTk 103 T L T1 L1) (m : a ∈ L) (t : T a = tX q0 q1 q2 q3 q4 q5 q6 q7 q8 q9 q10 q11 q12 q13) : a ∈ L1 ∧ T1 a = tX q0 q1 q2 q3 q4 q5 q6 q7 q8 q9 q10 q11 q12 q13 := by
  have y := x a m (fun e he hs => by
    rw [t] at he
    have he2 : e = ob 11 [.ref q0, .ref q1, .ref q2, .ref q3, .ref q4, .ref q5, .ref q6, .ref q7, .ref q8, .ref q9, .ref q10, .ref q11, .ref q12, .ref q13] := he
    subst he2
    have hs2 : (1000 + 11 : Nat) = 103 := hs
    omega)
  exact ⟨y.1, y.2.trans t⟩
theorem RImg_up {T : Nat → va_E → Prop} {L : List Nat} {E : Ez} {c k w : Nat} {g g1 : Nat → Option Nat} (m : c ∈ L) (t : T c = tR E 4 3 g1) (hg1 : g1 = va_up g k (some w)) (hg : ∀ i : Nat, i < 3 → g i = none ∨ ∃ v : Nat, g i = some v ∧ isBas T L E v) (hw : isBas T L E w) : isRImg T L E c := by
  refine ⟨m, g1, t, fun i hi => ?_⟩
  rw [hg1]
  unfold va_up
  by_cases e : i = k
  · rw [if_pos e]
    exact .inr ⟨w, rfl, hw⟩
  · rw [if_neg e]
    exact hg i hi
