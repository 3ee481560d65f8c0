/-! more rows: texts by ldc_w, Math.max and min, what is apart, numbers of one bit -/
section VM3
variable {z : Cz} {E : Ez} {cc : ByteArray} {own : String} {nL d mc ms cells slots pc : Nat} {L : List Nat} {f : Nat → va_E} {lv lv' : List (Nat × Value)} {st : List Value}
theorem v_ldcwS (hC : Cx z E cc own nL d mc ms) {index i : Nat} {tx : String} (hw : (own, index, tx, i) ∈ strW) (hdg : decode cc pc = .ok (.ldc_w index, 3)) (kk : V z E nL cells slots L f (pc + 3) lv (.ref (eK E i) :: st)) : V z E nL cells slots L f pc lv st := by
  intro H locs ls hP hD hS hl T hT X
  obtain ⟨t, a1, b1⟩ := kk H locs ls hP hD hS hl T hT X
  refine ⟨t, ?_, b1⟩
  have hZ := hC.2.2.2.2.2.1.2.2.1 _ hw
  obtain ⟨k, cf, i', a', hk, hcf, hcp, -, hr, hev'⟩ := Cond.stringRef_spec hC.2.2.2.1 hZ.1
  have hev := hZ.2
  cases hev.symm.trans hev'
  obtain ⟨k', hk', he⟩ := X.warmed.alike.2.2 _ _ hk
  have hr' : k'.resolved[index]? = some (some (.string (eK E i))) := by
    rcases X.warmed.entry hk hk' index with h | ⟨h, -⟩
    · rw [h]; exact hr
    · rw [hr] at h; cases h
  have hdg' : decode (zc z).code pc = .ok (.ldc_w index, 3) := by rw [hC.2.1]; exact hdg
  jvm_step X.here [hC.1, hdg', ldc_w.wp_string (e := ze z) (s := T) (f := F0 (zm z) pc ls st) X.here.top hk' (by rw [he]; exact hcf) hcp hr']
  exact a1
theorem v_ldcw (hC : Cx z E cc own nL d mc ms) {index : Nat} {v : Int32} (hw : Cond.constant own index v ∈ ALLg) (hdg : decode cc pc = .ok (.ldc_w index, 3)) (kk : V z E nL cells slots L f (pc + 3) lv (.int v :: st)) : V z E nL cells slots L f pc lv st := fun H locs ls hP hD hS hl => lv_ldcw hC.1 hC.2.1 hC.2.2.2.1 (hC.2.2.2.2.1 _ hw) hdg (kk H locs ls hP hD hS hl)
theorem v_mmax (hC : Cx z E cc own nL d mc ms) {index : Nat} {x y v : Int32} (h1 : Cond.methodLink own index Lib.Math.max.name ∈ ALLg) (h2 : Cond.static Lib.Math.max.name ∈ ALLg) (h3 : Cond.initialized "java/lang/Math" ∈ ALLg) (h4 : Cond.code Lib.Math.max.name Lib.Math.max.code 2 (some .int) ∈ ALLg) (hd : 1 ≤ d) (hW : (st.map fun v => v.category).sum ≤ 8) (hc : cells ≤ mc) (hs : slots ≤ ms) (hv : (if x < y then y else x) = v) (hdg : decode cc pc = .ok (.invokestatic index, 3)) (kk : V z E nL cells slots L f (pc + 3) lv (.int v :: st)) : V z E nL cells slots L f pc lv (.int y :: .int x :: st) := by
  intro H locs ls hP hD hS hl
  subst hv
  have hr := hC.2.2.2.2.2.2.2
  exact va_mmax hC.1 hC.2.1 (by rw [hC.2.2.1]; exact hl.1.symm) hC.2.2.2.1 (hC.2.2.2.2.1 _ h1) (hC.2.2.2.2.1 _ h2) (hC.2.2.2.2.1 _ h3) (hC.2.2.2.2.1 _ h4) (by omega) (by omega) (by omega) (by omega) hdg (kk H locs ls hP hD hS hl)
theorem v_mmin (hC : Cx z E cc own nL d mc ms) {index : Nat} {x y v : Int32} (h1 : Cond.methodLink own index Lib.Math.min.name ∈ ALLg) (h2 : Cond.static Lib.Math.min.name ∈ ALLg) (h3 : Cond.initialized "java/lang/Math" ∈ ALLg) (h4 : Cond.code Lib.Math.min.name Lib.Math.min.code 2 (some .int) ∈ ALLg) (hd : 1 ≤ d) (hW : (st.map fun v => v.category).sum ≤ 8) (hc : cells ≤ mc) (hs : slots ≤ ms) (hv : (if y < x then y else x) = v) (hdg : decode cc pc = .ok (.invokestatic index, 3)) (kk : V z E nL cells slots L f (pc + 3) lv (.int v :: st)) : V z E nL cells slots L f pc lv (.int y :: .int x :: st) := by
  intro H locs ls hP hD hS hl
  subst hv
  have hr := hC.2.2.2.2.2.2.2
  exact va_mmin hC.1 hC.2.1 (by rw [hC.2.2.1]; exact hl.1.symm) hC.2.2.2.1 (hC.2.2.2.2.1 _ h1) (hC.2.2.2.2.1 _ h2) (hC.2.2.2.2.1 _ h3) (hC.2.2.2.2.1 _ h4) (by omega) (by omega) (by omega) (by omega) hdg (kk H locs ls hP hD hS hl)
end VM3
def kd : va_E → Nat
  | .inr o => o.1
  | .inl a => 100 + a.2.1
theorem ne_kd {f : Nat → va_E} {a b : Nat} {e1 e2 : va_E} (h1 : f b = e1) (h2 : f a = e2) (h : Nat.beq (kd e1) (kd e2) = false) : b ≠ a := by
  intro q
  subst q
  rw [h1] at h2
  subst h2
  rw [show Nat.beq (kd e1) (kd e1) = true from Nat.beq_refl _] at h
  cases h
theorem ne_in {L : List Nat} {a q : Nat} (h : a ∈ L) (hq : q ∉ L) : a ≠ q := fun e => hq (e ▸ h)
def bI (p : Prop) [Decidable p] : Int32 := if p then 1 else 0
theorem bI_t {p : Prop} [Decidable p] (h : p) : bI p = 1 := if_pos h
theorem bI_f {p : Prop} [Decidable p] (h : ¬ p) : bI p = 0 := if_neg h
theorem bI_0 {p : Prop} [Decidable p] (h : bI p = 0) : ¬ p := fun q => by rw [bI_t q] at h; cases h
theorem bI_1 {p : Prop} [Decidable p] (h : ¬ bI p = 0) : p := Classical.byContradiction fun q => h (bI_f q)
theorem bI_nar {p : Prop} [Decidable p] : narrow .boolean (.int (bI p)) = .int (bI p) := by
  unfold bI
  split <;> rfl
theorem t_i32a (c : Int32) (h1 : ¬ c < 0) (h2 : ¬ 4 ≤ c) : 0 ≤ c ∧ c < 4 := by
  simp only [Int32.lt_iff_toInt_lt, Int32.le_iff_toInt_le, Int32.reduceToInt] at *
  omega
theorem t_i32b (c : Int32) (h1 : c < -1) : ¬ (0 ≤ c ∧ c ≤ 2000000000) := by
  simp only [Int32.lt_iff_toInt_lt, Int32.le_iff_toInt_le, Int32.reduceToInt] at *
  omega
theorem lgc_lt {x y : Int64} : lg_cmp x y < 0 ↔ x < y := by
  unfold lg_cmp
  split
  · rename_i h
    refine ⟨fun q => absurd q (by decide), fun q => ?_⟩
    exfalso
    simp only [gt_iff_lt, Int64.lt_iff_toInt_lt] at *
    omega
  · split
    · rename_i h1 h2
      refine ⟨fun q => absurd q (by decide), fun q => ?_⟩
      exfalso
      rw [h2] at q
      simp only [Int64.lt_iff_toInt_lt] at q
      omega
    · rename_i h1 h2
      refine ⟨fun _ => ?_, fun _ => by decide⟩
      simp only [gt_iff_lt, Int64.lt_iff_toInt_lt, ← Int64.toInt_inj] at *
      omega
theorem lgc_gt {x y : Int64} : 0 < lg_cmp x y ↔ y < x := by
  unfold lg_cmp
  split
  · rename_i h
    exact ⟨fun _ => h, fun _ => by decide⟩
  · rename_i h
    refine ⟨fun q => ?_, fun q => absurd q h⟩
    split at q
    · exact absurd q (by decide)
    · exact absurd q (by decide)
theorem lgc_ge {x y : Int64} : 0 ≤ lg_cmp x y ↔ y ≤ x := by
  have h := @lgc_lt x y
  simp only [Int32.lt_iff_toInt_lt, Int32.le_iff_toInt_le, Int64.lt_iff_toInt_lt, Int64.le_iff_toInt_le] at *
  omega
theorem lgc_le {x y : Int64} : lg_cmp x y ≤ 0 ↔ x ≤ y := by
  have h := @lgc_gt x y
  simp only [Int32.lt_iff_toInt_lt, Int32.le_iff_toInt_le, Int64.lt_iff_toInt_lt, Int64.le_iff_toInt_le] at *
  omega
theorem bI_iff {p q : Prop} [Decidable p] [Decidable q] (h : p ↔ q) : bI p = bI q := by
  by_cases hp : p
  · rw [bI_t hp, bI_t (h.mp hp)]
  · rw [bI_f hp, bI_f (fun hq => hp (h.mpr hq))]
theorem same_aI {E : Ez} {f f1 : Nat → va_E} {a b n : Nat} {g g1 : Nat → Int32} (hb : f b = aI E n g) (ha : f1 a = aI E n g1) (h : ∀ c, c ≠ a → f1 c = f c) : ∃ g2, f1 b = aI E n g2 := by
  by_cases e : b = a
  · exact ⟨g1, by rw [e]; exact ha⟩
  · exact ⟨g, (h b e).trans hb⟩
theorem same_aB {E : Ez} {f f1 : Nat → va_E} {a b n : Nat} {g g1 : Nat → Int32} (hb : f b = aB E n g) (ha : f1 a = aB E n g1) (h : ∀ c, c ≠ a → f1 c = f c) : ∃ g2, f1 b = aB E n g2 := by
  by_cases e : b = a
  · exact ⟨g1, by rw [e]; exact ha⟩
  · exact ⟨g, (h b e).trans hb⟩
theorem same_aJ {E : Ez} {f f1 : Nat → va_E} {a b n : Nat} {g g1 : Nat → Int64} (hb : f b = aJ E n g) (ha : f1 a = aJ E n g1) (h : ∀ c, c ≠ a → f1 c = f c) : ∃ g2, f1 b = aJ E n g2 := by
  by_cases e : b = a
  · exact ⟨g1, by rw [e]; exact ha⟩
  · exact ⟨g, (h b e).trans hb⟩
theorem same_aZ {E : Ez} {f f1 : Nat → va_E} {a b n : Nat} {g g1 : Nat → Int32} (hb : f b = aZ E n g) (ha : f1 a = aZ E n g1) (h : ∀ c, c ≠ a → f1 c = f c) : ∃ g2, f1 b = aZ E n g2 := by
  by_cases e : b = a
  · exact ⟨g1, by rw [e]; exact ha⟩
  · exact ⟨g, (h b e).trans hb⟩
theorem v_pick {z : Cz} {E : Ez} {nL cells slots pc : Nat} {L : List Nat} {f : Nat → va_E} {lv lv' : List (Nat × Value)} {st : List Value} (ks : List Nat) (h : lv_pick lv ks = lv') (kk : V z E nL cells slots L f pc lv' st) : V z E nL cells slots L f pc lv st := fun H locs ls hP hD hS hl => kk H locs ls hP hD hS (lv_sub hl ks h)
theorem v_copyi {z : Cz} {E : Ez} {cc : ByteArray} {own : String} {nL d mc ms cells slots pc : Nat} {L : List Nat} {f : Nat → va_E} {lv : List (Nat × Value)} {st : List Value} (hC : Cx z E cc own nL d mc ms) {index a0 a n0 n1 : Nat} {g0 g1 : Nat → Int32} (w1 : Cond.methodLink own index arraycopyName ∈ ALLg) (w2 : Cond.native arraycopyName ∈ ALLg) (w3 : Cond.static arraycopyName ∈ ALLg) (w4 : Cond.initialized "java/lang/System" ∈ ALLg) (ha0 : a0 ∈ L) (hf0 : f a0 = aI E n0 g0) (ha : a ∈ L) (hf : f a = aI E n1 g1) {sp dp n : Int32} (h1 : ¬ sp < 0) (h2 : ¬ dp < 0) (h3 : ¬ n < 0) (h4 : sp.toNatClampNeg + n.toNatClampNeg ≤ n0) (h5 : dp.toNatClampNeg + n.toNatClampNeg ≤ n1) (hd : 1 ≤ d) (hW : (st.map fun v => v.category).sum ≤ 8) (hdg : decode cc pc = .ok (.invokestatic index, 3)) (kk : ∀ f1 : Nat → va_E, f1 a = aI E n1 (va_cpy g0 g1 sp.toNatClampNeg dp.toNatClampNeg n.toNatClampNeg) → (∀ b, b ≠ a → f1 b = f b) → V z E nL cells slots L f1 (pc + 3) lv st) : V z E nL cells slots L f pc lv (.int n :: .int dp :: .ref a :: .int sp :: .ref a0 :: st) := by
  intro H locs ls hP hD hS hl
  obtain ⟨q0, hq0⟩ := pl_at (f := f) ha0
  rw [hf0] at hq0
  obtain ⟨q1, hq1⟩ := pl_at (f := f) ha
  have hq2 := hq1
  rw [hf] at hq1
  have hr := hC.2.2.2.2.2.2.2
  have hn : nativeFrameWords "java/lang/System" "arraycopy" 5 = 7 := by decide
  refine va_copyi hC.1 hC.2.1 (by rw [hC.2.2.1]; exact hl.1.symm) hC.2.2.2.1 (hC.2.2.2.2.1 _ w1) (hC.2.2.2.2.1 _ w2) (hC.2.2.2.2.1 _ w3) (hC.2.2.2.2.1 _ w4) hC.2.2.2.2.2.1.1 hP hD hS q0 q1 1 1 (ty := .int) hq0 hq1 rfl rfl rfl h1 h2 h3 h4 h5 (fun _ _ => rfl) (by omega) (by rw [hn]; omega) hdg (fun H1 locs1 hP1 hD1 hS1 => ?_)
  rw [pl_set hD ha hq2] at hP1 hD1
  exact kk _ (by simp [va_up]) (fun b hb => by simp [va_up, hb]) H1 locs1 ls hP1 hD1 hS1 hl
theorem v_copyb {z : Cz} {E : Ez} {cc : ByteArray} {own : String} {nL d mc ms cells slots pc : Nat} {L : List Nat} {f : Nat → va_E} {lv : List (Nat × Value)} {st : List Value} (hC : Cx z E cc own nL d mc ms) {index a0 a n0 n1 : Nat} {g0 g1 : Nat → Int32} (w1 : Cond.methodLink own index arraycopyName ∈ ALLg) (w2 : Cond.native arraycopyName ∈ ALLg) (w3 : Cond.static arraycopyName ∈ ALLg) (w4 : Cond.initialized "java/lang/System" ∈ ALLg) (ha0 : a0 ∈ L) (hf0 : f a0 = aB E n0 g0) (ha : a ∈ L) (hf : f a = aB E n1 g1) {sp dp n : Int32} (h1 : ¬ sp < 0) (h2 : ¬ dp < 0) (h3 : ¬ n < 0) (h4 : sp.toNatClampNeg + n.toNatClampNeg ≤ n0) (h5 : dp.toNatClampNeg + n.toNatClampNeg ≤ n1) (hfit : ∀ j, fits .byte (.int (g0 j)) = true) (hd : 1 ≤ d) (hW : (st.map fun v => v.category).sum ≤ 8) (hdg : decode cc pc = .ok (.invokestatic index, 3)) (kk : ∀ f1 : Nat → va_E, f1 a = aB E n1 (va_cpy g0 g1 sp.toNatClampNeg dp.toNatClampNeg n.toNatClampNeg) → (∀ b, b ≠ a → f1 b = f b) → V z E nL cells slots L f1 (pc + 3) lv st) : V z E nL cells slots L f pc lv (.int n :: .int dp :: .ref a :: .int sp :: .ref a0 :: st) := by
  intro H locs ls hP hD hS hl
  obtain ⟨q0, hq0⟩ := pl_at (f := f) ha0
  rw [hf0] at hq0
  obtain ⟨q1, hq1⟩ := pl_at (f := f) ha
  have hq2 := hq1
  rw [hf] at hq1
  have hr := hC.2.2.2.2.2.2.2
  have hn : nativeFrameWords "java/lang/System" "arraycopy" 5 = 7 := by decide
  refine va_copyi hC.1 hC.2.1 (by rw [hC.2.2.1]; exact hl.1.symm) hC.2.2.2.1 (hC.2.2.2.2.1 _ w1) (hC.2.2.2.2.1 _ w2) (hC.2.2.2.2.1 _ w3) (hC.2.2.2.2.1 _ w4) hC.2.2.2.2.2.1.1 hP hD hS q0 q1 0 0 (ty := .byte) hq0 hq1 rfl rfl rfl h1 h2 h3 h4 h5 (fun i _ => hfit _) (by omega) (by rw [hn]; omega) hdg (fun H1 locs1 hP1 hD1 hS1 => ?_)
  rw [pl_set hD ha hq2] at hP1 hD1
  exact kk _ (by simp [va_up]) (fun b hb => by simp [va_up, hb]) H1 locs1 ls hP1 hD1 hS1 hl
theorem v_copyl {z : Cz} {E : Ez} {cc : ByteArray} {own : String} {nL d mc ms cells slots pc : Nat} {L : List Nat} {f : Nat → va_E} {lv : List (Nat × Value)} {st : List Value} (hC : Cx z E cc own nL d mc ms) {index a0 a n0 n1 : Nat} {g0 g1 : Nat → Int64} (w1 : Cond.methodLink own index arraycopyName ∈ ALLg) (w2 : Cond.native arraycopyName ∈ ALLg) (w3 : Cond.static arraycopyName ∈ ALLg) (w4 : Cond.initialized "java/lang/System" ∈ ALLg) (ha0 : a0 ∈ L) (hf0 : f a0 = aJ E n0 g0) (ha : a ∈ L) (hf : f a = aJ E n1 g1) {sp dp n : Int32} (h1 : ¬ sp < 0) (h2 : ¬ dp < 0) (h3 : ¬ n < 0) (h4 : sp.toNatClampNeg + n.toNatClampNeg ≤ n0) (h5 : dp.toNatClampNeg + n.toNatClampNeg ≤ n1) (hd : 1 ≤ d) (hW : (st.map fun v => v.category).sum ≤ 8) (hdg : decode cc pc = .ok (.invokestatic index, 3)) (kk : ∀ f1 : Nat → va_E, f1 a = aJ E n1 (va_cpy g0 g1 sp.toNatClampNeg dp.toNatClampNeg n.toNatClampNeg) → (∀ b, b ≠ a → f1 b = f b) → V z E nL cells slots L f1 (pc + 3) lv st) : V z E nL cells slots L f pc lv (.int n :: .int dp :: .ref a :: .int sp :: .ref a0 :: st) := by
  intro H locs ls hP hD hS hl
  obtain ⟨q0, hq0⟩ := pl_at (f := f) ha0
  rw [hf0] at hq0
  obtain ⟨q1, hq1⟩ := pl_at (f := f) ha
  have hq2 := hq1
  rw [hf] at hq1
  have hr := hC.2.2.2.2.2.2.2
  have hn : nativeFrameWords "java/lang/System" "arraycopy" 5 = 7 := by decide
  refine va_copyl hC.1 hC.2.1 (by rw [hC.2.2.1]; exact hl.1.symm) hC.2.2.2.1 (hC.2.2.2.2.1 _ w1) (hC.2.2.2.2.1 _ w2) (hC.2.2.2.2.1 _ w3) (hC.2.2.2.2.1 _ w4) hC.2.2.2.2.2.1.1 hP hD hS q0 q1 2 2 (ty := .long) hq0 hq1 rfl rfl rfl h1 h2 h3 h4 h5 (fun _ _ => rfl) (by omega) (by rw [hn]; omega) hdg (fun H1 locs1 hP1 hD1 hS1 => ?_)
  rw [pl_set hD ha hq2] at hP1 hD1
  exact kk _ (by simp [va_up]) (fun b hb => by simp [va_up, hb]) H1 locs1 ls hP1 hD1 hS1 hl
theorem noop {f f1 : Nat → va_E} {a : Nat} {e : va_E} (h0 : f a = e) (h1 : f1 a = e) (h2 : ∀ b, b ≠ a → f1 b = f b) : ∀ b, f1 b = f b := by
  intro b
  by_cases h : b = a
  · rw [h, h1, h0]
  · exact h2 b h
theorem upd_zero (k : Nat) : upd (fun _ => (0 : Int32)) k 0 = fun _ => 0 := by
  funext j
  unfold upd
  split <;> rfl
theorem cpy_const {α : Type} (v : α) (a b n : Nat) : va_cpy (fun _ => v) (fun _ => v) a b n = fun _ => v := by
  funext j
  unfold va_cpy
  split <;> rfl
