/-! THE LAYER. A world is a list L of addresses and what stands there, f. V: 'from this place, with these locals and this stack, over this world, the machine comes to its end'. -/
abbrev Ez : Type := va_G × (Nat → ClassId) × (Nat → Nat) × (Nat → Nat)
abbrev eD (E : Ez) : va_G := E.1
abbrev eC (E : Ez) : Nat → ClassId := E.2.1
abbrev eK (E : Ez) : Nat → Nat := E.2.2.1
abbrev eV (E : Ez) : Nat → Nat := E.2.2.2
abbrev tysE (E : Ez) : List (ClassId × FieldType) := [(eC E 0, .byte), (eC E 1, .int), (eC E 2, .long), (eC E 3, .boolean), (eC E 4, .object "StitchSays$Basket"), (eC E 5, .object "StitchSays$Cloth"), (eC E 6, .object "StitchSays$Slot"), (eC E 7, .object "StitchSays$Way")]
abbrev aB (E : Ez) (n : Nat) (g : Nat → Int32) : va_E := .inl (eC E 0, n, .inl g)
abbrev aI (E : Ez) (n : Nat) (g : Nat → Int32) : va_E := .inl (eC E 1, n, .inl g)
abbrev aJ (E : Ez) (n : Nat) (g : Nat → Int64) : va_E := .inl (eC E 2, n, .inr (.inl g))
abbrev aZ (E : Ez) (n : Nat) (g : Nat → Int32) : va_E := .inl (eC E 3, n, .inl g)
abbrev aR (E : Ez) (t : Nat) (n : Nat) (g : Nat → Option Nat) : va_E := .inl (eC E t, n, .inr (.inr (.inr (.inr g))))
abbrev ob (k : Nat) (fs : List Value) : va_E := .inr (k, fs)
/-- all words that a call may hand on -/
def ALLg : List Cond := lw_tbl.filter goodWord
theorem al_in {w : Cond} (h : w ∈ lw_tbl) (g : goodWord w = true) : w ∈ ALLg := List.mem_filter.mpr ⟨h, g⟩
theorem al_tbl {w : Cond} (h : w ∈ ALLg) : w ∈ lw_tbl := (List.mem_filter.mp h).1
theorem al_good {w : Cond} (h : w ∈ ALLg) : goodWord w = true := (List.mem_filter.mp h).2
/-- the texts: an object of String each, its bytes -/
def StrX (E : Ez) (A : Nat → Prop) (U : State) (H : Heap) : Prop := ∀ i : Nat, i < 77 → va_O "java/lang/String" (eK E i) A U H ∧ va_OF "java/lang/String" "coder" "B" (.int 0) (eK E i) A U H ∧ va_OF "java/lang/String" "value" "[B" (.ref (eV E i)) (eK E i) A U H ∧ va_T .byte (eV E i) ((bytStr.getD i []).length) (fun j => .int ((bytStr.getD i []).getD j 0)) A U H
theorem StrX.moved {E : Ez} {A : Nat → Prop} {u U : State} {H : Heap} (hvm : u.vm.Alike U.vm) (h : StrX E A u H) : StrX E A U H := fun i hi => ⟨va_O.moved hvm (h i hi).1, va_OF.moved hvm (h i hi).2.1, va_OF.moved hvm (h i hi).2.2.1, va_T.moved hvm (h i hi).2.2.2⟩
theorem StrX.kept {E : Ez} {A : Nat → Prop} {U : State} {H H1 : Heap} (h : StrX E A U H) (hq : ∀ a : Nat, a < H.size → ¬ A a → H1[a]? = H[a]?) : StrX E A U H1 := fun i hi => ⟨(h i hi).1.kept hq, (h i hi).2.1.kept hq, (h i hi).2.2.1.kept hq, (h i hi).2.2.2.kept hq⟩
theorem StrX.narrow {E : Ez} {A B : Nat → Prop} {U : State} {H : Heap} (h : StrX E A U H) (hAB : ∀ q, B q → A q) : StrX E B U H := fun i hi => ⟨(h i hi).1.narrow hAB, (h i hi).2.1.narrow hAB, (h i hi).2.2.1.narrow hAB, (h i hi).2.2.2.narrow hAB⟩
/-- what the tables say beside the words: of nest mates and of texts -/
def aoW : List String := ["StitchSays$Basket", "StitchSays$Cloth", "StitchSays$Slot", "StitchSays$Way"]
def Kx (E : Ez) (A : Nat → Prop) (U : State) (H : Heap) : Prop :=
  va_K (eD E) vwCl (tysE E) U ∧ (∀ w ∈ nestW, va_Nw w U) ∧ (∀ q ∈ strW, vk_R q.1 q.2.1 q.2.2.1 (eK E q.2.2.2) U) ∧ StrX E A U H ∧ va_Z "java/lang/String" "COMPACT_STRINGS" "Z" (.int 1) A U H ∧ (∀ C ∈ aoW, va_AO C U) ∧ va_Zq "jdk/internal/util/Preconditions" "SIOOBE_FORMATTER" "Ljava/util/function/BiFunction;" A U H
theorem Kx.call {E : Ez} {A B : Nat → Prop} {s U : State} {H H1 : Heap} (h : Kx E A s H) (hW : s.WarmedH U.vm) (hq : ∀ a : Nat, a < H.size → ¬ A a → H1[a]? = H[a]?) (hAB : ∀ q, B q → A q) : Kx E B U H1 := by
  obtain ⟨h1, h2, h3, h4, h5, h6, h7⟩ := h
  refine ⟨va_K.moved hW.alike h1, fun w hw => ?_, fun q hq => vk_R.warm hW (h3 q hq), ((h4.moved hW.alike).kept hq).narrow hAB, ((h5.moved hW.alike).kept hq).narrow hAB, fun C hc => va_AO.moved hW.alike (h6 C hc), ((h7.moved hW.alike).kept hq).narrow hAB⟩
  rcases nestW_form w hw with ⟨a, i, b, n, d, g, rfl⟩ | ⟨a, i, y, g, rfl⟩
  · exact va_Nw.warmF hW (h2 _ hw)
  · exact va_Nw.warmM hW (h2 _ hw)
theorem Kx.blind {E : Ez} {A : Nat → Prop} {U : State} (g : JFrame) (mk : MethodId) (a : Array Value) (h : Kx E A U U.heap) : Kx E A (U.calling g mk a) (U.calling g mk a).heap := by
  obtain ⟨h1, h2, h3, h4, h5, h6, h7⟩ := h
  have hal : U.vm.Alike (U.calling g mk a).vm := Vm.Alike.refl U.vm
  refine ⟨va_K.moved hal h1, fun w hw => ?_, fun q hq => vk_R.same (u := U) rfl (h3 q hq), h4.moved hal, h5.moved hal, fun C hc => va_AO.moved hal (h6 C hc), h7.moved hal⟩
  rcases nestW_form w hw with ⟨x1, i, b, n, d, gg, rfl⟩ | ⟨x1, i, y, gg, rfl⟩
  · exact va_Nw.same (u := U) rfl rfl (h2 _ hw)
  · exact va_Nw.same (u := U) rfl rfl (h2 _ hw)
abbrev rmd (d mc ms : Nat) : Room := { frames := d, cells := mc, slots := ms, locals := 38 * d }
abbrev Pool : Type := List Nat × (Nat → va_E)
def PreX (E : Ez) (L : List Nat) (f : Nat → va_E) (sz : Nat) (U : State) : Prop := U.heap.size = sz ∧ va_P (eD E) vwCl (va_pl L f) U.heap ∧ va_D (fun _ => True) (va_pl L f) ∧ Kx E (va_A (va_pl L f) sz) U U.heap
def PstX (E : Ez) (L : List Nat) (f : Nat → va_E) (sz : Nat) (u : Pool) (t : State) : Prop := va_P (eD E) vwCl (va_pl u.1 u.2) t.heap ∧ va_D (va_A (va_pl L f) sz) (va_pl u.1 u.2)
/-- contracts: of a method that answers an int (boolean, byte, char, short), of one that answers nothing, of one that answers a long -/
def CI (l : Launch) (y : MethodName) (c : ByteArray) (n : Nat) (ty : FieldType) (d mc ms : Nat) (E : Ez) (av : List Value) (L : List Nat) (f : Nat → va_E) (post : Int32 → List Nat → (Nat → va_E) → Prop) : Prop :=
  ∀ sz : Nat, Met l y (.code y c n (some ty) :: ALLg) (rmd d mc ms) (va_Pc av (PreX E L f sz)) (va_Qi (fun r (u : Pool) => post r u.1 u.2) (PstX E L f sz) (va_A (va_pl L f) sz)) mc ms (va_A (va_pl L f) sz)
def CV (l : Launch) (y : MethodName) (c : ByteArray) (n : Nat) (d mc ms : Nat) (E : Ez) (av : List Value) (L : List Nat) (f : Nat → va_E) (post : List Nat → (Nat → va_E) → Prop) : Prop :=
  ∀ sz : Nat, Met l y (.code y c n none :: ALLg) (rmd d mc ms) (va_Pc av (PreX E L f sz)) (va_Qv (fun (u : Pool) => post u.1 u.2) (PstX E L f sz) (va_A (va_pl L f) sz)) mc ms (va_A (va_pl L f) sz)
def CJ (l : Launch) (y : MethodName) (c : ByteArray) (n : Nat) (d mc ms : Nat) (E : Ez) (av : List Value) (L : List Nat) (f : Nat → va_E) (post : Int64 → List Nat → (Nat → va_E) → Prop) : Prop :=
  ∀ sz : Nat, Met l y (.code y c n (some .long) :: ALLg) (rmd d mc ms) (va_Pc av (PreX E L f sz)) (va_Ql (fun r (u : Pool) => post r u.1 u.2) (PstX E L f sz) (va_A (va_pl L f) sz)) mc ms (va_A (va_pl L f) sz)
theorem PreX.blind {E : Ez} {L : List Nat} {f : Nat → va_E} {sz : Nat} (av : List Value) : FrameBlind (va_Pc av (PreX E L f sz)) := fun a U g mk h => ⟨h.1, h.2.1, h.2.2.1, h.2.2.2.1, h.2.2.2.2.blind g mk a⟩
/-- the machine's own side of a walk -/
abbrev Cz : Type := Program × Launch × Env × Room × State × MethodId × Array Value × List Frame × Method × Code × (State → Prop) × (Nat → Prop)
abbrev zp (z : Cz) : Program := z.1
abbrev zl (z : Cz) : Launch := z.2.1
abbrev ze (z : Cz) : Env := z.2.2.1
abbrev zR (z : Cz) : Room := z.2.2.2.1
abbrev zs (z : Cz) : State := z.2.2.2.2.1
abbrev zm (z : Cz) : MethodId := z.2.2.2.2.2.1
abbrev za (z : Cz) : Array Value := z.2.2.2.2.2.2.1
abbrev zb (z : Cz) : List Frame := z.2.2.2.2.2.2.2.1
abbrev zM (z : Cz) : Method := z.2.2.2.2.2.2.2.2.1
abbrev zc (z : Cz) : Code := z.2.2.2.2.2.2.2.2.2.1
abbrev zQ (z : Cz) : State → Prop := z.2.2.2.2.2.2.2.2.2.2.1
abbrev zA (z : Cz) : Nat → Prop := z.2.2.2.2.2.2.2.2.2.2.2
def Cx (z : Cz) (E : Ez) (cc : ByteArray) (own : String) (nL d mc ms : Nat) : Prop :=
  (zp z).tables.exec = Jvm.exec ∧ (zc z).code = cc ∧ (zc z).maxLocals = nL ∧ (zs z).vm.findClass own = some (zm z).cls ∧ (∀ w ∈ ALLg, w.before (za z) (zs z) = true) ∧ Kx E (zA z) (zs z) (zs z).heap ∧ (∀ q, (zs z).heap.size ≤ q → zA z q) ∧ (d ≤ (zR z).frames ∧ 38 * d ≤ (zR z).locals ∧ mc ≤ (zR z).cells ∧ ms ≤ (zR z).slots)
def V (z : Cz) (E : Ez) (nL cells slots : Nat) (L : List Nat) (f : Nat → va_E) (pc : Nat) (lv : List (Nat × Value)) (st : List Value) : Prop :=
  ∀ (H : Heap) (locs : List Loc) (ls : Array Slot), va_P (eD E) vwCl (va_pl L f) H → va_D (zA z) (va_pl L f) → va_S (zA z) (zs z).heap H locs → lv_has ls nL lv → W (zp z) (zl z) (ze z) (zR z) (zs z) (zm z) (za z) (zb z) (zM z) (zc z) H locs cells slots (zQ z) (F0 (zm z) pc ls st)
def lvg (lv : List (Nat × Value)) (i : Nat) : Option Value := (lv.find? (fun q => q.1 == i)).map (fun q => q.2)
theorem lvg_at {ls : Array Slot} {nL : Nat} {lv : List (Nat × Value)} {i : Nat} {v : Value} (h : lv_has ls nL lv) (hg : lvg lv i = some v) : ls[i]? = some (.val v) := by
  unfold lvg at hg
  cases hf : lv.find? (fun q => q.1 == i) with
  | none => rw [hf] at hg; cases hg
  | some q =>
    rw [hf] at hg
    have h1 : q ∈ lv := List.mem_of_find?_eq_some hf
    have h2 : (fun q : Nat × Value => q.1 == i) q = true := List.find?_some (p := fun q : Nat × Value => q.1 == i) hf
    have h3 : q.1 = i := by simpa using h2
    have h4 : q.2 = v := by simpa using hg
    have := h.2.2 q h1
    rw [h3, h4] at this
    exact this
abbrev lvs1 (lv : List (Nat × Value)) (i : Nat) (v : Value) : List (Nat × Value) := (i, v) :: lv.filter (fun q => !(q.1 == i) && !(q.1 + 1 == i && q.2.category == 2))
abbrev lvs2 (lv : List (Nat × Value)) (i : Nat) (v : Value) : List (Nat × Value) := (i, v) :: lv.filter (fun q => !(q.1 == i) && (!(q.1 == i + 1) && !(q.1 + 1 == i && q.2.category == 2)))
theorem pl_at {L : List Nat} {f : Nat → va_E} {a : Nat} (h : a ∈ L) : ∃ k : Nat, (va_pl L f)[k]? = some (a, f a) := by
  obtain ⟨k, hk⟩ := va_pl_get (X := []) (f := f) h
  exact ⟨k, hk⟩
theorem pl_set {A : Nat → Prop} {L : List Nat} {f : Nat → va_E} {a k : Nat} {e : va_E} (hD : va_D A (va_pl L f)) (h : a ∈ L) (hk : (va_pl L f)[k]? = some (a, f a)) : (va_pl L f).set k (a, e) = va_pl L (va_up f a e) := va_pl_set (X := []) hD h hk
section VL
variable {z : Cz} {E : Ez} {cc : ByteArray} {own : String} {nL d mc ms cells slots pc : Nat} {L : List Nat} {f : Nat → va_E} {lv lv' : List (Nat × Value)} {st : List Value}
theorem v_widen {k n : Nat} (h1 : cells ≤ k) (h2 : slots ≤ n) (kk : V z E nL k n L f pc lv st) : V z E nL cells slots L f pc lv st := fun H locs ls hP hD hS hl => W.widen h1 h2 (kk H locs ls hP hD hS hl)
theorem v_lv (h : ∀ q ∈ lv', q ∈ lv) (kk : V z E nL cells slots L f pc lv' st) : V z E nL cells slots L f pc lv st := fun H locs ls hP hD hS hl => kk H locs ls hP hD hS ⟨hl.1, hl.2.1, fun q hq => hl.2.2 q (h q hq)⟩
theorem v_iconst (hC : Cx z E cc own nL d mc ms) {n : Int} {v : Int32} (hdg : decode cc pc = .ok (.iconst n, 1)) (hv : Int32.ofInt n = v) (kk : V z E nL cells slots L f (pc + 1) lv (.int v :: st)) : V z E nL cells slots L f pc lv st := fun H locs ls hP hD hS hl => lv_iconst hC.1 hC.2.1 hdg hv (kk H locs ls hP hD hS hl)
theorem v_bipush (hC : Cx z E cc own nL d mc ms) {n : Int} {v : Int32} (hdg : decode cc pc = .ok (.bipush n, 2)) (hv : (Int8.ofInt n).toInt32 = v) (kk : V z E nL cells slots L f (pc + 2) lv (.int v :: st)) : V z E nL cells slots L f pc lv st := fun H locs ls hP hD hS hl => lv_bipush hC.1 hC.2.1 hdg hv (kk H locs ls hP hD hS hl)
theorem v_sipush (hC : Cx z E cc own nL d mc ms) {n : Int} {v : Int32} (hdg : decode cc pc = .ok (.sipush n, 3)) (hv : (Int16.ofInt n).toInt32 = v) (kk : V z E nL cells slots L f (pc + 3) lv (.int v :: st)) : V z E nL cells slots L f pc lv st := fun H locs ls hP hD hS hl => lv_sipush hC.1 hC.2.1 hdg hv (kk H locs ls hP hD hS hl)
theorem v_lconst (hC : Cx z E cc own nL d mc ms) {n : Fin 2} {v : Int64} (hdg : decode cc pc = .ok (.lconst n, 1)) (hv : Int64.ofNat (n : Nat) = v) (kk : V z E nL cells slots L f (pc + 1) lv (.long v :: st)) : V z E nL cells slots L f pc lv st := fun H locs ls hP hD hS hl => lv_lconst hC.1 hC.2.1 hdg hv (kk H locs ls hP hD hS hl)
theorem v_null (hC : Cx z E cc own nL d mc ms) (hdg : decode cc pc = .ok (.aconst_null, 1)) (kk : V z E nL cells slots L f (pc + 1) lv (.null :: st)) : V z E nL cells slots L f pc lv st := fun H locs ls hP hD hS hl => lv_null hC.1 hC.2.1 hdg (kk H locs ls hP hD hS hl)
theorem v_ldc (hC : Cx z E cc own nL d mc ms) {index : Nat} {v : Int32} (hw : Cond.constant own index v ∈ ALLg) (hdg : decode cc pc = .ok (.ldc index, 2)) (kk : V z E nL cells slots L f (pc + 2) lv (.int v :: st)) : V z E nL cells slots L f pc lv st := fun H locs ls hP hD hS hl => lv_ldc hC.1 hC.2.1 hC.2.2.2.1 (hC.2.2.2.2.1 _ hw) hdg (kk H locs ls hP hD hS hl)
theorem v_ldc2 (hC : Cx z E cc own nL d mc ms) {index : Nat} {v : Int64} (hw : Cond.constantLong own index v ∈ ALLg) (hdg : decode cc pc = .ok (.ldc2_w index, 3)) (kk : V z E nL cells slots L f (pc + 3) lv (.long v :: st)) : V z E nL cells slots L f pc lv st := fun H locs ls hP hD hS hl => lv_ldc2 hC.1 hC.2.1 hC.2.2.2.1 (hC.2.2.2.2.1 _ hw) hdg (kk H locs ls hP hD hS hl)
theorem v_ldcS (hC : Cx z E cc own nL d mc ms) {index i : Nat} {tx : String} (hw : (own, index, tx, i) ∈ strW) (hdg : decode cc pc = .ok (.ldc index, 2)) (kk : V z E nL cells slots L f (pc + 2) lv (.ref (eK E i) :: st)) : V z E nL cells slots L f pc lv st := fun H locs ls hP hD hS hl => va_ldcS hC.1 hC.2.1 hC.2.2.2.1 (hC.2.2.2.2.2.1.2.2.1 _ hw) hdg (kk H locs ls hP hD hS hl)
theorem v_iload_n (hC : Cx z E cc own nL d mc ms) {k : Fin 4} {x : Int32} (hdg : decode cc pc = .ok (.iload_n k, 1)) (hg : lvg lv k.val = some (.int x)) (kk : V z E nL cells slots L f (pc + 1) lv (.int x :: st)) : V z E nL cells slots L f pc lv st := fun H locs ls hP hD hS hl => lv_iload_n hC.1 hC.2.1 hdg rfl (lvg_at hl hg) (kk H locs ls hP hD hS hl)
theorem v_iload (hC : Cx z E cc own nL d mc ms) {i : Nat} {x : Int32} (hdg : decode cc pc = .ok (.iload i, 2)) (hg : lvg lv i = some (.int x)) (kk : V z E nL cells slots L f (pc + 2) lv (.int x :: st)) : V z E nL cells slots L f pc lv st := fun H locs ls hP hD hS hl => lv_iload hC.1 hC.2.1 hdg (lvg_at hl hg) (kk H locs ls hP hD hS hl)
theorem v_lload_n (hC : Cx z E cc own nL d mc ms) {k : Fin 4} {x : Int64} (hdg : decode cc pc = .ok (.lload_n k, 1)) (hg : lvg lv k.val = some (.long x)) (kk : V z E nL cells slots L f (pc + 1) lv (.long x :: st)) : V z E nL cells slots L f pc lv st := fun H locs ls hP hD hS hl => lv_lload_n hC.1 hC.2.1 hdg rfl (lvg_at hl hg) (kk H locs ls hP hD hS hl)
theorem v_lload (hC : Cx z E cc own nL d mc ms) {i : Nat} {x : Int64} (hdg : decode cc pc = .ok (.lload i, 2)) (hg : lvg lv i = some (.long x)) (kk : V z E nL cells slots L f (pc + 2) lv (.long x :: st)) : V z E nL cells slots L f pc lv st := fun H locs ls hP hD hS hl => lv_lload hC.1 hC.2.1 hdg (lvg_at hl hg) (kk H locs ls hP hD hS hl)
theorem v_aload_n (hC : Cx z E cc own nL d mc ms) {k : Fin 4} {x : Nat} (hdg : decode cc pc = .ok (.aload_n k, 1)) (hg : lvg lv k.val = some (.ref x)) (kk : V z E nL cells slots L f (pc + 1) lv (.ref x :: st)) : V z E nL cells slots L f pc lv st := fun H locs ls hP hD hS hl => lv_aload_n hC.1 hC.2.1 hdg rfl (lvg_at hl hg) (kk H locs ls hP hD hS hl)
theorem v_aload (hC : Cx z E cc own nL d mc ms) {i : Nat} {x : Nat} (hdg : decode cc pc = .ok (.aload i, 2)) (hg : lvg lv i = some (.ref x)) (kk : V z E nL cells slots L f (pc + 2) lv (.ref x :: st)) : V z E nL cells slots L f pc lv st := fun H locs ls hP hD hS hl => lv_aload hC.1 hC.2.1 hdg (lvg_at hl hg) (kk H locs ls hP hD hS hl)
theorem v_istore_n (hC : Cx z E cc own nL d mc ms) {k : Fin 4} {x : Int32} (hdg : decode cc pc = .ok (.istore_n k, 1)) (hn : k.val < nL) (h' : lvs1 lv k.val (.int x) = lv') (kk : V z E nL cells slots L f (pc + 1) lv' st) : V z E nL cells slots L f pc lv (.int x :: st) := fun H locs ls hP hD hS hl => lv_istore_n hC.1 hC.2.1 hdg rfl hl hn h' (fun ls hl => kk H locs ls hP hD hS hl)
theorem v_istore (hC : Cx z E cc own nL d mc ms) {i : Nat} {x : Int32} (hdg : decode cc pc = .ok (.istore i, 2)) (hn : i < nL) (h' : lvs1 lv i (.int x) = lv') (kk : V z E nL cells slots L f (pc + 2) lv' st) : V z E nL cells slots L f pc lv (.int x :: st) := fun H locs ls hP hD hS hl => lv_istore hC.1 hC.2.1 hdg hl hn h' (fun ls hl => kk H locs ls hP hD hS hl)
theorem v_lstore_n (hC : Cx z E cc own nL d mc ms) {k : Fin 4} {x : Int64} (hdg : decode cc pc = .ok (.lstore_n k, 1)) (hn : k.val + 1 < nL) (h' : lvs2 lv k.val (.long x) = lv') (kk : V z E nL cells slots L f (pc + 1) lv' st) : V z E nL cells slots L f pc lv (.long x :: st) := fun H locs ls hP hD hS hl => lv_lstore_n hC.1 hC.2.1 hdg rfl hl hn h' (fun ls hl => kk H locs ls hP hD hS hl)
theorem v_lstore (hC : Cx z E cc own nL d mc ms) {i : Nat} {x : Int64} (hdg : decode cc pc = .ok (.lstore i, 2)) (hn : i + 1 < nL) (h' : lvs2 lv i (.long x) = lv') (kk : V z E nL cells slots L f (pc + 2) lv' st) : V z E nL cells slots L f pc lv (.long x :: st) := fun H locs ls hP hD hS hl => lv_lstore hC.1 hC.2.1 hdg hl hn h' (fun ls hl => kk H locs ls hP hD hS hl)
theorem v_astore_n (hC : Cx z E cc own nL d mc ms) {k : Fin 4} {x : Nat} (hdg : decode cc pc = .ok (.astore_n k, 1)) (hn : k.val < nL) (h' : lvs1 lv k.val (.ref x) = lv') (kk : V z E nL cells slots L f (pc + 1) lv' st) : V z E nL cells slots L f pc lv (.ref x :: st) := fun H locs ls hP hD hS hl => lv_astore_n hC.1 hC.2.1 hdg rfl hl hn h' (fun ls hl => kk H locs ls hP hD hS hl)
theorem v_astore (hC : Cx z E cc own nL d mc ms) {i : Nat} {x : Nat} (hdg : decode cc pc = .ok (.astore i, 2)) (hn : i < nL) (h' : lvs1 lv i (.ref x) = lv') (kk : V z E nL cells slots L f (pc + 2) lv' st) : V z E nL cells slots L f pc lv (.ref x :: st) := fun H locs ls hP hD hS hl => lv_astore hC.1 hC.2.1 hdg hl hn h' (fun ls hl => kk H locs ls hP hD hS hl)
theorem v_iinc (hC : Cx z E cc own nL d mc ms) {i k : Nat} {n : Int} {x v : Int32} (hdg : decode cc pc = .ok (.iinc i n, 3)) (hk : lv[k]? = some (i, .int x)) (hv : x + Int32.ofInt n = v) (hn : i < nL) (h' : lvs1 lv i (.int v) = lv') (kk : V z E nL cells slots L f (pc + 3) lv' st) : V z E nL cells slots L f pc lv st := fun H locs ls hP hD hS hl => lv_iinc hC.1 hC.2.1 hdg hl hk hv hn h' (fun ls hl => kk H locs ls hP hD hS hl)
theorem v_dup (hC : Cx z E cc own nL d mc ms) {v : Value} (hdg : decode cc pc = .ok (.dup, 1)) (hv : v.category = 1) (kk : V z E nL cells slots L f (pc + 1) lv (v :: v :: st)) : V z E nL cells slots L f pc lv (v :: st) := fun H locs ls hP hD hS hl => lv_dup hC.1 hC.2.1 hdg hv (kk H locs ls hP hD hS hl)
theorem v_pop (hC : Cx z E cc own nL d mc ms) {v : Value} (hdg : decode cc pc = .ok (.pop, 1)) (hv : v.category = 1) (kk : V z E nL cells slots L f (pc + 1) lv st) : V z E nL cells slots L f pc lv (v :: st) := fun H locs ls hP hD hS hl => lv_pop hC.1 hC.2.1 hdg hv (kk H locs ls hP hD hS hl)
theorem v_dup2 (hC : Cx z E cc own nL d mc ms) {v w : Value} (hdg : decode cc pc = .ok (.dup2, 1)) (hv : v.category = 1) (hw : w.category = 1) (kk : V z E nL cells slots L f (pc + 1) lv (v :: w :: v :: w :: st)) : V z E nL cells slots L f pc lv (v :: w :: st) := fun H locs ls hP hD hS hl => lv_dup2_11 hC.1 hC.2.1 hdg hv hw (kk H locs ls hP hD hS hl)
theorem v_dup_x1 (hC : Cx z E cc own nL d mc ms) {v w : Value} (hdg : decode cc pc = .ok (.dup_x1, 1)) (hv : v.category = 1) (hw : w.category = 1) (kk : V z E nL cells slots L f (pc + 1) lv (v :: w :: v :: st)) : V z E nL cells slots L f pc lv (v :: w :: st) := fun H locs ls hP hD hS hl => lv_dup_x1 hC.1 hC.2.1 hdg hv hw (kk H locs ls hP hD hS hl)
theorem v_goto (hC : Cx z E cc own nL d mc ms) {off : Int} {tgt : Nat} (hdg : decode cc pc = .ok (.goto off, 3)) (ht : (pc : Int) + off = (tgt : Int)) (kk : V z E nL cells slots L f tgt lv st) : V z E nL cells slots L f pc lv st := fun H locs ls hP hD hS hl => lv_goto hC.1 hC.2.1 hdg ht (kk H locs ls hP hD hS hl)
theorem v_iadd (hC : Cx z E cc own nL d mc ms) {x y v : Int32} (hdg : decode cc pc = .ok (.iadd, 1)) (hv : x + y = v) (kk : V z E nL cells slots L f (pc + 1) lv (.int v :: st)) : V z E nL cells slots L f pc lv (.int y :: .int x :: st) := by
  subst hv
  exact fun H locs ls hP hD hS hl => lv_iadd hC.1 hC.2.1 hdg (kk H locs ls hP hD hS hl)
theorem v_isub (hC : Cx z E cc own nL d mc ms) {x y v : Int32} (hdg : decode cc pc = .ok (.isub, 1)) (hv : x - y = v) (kk : V z E nL cells slots L f (pc + 1) lv (.int v :: st)) : V z E nL cells slots L f pc lv (.int y :: .int x :: st) := by
  subst hv
  exact fun H locs ls hP hD hS hl => lv_isub hC.1 hC.2.1 hdg (kk H locs ls hP hD hS hl)
theorem v_imul (hC : Cx z E cc own nL d mc ms) {x y v : Int32} (hdg : decode cc pc = .ok (.imul, 1)) (hv : x * y = v) (kk : V z E nL cells slots L f (pc + 1) lv (.int v :: st)) : V z E nL cells slots L f pc lv (.int y :: .int x :: st) := by
  subst hv
  exact fun H locs ls hP hD hS hl => lv_imul hC.1 hC.2.1 hdg (kk H locs ls hP hD hS hl)
theorem v_iand (hC : Cx z E cc own nL d mc ms) {x y v : Int32} (hdg : decode cc pc = .ok (.iand, 1)) (hv : x &&& y = v) (kk : V z E nL cells slots L f (pc + 1) lv (.int v :: st)) : V z E nL cells slots L f pc lv (.int y :: .int x :: st) := by
  subst hv
  exact fun H locs ls hP hD hS hl => lv_iand hC.1 hC.2.1 hdg (kk H locs ls hP hD hS hl)
theorem v_ior (hC : Cx z E cc own nL d mc ms) {x y v : Int32} (hdg : decode cc pc = .ok (.ior, 1)) (hv : x ||| y = v) (kk : V z E nL cells slots L f (pc + 1) lv (.int v :: st)) : V z E nL cells slots L f pc lv (.int y :: .int x :: st) := by
  subst hv
  exact fun H locs ls hP hD hS hl => lv_ior hC.1 hC.2.1 hdg (kk H locs ls hP hD hS hl)
theorem v_ixor (hC : Cx z E cc own nL d mc ms) {x y v : Int32} (hdg : decode cc pc = .ok (.ixor, 1)) (hv : x ^^^ y = v) (kk : V z E nL cells slots L f (pc + 1) lv (.int v :: st)) : V z E nL cells slots L f pc lv (.int y :: .int x :: st) := by
  subst hv
  exact fun H locs ls hP hD hS hl => lv_ixor hC.1 hC.2.1 hdg (kk H locs ls hP hD hS hl)
theorem v_ishl (hC : Cx z E cc own nL d mc ms) {x y v : Int32} (hdg : decode cc pc = .ok (.ishl, 1)) (hv : x <<< (y &&& 31) = v) (kk : V z E nL cells slots L f (pc + 1) lv (.int v :: st)) : V z E nL cells slots L f pc lv (.int y :: .int x :: st) := by
  subst hv
  exact fun H locs ls hP hD hS hl => lv_ishl hC.1 hC.2.1 hdg (kk H locs ls hP hD hS hl)
theorem v_ishr (hC : Cx z E cc own nL d mc ms) {x y v : Int32} (hdg : decode cc pc = .ok (.ishr, 1)) (hv : x >>> (y &&& 31) = v) (kk : V z E nL cells slots L f (pc + 1) lv (.int v :: st)) : V z E nL cells slots L f pc lv (.int y :: .int x :: st) := by
  subst hv
  exact fun H locs ls hP hD hS hl => lv_ishr hC.1 hC.2.1 hdg (kk H locs ls hP hD hS hl)
theorem v_idiv (hC : Cx z E cc own nL d mc ms) {x y v : Int32} (hdg : decode cc pc = .ok (.idiv, 1)) (hne : ¬ y = 0) (hv : x / y = v) (kk : V z E nL cells slots L f (pc + 1) lv (.int v :: st)) : V z E nL cells slots L f pc lv (.int y :: .int x :: st) := by
  subst hv
  exact fun H locs ls hP hD hS hl => lv_idiv hC.1 hC.2.1 hdg hne (kk H locs ls hP hD hS hl)
theorem v_irem (hC : Cx z E cc own nL d mc ms) {x y v : Int32} (hdg : decode cc pc = .ok (.irem, 1)) (hne : ¬ y = 0) (hv : x - x / y * y = v) (kk : V z E nL cells slots L f (pc + 1) lv (.int v :: st)) : V z E nL cells slots L f pc lv (.int y :: .int x :: st) := by
  subst hv
  exact fun H locs ls hP hD hS hl => lv_irem hC.1 hC.2.1 hdg hne (kk H locs ls hP hD hS hl)
theorem v_ladd (hC : Cx z E cc own nL d mc ms) {x y v : Int64} (hdg : decode cc pc = .ok (.ladd, 1)) (hv : x + y = v) (kk : V z E nL cells slots L f (pc + 1) lv (.long v :: st)) : V z E nL cells slots L f pc lv (.long y :: .long x :: st) := by
  subst hv
  exact fun H locs ls hP hD hS hl => lv_ladd hC.1 hC.2.1 hdg (kk H locs ls hP hD hS hl)
theorem v_lsub (hC : Cx z E cc own nL d mc ms) {x y v : Int64} (hdg : decode cc pc = .ok (.lsub, 1)) (hv : x - y = v) (kk : V z E nL cells slots L f (pc + 1) lv (.long v :: st)) : V z E nL cells slots L f pc lv (.long y :: .long x :: st) := by
  subst hv
  exact fun H locs ls hP hD hS hl => lv_lsub hC.1 hC.2.1 hdg (kk H locs ls hP hD hS hl)
theorem v_lmul (hC : Cx z E cc own nL d mc ms) {x y v : Int64} (hdg : decode cc pc = .ok (.lmul, 1)) (hv : x * y = v) (kk : V z E nL cells slots L f (pc + 1) lv (.long v :: st)) : V z E nL cells slots L f pc lv (.long y :: .long x :: st) := by
  subst hv
  exact fun H locs ls hP hD hS hl => lv_lmul hC.1 hC.2.1 hdg (kk H locs ls hP hD hS hl)
theorem v_land (hC : Cx z E cc own nL d mc ms) {x y v : Int64} (hdg : decode cc pc = .ok (.land, 1)) (hv : x &&& y = v) (kk : V z E nL cells slots L f (pc + 1) lv (.long v :: st)) : V z E nL cells slots L f pc lv (.long y :: .long x :: st) := by
  subst hv
  exact fun H locs ls hP hD hS hl => lv_land hC.1 hC.2.1 hdg (kk H locs ls hP hD hS hl)
theorem v_lor (hC : Cx z E cc own nL d mc ms) {x y v : Int64} (hdg : decode cc pc = .ok (.lor, 1)) (hv : x ||| y = v) (kk : V z E nL cells slots L f (pc + 1) lv (.long v :: st)) : V z E nL cells slots L f pc lv (.long y :: .long x :: st) := by
  subst hv
  exact fun H locs ls hP hD hS hl => lv_lor hC.1 hC.2.1 hdg (kk H locs ls hP hD hS hl)
theorem v_ldiv (hC : Cx z E cc own nL d mc ms) {x y v : Int64} (hdg : decode cc pc = .ok (.ldiv, 1)) (hne : ¬ y = 0) (hv : x / y = v) (kk : V z E nL cells slots L f (pc + 1) lv (.long v :: st)) : V z E nL cells slots L f pc lv (.long y :: .long x :: st) := by
  subst hv
  exact fun H locs ls hP hD hS hl => lv_ldiv hC.1 hC.2.1 hdg hne (kk H locs ls hP hD hS hl)
theorem v_lrem (hC : Cx z E cc own nL d mc ms) {x y v : Int64} (hdg : decode cc pc = .ok (.lrem, 1)) (hne : ¬ y = 0) (hv : x - x / y * y = v) (kk : V z E nL cells slots L f (pc + 1) lv (.long v :: st)) : V z E nL cells slots L f pc lv (.long y :: .long x :: st) := by
  subst hv
  exact fun H locs ls hP hD hS hl => lv_lrem hC.1 hC.2.1 hdg hne (kk H locs ls hP hD hS hl)
theorem v_ineg (hC : Cx z E cc own nL d mc ms) {x v : Int32} (hdg : decode cc pc = .ok (.ineg, 1)) (hv : -x = v) (kk : V z E nL cells slots L f (pc + 1) lv (.int v :: st)) : V z E nL cells slots L f pc lv (.int x :: st) := by
  subst hv
  exact fun H locs ls hP hD hS hl => lv_ineg hC.1 hC.2.1 hdg (kk H locs ls hP hD hS hl)
theorem v_i2l (hC : Cx z E cc own nL d mc ms) {x : Int32} {v : Int64} (hdg : decode cc pc = .ok (.i2l, 1)) (hv : x.toInt64 = v) (kk : V z E nL cells slots L f (pc + 1) lv (.long v :: st)) : V z E nL cells slots L f pc lv (.int x :: st) := fun H locs ls hP hD hS hl => lv_i2l hC.1 hC.2.1 hdg hv (kk H locs ls hP hD hS hl)
theorem v_l2i (hC : Cx z E cc own nL d mc ms) {x : Int64} {v : Int32} (hdg : decode cc pc = .ok (.l2i, 1)) (hv : x.toInt32 = v) (kk : V z E nL cells slots L f (pc + 1) lv (.int v :: st)) : V z E nL cells slots L f pc lv (.long x :: st) := fun H locs ls hP hD hS hl => lv_l2i hC.1 hC.2.1 hdg hv (kk H locs ls hP hD hS hl)
theorem v_i2b (hC : Cx z E cc own nL d mc ms) {x : Int32} {v : Int32} (hdg : decode cc pc = .ok (.i2b, 1)) (hv : x.toInt8.toInt32 = v) (kk : V z E nL cells slots L f (pc + 1) lv (.int v :: st)) : V z E nL cells slots L f pc lv (.int x :: st) := fun H locs ls hP hD hS hl => lv_i2b hC.1 hC.2.1 hdg hv (kk H locs ls hP hD hS hl)
theorem v_i2s (hC : Cx z E cc own nL d mc ms) {x : Int32} {v : Int32} (hdg : decode cc pc = .ok (.i2s, 1)) (hv : x.toInt16.toInt32 = v) (kk : V z E nL cells slots L f (pc + 1) lv (.int v :: st)) : V z E nL cells slots L f pc lv (.int x :: st) := fun H locs ls hP hD hS hl => lv_i2s hC.1 hC.2.1 hdg hv (kk H locs ls hP hD hS hl)
theorem v_i2c (hC : Cx z E cc own nL d mc ms) {x : Int32} {v : Int32} (hdg : decode cc pc = .ok (.i2c, 1)) (hv : (x.toUInt32 % 65536).toInt32 = v) (kk : V z E nL cells slots L f (pc + 1) lv (.int v :: st)) : V z E nL cells slots L f pc lv (.int x :: st) := fun H locs ls hP hD hS hl => lv_i2c hC.1 hC.2.1 hdg hv (kk H locs ls hP hD hS hl)
theorem v_iushr (hC : Cx z E cc own nL d mc ms) {x y v : Int32} (hdg : decode cc pc = .ok (.iushr, 1)) (hv : (x.toUInt32 >>> (y.toUInt32 &&& Int32.toUInt32 31)).toInt32 = v) (kk : V z E nL cells slots L f (pc + 1) lv (.int v :: st)) : V z E nL cells slots L f pc lv (.int y :: .int x :: st) := fun H locs ls hP hD hS hl => lv_iushr hC.1 hC.2.1 hdg hv (kk H locs ls hP hD hS hl)
theorem v_lshl (hC : Cx z E cc own nL d mc ms) {x v : Int64} {y : Int32} (hdg : decode cc pc = .ok (.lshl, 1)) (hv : x <<< (y.toInt64 &&& 63) = v) (kk : V z E nL cells slots L f (pc + 1) lv (.long v :: st)) : V z E nL cells slots L f pc lv (.int y :: .long x :: st) := fun H locs ls hP hD hS hl => lv_lshl hC.1 hC.2.1 hdg hv (kk H locs ls hP hD hS hl)
theorem v_lshr (hC : Cx z E cc own nL d mc ms) {x v : Int64} {y : Int32} (hdg : decode cc pc = .ok (.lshr, 1)) (hv : x >>> (y.toInt64 &&& 63) = v) (kk : V z E nL cells slots L f (pc + 1) lv (.long v :: st)) : V z E nL cells slots L f pc lv (.int y :: .long x :: st) := fun H locs ls hP hD hS hl => lv_lshr hC.1 hC.2.1 hdg hv (kk H locs ls hP hD hS hl)
theorem v_lcmp (hC : Cx z E cc own nL d mc ms) {x y : Int64} {v : Int32} (hdg : decode cc pc = .ok (.lcmp, 1)) (hv : lg_cmp x y = v) (kk : V z E nL cells slots L f (pc + 1) lv (.int v :: st)) : V z E nL cells slots L f pc lv (.long y :: .long x :: st) := by
  subst hv
  exact fun H locs ls hP hD hS hl => W.lcmp hC.1 hC.2.1 hdg (kk H locs ls hP hD hS hl)
theorem v_if_eq (hC : Cx z E cc own nL d mc ms) {x : Int32} {off : Int} {tgt : Nat} (hdg : decode cc pc = .ok (.ifCond .eq off, 3)) (ht : (pc : Int) + off = (tgt : Int)) (kt : x = 0 → V z E nL cells slots L f tgt lv st) (kf : ¬ x = 0 → V z E nL cells slots L f (pc + 3) lv st) : V z E nL cells slots L f pc lv (.int x :: st) := fun H locs ls hP hD hS hl => lv_if_eq hC.1 hC.2.1 hdg ht (fun h => kt h H locs ls hP hD hS hl) (fun h => kf h H locs ls hP hD hS hl)
theorem v_if_eq_t (hC : Cx z E cc own nL d mc ms) {x : Int32} {off : Int} {tgt : Nat} (hdg : decode cc pc = .ok (.ifCond .eq off, 3)) (ht : (pc : Int) + off = (tgt : Int)) (h : x = 0) (kk : V z E nL cells slots L f tgt lv st) : V z E nL cells slots L f pc lv (.int x :: st) := v_if_eq hC hdg ht (fun _ => kk) (fun q => absurd h q)
theorem v_if_eq_f (hC : Cx z E cc own nL d mc ms) {x : Int32} {off : Int} {tgt : Nat} (hdg : decode cc pc = .ok (.ifCond .eq off, 3)) (ht : (pc : Int) + off = (tgt : Int)) (h : ¬ x = 0) (kk : V z E nL cells slots L f (pc + 3) lv st) : V z E nL cells slots L f pc lv (.int x :: st) := v_if_eq hC hdg ht (fun q => absurd q h) (fun _ => kk)
theorem v_icmp_eq (hC : Cx z E cc own nL d mc ms) {x y : Int32} {off : Int} {tgt : Nat} (hdg : decode cc pc = .ok (.if_icmp .eq off, 3)) (ht : (pc : Int) + off = (tgt : Int)) (kt : x = y → V z E nL cells slots L f tgt lv st) (kf : ¬ x = y → V z E nL cells slots L f (pc + 3) lv st) : V z E nL cells slots L f pc lv (.int y :: .int x :: st) := fun H locs ls hP hD hS hl => lv_icmp_eq hC.1 hC.2.1 hdg ht (fun h => kt h H locs ls hP hD hS hl) (fun h => kf h H locs ls hP hD hS hl)
theorem v_icmp_eq_t (hC : Cx z E cc own nL d mc ms) {x y : Int32} {off : Int} {tgt : Nat} (hdg : decode cc pc = .ok (.if_icmp .eq off, 3)) (ht : (pc : Int) + off = (tgt : Int)) (h : x = y) (kk : V z E nL cells slots L f tgt lv st) : V z E nL cells slots L f pc lv (.int y :: .int x :: st) := v_icmp_eq hC hdg ht (fun _ => kk) (fun q => absurd h q)
theorem v_icmp_eq_f (hC : Cx z E cc own nL d mc ms) {x y : Int32} {off : Int} {tgt : Nat} (hdg : decode cc pc = .ok (.if_icmp .eq off, 3)) (ht : (pc : Int) + off = (tgt : Int)) (h : ¬ x = y) (kk : V z E nL cells slots L f (pc + 3) lv st) : V z E nL cells slots L f pc lv (.int y :: .int x :: st) := v_icmp_eq hC hdg ht (fun q => absurd q h) (fun _ => kk)
theorem v_if_ne (hC : Cx z E cc own nL d mc ms) {x : Int32} {off : Int} {tgt : Nat} (hdg : decode cc pc = .ok (.ifCond .ne off, 3)) (ht : (pc : Int) + off = (tgt : Int)) (kt : ¬ x = 0 → V z E nL cells slots L f tgt lv st) (kf : x = 0 → V z E nL cells slots L f (pc + 3) lv st) : V z E nL cells slots L f pc lv (.int x :: st) := fun H locs ls hP hD hS hl => lv_if_ne hC.1 hC.2.1 hdg ht (fun h => kt h H locs ls hP hD hS hl) (fun h => kf h H locs ls hP hD hS hl)
theorem v_if_ne_t (hC : Cx z E cc own nL d mc ms) {x : Int32} {off : Int} {tgt : Nat} (hdg : decode cc pc = .ok (.ifCond .ne off, 3)) (ht : (pc : Int) + off = (tgt : Int)) (h : ¬ x = 0) (kk : V z E nL cells slots L f tgt lv st) : V z E nL cells slots L f pc lv (.int x :: st) := v_if_ne hC hdg ht (fun _ => kk) (fun q => absurd q h)
theorem v_if_ne_f (hC : Cx z E cc own nL d mc ms) {x : Int32} {off : Int} {tgt : Nat} (hdg : decode cc pc = .ok (.ifCond .ne off, 3)) (ht : (pc : Int) + off = (tgt : Int)) (h : x = 0) (kk : V z E nL cells slots L f (pc + 3) lv st) : V z E nL cells slots L f pc lv (.int x :: st) := v_if_ne hC hdg ht (fun q => absurd h q) (fun _ => kk)
theorem v_icmp_ne (hC : Cx z E cc own nL d mc ms) {x y : Int32} {off : Int} {tgt : Nat} (hdg : decode cc pc = .ok (.if_icmp .ne off, 3)) (ht : (pc : Int) + off = (tgt : Int)) (kt : ¬ x = y → V z E nL cells slots L f tgt lv st) (kf : x = y → V z E nL cells slots L f (pc + 3) lv st) : V z E nL cells slots L f pc lv (.int y :: .int x :: st) := fun H locs ls hP hD hS hl => lv_icmp_ne hC.1 hC.2.1 hdg ht (fun h => kt h H locs ls hP hD hS hl) (fun h => kf h H locs ls hP hD hS hl)
theorem v_icmp_ne_t (hC : Cx z E cc own nL d mc ms) {x y : Int32} {off : Int} {tgt : Nat} (hdg : decode cc pc = .ok (.if_icmp .ne off, 3)) (ht : (pc : Int) + off = (tgt : Int)) (h : ¬ x = y) (kk : V z E nL cells slots L f tgt lv st) : V z E nL cells slots L f pc lv (.int y :: .int x :: st) := v_icmp_ne hC hdg ht (fun _ => kk) (fun q => absurd q h)
theorem v_icmp_ne_f (hC : Cx z E cc own nL d mc ms) {x y : Int32} {off : Int} {tgt : Nat} (hdg : decode cc pc = .ok (.if_icmp .ne off, 3)) (ht : (pc : Int) + off = (tgt : Int)) (h : x = y) (kk : V z E nL cells slots L f (pc + 3) lv st) : V z E nL cells slots L f pc lv (.int y :: .int x :: st) := v_icmp_ne hC hdg ht (fun q => absurd h q) (fun _ => kk)
theorem v_if_lt (hC : Cx z E cc own nL d mc ms) {x : Int32} {off : Int} {tgt : Nat} (hdg : decode cc pc = .ok (.ifCond .lt off, 3)) (ht : (pc : Int) + off = (tgt : Int)) (kt : x < 0 → V z E nL cells slots L f tgt lv st) (kf : ¬ x < 0 → V z E nL cells slots L f (pc + 3) lv st) : V z E nL cells slots L f pc lv (.int x :: st) := fun H locs ls hP hD hS hl => lv_if_lt hC.1 hC.2.1 hdg ht (fun h => kt h H locs ls hP hD hS hl) (fun h => kf h H locs ls hP hD hS hl)
theorem v_if_lt_t (hC : Cx z E cc own nL d mc ms) {x : Int32} {off : Int} {tgt : Nat} (hdg : decode cc pc = .ok (.ifCond .lt off, 3)) (ht : (pc : Int) + off = (tgt : Int)) (h : x < 0) (kk : V z E nL cells slots L f tgt lv st) : V z E nL cells slots L f pc lv (.int x :: st) := v_if_lt hC hdg ht (fun _ => kk) (fun q => absurd h q)
theorem v_if_lt_f (hC : Cx z E cc own nL d mc ms) {x : Int32} {off : Int} {tgt : Nat} (hdg : decode cc pc = .ok (.ifCond .lt off, 3)) (ht : (pc : Int) + off = (tgt : Int)) (h : ¬ x < 0) (kk : V z E nL cells slots L f (pc + 3) lv st) : V z E nL cells slots L f pc lv (.int x :: st) := v_if_lt hC hdg ht (fun q => absurd q h) (fun _ => kk)
theorem v_icmp_lt (hC : Cx z E cc own nL d mc ms) {x y : Int32} {off : Int} {tgt : Nat} (hdg : decode cc pc = .ok (.if_icmp .lt off, 3)) (ht : (pc : Int) + off = (tgt : Int)) (kt : x < y → V z E nL cells slots L f tgt lv st) (kf : ¬ x < y → V z E nL cells slots L f (pc + 3) lv st) : V z E nL cells slots L f pc lv (.int y :: .int x :: st) := fun H locs ls hP hD hS hl => lv_icmp_lt hC.1 hC.2.1 hdg ht (fun h => kt h H locs ls hP hD hS hl) (fun h => kf h H locs ls hP hD hS hl)
theorem v_icmp_lt_t (hC : Cx z E cc own nL d mc ms) {x y : Int32} {off : Int} {tgt : Nat} (hdg : decode cc pc = .ok (.if_icmp .lt off, 3)) (ht : (pc : Int) + off = (tgt : Int)) (h : x < y) (kk : V z E nL cells slots L f tgt lv st) : V z E nL cells slots L f pc lv (.int y :: .int x :: st) := v_icmp_lt hC hdg ht (fun _ => kk) (fun q => absurd h q)
theorem v_icmp_lt_f (hC : Cx z E cc own nL d mc ms) {x y : Int32} {off : Int} {tgt : Nat} (hdg : decode cc pc = .ok (.if_icmp .lt off, 3)) (ht : (pc : Int) + off = (tgt : Int)) (h : ¬ x < y) (kk : V z E nL cells slots L f (pc + 3) lv st) : V z E nL cells slots L f pc lv (.int y :: .int x :: st) := v_icmp_lt hC hdg ht (fun q => absurd q h) (fun _ => kk)
theorem v_if_ge (hC : Cx z E cc own nL d mc ms) {x : Int32} {off : Int} {tgt : Nat} (hdg : decode cc pc = .ok (.ifCond .ge off, 3)) (ht : (pc : Int) + off = (tgt : Int)) (kt : 0 ≤ x → V z E nL cells slots L f tgt lv st) (kf : ¬ 0 ≤ x → V z E nL cells slots L f (pc + 3) lv st) : V z E nL cells slots L f pc lv (.int x :: st) := fun H locs ls hP hD hS hl => lv_if_ge hC.1 hC.2.1 hdg ht (fun h => kt h H locs ls hP hD hS hl) (fun h => kf h H locs ls hP hD hS hl)
theorem v_if_ge_t (hC : Cx z E cc own nL d mc ms) {x : Int32} {off : Int} {tgt : Nat} (hdg : decode cc pc = .ok (.ifCond .ge off, 3)) (ht : (pc : Int) + off = (tgt : Int)) (h : 0 ≤ x) (kk : V z E nL cells slots L f tgt lv st) : V z E nL cells slots L f pc lv (.int x :: st) := v_if_ge hC hdg ht (fun _ => kk) (fun q => absurd h q)
theorem v_if_ge_f (hC : Cx z E cc own nL d mc ms) {x : Int32} {off : Int} {tgt : Nat} (hdg : decode cc pc = .ok (.ifCond .ge off, 3)) (ht : (pc : Int) + off = (tgt : Int)) (h : ¬ 0 ≤ x) (kk : V z E nL cells slots L f (pc + 3) lv st) : V z E nL cells slots L f pc lv (.int x :: st) := v_if_ge hC hdg ht (fun q => absurd q h) (fun _ => kk)
theorem v_icmp_ge (hC : Cx z E cc own nL d mc ms) {x y : Int32} {off : Int} {tgt : Nat} (hdg : decode cc pc = .ok (.if_icmp .ge off, 3)) (ht : (pc : Int) + off = (tgt : Int)) (kt : y ≤ x → V z E nL cells slots L f tgt lv st) (kf : ¬ y ≤ x → V z E nL cells slots L f (pc + 3) lv st) : V z E nL cells slots L f pc lv (.int y :: .int x :: st) := fun H locs ls hP hD hS hl => lv_icmp_ge hC.1 hC.2.1 hdg ht (fun h => kt h H locs ls hP hD hS hl) (fun h => kf h H locs ls hP hD hS hl)
theorem v_icmp_ge_t (hC : Cx z E cc own nL d mc ms) {x y : Int32} {off : Int} {tgt : Nat} (hdg : decode cc pc = .ok (.if_icmp .ge off, 3)) (ht : (pc : Int) + off = (tgt : Int)) (h : y ≤ x) (kk : V z E nL cells slots L f tgt lv st) : V z E nL cells slots L f pc lv (.int y :: .int x :: st) := v_icmp_ge hC hdg ht (fun _ => kk) (fun q => absurd h q)
theorem v_icmp_ge_f (hC : Cx z E cc own nL d mc ms) {x y : Int32} {off : Int} {tgt : Nat} (hdg : decode cc pc = .ok (.if_icmp .ge off, 3)) (ht : (pc : Int) + off = (tgt : Int)) (h : ¬ y ≤ x) (kk : V z E nL cells slots L f (pc + 3) lv st) : V z E nL cells slots L f pc lv (.int y :: .int x :: st) := v_icmp_ge hC hdg ht (fun q => absurd q h) (fun _ => kk)
theorem v_if_gt (hC : Cx z E cc own nL d mc ms) {x : Int32} {off : Int} {tgt : Nat} (hdg : decode cc pc = .ok (.ifCond .gt off, 3)) (ht : (pc : Int) + off = (tgt : Int)) (kt : 0 < x → V z E nL cells slots L f tgt lv st) (kf : ¬ 0 < x → V z E nL cells slots L f (pc + 3) lv st) : V z E nL cells slots L f pc lv (.int x :: st) := fun H locs ls hP hD hS hl => lv_if_gt hC.1 hC.2.1 hdg ht (fun h => kt h H locs ls hP hD hS hl) (fun h => kf h H locs ls hP hD hS hl)
theorem v_if_gt_t (hC : Cx z E cc own nL d mc ms) {x : Int32} {off : Int} {tgt : Nat} (hdg : decode cc pc = .ok (.ifCond .gt off, 3)) (ht : (pc : Int) + off = (tgt : Int)) (h : 0 < x) (kk : V z E nL cells slots L f tgt lv st) : V z E nL cells slots L f pc lv (.int x :: st) := v_if_gt hC hdg ht (fun _ => kk) (fun q => absurd h q)
theorem v_if_gt_f (hC : Cx z E cc own nL d mc ms) {x : Int32} {off : Int} {tgt : Nat} (hdg : decode cc pc = .ok (.ifCond .gt off, 3)) (ht : (pc : Int) + off = (tgt : Int)) (h : ¬ 0 < x) (kk : V z E nL cells slots L f (pc + 3) lv st) : V z E nL cells slots L f pc lv (.int x :: st) := v_if_gt hC hdg ht (fun q => absurd q h) (fun _ => kk)
theorem v_icmp_gt (hC : Cx z E cc own nL d mc ms) {x y : Int32} {off : Int} {tgt : Nat} (hdg : decode cc pc = .ok (.if_icmp .gt off, 3)) (ht : (pc : Int) + off = (tgt : Int)) (kt : y < x → V z E nL cells slots L f tgt lv st) (kf : ¬ y < x → V z E nL cells slots L f (pc + 3) lv st) : V z E nL cells slots L f pc lv (.int y :: .int x :: st) := fun H locs ls hP hD hS hl => lv_icmp_gt hC.1 hC.2.1 hdg ht (fun h => kt h H locs ls hP hD hS hl) (fun h => kf h H locs ls hP hD hS hl)
theorem v_icmp_gt_t (hC : Cx z E cc own nL d mc ms) {x y : Int32} {off : Int} {tgt : Nat} (hdg : decode cc pc = .ok (.if_icmp .gt off, 3)) (ht : (pc : Int) + off = (tgt : Int)) (h : y < x) (kk : V z E nL cells slots L f tgt lv st) : V z E nL cells slots L f pc lv (.int y :: .int x :: st) := v_icmp_gt hC hdg ht (fun _ => kk) (fun q => absurd h q)
theorem v_icmp_gt_f (hC : Cx z E cc own nL d mc ms) {x y : Int32} {off : Int} {tgt : Nat} (hdg : decode cc pc = .ok (.if_icmp .gt off, 3)) (ht : (pc : Int) + off = (tgt : Int)) (h : ¬ y < x) (kk : V z E nL cells slots L f (pc + 3) lv st) : V z E nL cells slots L f pc lv (.int y :: .int x :: st) := v_icmp_gt hC hdg ht (fun q => absurd q h) (fun _ => kk)
theorem v_if_le (hC : Cx z E cc own nL d mc ms) {x : Int32} {off : Int} {tgt : Nat} (hdg : decode cc pc = .ok (.ifCond .le off, 3)) (ht : (pc : Int) + off = (tgt : Int)) (kt : x ≤ 0 → V z E nL cells slots L f tgt lv st) (kf : ¬ x ≤ 0 → V z E nL cells slots L f (pc + 3) lv st) : V z E nL cells slots L f pc lv (.int x :: st) := fun H locs ls hP hD hS hl => lv_if_le hC.1 hC.2.1 hdg ht (fun h => kt h H locs ls hP hD hS hl) (fun h => kf h H locs ls hP hD hS hl)
theorem v_if_le_t (hC : Cx z E cc own nL d mc ms) {x : Int32} {off : Int} {tgt : Nat} (hdg : decode cc pc = .ok (.ifCond .le off, 3)) (ht : (pc : Int) + off = (tgt : Int)) (h : x ≤ 0) (kk : V z E nL cells slots L f tgt lv st) : V z E nL cells slots L f pc lv (.int x :: st) := v_if_le hC hdg ht (fun _ => kk) (fun q => absurd h q)
theorem v_if_le_f (hC : Cx z E cc own nL d mc ms) {x : Int32} {off : Int} {tgt : Nat} (hdg : decode cc pc = .ok (.ifCond .le off, 3)) (ht : (pc : Int) + off = (tgt : Int)) (h : ¬ x ≤ 0) (kk : V z E nL cells slots L f (pc + 3) lv st) : V z E nL cells slots L f pc lv (.int x :: st) := v_if_le hC hdg ht (fun q => absurd q h) (fun _ => kk)
theorem v_icmp_le (hC : Cx z E cc own nL d mc ms) {x y : Int32} {off : Int} {tgt : Nat} (hdg : decode cc pc = .ok (.if_icmp .le off, 3)) (ht : (pc : Int) + off = (tgt : Int)) (kt : x ≤ y → V z E nL cells slots L f tgt lv st) (kf : ¬ x ≤ y → V z E nL cells slots L f (pc + 3) lv st) : V z E nL cells slots L f pc lv (.int y :: .int x :: st) := fun H locs ls hP hD hS hl => lv_icmp_le hC.1 hC.2.1 hdg ht (fun h => kt h H locs ls hP hD hS hl) (fun h => kf h H locs ls hP hD hS hl)
theorem v_icmp_le_t (hC : Cx z E cc own nL d mc ms) {x y : Int32} {off : Int} {tgt : Nat} (hdg : decode cc pc = .ok (.if_icmp .le off, 3)) (ht : (pc : Int) + off = (tgt : Int)) (h : x ≤ y) (kk : V z E nL cells slots L f tgt lv st) : V z E nL cells slots L f pc lv (.int y :: .int x :: st) := v_icmp_le hC hdg ht (fun _ => kk) (fun q => absurd h q)
theorem v_icmp_le_f (hC : Cx z E cc own nL d mc ms) {x y : Int32} {off : Int} {tgt : Nat} (hdg : decode cc pc = .ok (.if_icmp .le off, 3)) (ht : (pc : Int) + off = (tgt : Int)) (h : ¬ x ≤ y) (kk : V z E nL cells slots L f (pc + 3) lv st) : V z E nL cells slots L f pc lv (.int y :: .int x :: st) := v_icmp_le hC hdg ht (fun q => absurd q h) (fun _ => kk)
theorem v_ifnonnull (hC : Cx z E cc own nL d mc ms) {x : Nat} {off : Int} {tgt : Nat} (hdg : decode cc pc = .ok (.ifnonnull off, 3)) (ht : (pc : Int) + off = (tgt : Int)) (kk : V z E nL cells slots L f tgt lv st) : V z E nL cells slots L f pc lv (.ref x :: st) := fun H locs ls hP hD hS hl => lv_ifnonnull hC.1 hC.2.1 hdg ht (kk H locs ls hP hD hS hl)
theorem v_ifnull (hC : Cx z E cc own nL d mc ms) {x : Nat} {off : Int} (hdg : decode cc pc = .ok (.ifnull off, 3)) (kk : V z E nL cells slots L f (pc + 3) lv st) : V z E nL cells slots L f pc lv (.ref x :: st) := fun H locs ls hP hD hS hl => lv_ifnull hC.1 hC.2.1 hdg (kk H locs ls hP hD hS hl)
theorem v_ifnullN (hC : Cx z E cc own nL d mc ms) {off : Int} {tgt : Nat} (hdg : decode cc pc = .ok (.ifnull off, 3)) (ht : (pc : Int) + off = (tgt : Int)) (kk : V z E nL cells slots L f tgt lv st) : V z E nL cells slots L f pc lv (.null :: st) := fun H locs ls hP hD hS hl => lv_ifnullN hC.1 hC.2.1 hdg ht (kk H locs ls hP hD hS hl)
theorem v_ifnonnullN (hC : Cx z E cc own nL d mc ms) {off : Int} (hdg : decode cc pc = .ok (.ifnonnull off, 3)) (kk : V z E nL cells slots L f (pc + 3) lv st) : V z E nL cells slots L f pc lv (.null :: st) := fun H locs ls hP hD hS hl => lv_ifnonnullN hC.1 hC.2.1 hdg (kk H locs ls hP hD hS hl)
theorem v_tableIn (hC : Cx z E cc own nL d mc ms) {dflt lo hi : Int} {offs : Array Int} {len : Nat} {x : Int32} {off : Int} {tgt : Nat} (hdg : decode cc pc = .ok (.tableswitch dflt lo hi offs, len)) (h1 : ¬ x.toInt < lo) (h2 : ¬ hi < x.toInt) (ho : offs[(x.toInt - lo).toNat]? = some off) (ht : (pc : Int) + off = (tgt : Int)) (kk : V z E nL cells slots L f tgt lv st) : V z E nL cells slots L f pc lv (.int x :: st) := fun H locs ls hP hD hS hl => lv_tableIn hC.1 hC.2.1 hdg h1 h2 ho ht (kk H locs ls hP hD hS hl)
theorem v_tableOut (hC : Cx z E cc own nL d mc ms) {dflt lo hi : Int} {offs : Array Int} {len : Nat} {x : Int32} {tgt : Nat} (hdg : decode cc pc = .ok (.tableswitch dflt lo hi offs, len)) (h : x.toInt < lo ∨ hi < x.toInt) (ht : (pc : Int) + dflt = (tgt : Int)) (kk : V z E nL cells slots L f tgt lv st) : V z E nL cells slots L f pc lv (.int x :: st) := fun H locs ls hP hD hS hl => lv_tableOut hC.1 hC.2.1 hdg h ht (kk H locs ls hP hD hS hl)
theorem v_lookup (hC : Cx z E cc own nL d mc ms) {dflt : Int} {ps : Array (Int × Int)} {len : Nat} {x : Int32} {off : Int} {tgt : Nat} (hdg : decode cc pc = .ok (.lookupswitch dflt ps, len)) (hp : (ps.toList.zip (ps.toList.drop 1)).all (fun (a, next) => a.1 < next.1) = true) (ho : Op.lookupswitch.offset ps.toList dflt x.toInt = off) (ht : (pc : Int) + off = (tgt : Int)) (kk : V z E nL cells slots L f tgt lv st) : V z E nL cells slots L f pc lv (.int x :: st) := fun H locs ls hP hD hS hl => lv_lookup hC.1 hC.2.1 hdg hp ho ht (kk H locs ls hP hD hS hl)
-- fields
/-- entry 'index' of 'own' names field k of class ci -/
def FlB (ci k : Nat) (fin : Bool) (ty : FieldType) (C : String) (T : u_T) (N : Nat) (tyf : Nat → FieldType) : Prop :=
  vwCl[ci]? = some (C, T, N) ∧ k < N ∧ (∀ w ∈ u_ws C T N, w ∈ ALLg) ∧ (∀ k, k < N → parseFieldDescriptor (T k).2.2.1 = some (tyf k)) ∧ (∀ a, a < N → ∀ b, b < N → a ≠ b → (T a).2.1 ≠ (T b).2.1) ∧ (T k).2.2.2 = fin ∧ parseFieldDescriptor (T k).2.2.1 = some ty
def Fl (own : String) (index ci k : Nat) (fin : Bool) (ty : FieldType) : Prop := ∃ (C : String) (T : u_T) (N : Nat) (tyf : Nat → FieldType), FlB ci k fin ty C T N tyf ∧ (T k).1 = own ∧ Cond.fieldLink own index (T k).1 (T k).2.1 (T k).2.2.1 ∈ ALLg
def Fn (own : String) (index ci k : Nat) (fin : Bool) (ty : FieldType) : Prop := ∃ (C : String) (T : u_T) (N : Nat) (tyf : Nat → FieldType), FlB ci k fin ty C T N tyf ∧ ∃ host : String, Cond.fieldLinkNest own index (T k).1 (T k).2.1 (T k).2.2.1 host ∈ nestW
theorem v_get (hC : Cx z E cc own nL d mc ms) {index ci k : Nat} {fin : Bool} {ty : FieldType} (hF : Fl own index ci k fin ty) {a : Nat} {fs : List Value} {v : Value} (ha : a ∈ L) (hf : f a = ob ci fs) (hv : fs[k]? = some v) (hdg : decode cc pc = .ok (.getfield index, 3)) (kk : V z E nL cells slots L f (pc + 3) lv (v :: st)) : V z E nL cells slots L f pc lv (.ref a :: st) := by
  intro H locs ls hP hD hS hl
  obtain ⟨C, T, N, tyf, ⟨h1, h2, h3, h4, h5, h6, h7⟩, -, h9⟩ := hF
  obtain ⟨q0, hq⟩ := pl_at (f := f) ha
  rw [hf] at hq
  exact va_get hC.1 hC.2.1 hC.2.2.2.2.1 h3 hC.2.2.2.1 hC.2.2.2.2.2.1.1 hP q0 hq h1 k h2 (hC.2.2.2.2.1 _ h9) (fun _ h => h) hv hdg (kk H locs ls hP hD hS hl)
theorem v_getN (hC : Cx z E cc own nL d mc ms) {index ci k : Nat} {fin : Bool} {ty : FieldType} (hF : Fn own index ci k fin ty) {a : Nat} {fs : List Value} {v : Value} (ha : a ∈ L) (hf : f a = ob ci fs) (hv : fs[k]? = some v) (hdg : decode cc pc = .ok (.getfield index, 3)) (kk : V z E nL cells slots L f (pc + 3) lv (v :: st)) : V z E nL cells slots L f pc lv (.ref a :: st) := by
  intro H locs ls hP hD hS hl
  obtain ⟨C, T, N, tyf, ⟨h1, h2, h3, h4, h5, h6, h7⟩, host, h9⟩ := hF
  obtain ⟨q0, hq⟩ := pl_at (f := f) ha
  rw [hf] at hq
  exact va_getN hC.1 hC.2.1 hC.2.2.2.2.1 h3 hC.2.2.2.1 hC.2.2.2.2.2.1.1 hP q0 hq h1 k h2 (va_Nw.use rfl (hC.2.2.2.2.2.1.2.1 _ h9)) (fun _ h => h) hv hdg (kk H locs ls hP hD hS hl)
theorem v_put (hC : Cx z E cc own nL d mc ms) {index ci k : Nat} {ty : FieldType} (hF : Fl own index ci k false ty) {a : Nat} {fs fs' : List Value} {v : Value} (ha : a ∈ L) (hf : f a = ob ci fs) (hn : narrow ty v = v) (hfit : fits ty v = true) (hl0 : k < fs.length) (h' : fs.set k v = fs') (hdg : decode cc pc = .ok (.putfield index, 3)) (kk : ∀ f1 : Nat → va_E, f1 a = ob ci fs' → (∀ b, b ≠ a → f1 b = f b) → V z E nL cells slots L f1 (pc + 3) lv st) : V z E nL cells slots L f pc lv (v :: .ref a :: st) := by
  intro H locs ls hP hD hS hl
  obtain ⟨C, T, N, tyf, ⟨h1, h2, h3, h4, h5, h6, h7⟩, -, h9⟩ := hF
  obtain ⟨q0, hq⟩ := pl_at (f := f) ha
  have hq0 := hq
  rw [hf] at hq
  refine va_put hC.1 hC.2.1 hC.2.2.2.2.1 h3 tyf h4 h5 hC.2.2.2.1 hC.2.2.2.2.2.1.1 hP hD hS q0 hq h1 k h2 (hC.2.2.2.2.1 _ h9) (fun _ h => h) h6 h7 hn hfit hl0 hdg (fun H1 locs1 hP1 hD1 hS1 => ?_)
  rw [pl_set hD ha hq0, h'] at hP1 hD1
  exact kk (va_up f a (ob ci fs')) (by simp [va_up]) (fun b hb => by simp [va_up, hb]) H1 locs1 ls hP1 hD1 hS1 hl
theorem v_putF (hC : Cx z E cc own nL d mc ms) (hin : (zM z).name = "<init>") {index ci k : Nat} {ty : FieldType} (hF : Fl own index ci k true ty) {a : Nat} {fs fs' : List Value} {v : Value} (ha : a ∈ L) (hf : f a = ob ci fs) (hn : narrow ty v = v) (hfit : fits ty v = true) (hl0 : k < fs.length) (h' : fs.set k v = fs') (hdg : decode cc pc = .ok (.putfield index, 3)) (kk : ∀ f1 : Nat → va_E, f1 a = ob ci fs' → (∀ b, b ≠ a → f1 b = f b) → V z E nL cells slots L f1 (pc + 3) lv st) : V z E nL cells slots L f pc lv (v :: .ref a :: st) := by
  intro H locs ls hP hD hS hl
  obtain ⟨C, T, N, tyf, ⟨h1, h2, h3, h4, h5, h6, h7⟩, h8, h9⟩ := hF
  obtain ⟨q0, hq⟩ := pl_at (f := f) ha
  have hq0 := hq
  rw [hf] at hq
  refine va_putF hC.1 hC.2.1 hC.2.2.2.2.1 h3 tyf h4 h5 hC.2.2.2.1 hC.2.2.2.2.2.1.1 hP hD hS q0 hq h1 k h2 (hC.2.2.2.2.1 _ h9) (fun _ h => h) h6 hin h8 h7 hn hfit hl0 hdg (fun H1 locs1 hP1 hD1 hS1 => ?_)
  rw [pl_set hD ha hq0, h'] at hP1 hD1
  exact kk (va_up f a (ob ci fs')) (by simp [va_up]) (fun b hb => by simp [va_up, hb]) H1 locs1 ls hP1 hD1 hS1 hl
theorem v_putN (hC : Cx z E cc own nL d mc ms) {index ci k : Nat} {ty : FieldType} (hF : Fn own index ci k false ty) {a : Nat} {fs fs' : List Value} {v : Value} (ha : a ∈ L) (hf : f a = ob ci fs) (hn : narrow ty v = v) (hfit : fits ty v = true) (hl0 : k < fs.length) (h' : fs.set k v = fs') (hdg : decode cc pc = .ok (.putfield index, 3)) (kk : ∀ f1 : Nat → va_E, f1 a = ob ci fs' → (∀ b, b ≠ a → f1 b = f b) → V z E nL cells slots L f1 (pc + 3) lv st) : V z E nL cells slots L f pc lv (v :: .ref a :: st) := by
  intro H locs ls hP hD hS hl
  obtain ⟨C, T, N, tyf, ⟨h1, h2, h3, h4, h5, h6, h7⟩, host, h9⟩ := hF
  obtain ⟨q0, hq⟩ := pl_at (f := f) ha
  have hq0 := hq
  rw [hf] at hq
  refine va_putN hC.1 hC.2.1 hC.2.2.2.2.1 h3 tyf h4 h5 hC.2.2.2.1 hC.2.2.2.2.2.1.1 hP hD hS q0 hq h1 k h2 (va_Nw.use rfl (hC.2.2.2.2.2.1.2.1 _ h9)) (fun _ h => h) h6 h7 hn hfit hl0 hdg (fun H1 locs1 hP1 hD1 hS1 => ?_)
  rw [pl_set hD ha hq0, h'] at hP1 hD1
  exact kk (va_up f a (ob ci fs')) (by simp [va_up]) (fun b hb => by simp [va_up, hb]) H1 locs1 ls hP1 hD1 hS1 hl
-- arrays
theorem v_alen (hC : Cx z E cc own nL d mc ms) {a t : Nat} {ty : FieldType} {x : vp_A} {v : Int32} (ha : a ∈ L) (hf : f a = .inl (eC E t, x)) (ht : (tysE E)[t]? = some (eC E t, ty)) (hv : Int32.ofNat x.1 = v) (hdg : decode cc pc = .ok (.arraylength, 1)) (kk : V z E nL cells slots L f (pc + 1) lv (.int v :: st)) : V z E nL cells slots L f pc lv (.ref a :: st) := by
  intro H locs ls hP hD hS hl
  obtain ⟨q0, hq⟩ := pl_at (f := f) ha
  rw [hf] at hq
  exact va_alen hC.1 hC.2.1 hC.2.2.2.2.2.1.1 hP q0 t hq ht hv hdg (kk H locs ls hP hD hS hl)
theorem v_iald (hC : Cx z E cc own nL d mc ms) {a n : Nat} {g : Nat → Int32} {i v : Int32} (ha : a ∈ L) (hf : f a = aI E n g) (hin : vp_in i n) (hv : g i.toNatClampNeg = v) (hdg : decode cc pc = .ok (.iaload, 1)) (kk : V z E nL cells slots L f (pc + 1) lv (.int v :: st)) : V z E nL cells slots L f pc lv (.int i :: .ref a :: st) := by
  intro H locs ls hP hD hS hl
  subst hv
  obtain ⟨q0, hq⟩ := pl_at (f := f) ha
  rw [hf] at hq
  exact va_iald hC.1 hC.2.1 hC.2.2.2.2.2.1.1 hP q0 1 hq rfl hin hdg (kk H locs ls hP hD hS hl)
theorem v_bald (hC : Cx z E cc own nL d mc ms) {a n : Nat} {g : Nat → Int32} {i v : Int32} (ha : a ∈ L) (hf : f a = aB E n g) (hin : vp_in i n) (hv : g i.toNatClampNeg = v) (hdg : decode cc pc = .ok (.baload, 1)) (kk : V z E nL cells slots L f (pc + 1) lv (.int v :: st)) : V z E nL cells slots L f pc lv (.int i :: .ref a :: st) := by
  intro H locs ls hP hD hS hl
  subst hv
  obtain ⟨q0, hq⟩ := pl_at (f := f) ha
  rw [hf] at hq
  exact va_bald hC.1 hC.2.1 hC.2.2.2.2.2.1.1 hP q0 0 hq rfl hin hdg (kk H locs ls hP hD hS hl)
theorem v_zald (hC : Cx z E cc own nL d mc ms) {a n : Nat} {g : Nat → Int32} {i v : Int32} (ha : a ∈ L) (hf : f a = aZ E n g) (hin : vp_in i n) (hv : g i.toNatClampNeg = v) (hdg : decode cc pc = .ok (.baload, 1)) (kk : V z E nL cells slots L f (pc + 1) lv (.int v :: st)) : V z E nL cells slots L f pc lv (.int i :: .ref a :: st) := by
  intro H locs ls hP hD hS hl
  subst hv
  obtain ⟨q0, hq⟩ := pl_at (f := f) ha
  rw [hf] at hq
  exact va_zald hC.1 hC.2.1 hC.2.2.2.2.2.1.1 hP q0 3 hq rfl hin hdg (kk H locs ls hP hD hS hl)
theorem v_lald (hC : Cx z E cc own nL d mc ms) {a n : Nat} {g : Nat → Int64} {i : Int32} {v : Int64} (ha : a ∈ L) (hf : f a = aJ E n g) (hin : vp_in i n) (hv : g i.toNatClampNeg = v) (hdg : decode cc pc = .ok (.laload, 1)) (kk : V z E nL cells slots L f (pc + 1) lv (.long v :: st)) : V z E nL cells slots L f pc lv (.int i :: .ref a :: st) := by
  intro H locs ls hP hD hS hl
  subst hv
  obtain ⟨q0, hq⟩ := pl_at (f := f) ha
  rw [hf] at hq
  exact va_lald hC.1 hC.2.1 hC.2.2.2.2.2.1.1 hP q0 2 hq rfl hin hdg (kk H locs ls hP hD hS hl)
theorem v_aald (hC : Cx z E cc own nL d mc ms) {a n t : Nat} {Cn : String} {g : Nat → Option Nat} {i : Int32} {v : Value} (ha : a ∈ L) (hf : f a = aR E t n g) (ht : (tysE E)[t]? = some (eC E t, .object Cn)) (hin : vp_in i n) (hv : va_rf (g i.toNatClampNeg) = v) (hdg : decode cc pc = .ok (.aaload, 1)) (kk : V z E nL cells slots L f (pc + 1) lv (v :: st)) : V z E nL cells slots L f pc lv (.int i :: .ref a :: st) := by
  intro H locs ls hP hD hS hl
  subst hv
  obtain ⟨q0, hq⟩ := pl_at (f := f) ha
  rw [hf] at hq
  exact va_aldq hC.1 hC.2.1 hC.2.2.2.2.2.1.1 hP q0 t hq ht hin hdg (kk H locs ls hP hD hS hl)
theorem v_iast (hC : Cx z E cc own nL d mc ms) {a n : Nat} {g : Nat → Int32} {i x : Int32} (ha : a ∈ L) (hf : f a = aI E n g) (hin : vp_in i n) (hdg : decode cc pc = .ok (.iastore, 1)) (kk : ∀ f1 : Nat → va_E, f1 a = aI E n (upd g i.toNatClampNeg x) → (∀ b, b ≠ a → f1 b = f b) → V z E nL cells slots L f1 (pc + 1) lv st) : V z E nL cells slots L f pc lv (.int x :: .int i :: .ref a :: st) := by
  intro H locs ls hP hD hS hl
  obtain ⟨q0, hq⟩ := pl_at (f := f) ha
  have hq0 := hq
  rw [hf] at hq
  refine va_iast hC.1 hC.2.1 hC.2.2.2.2.2.1.1 hP hD hS q0 1 hq rfl hin hdg (fun H1 locs1 hP1 hD1 hS1 => ?_)
  rw [pl_set hD ha hq0] at hP1 hD1
  exact kk _ (by simp [va_up]) (fun b hb => by simp [va_up, hb]) H1 locs1 ls hP1 hD1 hS1 hl
theorem v_bast (hC : Cx z E cc own nL d mc ms) {a n : Nat} {g : Nat → Int32} {i x : Int32} (ha : a ∈ L) (hf : f a = aB E n g) (hin : vp_in i n) (hdg : decode cc pc = .ok (.bastore, 1)) (kk : ∀ f1 : Nat → va_E, f1 a = aB E n (upd g i.toNatClampNeg (vp_nar .byte x)) → (∀ b, b ≠ a → f1 b = f b) → V z E nL cells slots L f1 (pc + 1) lv st) : V z E nL cells slots L f pc lv (.int x :: .int i :: .ref a :: st) := by
  intro H locs ls hP hD hS hl
  obtain ⟨q0, hq⟩ := pl_at (f := f) ha
  have hq0 := hq
  rw [hf] at hq
  refine va_bast hC.1 hC.2.1 hC.2.2.2.2.2.1.1 hP hD hS q0 0 hq rfl hin hdg (fun H1 locs1 hP1 hD1 hS1 => ?_)
  rw [pl_set hD ha hq0] at hP1 hD1
  exact kk _ (by simp [va_up]) (fun b hb => by simp [va_up, hb]) H1 locs1 ls hP1 hD1 hS1 hl
theorem v_zast (hC : Cx z E cc own nL d mc ms) {a n : Nat} {g : Nat → Int32} {i x : Int32} (ha : a ∈ L) (hf : f a = aZ E n g) (hin : vp_in i n) (hdg : decode cc pc = .ok (.bastore, 1)) (kk : ∀ f1 : Nat → va_E, f1 a = aZ E n (upd g i.toNatClampNeg (vp_nar .boolean x)) → (∀ b, b ≠ a → f1 b = f b) → V z E nL cells slots L f1 (pc + 1) lv st) : V z E nL cells slots L f pc lv (.int x :: .int i :: .ref a :: st) := by
  intro H locs ls hP hD hS hl
  obtain ⟨q0, hq⟩ := pl_at (f := f) ha
  have hq0 := hq
  rw [hf] at hq
  refine va_zast hC.1 hC.2.1 hC.2.2.2.2.2.1.1 hP hD hS q0 3 hq rfl hin hdg (fun H1 locs1 hP1 hD1 hS1 => ?_)
  rw [pl_set hD ha hq0] at hP1 hD1
  exact kk _ (by simp [va_up]) (fun b hb => by simp [va_up, hb]) H1 locs1 ls hP1 hD1 hS1 hl
theorem v_last (hC : Cx z E cc own nL d mc ms) {a n : Nat} {g : Nat → Int64} {i : Int32} {x : Int64} (ha : a ∈ L) (hf : f a = aJ E n g) (hin : vp_in i n) (hdg : decode cc pc = .ok (.lastore, 1)) (kk : ∀ f1 : Nat → va_E, f1 a = aJ E n (vp_updL g i.toNatClampNeg x) → (∀ b, b ≠ a → f1 b = f b) → V z E nL cells slots L f1 (pc + 1) lv st) : V z E nL cells slots L f pc lv (.long x :: .int i :: .ref a :: st) := by
  intro H locs ls hP hD hS hl
  obtain ⟨q0, hq⟩ := pl_at (f := f) ha
  have hq0 := hq
  rw [hf] at hq
  refine va_last hC.1 hC.2.1 hC.2.2.2.2.2.1.1 hP hD hS q0 2 hq rfl hin hdg (fun H1 locs1 hP1 hD1 hS1 => ?_)
  rw [pl_set hD ha hq0] at hP1 hD1
  exact kk _ (by simp [va_up]) (fun b hb => by simp [va_up, hb]) H1 locs1 ls hP1 hD1 hS1 hl
theorem v_aast (hC : Cx z E cc own nL d mc ms) {a n t v ci : Nat} {r : vw_C} {vs : List Value} {g : Nat → Option Nat} {i : Int32} (ha : a ∈ L) (hf : f a = aR E t n g) (ht : (tysE E)[t]? = some (eC E t, .object r.1)) (hv : v ∈ L) (hfv : f v = ob ci vs) (hc : vwCl[ci]? = some r) (hin : vp_in i n) (hdg : decode cc pc = .ok (.aastore, 1)) (kk : ∀ f1 : Nat → va_E, f1 a = aR E t n (va_up g i.toNatClampNeg (some v)) → (∀ b, b ≠ a → f1 b = f b) → V z E nL cells slots L f1 (pc + 1) lv st) : V z E nL cells slots L f pc lv (.ref v :: .int i :: .ref a :: st) := by
  intro H locs ls hP hD hS hl
  obtain ⟨q0, hq⟩ := pl_at (f := f) ha
  have hq0 := hq
  rw [hf] at hq
  obtain ⟨q1, hq1⟩ := pl_at (f := f) hv
  rw [hfv] at hq1
  refine va_astq hC.1 hC.2.1 hC.2.2.2.2.2.1.1 hP hD hS q0 t q1 ci hq ht hq1 hc hin hdg (fun H1 locs1 hP1 hD1 hS1 => ?_)
  rw [pl_set hD ha hq0] at hP1 hD1
  exact kk _ (by simp [va_up]) (fun b hb => by simp [va_up, hb]) H1 locs1 ls hP1 hD1 hS1 hl
-- making
theorem K_same {E : Ez} {s : State} {cA : ClassId} {t : Nat} {ty : FieldType} (hK : va_K (eD E) vwCl (tysE E) s) (ht : (tysE E)[t]? = some (eC E t, ty)) (h2 : va_RA s cA ty) : cA = eC E t := by
  have h1 := (hK.2 t _ ht).2
  cases ty with
  | object Cn =>
    obtain ⟨kA, comp, -, -, -, h4⟩ := h1
    obtain ⟨kA', comp', -, -, -, h4'⟩ := h2
    exact Option.some.inj (h4'.symm.trans h4)
  | _ => exact Option.some.inj (h2.symm.trans h1)
theorem v_newaG (hC : Cx z E cc own nL d mc ms) {atype : ArrayType} {t N' : Nat} {ty : FieldType} {n : Int32} {a0 : vp_A} (hty : newarray.typeOf atype = ty) (hw : Cond.arrayClass ty ∈ ALLg) (ht : (tysE E)[t]? = some (eC E t, ty)) (h0 : ∀ cA : ClassId, vp_cell cA a0 = arrV cA N' (fun _ => defaultValue ty)) (hn : ¬ n < 0) (hN : n.toNatClampNeg = N') (hby : N' * componentBytes ty ≤ 536870912) (hc : cells + 1 ≤ mc) (hs : slots + N' ≤ ms) (hdg : decode cc pc = .ok (.newarray atype, 2)) (kk : ∀ (q : Nat) (f1 : Nat → va_E), q ∉ L → f1 q = .inl (eC E t, a0) → (∀ b, b ≠ q → f1 b = f b) → V z E nL (cells + 1) (slots + N') (L ++ [q]) f1 (pc + 2) lv (.ref q :: st)) : V z E nL cells slots L f pc lv (.int n :: st) := by
  intro H locs ls hP hD hS hl
  have hK := hC.2.2.2.2.2.1.1
  subst hty
  refine va_newa hC.1 hC.2.1 (hC.2.2.2.2.1 _ hw) rfl hK hP hD hS hC.2.2.2.2.2.2.1 h0 hn hN hby (Nat.le_trans hc hC.2.2.2.2.2.2.2.2.2.1) (Nat.le_trans hs hC.2.2.2.2.2.2.2.2.2.2) hdg (fun q cA H1 hK1 hP1 hD1 hS1 => ?_)
  have hcA : cA = eC E t := K_same hK ht (hK1.2 (tysE E).length (cA, newarray.typeOf atype) (by simp)).2
  have hq : q ∉ L := by
    intro hqL
    obtain ⟨k, hk⟩ := pl_at (f := f) hqL
    have hlt : k < (va_pl L f).length := (List.getElem?_eq_some_iff.mp hk).1
    have e1 : (va_pl L f ++ [(q, Sum.inl (cA, a0))])[k]? = some (q, f q) := by rw [List.getElem?_append_left hlt]; exact hk
    have e2 : (va_pl L f ++ [(q, (Sum.inl (cA, a0) : va_E))])[(va_pl L f).length]? = some (q, Sum.inl (cA, a0)) := by simp
    have := hD1.1 k _ _ _ e1 e2 rfl
    omega
  rw [va_pl_push hq, hcA] at hP1 hD1
  exact kk q _ hq (by simp [va_up]) (fun b hb => by simp [va_up, hb]) H1 locs ls hP1 hD1 hS1 hl
theorem v_newq (hC : Cx z E cc own nL d mc ms) {index t N' : Nat} {Cn : String} {n : Int32} (hw : Cond.classLink own index Cn ∈ ALLg) (hw2 : Cn ∈ aoW) (ht : (tysE E)[t]? = some (eC E t, .object Cn)) (hn : ¬ n < 0) (hN : n.toNatClampNeg = N') (hby : N' * 4 ≤ 536870912) (hc : cells + 1 ≤ mc) (hs : slots + N' ≤ ms) (hdg : decode cc pc = .ok (.anewarray index, 3)) (kk : ∀ (q : Nat) (f1 : Nat → va_E), q ∉ L → f1 q = aR E t N' (fun _ => none) → (∀ b, b ≠ q → f1 b = f b) → V z E nL (cells + 1) (slots + N') (L ++ [q]) f1 (pc + 3) lv (.ref q :: st)) : V z E nL cells slots L f pc lv (.int n :: st) := by
  intro H locs ls hP hD hS hl
  have hK := hC.2.2.2.2.2.1.1
  refine va_newq hC.1 hC.2.1 hC.2.2.2.1 (hC.2.2.2.2.1 _ hw) (hC.2.2.2.2.2.1.2.2.2.2.2.1 _ hw2) hK hP hD hS hC.2.2.2.2.2.2.1 hn hN hby (Nat.le_trans hc hC.2.2.2.2.2.2.2.2.2.1) (Nat.le_trans hs hC.2.2.2.2.2.2.2.2.2.2) hdg (fun q cA H1 hK1 hP1 hD1 hS1 => ?_)
  have hcA : cA = eC E t := K_same hK ht (hK1.2 (tysE E).length (cA, .object Cn) (by simp)).2
  have hq : q ∉ L := by
    intro hqL
    obtain ⟨k, hk⟩ := pl_at (f := f) hqL
    have hlt : k < (va_pl L f).length := (List.getElem?_eq_some_iff.mp hk).1
    have e1 := (List.getElem?_append_left (l₂ := [(q, (Sum.inl (cA, N', .inr (.inr (.inr (.inr (fun _ => none))))) : va_E))]) hlt).trans hk
    have e2 : (va_pl L f ++ [(q, (Sum.inl (cA, N', .inr (.inr (.inr (.inr (fun _ => none))))) : va_E))])[(va_pl L f).length]? = some (q, Sum.inl (cA, N', .inr (.inr (.inr (.inr (fun _ => none)))))) := by simp
    have := hD1.1 k _ _ _ e1 e2 rfl
    omega
  rw [va_pl_push hq, hcA] at hP1 hD1
  exact kk q _ hq (by simp [va_up]) (fun b hb => by simp [va_up, hb]) H1 locs ls hP1 hD1 hS1 hl
theorem v_new (hC : Cx z E cc own nL d mc ms) {index ci N : Nat} {Cn : String} {T : u_T} {tyf : Nat → FieldType} {fs : List Value} (hcl : vwCl[ci]? = some (Cn, T, N)) (hin : ∀ w ∈ u_ws Cn T N, w ∈ ALLg) (hty : ∀ k, k < N → parseFieldDescriptor (T k).2.2.1 = some (tyf k)) (hw : Cond.classLink own index Cn ∈ ALLg) (hw2 : Cond.instantiable Cn N ∈ ALLg) (hw3 : Cond.initialized Cn ∈ ALLg) (hfs : ∀ j, j < N → defaultValue (tyf j) = vp_V fs j) (hc : cells + 1 ≤ mc) (hs : slots + N ≤ ms) (hdg : decode cc pc = .ok (.new index, 3)) (kk : ∀ (q : Nat) (f1 : Nat → va_E), q ∉ L → f1 q = ob ci fs → (∀ b, b ≠ q → f1 b = f b) → V z E nL (cells + 1) (slots + N) (L ++ [q]) f1 (pc + 3) lv (.ref q :: st)) : V z E nL cells slots L f pc lv st := by
  intro H locs ls hP hD hS hl
  have hK := hC.2.2.2.2.2.1.1
  refine va_new hC.1 hC.2.1 hC.2.2.2.2.1 hin tyf hty hC.2.2.2.1 (hC.2.2.2.2.1 _ hw) (hC.2.2.2.2.1 _ hw2) (hC.2.2.2.2.1 _ hw3) hK hP hD hS hC.2.2.2.2.2.2.1 hcl hfs (Nat.le_trans hc hC.2.2.2.2.2.2.2.2.2.1) (Nat.le_trans hs hC.2.2.2.2.2.2.2.2.2.2) hdg (fun q H1 hP1 hD1 hS1 => ?_)
  have hq : q ∉ L := by
    intro hqL
    obtain ⟨k, hk⟩ := pl_at (f := f) hqL
    have hlt : k < (va_pl L f).length := (List.getElem?_eq_some_iff.mp hk).1
    have e1 := (List.getElem?_append_left (l₂ := [(q, (Sum.inr (ci, fs) : va_E))]) hlt).trans hk
    have e2 : (va_pl L f ++ [(q, (Sum.inr (ci, fs) : va_E))])[(va_pl L f).length]? = some (q, Sum.inr (ci, fs)) := by simp
    have := hD1.1 k _ _ _ e1 e2 rfl
    omega
  rw [va_pl_push hq] at hP1 hD1
  exact kk q _ hq (by simp [va_up]) (fun b hb => by simp [va_up, hb]) H1 locs ls hP1 hD1 hS1 hl
theorem v_objinit (hC : Cx z E cc own nL d mc ms) {index a : Nat} (h1 : Cond.methodLink own index Lib.objectInit ∈ ALLg) (h2 : Cond.instanceMethod Lib.objectInit ∈ ALLg) (h3 : Cond.code Lib.objectInit ⟨#[0xb1]⟩ 1 none ∈ ALLg) (hd : 1 ≤ d) (hdg : decode cc pc = .ok (.invokespecial index, 3)) (kk : V z E nL cells slots L f (pc + 3) lv []) : V z E nL cells slots L f pc lv [.ref a] := by
  intro H locs ls hP hD hS hl
  have hr := hC.2.2.2.2.2.2.2
  refine W.objInit hC.1 hC.2.1 hC.2.2.2.1 (hC.2.2.2.2.1 _ h1) (hC.2.2.2.2.1 _ h2) (hC.2.2.2.2.1 _ h3) rfl (by rw [hC.2.2.1]; exact hl.1) rfl hdg (by omega) ?_ (kk H locs ls hP hD hS hl)
  show 2 * 0 + 0 + 12 ≤ _
  omega
/-- what the tables say of a method: k arguments beside the object -/
def Mx (y : MethodName) (c : ByteArray) (n : Nat) (ret : Option FieldType) (k : Nat) : Prop :=
  Cond.code y c n ret ∈ ALLg ∧ Cond.initialized y.cls ∈ ALLg ∧ (y.cls ≠ "java/lang/invoke/MethodHandle" ∧ y.cls ≠ "java/lang/invoke/VarHandle" ∧ (parseMethodDescriptor y.desc).map (fun d => d.parameters.length) = some k) ∧ n ≤ 19
theorem good_all {w : Cond} (h : w ∈ ALLg) : GoodIn ALLg (w :: ALLg) := by
  intro v hv
  rcases List.mem_cons.mp hv with rfl | hv
  · exact ⟨h, good_of_word (al_good h)⟩
  · exact ⟨hv, good_of_word (al_good hv)⟩
theorem Cx.fix (hC : Cx z E cc own nL d mc ms) : CallFix (zp z) (zm z) (zc z) cc nL (zs z) (za z) ALLg own := ⟨hC.1, hC.2.1, hC.2.2.1, hC.2.2.2.1, hC.2.2.2.2.1⟩
theorem Cx.free (hC : Cx z E cc own nL d mc ms) {H : Heap} {locs : List Loc} (hD : va_D (zA z) (va_pl L f)) (hS : va_S (zA z) (zs z).heap H locs) : ∀ q, va_A (va_pl L f) H.size q → zA z q := by
  intro q h
  rcases h with ⟨k, e, he⟩ | h
  · exact hD.2 k _ he
  · exact hC.2.2.2.2.2.2.1 q (Nat.le_trans hS.1 h)
theorem Cx.pre (hC : Cx z E cc own nL d mc ms) {H : Heap} {locs : List Loc} (hP : va_P (eD E) vwCl (va_pl L f) H) (hD : va_D (zA z) (va_pl L f)) (hS : va_S (zA z) (zs z).heap H locs) (av : List Value) : ∀ U : State, U.heap = H → (zs z).WarmedH U.vm → va_Pc av (PreX E L f H.size) av.toArray U := by
  intro U hU hW
  subst hU
  exact ⟨rfl, rfl, hP, hD.weaken (fun _ _ _ _ => trivial), hC.2.2.2.2.2.1.call hW hS.2.1 (hC.free hD hS)⟩
theorem Cx.room (hC : Cx z E cc own nL d mc ms) {d' n : Nat} (h : d' + 1 ≤ d) (hn : n ≤ 19) : d' + 1 ≤ (zR z).frames ∧ 8 + (n + 11) + 38 * d' ≤ (zR z).locals := by
  have h1 := hC.2.2.2.2.2.2.2.1
  have h2 := hC.2.2.2.2.2.2.2.2.1
  omega
theorem Cx.fits (hC : Cx z E cc own nL d mc ms) {a b : Nat} (h1 : a ≤ mc) (h2 : b ≤ ms) : a ≤ (zR z).cells ∧ b ≤ (zR z).slots := ⟨Nat.le_trans h1 hC.2.2.2.2.2.2.2.2.2.1, Nat.le_trans h2 hC.2.2.2.2.2.2.2.2.2.2⟩
theorem v_vi (hC : Cx z E cc own nL d mc ms) {y : MethodName} {c : ByteArray} {n k d1 mc1 ms1 index : Nat} {ty : FieldType} {As rest : List Value} {post : Int32 → List Nat → (Nat → va_E) → Prop} {cells1 slots1 : Nat} {b ci : Nat} {fs : List Value} {T : u_T} {N : Nat} (hb : b ∈ L) (hfb : f b = ob ci fs) (hcl : vwCl[ci]? = some (y.cls, T, N)) (hin : Cond.instanceMethod y ∈ ALLg) (hse : Cond.selects y.cls y y ∈ ALLg) (hM : CI (zl z) y c n ty d1 mc1 ms1 E (.ref b :: As) L f post) (hm : Mx y c n (some ty) k) (hlk : Cond.methodLink own index y ∈ ALLg) (hd : d1 + 1 ≤ d) (hn : As.length = k) (h1 : cells + mc1 = cells1) (h2 : slots + ms1 = slots1) (h3 : cells1 ≤ mc) (h4 : slots1 ≤ ms) (hst : st = As.reverse ++ .ref b :: rest) (hW : (rest.map fun v => v.category).sum ≤ 8) (hdg : decode cc pc = .ok (.invokevirtual index, 3)) (kk : ∀ (r : Int32) (L1 : List Nat) (f1 : Nat → va_E), post r L1 f1 → V z E nL cells1 slots1 L1 f1 (pc + 3) lv (.int r :: rest)) : V z E nL cells slots L f pc lv st := by
  intro H locs ls hP hD hS hl
  subst h1
  subst h2
  subst hst
  obtain ⟨q0, hq⟩ := pl_at (f := f) hb
  rw [hfb] at hq
  have hFc := hC.free hD hS
  refine va_calli (va_runV (rest := rest) hC.fix (hM H.size) ⟨callB_of k hC.2.2.2.2.1 (good_all hm.1) rfl rfl rfl (hC.2.2.2.2.1 _ hm.2.1) (hC.2.2.2.2.1 _ hlk) hm.2.2.1 (hC.room hd hm.2.2.2), hC.2.2.2.2.1 _ hin, hC.2.2.2.2.1 _ hse⟩ ⟨PreX.blind _, va_recv hC.2.2.2.2.2.1.1 hP hcl hq, hC.pre hP hD hS (.ref b :: As)⟩ rfl hn hl.1 rfl (lv_room hW) hdg (hC.fits h3 h4)) hS (fun q _ h => hFc q h) hFc (fun r u t H1 locs1 ht hvm hw hB hz1 hk1 hS1 => ?_)
  exact kk r u.1 u.2 hw H1 locs1 ls (by rw [← ht]; exact hB.1) (hB.2.weaken (fun _ q _ h => hFc q.1 h)) hS1 hl
theorem v_viN (hC : Cx z E cc own nL d mc ms) {y : MethodName} {c : ByteArray} {n k d1 mc1 ms1 index : Nat} {ty : FieldType} {As rest : List Value} {post : Int32 → List Nat → (Nat → va_E) → Prop} {cells1 slots1 : Nat} {b ci : Nat} {fs : List Value} {T : u_T} {N : Nat} (hb : b ∈ L) (hfb : f b = ob ci fs) (hcl : vwCl[ci]? = some (y.cls, T, N)) (hin : Cond.instanceMethod y ∈ ALLg) (hse : Cond.selects y.cls y y ∈ ALLg) (hM : CI (zl z) y c n ty d1 mc1 ms1 E (.ref b :: As) L f post) (hm : Mx y c n (some ty) k) {host : String} (hlk : Cond.methodLinkNest own index y host ∈ nestW) (hd : d1 + 1 ≤ d) (hn : As.length = k) (h1 : cells + mc1 = cells1) (h2 : slots + ms1 = slots1) (h3 : cells1 ≤ mc) (h4 : slots1 ≤ ms) (hst : st = As.reverse ++ .ref b :: rest) (hW : (rest.map fun v => v.category).sum ≤ 8) (hdg : decode cc pc = .ok (.invokevirtual index, 3)) (kk : ∀ (r : Int32) (L1 : List Nat) (f1 : Nat → va_E), post r L1 f1 → V z E nL cells1 slots1 L1 f1 (pc + 3) lv (.int r :: rest)) : V z E nL cells slots L f pc lv st := by
  intro H locs ls hP hD hS hl
  subst h1
  subst h2
  subst hst
  obtain ⟨q0, hq⟩ := pl_at (f := f) hb
  rw [hfb] at hq
  have hFc := hC.free hD hS
  refine va_calli (va_runVN (rest := rest) hC.fix (hM H.size) ⟨va_cnB k hC.2.2.2.2.1 (good_all hm.1) rfl rfl rfl (hC.2.2.2.2.2.1.2.1 _ hlk) (hC.2.2.2.2.1 _ hm.2.1) hm.2.2.1 (hC.room hd hm.2.2.2), hC.2.2.2.2.1 _ hin, hC.2.2.2.2.1 _ hse⟩ ⟨PreX.blind _, va_recv hC.2.2.2.2.2.1.1 hP hcl hq, hC.pre hP hD hS (.ref b :: As)⟩ rfl hn hl.1 rfl (lv_room hW) hdg (hC.fits h3 h4)) hS (fun q _ h => hFc q h) hFc (fun r u t H1 locs1 ht hvm hw hB hz1 hk1 hS1 => ?_)
  exact kk r u.1 u.2 hw H1 locs1 ls (by rw [← ht]; exact hB.1) (hB.2.weaken (fun _ q _ h => hFc q.1 h)) hS1 hl
theorem v_si (hC : Cx z E cc own nL d mc ms) {y : MethodName} {c : ByteArray} {n k d1 mc1 ms1 index : Nat} {ty : FieldType} {As rest : List Value} {post : Int32 → List Nat → (Nat → va_E) → Prop} {cells1 slots1 : Nat} (hsta : Cond.static y ∈ ALLg) (hM : CI (zl z) y c n ty d1 mc1 ms1 E As L f post) (hm : Mx y c n (some ty) k) (hlk : Cond.methodLink own index y ∈ ALLg) (hd : d1 + 1 ≤ d) (hn : As.length = k) (h1 : cells + mc1 = cells1) (h2 : slots + ms1 = slots1) (h3 : cells1 ≤ mc) (h4 : slots1 ≤ ms) (hst : st = As.reverse ++ rest) (hW : (rest.map fun v => v.category).sum ≤ 8) (hdg : decode cc pc = .ok (.invokestatic index, 3)) (kk : ∀ (r : Int32) (L1 : List Nat) (f1 : Nat → va_E), post r L1 f1 → V z E nL cells1 slots1 L1 f1 (pc + 3) lv (.int r :: rest)) : V z E nL cells slots L f pc lv st := by
  intro H locs ls hP hD hS hl
  subst h1
  subst h2
  subst hst
  have hFc := hC.free hD hS
  refine va_calli (va_runS (rest := rest) hC.fix (hM H.size) ⟨callB_of k hC.2.2.2.2.1 (good_all hm.1) rfl rfl rfl (hC.2.2.2.2.1 _ hm.2.1) (hC.2.2.2.2.1 _ hlk) hm.2.2.1 (hC.room hd hm.2.2.2), hC.2.2.2.2.1 _ hsta⟩ ⟨PreX.blind _, hC.pre hP hD hS As⟩ rfl hn hl.1 rfl (lv_room hW) hdg (hC.fits h3 h4)) hS (fun q _ h => hFc q h) hFc (fun r u t H1 locs1 ht hvm hw hB hz1 hk1 hS1 => ?_)
  exact kk r u.1 u.2 hw H1 locs1 ls (by rw [← ht]; exact hB.1) (hB.2.weaken (fun _ q _ h => hFc q.1 h)) hS1 hl
theorem v_siN (hC : Cx z E cc own nL d mc ms) {y : MethodName} {c : ByteArray} {n k d1 mc1 ms1 index : Nat} {ty : FieldType} {As rest : List Value} {post : Int32 → List Nat → (Nat → va_E) → Prop} {cells1 slots1 : Nat} (hsta : Cond.static y ∈ ALLg) (hM : CI (zl z) y c n ty d1 mc1 ms1 E As L f post) (hm : Mx y c n (some ty) k) {host : String} (hlk : Cond.methodLinkNest own index y host ∈ nestW) (hd : d1 + 1 ≤ d) (hn : As.length = k) (h1 : cells + mc1 = cells1) (h2 : slots + ms1 = slots1) (h3 : cells1 ≤ mc) (h4 : slots1 ≤ ms) (hst : st = As.reverse ++ rest) (hW : (rest.map fun v => v.category).sum ≤ 8) (hdg : decode cc pc = .ok (.invokestatic index, 3)) (kk : ∀ (r : Int32) (L1 : List Nat) (f1 : Nat → va_E), post r L1 f1 → V z E nL cells1 slots1 L1 f1 (pc + 3) lv (.int r :: rest)) : V z E nL cells slots L f pc lv st := by
  intro H locs ls hP hD hS hl
  subst h1
  subst h2
  subst hst
  have hFc := hC.free hD hS
  refine va_calli (va_runSN (rest := rest) hC.fix (hM H.size) ⟨va_cnB k hC.2.2.2.2.1 (good_all hm.1) rfl rfl rfl (hC.2.2.2.2.2.1.2.1 _ hlk) (hC.2.2.2.2.1 _ hm.2.1) hm.2.2.1 (hC.room hd hm.2.2.2), hC.2.2.2.2.1 _ hsta, trivial⟩ ⟨PreX.blind _, hC.pre hP hD hS As⟩ rfl hn hl.1 rfl (lv_room hW) hdg (hC.fits h3 h4)) hS (fun q _ h => hFc q h) hFc (fun r u t H1 locs1 ht hvm hw hB hz1 hk1 hS1 => ?_)
  exact kk r u.1 u.2 hw H1 locs1 ls (by rw [← ht]; exact hB.1) (hB.2.weaken (fun _ q _ h => hFc q.1 h)) hS1 hl
theorem v_vv (hC : Cx z E cc own nL d mc ms) {y : MethodName} {c : ByteArray} {n k d1 mc1 ms1 index : Nat} {As rest : List Value} {post : List Nat → (Nat → va_E) → Prop} {cells1 slots1 : Nat} {b ci : Nat} {fs : List Value} {T : u_T} {N : Nat} (hb : b ∈ L) (hfb : f b = ob ci fs) (hcl : vwCl[ci]? = some (y.cls, T, N)) (hin : Cond.instanceMethod y ∈ ALLg) (hse : Cond.selects y.cls y y ∈ ALLg) (hM : CV (zl z) y c n d1 mc1 ms1 E (.ref b :: As) L f post) (hm : Mx y c n (none) k) (hlk : Cond.methodLink own index y ∈ ALLg) (hd : d1 + 1 ≤ d) (hn : As.length = k) (h1 : cells + mc1 = cells1) (h2 : slots + ms1 = slots1) (h3 : cells1 ≤ mc) (h4 : slots1 ≤ ms) (hst : st = As.reverse ++ .ref b :: rest) (hW : (rest.map fun v => v.category).sum ≤ 8) (hdg : decode cc pc = .ok (.invokevirtual index, 3)) (kk : ∀ (L1 : List Nat) (f1 : Nat → va_E), post L1 f1 → V z E nL cells1 slots1 L1 f1 (pc + 3) lv (rest)) : V z E nL cells slots L f pc lv st := by
  intro H locs ls hP hD hS hl
  subst h1
  subst h2
  subst hst
  obtain ⟨q0, hq⟩ := pl_at (f := f) hb
  rw [hfb] at hq
  have hFc := hC.free hD hS
  refine va_callv (va_runV (rest := rest) hC.fix (hM H.size) ⟨callB_of k hC.2.2.2.2.1 (good_all hm.1) rfl rfl rfl (hC.2.2.2.2.1 _ hm.2.1) (hC.2.2.2.2.1 _ hlk) hm.2.2.1 (hC.room hd hm.2.2.2), hC.2.2.2.2.1 _ hin, hC.2.2.2.2.1 _ hse⟩ ⟨PreX.blind _, va_recv hC.2.2.2.2.2.1.1 hP hcl hq, hC.pre hP hD hS (.ref b :: As)⟩ rfl hn hl.1 rfl (lv_room hW) hdg (hC.fits h3 h4)) hS (fun q _ h => hFc q h) hFc (fun u t H1 locs1 ht hvm hw hB hz1 hk1 hS1 => ?_)
  exact kk u.1 u.2 hw H1 locs1 ls (by rw [← ht]; exact hB.1) (hB.2.weaken (fun _ q _ h => hFc q.1 h)) hS1 hl
theorem v_vvN (hC : Cx z E cc own nL d mc ms) {y : MethodName} {c : ByteArray} {n k d1 mc1 ms1 index : Nat} {As rest : List Value} {post : List Nat → (Nat → va_E) → Prop} {cells1 slots1 : Nat} {b ci : Nat} {fs : List Value} {T : u_T} {N : Nat} (hb : b ∈ L) (hfb : f b = ob ci fs) (hcl : vwCl[ci]? = some (y.cls, T, N)) (hin : Cond.instanceMethod y ∈ ALLg) (hse : Cond.selects y.cls y y ∈ ALLg) (hM : CV (zl z) y c n d1 mc1 ms1 E (.ref b :: As) L f post) (hm : Mx y c n (none) k) {host : String} (hlk : Cond.methodLinkNest own index y host ∈ nestW) (hd : d1 + 1 ≤ d) (hn : As.length = k) (h1 : cells + mc1 = cells1) (h2 : slots + ms1 = slots1) (h3 : cells1 ≤ mc) (h4 : slots1 ≤ ms) (hst : st = As.reverse ++ .ref b :: rest) (hW : (rest.map fun v => v.category).sum ≤ 8) (hdg : decode cc pc = .ok (.invokevirtual index, 3)) (kk : ∀ (L1 : List Nat) (f1 : Nat → va_E), post L1 f1 → V z E nL cells1 slots1 L1 f1 (pc + 3) lv (rest)) : V z E nL cells slots L f pc lv st := by
  intro H locs ls hP hD hS hl
  subst h1
  subst h2
  subst hst
  obtain ⟨q0, hq⟩ := pl_at (f := f) hb
  rw [hfb] at hq
  have hFc := hC.free hD hS
  refine va_callv (va_runVN (rest := rest) hC.fix (hM H.size) ⟨va_cnB k hC.2.2.2.2.1 (good_all hm.1) rfl rfl rfl (hC.2.2.2.2.2.1.2.1 _ hlk) (hC.2.2.2.2.1 _ hm.2.1) hm.2.2.1 (hC.room hd hm.2.2.2), hC.2.2.2.2.1 _ hin, hC.2.2.2.2.1 _ hse⟩ ⟨PreX.blind _, va_recv hC.2.2.2.2.2.1.1 hP hcl hq, hC.pre hP hD hS (.ref b :: As)⟩ rfl hn hl.1 rfl (lv_room hW) hdg (hC.fits h3 h4)) hS (fun q _ h => hFc q h) hFc (fun u t H1 locs1 ht hvm hw hB hz1 hk1 hS1 => ?_)
  exact kk u.1 u.2 hw H1 locs1 ls (by rw [← ht]; exact hB.1) (hB.2.weaken (fun _ q _ h => hFc q.1 h)) hS1 hl
theorem v_sv (hC : Cx z E cc own nL d mc ms) {y : MethodName} {c : ByteArray} {n k d1 mc1 ms1 index : Nat} {As rest : List Value} {post : List Nat → (Nat → va_E) → Prop} {cells1 slots1 : Nat} (hsta : Cond.static y ∈ ALLg) (hM : CV (zl z) y c n d1 mc1 ms1 E As L f post) (hm : Mx y c n (none) k) (hlk : Cond.methodLink own index y ∈ ALLg) (hd : d1 + 1 ≤ d) (hn : As.length = k) (h1 : cells + mc1 = cells1) (h2 : slots + ms1 = slots1) (h3 : cells1 ≤ mc) (h4 : slots1 ≤ ms) (hst : st = As.reverse ++ rest) (hW : (rest.map fun v => v.category).sum ≤ 8) (hdg : decode cc pc = .ok (.invokestatic index, 3)) (kk : ∀ (L1 : List Nat) (f1 : Nat → va_E), post L1 f1 → V z E nL cells1 slots1 L1 f1 (pc + 3) lv (rest)) : V z E nL cells slots L f pc lv st := by
  intro H locs ls hP hD hS hl
  subst h1
  subst h2
  subst hst
  have hFc := hC.free hD hS
  refine va_callv (va_runS (rest := rest) hC.fix (hM H.size) ⟨callB_of k hC.2.2.2.2.1 (good_all hm.1) rfl rfl rfl (hC.2.2.2.2.1 _ hm.2.1) (hC.2.2.2.2.1 _ hlk) hm.2.2.1 (hC.room hd hm.2.2.2), hC.2.2.2.2.1 _ hsta⟩ ⟨PreX.blind _, hC.pre hP hD hS As⟩ rfl hn hl.1 rfl (lv_room hW) hdg (hC.fits h3 h4)) hS (fun q _ h => hFc q h) hFc (fun u t H1 locs1 ht hvm hw hB hz1 hk1 hS1 => ?_)
  exact kk u.1 u.2 hw H1 locs1 ls (by rw [← ht]; exact hB.1) (hB.2.weaken (fun _ q _ h => hFc q.1 h)) hS1 hl
theorem v_svN (hC : Cx z E cc own nL d mc ms) {y : MethodName} {c : ByteArray} {n k d1 mc1 ms1 index : Nat} {As rest : List Value} {post : List Nat → (Nat → va_E) → Prop} {cells1 slots1 : Nat} (hsta : Cond.static y ∈ ALLg) (hM : CV (zl z) y c n d1 mc1 ms1 E As L f post) (hm : Mx y c n (none) k) {host : String} (hlk : Cond.methodLinkNest own index y host ∈ nestW) (hd : d1 + 1 ≤ d) (hn : As.length = k) (h1 : cells + mc1 = cells1) (h2 : slots + ms1 = slots1) (h3 : cells1 ≤ mc) (h4 : slots1 ≤ ms) (hst : st = As.reverse ++ rest) (hW : (rest.map fun v => v.category).sum ≤ 8) (hdg : decode cc pc = .ok (.invokestatic index, 3)) (kk : ∀ (L1 : List Nat) (f1 : Nat → va_E), post L1 f1 → V z E nL cells1 slots1 L1 f1 (pc + 3) lv (rest)) : V z E nL cells slots L f pc lv st := by
  intro H locs ls hP hD hS hl
  subst h1
  subst h2
  subst hst
  have hFc := hC.free hD hS
  refine va_callv (va_runSN (rest := rest) hC.fix (hM H.size) ⟨va_cnB k hC.2.2.2.2.1 (good_all hm.1) rfl rfl rfl (hC.2.2.2.2.2.1.2.1 _ hlk) (hC.2.2.2.2.1 _ hm.2.1) hm.2.2.1 (hC.room hd hm.2.2.2), hC.2.2.2.2.1 _ hsta, trivial⟩ ⟨PreX.blind _, hC.pre hP hD hS As⟩ rfl hn hl.1 rfl (lv_room hW) hdg (hC.fits h3 h4)) hS (fun q _ h => hFc q h) hFc (fun u t H1 locs1 ht hvm hw hB hz1 hk1 hS1 => ?_)
  exact kk u.1 u.2 hw H1 locs1 ls (by rw [← ht]; exact hB.1) (hB.2.weaken (fun _ q _ h => hFc q.1 h)) hS1 hl
theorem v_xv (hC : Cx z E cc own nL d mc ms) {y : MethodName} {c : ByteArray} {n k d1 mc1 ms1 index : Nat} {As rest : List Value} {post : List Nat → (Nat → va_E) → Prop} {cells1 slots1 : Nat} {b : Nat} (hini : y.name = "<init>") (hin : Cond.instanceMethod y ∈ ALLg) (hM : CV (zl z) y c n d1 mc1 ms1 E (.ref b :: As) L f post) (hm : Mx y c n (none) k) (hlk : Cond.methodLink own index y ∈ ALLg) (hd : d1 + 1 ≤ d) (hn : As.length = k) (h1 : cells + mc1 = cells1) (h2 : slots + ms1 = slots1) (h3 : cells1 ≤ mc) (h4 : slots1 ≤ ms) (hst : st = As.reverse ++ .ref b :: rest) (hW : (rest.map fun v => v.category).sum ≤ 8) (hdg : decode cc pc = .ok (.invokespecial index, 3)) (kk : ∀ (L1 : List Nat) (f1 : Nat → va_E), post L1 f1 → V z E nL cells1 slots1 L1 f1 (pc + 3) lv (rest)) : V z E nL cells slots L f pc lv st := by
  intro H locs ls hP hD hS hl
  subst h1
  subst h2
  subst hst
  have hFc := hC.free hD hS
  refine va_callv (va_runI (rest := rest) hC.fix (hM H.size) ⟨callB_of k hC.2.2.2.2.1 (good_all hm.1) rfl rfl rfl (hC.2.2.2.2.1 _ hm.2.1) (hC.2.2.2.2.1 _ hlk) hm.2.2.1 (hC.room hd hm.2.2.2), hini, hC.2.2.2.2.1 _ hin⟩ ⟨PreX.blind _, hC.pre hP hD hS (.ref b :: As)⟩ rfl hn hl.1 rfl (lv_room hW) hdg (hC.fits h3 h4)) hS (fun q _ h => hFc q h) hFc (fun u t H1 locs1 ht hvm hw hB hz1 hk1 hS1 => ?_)
  exact kk u.1 u.2 hw H1 locs1 ls (by rw [← ht]; exact hB.1) (hB.2.weaken (fun _ q _ h => hFc q.1 h)) hS1 hl
theorem v_xvN (hC : Cx z E cc own nL d mc ms) {y : MethodName} {c : ByteArray} {n k d1 mc1 ms1 index : Nat} {As rest : List Value} {post : List Nat → (Nat → va_E) → Prop} {cells1 slots1 : Nat} {b : Nat} (hini : y.name = "<init>") (hin : Cond.instanceMethod y ∈ ALLg) (hM : CV (zl z) y c n d1 mc1 ms1 E (.ref b :: As) L f post) (hm : Mx y c n (none) k) {host : String} (hlk : Cond.methodLinkNest own index y host ∈ nestW) (hd : d1 + 1 ≤ d) (hn : As.length = k) (h1 : cells + mc1 = cells1) (h2 : slots + ms1 = slots1) (h3 : cells1 ≤ mc) (h4 : slots1 ≤ ms) (hst : st = As.reverse ++ .ref b :: rest) (hW : (rest.map fun v => v.category).sum ≤ 8) (hdg : decode cc pc = .ok (.invokespecial index, 3)) (kk : ∀ (L1 : List Nat) (f1 : Nat → va_E), post L1 f1 → V z E nL cells1 slots1 L1 f1 (pc + 3) lv (rest)) : V z E nL cells slots L f pc lv st := by
  intro H locs ls hP hD hS hl
  subst h1
  subst h2
  subst hst
  have hFc := hC.free hD hS
  refine va_callv (va_runIN (rest := rest) hC.fix (hM H.size) ⟨va_cnB k hC.2.2.2.2.1 (good_all hm.1) rfl rfl rfl (hC.2.2.2.2.2.1.2.1 _ hlk) (hC.2.2.2.2.1 _ hm.2.1) hm.2.2.1 (hC.room hd hm.2.2.2), hini, hC.2.2.2.2.1 _ hin⟩ ⟨PreX.blind _, hC.pre hP hD hS (.ref b :: As)⟩ rfl hn hl.1 rfl (lv_room hW) hdg (hC.fits h3 h4)) hS (fun q _ h => hFc q h) hFc (fun u t H1 locs1 ht hvm hw hB hz1 hk1 hS1 => ?_)
  exact kk u.1 u.2 hw H1 locs1 ls (by rw [← ht]; exact hB.1) (hB.2.weaken (fun _ q _ h => hFc q.1 h)) hS1 hl
theorem v_vj (hC : Cx z E cc own nL d mc ms) {y : MethodName} {c : ByteArray} {n k d1 mc1 ms1 index : Nat} {As rest : List Value} {post : Int64 → List Nat → (Nat → va_E) → Prop} {cells1 slots1 : Nat} {b ci : Nat} {fs : List Value} {T : u_T} {N : Nat} (hb : b ∈ L) (hfb : f b = ob ci fs) (hcl : vwCl[ci]? = some (y.cls, T, N)) (hin : Cond.instanceMethod y ∈ ALLg) (hse : Cond.selects y.cls y y ∈ ALLg) (hM : CJ (zl z) y c n d1 mc1 ms1 E (.ref b :: As) L f post) (hm : Mx y c n (some .long) k) (hlk : Cond.methodLink own index y ∈ ALLg) (hd : d1 + 1 ≤ d) (hn : As.length = k) (h1 : cells + mc1 = cells1) (h2 : slots + ms1 = slots1) (h3 : cells1 ≤ mc) (h4 : slots1 ≤ ms) (hst : st = As.reverse ++ .ref b :: rest) (hW : (rest.map fun v => v.category).sum ≤ 8) (hdg : decode cc pc = .ok (.invokevirtual index, 3)) (kk : ∀ (r : Int64) (L1 : List Nat) (f1 : Nat → va_E), post r L1 f1 → V z E nL cells1 slots1 L1 f1 (pc + 3) lv (.long r :: rest)) : V z E nL cells slots L f pc lv st := by
  intro H locs ls hP hD hS hl
  subst h1
  subst h2
  subst hst
  obtain ⟨q0, hq⟩ := pl_at (f := f) hb
  rw [hfb] at hq
  have hFc := hC.free hD hS
  refine va_calll (va_runV (rest := rest) hC.fix (hM H.size) ⟨callB_of k hC.2.2.2.2.1 (good_all hm.1) rfl rfl rfl (hC.2.2.2.2.1 _ hm.2.1) (hC.2.2.2.2.1 _ hlk) hm.2.2.1 (hC.room hd hm.2.2.2), hC.2.2.2.2.1 _ hin, hC.2.2.2.2.1 _ hse⟩ ⟨PreX.blind _, va_recv hC.2.2.2.2.2.1.1 hP hcl hq, hC.pre hP hD hS (.ref b :: As)⟩ rfl hn hl.1 rfl (lv_room hW) hdg (hC.fits h3 h4)) hS (fun q _ h => hFc q h) hFc (fun r u t H1 locs1 ht hvm hw hB hz1 hk1 hS1 => ?_)
  exact kk r u.1 u.2 hw H1 locs1 ls (by rw [← ht]; exact hB.1) (hB.2.weaken (fun _ q _ h => hFc q.1 h)) hS1 hl
theorem v_vjN (hC : Cx z E cc own nL d mc ms) {y : MethodName} {c : ByteArray} {n k d1 mc1 ms1 index : Nat} {As rest : List Value} {post : Int64 → List Nat → (Nat → va_E) → Prop} {cells1 slots1 : Nat} {b ci : Nat} {fs : List Value} {T : u_T} {N : Nat} (hb : b ∈ L) (hfb : f b = ob ci fs) (hcl : vwCl[ci]? = some (y.cls, T, N)) (hin : Cond.instanceMethod y ∈ ALLg) (hse : Cond.selects y.cls y y ∈ ALLg) (hM : CJ (zl z) y c n d1 mc1 ms1 E (.ref b :: As) L f post) (hm : Mx y c n (some .long) k) {host : String} (hlk : Cond.methodLinkNest own index y host ∈ nestW) (hd : d1 + 1 ≤ d) (hn : As.length = k) (h1 : cells + mc1 = cells1) (h2 : slots + ms1 = slots1) (h3 : cells1 ≤ mc) (h4 : slots1 ≤ ms) (hst : st = As.reverse ++ .ref b :: rest) (hW : (rest.map fun v => v.category).sum ≤ 8) (hdg : decode cc pc = .ok (.invokevirtual index, 3)) (kk : ∀ (r : Int64) (L1 : List Nat) (f1 : Nat → va_E), post r L1 f1 → V z E nL cells1 slots1 L1 f1 (pc + 3) lv (.long r :: rest)) : V z E nL cells slots L f pc lv st := by
  intro H locs ls hP hD hS hl
  subst h1
  subst h2
  subst hst
  obtain ⟨q0, hq⟩ := pl_at (f := f) hb
  rw [hfb] at hq
  have hFc := hC.free hD hS
  refine va_calll (va_runVN (rest := rest) hC.fix (hM H.size) ⟨va_cnB k hC.2.2.2.2.1 (good_all hm.1) rfl rfl rfl (hC.2.2.2.2.2.1.2.1 _ hlk) (hC.2.2.2.2.1 _ hm.2.1) hm.2.2.1 (hC.room hd hm.2.2.2), hC.2.2.2.2.1 _ hin, hC.2.2.2.2.1 _ hse⟩ ⟨PreX.blind _, va_recv hC.2.2.2.2.2.1.1 hP hcl hq, hC.pre hP hD hS (.ref b :: As)⟩ rfl hn hl.1 rfl (lv_room hW) hdg (hC.fits h3 h4)) hS (fun q _ h => hFc q h) hFc (fun r u t H1 locs1 ht hvm hw hB hz1 hk1 hS1 => ?_)
  exact kk r u.1 u.2 hw H1 locs1 ls (by rw [← ht]; exact hB.1) (hB.2.weaken (fun _ q _ h => hFc q.1 h)) hS1 hl
theorem v_sj (hC : Cx z E cc own nL d mc ms) {y : MethodName} {c : ByteArray} {n k d1 mc1 ms1 index : Nat} {As rest : List Value} {post : Int64 → List Nat → (Nat → va_E) → Prop} {cells1 slots1 : Nat} (hsta : Cond.static y ∈ ALLg) (hM : CJ (zl z) y c n d1 mc1 ms1 E As L f post) (hm : Mx y c n (some .long) k) (hlk : Cond.methodLink own index y ∈ ALLg) (hd : d1 + 1 ≤ d) (hn : As.length = k) (h1 : cells + mc1 = cells1) (h2 : slots + ms1 = slots1) (h3 : cells1 ≤ mc) (h4 : slots1 ≤ ms) (hst : st = As.reverse ++ rest) (hW : (rest.map fun v => v.category).sum ≤ 8) (hdg : decode cc pc = .ok (.invokestatic index, 3)) (kk : ∀ (r : Int64) (L1 : List Nat) (f1 : Nat → va_E), post r L1 f1 → V z E nL cells1 slots1 L1 f1 (pc + 3) lv (.long r :: rest)) : V z E nL cells slots L f pc lv st := by
  intro H locs ls hP hD hS hl
  subst h1
  subst h2
  subst hst
  have hFc := hC.free hD hS
  refine va_calll (va_runS (rest := rest) hC.fix (hM H.size) ⟨callB_of k hC.2.2.2.2.1 (good_all hm.1) rfl rfl rfl (hC.2.2.2.2.1 _ hm.2.1) (hC.2.2.2.2.1 _ hlk) hm.2.2.1 (hC.room hd hm.2.2.2), hC.2.2.2.2.1 _ hsta⟩ ⟨PreX.blind _, hC.pre hP hD hS As⟩ rfl hn hl.1 rfl (lv_room hW) hdg (hC.fits h3 h4)) hS (fun q _ h => hFc q h) hFc (fun r u t H1 locs1 ht hvm hw hB hz1 hk1 hS1 => ?_)
  exact kk r u.1 u.2 hw H1 locs1 ls (by rw [← ht]; exact hB.1) (hB.2.weaken (fun _ q _ h => hFc q.1 h)) hS1 hl
theorem v_sjN (hC : Cx z E cc own nL d mc ms) {y : MethodName} {c : ByteArray} {n k d1 mc1 ms1 index : Nat} {As rest : List Value} {post : Int64 → List Nat → (Nat → va_E) → Prop} {cells1 slots1 : Nat} (hsta : Cond.static y ∈ ALLg) (hM : CJ (zl z) y c n d1 mc1 ms1 E As L f post) (hm : Mx y c n (some .long) k) {host : String} (hlk : Cond.methodLinkNest own index y host ∈ nestW) (hd : d1 + 1 ≤ d) (hn : As.length = k) (h1 : cells + mc1 = cells1) (h2 : slots + ms1 = slots1) (h3 : cells1 ≤ mc) (h4 : slots1 ≤ ms) (hst : st = As.reverse ++ rest) (hW : (rest.map fun v => v.category).sum ≤ 8) (hdg : decode cc pc = .ok (.invokestatic index, 3)) (kk : ∀ (r : Int64) (L1 : List Nat) (f1 : Nat → va_E), post r L1 f1 → V z E nL cells1 slots1 L1 f1 (pc + 3) lv (.long r :: rest)) : V z E nL cells slots L f pc lv st := by
  intro H locs ls hP hD hS hl
  subst h1
  subst h2
  subst hst
  have hFc := hC.free hD hS
  refine va_calll (va_runSN (rest := rest) hC.fix (hM H.size) ⟨va_cnB k hC.2.2.2.2.1 (good_all hm.1) rfl rfl rfl (hC.2.2.2.2.2.1.2.1 _ hlk) (hC.2.2.2.2.1 _ hm.2.1) hm.2.2.1 (hC.room hd hm.2.2.2), hC.2.2.2.2.1 _ hsta, trivial⟩ ⟨PreX.blind _, hC.pre hP hD hS As⟩ rfl hn hl.1 rfl (lv_room hW) hdg (hC.fits h3 h4)) hS (fun q _ h => hFc q h) hFc (fun r u t H1 locs1 ht hvm hw hB hz1 hk1 hS1 => ?_)
  exact kk r u.1 u.2 hw H1 locs1 ls (by rw [← ht]; exact hB.1) (hB.2.weaken (fun _ q _ h => hFc q.1 h)) hS1 hl
end VL
/-- how a walk ends -/
def RI (z : Cz) (E : Ez) (c : ByteArray) (n : Nat) (ty : FieldType) (mc ms : Nat) (post : Int32 → List Nat → (Nat → va_E) → Prop) : Prop := ∀ (pc : Nat) (L1 : List Nat) (f1 : Nat → va_E) (lv : List (Nat × Value)) (r : Int32) (cells slots : Nat), decode c pc = .ok (.ireturn, 1) → narrow ty (.int r) = .int r → cells ≤ mc → slots ≤ ms → post r L1 f1 → V z E n cells slots L1 f1 pc lv [.int r]
theorem ci_of {l : Launch} {y : MethodName} {c : ByteArray} {n d mc ms : Nat} {ty : FieldType} {E : Ez} {av : List Value} {L : List Nat} {f : Nat → va_E} {post : Int32 → List Nat → (Nat → va_E) → Prop} (hpl : plainName y.cls = true) (hlen : (lg_sl av).length ≤ n)
    (body : ∀ z : Cz, zl z = l → (zM z).name = y.name → Cx z E c y.cls n d mc ms → RI z E c n ty mc ms post → V z E n 0 0 L f 0 (lv_args 0 av) []) : CI l y c n ty d mc ms E av L f post := by
  intro sz
  refine Met.ofW (cc := c) (maxL := n) (ret := some ty) hpl rfl ?_
  intro p e s m args below meth c1 s₁ B hml hv
  obtain ⟨rfl, hsz, hP, hD0, hK⟩ := hv
  subst hsz
  have hts := atoms_spec (ws := Cond.code y c n (some ty) :: ALLg) B.pre
  have hown : s.vm.findClass y.cls = some m.cls := findClass_of_methodNamed B.named
  have hnm : meth.name = y.name := (name_of_methodNamed B.named B.method).1
  have hD := hD0.self (sz := s.heap.size)
  have hl := lv_entry av (n := n) hlen
  rw [lg_entry_eq]
  refine body (p, l, e, rmd d mc ms, s, m, av.toArray, below, meth, c1, MQ below (va_Qi (fun r (u : Pool) => post r u.1 u.2) (PstX E L f s.heap.size) (va_A (va_pl L f) s.heap.size)) av.toArray s mc ms (va_A (va_pl L f) s.heap.size), va_A (va_pl L f) s.heap.size) rfl hnm ⟨B.exec, B.bytes, hml, hown, fun w hw => hts w (List.mem_cons_of_mem _ hw), hK, fun q h => Or.inr h, Nat.le_refl _, Nat.le_refl _, Nat.le_refl _, Nat.le_refl _⟩ ?_ s.heap [] _ hP hD va_S.rf hl
  intro pc L1 f1 lv r cells slots hdg hn hc hs hp H locs ls hP1 hD1 hS1 hl1
  refine W.widen (k := mc) (n := ms) hc hs ?_
  exact W.zret B.exec B.bytes B.returns hn (fun t ht hW => ⟨⟨r, (L1, f1), rfl, hp, by rw [ht]; exact hP1, hD1⟩, hS1.F ht⟩) hS1.2.2 hdg B.notSynchronized
/-- how a walk ends -/
def RV (z : Cz) (E : Ez) (c : ByteArray) (n : Nat) (mc ms : Nat) (post : List Nat → (Nat → va_E) → Prop) : Prop := ∀ (pc : Nat) (L1 : List Nat) (f1 : Nat → va_E) (lv : List (Nat × Value)) (cells slots : Nat), decode c pc = .ok (.return_, 1) → cells ≤ mc → slots ≤ ms → post L1 f1 → V z E n cells slots L1 f1 pc lv []
theorem cv_of {l : Launch} {y : MethodName} {c : ByteArray} {n d mc ms : Nat} {E : Ez} {av : List Value} {L : List Nat} {f : Nat → va_E} {post : List Nat → (Nat → va_E) → Prop} (hpl : plainName y.cls = true) (hlen : (lg_sl av).length ≤ n)
    (body : ∀ z : Cz, zl z = l → (zM z).name = y.name → Cx z E c y.cls n d mc ms → RV z E c n mc ms post → V z E n 0 0 L f 0 (lv_args 0 av) []) : CV l y c n d mc ms E av L f post := by
  intro sz
  refine Met.ofW (cc := c) (maxL := n) (ret := none) hpl rfl ?_
  intro p e s m args below meth c1 s₁ B hml hv
  obtain ⟨rfl, hsz, hP, hD0, hK⟩ := hv
  subst hsz
  have hts := atoms_spec (ws := Cond.code y c n (none) :: ALLg) B.pre
  have hown : s.vm.findClass y.cls = some m.cls := findClass_of_methodNamed B.named
  have hnm : meth.name = y.name := (name_of_methodNamed B.named B.method).1
  have hD := hD0.self (sz := s.heap.size)
  have hl := lv_entry av (n := n) hlen
  rw [lg_entry_eq]
  refine body (p, l, e, rmd d mc ms, s, m, av.toArray, below, meth, c1, MQ below (va_Qv (fun (u : Pool) => post u.1 u.2) (PstX E L f s.heap.size) (va_A (va_pl L f) s.heap.size)) av.toArray s mc ms (va_A (va_pl L f) s.heap.size), va_A (va_pl L f) s.heap.size) rfl hnm ⟨B.exec, B.bytes, hml, hown, fun w hw => hts w (List.mem_cons_of_mem _ hw), hK, fun q h => Or.inr h, Nat.le_refl _, Nat.le_refl _, Nat.le_refl _, Nat.le_refl _⟩ ?_ s.heap [] _ hP hD va_S.rf hl
  intro pc L1 f1 lv cells slots hdg hc hs hp H locs ls hP1 hD1 hS1 hl1
  refine W.widen (k := mc) (n := ms) hc hs ?_
  exact W.vret B.exec B.bytes B.returns (fun t ht hW => ⟨⟨(L1, f1), rfl, hp, by rw [ht]; exact hP1, hD1⟩, hS1.F ht⟩) hS1.2.2 hdg B.notSynchronized
/-- how a walk ends -/
def RJ (z : Cz) (E : Ez) (c : ByteArray) (n : Nat) (mc ms : Nat) (post : Int64 → List Nat → (Nat → va_E) → Prop) : Prop := ∀ (pc : Nat) (L1 : List Nat) (f1 : Nat → va_E) (lv : List (Nat × Value)) (r : Int64) (cells slots : Nat), decode c pc = .ok (.lreturn, 1) → cells ≤ mc → slots ≤ ms → post r L1 f1 → V z E n cells slots L1 f1 pc lv [.long r]
theorem cj_of {l : Launch} {y : MethodName} {c : ByteArray} {n d mc ms : Nat} {E : Ez} {av : List Value} {L : List Nat} {f : Nat → va_E} {post : Int64 → List Nat → (Nat → va_E) → Prop} (hpl : plainName y.cls = true) (hlen : (lg_sl av).length ≤ n)
    (body : ∀ z : Cz, zl z = l → (zM z).name = y.name → Cx z E c y.cls n d mc ms → RJ z E c n mc ms post → V z E n 0 0 L f 0 (lv_args 0 av) []) : CJ l y c n d mc ms E av L f post := by
  intro sz
  refine Met.ofW (cc := c) (maxL := n) (ret := some .long) hpl rfl ?_
  intro p e s m args below meth c1 s₁ B hml hv
  obtain ⟨rfl, hsz, hP, hD0, hK⟩ := hv
  subst hsz
  have hts := atoms_spec (ws := Cond.code y c n (some .long) :: ALLg) B.pre
  have hown : s.vm.findClass y.cls = some m.cls := findClass_of_methodNamed B.named
  have hnm : meth.name = y.name := (name_of_methodNamed B.named B.method).1
  have hD := hD0.self (sz := s.heap.size)
  have hl := lv_entry av (n := n) hlen
  rw [lg_entry_eq]
  refine body (p, l, e, rmd d mc ms, s, m, av.toArray, below, meth, c1, MQ below (va_Ql (fun r (u : Pool) => post r u.1 u.2) (PstX E L f s.heap.size) (va_A (va_pl L f) s.heap.size)) av.toArray s mc ms (va_A (va_pl L f) s.heap.size), va_A (va_pl L f) s.heap.size) rfl hnm ⟨B.exec, B.bytes, hml, hown, fun w hw => hts w (List.mem_cons_of_mem _ hw), hK, fun q h => Or.inr h, Nat.le_refl _, Nat.le_refl _, Nat.le_refl _, Nat.le_refl _⟩ ?_ s.heap [] _ hP hD va_S.rf hl
  intro pc L1 f1 lv r cells slots hdg hc hs hp H locs ls hP1 hD1 hS1 hl1
  refine W.widen (k := mc) (n := ms) hc hs ?_
  exact W.lret B.exec B.bytes B.returns (fun t ht hW => ⟨⟨r, (L1, f1), rfl, hp, by rw [ht]; exact hP1, hD1⟩, hS1.F ht⟩) hS1.2.2 hdg B.notSynchronized
theorem inX0 : ∀ w ∈ u_ws RX0 TX0 6, w ∈ ALLg := fun w h => al_in ((show ∀ w ∈ u_ws RX0 TX0 6, w ∈ lw_tbl by decide +kernel) w h) ((show ∀ w ∈ u_ws RX0 TX0 6, goodWord w = true by decide +kernel) w h)
theorem inX1 : ∀ w ∈ u_ws RX1 TX1 2, w ∈ ALLg := fun w h => al_in ((show ∀ w ∈ u_ws RX1 TX1 2, w ∈ lw_tbl by decide +kernel) w h) ((show ∀ w ∈ u_ws RX1 TX1 2, goodWord w = true by decide +kernel) w h)
theorem inX2 : ∀ w ∈ u_ws RX2 TX2 2, w ∈ ALLg := fun w h => al_in ((show ∀ w ∈ u_ws RX2 TX2 2, w ∈ lw_tbl by decide +kernel) w h) ((show ∀ w ∈ u_ws RX2 TX2 2, goodWord w = true by decide +kernel) w h)
theorem inX3 : ∀ w ∈ u_ws RX3 TX3 4, w ∈ ALLg := fun w h => al_in ((show ∀ w ∈ u_ws RX3 TX3 4, w ∈ lw_tbl by decide +kernel) w h) ((show ∀ w ∈ u_ws RX3 TX3 4, goodWord w = true by decide +kernel) w h)
theorem inX4 : ∀ w ∈ u_ws RX4 TX4 5, w ∈ ALLg := fun w h => al_in ((show ∀ w ∈ u_ws RX4 TX4 5, w ∈ lw_tbl by decide +kernel) w h) ((show ∀ w ∈ u_ws RX4 TX4 5, goodWord w = true by decide +kernel) w h)
theorem inX5 : ∀ w ∈ u_ws RX5 TX5 3, w ∈ ALLg := fun w h => al_in ((show ∀ w ∈ u_ws RX5 TX5 3, w ∈ lw_tbl by decide +kernel) w h) ((show ∀ w ∈ u_ws RX5 TX5 3, goodWord w = true by decide +kernel) w h)
theorem inX6 : ∀ w ∈ u_ws RX6 TX6 10, w ∈ ALLg := fun w h => al_in ((show ∀ w ∈ u_ws RX6 TX6 10, w ∈ lw_tbl by decide +kernel) w h) ((show ∀ w ∈ u_ws RX6 TX6 10, goodWord w = true by decide +kernel) w h)
theorem inX7 : ∀ w ∈ u_ws RX7 TX7 7, w ∈ ALLg := fun w h => al_in ((show ∀ w ∈ u_ws RX7 TX7 7, w ∈ lw_tbl by decide +kernel) w h) ((show ∀ w ∈ u_ws RX7 TX7 7, goodWord w = true by decide +kernel) w h)
theorem inX8 : ∀ w ∈ u_ws RX8 TX8 5, w ∈ ALLg := fun w h => al_in ((show ∀ w ∈ u_ws RX8 TX8 5, w ∈ lw_tbl by decide +kernel) w h) ((show ∀ w ∈ u_ws RX8 TX8 5, goodWord w = true by decide +kernel) w h)
theorem inX9 : ∀ w ∈ u_ws RX9 TX9 3, w ∈ ALLg := fun w h => al_in ((show ∀ w ∈ u_ws RX9 TX9 3, w ∈ lw_tbl by decide +kernel) w h) ((show ∀ w ∈ u_ws RX9 TX9 3, goodWord w = true by decide +kernel) w h)
theorem inX10 : ∀ w ∈ u_ws RX10 TX10 7, w ∈ ALLg := fun w h => al_in ((show ∀ w ∈ u_ws RX10 TX10 7, w ∈ lw_tbl by decide +kernel) w h) ((show ∀ w ∈ u_ws RX10 TX10 7, goodWord w = true by decide +kernel) w h)
theorem inX11 : ∀ w ∈ u_ws RX11 TX11 14, w ∈ ALLg := fun w h => al_in ((show ∀ w ∈ u_ws RX11 TX11 14, w ∈ lw_tbl by decide +kernel) w h) ((show ∀ w ∈ u_ws RX11 TX11 14, goodWord w = true by decide +kernel) w h)
theorem inX12 : ∀ w ∈ u_ws RX12 TX12 29, w ∈ ALLg := fun w h => al_in ((show ∀ w ∈ u_ws RX12 TX12 29, w ∈ lw_tbl by decide +kernel) w h) ((show ∀ w ∈ u_ws RX12 TX12 29, goodWord w = true by decide +kernel) w h)
