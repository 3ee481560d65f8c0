/-! texts as receivers; indices of the reference's rows -/
section VS5
variable {z : Cz} {E : Ez} {cc : ByteArray} {own : String} {nL d mc ms cells slots pc : Nat} {L : List Nat} {f : Nat → va_E} {lv lv' : List (Nat × Value)} {st : List Value}
theorem v_getSv (hC : Cx z E cc own nL d mc ms) {index i : Nat} (hi : i < 77) (hw : Cond.fieldLink own index "java/lang/String" "value" "[B" ∈ ALLg) (hdg : decode cc pc = .ok (.getfield index, 3)) (kk : V z E nL cells slots L f (pc + 3) lv (.ref (eV E i) :: st)) : V z E nL cells slots L f pc lv (.ref (eK E i) :: st) := fun H locs ls hP hD hS hl => vk_getf hC.1 hC.2.1 (hC.2.2.2.2.2.1.2.2.2.1 i hi).2.2.1 hS hC.2.2.2.1 (hC.2.2.2.2.1 _ hw) (fun _ h => h) hdg (kk H locs ls hP hD hS hl)
theorem v_getSc (hC : Cx z E cc own nL d mc ms) {index i : Nat} (hi : i < 77) (hw : Cond.fieldLink own index "java/lang/String" "coder" "B" ∈ ALLg) (hdg : decode cc pc = .ok (.getfield index, 3)) (kk : V z E nL cells slots L f (pc + 3) lv (.int 0 :: st)) : V z E nL cells slots L f pc lv (.ref (eK E i) :: st) := fun H locs ls hP hD hS hl => vk_getf hC.1 hC.2.1 (hC.2.2.2.2.2.1.2.2.2.1 i hi).2.1 hS hC.2.2.2.1 (hC.2.2.2.2.1 _ hw) (fun _ h => h) hdg (kk H locs ls hP hD hS hl)
theorem v_getCS (hC : Cx z E cc own nL d mc ms) {index : Nat} (hw : Cond.fieldLink own index "java/lang/String" "COMPACT_STRINGS" "Z" ∈ ALLg) (hdg : decode cc pc = .ok (.getstatic index, 3)) (kk : V z E nL cells slots L f (pc + 3) lv (.int 1 :: st)) : V z E nL cells slots L f pc lv st := fun H locs ls hP hD hS hl => va_gets hC.1 hC.2.1 hC.2.2.2.2.2.1.2.2.2.2.1 hS hC.2.2.2.1 (hC.2.2.2.2.1 _ hw) (fun _ h => h) hdg (kk H locs ls hP hD hS hl)
theorem v_alenS (hC : Cx z E cc own nL d mc ms) {i : Nat} (hi : i < 77) (hdg : decode cc pc = .ok (.arraylength, 1)) (kk : V z E nL cells slots L f (pc + 1) lv (.int (nI (bytStr.getD i []).length) :: st)) : V z E nL cells slots L f pc lv (.ref (eV E i) :: st) := fun H locs ls hP hD hS hl => va_tlen hC.1 hC.2.1 (hC.2.2.2.2.2.1.2.2.2.1 i hi).2.2.2 hS rfl hdg (kk H locs ls hP hD hS hl)
theorem v_viS (hC : Cx z E cc own nL d mc ms) {y : MethodName} {c : ByteArray} {n k d1 mc1 ms1 index : Nat} {ty : FieldType} {As rest : List Value} {post : Int32 → List Nat → (Nat → va_E) → Prop} {cells1 slots1 i : Nat} (hi : i < 77) (hcl : y.cls = "java/lang/String") (hin : Cond.instanceMethod y ∈ ALLg) (hse : Cond.selects y.cls y y ∈ ALLg) (hM : CI (zl z) y c n ty d1 mc1 ms1 E (.ref (eK E i) :: As) L f post) (hm : Mx y c n (some ty) k) (hlk : Cond.methodLink own index y ∈ ALLg) (hd : d1 + 1 ≤ d) (hn : As.length = k) (h1 : cells + mc1 = cells1) (h2 : slots + ms1 = slots1) (h3 : cells1 ≤ mc) (h4 : slots1 ≤ ms) (hst : st = As.reverse ++ .ref (eK E i) :: rest) (hW : (rest.map fun v => v.category).sum ≤ 8) (hdg : decode cc pc = .ok (.invokevirtual index, 3)) (kk : ∀ (r : Int32) (L1 : List Nat) (f1 : Nat → va_E), post r L1 f1 → V z E nL cells1 slots1 L1 f1 (pc + 3) lv (.int r :: rest)) : V z E nL cells slots L f pc lv st := by
  intro H locs ls hP hD hS hl
  subst h1
  subst h2
  subst hst
  have hFc := hC.free hD hS
  have hrc : ∃ cell : Cell, H[eK E i]? = some cell ∧ cell.vm.isStatics = false ∧ (zs z).vm.findClass y.cls = some cell.cls := by
    obtain ⟨cell, g1, g2, g3, -⟩ := (hC.2.2.2.2.2.1.2.2.2.1 i hi).1.kept hS.2.1
    exact ⟨cell, g1, g2, by rw [hcl]; exact g3⟩
  refine va_calli (va_runV (rest := rest) hC.fix (hM H.size) ⟨callB_of k hC.2.2.2.2.1 (good_all hm.1) rfl rfl rfl (hC.2.2.2.2.1 _ hm.2.1) (hC.2.2.2.2.1 _ hlk) hm.2.2.1 (hC.room hd hm.2.2.2), hC.2.2.2.2.1 _ hin, hC.2.2.2.2.1 _ hse⟩ ⟨PreX.blind _, hrc, hC.pre hP hD hS (.ref (eK E i) :: As)⟩ rfl hn hl.1 rfl (lv_room hW) hdg (hC.fits h3 h4)) hS (fun q _ h => hFc q h) hFc (fun r u t H1 locs1 ht hvm hw hB hz1 hk1 hS1 => ?_)
  exact kk r u.1 u.2 hw H1 locs1 ls (by rw [← ht]; exact hB.1) (hB.2.weaken (fun _ q _ h => hFc q.1 h)) hS1 hl
end VS5
/-- a row by rows of b numbers, from a on -/
theorem inb_am (a b k N : Nat) {c : Int32} (h : 0 ≤ c ∧ c < nI k) (hk : k < 2 ^ 31) (hN : a + b * k ≤ N + b - 1) (hb : 0 < b) (hs : N < 2 ^ 30) : vp_in (nI a + nI b * c) N := by
  obtain ⟨j, hj, ej⟩ : ∃ j : Nat, j < k ∧ c = nI j := by
    obtain ⟨h1, h2⟩ := h
    obtain ⟨j, hj, ej⟩ := nI_of (x := c) (by simp only [Int32.lt_iff_toInt_lt, Int32.le_iff_toInt_le] at *; omega)
    refine ⟨j, ?_, ej⟩
    rw [ej] at h2
    exact (nI_ltI hj hk).mp h2
  have hm : b * (j + 1) ≤ b * k := Nat.mul_le_mul_left b hj
  rw [Nat.mul_add] at hm
  rw [ej, pk_mul, nI_add]
  exact vp_in_nI (by omega) (by omega)
theorem lit_nI (n : Nat) : (OfNat.ofNat n : Int32) = nI n := rfl
/-! methods that answer a reference -/
def CQ (l : Launch) (y : MethodName) (c : ByteArray) (n : Nat) (ty : FieldType) (d mc ms : Nat) (E : Ez) (av : List Value) (L : List Nat) (f : Nat → va_E) (post : Option Nat → List Nat → (Nat → va_E) → Prop) : Prop :=
  ∀ sz : Nat, Met l y (.code y c n (some ty) :: ALLg) (rmd d mc ms) (va_Pc av (PreX E L f sz)) (va_Qq (fun r (u : Pool) => post r u.1 u.2) (PstX E L f sz) (va_A (va_pl L f) sz)) mc ms (va_A (va_pl L f) sz)
def RQ (z : Cz) (E : Ez) (c : ByteArray) (n : Nat) (mc ms : Nat) (post : Option Nat → List Nat → (Nat → va_E) → Prop) : Prop := ∀ (pc : Nat) (L1 : List Nat) (f1 : Nat → va_E) (lv : List (Nat × Value)) (r : Nat) (cells slots : Nat), decode c pc = .ok (.areturn, 1) → cells ≤ mc → slots ≤ ms → post (some r) L1 f1 → V z E n cells slots L1 f1 pc lv [.ref r]
theorem cq_of {l : Launch} {y : MethodName} {c : ByteArray} {n d mc ms : Nat} {cn : String} {E : Ez} {av : List Value} {L : List Nat} {f : Nat → va_E} {post : Option Nat → List Nat → (Nat → va_E) → Prop} (hpl : plainName y.cls = true) (hlen : (lg_sl av).length ≤ n)
    (body : ∀ z : Cz, zl z = l → (zM z).name = y.name → Cx z E c y.cls n d mc ms → RQ z E c n mc ms post → V z E n 0 0 L f 0 (lv_args 0 av) []) : CQ l y c n (.object cn) d mc ms E av L f post := by
  intro sz
  refine Met.ofW (cc := c) (maxL := n) (ret := some (.object cn)) hpl rfl ?_
  intro p e s m args below meth c1 s₁ B hml hv
  obtain ⟨rfl, hsz, hP, hD0, hK⟩ := hv
  subst hsz
  have hts := atoms_spec (ws := Cond.code y c n (some (.object cn)) :: ALLg) B.pre
  have hown : s.vm.findClass y.cls = some m.cls := findClass_of_methodNamed B.named
  have hnm : meth.name = y.name := (name_of_methodNamed B.named B.method).1
  have hD := hD0.self (sz := s.heap.size)
  have hl := lv_entry av (n := n) hlen
  rw [lg_entry_eq]
  refine body (p, l, e, rmd d mc ms, s, m, av.toArray, below, meth, c1, MQ below (va_Qq (fun r (u : Pool) => post r u.1 u.2) (PstX E L f s.heap.size) (va_A (va_pl L f) s.heap.size)) av.toArray s mc ms (va_A (va_pl L f) s.heap.size), va_A (va_pl L f) s.heap.size) rfl hnm ⟨B.exec, B.bytes, hml, hown, fun w hw => hts w (List.mem_cons_of_mem _ hw), hK, fun q h => Or.inr h, Nat.le_refl _, Nat.le_refl _, Nat.le_refl _, Nat.le_refl _⟩ ?_ s.heap [] _ hP hD va_S.rf hl
  intro pc L1 f1 lv r cells slots hdg hc hs hp H locs ls hP1 hD1 hS1 hl1
  refine W.widen (k := mc) (n := ms) hc hs ?_
  exact W.aret B.exec B.bytes B.returns (.inl ⟨cn, rfl⟩) (.inr ⟨r, rfl⟩) (fun t ht hW => ⟨⟨some r, (L1, f1), rfl, hp, by rw [ht]; exact hP1, hD1⟩, hS1.F ht⟩) hS1.2.2 hdg B.notSynchronized
theorem v_sq {z : Cz} {E : Ez} {cc : ByteArray} {own : String} {nL d mc ms cells slots pc : Nat} {L : List Nat} {f : Nat → va_E} {lv : List (Nat × Value)} {st : List Value} (hC : Cx z E cc own nL d mc ms) {y : MethodName} {c : ByteArray} {n k d1 mc1 ms1 index : Nat} {ty : FieldType} {As rest : List Value} {post : Option Nat → List Nat → (Nat → va_E) → Prop} {cells1 slots1 : Nat} (hsta : Cond.static y ∈ ALLg) (hM : CQ (zl z) y c n ty d1 mc1 ms1 E As L f post) (hm : Mx y c n (some ty) k) (hlk : Cond.methodLink own index y ∈ ALLg) (hd : d1 + 1 ≤ d) (hn : As.length = k) (h1 : cells + mc1 = cells1) (h2 : slots + ms1 = slots1) (h3 : cells1 ≤ mc) (h4 : slots1 ≤ ms) (hst : st = As.reverse ++ rest) (hW : (rest.map fun v => v.category).sum ≤ 8) (hdg : decode cc pc = .ok (.invokestatic index, 3)) (kk : ∀ (r : Option Nat) (L1 : List Nat) (f1 : Nat → va_E), post r L1 f1 → V z E nL cells1 slots1 L1 f1 (pc + 3) lv (va_rf r :: rest)) : V z E nL cells slots L f pc lv st := by
  intro H locs ls hP hD hS hl
  subst h1
  subst h2
  subst hst
  have hFc := hC.free hD hS
  refine va_callq (va_runS (rest := rest) hC.fix (hM H.size) ⟨callB_of k hC.2.2.2.2.1 (good_all hm.1) rfl rfl rfl (hC.2.2.2.2.1 _ hm.2.1) (hC.2.2.2.2.1 _ hlk) hm.2.2.1 (hC.room hd hm.2.2.2), hC.2.2.2.2.1 _ hsta⟩ ⟨PreX.blind _, hC.pre hP hD hS As⟩ rfl hn hl.1 rfl (lv_room hW) hdg (hC.fits h3 h4)) hS (fun q _ h => hFc q h) hFc (fun r u t H1 locs1 ht hvm hw hB hz1 hk1 hS1 => ?_)
  exact kk r u.1 u.2 hw H1 locs1 ls (by rw [← ht]; exact hB.1) (hB.2.weaken (fun _ q _ h => hFc q.1 h)) hS1 hl
section VS6
variable {z : Cz} {E : Ez} {cc : ByteArray} {own : String} {nL d mc ms cells slots pc : Nat} {L : List Nat} {f : Nat → va_E} {lv lv' : List (Nat × Value)} {st : List Value}
theorem v_getSF (hC : Cx z E cc own nL d mc ms) {index : Nat} (hw : Cond.fieldLink own index "jdk/internal/util/Preconditions" "SIOOBE_FORMATTER" "Ljava/util/function/BiFunction;" ∈ ALLg) (hdg : decode cc pc = .ok (.getstatic index, 3)) (kn : V z E nL cells slots L f (pc + 3) lv (.null :: st)) (kr : ∀ t : Nat, V z E nL cells slots L f (pc + 3) lv (.ref t :: st)) : V z E nL cells slots L f pc lv st := fun H locs ls hP hD hS hl => by
  rcases hC.2.2.2.2.2.1.2.2.2.2.2.2 with h | ⟨t, h⟩
  · exact va_gets hC.1 hC.2.1 h hS hC.2.2.2.1 (hC.2.2.2.2.1 _ hw) (fun _ h => h) hdg (kn H locs ls hP hD hS hl)
  · exact va_gets hC.1 hC.2.1 h hS hC.2.2.2.1 (hC.2.2.2.2.1 _ hw) (fun _ h => h) hdg (kr t H locs ls hP hD hS hl)
theorem v_baldS (hC : Cx z E cc own nL d mc ms) {i : Nat} (hi : i < 77) {k v : Int32} (hin : vp_in k (bytStr.getD i []).length) (hv : (bytStr.getD i []).getD k.toNatClampNeg 0 = v) (hdg : decode cc pc = .ok (.baload, 1)) (kk : V z E nL cells slots L f (pc + 1) lv (.int v :: st)) : V z E nL cells slots L f pc lv (.int k :: .ref (eV E i) :: st) := fun H locs ls hP hD hS hl => va_tb hC.1 hC.2.1 (hC.2.2.2.2.2.1.2.2.2.1 i hi).2.2.2 hS hin (by rw [hv]) hdg (kk H locs ls hP hD hS hl)
end VS6
theorem fit01 {x : Int32} (h : 0 ≤ x.toInt ∧ x.toInt ≤ 1) : fits .boolean (.int x) = true := by
  have : x = 0 ∨ x = 1 := by
    simp only [Int32.reduceToInt, ← Int32.toInt_inj]
    omega
  rcases this with rfl | rfl <;> rfl
