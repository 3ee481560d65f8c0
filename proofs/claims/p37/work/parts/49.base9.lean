/-! two worlds side by side; the script -/
theorem pl_app (X Y : List Nat) (f : Nat → va_E) : va_pl (X ++ Y) f = va_pl X f ++ va_pl Y f := by simp [va_pl]
theorem P_left {D : va_G} {cl : List vw_C} {X Y : List Nat} {f : Nat → va_E} {H : Heap} (h : va_P D cl (va_pl (X ++ Y) f) H) : va_P D cl (va_pl X f) H := fun k q hk => h k q (by rw [pl_app, List.getElem?_append_left (List.getElem?_eq_some_iff.mp hk).1]; exact hk)
theorem P_right {D : va_G} {cl : List vw_C} {X Y : List Nat} {f : Nat → va_E} {H : Heap} (h : va_P D cl (va_pl (X ++ Y) f) H) : va_P D cl (va_pl Y f) H := fun k q hk => h (k + (va_pl X f).length) q (by rw [pl_app, List.getElem?_append_right (by omega), Nat.add_sub_cancel]; exact hk)
theorem D_left {A : Nat → Prop} {X Y : List Nat} {f : Nat → va_E} (h : va_D A (va_pl (X ++ Y) f)) : va_D A (va_pl X f) := by
  have lift : ∀ (k : Nat) (q : Nat × va_E), (va_pl X f)[k]? = some q → (va_pl (X ++ Y) f)[k]? = some q := fun k q hk => by rw [pl_app, List.getElem?_append_left (List.getElem?_eq_some_iff.mp hk).1]; exact hk
  exact ⟨fun i j p q hi hj e => h.1 i j p q (lift i p hi) (lift j q hj) e, fun k q hk => h.2 k q (lift k q hk)⟩
theorem D_right {A : Nat → Prop} {X Y : List Nat} {f : Nat → va_E} (h : va_D A (va_pl (X ++ Y) f)) : va_D A (va_pl Y f) := by
  have lift : ∀ (k : Nat) (q : Nat × va_E), (va_pl Y f)[k]? = some q → (va_pl (X ++ Y) f)[k + (va_pl X f).length]? = some q := fun k q hk => by rw [pl_app, List.getElem?_append_right (by omega), Nat.add_sub_cancel]; exact hk
  exact ⟨fun i j p q hi hj e => by have := h.1 _ _ p q (lift i p hi) (lift j q hj) e; omega, fun k q hk => h.2 _ q (lift k q hk)⟩
theorem D_apart {A : Nat → Prop} {X Y : List Nat} {f : Nat → va_E} (h : va_D A (va_pl (X ++ Y) f)) {a : Nat} (hx : a ∈ X) (hy : a ∈ Y) : False := by
  obtain ⟨i, hi⟩ := pl_at (f := f) hx
  obtain ⟨j, hj⟩ := pl_at (f := f) hy
  have hi1 := (List.getElem?_eq_some_iff.mp hi).1
  have e1 : (va_pl (X ++ Y) f)[i]? = some (a, f a) := by rw [pl_app, List.getElem?_append_left hi1]; exact hi
  have e2 : (va_pl (X ++ Y) f)[j + (va_pl X f).length]? = some (a, f a) := by rw [pl_app, List.getElem?_append_right (by omega), Nat.add_sub_cancel]; exact hj
  have := h.1 _ _ _ _ e1 e2 rfl
  omega
theorem pl_mem {L : List Nat} {f : Nat → va_E} {k : Nat} {q : Nat × va_E} (h : (va_pl L f)[k]? = some q) : q.1 ∈ L ∧ q.2 = f q.1 := by
  have := List.mem_of_getElem? h
  simp only [va_pl, List.mem_map] at this
  obtain ⟨a, ha, rfl⟩ := this
  exact ⟨ha, rfl⟩
theorem pl_congr {L : List Nat} {f f1 : Nat → va_E} (h : ∀ a ∈ L, f1 a = f a) : va_pl L f1 = va_pl L f := by
  simp only [va_pl]
  exact List.map_congr_left fun a ha => by rw [h a ha]
/-- what lies left stays, what lay right has become the callee's world -/
theorem fr_join {A : Nat → Prop} {D : va_G} {cl : List vw_C} {X Y L1 : List Nat} {f f1 : Nat → va_E} {H H1 : Heap} (hP : va_P D cl (va_pl (X ++ Y) f) H) (hD : va_D A (va_pl (X ++ Y) f)) (hk : ∀ q : Nat, q < H.size → ¬ va_A (va_pl Y f) H.size q → H1[q]? = H[q]?) (hF : ∀ q, va_A (va_pl Y f) H.size q → A q) (hP1 : va_P D cl (va_pl L1 f1) H1) (hD1 : va_D (va_A (va_pl Y f) H.size) (va_pl L1 f1)) :
    ∃ f2 : Nat → va_E, (∀ a ∈ X, f2 a = f a) ∧ (∀ a ∈ L1, f2 a = f1 a) ∧ va_P D cl (va_pl (X ++ L1) f2) H1 ∧ va_D A (va_pl (X ++ L1) f2) := by
  have hlt : ∀ a ∈ X, a < H.size := fun a ha => by
    obtain ⟨k, hk2⟩ := pl_at (f := f) ha
    exact (P_left hP k _ hk2).lt
  have hnA : ∀ a ∈ X, ¬ va_A (va_pl Y f) H.size a := fun a ha h => by
    rcases h with ⟨k, e, he⟩ | h
    · exact D_apart hD ha (pl_mem he).1
    · exact absurd (hlt a ha) (by omega)
  have hdis : ∀ a ∈ X, a ∉ L1 := fun a ha h => by
    obtain ⟨k, hk2⟩ := pl_at (f := f1) h
    exact hnA a ha (hD1.2 k _ hk2)
  refine ⟨fun a => if a ∈ X then f a else f1 a, fun a ha => by simp [ha], fun a ha => ?_, ?_, ?_⟩
  · have : a ∉ X := fun h => hdis a h ha
    simp [this]
  · rw [pl_app, pl_congr (f := f) (L := X) (fun a ha => by simp [ha]), pl_congr (f := f1) (L := L1) (fun a ha => by have : a ∉ X := fun h => hdis a h ha; simp [this])]
    exact va_P.app (fun k q hq => (P_left hP k q hq).kept (hk q.1 (hlt _ (pl_mem hq).1) (hnA _ (pl_mem hq).1))) hP1
  · rw [pl_app, pl_congr (f := f) (L := X) (fun a ha => by simp [ha]), pl_congr (f := f1) (L := L1) (fun a ha => by have : a ∉ X := fun h => hdis a h ha; simp [this])]
    exact va_D.app (D_left hD) (hD1.weaken (fun k q _ h => hF q.1 h)) (fun i j x y hx hy hxy => hdis x.1 (pl_mem hx).1 (by rw [hxy]; exact (pl_mem hy).1))
section VF9
variable {z : Cz} {E : Ez} {cc : ByteArray} {own : String} {nL d mc ms cells slots pc : Nat} {L : List Nat} {f : Nat → va_E} {lv lv' : List (Nat × Value)} {st : List Value}
/-- a constructor over the world on the right alone -/
theorem v_xvF (hC : Cx z E cc own nL d mc ms) {X Y : List Nat} {y : MethodName} {c : ByteArray} {n k d1 mc1 ms1 index : Nat} {As rest : List Value} {post : List Nat → (Nat → va_E) → Prop} {cells1 slots1 b : Nat} (hini : y.name = "<init>") (hin : Cond.instanceMethod y ∈ ALLg) (hM : CV (zl z) y c n d1 mc1 ms1 E (.ref b :: As) Y f post) (hm : Mx y c n none k) (hlk : Cond.methodLink own index y ∈ ALLg) (hd : d1 + 1 ≤ d) (hn : As.length = k) (h1 : cells + mc1 = cells1) (h2 : slots + ms1 = slots1) (h3 : cells1 ≤ mc) (h4 : slots1 ≤ ms) (hst : st = As.reverse ++ .ref b :: rest) (hW : (rest.map fun v => v.category).sum ≤ 8) (hdg : decode cc pc = .ok (.invokespecial index, 3)) (kk : ∀ (L1 : List Nat) (f1 f2 : Nat → va_E), post L1 f1 → (∀ a ∈ X, f2 a = f a) → (∀ a ∈ L1, f2 a = f1 a) → V z E nL cells1 slots1 (X ++ L1) f2 (pc + 3) lv rest) : V z E nL cells slots (X ++ Y) f pc lv st := by
  intro H locs ls hP hD hS hl
  subst h1
  subst h2
  subst hst
  have hFc := hC.free (D_right hD) hS
  refine va_callv (va_runI (rest := rest) hC.fix (hM H.size) ⟨callB_of k hC.2.2.2.2.1 (good_all hm.1) rfl rfl rfl (hC.2.2.2.2.1 _ hm.2.1) (hC.2.2.2.2.1 _ hlk) hm.2.2.1 (hC.room hd hm.2.2.2), hini, hC.2.2.2.2.1 _ hin⟩ ⟨PreX.blind _, hC.pre (P_right hP) (D_right hD) hS (.ref b :: As)⟩ rfl hn hl.1 rfl (lv_room hW) hdg (hC.fits h3 h4)) hS (fun q _ h => hFc q h) hFc (fun u t H1 locs1 ht hvm hw hB hz1 hk1 hS1 => ?_)
  obtain ⟨f2, g1, g2, g3, g4⟩ := fr_join hP hD hk1 hFc (by rw [← ht]; exact hB.1) hB.2
  exact kk u.1 u.2 f2 hw g1 g2 H1 locs1 ls g3 g4 hS1 hl
/-- a call over the world on the left alone, which is then let go -/
theorem v_viD (hC : Cx z E cc own nL d mc ms) {X Y : List Nat} {y : MethodName} {c : ByteArray} {n k d1 mc1 ms1 index : Nat} {ty : FieldType} {As rest : List Value} {post : Int32 → List Nat → (Nat → va_E) → Prop} {cells1 slots1 b ci : Nat} {fs : List Value} {T : u_T} {N : Nat} (hb : b ∈ X) (hfb : f b = ob ci fs) (hcl : vwCl[ci]? = some (y.cls, T, N)) (hin : Cond.instanceMethod y ∈ ALLg) (hse : Cond.selects y.cls y y ∈ ALLg) (hM : CI (zl z) y c n ty d1 mc1 ms1 E (.ref b :: As) X f post) (hm : Mx y c n (some ty) k) (hlk : Cond.methodLink own index y ∈ ALLg) (hd : d1 + 1 ≤ d) (hn : As.length = k) (h1 : cells + mc1 = cells1) (h2 : slots + ms1 = slots1) (h3 : cells1 ≤ mc) (h4 : slots1 ≤ ms) (hst : st = As.reverse ++ .ref b :: rest) (hW : (rest.map fun v => v.category).sum ≤ 8) (hdg : decode cc pc = .ok (.invokevirtual index, 3)) (kk : ∀ (r : Int32) (L1 : List Nat) (f1 : Nat → va_E), post r L1 f1 → V z E nL cells1 slots1 Y f (pc + 3) lv (.int r :: rest)) : V z E nL cells slots (X ++ Y) f pc lv st := by
  intro H locs ls hP hD hS hl
  subst h1
  subst h2
  subst hst
  obtain ⟨q0, hq⟩ := pl_at (f := f) hb
  rw [hfb] at hq
  have hFc := hC.free (D_left hD) hS
  refine va_calli (va_runV (rest := rest) hC.fix (hM H.size) ⟨callB_of k hC.2.2.2.2.1 (good_all hm.1) rfl rfl rfl (hC.2.2.2.2.1 _ hm.2.1) (hC.2.2.2.2.1 _ hlk) hm.2.2.1 (hC.room hd hm.2.2.2), hC.2.2.2.2.1 _ hin, hC.2.2.2.2.1 _ hse⟩ ⟨PreX.blind _, va_recv hC.2.2.2.2.2.1.1 (P_left hP) hcl hq, hC.pre (P_left hP) (D_left hD) hS (.ref b :: As)⟩ rfl hn hl.1 rfl (lv_room hW) hdg (hC.fits h3 h4)) hS (fun q _ h => hFc q h) hFc (fun r u t H1 locs1 ht hvm hw hB hz1 hk1 hS1 => ?_)
  refine kk r u.1 u.2 hw H1 locs1 ls (fun j q hj => ?_) (D_right hD) hS1 hl
  have hy := (pl_mem hj).1
  have hat := P_right hP j q hj
  refine hat.kept (hk1 q.1 hat.lt (fun h => ?_))
  rcases h with ⟨i, e, he⟩ | h
  · exact D_apart hD (pl_mem he).1 hy
  · have := hat.lt
    omega
theorem v_sld (hC : Cx z E cc own nL d mc ms) {b n : Nat} {xs : Nat → Int32} (hX : va_X b n xs (zs z) (zs z).heap) (hbl : b < (zs z).heap.size) (hbA : ¬ zA z b) {i v : Int32} (hin : vp_in i n) (hv : xs i.toNatClampNeg = v) (hdg : decode cc pc = .ok (.iaload, 1)) (kk : V z E nL cells slots L f (pc + 1) lv (.int v :: st)) : V z E nL cells slots L f pc lv (.int i :: .ref b :: st) := by
  intro H locs ls hP hD hS hl
  subst hv
  exact va_sld hC.1 hC.2.1 hX hbl hbA hS hin hdg (kk H locs ls hP hD hS hl)
theorem v_slen (hC : Cx z E cc own nL d mc ms) {b n : Nat} {xs : Nat → Int32} (hX : va_X b n xs (zs z) (zs z).heap) (hbl : b < (zs z).heap.size) (hbA : ¬ zA z b) {v : Int32} (hv : Int32.ofNat n = v) (hdg : decode cc pc = .ok (.arraylength, 1)) (kk : V z E nL cells slots L f (pc + 1) lv (.int v :: st)) : V z E nL cells slots L f pc lv (.ref b :: st) := by
  intro H locs ls hP hD hS hl
  subst hv
  exact va_slen hC.1 hC.2.1 hX hbl hbA hS hdg (kk H locs ls hP hD hS hl)
end VF9
theorem P_swap {D : va_G} {cl : List vw_C} {X Y : List Nat} {f : Nat → va_E} {H : Heap} (h : va_P D cl (va_pl (X ++ Y) f) H) : va_P D cl (va_pl (Y ++ X) f) H := by
  rw [pl_app]
  exact va_P.app (P_right h) (P_left h)
theorem D_swap {A : Nat → Prop} {X Y : List Nat} {f : Nat → va_E} (h : va_D A (va_pl (X ++ Y) f)) : va_D A (va_pl (Y ++ X) f) := by
  rw [pl_app]
  exact va_D.app (D_right h) (D_left h) (fun i j x y hx hy hxy => D_apart h (a := y.1) (pl_mem hy).1 (by rw [← hxy]; exact (pl_mem hx).1))
section VL9
variable {z : Cz} {E : Ez} {cc : ByteArray} {own : String} {nL d mc ms cells slots pc : Nat} {L : List Nat} {f : Nat → va_E} {lv lv' : List (Nat × Value)} {st : List Value}
theorem v_swap {X Y : List Nat} (h : V z E nL cells slots (Y ++ X) f pc lv st) : V z E nL cells slots (X ++ Y) f pc lv st := by
  intro H locs ls hP hD hS hl
  exact h H locs ls (P_swap hP) (D_swap hD) hS hl
/-- a call over the world on the right alone -/
theorem v_viR (hC : Cx z E cc own nL d mc ms) {X Y : List Nat} {y : MethodName} {c : ByteArray} {n k d1 mc1 ms1 index : Nat} {ty : FieldType} {As rest : List Value} {post : Int32 → List Nat → (Nat → va_E) → Prop} {cells1 slots1 b ci : Nat} {fs : List Value} {T : u_T} {N : Nat} (hb : b ∈ Y) (hfb : f b = ob ci fs) (hcl : vwCl[ci]? = some (y.cls, T, N)) (hin : Cond.instanceMethod y ∈ ALLg) (hse : Cond.selects y.cls y y ∈ ALLg) (hM : CI (zl z) y c n ty d1 mc1 ms1 E (.ref b :: As) Y f post) (hm : Mx y c n (some ty) k) (hlk : Cond.methodLink own index y ∈ ALLg) (hd : d1 + 1 ≤ d) (hn : As.length = k) (h1 : cells + mc1 = cells1) (h2 : slots + ms1 = slots1) (h3 : cells1 ≤ mc) (h4 : slots1 ≤ ms) (hst : st = As.reverse ++ .ref b :: rest) (hW : (rest.map fun v => v.category).sum ≤ 8) (hdg : decode cc pc = .ok (.invokevirtual index, 3)) (kk : ∀ (r : Int32) (L1 : List Nat) (f1 f2 : Nat → va_E), post r L1 f1 → (∀ a ∈ X, f2 a = f a) → (∀ a ∈ L1, f2 a = f1 a) → V z E nL cells1 slots1 (X ++ L1) f2 (pc + 3) lv (.int r :: rest)) : V z E nL cells slots (X ++ Y) f pc lv st := by
  intro H locs ls hP hD hS hl
  subst h1
  subst h2
  subst hst
  obtain ⟨q0, hq⟩ := pl_at (f := f) hb
  rw [hfb] at hq
  have hFc := hC.free (D_right hD) hS
  refine va_calli (va_runV (rest := rest) hC.fix (hM H.size) ⟨callB_of k hC.2.2.2.2.1 (good_all hm.1) rfl rfl rfl (hC.2.2.2.2.1 _ hm.2.1) (hC.2.2.2.2.1 _ hlk) hm.2.2.1 (hC.room hd hm.2.2.2), hC.2.2.2.2.1 _ hin, hC.2.2.2.2.1 _ hse⟩ ⟨PreX.blind _, va_recv hC.2.2.2.2.2.1.1 (P_right hP) hcl hq, hC.pre (P_right hP) (D_right hD) hS (.ref b :: As)⟩ rfl hn hl.1 rfl (lv_room hW) hdg (hC.fits h3 h4)) hS (fun q _ h => hFc q h) hFc (fun r u t H1 locs1 ht hvm hw hB hz1 hk1 hS1 => ?_)
  obtain ⟨f2, g1, g2, g3, g4⟩ := fr_join hP hD hk1 hFc (by rw [← ht]; exact hB.1) hB.2
  exact kk r u.1 u.2 f2 hw g1 g2 H1 locs1 ls g3 g4 hS1 hl
end VL9
theorem WT.cg {T : Nat → va_E → Prop} {L : List Nat} {f f1 : Nat → va_E} (h : WT T L f) (hk : ∀ a ∈ L, f1 a = f a) : WT T L f1 := fun a ha => by
  rw [hk a ha]
  exact h a ha
/-- what the law keeps of the object on trial, and of the reference -/
def LX (E : Ez) (x : Nat) (L : List Nat) (f : Nat → va_E) : Prop := ∃ T, WT T L f ∧ isX T L E x
def LM (E : Ez) (m : Nat) (L : List Nat) (f : Nat → va_E) : Prop := ∃ T q, WT T L f ∧ isM T L E m q
theorem LX.cg {E : Ez} {x : Nat} {L : List Nat} {f f1 : Nat → va_E} (h : LX E x L f) (hk : ∀ a ∈ L, f1 a = f a) : LX E x L f1 := by
  obtain ⟨T, h1, h2⟩ := h
  exact ⟨T, h1.cg hk, h2⟩
theorem LM.cg {E : Ez} {m : Nat} {L : List Nat} {f f1 : Nat → va_E} (h : LM E m L f) (hk : ∀ a ∈ L, f1 a = f a) : LM E m L f1 := by
  obtain ⟨T, q, h1, h2⟩ := h
  exact ⟨T, q, h1.cg hk, h2⟩
theorem img_T {T : Nat → va_E → Prop} {L : List Nat} {E : Ez} {f f1 : Nat → va_E} {x : Nat} (W : WT T L f) (W1 : WT T L f1) (k : isX T L E x) (j : Nat) : img f1 x j = img f x j := by
  obtain ⟨m, q0, q1, q2, q3, q4, q5, q6, q7, q8, q9, q10, q11, q12, q13, t, -, -, ⟨mc, g, tc, -⟩, -⟩ := k
  have e : f x = ob 11 [.ref q0, .ref q1, .ref q2, .ref q3, .ref q4, .ref q5, .ref q6, .ref q7, .ref q8, .ref q9, .ref q10, .ref q11, .ref q12, .ref q13] := W.at m t
  have e1 : f1 x = ob 11 [.ref q0, .ref q1, .ref q2, .ref q3, .ref q4, .ref q5, .ref q6, .ref q7, .ref q8, .ref q9, .ref q10, .ref q11, .ref q12, .ref q13] := W1.at m t
  have c : f q2 = aR E 4 3 g := W.at mc tc
  have c1 : f1 q2 = aR E 4 3 g := W1.at mc tc
  rw [img_eq f1 x (by rw [e1]; rfl) c1, img_eq f x (by rw [e]; rfl) c]
theorem rf3 {T : Nat → va_E → Prop} {L : List Nat} {E : Ez} {f : Nat → va_E} {m : Nat} {q : Nat → Nat} (W : WT T L f) (k : isM T L E m q) : rfld (f m) 3 = q 3 := by
  obtain ⟨mm, t, -⟩ := k
  obtain ⟨v0, v1, v2, v3, v4, v5, v6, v7, v8, v9, v10, e, -, -, -, -, -, -, -⟩ := W.at mm t
  rw [e]
  rfl
theorem his_T {T : Nat → va_E → Prop} {L S : List Nat} {E : Ez} {f f1 : Nat → va_E} {m : Nat} {q : Nat → Nat} (W : WT T L f) (W1 : WT T L f1) (k : isM T L E m q) (F : FR S f f1) (hS : S.contains 103 = false) (j : Nat) : his f1 m j = his f m j := by
  obtain ⟨-, -, -, -, -, ⟨m3, t3⟩, -⟩ := id k
  obtain ⟨g, e3⟩ := W.at m3 t3
  have e31 : f1 (q 3) = aZ E 3 g := F.at e3 hS
  rw [his_eq f1 m (rf3 W1 k) e31, his_eq f m (rf3 W k) e3]
theorem his_cg {T : Nat → va_E → Prop} {L : List Nat} {E : Ez} {f f1 : Nat → va_E} {m : Nat} {q : Nat → Nat} (W : WT T L f) (k : isM T L E m q) (h : ∀ a ∈ L, f1 a = f a) (j : Nat) : his f1 m j = his f m j := by
  obtain ⟨mm, -, -, -, -, ⟨m3, -⟩, -⟩ := id k
  unfold his
  rw [h m mm, rf3 W k, h (q 3) m3]
def RLn (f : Nat → va_E) (x m : Nat) : Prop := ∀ j : Nat, j < 3 → (img f x j = none ↔ his f m j = 0)
theorem RLn.step {f f1 : Nat → va_E} {x m : Nat} (h : RLn f x m) (a : ∀ j, img f1 x j = img f x j) (b : ∀ j, his f1 m j = his f m j) : RLn f1 x m := fun j hj => by
  rw [a j, b j]
  exact h j hj
theorem RLn.keep {f f2 f4 : Nat → va_E} {x m : Nat} {a : Int} (h : RLn f x m) (ka : ∀ j : Nat, j < 3 → (img f2 x j = none ↔ (img f x j = none ∧ ¬ (j : Int) = a))) (hr : ∀ j, his f2 m j = his f m j) (ir : ∀ j, img f4 x j = img f2 x j) (kb : ∀ j : Nat, j < 3 → (his f4 m j = 0 ↔ (his f2 m j = 0 ∧ ¬ (j : Int) = a))) : RLn f4 x m := fun j hj => by
  rw [ir j, ka j hj, kb j hj, hr j, h j hj]
