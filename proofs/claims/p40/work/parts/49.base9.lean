/-! two worlds side by side; the script -/
theorem pl_app (X Y : List Nat) (f : Nat → va_E) : va_pl (X ++ Y) f = va_pl X f ++ va_pl Y f := by simp [va_pl]
theorem P_left {D : va_G} {cl : List vw_C} {X Y : List Nat} {f : Nat → va_E} {H : Heap} (h : va_P D cl (va_pl (X ++ Y) f) H) : va_P D cl (va_pl X f) H := fun k q hk => h k q (by rw [pl_app, List.getElem?_append_left (List.getElem?_eq_some_iff.mp hk).1]; exact hk)
theorem P_right {D : va_G} {cl : List vw_C} {X Y : List Nat} {f : Nat → va_E} {H : Heap} (h : va_P D cl (va_pl (X ++ Y) f) H) : va_P D cl (va_pl Y f) H := fun k q hk => h (k + (va_pl X f).length) q (by rw [pl_app, List.getElem?_append_right (by omega), Nat.add_sub_cancel]; exact hk)
theorem D_left {A : Nat → Prop} {X Y : List Nat} {f : Nat → va_E} (h : va_D A (va_pl (X ++ Y) f)) : va_D A (va_pl X f) := by
  have lift : ∀ (k : Nat) (q : Nat × va_E), (va_pl X f)[k]? = some q → (va_pl (X ++ Y) f)[k]? = some q := fun k q hk => by rw [pl_app, List.getElem?_append_left (List.getElem?_eq_some_iff.mp hk).1]; exact hk
  exact ⟨fun i j p q hi hj e => h.1 i j p q (lift i p hi) (lift j q hj) e, fun k q hk => h.2 k q (lift k q hk)⟩
theorem D_right {A : Nat → Prop} {X Y : List Nat} {f : Nat → va_E} (h : va_D A (va_pl (X ++ Y) f)) : va_D A (va_pl Y f) := by
  have lift : ∀ (k : Nat) (q : Nat × va_E), (va_pl Y f)[k]? = some q → (va_pl (X ++ Y) f)[k + (va_pl X f).length]? = some q := fun k q hk => by rw [pl_app, List.getElem?_append_right (by omega), Nat.add_sub_cancel]; exact hk
  exact ⟨fun i j p q hi hj e => by have := h.1 _ _ p q (lift i p hi) (lift j q hj) e; omega, fun k q hk => h.2 _ q (lift k q hk)⟩
theorem D_apart {A : Nat → Prop} {X Y : List Nat} {f : Nat → va_E} (h : va_D A (va_pl (X ++ Y) f)) {a : Nat} (hx : a ∈ X) (hy : a ∈ Y) : False := by
  obtain ⟨i, hi⟩ := pl_at (f := f) hx
  obtain ⟨j, hj⟩ := pl_at (f := f) hy
  have hi1 := (List.getElem?_eq_some_iff.mp hi).1
  have e1 : (va_pl (X ++ Y) f)[i]? = some (a, f a) := by rw [pl_app, List.getElem?_append_left hi1]; exact hi
  have e2 : (va_pl (X ++ Y) f)[j + (va_pl X f).length]? = some (a, f a) := by rw [pl_app, List.getElem?_append_right (by omega), Nat.add_sub_cancel]; exact hj
  have := h.1 _ _ _ _ e1 e2 rfl
  omega
theorem pl_mem {L : List Nat} {f : Nat → va_E} {k : Nat} {q : Nat × va_E} (h : (va_pl L f)[k]? = some q) : q.1 ∈ L ∧ q.2 = f q.1 := by
  have := List.mem_of_getElem? h
  simp only [va_pl, List.mem_map] at this
  obtain ⟨a, ha, rfl⟩ := this
  exact ⟨ha, rfl⟩
theorem pl_congr {L : List Nat} {f f1 : Nat → va_E} (h : ∀ a ∈ L, f1 a = f a) : va_pl L f1 = va_pl L f := by
  simp only [va_pl]
  exact List.map_congr_left fun a ha => by rw [h a ha]
/-- what lies left stays, what lay right has become the callee's world -/
theorem fr_join {A : Nat → Prop} {D : va_G} {cl : List vw_C} {X Y L1 : List Nat} {f f1 : Nat → va_E} {H H1 : Heap} (hP : va_P D cl (va_pl (X ++ Y) f) H) (hD : va_D A (va_pl (X ++ Y) f)) (hk : ∀ q : Nat, q < H.size → ¬ va_A (va_pl Y f) H.size q → H1[q]? = H[q]?) (hF : ∀ q, va_A (va_pl Y f) H.size q → A q) (hP1 : va_P D cl (va_pl L1 f1) H1) (hD1 : va_D (va_A (va_pl Y f) H.size) (va_pl L1 f1)) :
    ∃ f2 : Nat → va_E, (∀ a ∈ X, f2 a = f a) ∧ (∀ a ∈ L1, f2 a = f1 a) ∧ va_P D cl (va_pl (X ++ L1) f2) H1 ∧ va_D A (va_pl (X ++ L1) f2) := by
  have hlt : ∀ a ∈ X, a < H.size := fun a ha => by
    obtain ⟨k, hk2⟩ := pl_at (f := f) ha
    exact (P_left hP k _ hk2).lt
  have hnA : ∀ a ∈ X, ¬ va_A (va_pl Y f) H.size a := fun a ha h => by
    rcases h with ⟨k, e, he⟩ | h
    · exact D_apart hD ha (pl_mem he).1
    · exact absurd (hlt a ha) (by omega)
  have hdis : ∀ a ∈ X, a ∉ L1 := fun a ha h => by
    obtain ⟨k, hk2⟩ := pl_at (f := f1) h
    exact hnA a ha (hD1.2 k _ hk2)
  refine ⟨fun a => if a ∈ X then f a else f1 a, fun a ha => by simp [ha], fun a ha => ?_, ?_, ?_⟩
  · have : a ∉ X := fun h => hdis a h ha
    simp [this]
  · rw [pl_app, pl_congr (f := f) (L := X) (fun a ha => by simp [ha]), pl_congr (f := f1) (L := L1) (fun a ha => by have : a ∉ X := fun h => hdis a h ha; simp [this])]
    exact va_P.app (fun k q hq => (P_left hP k q hq).kept (hk q.1 (hlt _ (pl_mem hq).1) (hnA _ (pl_mem hq).1))) hP1
  · rw [pl_app, pl_congr (f := f) (L := X) (fun a ha => by simp [ha]), pl_congr (f := f1) (L := L1) (fun a ha => by have : a ∉ X := fun h => hdis a h ha; simp [this])]
    exact va_D.app (D_left hD) (hD1.weaken (fun k q _ h => hF q.1 h)) (fun i j x y hx hy hxy => hdis x.1 (pl_mem hx).1 (by rw [hxy]; exact (pl_mem hy).1))
section VF9
variable {z : Cz} {E : Ez} {cc : ByteArray} {own : String} {nL d mc ms cells slots pc : Nat} {L : List Nat} {f : Nat → va_E} {lv lv' : List (Nat × Value)} {st : List Value}
/-- a constructor over the world on the right alone -/
theorem v_xvF (hC : Cx z E cc own nL d mc ms) {X Y : List Nat} {y : MethodName} {c : ByteArray} {n k d1 mc1 ms1 index : Nat} {As rest : List Value} {post : List Nat → (Nat → va_E) → Prop} {cells1 slots1 b : Nat} (hini : y.name = "<init>") (hin : Cond.instanceMethod y ∈ ALLg) (hM : CV (zl z) y c n d1 mc1 ms1 E (.ref b :: As) Y f post) (hm : Mx y c n none k) (hlk : Cond.methodLink own index y ∈ ALLg) (hd : d1 + 1 ≤ d) (hn : As.length = k) (h1 : cells + mc1 = cells1) (h2 : slots + ms1 = slots1) (h3 : cells1 ≤ mc) (h4 : slots1 ≤ ms) (hst : st = As.reverse ++ .ref b :: rest) (hW : (rest.map fun v => v.category).sum ≤ 8) (hdg : decode cc pc = .ok (.invokespecial index, 3)) (kk : ∀ (L1 : List Nat) (f1 f2 : Nat → va_E), post L1 f1 → (∀ a ∈ X, f2 a = f a) → (∀ a ∈ L1, f2 a = f1 a) → V z E nL cells1 slots1 (X ++ L1) f2 (pc + 3) lv rest) : V z E nL cells slots (X ++ Y) f pc lv st := by
  intro H locs ls hP hD hS hl
  subst h1
  subst h2
  subst hst
  have hFc := hC.free (D_right hD) hS
  refine va_callv (va_runI (rest := rest) hC.fix (hM H.size) ⟨callB_of k hC.2.2.2.2.1 (good_all hm.1) rfl rfl rfl (hC.2.2.2.2.1 _ hm.2.1) (hC.2.2.2.2.1 _ hlk) hm.2.2.1 (hC.room hd hm.2.2.2), hini, hC.2.2.2.2.1 _ hin⟩ ⟨PreX.blind _, hC.pre (P_right hP) (D_right hD) hS (.ref b :: As)⟩ rfl hn hl.1 rfl (lv_room hW) hdg (hC.fits h3 h4)) hS (fun q _ h => hFc q h) hFc (fun u t H1 locs1 ht hvm hw hB hz1 hk1 hS1 => ?_)
  obtain ⟨f2, g1, g2, g3, g4⟩ := fr_join hP hD hk1 hFc (by rw [← ht]; exact hB.1) hB.2
  exact kk u.1 u.2 f2 hw g1 g2 H1 locs1 ls g3 g4 hS1 hl
/-- a call over the world on the left alone, which is then let go -/
theorem v_viD (hC : Cx z E cc own nL d mc ms) {X Y : List Nat} {y : MethodName} {c : ByteArray} {n k d1 mc1 ms1 index : Nat} {ty : FieldType} {As rest : List Value} {post : Int32 → List Nat → (Nat → va_E) → Prop} {cells1 slots1 b ci : Nat} {fs : List Value} {T : u_T} {N : Nat} (hb : b ∈ X) (hfb : f b = ob ci fs) (hcl : vwCl[ci]? = some (y.cls, T, N)) (hin : Cond.instanceMethod y ∈ ALLg) (hse : Cond.selects y.cls y y ∈ ALLg) (hM : CI (zl z) y c n ty d1 mc1 ms1 E (.ref b :: As) X f post) (hm : Mx y c n (some ty) k) (hlk : Cond.methodLink own index y ∈ ALLg) (hd : d1 + 1 ≤ d) (hn : As.length = k) (h1 : cells + mc1 = cells1) (h2 : slots + ms1 = slots1) (h3 : cells1 ≤ mc) (h4 : slots1 ≤ ms) (hst : st = As.reverse ++ .ref b :: rest) (hW : (rest.map fun v => v.category).sum ≤ 8) (hdg : decode cc pc = .ok (.invokevirtual index, 3)) (kk : ∀ (r : Int32) (L1 : List Nat) (f1 : Nat → va_E), post r L1 f1 → V z E nL cells1 slots1 Y f (pc + 3) lv (.int r :: rest)) : V z E nL cells slots (X ++ Y) f pc lv st := by
  intro H locs ls hP hD hS hl
  subst h1
  subst h2
  subst hst
  obtain ⟨q0, hq⟩ := pl_at (f := f) hb
  rw [hfb] at hq
  have hFc := hC.free (D_left hD) hS
  refine va_calli (va_runV (rest := rest) hC.fix (hM H.size) ⟨callB_of k hC.2.2.2.2.1 (good_all hm.1) rfl rfl rfl (hC.2.2.2.2.1 _ hm.2.1) (hC.2.2.2.2.1 _ hlk) hm.2.2.1 (hC.room hd hm.2.2.2), hC.2.2.2.2.1 _ hin, hC.2.2.2.2.1 _ hse⟩ ⟨PreX.blind _, va_recv hC.2.2.2.2.2.1.1 (P_left hP) hcl hq, hC.pre (P_left hP) (D_left hD) hS (.ref b :: As)⟩ rfl hn hl.1 rfl (lv_room hW) hdg (hC.fits h3 h4)) hS (fun q _ h => hFc q h) hFc (fun r u t H1 locs1 ht hvm hw hB hz1 hk1 hS1 => ?_)
  refine kk r u.1 u.2 hw H1 locs1 ls (fun j q hj => ?_) (D_right hD) hS1 hl
  have hy := (pl_mem hj).1
  have hat := P_right hP j q hj
  refine hat.kept (hk1 q.1 hat.lt (fun h => ?_))
  rcases h with ⟨i, e, he⟩ | h
  · exact D_apart hD (pl_mem he).1 hy
  · have := hat.lt
    omega
theorem v_sld (hC : Cx z E cc own nL d mc ms) {b n : Nat} {xs : Nat → Int32} (hX : va_X b n xs (zs z) (zs z).heap) (hbl : b < (zs z).heap.size) (hbA : ¬ zA z b) {i v : Int32} (hin : vp_in i n) (hv : xs i.toNatClampNeg = v) (hdg : decode cc pc = .ok (.iaload, 1)) (kk : V z E nL cells slots L f (pc + 1) lv (.int v :: st)) : V z E nL cells slots L f pc lv (.int i :: .ref b :: st) := by
  intro H locs ls hP hD hS hl
  subst hv
  exact va_sld hC.1 hC.2.1 hX hbl hbA hS hin hdg (kk H locs ls hP hD hS hl)
theorem v_slen (hC : Cx z E cc own nL d mc ms) {b n : Nat} {xs : Nat → Int32} (hX : va_X b n xs (zs z) (zs z).heap) (hbl : b < (zs z).heap.size) (hbA : ¬ zA z b) {v : Int32} (hv : Int32.ofNat n = v) (hdg : decode cc pc = .ok (.arraylength, 1)) (kk : V z E nL cells slots L f (pc + 1) lv (.int v :: st)) : V z E nL cells slots L f pc lv (.ref b :: st) := by
  intro H locs ls hP hD hS hl
  subst hv
  exact va_slen hC.1 hC.2.1 hX hbl hbA hS hdg (kk H locs ls hP hD hS hl)
end VF9
theorem P_swap {D : va_G} {cl : List vw_C} {X Y : List Nat} {f : Nat → va_E} {H : Heap} (h : va_P D cl (va_pl (X ++ Y) f) H) : va_P D cl (va_pl (Y ++ X) f) H := by
  rw [pl_app]
  exact va_P.app (P_right h) (P_left h)
theorem D_swap {A : Nat → Prop} {X Y : List Nat} {f : Nat → va_E} (h : va_D A (va_pl (X ++ Y) f)) : va_D A (va_pl (Y ++ X) f) := by
  rw [pl_app]
  exact va_D.app (D_right h) (D_left h) (fun i j x y hx hy hxy => D_apart h (a := y.1) (pl_mem hy).1 (by rw [← hxy]; exact (pl_mem hx).1))
section VL9
variable {z : Cz} {E : Ez} {cc : ByteArray} {own : String} {nL d mc ms cells slots pc : Nat} {L : List Nat} {f : Nat → va_E} {lv lv' : List (Nat × Value)} {st : List Value}
theorem v_swap {X Y : List Nat} (h : V z E nL cells slots (Y ++ X) f pc lv st) : V z E nL cells slots (X ++ Y) f pc lv st := by
  intro H locs ls hP hD hS hl
  exact h H locs ls (P_swap hP) (D_swap hD) hS hl
/-- a call over the world on the right alone -/
theorem v_viR (hC : Cx z E cc own nL d mc ms) {X Y : List Nat} {y : MethodName} {c : ByteArray} {n k d1 mc1 ms1 index : Nat} {ty : FieldType} {As rest : List Value} {post : Int32 → List Nat → (Nat → va_E) → Prop} {cells1 slots1 b ci : Nat} {fs : List Value} {T : u_T} {N : Nat} (hb : b ∈ Y) (hfb : f b = ob ci fs) (hcl : vwCl[ci]? = some (y.cls, T, N)) (hin : Cond.instanceMethod y ∈ ALLg) (hse : Cond.selects y.cls y y ∈ ALLg) (hM : CI (zl z) y c n ty d1 mc1 ms1 E (.ref b :: As) Y f post) (hm : Mx y c n (some ty) k) (hlk : Cond.methodLink own index y ∈ ALLg) (hd : d1 + 1 ≤ d) (hn : As.length = k) (h1 : cells + mc1 = cells1) (h2 : slots + ms1 = slots1) (h3 : cells1 ≤ mc) (h4 : slots1 ≤ ms) (hst : st = As.reverse ++ .ref b :: rest) (hW : (rest.map fun v => v.category).sum ≤ 8) (hdg : decode cc pc = .ok (.invokevirtual index, 3)) (kk : ∀ (r : Int32) (L1 : List Nat) (f1 f2 : Nat → va_E), post r L1 f1 → (∀ a ∈ X, f2 a = f a) → (∀ a ∈ L1, f2 a = f1 a) → V z E nL cells1 slots1 (X ++ L1) f2 (pc + 3) lv (.int r :: rest)) : V z E nL cells slots (X ++ Y) f pc lv st := by
  intro H locs ls hP hD hS hl
  subst h1
  subst h2
  subst hst
  obtain ⟨q0, hq⟩ := pl_at (f := f) hb
  rw [hfb] at hq
  have hFc := hC.free (D_right hD) hS
  refine va_calli (va_runV (rest := rest) hC.fix (hM H.size) ⟨callB_of k hC.2.2.2.2.1 (good_all hm.1) rfl rfl rfl (hC.2.2.2.2.1 _ hm.2.1) (hC.2.2.2.2.1 _ hlk) hm.2.2.1 (hC.room hd hm.2.2.2), hC.2.2.2.2.1 _ hin, hC.2.2.2.2.1 _ hse⟩ ⟨PreX.blind _, va_recv hC.2.2.2.2.2.1.1 (P_right hP) hcl hq, hC.pre (P_right hP) (D_right hD) hS (.ref b :: As)⟩ rfl hn hl.1 rfl (lv_room hW) hdg (hC.fits h3 h4)) hS (fun q _ h => hFc q h) hFc (fun r u t H1 locs1 ht hvm hw hB hz1 hk1 hS1 => ?_)
  obtain ⟨f2, g1, g2, g3, g4⟩ := fr_join hP hD hk1 hFc (by rw [← ht]; exact hB.1) hB.2
  exact kk r u.1 u.2 f2 hw g1 g2 H1 locs1 ls g3 g4 hS1 hl
end VL9
theorem WT.cg {T : Nat → va_E → Prop} {L : List Nat} {f f1 : Nat → va_E} (h : WT T L f) (hk : ∀ a ∈ L, f1 a = f a) : WT T L f1 := fun a ha => by
  rw [hk a ha]
  exact h a ha
/-- what the law keeps of the object on trial, and of the reference -/
def LX (E : Ez) (x : Nat) (L : List Nat) (f : Nat → va_E) : Prop := ∃ T, WT T L f ∧ isX T L E x
def LM (E : Ez) (m : Nat) (L : List Nat) (f : Nat → va_E) : Prop := ∃ T q, WT T L f ∧ isM T L E m q
theorem LX.cg {E : Ez} {x : Nat} {L : List Nat} {f f1 : Nat → va_E} (h : LX E x L f) (hk : ∀ a ∈ L, f1 a = f a) : LX E x L f1 := by
  obtain ⟨T, h1, h2⟩ := h
  exact ⟨T, h1.cg hk, h2⟩
theorem LM.cg {E : Ez} {m : Nat} {L : List Nat} {f f1 : Nat → va_E} (h : LM E m L f) (hk : ∀ a ∈ L, f1 a = f a) : LM E m L f1 := by
  obtain ⟨T, q, h1, h2⟩ := h
  exact ⟨T, q, h1.cg hk, h2⟩
def SAME (f f1 : Nat → va_E) (x : Nat) : Prop := ∀ k : Nat, k < 4 → zso f1 x k = zso f x k ∧ zsw f1 x k = zsw f x k ∧ zss f1 x k = zss f x k
def MSAME (f f1 : Nat → va_E) (m : Nat) : Prop := ∀ k : Nat, zmn f1 m k = zmn f m k ∧ zwd f1 m k = zwd f m k
/-- the four rows of an object on trial -/
theorem zs_at {T : Nat → va_E → Prop} {L : List Nat} {E : Ez} {f : Nat → va_E} {x : Nat} (W : WT T L f) (k : isX T L E x) : ∃ (q4 : Nat) (g : Nat → Option Nat), (x ∈ L ∧ ∃ fs, f x = ob 11 fs ∧ rfld (ob 11 fs) 4 = q4 ∧ T x = fun e => e = ob 11 fs) ∧ (q4 ∈ L ∧ f q4 = aR E 6 4 g ∧ T q4 = tR E 6 4 g) ∧ ∀ j : Nat, j < 4 → ∃ w, g j = some w ∧ w ∈ L ∧ ∃ c, f w = ob 5 c := by
  obtain ⟨m, q0, q1, q2, q3, q4, q5, q6, q7, q8, q9, q10, q11, q12, q13, t, -, -, -, -, ⟨mc, g, tc, hg⟩, -⟩ := k
  refine ⟨q4, g, ⟨m, _, W.at m t, rfl, t⟩, ⟨mc, W.at mc tc, tc⟩, fun j hj => ?_⟩
  obtain ⟨w, gw, mw, qw, tw, -⟩ := hg j hj
  obtain ⟨v1, v2, ew, -, -⟩ := W.at mw tw
  exact ⟨w, gw, mw, _, ew⟩
/-- if the object, its array of rows and the rows stand as they stood -/
theorem zs_of {T : Nat → va_E → Prop} {L : List Nat} {E : Ez} {f f1 : Nat → va_E} {x : Nat} (W : WT T L f) (k : isX T L E x) (h : ∀ b ∈ L, ∀ c, (kd c = 5 ∨ kd c = 11 ∨ kd c = 104) → f b = c → f1 b = c) : SAME f f1 x := by
  obtain ⟨q4, g, ⟨m, fs, ex, rx, -⟩, ⟨mc, ec, -⟩, hw⟩ := zs_at W k
  intro j hj
  obtain ⟨w, gw, mw, c, ew⟩ := hw j hj
  have ex1 := h x m _ (.inr (.inl rfl)) ex
  have ec1 := h q4 mc _ (.inr (.inr rfl)) ec
  have ew1 := h w mw _ (.inl rfl) ew
  have a : zso f x j = w := zso_eq f x (by rw [ex]; exact rx) ec gw
  have b : zso f1 x j = w := zso_eq f1 x (by rw [ex1]; exact rx) ec1 gw
  refine ⟨b.trans a.symm, ?_, ?_⟩
  · unfold zsw
    rw [a, b, ew, ew1]
  · unfold zss
    rw [a, b, ew, ew1]
theorem zs_cg {T : Nat → va_E → Prop} {L : List Nat} {E : Ez} {f f1 : Nat → va_E} {x : Nat} (W : WT T L f) (k : isX T L E x) (h : ∀ a ∈ L, f1 a = f a) : SAME f f1 x := zs_of W k (fun b hb c _ e => (h b hb).trans e)
theorem zs_kp {T : Nat → va_E → Prop} {L : List Nat} {E : Ez} {L1 : List Nat} {f f1 f2 : Nat → va_E} {x : Nat} (W : WT T L f) (k : isX T L E x) (h : ∀ b : Nat, b ∈ L → ∀ c : va_E, (kd c = 5 ∨ kd c = 11 ∨ kd c = 104) → f b = c → b ∈ L1 ∧ f1 b = c) (g : ∀ a ∈ L1, f2 a = f1 a) : SAME f f2 x := zs_of W k (fun b hb c kc e => (g b (h b hb c kc e).1).trans (h b hb c kc e).2)
theorem zs_T {T : Nat → va_E → Prop} {L : List Nat} {E : Ez} {S : List Nat} {f f1 f2 : Nat → va_E} {x : Nat} (W : WT T L f) (W1 : WT T L f1) (k : isX T L E x) (F : FR S f f1) (hS : S.contains 5 = false) (g : ∀ a ∈ L, f2 a = f1 a) : SAME f f2 x := by
  obtain ⟨q4, g4, ⟨m, fs, ex, rx, tx⟩, ⟨mc, ec, tc⟩, hw⟩ := zs_at W k
  have ex1 : f1 x = ob 11 fs := W1.at m tx
  have ec1 : f1 q4 = aR E 6 4 g4 := W1.at mc tc
  intro j hj
  obtain ⟨w, gw, mw, c, ew⟩ := hw j hj
  have ew1 : f1 w = ob 5 c := F.at ew hS
  have a : zso f x j = w := zso_eq f x (by rw [ex]; exact rx) ec gw
  have b : zso f2 x j = w := zso_eq f2 x (by rw [g x m, ex1]; exact rx) ((g q4 mc).trans ec1) gw
  refine ⟨b.trans a.symm, ?_, ?_⟩
  · unfold zsw
    rw [a, b, ew, g w mw, ew1]
  · unfold zss
    rw [a, b, ew, g w mw, ew1]
theorem rf25 {T : Nat → va_E → Prop} {L : List Nat} {E : Ez} {f : Nat → va_E} {m : Nat} {q : Nat → Nat} (W : WT T L f) (k : isM T L E m q) : rfld (f m) 25 = q 25 := by
  obtain ⟨mm, t, -⟩ := k
  obtain ⟨v0, v1, v2, v3, v4, v5, v6, v7, v8, v9, v10, e, -, -, -, -, -, -, -⟩ := W.at mm t
  rw [e]
  rfl
theorem rf26 {T : Nat → va_E → Prop} {L : List Nat} {E : Ez} {f : Nat → va_E} {m : Nat} {q : Nat → Nat} (W : WT T L f) (k : isM T L E m q) : rfld (f m) 26 = q 26 := by
  obtain ⟨mm, t, -⟩ := k
  obtain ⟨v0, v1, v2, v3, v4, v5, v6, v7, v8, v9, v10, e, -, -, -, -, -, -, -⟩ := W.at mm t
  rw [e]
  rfl
theorem zm_cg {T : Nat → va_E → Prop} {L : List Nat} {E : Ez} {f f1 : Nat → va_E} {m : Nat} {q : Nat → Nat} (W : WT T L f) (k : isM T L E m q) (h : ∀ a ∈ L, f1 a = f a) : MSAME f f1 m := by
  obtain ⟨mm, -, -, -, -, -, -, -, -, -, -, -, -, -, -, -, -, ⟨m1, -⟩, ⟨m2, -⟩, -⟩ := id k
  intro j
  unfold zmn zwd
  rw [h m mm, rf25 W k, rf26 W k, h (q 25) m1, h (q 26) m2]
  exact ⟨rfl, rfl⟩
theorem zm_T {T : Nat → va_E → Prop} {L : List Nat} {E : Ez} {S : List Nat} {f f1 f2 : Nat → va_E} {m : Nat} {q : Nat → Nat} (W : WT T L f) (W1 : WT T L f1) (k : isM T L E m q) (F : FR S f f1) (hS : S.contains 104 = false) (h : ∀ a ∈ L, f2 a = f1 a) : MSAME f f2 m := by
  obtain ⟨mm, -, -, -, -, -, -, -, -, -, -, -, -, -, -, -, -, ⟨m1, t1⟩, ⟨m2, t2⟩, -⟩ := id k
  obtain ⟨g1, e1, -⟩ := W.at m1 t1
  obtain ⟨g2, e2⟩ := W.at m2 t2
  have e11 : f1 (q 25) = aI E 4 g1 := F.at e1 hS
  have e21 : f1 (q 26) = aI E 4 g2 := F.at e2 hS
  intro j
  unfold zmn zwd
  rw [h m mm, rf25 W1 k, rf26 W1 k, rf25 W k, rf26 W k, h (q 25) m1, h (q 26) m2, e1, e2, e11, e21]
  exact ⟨rfl, rfl⟩
def RXc (f f2 : Nat → va_E) (x : Nat) (a w n : Int32) : Prop := ∀ k : Nat, k < 4 → zso f2 x k = zso f x k ∧ ((k : Int) = a.toInt → zsw f2 x k = w.toInt ∧ zss f2 x k = n.toInt) ∧ (¬ (k : Int) = a.toInt → zsw f2 x k = zsw f x k ∧ zss f2 x k = zss f x k)
theorem rwx_law {T : Nat → va_E → Prop} {L : List Nat} {E : Ez} {f f1 f2 : Nat → va_E} {x : Nat} {r a w n : Int32} (W : WT T L f) (W1 : WT T L f1) (k : isX T L E x) (inj : ∀ j k : Nat, j < 4 → k < 4 → zso f x j = zso f x k → j = k) (p : (¬ r.toInt = 0 ∧ f1 = f) ∨ (r.toInt = 0 ∧ RWX f f1 x a w n)) (hr : r.toInt = 0 → 0 ≤ a.toInt ∧ a.toInt ≤ 3) (g : ∀ a ∈ L, f2 a = f1 a) : (¬ r.toInt = 0 ∧ SAME f f2 x) ∨ (r.toInt = 0 ∧ RXc f f2 x a w n) := by
  rcases p with ⟨p1, p2⟩ | ⟨p1, p2, p3, p4⟩
  · subst p2
    exact .inl ⟨p1, zs_cg W k g⟩
  · refine .inr ⟨p1, ?_⟩
    have ha := hr p1
    obtain ⟨q4, g4, ⟨m, fs, ex, rx, tx⟩, ⟨mc, ec, tc⟩, hw⟩ := zs_at W k
    have ex1 : f1 x = ob 11 fs := W1.at m tx
    have ec1 : f1 q4 = aR E 6 4 g4 := W1.at mc tc
    intro j hj
    obtain ⟨u, gu, mu, c, eu⟩ := hw j hj
    have a1 : zso f x j = u := zso_eq f x (by rw [ex]; exact rx) ec gu
    have b1 : zso f2 x j = u := zso_eq f2 x (by rw [g x m, ex1]; exact rx) ((g q4 mc).trans ec1) gu
    refine ⟨b1.trans a1.symm, fun h => ?_, fun h => ?_⟩
    · have hj2 : a.toNatClampNeg = j := by
        rw [clamp_t]
        omega
      rw [hj2, a1] at p2 p3
      unfold zsw zss
      rw [b1, g u mu]
      exact ⟨p2, p3⟩
    · have hn : u ≠ zso f x a.toNatClampNeg := by
        intro h1
        have h2 := inj j a.toNatClampNeg hj (by rw [clamp_t]; omega) (a1.trans h1)
        rw [clamp_t] at h2
        omega
      have eu1 := p4 u c hn eu
      unfold zsw zss
      rw [a1, b1, g u mu, eu1, eu]
      exact ⟨rfl, rfl⟩
theorem rwm_law {f f1 f2 : Nat → va_E} {m : Nat} {r a w n : Int32} (p : (¬ r.toInt = 0 ∧ f1 = f) ∨ (r.toInt = 0 ∧ RWM f f1 m a w n)) (s : MSAME f1 f2 m) : (¬ r.toInt = 0 ∧ MSAME f f2 m) ∨ (r.toInt = 0 ∧ RWM f f2 m a w n) := by
  rcases p with ⟨p1, p2⟩ | ⟨p1, p2⟩
  · subst p2
    exact .inl ⟨p1, s⟩
  · refine .inr ⟨p1, fun k hk => ?_⟩
    rw [(s k).1, (s k).2]
    exact p2 k hk
def RLn (f : Nat → va_E) (x m : Nat) : Prop := (∀ k : Nat, k < 4 → (zmn f m k = -1 ∧ zsw f x k = -1) ∨ (0 ≤ zmn f m k ∧ zss f x k = zmn f m k ∧ zsw f x k = zwd f m k ∧ 0 ≤ zsw f x k)) ∧ ∀ j k : Nat, j < 4 → k < 4 → zso f x j = zso f x k → j = k
theorem RLn.step {f f1 : Nat → va_E} {x m : Nat} (h : RLn f x m) (a : SAME f f1 x) (b : MSAME f f1 m) : RLn f1 x m := by
  refine ⟨fun k hk => ?_, fun j k hj hk e => ?_⟩
  · rw [(a k hk).2.1, (a k hk).2.2, (b k).1, (b k).2]
    exact h.1 k hk
  · rw [(a j hj).1, (a k hk).1] at e
    exact h.2 j k hj hk e
theorem RLn.row {f f2 f4 : Nat → va_E} {x m : Nat} {r1 r2 a w n : Int32} (h : RLn f x m) (px : (¬ r1.toInt = 0 ∧ SAME f f2 x) ∨ (r1.toInt = 0 ∧ RXc f f2 x a w n)) (sm : MSAME f f2 m) (sx : SAME f2 f4 x) (pm : (¬ r2.toInt = 0 ∧ MSAME f2 f4 m) ∨ (r2.toInt = 0 ∧ RWM f2 f4 m a w n)) (e : r1.toInt = 0 ↔ r2.toInt = 0) (b : r1.toInt = 0 → 0 ≤ w.toInt ∧ 0 ≤ n.toInt) : RLn f4 x m := by
  rcases px with ⟨p1, p2⟩ | ⟨p1, p2⟩
  · rcases pm with ⟨q1, q2⟩ | ⟨q1, -⟩
    · exact (h.step p2 sm).step sx q2
    · exact absurd (e.mpr q1) p1
  · rcases pm with ⟨q1, -⟩ | ⟨q1, q2⟩
    · exact absurd (e.mp p1) q1
    · have hb := b p1
      refine ⟨fun k hk => ?_, fun j k hj hk e9 => ?_⟩
      · obtain ⟨-, x2, x3⟩ := sx k hk
        obtain ⟨-, y2, y3⟩ := p2 k hk
        obtain ⟨z1, z2⟩ := q2 k hk
        obtain ⟨m1, m2⟩ := sm k
        have h1 := h.1 k hk
        by_cases hk2 : (k : Int) = a.toInt
        · have y4 := y2 hk2
          have z3 := z1 hk2
          omega
        · have y4 := y3 hk2
          have z3 := z2 hk2
          omega
      · rw [(sx j hj).1, (sx k hk).1, (p2 j hj).1, (p2 k hk).1] at e9
        exact h.2 j k hj hk e9
theorem RLn.start {f2 f3 f4 : Nat → va_E} {x m : Nat} (a : (∀ k : Nat, k < 4 → zsw f2 x k = -1) ∧ ∀ j k : Nat, j < 4 → k < 4 → zso f2 x j = zso f2 x k → j = k) (b : ∀ k : Nat, k < 4 → zmn f3 m k = -1) (sx : SAME f2 f4 x) (sm : MSAME f3 f4 m) : RLn f4 x m := by
  refine ⟨fun k hk => .inl ⟨(sm k).1.trans (b k hk), (sx k hk).2.1.trans (a.1 k hk)⟩, fun j k hj hk e => ?_⟩
  rw [(sx j hj).1, (sx k hk).1] at e
  exact a.2 j k hj hk e
