/-! THE CLAIM OUT OF ONE WALK OF THE LAW'S BODY. Your part is whole_start (and what it stands on); all else here is the same for every law, but numbers. -/
def R_law : String := "StitchSaysLaw"
def lw_P (b : Addr) (xs : List Int32) (args : Array Value) (s : State) : Prop := args = #[.ref b] ∧ s.IntsAt b xs ∧ xs.length ≤ 3072 ∧ (Jvm.Cond.and given_1 narrow_1).before args s = true
def lw_Q (_ : Array Value) (s : State) (o : Outcome) (t : State) : Prop := o = .returned (some (.int 1)) ∧ Framed s o t [] 600000 7302250
def lw_Z (below : List Frame) (a : Array Value) (s : State) : State → Prop := fun t => ∃ o, t.status = .running ∧ Ended t below o ∧ lw_Q a s o t
/-- the law's own end, with 1 on the stack, nothing written that was there before, its room as the claim has it -/
theorem lw_ret {p : Program} {l : Launch} {e : Env} {s : State} {m : MethodId} {below : List Frame} {meth : Method} {c : Code} {b : Nat} (hx : p.tables.exec = Jvm.exec) (hb : c.code = code) (hr : meth.sig.returnType = ret) (hlocks : meth.locks = false) {pc : Nat} {H : Heap} {ls : Array Slot} (hdg : decode code pc = .ok (.ireturn, 1)) : W p l e room_1 s m #[Value.ref b] below meth c H [] 600000 7302250 (lw_Z below #[Value.ref b] s) (F0 m pc ls [.int 1]) := by
  intro T hT X
  obtain ⟨fs, hret, hrun, hended, hW, hframe⟩ := X.leave (v := some (.int 1)) (hlocks := hlocks) (fun h => by rw [hr] at h; cases h)
  have hmeth' : T.vm.method? m = some meth := X.method'
  refine ⟨T.setFrames fs, ?_, .returned (some (.int 1)), hrun, hended, rfl, ⟨_, rfl⟩, hW, hframe⟩
  jvm_step X.here [X.here.top, hx, hb, hdg, hmeth', hr, ret, narrow_b1]
  (try refine ⟨rfl, ?_⟩); (try refine ⟨rfl, ?_⟩)
  first | (intro acts; rw [hret _ acts rfl rfl rfl]) | rw [hret _ _ rfl rfl rfl]
  exact Steps.refl _
/-- what holds at the law's entry: the machine, the code, the tables' words (any of lw_tbl by 'hts w (by decide +kernel)'), the script of L ints xs at the cell b, what the Statement gives of the start (any of its parts by flat_of_before) -/
def lw_At (p : Program) (s : State) (m : MethodId) (meth : Method) (c : Code) (b L : Nat) (xs : Nat → Int32) : Prop :=
  p.tables.exec = Jvm.exec ∧ c.code = code ∧ meth.sig.returnType = ret ∧ c.maxLocals = 4 ∧ s.vm.findClass R_law = some m.cls ∧ (∀ w ∈ lw_tbl, w.before #[Value.ref b] s = true) ∧ va_X b L xs s s.heap ∧ b < s.heap.size ∧ meth.locks = false ∧ (Jvm.Cond.and given_1 narrow_1).before #[Value.ref b] s = true
set_option maxRecDepth 100000 in
set_option maxHeartbeats 4000000 in
theorem whole_start {p : Program} {e : Env} {s : State} {m : MethodId} {below : List Frame} {meth : Method} {c : Code} (l : Launch) {b L : Nat} {xs : Nat → Int32} (hL : L ≤ 3072) (C0 : lw_At p s m meth c b L xs) : W p l e room_1 s m #[Value.ref b] below meth c s.heap [] 0 0 (lw_Z below #[Value.ref b] s) (entryFrame m ([Value.ref b] : List Value).toArray 4) := by
  obtain ⟨hx, hb, hr, hml, hown, hts, hX, hbl, hlocks, hgv⟩ := id C0
  have hA0 : ∀ a : Nat, a < s.heap.size → ¬ (fun q : Nat => s.heap.size ≤ q) a := fun a h => Nat.not_le.mpr h
  have hbA : ¬ (fun q : Nat => s.heap.size ≤ q) b := hA0 b hbl
  have hfl := flat_of_before _ hgv
  have hnr : ∀ w ∈ flatC narrow_1, w.before #[Value.ref b] s = true := fun w hw => hfl w (List.mem_append_right _ hw)
  obtain ⟨c0, s0, k0⟩ := u_known (C := RX0) (T := TX0) (N := 6) (n := 6) hts (fun w h => al_tbl (inX0 w h)) (hts _ (al_tbl in_X0))
  obtain ⟨c1, s1, k1⟩ := u_known (C := RX1) (T := TX1) (N := 2) (n := 2) hts (fun w h => al_tbl (inX1 w h)) (hts _ (al_tbl in_X1))
  obtain ⟨c2, s2, k2⟩ := u_known (C := RX2) (T := TX2) (N := 2) (n := 2) hts (fun w h => al_tbl (inX2 w h)) (hts _ (al_tbl in_X2))
  obtain ⟨c3, s3, k3⟩ := u_known (C := RX3) (T := TX3) (N := 4) (n := 4) hts (fun w h => al_tbl (inX3 w h)) (hts _ (al_tbl in_X3))
  obtain ⟨c4, s4, k4⟩ := u_known (C := RX4) (T := TX4) (N := 5) (n := 5) hts (fun w h => al_tbl (inX4 w h)) (hts _ (al_tbl in_X4))
  obtain ⟨c5, s5, k5⟩ := u_known (C := RX5) (T := TX5) (N := 3) (n := 3) hts (fun w h => al_tbl (inX5 w h)) (hts _ (al_tbl in_X5))
  obtain ⟨c6, s6, k6⟩ := u_known (C := RX6) (T := TX6) (N := 10) (n := 10) hts (fun w h => al_tbl (inX6 w h)) (hts _ (al_tbl in_X6))
  obtain ⟨c7, s7, k7⟩ := u_known (C := RX7) (T := TX7) (N := 7) (n := 7) hts (fun w h => al_tbl (inX7 w h)) (hts _ (al_tbl in_X7))
  obtain ⟨c8, s8, k8⟩ := u_known (C := RX8) (T := TX8) (N := 5) (n := 5) hts (fun w h => al_tbl (inX8 w h)) (hts _ (al_tbl in_X8))
  obtain ⟨c9, s9, k9⟩ := u_known (C := RX9) (T := TX9) (N := 3) (n := 3) hts (fun w h => al_tbl (inX9 w h)) (hts _ (al_tbl in_X9))
  obtain ⟨c10, s10, k10⟩ := u_known (C := RX10) (T := TX10) (N := 7) (n := 7) hts (fun w h => al_tbl (inX10 w h)) (hts _ (al_tbl in_X10))
  obtain ⟨c11, s11, k11⟩ := u_known (C := RX11) (T := TX11) (N := 14) (n := 14) hts (fun w h => al_tbl (inX11 w h)) (hts _ (al_tbl in_X11))
  obtain ⟨c12, s12, k12⟩ := u_known (C := RX12) (T := TX12) (N := 29) (n := 29) hts (fun w h => al_tbl (inX12 w h)) (hts _ (al_tbl in_X12))
  obtain ⟨r0, kr0, cr0, hr0, hs0, ht0⟩ := Cond.arrayClass_spec (hts _ (al_tbl ac_byte))
  obtain ⟨r1, kr1, cr1, hr1, hs1, ht1⟩ := Cond.arrayClass_spec (hts _ (al_tbl ac_int))
  obtain ⟨r2, kr2, cr2, hr2, hs2, ht2⟩ := Cond.arrayClass_spec (hts _ (al_tbl ac_long))
  obtain ⟨r3, kr3, cr3, hr3, hs3, ht3⟩ := Cond.arrayClass_spec (hts _ (al_tbl ac_boolean))
  have hao0 := hts (Cond.arrayOver (.object "StitchSays$Basket")) (tb1 (List.mem_of_getElem? (i := 214) (by rfl)))
  obtain ⟨cq0, r4, kq0, hq0, -, hu0, hv0, hw0⟩ := Cond.arrayOver_spec hao0
  have hao1 := hts (Cond.arrayOver (.object "StitchSays$Cloth")) (tb1 (List.mem_of_getElem? (i := 139) (by rfl)))
  obtain ⟨cq1, r5, kq1, hq1, -, hu1, hv1, hw1⟩ := Cond.arrayOver_spec hao1
  have hao2 := hts (Cond.arrayOver (.object "StitchSays$Slot")) (tb1 (List.mem_of_getElem? (i := 230) (by rfl)))
  obtain ⟨cq2, r6, kq2, hq2, -, hu2, hv2, hw2⟩ := Cond.arrayOver_spec hao2
  have hao3 := hts (Cond.arrayOver (.object "StitchSays$Way")) (tb1 (List.mem_of_getElem? (i := 100) (by rfl)))
  obtain ⟨cq3, r7, kq3, hq3, -, hu3, hv3, hw3⟩ := Cond.arrayOver_spec hao3
  obtain ⟨adK, adV, hstr⟩ := str_start (A := fun q : Nat => s.heap.size ≤ q) hnr hA0
  obtain ⟨dC, hdC⟩ : ∃ dC : Nat → ClassId, dC = fun k => [c0, c1, c2, c3, c4, c5, c6, c7, c8, c9, c10, c11, c12].getD k c0 := ⟨_, rfl⟩
  obtain ⟨dI, hdI⟩ : ∃ dI : Nat → Nat → Nat, dI = fun k => [s0, s1, s2, s3, s4, s5, s6, s7, s8, s9, s10, s11, s12].getD k s0 := ⟨_, rfl⟩
  obtain ⟨cy, hcy⟩ : ∃ cy : Nat → ClassId, cy = fun k => [r0, r1, r2, r3, r4, r5, r6, r7].getD k r0 := ⟨_, rfl⟩
  have hKc : ∀ (k : Nat) (q : vw_C), vwCl[k]? = some q → u_Kn s q.1 q.2.1 q.2.2 (dC k) (dI k) := by
    intro k q hq
    subst hdC
    subst hdI
    match k, hq with
    | 0, hq => cases hq; exact k0
    | 1, hq => cases hq; exact k1
    | 2, hq => cases hq; exact k2
    | 3, hq => cases hq; exact k3
    | 4, hq => cases hq; exact k4
    | 5, hq => cases hq; exact k5
    | 6, hq => cases hq; exact k6
    | 7, hq => cases hq; exact k7
    | 8, hq => cases hq; exact k8
    | 9, hq => cases hq; exact k9
    | 10, hq => cases hq; exact k10
    | 11, hq => cases hq; exact k11
    | 12, hq => cases hq; exact k12
    | k + 13, hq => simp [vwCl] at hq
  obtain ⟨E, hE⟩ : ∃ E : Ez, E = ((dC, dI), cy, adK, adV) := ⟨_, rfl⟩
  have hK : va_K (eD E) vwCl (tysE E) s := by
    subst hE
    refine ⟨hKc, fun k q hq => ?_⟩
    subst hcy
    match k, hq with
    | 0, hq => cases hq; exact ⟨fun n z => ⟨(fun k h => by cases h), kr0, hs0, cr0, ht0⟩, hr0⟩
    | 1, hq => cases hq; exact ⟨fun n z => ⟨(fun k h => by cases h), kr1, hs1, cr1, ht1⟩, hr1⟩
    | 2, hq => cases hq; exact ⟨fun n z => ⟨(fun k h => by cases h), kr2, hs2, cr2, ht2⟩, hr2⟩
    | 3, hq => cases hq; exact ⟨fun n z => ⟨(fun k h => by cases h), kr3, hs3, cr3, ht3⟩, hr3⟩
    | 4, hq => cases hq; exact ⟨fun n z => ⟨(fun k h => by cases h), kq0, hu0, cq0, hv0⟩, ⟨kq0, cq0, hu0, hv0, hq0, hw0⟩⟩
    | 5, hq => cases hq; exact ⟨fun n z => ⟨(fun k h => by cases h), kq1, hu1, cq1, hv1⟩, ⟨kq1, cq1, hu1, hv1, hq1, hw1⟩⟩
    | 6, hq => cases hq; exact ⟨fun n z => ⟨(fun k h => by cases h), kq2, hu2, cq2, hv2⟩, ⟨kq2, cq2, hu2, hv2, hq2, hw2⟩⟩
    | 7, hq => cases hq; exact ⟨fun n z => ⟨(fun k h => by cases h), kq3, hu3, cq3, hv3⟩, ⟨kq3, cq3, hu3, hv3, hq3, hw3⟩⟩
    | k + 8, hq => simp [tysE] at hq
  have hKx : Kx E (fun q : Nat => s.heap.size ≤ q) s s.heap := by
    refine ⟨hK, fun w hw => ?_, fun q hq => ?_, fun i hi => ?_, ?_, fun C hc => ?_, ?_⟩
    · have hb := hts w (List.mem_append_right _ (nestW_tbl w hw))
      rcases nestW_form w hw with ⟨a, i, b1, n, d, g, rfl⟩ | ⟨a, i, y, g, rfl⟩
      · exact va_Nw.of rfl hb
      · exact va_Nw.of rfl hb
    · obtain ⟨i, hi⟩ := List.getElem?_of_mem hq
      have hi7 : i < 77 := by rw [← strW_len]; exact (List.getElem?_eq_some_iff.mp hi).1
      have hg : strW.getD i ("", 0, "", 0) = q := by rw [List.getD_eq_getElem?_getD, hi]; rfl
      have h1 := hts _ (List.mem_append_right _ (List.mem_of_getElem? (nr_sr i hi7)))
      have h2 := (hstr i hi7).1
      have h3 := nr_id i hi7
      unfold tmS at h2
      rw [hg] at h1 h2 h3
      subst hE
      rw [h3]
      exact vk_R.of h1 h2
    · subst hE
      exact (hstr i hi).2
    · exact va_Zof (hts _ ls_CS) (hts _ (al_tbl ii_String)) (va_eqi (hnr _ (List.mem_of_getElem? nr_cs))) hA0
    · simp only [aoW, List.mem_cons, List.not_mem_nil, or_false] at hc
      rcases hc with rfl | rfl | rfl | rfl
      · exact va_AO.of hao0
      · exact va_AO.of hao1
      · exact va_AO.of hao2
      · exact va_AO.of hao3
    · exact va_Zqof (hts _ ls_SF) (hts _ (al_tbl ii_Pre)) (hnr _ (List.mem_of_getElem? nr_sf)) hA0
  obtain ⟨z, hz⟩ : ∃ z : Cz, z = (p, l, e, room_1, s, m, #[Value.ref b], below, meth, c, lw_Z below #[Value.ref b] s, fun q : Nat => s.heap.size ≤ q) := ⟨_, rfl⟩
  have hC : Cx z E cL_law RL 4 14 600000 7302250 := by
    subst hz
    exact ⟨hx, hb, hml, hown, fun w hw => hts w (al_tbl hw), hKx, fun q h => h, Nat.le_of_ble_eq_true rfl, Nat.le_of_ble_eq_true rfl, Nat.le_of_ble_eq_true rfl, Nat.le_of_ble_eq_true rfl⟩
  have hR : ∀ (pc : Nat) (L : List Nat) (f : Nat → va_E) (lv : List (Nat × Value)) (c1 s1 : Nat), decode cL_law pc = .ok (.ireturn, 1) → c1 ≤ 600000 → s1 ≤ 7302250 → V z E 4 c1 s1 L f pc lv [.int 1] := by
    intro pc L f lv c1 s1 hdg h1 h2
    subst hz
    intro H locs ls hP hD hS hl
    refine va_forget (fun q hq => hS.2.2 q hq) ?_
    refine W.widen (k := 600000) (n := 7302250) h1 h2 ?_
    exact lw_ret hx hb hr hlocks hdg
  have hXz : va_X b L xs (zs z) (zs z).heap := by subst hz; exact hX
  have hblz : b < (zs z).heap.size := by subst hz; exact hbl
  have hbAz : ¬ zA z b := by subst hz; exact hbA
  have hV : V z E 4 0 0 [] (fun _ => ob 0 []) 0 [(0, .ref b)] [] := by
    refine law_start hC _ (fun x m Lx Lm f hFX hFM hRL => ?_)
    exact law_loop hC hXz hblz hbAz hL hR 4000 0 _ _ Lx Lm f (by simp only [Int32.reduceToInt]; omega) (by simp only [Int32.reduceToInt]; omega) (by simp only [Int32.reduceToInt]; omega) hFX hFM hRL (by simp only [Int32.reduceToInt]; omega)
  have hl := lv_entry ([.ref b]) (n := 4) (Nat.le_of_ble_eq_true rfl)
  rw [lg_entry_eq]
  have hP : va_P (eD E) vwCl (va_pl [] (fun _ => ob 0 [])) s.heap := fun k q h => by simp [va_pl] at h
  have hD : va_D (fun q : Nat => s.heap.size ≤ q) (va_pl [] (fun _ => ob 0 [])) := ⟨fun i j p q h => by simp [va_pl] at h, fun k q h => by simp [va_pl] at h⟩
  subst hz
  exact hV s.heap [] _ hP hD va_S.rf hl
-- ===== YOUR PART ENDS =====
set_option maxHeartbeats 4000000 in
theorem lw_walk (l : Launch) (b : Addr) (xs : List Int32) : MetFree l x (headSpec (Jvm.Cond.code x code maxLocals ret :: tables_1) room_1) (lw_P b xs) (fun _ _ _ _ _ => True) lw_Q := by
  refine MetFree.of_bodyS (code := code) (maxLocals := maxLocals) (ret := ret) (by decide) ?_ ?_
  · intro args s m h hn
    obtain ⟨meth, c, h1, h2, h3, h4, h5, h6, -, -⟩ := Cond.code_spec hn (atoms_spec (ws := Jvm.Cond.code x code maxLocals ret :: tables_1) h _ List.mem_cons_self)
    exact ⟨meth, c, h1, h2, h3, h4, h5, h6⟩
  · intro p e s m args below meth c s₁ B hml0 hP _
    obtain ⟨rfl, hx, hbd, hgv⟩ := hP
    obtain ⟨scr, harrAt, hlist, hof, hsmall⟩ := hx
    obtain ⟨hcb, hkn, -, -⟩ := State.arrayAt?_spec harrAt
    have hown : s.vm.findClass R_law = some m.cls := findClass_of_methodNamed B.named
    have hts0 : ∀ c ∈ (Jvm.Cond.code x code maxLocals ret :: tables_1), c.before #[Value.ref b] s = true := atoms_spec (ws := Jvm.Cond.code x code maxLocals ret :: tables_1) B.pre
    have hts : ∀ w ∈ lw_tbl, w.before #[Value.ref b] s = true := k2_hts_sels lw_privs (fun w hw => hts0 w (List.mem_cons_of_mem _ hw)) lw_privs_ok
    have hml : c.maxLocals = 4 := B.maxLocals_eq (hts0 _ List.mem_cons_self)
    have X₀ : Stand p l e room_1 s m #[Value.ref b] below meth c s₁ [] 0 0 := Stand.of_body B
    have hh0 : s₁.heap = s.heap := by rw [B.state]; rfl
    have hsz : scr.slots.size = xs.length := by rw [← Array.length_toList, hlist, List.length_map]
    have hval : ∀ j : Nat, j < xs.length → scr.slots[j]? = some (.int (xs.getD j 0)) := fun j hj => by
      rw [← Array.getElem?_toList, hlist]
      simp [hj]
    have hbl : b < s.heap.size := (Array.getElem?_eq_some_iff.mp hcb).1
    have hX : va_X b xs.length (fun j => xs.getD j 0) s s.heap := ⟨scr, hcb, hof, hkn, hsz, hval⟩
    have K : W p l e room_1 s m #[Value.ref b] below meth c s₁.heap [] 0 0 (lw_Z below #[Value.ref b] s) (entryFrame m ([Value.ref b] : List Value).toArray 4) := by
      rw [hh0]
      exact whole_start l hbd ⟨B.exec, B.bytes, B.returns, hml, hown, hts, hX, hbl, B.notSynchronized, hgv⟩
    obtain ⟨t, a1, o, b1, b2, b3⟩ := K s₁ rfl X₀
    exact ⟨t, o, a1, b1, b2, b3⟩
theorem lw_pre_spec {args : Array Value} {s : State} (h : (Jvm.Cond.and given_1 narrow_1).before args s = true) (hr : rest_1_c.before args s = true) : ∃ (b : Addr) (xs : List Int32), lw_P b xs args s := by
  have hs := flat_of_before _ h
  have hq := flat_of_before _ hr
  have hc : (Cond.count 1).before args s = true := hs _ (by decide +kernel)
  have harr : (Cond.arrayOf (.arg 0) .int).before args s = true := hs _ (by decide +kernel)
  have hle : (Cond.le (.length (.arg 0)) (.int 3072)).before args s = true := hs _ (by decide +kernel)
  have hlen : (Cond.isInt (.length (.arg 0))).before args s = true := hq _ (by decide +kernel)
  have hall : (Cond.all (.arg 0) (.isInt (.elem (.arg 0) (.index 0)))).before args s = true := hq _ (by decide +kernel)
  obtain ⟨b, xs, hb, hx⟩ := State.ints_of_pre rfl harr hlen hall
  have hsm : xs.length < 2 ^ 31 := hx.choose_spec.2.2.2
  have hev : (Term.length (.arg 0)).eval args s none [] s = some (.int xs.length.toInt32) := hx.length_eval hb
  have hv := Cond.le_ints hev (show (Term.int 3072).eval args s none [] s = some (.int 3072) from rfl)
  have hd : xs.length.toInt32 ≤ 3072 := by
    simpa [Cond.before, Cond.holds, hv] using hle
  have hN : xs.length ≤ 3072 := (Int32.ofNat_le_ofNat hsm (by decide)).mp (show Int32.ofNat xs.length ≤ Int32.ofNat 3072 from hd)
  exact ⟨b, xs, Cond.one_arg hc (show args[0]? = some (.ref b) from hb), hx, hN, h⟩
theorem lw_comes (l : Launch) : Comes l x (Jvm.Cond.code x code maxLocals ret :: tables_1) room_1 (fun tb e args s => Calls_1 tb e args s ∧ rest_1 tb e args s ∧ Pre_1 tb e args s)
    (fun _ _ args s o t => lw_Q args s o t) := by
  intro p e ha hc hk s m args below hf hfit hheap happ hpre
  obtain ⟨b, xs, hP⟩ := lw_pre_spec hpre.2.2 hpre.2.1
  obtain ⟨k, o, h1, h2, h3, hQ⟩ := lw_walk l b xs p e ha hc hk s m args below hf ((Spec.applies_iff_loose hf).mp happ).1 hP trivial
  exact ⟨k, o, h1, h2, h3, hQ⟩
theorem lw_frame {s t : State} {o : Outcome} {args : Array Value} (h : Framed s o t [] 600000 7302250) :
    Framed s o t (fieldLocs frame_1_writes args s ++ arrayLocs frame_1_arrays args s ++ staticLocs frame_1_statics s) 600000 7302250 := h
theorem lw_limb (L : Cond) (hL : ∀ (args : Array Value) (s t : State), L.after args s (.returned (some (.int 1))) t = true) :
    ArmFor flags0 classFile x code maxLocals ret World_1 tables_1 room_1 Calls_1 rest_1 Pre_1
      (fun tb e a s o t => postC L tb e a s o t ∧ Framed s o t (fieldLocs frame_1_writes a s ++ arrayLocs frame_1_arrays a s ++ staticLocs frame_1_statics s) 600000 7302250) := by
  intro l _ _ _ p e ha hc hk s m args below hf hfit hheap happ hpre
  obtain ⟨k, o, h1, h2, h3, rfl, hF⟩ := lw_comes l p e ha hc hk s m args below hf hfit hheap happ hpre
  exact ⟨k, _, h1, h2, h3, hL args s _, lw_frame hF⟩
theorem i_vc : Claimed_1_1 ∧ Claimed_1_2 := ⟨lw_limb limb_1_1 (fun args s t => by simp [limb_1_1, Cond.after, Cond.holds, Cond.value]), lw_limb limb_1_2 (fun args s t => Cond.after_iff.mpr (by
  first | (rw [show limb_1_2 = Cond.eq .result (.int 1) from rfl, Cond.eq_ints (x := 1) (y := 1) rfl rfl]; simp; done) | (simp [limb_1_2, Cond.value, Term.eval]; done)))⟩
