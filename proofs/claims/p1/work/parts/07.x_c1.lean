set_option maxRecDepth 100000 in
set_option maxHeartbeats 4000000 in
theorem x_carries {l : Launch} {E : Ez} {L : List Nat} {f : Nat → va_E} {cl he im la lo nl now np ns nw nwa pa paf pas sh sl t ta tr wa wt wy x : Nat} {k : Int32} {seed : Int32} {n : Int32} (m_x : x ∈ L) (e_x : f x = ob 11 [.ref t, .ref now, .ref im, .ref la, .ref sl, .ref np, .ref ns, .ref nw, .ref nwa, .ref nl, .ref he, .ref wa, .ref tr, .ref ta]) (m_now : now ∈ L) (e_now : f now = ob 0 [.ref pa, .ref sh, .ref wy, .ref wt, .ref lo, .ref cl]) (m_pa : pa ∈ L) (e_pa : f pa = ob 4 [.ref pas, .ref paf, .int 0, .int 0, .int 0]) : CI l yX11_carries cX11_carries 6 .int 1 0 0 E [.ref x, .int k, .int seed, .int n] L f (fun r L1 f1 => sp_carries k seed n = r) := by
  refine ci_of (by decide) (Nat.le_of_ble_eq_true rfl) (fun z hz hnm hC hR => ?_)
  have hC : Cx z E cX11_carries RX11 6 1 0 0 := hC
  subst hz
  show V z E 6 0 0 L f 0 [(0, .ref x), (1, .int k), (2, .int seed), (3, .int n)] []
  refine v_iload_n hC dX11_carries_0 rfl ?_
  refine v_si hC (rest := []) mt_X11_isWay (c_isWay) mx_X11_isWay ml_X11_142 (by decide) rfl (cells1 := 0) (slots1 := 0) (by decide) (by decide) (Nat.le_of_ble_eq_true rfl) (Nat.le_of_ble_eq_true rfl) rfl (Nat.le_of_ble_eq_true rfl) dX11_carries_1 (fun r1 L2 f3 h4 => ?_)
  obtain ⟨rfl, rfl, rfl⟩ := h4
  refine v_if_eq hC dX11_carries_4 (tgt := 21) (by decide) (fun h5 => ?_) (fun h5 => ?_)
  · have h6 := bI_0 h5
    refine v_bipush hC dX11_carries_21 (v := (-2)) (by decide) ?_
    exact hR _ _ _ _ _ _ _ dX11_carries_23 rfl (Nat.le_of_ble_eq_true rfl) (Nat.le_of_ble_eq_true rfl) (by unfold sp_carries; simp only [Int32.lt_iff_toInt_lt, Int32.le_iff_toInt_le, Int32.reduceToInt, ← Int32.toInt_inj] at h6 ⊢; first | omega | (split <;> first | rfl | (exfalso; omega)))
  · have h7 := bI_1 h5
    refine v_iload_n hC dX11_carries_7 rfl ?_
    refine v_si hC (rest := []) mt_X11_isSeed (c_isSeed) mx_X11_isSeed ml_X11_184 (by decide) rfl (cells1 := 0) (slots1 := 0) (by decide) (by decide) (Nat.le_of_ble_eq_true rfl) (Nat.le_of_ble_eq_true rfl) rfl (Nat.le_of_ble_eq_true rfl) dX11_carries_8 (fun r8 L9 f10 h11 => ?_)
    obtain ⟨rfl, rfl, rfl⟩ := h11
    refine v_if_eq hC dX11_carries_11 (tgt := 21) (by decide) (fun h12 => ?_) (fun h12 => ?_)
    · have h13 := bI_0 h12
      refine v_bipush hC dX11_carries_21 (v := (-2)) (by decide) ?_
      exact hR _ _ _ _ _ _ _ dX11_carries_23 rfl (Nat.le_of_ble_eq_true rfl) (Nat.le_of_ble_eq_true rfl) (by unfold sp_carries; simp only [Int32.lt_iff_toInt_lt, Int32.le_iff_toInt_le, Int32.reduceToInt, ← Int32.toInt_inj] at h7 h13 ⊢; first | omega | (split <;> first | rfl | (exfalso; omega)))
    · have h14 := bI_1 h12
      refine v_iload_n hC dX11_carries_14 rfl ?_
      refine v_si hC (rest := []) mt_X11_isManyKnitted (c_isMany) mx_X11_isManyKnitted ml_X11_276 (by decide) rfl (cells1 := 0) (slots1 := 0) (by decide) (by decide) (Nat.le_of_ble_eq_true rfl) (Nat.le_of_ble_eq_true rfl) rfl (Nat.le_of_ble_eq_true rfl) dX11_carries_15 (fun r15 L16 f17 h18 => ?_)
      obtain ⟨rfl, rfl, rfl⟩ := h18
      refine v_if_ne hC dX11_carries_18 (tgt := 24) (by decide) (fun h19 => ?_) (fun h19 => ?_)
      · have h20 := bI_1 h19
        refine v_aload_n hC dX11_carries_24 rfl ?_
        refine v_get hC fl_X11_19 m_x e_x rfl dX11_carries_25 ?_
        refine v_getN hC fn_X11_116 m_now e_now rfl dX11_carries_28 ?_
        refine v_vi hC (rest := []) m_pa e_pa rfl mi_X4_isThere ms_X4_isThere (a26_X4_isThere m_pa e_pa) mx_X4_isThere ml_X11_187 (by decide) rfl (cells1 := 0) (slots1 := 0) (by decide) (by decide) (Nat.le_of_ble_eq_true rfl) (Nat.le_of_ble_eq_true rfl) rfl (Nat.le_of_ble_eq_true rfl) dX11_carries_31 (fun r21 L22 f23 h24 => ?_)
        obtain ⟨rfl, rfl, rfl⟩ := h24
        refine v_if_eq_t hC dX11_carries_34 (tgt := 52) (by decide) (by decide) ?_
        refine v_bipush hC dX11_carries_52 (v := (-6)) (by decide) ?_
        exact hR _ _ _ _ _ _ _ dX11_carries_54 rfl (Nat.le_of_ble_eq_true rfl) (Nat.le_of_ble_eq_true rfl) (by unfold sp_carries; simp only [Int32.lt_iff_toInt_lt, Int32.le_iff_toInt_le, Int32.reduceToInt, ← Int32.toInt_inj] at h7 h14 h20 ⊢; first | omega | (split <;> first | rfl | (exfalso; omega)))
      · have h25 := bI_0 h19
        refine v_bipush hC dX11_carries_21 (v := (-2)) (by decide) ?_
        exact hR _ _ _ _ _ _ _ dX11_carries_23 rfl (Nat.le_of_ble_eq_true rfl) (Nat.le_of_ble_eq_true rfl) (by unfold sp_carries; simp only [Int32.lt_iff_toInt_lt, Int32.le_iff_toInt_le, Int32.reduceToInt, ← Int32.toInt_inj] at h7 h14 h25 ⊢; first | omega | (split <;> first | rfl | (exfalso; omega)))
set_option maxRecDepth 100000 in
set_option maxHeartbeats 4000000 in
theorem x_same {l : Launch} {E : Ez} {L : List Nat} {f : Nat → va_E} {cl he im la lo nl now np ns nw nwa pa sh sl t ta tr wa wt wy x : Nat} {gcl : Nat → Option Nat} {c : Int32} {d : Int32} {k : Int32} (m_x : x ∈ L) (e_x : f x = ob 11 [.ref t, .ref now, .ref im, .ref la, .ref sl, .ref np, .ref ns, .ref nw, .ref nwa, .ref nl, .ref he, .ref wa, .ref tr, .ref ta]) (m_now : now ∈ L) (e_now : f now = ob 0 [.ref pa, .ref sh, .ref wy, .ref wt, .ref lo, .ref cl]) (m_cl : cl ∈ L) (e_cl : f cl = aR E 5 4 gcl) (pcl : ∀ i : Nat, i < 4 → ∃ q s : Nat, gcl i = some q ∧ q ∈ L ∧ f q = ob 1 [.ref s, .int 0]) : CI l yX11_same cX11_same 7 .int 2 0 0 E [.ref x, .int c, .int d, .int k] L f (fun r L1 f1 => sp_same c d k = r) := by
  refine ci_of (by decide) (Nat.le_of_ble_eq_true rfl) (fun z hz hnm hC hR => ?_)
  have hC : Cx z E cX11_same RX11 7 2 0 0 := hC
  subst hz
  show V z E 7 0 0 L f 0 [(0, .ref x), (1, .int c), (2, .int d), (3, .int k)] []
  refine v_iload_n hC dX11_same_0 rfl ?_
  refine v_si hC (rest := []) mt_X11_isCloth (c_isCloth) mx_X11_isCloth ml_X11_181 (by decide) rfl (cells1 := 0) (slots1 := 0) (by decide) (by decide) (Nat.le_of_ble_eq_true rfl) (Nat.le_of_ble_eq_true rfl) rfl (Nat.le_of_ble_eq_true rfl) dX11_same_1 (fun r1 L2 f3 h4 => ?_)
  obtain ⟨rfl, rfl, rfl⟩ := h4
  refine v_if_eq hC dX11_same_4 (tgt := 21) (by decide) (fun h5 => ?_) (fun h5 => ?_)
  · have h6 := bI_0 h5
    refine v_bipush hC dX11_same_21 (v := (-2)) (by decide) ?_
    exact hR _ _ _ _ _ _ _ dX11_same_23 rfl (Nat.le_of_ble_eq_true rfl) (Nat.le_of_ble_eq_true rfl) (by unfold sp_same; simp only [Int32.lt_iff_toInt_lt, Int32.le_iff_toInt_le, Int32.reduceToInt, ← Int32.toInt_inj] at h6 ⊢; first | omega | (split <;> first | rfl | (exfalso; omega)))
  · have h7 := bI_1 h5
    refine v_iload_n hC dX11_same_7 rfl ?_
    refine v_si hC (rest := []) mt_X11_isCloth (c_isCloth) mx_X11_isCloth ml_X11_181 (by decide) rfl (cells1 := 0) (slots1 := 0) (by decide) (by decide) (Nat.le_of_ble_eq_true rfl) (Nat.le_of_ble_eq_true rfl) rfl (Nat.le_of_ble_eq_true rfl) dX11_same_8 (fun r8 L9 f10 h11 => ?_)
    obtain ⟨rfl, rfl, rfl⟩ := h11
    refine v_if_eq hC dX11_same_11 (tgt := 21) (by decide) (fun h12 => ?_) (fun h12 => ?_)
    · have h13 := bI_0 h12
      refine v_bipush hC dX11_same_21 (v := (-2)) (by decide) ?_
      exact hR _ _ _ _ _ _ _ dX11_same_23 rfl (Nat.le_of_ble_eq_true rfl) (Nat.le_of_ble_eq_true rfl) (by unfold sp_same; simp only [Int32.lt_iff_toInt_lt, Int32.le_iff_toInt_le, Int32.reduceToInt, ← Int32.toInt_inj] at h7 h13 ⊢; first | omega | (split <;> first | rfl | (exfalso; omega)))
    · have h14 := bI_1 h12
      refine v_iload_n hC dX11_same_14 rfl ?_
      refine v_si hC (rest := []) mt_X11_isWay (c_isWay) mx_X11_isWay ml_X11_142 (by decide) rfl (cells1 := 0) (slots1 := 0) (by decide) (by decide) (Nat.le_of_ble_eq_true rfl) (Nat.le_of_ble_eq_true rfl) rfl (Nat.le_of_ble_eq_true rfl) dX11_same_15 (fun r15 L16 f17 h18 => ?_)
      obtain ⟨rfl, rfl, rfl⟩ := h18
      refine v_if_ne hC dX11_same_18 (tgt := 24) (by decide) (fun h19 => ?_) (fun h19 => ?_)
      · have h20 := bI_1 h19
        refine v_aload_n hC dX11_same_24 rfl ?_
        refine v_iload_n hC dX11_same_25 rfl ?_
        refine v_vi hC (rest := []) m_x e_x rfl mi_X11_hasCloth ms_X11_hasCloth (c_hasCloth m_x e_x m_now e_now m_cl e_cl pcl) mx_X11_hasCloth ml_X11_239 (by decide) rfl (cells1 := 0) (slots1 := 0) (by decide) (by decide) (Nat.le_of_ble_eq_true rfl) (Nat.le_of_ble_eq_true rfl) rfl (Nat.le_of_ble_eq_true rfl) dX11_same_26 (fun r21 L22 f23 h24 => ?_)
        obtain ⟨rfl, rfl, rfl⟩ := h24
        refine v_if_eq_t hC dX11_same_29 (tgt := 55) (by decide) (by decide) ?_
        refine v_bipush hC dX11_same_55 (v := (-6)) (by decide) ?_
        exact hR _ _ _ _ _ _ _ dX11_same_57 rfl (Nat.le_of_ble_eq_true rfl) (Nat.le_of_ble_eq_true rfl) (by unfold sp_same; simp only [Int32.lt_iff_toInt_lt, Int32.le_iff_toInt_le, Int32.reduceToInt, ← Int32.toInt_inj] at h7 h14 h20 ⊢; first | omega | (split <;> first | rfl | (exfalso; omega)))
      · have h25 := bI_0 h19
        refine v_bipush hC dX11_same_21 (v := (-2)) (by decide) ?_
        exact hR _ _ _ _ _ _ _ dX11_same_23 rfl (Nat.le_of_ble_eq_true rfl) (Nat.le_of_ble_eq_true rfl) (by unfold sp_same; simp only [Int32.lt_iff_toInt_lt, Int32.le_iff_toInt_le, Int32.reduceToInt, ← Int32.toInt_inj] at h7 h14 h25 ⊢; first | omega | (split <;> first | rfl | (exfalso; omega)))
set_option maxRecDepth 100000 in
set_option maxHeartbeats 4000000 in
theorem x_back {l : Launch} {E : Ez} {L : List Nat} {f : Nat → va_E} {he im la nl now np ns nw nwa sl t ta tr wa x : Nat} {k : Int32} (m_x : x ∈ L) (e_x : f x = ob 11 [.ref t, .ref now, .ref im, .ref la, .ref sl, .ref np, .ref ns, .ref nw, .ref nwa, .ref nl, .ref he, .ref wa, .ref tr, .ref ta]) (m_im : im ∈ L) (e_im : f im = aR E 4 3 (fun _ => none)) : CI l yX11_back cX11_back 2 .int 0 0 0 E [.ref x, .int k] L f (fun r L1 f1 => sp_back k = r) := by
  refine ci_of (by decide) (Nat.le_of_ble_eq_true rfl) (fun z hz hnm hC hR => ?_)
  have hC : Cx z E cX11_back RX11 2 0 0 0 := hC
  subst hz
  show V z E 2 0 0 L f 0 [(0, .ref x), (1, .int k)] []
  refine v_iload_n hC dX11_back_0 rfl ?_
  refine v_if_lt hC dX11_back_1 (tgt := 9) (by decide) (fun h1 => ?_) (fun h1 => ?_)
  · refine v_bipush hC dX11_back_9 (v := (-2)) (by decide) ?_
    exact hR _ _ _ _ _ _ _ dX11_back_11 rfl (Nat.le_of_ble_eq_true rfl) (Nat.le_of_ble_eq_true rfl) (by unfold sp_back; simp only [Int32.lt_iff_toInt_lt, Int32.le_iff_toInt_le, Int32.reduceToInt, ← Int32.toInt_inj] at h1 ⊢; first | omega | (split <;> first | rfl | (exfalso; omega)))
  · refine v_iload_n hC dX11_back_4 rfl ?_
    refine v_iconst hC dX11_back_5 (v := 3) (by decide) ?_
    refine v_icmp_lt hC dX11_back_6 (tgt := 12) (by decide) (fun h2 => ?_) (fun h2 => ?_)
    · refine v_aload_n hC dX11_back_12 rfl ?_
      refine v_get hC fl_X11_23 m_x e_x rfl dX11_back_13 ?_
      refine v_iload_n hC dX11_back_16 rfl ?_
      have hin3 : vp_in k 3 := vp_in_iff.mpr (by simp only [Int32.lt_iff_toInt_lt, Int32.le_iff_toInt_le, Int32.reduceToInt, ← Int32.toInt_inj] at h1 h2 ⊢; first | omega | (split <;> first | rfl | (exfalso; omega)))
      refine v_aald hC m_im e_im (t := 4) (Cn := "StitchSays$Basket") rfl hin3 (v := .null) rfl dX11_back_17 ?_
      refine v_ifnonnullN hC dX11_back_18 ?_
      refine v_bipush hC dX11_back_21 (v := (-6)) (by decide) ?_
      exact hR _ _ _ _ _ _ _ dX11_back_23 rfl (Nat.le_of_ble_eq_true rfl) (Nat.le_of_ble_eq_true rfl) (by unfold sp_back; simp only [Int32.lt_iff_toInt_lt, Int32.le_iff_toInt_le, Int32.reduceToInt, ← Int32.toInt_inj] at h1 h2 ⊢; first | omega | (split <;> first | rfl | (exfalso; omega)))
    · refine v_bipush hC dX11_back_9 (v := (-2)) (by decide) ?_
      exact hR _ _ _ _ _ _ _ dX11_back_11 rfl (Nat.le_of_ble_eq_true rfl) (Nat.le_of_ble_eq_true rfl) (by unfold sp_back; simp only [Int32.lt_iff_toInt_lt, Int32.le_iff_toInt_le, Int32.reduceToInt, ← Int32.toInt_inj] at h1 h2 ⊢; first | omega | (split <;> first | rfl | (exfalso; omega)))
set_option maxRecDepth 100000 in
set_option maxHeartbeats 4000000 in
theorem a34_X5_isThere {l : Launch} {E : Ez} {L : List Nat} {f : Nat → va_E} {a0 a1 : Nat} (m_a0 : a0 ∈ L) (e_a0 : f a0 = ob 5 [.ref a1, .int (-1), .int 0]) : CI l yX5_isThere cX5_isThere 1 .boolean 0 0 0 E [.ref a0] L f (fun r L1 f1 => 0 = r ∧ L = L1 ∧ f = f1) := by
  refine ci_of (by decide) (Nat.le_of_ble_eq_true rfl) (fun z hz hnm hC hR => ?_)
  have hC : Cx z E cX5_isThere RX5 1 0 0 0 := hC
  subst hz
  show V z E 1 0 0 L f 0 [(0, .ref a0)] []
  refine v_aload_n hC dX5_isThere_0 rfl ?_
  refine v_get hC fl_X5_15 m_a0 e_a0 rfl dX5_isThere_1 ?_
  refine v_iconst hC dX5_isThere_4 (v := (-1)) (by decide) ?_
  refine v_icmp_eq_t hC dX5_isThere_5 (tgt := 12) (by decide) (by decide) ?_
  refine v_iconst hC dX5_isThere_12 (v := 0) (by decide) ?_
  exact hR _ _ _ _ _ _ _ dX5_isThere_13 rfl (Nat.le_of_ble_eq_true rfl) (Nat.le_of_ble_eq_true rfl) ⟨rfl, rfl, rfl⟩
set_option maxRecDepth 100000 in
set_option maxHeartbeats 4000000 in
theorem x_write {l : Launch} {E : Ez} {L : List Nat} {f : Nat → va_E} {he im la nl now np ns nw nwa sl t ta tr wa x : Nat} {gsl : Nat → Option Nat} {a : Int32} {i : Int32} {v : Int64} (m_x : x ∈ L) (e_x : f x = ob 11 [.ref t, .ref now, .ref im, .ref la, .ref sl, .ref np, .ref ns, .ref nw, .ref nwa, .ref nl, .ref he, .ref wa, .ref tr, .ref ta]) (m_sl : sl ∈ L) (e_sl : f sl = aR E 6 4 gsl) (psl : ∀ i : Nat, i < 4 → ∃ q s : Nat, gsl i = some q ∧ q ∈ L ∧ f q = ob 5 [.ref s, .int (-1), .int 0] ∧ s ∈ L ∧ f s = aJ E 60 (fun _ => 0)) : CI l yX11_write cX11_write 5 .int 1 0 0 E [.ref x, .int a, .int i, .long v] L f (fun r L1 f1 => sp_slot a = r) := by
  refine ci_of (by decide) (Nat.le_of_ble_eq_true rfl) (fun z hz hnm hC hR => ?_)
  have hC : Cx z E cX11_write RX11 5 1 0 0 := hC
  subst hz
  show V z E 5 0 0 L f 0 [(0, .ref x), (1, .int a), (2, .int i), (3, .long v)] []
  refine v_iload_n hC dX11_write_0 rfl ?_
  refine v_si hC (rest := []) mt_X11_isSlot (c_isSlot) mx_X11_isSlot ml_X11_353 (by decide) rfl (cells1 := 0) (slots1 := 0) (by decide) (by decide) (Nat.le_of_ble_eq_true rfl) (Nat.le_of_ble_eq_true rfl) rfl (Nat.le_of_ble_eq_true rfl) dX11_write_1 (fun r1 L2 f3 h4 => ?_)
  obtain ⟨rfl, rfl, rfl⟩ := h4
  refine v_if_ne hC dX11_write_4 (tgt := 10) (by decide) (fun h5 => ?_) (fun h5 => ?_)
  · have h6 := bI_1 h5
    refine v_aload_n hC dX11_write_10 rfl ?_
    refine v_get hC fl_X11_36 m_x e_x rfl dX11_write_11 ?_
    refine v_iload_n hC dX11_write_14 rfl ?_
    have hin11 : vp_in a 4 := vp_in_iff.mpr (by simp only [Int32.lt_iff_toInt_lt, Int32.le_iff_toInt_le, Int32.reduceToInt, ← Int32.toInt_inj] at h6 ⊢; first | omega | (split <;> first | rfl | (exfalso; omega)))
    obtain ⟨j7, hj8, ej9⟩ := vp_in_of hin11 (by decide)
    obtain ⟨q10, s15, eg12, m13, e14, m16, e17⟩ := psl j7 hj8
    refine v_aald hC m_sl e_sl (t := 6) (Cn := "StitchSays$Slot") rfl hin11 (v := .ref q10) (by rw [ej9, nI_clamp (by omega), eg12]; rfl) dX11_write_15 ?_
    refine v_vi hC (rest := []) m13 e14 rfl mi_X5_isThere ms_X5_isThere (a34_X5_isThere m13 e14) mx_X5_isThere ml_X11_359 (by decide) rfl (cells1 := 0) (slots1 := 0) (by decide) (by decide) (Nat.le_of_ble_eq_true rfl) (Nat.le_of_ble_eq_true rfl) rfl (Nat.le_of_ble_eq_true rfl) dX11_write_16 (fun r18 L19 f20 h21 => ?_)
    obtain ⟨rfl, rfl, rfl⟩ := h21
    refine v_if_ne_f hC dX11_write_19 (tgt := 25) (by decide) (by decide) ?_
    refine v_bipush hC dX11_write_22 (v := (-6)) (by decide) ?_
    exact hR _ _ _ _ _ _ _ dX11_write_24 rfl (Nat.le_of_ble_eq_true rfl) (Nat.le_of_ble_eq_true rfl) (by unfold sp_slot; simp only [Int32.lt_iff_toInt_lt, Int32.le_iff_toInt_le, Int32.reduceToInt, ← Int32.toInt_inj] at h6 ⊢; first | omega | (split <;> first | rfl | (exfalso; omega)))
  · have h22 := bI_0 h5
    refine v_bipush hC dX11_write_7 (v := (-2)) (by decide) ?_
    exact hR _ _ _ _ _ _ _ dX11_write_9 rfl (Nat.le_of_ble_eq_true rfl) (Nat.le_of_ble_eq_true rfl) (by unfold sp_slot; simp only [Int32.lt_iff_toInt_lt, Int32.le_iff_toInt_le, Int32.reduceToInt, ← Int32.toInt_inj] at h22 ⊢; first | omega | (split <;> first | rfl | (exfalso; omega)))
set_option maxRecDepth 100000 in
set_option maxHeartbeats 4000000 in
theorem x_paste {l : Launch} {E : Ez} {L : List Nat} {f : Nat → va_E} {he im la nl now np ns nw nwa sl t ta tr wa x : Nat} {gsl : Nat → Option Nat} {a : Int32} {i : Int32} {b : Int32} {k : Int32} {n : Int32} (m_x : x ∈ L) (e_x : f x = ob 11 [.ref t, .ref now, .ref im, .ref la, .ref sl, .ref np, .ref ns, .ref nw, .ref nwa, .ref nl, .ref he, .ref wa, .ref tr, .ref ta]) (m_sl : sl ∈ L) (e_sl : f sl = aR E 6 4 gsl) (psl : ∀ i : Nat, i < 4 → ∃ q s : Nat, gsl i = some q ∧ q ∈ L ∧ f q = ob 5 [.ref s, .int (-1), .int 0] ∧ s ∈ L ∧ f s = aJ E 60 (fun _ => 0)) : CI l yX11_paste cX11_paste 6 .int 1 0 0 E [.ref x, .int a, .int i, .int b, .int k, .int n] L f (fun r L1 f1 => sp_slots a b = r) := by
  refine ci_of (by decide) (Nat.le_of_ble_eq_true rfl) (fun z hz hnm hC hR => ?_)
  have hC : Cx z E cX11_paste RX11 6 1 0 0 := hC
  subst hz
  show V z E 6 0 0 L f 0 [(0, .ref x), (1, .int a), (2, .int i), (3, .int b), (4, .int k), (5, .int n)] []
  refine v_iload_n hC dX11_paste_0 rfl ?_
  refine v_si hC (rest := []) mt_X11_isSlot (c_isSlot) mx_X11_isSlot ml_X11_353 (by decide) rfl (cells1 := 0) (slots1 := 0) (by decide) (by decide) (Nat.le_of_ble_eq_true rfl) (Nat.le_of_ble_eq_true rfl) rfl (Nat.le_of_ble_eq_true rfl) dX11_paste_1 (fun r1 L2 f3 h4 => ?_)
  obtain ⟨rfl, rfl, rfl⟩ := h4
  refine v_if_eq hC dX11_paste_4 (tgt := 14) (by decide) (fun h5 => ?_) (fun h5 => ?_)
  · have h6 := bI_0 h5
    refine v_bipush hC dX11_paste_14 (v := (-2)) (by decide) ?_
    exact hR _ _ _ _ _ _ _ dX11_paste_16 rfl (Nat.le_of_ble_eq_true rfl) (Nat.le_of_ble_eq_true rfl) (by unfold sp_slots; simp only [Int32.lt_iff_toInt_lt, Int32.le_iff_toInt_le, Int32.reduceToInt, ← Int32.toInt_inj] at h6 ⊢; first | omega | (split <;> first | rfl | (exfalso; omega)))
  · have h7 := bI_1 h5
    refine v_iload_n hC dX11_paste_7 rfl ?_
    refine v_si hC (rest := []) mt_X11_isSlot (c_isSlot) mx_X11_isSlot ml_X11_353 (by decide) rfl (cells1 := 0) (slots1 := 0) (by decide) (by decide) (Nat.le_of_ble_eq_true rfl) (Nat.le_of_ble_eq_true rfl) rfl (Nat.le_of_ble_eq_true rfl) dX11_paste_8 (fun r8 L9 f10 h11 => ?_)
    obtain ⟨rfl, rfl, rfl⟩ := h11
    refine v_if_ne hC dX11_paste_11 (tgt := 17) (by decide) (fun h12 => ?_) (fun h12 => ?_)
    · have h13 := bI_1 h12
      refine v_aload_n hC dX11_paste_17 rfl ?_
      refine v_get hC fl_X11_36 m_x e_x rfl dX11_paste_18 ?_
      refine v_iload_n hC dX11_paste_21 rfl ?_
      have hin18 : vp_in a 4 := vp_in_iff.mpr (by simp only [Int32.lt_iff_toInt_lt, Int32.le_iff_toInt_le, Int32.reduceToInt, ← Int32.toInt_inj] at h7 h13 ⊢; first | omega | (split <;> first | rfl | (exfalso; omega)))
      obtain ⟨j14, hj15, ej16⟩ := vp_in_of hin18 (by decide)
      obtain ⟨q17, s22, eg19, m20, e21, m23, e24⟩ := psl j14 hj15
      refine v_aald hC m_sl e_sl (t := 6) (Cn := "StitchSays$Slot") rfl hin18 (v := .ref q17) (by rw [ej16, nI_clamp (by omega), eg19]; rfl) dX11_paste_22 ?_
      refine v_vi hC (rest := []) m20 e21 rfl mi_X5_isThere ms_X5_isThere (a34_X5_isThere m20 e21) mx_X5_isThere ml_X11_359 (by decide) rfl (cells1 := 0) (slots1 := 0) (by decide) (by decide) (Nat.le_of_ble_eq_true rfl) (Nat.le_of_ble_eq_true rfl) rfl (Nat.le_of_ble_eq_true rfl) dX11_paste_23 (fun r25 L26 f27 h28 => ?_)
      obtain ⟨rfl, rfl, rfl⟩ := h28
      refine v_if_eq_t hC dX11_paste_26 (tgt := 41) (by decide) (by decide) ?_
      refine v_bipush hC dX11_paste_41 (v := (-6)) (by decide) ?_
      exact hR _ _ _ _ _ _ _ dX11_paste_43 rfl (Nat.le_of_ble_eq_true rfl) (Nat.le_of_ble_eq_true rfl) (by unfold sp_slots; simp only [Int32.lt_iff_toInt_lt, Int32.le_iff_toInt_le, Int32.reduceToInt, ← Int32.toInt_inj] at h7 h13 ⊢; first | omega | (split <;> first | rfl | (exfalso; omega)))
    · have h29 := bI_0 h12
      refine v_bipush hC dX11_paste_14 (v := (-2)) (by decide) ?_
      exact hR _ _ _ _ _ _ _ dX11_paste_16 rfl (Nat.le_of_ble_eq_true rfl) (Nat.le_of_ble_eq_true rfl) (by unfold sp_slots; simp only [Int32.lt_iff_toInt_lt, Int32.le_iff_toInt_le, Int32.reduceToInt, ← Int32.toInt_inj] at h7 h29 ⊢; first | omega | (split <;> first | rfl | (exfalso; omega)))
set_option maxRecDepth 100000 in
set_option maxHeartbeats 4000000 in
theorem x_lay {l : Launch} {E : Ez} {L : List Nat} {f : Nat → va_E} {he im la nl now np ns nw nwa sl t ta tr wa x : Nat} {gsl : Nat → Option Nat} {a : Int32} {b : Int32} (m_x : x ∈ L) (e_x : f x = ob 11 [.ref t, .ref now, .ref im, .ref la, .ref sl, .ref np, .ref ns, .ref nw, .ref nwa, .ref nl, .ref he, .ref wa, .ref tr, .ref ta]) (m_sl : sl ∈ L) (e_sl : f sl = aR E 6 4 gsl) (psl : ∀ i : Nat, i < 4 → ∃ q s : Nat, gsl i = some q ∧ q ∈ L ∧ f q = ob 5 [.ref s, .int (-1), .int 0] ∧ s ∈ L ∧ f s = aJ E 60 (fun _ => 0)) : CI l yX11_lay cX11_lay 8 .int 1 0 0 E [.ref x, .int a, .int b] L f (fun r L1 f1 => sp_slots a b = r) := by
  refine ci_of (by decide) (Nat.le_of_ble_eq_true rfl) (fun z hz hnm hC hR => ?_)
  have hC : Cx z E cX11_lay RX11 8 1 0 0 := hC
  subst hz
  show V z E 8 0 0 L f 0 [(0, .ref x), (1, .int a), (2, .int b)] []
  refine v_iload_n hC dX11_lay_0 rfl ?_
  refine v_si hC (rest := []) mt_X11_isSlot (c_isSlot) mx_X11_isSlot ml_X11_353 (by decide) rfl (cells1 := 0) (slots1 := 0) (by decide) (by decide) (Nat.le_of_ble_eq_true rfl) (Nat.le_of_ble_eq_true rfl) rfl (Nat.le_of_ble_eq_true rfl) dX11_lay_1 (fun r1 L2 f3 h4 => ?_)
  obtain ⟨rfl, rfl, rfl⟩ := h4
  refine v_if_eq hC dX11_lay_4 (tgt := 14) (by decide) (fun h5 => ?_) (fun h5 => ?_)
  · have h6 := bI_0 h5
    refine v_bipush hC dX11_lay_14 (v := (-2)) (by decide) ?_
    exact hR _ _ _ _ _ _ _ dX11_lay_16 rfl (Nat.le_of_ble_eq_true rfl) (Nat.le_of_ble_eq_true rfl) (by unfold sp_slots; simp only [Int32.lt_iff_toInt_lt, Int32.le_iff_toInt_le, Int32.reduceToInt, ← Int32.toInt_inj] at h6 ⊢; first | omega | (split <;> first | rfl | (exfalso; omega)))
  · have h7 := bI_1 h5
    refine v_iload_n hC dX11_lay_7 rfl ?_
    refine v_si hC (rest := []) mt_X11_isCloth (c_isCloth) mx_X11_isCloth ml_X11_181 (by decide) rfl (cells1 := 0) (slots1 := 0) (by decide) (by decide) (Nat.le_of_ble_eq_true rfl) (Nat.le_of_ble_eq_true rfl) rfl (Nat.le_of_ble_eq_true rfl) dX11_lay_8 (fun r8 L9 f10 h11 => ?_)
    obtain ⟨rfl, rfl, rfl⟩ := h11
    refine v_if_ne hC dX11_lay_11 (tgt := 17) (by decide) (fun h12 => ?_) (fun h12 => ?_)
    · have h13 := bI_1 h12
      refine v_aload_n hC dX11_lay_17 rfl ?_
      refine v_get hC fl_X11_36 m_x e_x rfl dX11_lay_18 ?_
      refine v_iload_n hC dX11_lay_21 rfl ?_
      have hin18 : vp_in a 4 := vp_in_iff.mpr (by simp only [Int32.lt_iff_toInt_lt, Int32.le_iff_toInt_le, Int32.reduceToInt, ← Int32.toInt_inj] at h7 h13 ⊢; first | omega | (split <;> first | rfl | (exfalso; omega)))
      obtain ⟨j14, hj15, ej16⟩ := vp_in_of hin18 (by decide)
      obtain ⟨q17, s22, eg19, m20, e21, m23, e24⟩ := psl j14 hj15
      refine v_aald hC m_sl e_sl (t := 6) (Cn := "StitchSays$Slot") rfl hin18 (v := .ref q17) (by rw [ej16, nI_clamp (by omega), eg19]; rfl) dX11_lay_22 ?_
      refine v_vi hC (rest := []) m20 e21 rfl mi_X5_isThere ms_X5_isThere (a34_X5_isThere m20 e21) mx_X5_isThere ml_X11_359 (by decide) rfl (cells1 := 0) (slots1 := 0) (by decide) (by decide) (Nat.le_of_ble_eq_true rfl) (Nat.le_of_ble_eq_true rfl) rfl (Nat.le_of_ble_eq_true rfl) dX11_lay_23 (fun r25 L26 f27 h28 => ?_)
      obtain ⟨rfl, rfl, rfl⟩ := h28
      refine v_if_eq_t hC dX11_lay_26 (tgt := 37) (by decide) (by decide) ?_
      refine v_bipush hC dX11_lay_37 (v := (-6)) (by decide) ?_
      exact hR _ _ _ _ _ _ _ dX11_lay_39 rfl (Nat.le_of_ble_eq_true rfl) (Nat.le_of_ble_eq_true rfl) (by unfold sp_slots; simp only [Int32.lt_iff_toInt_lt, Int32.le_iff_toInt_le, Int32.reduceToInt, ← Int32.toInt_inj] at h7 h13 ⊢; first | omega | (split <;> first | rfl | (exfalso; omega)))
    · have h29 := bI_0 h12
      refine v_bipush hC dX11_lay_14 (v := (-2)) (by decide) ?_
      exact hR _ _ _ _ _ _ _ dX11_lay_16 rfl (Nat.le_of_ble_eq_true rfl) (Nat.le_of_ble_eq_true rfl) (by unfold sp_slots; simp only [Int32.lt_iff_toInt_lt, Int32.le_iff_toInt_le, Int32.reduceToInt, ← Int32.toInt_inj] at h7 h29 ⊢; first | omega | (split <;> first | rfl | (exfalso; omega)))
