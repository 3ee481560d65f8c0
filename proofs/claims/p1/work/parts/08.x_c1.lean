set_option maxRecDepth 100000 in
set_option maxHeartbeats 4000000 in
theorem x_carries {l : Launch} {E : Ez} {L : List Nat} {f : Nat → va_E} {cl he im la lo nl now np ns nw nwa pa paf pas sh sl t ta tr wa wt wy x : Nat} {k : Int32} {seed : Int32} {n : Int32} (m_x : x ∈ L) (e_x : f x = ob 11 [.ref t, .ref now, .ref im, .ref la, .ref sl, .ref np, .ref ns, .ref nw, .ref nwa, .ref nl, .ref he, .ref wa, .ref tr, .ref ta]) (m_now : now ∈ L) (e_now : f now = ob 0 [.ref pa, .ref sh, .ref wy, .ref wt, .ref lo, .ref cl]) (m_pa : pa ∈ L) (e_pa : f pa = ob 4 [.ref pas, .ref paf, .int 0, .int 0, .int 0]) : CI l yX11_carries cX11_carries 6 .int 1 0 0 E [.ref x, .int k, .int seed, .int n] L f (fun r L1 f1 => sp_carries k seed n = r) := by
  refine ci_of (by decide) (Nat.le_of_ble_eq_true rfl) (fun z hz hnm hC hR => ?_)
  have hC : Cx z E cX11_carries RX11 6 1 0 0 := hC
  subst hz
  show V z E 6 0 0 L f 0 [(0, .ref x), (1, .int k), (2, .int seed), (3, .int n)] []
  refine v_iload_n hC dX11_carries_0 rfl ?_
  refine v_si hC (rest := []) mt_X11_isWay (c_isWay) mx_X11_isWay ml_X11_142 (by decide) rfl (cells1 := 0) (slots1 := 0) (by decide) (by decide) (Nat.le_of_ble_eq_true rfl) (Nat.le_of_ble_eq_true rfl) rfl (Nat.le_of_ble_eq_true rfl) dX11_carries_1 (fun r_1 L_2 f_3 h_4 => ?_)
  obtain ⟨rfl, rfl, rfl⟩ := h_4
  refine v_if_eq hC dX11_carries_4 (tgt := 21) (by decide) (fun h_5 => ?_) (fun h_5 => ?_)
  · have h_6 := bI_0 h_5
    refine v_bipush hC dX11_carries_21 (v := (-2)) (by decide) ?_
    exact hR _ _ _ _ _ _ _ dX11_carries_23 rfl (Nat.le_of_ble_eq_true rfl) (Nat.le_of_ble_eq_true rfl) (by unfold sp_carries; simp only [Int32.lt_iff_toInt_lt, Int32.le_iff_toInt_le, Int32.reduceToInt, ← Int32.toInt_inj] at h_6 ⊢; first | omega | (split <;> first | rfl | (exfalso; omega)))
  · have h_7 := bI_1 h_5
    refine v_iload_n hC dX11_carries_7 rfl ?_
    refine v_si hC (rest := []) mt_X11_isSeed (c_isSeed) mx_X11_isSeed ml_X11_184 (by decide) rfl (cells1 := 0) (slots1 := 0) (by decide) (by decide) (Nat.le_of_ble_eq_true rfl) (Nat.le_of_ble_eq_true rfl) rfl (Nat.le_of_ble_eq_true rfl) dX11_carries_8 (fun r_8 L_9 f_10 h_11 => ?_)
    obtain ⟨rfl, rfl, rfl⟩ := h_11
    refine v_if_eq hC dX11_carries_11 (tgt := 21) (by decide) (fun h_12 => ?_) (fun h_12 => ?_)
    · have h_13 := bI_0 h_12
      refine v_bipush hC dX11_carries_21 (v := (-2)) (by decide) ?_
      exact hR _ _ _ _ _ _ _ dX11_carries_23 rfl (Nat.le_of_ble_eq_true rfl) (Nat.le_of_ble_eq_true rfl) (by unfold sp_carries; simp only [Int32.lt_iff_toInt_lt, Int32.le_iff_toInt_le, Int32.reduceToInt, ← Int32.toInt_inj] at h_7 h_13 ⊢; first | omega | (split <;> first | rfl | (exfalso; omega)))
    · have h_14 := bI_1 h_12
      refine v_iload_n hC dX11_carries_14 rfl ?_
      refine v_si hC (rest := []) mt_X11_isManyKnitted (c_isMany) mx_X11_isManyKnitted ml_X11_276 (by decide) rfl (cells1 := 0) (slots1 := 0) (by decide) (by decide) (Nat.le_of_ble_eq_true rfl) (Nat.le_of_ble_eq_true rfl) rfl (Nat.le_of_ble_eq_true rfl) dX11_carries_15 (fun r_15 L_16 f_17 h_18 => ?_)
      obtain ⟨rfl, rfl, rfl⟩ := h_18
      refine v_if_ne hC dX11_carries_18 (tgt := 24) (by decide) (fun h_19 => ?_) (fun h_19 => ?_)
      · have h_20 := bI_1 h_19
        refine v_aload_n hC dX11_carries_24 rfl ?_
        refine v_get hC fl_X11_19 m_x e_x rfl dX11_carries_25 ?_
        refine v_getN hC fn_X11_116 m_now e_now rfl dX11_carries_28 ?_
        refine v_vi hC (rest := []) m_pa e_pa rfl mi_X4_isThere ms_X4_isThere (a26_X4_isThere m_pa e_pa) mx_X4_isThere ml_X11_187 (by decide) rfl (cells1 := 0) (slots1 := 0) (by decide) (by decide) (Nat.le_of_ble_eq_true rfl) (Nat.le_of_ble_eq_true rfl) rfl (Nat.le_of_ble_eq_true rfl) dX11_carries_31 (fun r_21 L_22 f_23 h_24 => ?_)
        obtain ⟨rfl, rfl, rfl⟩ := h_24
        refine v_if_eq_t hC dX11_carries_34 (tgt := 52) (by decide) (by decide) ?_
        refine v_bipush hC dX11_carries_52 (v := (-6)) (by decide) ?_
        exact hR _ _ _ _ _ _ _ dX11_carries_54 rfl (Nat.le_of_ble_eq_true rfl) (Nat.le_of_ble_eq_true rfl) (by unfold sp_carries; simp only [Int32.lt_iff_toInt_lt, Int32.le_iff_toInt_le, Int32.reduceToInt, ← Int32.toInt_inj] at h_7 h_14 h_20 ⊢; first | omega | (split <;> first | rfl | (exfalso; omega)))
      · have h_25 := bI_0 h_19
        refine v_bipush hC dX11_carries_21 (v := (-2)) (by decide) ?_
        exact hR _ _ _ _ _ _ _ dX11_carries_23 rfl (Nat.le_of_ble_eq_true rfl) (Nat.le_of_ble_eq_true rfl) (by unfold sp_carries; simp only [Int32.lt_iff_toInt_lt, Int32.le_iff_toInt_le, Int32.reduceToInt, ← Int32.toInt_inj] at h_7 h_14 h_25 ⊢; first | omega | (split <;> first | rfl | (exfalso; omega)))
set_option maxRecDepth 100000 in
set_option maxHeartbeats 4000000 in
theorem x_same {l : Launch} {E : Ez} {L : List Nat} {f : Nat → va_E} {cl he im la lo nl now np ns nw nwa pa sh sl t ta tr wa wt wy x : Nat} {gcl : Nat → Option Nat} {c : Int32} {d : Int32} {k : Int32} (m_x : x ∈ L) (e_x : f x = ob 11 [.ref t, .ref now, .ref im, .ref la, .ref sl, .ref np, .ref ns, .ref nw, .ref nwa, .ref nl, .ref he, .ref wa, .ref tr, .ref ta]) (m_now : now ∈ L) (e_now : f now = ob 0 [.ref pa, .ref sh, .ref wy, .ref wt, .ref lo, .ref cl]) (m_cl : cl ∈ L) (e_cl : f cl = aR E 5 4 gcl) (pcl : ∀ i : Nat, i < 4 → ∃ q s : Nat, gcl i = some q ∧ q ∈ L ∧ f q = ob 1 [.ref s, .int 0]) : CI l yX11_same cX11_same 7 .int 2 0 0 E [.ref x, .int c, .int d, .int k] L f (fun r L1 f1 => sp_same c d k = r) := by
  refine ci_of (by decide) (Nat.le_of_ble_eq_true rfl) (fun z hz hnm hC hR => ?_)
  have hC : Cx z E cX11_same RX11 7 2 0 0 := hC
  subst hz
  show V z E 7 0 0 L f 0 [(0, .ref x), (1, .int c), (2, .int d), (3, .int k)] []
  refine v_iload_n hC dX11_same_0 rfl ?_
  refine v_si hC (rest := []) mt_X11_isCloth (c_isCloth) mx_X11_isCloth ml_X11_181 (by decide) rfl (cells1 := 0) (slots1 := 0) (by decide) (by decide) (Nat.le_of_ble_eq_true rfl) (Nat.le_of_ble_eq_true rfl) rfl (Nat.le_of_ble_eq_true rfl) dX11_same_1 (fun r_1 L_2 f_3 h_4 => ?_)
  obtain ⟨rfl, rfl, rfl⟩ := h_4
  refine v_if_eq hC dX11_same_4 (tgt := 21) (by decide) (fun h_5 => ?_) (fun h_5 => ?_)
  · have h_6 := bI_0 h_5
    refine v_bipush hC dX11_same_21 (v := (-2)) (by decide) ?_
    exact hR _ _ _ _ _ _ _ dX11_same_23 rfl (Nat.le_of_ble_eq_true rfl) (Nat.le_of_ble_eq_true rfl) (by unfold sp_same; simp only [Int32.lt_iff_toInt_lt, Int32.le_iff_toInt_le, Int32.reduceToInt, ← Int32.toInt_inj] at h_6 ⊢; first | omega | (split <;> first | rfl | (exfalso; omega)))
  · have h_7 := bI_1 h_5
    refine v_iload_n hC dX11_same_7 rfl ?_
    refine v_si hC (rest := []) mt_X11_isCloth (c_isCloth) mx_X11_isCloth ml_X11_181 (by decide) rfl (cells1 := 0) (slots1 := 0) (by decide) (by decide) (Nat.le_of_ble_eq_true rfl) (Nat.le_of_ble_eq_true rfl) rfl (Nat.le_of_ble_eq_true rfl) dX11_same_8 (fun r_8 L_9 f_10 h_11 => ?_)
    obtain ⟨rfl, rfl, rfl⟩ := h_11
    refine v_if_eq hC dX11_same_11 (tgt := 21) (by decide) (fun h_12 => ?_) (fun h_12 => ?_)
    · have h_13 := bI_0 h_12
      refine v_bipush hC dX11_same_21 (v := (-2)) (by decide) ?_
      exact hR _ _ _ _ _ _ _ dX11_same_23 rfl (Nat.le_of_ble_eq_true rfl) (Nat.le_of_ble_eq_true rfl) (by unfold sp_same; simp only [Int32.lt_iff_toInt_lt, Int32.le_iff_toInt_le, Int32.reduceToInt, ← Int32.toInt_inj] at h_7 h_13 ⊢; first | omega | (split <;> first | rfl | (exfalso; omega)))
    · have h_14 := bI_1 h_12
      refine v_iload_n hC dX11_same_14 rfl ?_
      refine v_si hC (rest := []) mt_X11_isWay (c_isWay) mx_X11_isWay ml_X11_142 (by decide) rfl (cells1 := 0) (slots1 := 0) (by decide) (by decide) (Nat.le_of_ble_eq_true rfl) (Nat.le_of_ble_eq_true rfl) rfl (Nat.le_of_ble_eq_true rfl) dX11_same_15 (fun r_15 L_16 f_17 h_18 => ?_)
      obtain ⟨rfl, rfl, rfl⟩ := h_18
      refine v_if_ne hC dX11_same_18 (tgt := 24) (by decide) (fun h_19 => ?_) (fun h_19 => ?_)
      · have h_20 := bI_1 h_19
        refine v_aload_n hC dX11_same_24 rfl ?_
        refine v_iload_n hC dX11_same_25 rfl ?_
        refine v_vi hC (rest := []) m_x e_x rfl mi_X11_hasCloth ms_X11_hasCloth (c_hasCloth m_x e_x m_now e_now m_cl e_cl pcl) mx_X11_hasCloth ml_X11_239 (by decide) rfl (cells1 := 0) (slots1 := 0) (by decide) (by decide) (Nat.le_of_ble_eq_true rfl) (Nat.le_of_ble_eq_true rfl) rfl (Nat.le_of_ble_eq_true rfl) dX11_same_26 (fun r_21 L_22 f_23 h_24 => ?_)
        obtain ⟨rfl, rfl, rfl⟩ := h_24
        refine v_if_eq_t hC dX11_same_29 (tgt := 55) (by decide) (by decide) ?_
        refine v_bipush hC dX11_same_55 (v := (-6)) (by decide) ?_
        exact hR _ _ _ _ _ _ _ dX11_same_57 rfl (Nat.le_of_ble_eq_true rfl) (Nat.le_of_ble_eq_true rfl) (by unfold sp_same; simp only [Int32.lt_iff_toInt_lt, Int32.le_iff_toInt_le, Int32.reduceToInt, ← Int32.toInt_inj] at h_7 h_14 h_20 ⊢; first | omega | (split <;> first | rfl | (exfalso; omega)))
      · have h_25 := bI_0 h_19
        refine v_bipush hC dX11_same_21 (v := (-2)) (by decide) ?_
        exact hR _ _ _ _ _ _ _ dX11_same_23 rfl (Nat.le_of_ble_eq_true rfl) (Nat.le_of_ble_eq_true rfl) (by unfold sp_same; simp only [Int32.lt_iff_toInt_lt, Int32.le_iff_toInt_le, Int32.reduceToInt, ← Int32.toInt_inj] at h_7 h_14 h_25 ⊢; first | omega | (split <;> first | rfl | (exfalso; omega)))
set_option maxRecDepth 100000 in
set_option maxHeartbeats 4000000 in
theorem x_back {l : Launch} {E : Ez} {L : List Nat} {f : Nat → va_E} {he im la nl now np ns nw nwa sl t ta tr wa x : Nat} {k : Int32} (m_x : x ∈ L) (e_x : f x = ob 11 [.ref t, .ref now, .ref im, .ref la, .ref sl, .ref np, .ref ns, .ref nw, .ref nwa, .ref nl, .ref he, .ref wa, .ref tr, .ref ta]) (m_im : im ∈ L) (e_im : f im = aR E 4 3 (fun _ => none)) : CI l yX11_back cX11_back 2 .int 0 0 0 E [.ref x, .int k] L f (fun r L1 f1 => sp_back k = r) := by
  refine ci_of (by decide) (Nat.le_of_ble_eq_true rfl) (fun z hz hnm hC hR => ?_)
  have hC : Cx z E cX11_back RX11 2 0 0 0 := hC
  subst hz
  show V z E 2 0 0 L f 0 [(0, .ref x), (1, .int k)] []
  refine v_iload_n hC dX11_back_0 rfl ?_
  refine v_if_lt hC dX11_back_1 (tgt := 9) (by decide) (fun h_1 => ?_) (fun h_1 => ?_)
  · refine v_bipush hC dX11_back_9 (v := (-2)) (by decide) ?_
    exact hR _ _ _ _ _ _ _ dX11_back_11 rfl (Nat.le_of_ble_eq_true rfl) (Nat.le_of_ble_eq_true rfl) (by unfold sp_back; simp only [Int32.lt_iff_toInt_lt, Int32.le_iff_toInt_le, Int32.reduceToInt, ← Int32.toInt_inj] at h_1 ⊢; first | omega | (split <;> first | rfl | (exfalso; omega)))
  · refine v_iload_n hC dX11_back_4 rfl ?_
    refine v_iconst hC dX11_back_5 (v := 3) (by decide) ?_
    refine v_icmp_lt hC dX11_back_6 (tgt := 12) (by decide) (fun h_2 => ?_) (fun h_2 => ?_)
    · refine v_aload_n hC dX11_back_12 rfl ?_
      refine v_get hC fl_X11_23 m_x e_x rfl dX11_back_13 ?_
      refine v_iload_n hC dX11_back_16 rfl ?_
      have hin_3 : vp_in k 3 := vp_in_iff.mpr (by simp only [Int32.lt_iff_toInt_lt, Int32.le_iff_toInt_le, Int32.reduceToInt, ← Int32.toInt_inj] at h_1 h_2 ⊢; first | omega | (split <;> first | rfl | (exfalso; omega)))
      refine v_aald hC m_im e_im (t := 4) (Cn := "StitchSays$Basket") rfl hin_3 (v := .null) rfl dX11_back_17 ?_
      refine v_ifnonnullN hC dX11_back_18 ?_
      refine v_bipush hC dX11_back_21 (v := (-6)) (by decide) ?_
      exact hR _ _ _ _ _ _ _ dX11_back_23 rfl (Nat.le_of_ble_eq_true rfl) (Nat.le_of_ble_eq_true rfl) (by unfold sp_back; simp only [Int32.lt_iff_toInt_lt, Int32.le_iff_toInt_le, Int32.reduceToInt, ← Int32.toInt_inj] at h_1 h_2 ⊢; first | omega | (split <;> first | rfl | (exfalso; omega)))
    · refine v_bipush hC dX11_back_9 (v := (-2)) (by decide) ?_
      exact hR _ _ _ _ _ _ _ dX11_back_11 rfl (Nat.le_of_ble_eq_true rfl) (Nat.le_of_ble_eq_true rfl) (by unfold sp_back; simp only [Int32.lt_iff_toInt_lt, Int32.le_iff_toInt_le, Int32.reduceToInt, ← Int32.toInt_inj] at h_1 h_2 ⊢; first | omega | (split <;> first | rfl | (exfalso; omega)))
set_option maxRecDepth 100000 in
set_option maxHeartbeats 4000000 in
theorem a34_X5_isThere {l : Launch} {E : Ez} {L : List Nat} {f : Nat → va_E} {aa_0 aa_1 : Nat} (m_aa_0 : aa_0 ∈ L) (e_aa_0 : f aa_0 = ob 5 [.ref aa_1, .int (-1), .int 0]) : CI l yX5_isThere cX5_isThere 1 .boolean 0 0 0 E [.ref aa_0] L f (fun r L1 f1 => 0 = r ∧ L = L1 ∧ f = f1) := by
  refine ci_of (by decide) (Nat.le_of_ble_eq_true rfl) (fun z hz hnm hC hR => ?_)
  have hC : Cx z E cX5_isThere RX5 1 0 0 0 := hC
  subst hz
  show V z E 1 0 0 L f 0 [(0, .ref aa_0)] []
  refine v_aload_n hC dX5_isThere_0 rfl ?_
  refine v_get hC fl_X5_15 m_aa_0 e_aa_0 rfl dX5_isThere_1 ?_
  refine v_iconst hC dX5_isThere_4 (v := (-1)) (by decide) ?_
  refine v_icmp_eq_t hC dX5_isThere_5 (tgt := 12) (by decide) (by decide) ?_
  refine v_iconst hC dX5_isThere_12 (v := 0) (by decide) ?_
  exact hR _ _ _ _ _ _ _ dX5_isThere_13 rfl (Nat.le_of_ble_eq_true rfl) (Nat.le_of_ble_eq_true rfl) ⟨rfl, rfl, rfl⟩
set_option maxRecDepth 100000 in
set_option maxHeartbeats 4000000 in
theorem x_write {l : Launch} {E : Ez} {L : List Nat} {f : Nat → va_E} {he im la nl now np ns nw nwa sl t ta tr wa x : Nat} {gsl : Nat → Option Nat} {a : Int32} {i : Int32} {v : Int64} (m_x : x ∈ L) (e_x : f x = ob 11 [.ref t, .ref now, .ref im, .ref la, .ref sl, .ref np, .ref ns, .ref nw, .ref nwa, .ref nl, .ref he, .ref wa, .ref tr, .ref ta]) (m_sl : sl ∈ L) (e_sl : f sl = aR E 6 4 gsl) (psl : ∀ i : Nat, i < 4 → ∃ q s : Nat, gsl i = some q ∧ q ∈ L ∧ f q = ob 5 [.ref s, .int (-1), .int 0] ∧ s ∈ L ∧ f s = aJ E 60 (fun _ => 0)) : CI l yX11_write cX11_write 5 .int 1 0 0 E [.ref x, .int a, .int i, .long v] L f (fun r L1 f1 => sp_slot a = r) := by
  refine ci_of (by decide) (Nat.le_of_ble_eq_true rfl) (fun z hz hnm hC hR => ?_)
  have hC : Cx z E cX11_write RX11 5 1 0 0 := hC
  subst hz
  show V z E 5 0 0 L f 0 [(0, .ref x), (1, .int a), (2, .int i), (3, .long v)] []
  refine v_iload_n hC dX11_write_0 rfl ?_
  refine v_si hC (rest := []) mt_X11_isSlot (c_isSlot) mx_X11_isSlot ml_X11_353 (by decide) rfl (cells1 := 0) (slots1 := 0) (by decide) (by decide) (Nat.le_of_ble_eq_true rfl) (Nat.le_of_ble_eq_true rfl) rfl (Nat.le_of_ble_eq_true rfl) dX11_write_1 (fun r_1 L_2 f_3 h_4 => ?_)
  obtain ⟨rfl, rfl, rfl⟩ := h_4
  refine v_if_ne hC dX11_write_4 (tgt := 10) (by decide) (fun h_5 => ?_) (fun h_5 => ?_)
  · have h_6 := bI_1 h_5
    refine v_aload_n hC dX11_write_10 rfl ?_
    refine v_get hC fl_X11_36 m_x e_x rfl dX11_write_11 ?_
    refine v_iload_n hC dX11_write_14 rfl ?_
    have hin_11 : vp_in a 4 := vp_in_iff.mpr (by simp only [Int32.lt_iff_toInt_lt, Int32.le_iff_toInt_le, Int32.reduceToInt, ← Int32.toInt_inj] at h_6 ⊢; first | omega | (split <;> first | rfl | (exfalso; omega)))
    obtain ⟨j_7, hj_8, ej_9⟩ := vp_in_of hin_11 (by decide)
    obtain ⟨q_10, s_15, eg_12, m_13, e_14, m_16, e_17⟩ := psl j_7 hj_8
    refine v_aald hC m_sl e_sl (t := 6) (Cn := "StitchSays$Slot") rfl hin_11 (v := .ref q_10) (by rw [ej_9, nI_clamp (by omega), eg_12]; rfl) dX11_write_15 ?_
    refine v_vi hC (rest := []) m_13 e_14 rfl mi_X5_isThere ms_X5_isThere (a34_X5_isThere m_13 e_14) mx_X5_isThere ml_X11_359 (by decide) rfl (cells1 := 0) (slots1 := 0) (by decide) (by decide) (Nat.le_of_ble_eq_true rfl) (Nat.le_of_ble_eq_true rfl) rfl (Nat.le_of_ble_eq_true rfl) dX11_write_16 (fun r_18 L_19 f_20 h_21 => ?_)
    obtain ⟨rfl, rfl, rfl⟩ := h_21
    refine v_if_ne_f hC dX11_write_19 (tgt := 25) (by decide) (by decide) ?_
    refine v_bipush hC dX11_write_22 (v := (-6)) (by decide) ?_
    exact hR _ _ _ _ _ _ _ dX11_write_24 rfl (Nat.le_of_ble_eq_true rfl) (Nat.le_of_ble_eq_true rfl) (by unfold sp_slot; simp only [Int32.lt_iff_toInt_lt, Int32.le_iff_toInt_le, Int32.reduceToInt, ← Int32.toInt_inj] at h_6 ⊢; first | omega | (split <;> first | rfl | (exfalso; omega)))
  · have h_22 := bI_0 h_5
    refine v_bipush hC dX11_write_7 (v := (-2)) (by decide) ?_
    exact hR _ _ _ _ _ _ _ dX11_write_9 rfl (Nat.le_of_ble_eq_true rfl) (Nat.le_of_ble_eq_true rfl) (by unfold sp_slot; simp only [Int32.lt_iff_toInt_lt, Int32.le_iff_toInt_le, Int32.reduceToInt, ← Int32.toInt_inj] at h_22 ⊢; first | omega | (split <;> first | rfl | (exfalso; omega)))
set_option maxRecDepth 100000 in
set_option maxHeartbeats 4000000 in
theorem x_paste {l : Launch} {E : Ez} {L : List Nat} {f : Nat → va_E} {he im la nl now np ns nw nwa sl t ta tr wa x : Nat} {gsl : Nat → Option Nat} {a : Int32} {i : Int32} {b : Int32} {k : Int32} {n : Int32} (m_x : x ∈ L) (e_x : f x = ob 11 [.ref t, .ref now, .ref im, .ref la, .ref sl, .ref np, .ref ns, .ref nw, .ref nwa, .ref nl, .ref he, .ref wa, .ref tr, .ref ta]) (m_sl : sl ∈ L) (e_sl : f sl = aR E 6 4 gsl) (psl : ∀ i : Nat, i < 4 → ∃ q s : Nat, gsl i = some q ∧ q ∈ L ∧ f q = ob 5 [.ref s, .int (-1), .int 0] ∧ s ∈ L ∧ f s = aJ E 60 (fun _ => 0)) : CI l yX11_paste cX11_paste 6 .int 1 0 0 E [.ref x, .int a, .int i, .int b, .int k, .int n] L f (fun r L1 f1 => sp_slots a b = r) := by
  refine ci_of (by decide) (Nat.le_of_ble_eq_true rfl) (fun z hz hnm hC hR => ?_)
  have hC : Cx z E cX11_paste RX11 6 1 0 0 := hC
  subst hz
  show V z E 6 0 0 L f 0 [(0, .ref x), (1, .int a), (2, .int i), (3, .int b), (4, .int k), (5, .int n)] []
  refine v_iload_n hC dX11_paste_0 rfl ?_
  refine v_si hC (rest := []) mt_X11_isSlot (c_isSlot) mx_X11_isSlot ml_X11_353 (by decide) rfl (cells1 := 0) (slots1 := 0) (by decide) (by decide) (Nat.le_of_ble_eq_true rfl) (Nat.le_of_ble_eq_true rfl) rfl (Nat.le_of_ble_eq_true rfl) dX11_paste_1 (fun r_1 L_2 f_3 h_4 => ?_)
  obtain ⟨rfl, rfl, rfl⟩ := h_4
  refine v_if_eq hC dX11_paste_4 (tgt := 14) (by decide) (fun h_5 => ?_) (fun h_5 => ?_)
  · have h_6 := bI_0 h_5
    refine v_bipush hC dX11_paste_14 (v := (-2)) (by decide) ?_
    exact hR _ _ _ _ _ _ _ dX11_paste_16 rfl (Nat.le_of_ble_eq_true rfl) (Nat.le_of_ble_eq_true rfl) (by unfold sp_slots; simp only [Int32.lt_iff_toInt_lt, Int32.le_iff_toInt_le, Int32.reduceToInt, ← Int32.toInt_inj] at h_6 ⊢; first | omega | (split <;> first | rfl | (exfalso; omega)))
  · have h_7 := bI_1 h_5
    refine v_iload_n hC dX11_paste_7 rfl ?_
    refine v_si hC (rest := []) mt_X11_isSlot (c_isSlot) mx_X11_isSlot ml_X11_353 (by decide) rfl (cells1 := 0) (slots1 := 0) (by decide) (by decide) (Nat.le_of_ble_eq_true rfl) (Nat.le_of_ble_eq_true rfl) rfl (Nat.le_of_ble_eq_true rfl) dX11_paste_8 (fun r_8 L_9 f_10 h_11 => ?_)
    obtain ⟨rfl, rfl, rfl⟩ := h_11
    refine v_if_ne hC dX11_paste_11 (tgt := 17) (by decide) (fun h_12 => ?_) (fun h_12 => ?_)
    · have h_13 := bI_1 h_12
      refine v_aload_n hC dX11_paste_17 rfl ?_
      refine v_get hC fl_X11_36 m_x e_x rfl dX11_paste_18 ?_
      refine v_iload_n hC dX11_paste_21 rfl ?_
      have hin_18 : vp_in a 4 := vp_in_iff.mpr (by simp only [Int32.lt_iff_toInt_lt, Int32.le_iff_toInt_le, Int32.reduceToInt, ← Int32.toInt_inj] at h_7 h_13 ⊢; first | omega | (split <;> first | rfl | (exfalso; omega)))
      obtain ⟨j_14, hj_15, ej_16⟩ := vp_in_of hin_18 (by decide)
      obtain ⟨q_17, s_22, eg_19, m_20, e_21, m_23, e_24⟩ := psl j_14 hj_15
      refine v_aald hC m_sl e_sl (t := 6) (Cn := "StitchSays$Slot") rfl hin_18 (v := .ref q_17) (by rw [ej_16, nI_clamp (by omega), eg_19]; rfl) dX11_paste_22 ?_
      refine v_vi hC (rest := []) m_20 e_21 rfl mi_X5_isThere ms_X5_isThere (a34_X5_isThere m_20 e_21) mx_X5_isThere ml_X11_359 (by decide) rfl (cells1 := 0) (slots1 := 0) (by decide) (by decide) (Nat.le_of_ble_eq_true rfl) (Nat.le_of_ble_eq_true rfl) rfl (Nat.le_of_ble_eq_true rfl) dX11_paste_23 (fun r_25 L_26 f_27 h_28 => ?_)
      obtain ⟨rfl, rfl, rfl⟩ := h_28
      refine v_if_eq_t hC dX11_paste_26 (tgt := 41) (by decide) (by decide) ?_
      refine v_bipush hC dX11_paste_41 (v := (-6)) (by decide) ?_
      exact hR _ _ _ _ _ _ _ dX11_paste_43 rfl (Nat.le_of_ble_eq_true rfl) (Nat.le_of_ble_eq_true rfl) (by unfold sp_slots; simp only [Int32.lt_iff_toInt_lt, Int32.le_iff_toInt_le, Int32.reduceToInt, ← Int32.toInt_inj] at h_7 h_13 ⊢; first | omega | (split <;> first | rfl | (exfalso; omega)))
    · have h_29 := bI_0 h_12
      refine v_bipush hC dX11_paste_14 (v := (-2)) (by decide) ?_
      exact hR _ _ _ _ _ _ _ dX11_paste_16 rfl (Nat.le_of_ble_eq_true rfl) (Nat.le_of_ble_eq_true rfl) (by unfold sp_slots; simp only [Int32.lt_iff_toInt_lt, Int32.le_iff_toInt_le, Int32.reduceToInt, ← Int32.toInt_inj] at h_7 h_29 ⊢; first | omega | (split <;> first | rfl | (exfalso; omega)))
set_option maxRecDepth 100000 in
set_option maxHeartbeats 4000000 in
theorem x_lay {l : Launch} {E : Ez} {L : List Nat} {f : Nat → va_E} {he im la nl now np ns nw nwa sl t ta tr wa x : Nat} {gsl : Nat → Option Nat} {a : Int32} {b : Int32} (m_x : x ∈ L) (e_x : f x = ob 11 [.ref t, .ref now, .ref im, .ref la, .ref sl, .ref np, .ref ns, .ref nw, .ref nwa, .ref nl, .ref he, .ref wa, .ref tr, .ref ta]) (m_sl : sl ∈ L) (e_sl : f sl = aR E 6 4 gsl) (psl : ∀ i : Nat, i < 4 → ∃ q s : Nat, gsl i = some q ∧ q ∈ L ∧ f q = ob 5 [.ref s, .int (-1), .int 0] ∧ s ∈ L ∧ f s = aJ E 60 (fun _ => 0)) : CI l yX11_lay cX11_lay 8 .int 1 0 0 E [.ref x, .int a, .int b] L f (fun r L1 f1 => sp_slots a b = r) := by
  refine ci_of (by decide) (Nat.le_of_ble_eq_true rfl) (fun z hz hnm hC hR => ?_)
  have hC : Cx z E cX11_lay RX11 8 1 0 0 := hC
  subst hz
  show V z E 8 0 0 L f 0 [(0, .ref x), (1, .int a), (2, .int b)] []
  refine v_iload_n hC dX11_lay_0 rfl ?_
  refine v_si hC (rest := []) mt_X11_isSlot (c_isSlot) mx_X11_isSlot ml_X11_353 (by decide) rfl (cells1 := 0) (slots1 := 0) (by decide) (by decide) (Nat.le_of_ble_eq_true rfl) (Nat.le_of_ble_eq_true rfl) rfl (Nat.le_of_ble_eq_true rfl) dX11_lay_1 (fun r_1 L_2 f_3 h_4 => ?_)
  obtain ⟨rfl, rfl, rfl⟩ := h_4
  refine v_if_eq hC dX11_lay_4 (tgt := 14) (by decide) (fun h_5 => ?_) (fun h_5 => ?_)
  · have h_6 := bI_0 h_5
    refine v_bipush hC dX11_lay_14 (v := (-2)) (by decide) ?_
    exact hR _ _ _ _ _ _ _ dX11_lay_16 rfl (Nat.le_of_ble_eq_true rfl) (Nat.le_of_ble_eq_true rfl) (by unfold sp_slots; simp only [Int32.lt_iff_toInt_lt, Int32.le_iff_toInt_le, Int32.reduceToInt, ← Int32.toInt_inj] at h_6 ⊢; first | omega | (split <;> first | rfl | (exfalso; omega)))
  · have h_7 := bI_1 h_5
    refine v_iload_n hC dX11_lay_7 rfl ?_
    refine v_si hC (rest := []) mt_X11_isCloth (c_isCloth) mx_X11_isCloth ml_X11_181 (by decide) rfl (cells1 := 0) (slots1 := 0) (by decide) (by decide) (Nat.le_of_ble_eq_true rfl) (Nat.le_of_ble_eq_true rfl) rfl (Nat.le_of_ble_eq_true rfl) dX11_lay_8 (fun r_8 L_9 f_10 h_11 => ?_)
    obtain ⟨rfl, rfl, rfl⟩ := h_11
    refine v_if_ne hC dX11_lay_11 (tgt := 17) (by decide) (fun h_12 => ?_) (fun h_12 => ?_)
    · have h_13 := bI_1 h_12
      refine v_aload_n hC dX11_lay_17 rfl ?_
      refine v_get hC fl_X11_36 m_x e_x rfl dX11_lay_18 ?_
      refine v_iload_n hC dX11_lay_21 rfl ?_
      have hin_18 : vp_in a 4 := vp_in_iff.mpr (by simp only [Int32.lt_iff_toInt_lt, Int32.le_iff_toInt_le, Int32.reduceToInt, ← Int32.toInt_inj] at h_7 h_13 ⊢; first | omega | (split <;> first | rfl | (exfalso; omega)))
      obtain ⟨j_14, hj_15, ej_16⟩ := vp_in_of hin_18 (by decide)
      obtain ⟨q_17, s_22, eg_19, m_20, e_21, m_23, e_24⟩ := psl j_14 hj_15
      refine v_aald hC m_sl e_sl (t := 6) (Cn := "StitchSays$Slot") rfl hin_18 (v := .ref q_17) (by rw [ej_16, nI_clamp (by omega), eg_19]; rfl) dX11_lay_22 ?_
      refine v_vi hC (rest := []) m_20 e_21 rfl mi_X5_isThere ms_X5_isThere (a34_X5_isThere m_20 e_21) mx_X5_isThere ml_X11_359 (by decide) rfl (cells1 := 0) (slots1 := 0) (by decide) (by decide) (Nat.le_of_ble_eq_true rfl) (Nat.le_of_ble_eq_true rfl) rfl (Nat.le_of_ble_eq_true rfl) dX11_lay_23 (fun r_25 L_26 f_27 h_28 => ?_)
      obtain ⟨rfl, rfl, rfl⟩ := h_28
      refine v_if_eq_t hC dX11_lay_26 (tgt := 37) (by decide) (by decide) ?_
      refine v_bipush hC dX11_lay_37 (v := (-6)) (by decide) ?_
      exact hR _ _ _ _ _ _ _ dX11_lay_39 rfl (Nat.le_of_ble_eq_true rfl) (Nat.le_of_ble_eq_true rfl) (by unfold sp_slots; simp only [Int32.lt_iff_toInt_lt, Int32.le_iff_toInt_le, Int32.reduceToInt, ← Int32.toInt_inj] at h_7 h_13 ⊢; first | omega | (split <;> first | rfl | (exfalso; omega)))
    · have h_29 := bI_0 h_12
      refine v_bipush hC dX11_lay_14 (v := (-2)) (by decide) ?_
      exact hR _ _ _ _ _ _ _ dX11_lay_16 rfl (Nat.le_of_ble_eq_true rfl) (Nat.le_of_ble_eq_true rfl) (by unfold sp_slots; simp only [Int32.lt_iff_toInt_lt, Int32.le_iff_toInt_le, Int32.reduceToInt, ← Int32.toInt_inj] at h_7 h_29 ⊢; first | omega | (split <;> first | rfl | (exfalso; omega)))
set_option maxRecDepth 100000 in
set_option maxHeartbeats 4000000 in
theorem a39_X2_fiveAt {l : Launch} {E : Ez} {L : List Nat} {f : Nat → va_E} {aa_0 aa_1 : Nat} {xx_0 : Int32} (m_aa_0 : aa_0 ∈ L) (e_aa_0 : f aa_0 = ob 2 [.ref aa_1, .int 0]) : CI l yX2_fiveAt cX2_fiveAt 2 .int 0 0 0 E [.ref aa_0, .int xx_0] L f (fun r L1 f1 => (-1) = r ∧ L = L1 ∧ f = f1) := by
  refine ci_of (by decide) (Nat.le_of_ble_eq_true rfl) (fun z hz hnm hC hR => ?_)
  have hC : Cx z E cX2_fiveAt RX2 2 0 0 0 := hC
  subst hz
  show V z E 2 0 0 L f 0 [(0, .ref aa_0), (1, .int xx_0)] []
  refine v_iload_n hC dX2_fiveAt_0 rfl ?_
  refine v_if_lt hC dX2_fiveAt_1 (tgt := 27) (by decide) (fun h_1 => ?_) (fun h_1 => ?_)
  · refine v_iconst hC dX2_fiveAt_27 (v := (-1)) (by decide) ?_
    exact hR _ _ _ _ _ _ _ dX2_fiveAt_28 rfl (Nat.le_of_ble_eq_true rfl) (Nat.le_of_ble_eq_true rfl) ⟨rfl, rfl, rfl⟩
  · refine v_iload_n hC dX2_fiveAt_4 rfl ?_
    refine v_aload_n hC dX2_fiveAt_5 rfl ?_
    refine v_get hC fl_X2_21 m_aa_0 e_aa_0 rfl dX2_fiveAt_6 ?_
    refine v_icmp_ge_t hC dX2_fiveAt_9 (tgt := 27) (by decide) (by simp only [Int32.lt_iff_toInt_lt, Int32.le_iff_toInt_le, Int32.reduceToInt, ← Int32.toInt_inj] at h_1 ⊢; omega) ?_
    refine v_iconst hC dX2_fiveAt_27 (v := (-1)) (by decide) ?_
    exact hR _ _ _ _ _ _ _ dX2_fiveAt_28 rfl (Nat.le_of_ble_eq_true rfl) (Nat.le_of_ble_eq_true rfl) ⟨rfl, rfl, rfl⟩
set_option maxRecDepth 100000 in
set_option maxHeartbeats 4000000 in
theorem a39_X2_byteOf {l : Launch} {E : Ez} {L : List Nat} {f : Nat → va_E} {aa_0 aa_1 : Nat} {xx_0 : Int32} (m_aa_0 : aa_0 ∈ L) (e_aa_0 : f aa_0 = ob 2 [.ref aa_1, .int 0]) : CI l yX2_byteOf cX2_byteOf 3 .int 1 0 0 E [.ref aa_0, .int xx_0] L f (fun r L1 f1 => (-1) = r ∧ L = L1 ∧ f = f1) := by
  refine ci_of (by decide) (Nat.le_of_ble_eq_true rfl) (fun z hz hnm hC hR => ?_)
  have hC : Cx z E cX2_byteOf RX2 3 1 0 0 := hC
  subst hz
  show V z E 3 0 0 L f 0 [(0, .ref aa_0), (1, .int xx_0)] []
  refine v_aload_n hC dX2_byteOf_0 rfl ?_
  refine v_iload_n hC dX2_byteOf_1 rfl ?_
  refine v_vi hC (rest := []) m_aa_0 e_aa_0 rfl mi_X2_fiveAt ms_X2_fiveAt (a39_X2_fiveAt m_aa_0 e_aa_0) mx_X2_fiveAt ml_X2_36 (by decide) rfl (cells1 := 0) (slots1 := 0) (by decide) (by decide) (Nat.le_of_ble_eq_true rfl) (Nat.le_of_ble_eq_true rfl) rfl (Nat.le_of_ble_eq_true rfl) dX2_byteOf_2 (fun r_1 L_2 f_3 h_4 => ?_)
  obtain ⟨rfl, rfl, rfl⟩ := h_4
  refine v_istore_n hC dX2_byteOf_5 (by decide) (lv' := [(2, .int (-1)), (0, .ref aa_0), (1, .int xx_0)]) rfl ?_
  refine v_iload_n hC dX2_byteOf_6 rfl ?_
  refine v_iconst hC dX2_byteOf_7 (v := (-1)) (by decide) ?_
  refine v_icmp_ne_f hC dX2_byteOf_8 (tgt := 13) (by decide) (by decide) ?_
  refine v_iconst hC dX2_byteOf_11 (v := (-1)) (by decide) ?_
  exact hR _ _ _ _ _ _ _ dX2_byteOf_12 rfl (Nat.le_of_ble_eq_true rfl) (Nat.le_of_ble_eq_true rfl) ⟨rfl, rfl, rfl⟩
set_option maxRecDepth 100000 in
set_option maxHeartbeats 4000000 in
theorem x_letter {l : Launch} {E : Ez} {L : List Nat} {f : Nat → va_E} {he im la lax nl now np ns nw nwa sl t ta tr wa x : Nat} {i : Int32} (m_x : x ∈ L) (e_x : f x = ob 11 [.ref t, .ref now, .ref im, .ref la, .ref sl, .ref np, .ref ns, .ref nw, .ref nwa, .ref nl, .ref he, .ref wa, .ref tr, .ref ta]) (m_la : la ∈ L) (e_la : f la = ob 2 [.ref lax, .int 0]) : CI l yX11_letter cX11_letter 2 .int 2 0 0 E [.ref x, .int i] L f (fun r L1 f1 => (-1 : Int32) = r) := by
  refine ci_of (by decide) (Nat.le_of_ble_eq_true rfl) (fun z hz hnm hC hR => ?_)
  have hC : Cx z E cX11_letter RX11 2 2 0 0 := hC
  subst hz
  show V z E 2 0 0 L f 0 [(0, .ref x), (1, .int i)] []
  refine v_aload_n hC dX11_letter_0 rfl ?_
  refine v_get hC fl_X11_30 m_x e_x rfl dX11_letter_1 ?_
  refine v_iload_n hC dX11_letter_4 rfl ?_
  refine v_vi hC (rest := []) m_la e_la rfl mi_X2_byteOf ms_X2_byteOf (a39_X2_byteOf m_la e_la) mx_X2_byteOf ml_X11_214 (by decide) rfl (cells1 := 0) (slots1 := 0) (by decide) (by decide) (Nat.le_of_ble_eq_true rfl) (Nat.le_of_ble_eq_true rfl) rfl (Nat.le_of_ble_eq_true rfl) dX11_letter_5 (fun r_1 L_2 f_3 h_4 => ?_)
  obtain ⟨rfl, rfl, rfl⟩ := h_4
  exact hR _ _ _ _ _ _ _ dX11_letter_8 rfl (Nat.le_of_ble_eq_true rfl) (Nat.le_of_ble_eq_true rfl) rfl
set_option maxRecDepth 100000 in
set_option maxHeartbeats 4000000 in
theorem a44_X4_placeOf {l : Launch} {E : Ez} {L : List Nat} {f : Nat → va_E} {aa_0 aa_1 aa_2 : Nat} {xx_0 : Int32} {xx_1 : Int32} (m_aa_0 : aa_0 ∈ L) (e_aa_0 : f aa_0 = ob 4 [.ref aa_1, .ref aa_2, .int 0, .int 0, .int 0]) : CI l yX4_placeOf cX4_placeOf 3 .int 0 0 0 E [.ref aa_0, .int xx_0, .int xx_1] L f (fun r L1 f1 => (-1) = r ∧ L = L1 ∧ f = f1) := by
  refine ci_of (by decide) (Nat.le_of_ble_eq_true rfl) (fun z hz hnm hC hR => ?_)
  have hC : Cx z E cX4_placeOf RX4 3 0 0 0 := hC
  subst hz
  show V z E 3 0 0 L f 0 [(0, .ref aa_0), (1, .int xx_0), (2, .int xx_1)] []
  refine v_iload_n hC dX4_placeOf_0 rfl ?_
  refine v_if_lt hC dX4_placeOf_1 (tgt := 24) (by decide) (fun h_1 => ?_) (fun h_1 => ?_)
  · refine v_iconst hC dX4_placeOf_24 (v := (-1)) (by decide) ?_
    exact hR _ _ _ _ _ _ _ dX4_placeOf_25 rfl (Nat.le_of_ble_eq_true rfl) (Nat.le_of_ble_eq_true rfl) ⟨rfl, rfl, rfl⟩
  · refine v_iload_n hC dX4_placeOf_4 rfl ?_
    refine v_aload_n hC dX4_placeOf_5 rfl ?_
    refine v_get hC fl_X4_18 m_aa_0 e_aa_0 rfl dX4_placeOf_6 ?_
    refine v_icmp_ge_t hC dX4_placeOf_9 (tgt := 24) (by decide) (by simp only [Int32.lt_iff_toInt_lt, Int32.le_iff_toInt_le, Int32.reduceToInt, ← Int32.toInt_inj] at h_1 ⊢; omega) ?_
    refine v_iconst hC dX4_placeOf_24 (v := (-1)) (by decide) ?_
    exact hR _ _ _ _ _ _ _ dX4_placeOf_25 rfl (Nat.le_of_ble_eq_true rfl) (Nat.le_of_ble_eq_true rfl) ⟨rfl, rfl, rfl⟩
set_option maxRecDepth 100000 in
set_option maxHeartbeats 4000000 in
theorem a46_X4_sortAt {l : Launch} {E : Ez} {L : List Nat} {f : Nat → va_E} {aa_0 : Nat}  : CI l yX4_sortAt cX4_sortAt 2 .int 0 0 0 E [.ref aa_0, .int (-1)] L f (fun r L1 f1 => (-1) = r ∧ L = L1 ∧ f = f1) := by
  refine ci_of (by decide) (Nat.le_of_ble_eq_true rfl) (fun z hz hnm hC hR => ?_)
  have hC : Cx z E cX4_sortAt RX4 2 0 0 0 := hC
  subst hz
  show V z E 2 0 0 L f 0 [(0, .ref aa_0), (1, .int (-1))] []
  refine v_iload_n hC dX4_sortAt_0 rfl ?_
  refine v_if_lt_t hC dX4_sortAt_1 (tgt := 33) (by decide) (by decide) ?_
  refine v_iconst hC dX4_sortAt_33 (v := (-1)) (by decide) ?_
  exact hR _ _ _ _ _ _ _ dX4_sortAt_34 rfl (Nat.le_of_ble_eq_true rfl) (Nat.le_of_ble_eq_true rfl) ⟨rfl, rfl, rfl⟩
set_option maxRecDepth 100000 in
set_option maxHeartbeats 4000000 in
theorem x_sort {l : Launch} {E : Ez} {L : List Nat} {f : Nat → va_E} {cl he im la lo nl now np ns nw nwa pa paf pas sh sl t ta tr wa wt wy x : Nat} {i : Int32} {j : Int32} (m_x : x ∈ L) (e_x : f x = ob 11 [.ref t, .ref now, .ref im, .ref la, .ref sl, .ref np, .ref ns, .ref nw, .ref nwa, .ref nl, .ref he, .ref wa, .ref tr, .ref ta]) (m_now : now ∈ L) (e_now : f now = ob 0 [.ref pa, .ref sh, .ref wy, .ref wt, .ref lo, .ref cl]) (m_pa : pa ∈ L) (e_pa : f pa = ob 4 [.ref pas, .ref paf, .int 0, .int 0, .int 0]) : CI l yX11_sort cX11_sort 3 .int 1 0 0 E [.ref x, .int i, .int j] L f (fun r L1 f1 => (-1 : Int32) = r) := by
  refine ci_of (by decide) (Nat.le_of_ble_eq_true rfl) (fun z hz hnm hC hR => ?_)
  have hC : Cx z E cX11_sort RX11 3 1 0 0 := hC
  subst hz
  show V z E 3 0 0 L f 0 [(0, .ref x), (1, .int i), (2, .int j)] []
  refine v_aload_n hC dX11_sort_0 rfl ?_
  refine v_get hC fl_X11_19 m_x e_x rfl dX11_sort_1 ?_
  refine v_getN hC fn_X11_116 m_now e_now rfl dX11_sort_4 ?_
  refine v_aload_n hC dX11_sort_7 rfl ?_
  refine v_get hC fl_X11_19 m_x e_x rfl dX11_sort_8 ?_
  refine v_getN hC fn_X11_116 m_now e_now rfl dX11_sort_11 ?_
  refine v_iload_n hC dX11_sort_14 rfl ?_
  refine v_iload_n hC dX11_sort_15 rfl ?_
  refine v_vi hC (rest := [.ref pa]) m_pa e_pa rfl mi_X4_placeOf ms_X4_placeOf (a44_X4_placeOf m_pa e_pa) mx_X4_placeOf ml_X11_236 (by decide) rfl (cells1 := 0) (slots1 := 0) (by decide) (by decide) (Nat.le_of_ble_eq_true rfl) (Nat.le_of_ble_eq_true rfl) rfl (Nat.le_of_ble_eq_true rfl) dX11_sort_16 (fun r_1 L_2 f_3 h_4 => ?_)
  obtain ⟨rfl, rfl, rfl⟩ := h_4
  refine v_vi hC (rest := []) m_pa e_pa rfl mi_X4_sortAt ms_X4_sortAt (a46_X4_sortAt) mx_X4_sortAt ml_X11_245 (by decide) rfl (cells1 := 0) (slots1 := 0) (by decide) (by decide) (Nat.le_of_ble_eq_true rfl) (Nat.le_of_ble_eq_true rfl) rfl (Nat.le_of_ble_eq_true rfl) dX11_sort_19 (fun r_5 L_6 f_7 h_8 => ?_)
  obtain ⟨rfl, rfl, rfl⟩ := h_8
  exact hR _ _ _ _ _ _ _ dX11_sort_22 rfl (Nat.le_of_ble_eq_true rfl) (Nat.le_of_ble_eq_true rfl) rfl
set_option maxRecDepth 100000 in
set_option maxHeartbeats 4000000 in
theorem x_at {l : Launch} {E : Ez} {L : List Nat} {f : Nat → va_E} {cl he im la lo nl now np ns nw nwa pa paf pas sh sl t ta tr wa wt wy x : Nat} {gcl : Nat → Option Nat} {c : Int32} {i : Int32} {j : Int32} (m_x : x ∈ L) (e_x : f x = ob 11 [.ref t, .ref now, .ref im, .ref la, .ref sl, .ref np, .ref ns, .ref nw, .ref nwa, .ref nl, .ref he, .ref wa, .ref tr, .ref ta]) (m_now : now ∈ L) (e_now : f now = ob 0 [.ref pa, .ref sh, .ref wy, .ref wt, .ref lo, .ref cl]) (m_pa : pa ∈ L) (e_pa : f pa = ob 4 [.ref pas, .ref paf, .int 0, .int 0, .int 0]) (m_cl : cl ∈ L) (e_cl : f cl = aR E 5 4 gcl) (pcl : ∀ i : Nat, i < 4 → ∃ q s : Nat, gcl i = some q ∧ q ∈ L ∧ f q = ob 1 [.ref s, .int 0]) : CI l yX11_at cX11_at 5 .int 2 0 0 E [.ref x, .int c, .int i, .int j] L f (fun r L1 f1 => (-1 : Int32) = r) := by
  refine ci_of (by decide) (Nat.le_of_ble_eq_true rfl) (fun z hz hnm hC hR => ?_)
  have hC : Cx z E cX11_at RX11 5 2 0 0 := hC
  subst hz
  show V z E 5 0 0 L f 0 [(0, .ref x), (1, .int c), (2, .int i), (3, .int j)] []
  refine v_aload_n hC dX11_at_0 rfl ?_
  refine v_get hC fl_X11_19 m_x e_x rfl dX11_at_1 ?_
  refine v_getN hC fn_X11_116 m_now e_now rfl dX11_at_4 ?_
  refine v_iload_n hC dX11_at_7 rfl ?_
  refine v_iload_n hC dX11_at_8 rfl ?_
  refine v_vi hC (rest := []) m_pa e_pa rfl mi_X4_placeOf ms_X4_placeOf (a44_X4_placeOf m_pa e_pa) mx_X4_placeOf ml_X11_236 (by decide) rfl (cells1 := 0) (slots1 := 0) (by decide) (by decide) (Nat.le_of_ble_eq_true rfl) (Nat.le_of_ble_eq_true rfl) rfl (Nat.le_of_ble_eq_true rfl) dX11_at_9 (fun r_1 L_2 f_3 h_4 => ?_)
  obtain ⟨rfl, rfl, rfl⟩ := h_4
  refine v_istore hC dX11_at_12 (by decide) (lv' := [(4, .int (-1)), (0, .ref x), (1, .int c), (2, .int i), (3, .int j)]) rfl ?_
  refine v_aload_n hC dX11_at_14 rfl ?_
  refine v_iload_n hC dX11_at_15 rfl ?_
  refine v_vi hC (rest := []) m_x e_x rfl mi_X11_hasCloth ms_X11_hasCloth (c_hasCloth m_x e_x m_now e_now m_cl e_cl pcl) mx_X11_hasCloth ml_X11_239 (by decide) rfl (cells1 := 0) (slots1 := 0) (by decide) (by decide) (Nat.le_of_ble_eq_true rfl) (Nat.le_of_ble_eq_true rfl) rfl (Nat.le_of_ble_eq_true rfl) dX11_at_16 (fun r_5 L_6 f_7 h_8 => ?_)
  obtain ⟨rfl, rfl, rfl⟩ := h_8
  refine v_if_eq_t hC dX11_at_19 (tgt := 28) (by decide) (by decide) ?_
  refine v_iconst hC dX11_at_28 (v := (-1)) (by decide) ?_
  exact hR _ _ _ _ _ _ _ dX11_at_29 rfl (Nat.le_of_ble_eq_true rfl) (Nat.le_of_ble_eq_true rfl) rfl
set_option maxRecDepth 100000 in
set_option maxHeartbeats 4000000 in
theorem x_turn {l : Launch} {E : Ez} {L : List Nat} {f : Nat → va_E} {cl he im la lo nl now np ns nw nwa pa paf pas sh sl t ta tr wa wt wy x : Nat} {c : Int32} {i : Int32} {j : Int32} (m_x : x ∈ L) (e_x : f x = ob 11 [.ref t, .ref now, .ref im, .ref la, .ref sl, .ref np, .ref ns, .ref nw, .ref nwa, .ref nl, .ref he, .ref wa, .ref tr, .ref ta]) (m_now : now ∈ L) (e_now : f now = ob 0 [.ref pa, .ref sh, .ref wy, .ref wt, .ref lo, .ref cl]) (m_pa : pa ∈ L) (e_pa : f pa = ob 4 [.ref pas, .ref paf, .int 0, .int 0, .int 0]) : CI l yX11_turn cX11_turn 6 .int 1 0 0 E [.ref x, .int c, .int i, .int j] L f (fun r L1 f1 => (-2 : Int32) = r) := by
  refine ci_of (by decide) (Nat.le_of_ble_eq_true rfl) (fun z hz hnm hC hR => ?_)
  have hC : Cx z E cX11_turn RX11 6 1 0 0 := hC
  subst hz
  show V z E 6 0 0 L f 0 [(0, .ref x), (1, .int c), (2, .int i), (3, .int j)] []
  refine v_aload_n hC dX11_turn_0 rfl ?_
  refine v_get hC fl_X11_19 m_x e_x rfl dX11_turn_1 ?_
  refine v_getN hC fn_X11_116 m_now e_now rfl dX11_turn_4 ?_
  refine v_iload_n hC dX11_turn_7 rfl ?_
  refine v_iload_n hC dX11_turn_8 rfl ?_
  refine v_vi hC (rest := []) m_pa e_pa rfl mi_X4_placeOf ms_X4_placeOf (a44_X4_placeOf m_pa e_pa) mx_X4_placeOf ml_X11_236 (by decide) rfl (cells1 := 0) (slots1 := 0) (by decide) (by decide) (Nat.le_of_ble_eq_true rfl) (Nat.le_of_ble_eq_true rfl) rfl (Nat.le_of_ble_eq_true rfl) dX11_turn_9 (fun r_1 L_2 f_3 h_4 => ?_)
  obtain ⟨rfl, rfl, rfl⟩ := h_4
  refine v_istore hC dX11_turn_12 (by decide) (lv' := [(4, .int (-1)), (0, .ref x), (1, .int c), (2, .int i), (3, .int j)]) rfl ?_
  refine v_iload_n hC dX11_turn_14 rfl ?_
  refine v_si hC (rest := []) mt_X11_isCloth (c_isCloth) mx_X11_isCloth ml_X11_181 (by decide) rfl (cells1 := 0) (slots1 := 0) (by decide) (by decide) (Nat.le_of_ble_eq_true rfl) (Nat.le_of_ble_eq_true rfl) rfl (Nat.le_of_ble_eq_true rfl) dX11_turn_15 (fun r_5 L_6 f_7 h_8 => ?_)
  obtain ⟨rfl, rfl, rfl⟩ := h_8
  refine v_if_eq hC dX11_turn_18 (tgt := 37) (by decide) (fun h_9 => ?_) (fun h_9 => ?_)
  · have h_10 := bI_0 h_9
    refine v_bipush hC dX11_turn_37 (v := (-2)) (by decide) ?_
    exact hR _ _ _ _ _ _ _ dX11_turn_39 rfl (Nat.le_of_ble_eq_true rfl) (Nat.le_of_ble_eq_true rfl) rfl
  · have h_11 := bI_1 h_9
    refine v_aload_n hC dX11_turn_21 rfl ?_
    refine v_get hC fl_X11_19 m_x e_x rfl dX11_turn_22 ?_
    refine v_getN hC fn_X11_116 m_now e_now rfl dX11_turn_25 ?_
    refine v_iload hC dX11_turn_28 rfl ?_
    refine v_vi hC (rest := []) m_pa e_pa rfl mi_X4_sortAt ms_X4_sortAt (a46_X4_sortAt) mx_X4_sortAt ml_X11_245 (by decide) rfl (cells1 := 0) (slots1 := 0) (by decide) (by decide) (Nat.le_of_ble_eq_true rfl) (Nat.le_of_ble_eq_true rfl) rfl (Nat.le_of_ble_eq_true rfl) dX11_turn_30 (fun r_12 L_13 f_14 h_15 => ?_)
    obtain ⟨rfl, rfl, rfl⟩ := h_15
    refine v_iconst hC dX11_turn_33 (v := 2) (by decide) ?_
    refine v_icmp_ge_f hC dX11_turn_34 (tgt := 40) (by decide) (by decide) ?_
    refine v_bipush hC dX11_turn_37 (v := (-2)) (by decide) ?_
    exact hR _ _ _ _ _ _ _ dX11_turn_39 rfl (Nat.le_of_ble_eq_true rfl) (Nat.le_of_ble_eq_true rfl) rfl
set_option maxRecDepth 100000 in
set_option maxHeartbeats 4000000 in
theorem x_fault {l : Launch} {E : Ez} {L : List Nat} {f : Nat → va_E} {he im la nl now np ns nw nwa sl t ta tb tr wa x : Nat} {w : Int32} (m_x : x ∈ L) (e_x : f x = ob 11 [.ref t, .ref now, .ref im, .ref la, .ref sl, .ref np, .ref ns, .ref nw, .ref nwa, .ref nl, .ref he, .ref wa, .ref tr, .ref ta]) (m_t : t ∈ L) (e_t : f t = ob 7 [.ref tb, .int 0, .int 0, .int 0, .int 0, .int 0, .int (-1)]) : CI l yX11_fault cX11_fault 2 .int 0 0 0 E [.ref x, .int w] L f (fun r L1 f1 => sp_fault w = r) := by
  refine ci_of (by decide) (Nat.le_of_ble_eq_true rfl) (fun z hz hnm hC hR => ?_)
  have hC : Cx z E cX11_fault RX11 2 0 0 0 := hC
  subst hz
  show V z E 2 0 0 L f 0 [(0, .ref x), (1, .int w)] []
  refine v_iload_n hC dX11_fault_0 rfl ?_
  by_cases h_1 : w = 0
  · refine v_lookup hC dX11_fault_1 (off := 27) (tgt := 28) (by decide) (by rw [h_1]; rfl) (by decide) ?_
    refine v_aload_n hC dX11_fault_28 rfl ?_
    refine v_get hC fl_X11_12 m_x e_x rfl dX11_fault_29 ?_
    refine v_getN hC fn_X11_175 m_t e_t rfl dX11_fault_32 ?_
    exact hR _ _ _ _ _ _ _ dX11_fault_35 rfl (Nat.le_of_ble_eq_true rfl) (Nat.le_of_ble_eq_true rfl) (by unfold sp_fault; simp only [Int32.lt_iff_toInt_lt, Int32.le_iff_toInt_le, Int32.reduceToInt, ← Int32.toInt_inj] at h_1 ⊢; first | omega | (split <;> first | rfl | (exfalso; omega)))
  by_cases h_2 : w = 1
  · refine v_lookup hC dX11_fault_1 (off := 35) (tgt := 36) (by decide) (by rw [h_2]; rfl) (by decide) ?_
    refine v_aload_n hC dX11_fault_36 rfl ?_
    refine v_get hC fl_X11_12 m_x e_x rfl dX11_fault_37 ?_
    refine v_getN hC fn_X11_178 m_t e_t rfl dX11_fault_40 ?_
    exact hR _ _ _ _ _ _ _ dX11_fault_43 rfl (Nat.le_of_ble_eq_true rfl) (Nat.le_of_ble_eq_true rfl) (by unfold sp_fault; simp only [Int32.lt_iff_toInt_lt, Int32.le_iff_toInt_le, Int32.reduceToInt, ← Int32.toInt_inj] at h_1 h_2 ⊢; first | omega | (split <;> first | rfl | (exfalso; omega)))
  refine v_lookup hC dX11_fault_1 (off := 43) (tgt := 44) (by decide) (by refine (lv_osw h_1 rfl).trans ?_; refine (lv_osw h_2 rfl).trans ?_; rfl) (by decide) ?_
  refine v_iconst hC dX11_fault_44 (v := (-1)) (by decide) ?_
  exact hR _ _ _ _ _ _ _ dX11_fault_45 rfl (Nat.le_of_ble_eq_true rfl) (Nat.le_of_ble_eq_true rfl) (by unfold sp_fault; simp only [Int32.lt_iff_toInt_lt, Int32.le_iff_toInt_le, Int32.reduceToInt, ← Int32.toInt_inj] at h_1 h_2 ⊢; first | omega | (split <;> first | rfl | (exfalso; omega)))
set_option maxRecDepth 100000 in
set_option maxHeartbeats 4000000 in
theorem x_end {l : Launch} {E : Ez} {L : List Nat} {f : Nat → va_E} {he im la nl now np ns nw nwa sl t ta tb tr wa x : Nat} {n : Int32} (m_x : x ∈ L) (e_x : f x = ob 11 [.ref t, .ref now, .ref im, .ref la, .ref sl, .ref np, .ref ns, .ref nw, .ref nwa, .ref nl, .ref he, .ref wa, .ref tr, .ref ta]) (m_t : t ∈ L) (e_t : f t = ob 7 [.ref tb, .int 0, .int 0, .int 0, .int 0, .int 0, .int (-1)]) : CI l yX11_end cX11_end 2 .int 0 0 0 E [.ref x, .int n] L f (fun r L1 f1 => sp_end n = r) := by
  refine ci_of (by decide) (Nat.le_of_ble_eq_true rfl) (fun z hz hnm hC hR => ?_)
  have hC : Cx z E cX11_end RX11 2 0 0 0 := hC
  subst hz
  show V z E 2 0 0 L f 0 [(0, .ref x), (1, .int n)] []
  refine v_iload_n hC dX11_end_0 rfl ?_
  refine v_if_lt hC dX11_end_1 (tgt := 15) (by decide) (fun h_1 => ?_) (fun h_1 => ?_)
  · refine v_iconst hC dX11_end_15 (v := (-1)) (by decide) ?_
    exact hR _ _ _ _ _ _ _ dX11_end_16 rfl (Nat.le_of_ble_eq_true rfl) (Nat.le_of_ble_eq_true rfl) (by unfold sp_end; simp only [Int32.lt_iff_toInt_lt, Int32.le_iff_toInt_le, Int32.reduceToInt, ← Int32.toInt_inj] at h_1 ⊢; first | omega | (split <;> first | rfl | (exfalso; omega)))
  · refine v_iload_n hC dX11_end_4 rfl ?_
    refine v_aload_n hC dX11_end_5 rfl ?_
    refine v_get hC fl_X11_12 m_x e_x rfl dX11_end_6 ?_
    refine v_getN hC fn_X11_105 m_t e_t rfl dX11_end_9 ?_
    refine v_icmp_le hC dX11_end_12 (tgt := 17) (by decide) (fun h_2 => ?_) (fun h_2 => ?_)
    · refine v_aload_n hC dX11_end_17 rfl ?_
      refine v_get hC fl_X11_12 m_x e_x rfl dX11_end_18 ?_
      refine v_iload_n hC dX11_end_21 rfl ?_
      refine v_putN hC fn_X11_105 m_t e_t rfl rfl (Nat.le_of_ble_eq_true rfl) (fs' := [.ref tb, .int n, .int 0, .int 0, .int 0, .int 0, .int (-1)]) rfl dX11_end_22 (fun f_3 hf_4 hk_5 => ?_)
      have hf_6 := (hk_5 x (ne_kd e_x e_t rfl)).trans e_x
      refine v_iload_n hC dX11_end_25 rfl ?_
      have h99 : n = 0 := by simp only [Int32.lt_iff_toInt_lt, Int32.le_iff_toInt_le, Int32.reduceToInt, ← Int32.toInt_inj] at h_1 h_2 ⊢; omega
      exact hR _ _ _ _ _ _ _ dX11_end_26 rfl (Nat.le_of_ble_eq_true rfl) (Nat.le_of_ble_eq_true rfl) (by rw [h99]; rfl)
    · refine v_iconst hC dX11_end_15 (v := (-1)) (by decide) ?_
      exact hR _ _ _ _ _ _ _ dX11_end_16 rfl (Nat.le_of_ble_eq_true rfl) (Nat.le_of_ble_eq_true rfl) (by unfold sp_end; simp only [Int32.lt_iff_toInt_lt, Int32.le_iff_toInt_le, Int32.reduceToInt, ← Int32.toInt_inj] at h_1 h_2 ⊢; first | omega | (split <;> first | rfl | (exfalso; omega)))
set_option maxRecDepth 100000 in
set_option maxHeartbeats 4000000 in
theorem a53_X7_hasRoomFor {l : Launch} {E : Ez} {L : List Nat} {f : Nat → va_E} {aa_0 aa_1 : Nat} (m_aa_0 : aa_0 ∈ L) (e_aa_0 : f aa_0 = ob 7 [.ref aa_1, .int 0, .int 0, .int 0, .int 0, .int 0, .int (-1)]) : CI l yX7_hasRoomFor cX7_hasRoomFor 2 .boolean 0 0 0 E [.ref aa_0, .int 20] L f (fun r L1 f1 => 1 = r ∧ L = L1 ∧ f = f1) := by
  refine ci_of (by decide) (Nat.le_of_ble_eq_true rfl) (fun z hz hnm hC hR => ?_)
  have hC : Cx z E cX7_hasRoomFor RX7 2 0 0 0 := hC
  subst hz
  show V z E 2 0 0 L f 0 [(0, .ref aa_0), (1, .int 20)] []
  refine v_aload_n hC dX7_hasRoomFor_0 rfl ?_
  refine v_get hC fl_X7_19 m_aa_0 e_aa_0 rfl dX7_hasRoomFor_1 ?_
  refine v_iload_n hC dX7_hasRoomFor_4 rfl ?_
  refine v_iadd hC dX7_hasRoomFor_5 (v := 20) (by decide) ?_
  refine v_sipush hC dX7_hasRoomFor_6 (v := 600) (by decide) ?_
  refine v_icmp_gt_f hC dX7_hasRoomFor_9 (tgt := 16) (by decide) (by decide) ?_
  refine v_iconst hC dX7_hasRoomFor_12 (v := 1) (by decide) ?_
  refine v_goto hC dX7_hasRoomFor_13 (tgt := 17) (by decide) ?_
  exact hR _ _ _ _ _ _ _ dX7_hasRoomFor_17 rfl (Nat.le_of_ble_eq_true rfl) (Nat.le_of_ble_eq_true rfl) ⟨rfl, rfl, rfl⟩
set_option maxRecDepth 100000 in
set_option maxHeartbeats 4000000 in
theorem a55_X7_addBytesOf {l : Launch} {E : Ez} {L : List Nat} {f : Nat → va_E} {aa_0 aa_1 : Nat} {xx_0 : Int32} {gg_0 : Nat → Int32} (m_aa_0 : aa_0 ∈ L) (e_aa_0 : f aa_0 = ob 7 [.ref aa_1, .int 0, .int 0, .int 0, .int 0, .int 0, .int (-1)]) (m_aa_1 : aa_1 ∈ L) (e_aa_1 : f aa_1 = aI E 600 gg_0) : CV l yX7_addBytesOf cX7_addBytesOf 3 0 0 0 E [.ref aa_0, .int xx_0] L f (fun L1 f1 => L = L1 ∧ (∃ g9, f1 aa_1 = aI E 600 g9) ∧ f1 aa_0 = ob 7 [.ref aa_1, .int 4, .int 0, .int 0, .int 0, .int 0, .int (-1)] ∧ ∀ b, b ≠ aa_1 → b ≠ aa_0 → f1 b = f b) := by
  refine cv_of (by decide) (Nat.le_of_ble_eq_true rfl) (fun z hz hnm hC hR => ?_)
  have hC : Cx z E cX7_addBytesOf RX7 3 0 0 0 := hC
  subst hz
  show V z E 3 0 0 L f 0 [(0, .ref aa_0), (1, .int xx_0)] []
  refine v_bipush hC dX7_addBytesOf_0 (v := 24) (by decide) ?_
  refine v_istore_n hC dX7_addBytesOf_2 (by decide) (lv' := [(2, .int 24), (0, .ref aa_0), (1, .int xx_0)]) rfl ?_
  refine v_iload_n hC dX7_addBytesOf_3 rfl ?_
  refine v_if_lt_f hC dX7_addBytesOf_4 (tgt := 51) (by decide) (by decide) ?_
  refine v_aload_n hC dX7_addBytesOf_7 rfl ?_
  refine v_get hC fl_X7_19 m_aa_0 e_aa_0 rfl dX7_addBytesOf_8 ?_
  refine v_aload_n hC dX7_addBytesOf_11 rfl ?_
  refine v_get hC fl_X7_9 m_aa_0 e_aa_0 rfl dX7_addBytesOf_12 ?_
  refine v_alen hC m_aa_1 e_aa_1 (t := 1) rfl (v := 600) rfl dX7_addBytesOf_15 ?_
  refine v_icmp_ge_f hC dX7_addBytesOf_16 (tgt := 45) (by decide) (by decide) ?_
  refine v_aload_n hC dX7_addBytesOf_19 rfl ?_
  refine v_get hC fl_X7_9 m_aa_0 e_aa_0 rfl dX7_addBytesOf_20 ?_
  refine v_aload_n hC dX7_addBytesOf_23 rfl ?_
  refine v_get hC fl_X7_19 m_aa_0 e_aa_0 rfl dX7_addBytesOf_24 ?_
  refine v_iload_n hC dX7_addBytesOf_27 rfl ?_
  refine v_iload_n hC dX7_addBytesOf_28 rfl ?_
  refine v_iushr hC dX7_addBytesOf_29 rfl ?_
  refine v_sipush hC dX7_addBytesOf_30 (v := 255) (by decide) ?_
  refine v_iand hC dX7_addBytesOf_33 rfl ?_
  refine v_iast hC m_aa_1 e_aa_1 (by unfold vp_in; decide) dX7_addBytesOf_34 (fun f_1 hf_2 hk_3 => ?_)
  obtain ⟨g_4, hf_2⟩ : ∃ g9, f_1 aa_1 = aI E 600 g9 := ⟨_, hf_2⟩
  have hf_5 := (hk_3 aa_0 (ne_kd e_aa_0 e_aa_1 rfl)).trans e_aa_0
  refine v_aload_n hC dX7_addBytesOf_35 rfl ?_
  refine v_dup hC dX7_addBytesOf_36 rfl ?_
  refine v_get hC fl_X7_19 m_aa_0 hf_5 rfl dX7_addBytesOf_37 ?_
  refine v_iconst hC dX7_addBytesOf_40 (v := 1) (by decide) ?_
  refine v_iadd hC dX7_addBytesOf_41 (v := 1) (by decide) ?_
  refine v_put hC fl_X7_19 m_aa_0 hf_5 rfl rfl (Nat.le_of_ble_eq_true rfl) (fs' := [.ref aa_1, .int 1, .int 0, .int 0, .int 0, .int 0, .int (-1)]) rfl dX7_addBytesOf_42 (fun f_6 hf_7 hk_8 => ?_)
  have hf_9 := (hk_8 aa_1 (ne_kd hf_2 hf_5 rfl)).trans hf_2
  refine v_iinc hC dX7_addBytesOf_45 (k := 0) rfl (v := 16) (by decide) (by decide) (lv' := [(2, .int 16), (0, .ref aa_0), (1, .int xx_0)]) rfl ?_
  refine v_goto hC dX7_addBytesOf_48 (tgt := 3) (by decide) ?_
  refine v_iload_n hC dX7_addBytesOf_3 rfl ?_
  refine v_if_lt_f hC dX7_addBytesOf_4 (tgt := 51) (by decide) (by decide) ?_
  refine v_aload_n hC dX7_addBytesOf_7 rfl ?_
  refine v_get hC fl_X7_19 m_aa_0 hf_7 rfl dX7_addBytesOf_8 ?_
  refine v_aload_n hC dX7_addBytesOf_11 rfl ?_
  refine v_get hC fl_X7_9 m_aa_0 hf_7 rfl dX7_addBytesOf_12 ?_
  refine v_alen hC m_aa_1 hf_9 (t := 1) rfl (v := 600) rfl dX7_addBytesOf_15 ?_
  refine v_icmp_ge_f hC dX7_addBytesOf_16 (tgt := 45) (by decide) (by decide) ?_
  refine v_aload_n hC dX7_addBytesOf_19 rfl ?_
  refine v_get hC fl_X7_9 m_aa_0 hf_7 rfl dX7_addBytesOf_20 ?_
  refine v_aload_n hC dX7_addBytesOf_23 rfl ?_
  refine v_get hC fl_X7_19 m_aa_0 hf_7 rfl dX7_addBytesOf_24 ?_
  refine v_iload_n hC dX7_addBytesOf_27 rfl ?_
  refine v_iload_n hC dX7_addBytesOf_28 rfl ?_
  refine v_iushr hC dX7_addBytesOf_29 rfl ?_
  refine v_sipush hC dX7_addBytesOf_30 (v := 255) (by decide) ?_
  refine v_iand hC dX7_addBytesOf_33 rfl ?_
  refine v_iast hC m_aa_1 hf_9 (by unfold vp_in; decide) dX7_addBytesOf_34 (fun f_10 hf_11 hk_12 => ?_)
  obtain ⟨g_13, hf_11⟩ : ∃ g9, f_10 aa_1 = aI E 600 g9 := ⟨_, hf_11⟩
  have hf_14 := (hk_12 aa_0 (ne_kd hf_7 hf_9 rfl)).trans hf_7
  refine v_aload_n hC dX7_addBytesOf_35 rfl ?_
  refine v_dup hC dX7_addBytesOf_36 rfl ?_
  refine v_get hC fl_X7_19 m_aa_0 hf_14 rfl dX7_addBytesOf_37 ?_
  refine v_iconst hC dX7_addBytesOf_40 (v := 1) (by decide) ?_
  refine v_iadd hC dX7_addBytesOf_41 (v := 2) (by decide) ?_
  refine v_put hC fl_X7_19 m_aa_0 hf_14 rfl rfl (Nat.le_of_ble_eq_true rfl) (fs' := [.ref aa_1, .int 2, .int 0, .int 0, .int 0, .int 0, .int (-1)]) rfl dX7_addBytesOf_42 (fun f_15 hf_16 hk_17 => ?_)
  have hf_18 := (hk_17 aa_1 (ne_kd hf_11 hf_14 rfl)).trans hf_11
  refine v_iinc hC dX7_addBytesOf_45 (k := 0) rfl (v := 8) (by decide) (by decide) (lv' := [(2, .int 8), (0, .ref aa_0), (1, .int xx_0)]) rfl ?_
  refine v_goto hC dX7_addBytesOf_48 (tgt := 3) (by decide) ?_
  refine v_iload_n hC dX7_addBytesOf_3 rfl ?_
  refine v_if_lt_f hC dX7_addBytesOf_4 (tgt := 51) (by decide) (by decide) ?_
  refine v_aload_n hC dX7_addBytesOf_7 rfl ?_
  refine v_get hC fl_X7_19 m_aa_0 hf_16 rfl dX7_addBytesOf_8 ?_
  refine v_aload_n hC dX7_addBytesOf_11 rfl ?_
  refine v_get hC fl_X7_9 m_aa_0 hf_16 rfl dX7_addBytesOf_12 ?_
  refine v_alen hC m_aa_1 hf_18 (t := 1) rfl (v := 600) rfl dX7_addBytesOf_15 ?_
  refine v_icmp_ge_f hC dX7_addBytesOf_16 (tgt := 45) (by decide) (by decide) ?_
  refine v_aload_n hC dX7_addBytesOf_19 rfl ?_
  refine v_get hC fl_X7_9 m_aa_0 hf_16 rfl dX7_addBytesOf_20 ?_
  refine v_aload_n hC dX7_addBytesOf_23 rfl ?_
  refine v_get hC fl_X7_19 m_aa_0 hf_16 rfl dX7_addBytesOf_24 ?_
  refine v_iload_n hC dX7_addBytesOf_27 rfl ?_
  refine v_iload_n hC dX7_addBytesOf_28 rfl ?_
  refine v_iushr hC dX7_addBytesOf_29 rfl ?_
  refine v_sipush hC dX7_addBytesOf_30 (v := 255) (by decide) ?_
  refine v_iand hC dX7_addBytesOf_33 rfl ?_
  refine v_iast hC m_aa_1 hf_18 (by unfold vp_in; decide) dX7_addBytesOf_34 (fun f_19 hf_20 hk_21 => ?_)
  obtain ⟨g_22, hf_20⟩ : ∃ g9, f_19 aa_1 = aI E 600 g9 := ⟨_, hf_20⟩
  have hf_23 := (hk_21 aa_0 (ne_kd hf_16 hf_18 rfl)).trans hf_16
  refine v_aload_n hC dX7_addBytesOf_35 rfl ?_
  refine v_dup hC dX7_addBytesOf_36 rfl ?_
  refine v_get hC fl_X7_19 m_aa_0 hf_23 rfl dX7_addBytesOf_37 ?_
  refine v_iconst hC dX7_addBytesOf_40 (v := 1) (by decide) ?_
  refine v_iadd hC dX7_addBytesOf_41 (v := 3) (by decide) ?_
  refine v_put hC fl_X7_19 m_aa_0 hf_23 rfl rfl (Nat.le_of_ble_eq_true rfl) (fs' := [.ref aa_1, .int 3, .int 0, .int 0, .int 0, .int 0, .int (-1)]) rfl dX7_addBytesOf_42 (fun f_24 hf_25 hk_26 => ?_)
  have hf_27 := (hk_26 aa_1 (ne_kd hf_20 hf_23 rfl)).trans hf_20
  refine v_iinc hC dX7_addBytesOf_45 (k := 0) rfl (v := 0) (by decide) (by decide) (lv' := [(2, .int 0), (0, .ref aa_0), (1, .int xx_0)]) rfl ?_
  refine v_goto hC dX7_addBytesOf_48 (tgt := 3) (by decide) ?_
  refine v_iload_n hC dX7_addBytesOf_3 rfl ?_
  refine v_if_lt_f hC dX7_addBytesOf_4 (tgt := 51) (by decide) (by decide) ?_
  refine v_aload_n hC dX7_addBytesOf_7 rfl ?_
  refine v_get hC fl_X7_19 m_aa_0 hf_25 rfl dX7_addBytesOf_8 ?_
  refine v_aload_n hC dX7_addBytesOf_11 rfl ?_
  refine v_get hC fl_X7_9 m_aa_0 hf_25 rfl dX7_addBytesOf_12 ?_
  refine v_alen hC m_aa_1 hf_27 (t := 1) rfl (v := 600) rfl dX7_addBytesOf_15 ?_
  refine v_icmp_ge_f hC dX7_addBytesOf_16 (tgt := 45) (by decide) (by decide) ?_
  refine v_aload_n hC dX7_addBytesOf_19 rfl ?_
  refine v_get hC fl_X7_9 m_aa_0 hf_25 rfl dX7_addBytesOf_20 ?_
  refine v_aload_n hC dX7_addBytesOf_23 rfl ?_
  refine v_get hC fl_X7_19 m_aa_0 hf_25 rfl dX7_addBytesOf_24 ?_
  refine v_iload_n hC dX7_addBytesOf_27 rfl ?_
  refine v_iload_n hC dX7_addBytesOf_28 rfl ?_
  refine v_iushr hC dX7_addBytesOf_29 rfl ?_
  refine v_sipush hC dX7_addBytesOf_30 (v := 255) (by decide) ?_
  refine v_iand hC dX7_addBytesOf_33 rfl ?_
  refine v_iast hC m_aa_1 hf_27 (by unfold vp_in; decide) dX7_addBytesOf_34 (fun f_28 hf_29 hk_30 => ?_)
  obtain ⟨g_31, hf_29⟩ : ∃ g9, f_28 aa_1 = aI E 600 g9 := ⟨_, hf_29⟩
  have hf_32 := (hk_30 aa_0 (ne_kd hf_25 hf_27 rfl)).trans hf_25
  refine v_aload_n hC dX7_addBytesOf_35 rfl ?_
  refine v_dup hC dX7_addBytesOf_36 rfl ?_
  refine v_get hC fl_X7_19 m_aa_0 hf_32 rfl dX7_addBytesOf_37 ?_
  refine v_iconst hC dX7_addBytesOf_40 (v := 1) (by decide) ?_
  refine v_iadd hC dX7_addBytesOf_41 (v := 4) (by decide) ?_
  refine v_put hC fl_X7_19 m_aa_0 hf_32 rfl rfl (Nat.le_of_ble_eq_true rfl) (fs' := [.ref aa_1, .int 4, .int 0, .int 0, .int 0, .int 0, .int (-1)]) rfl dX7_addBytesOf_42 (fun f_33 hf_34 hk_35 => ?_)
  have hf_36 := (hk_35 aa_1 (ne_kd hf_29 hf_32 rfl)).trans hf_29
  refine v_iinc hC dX7_addBytesOf_45 (k := 0) rfl (v := (-8)) (by decide) (by decide) (lv' := [(2, .int (-8)), (0, .ref aa_0), (1, .int xx_0)]) rfl ?_
  refine v_goto hC dX7_addBytesOf_48 (tgt := 3) (by decide) ?_
  refine v_iload_n hC dX7_addBytesOf_3 rfl ?_
  refine v_if_lt_t hC dX7_addBytesOf_4 (tgt := 51) (by decide) (by decide) ?_
  exact hR _ _ _ _ _ _ dX7_addBytesOf_51 (Nat.le_of_ble_eq_true rfl) (Nat.le_of_ble_eq_true rfl) ⟨rfl, ⟨_, hf_36⟩, hf_34, fun b nn_0 nn_1 => ((hk_35 b nn_1).trans ((hk_30 b nn_0).trans ((hk_26 b nn_1).trans ((hk_21 b nn_0).trans ((hk_17 b nn_1).trans ((hk_12 b nn_0).trans ((hk_8 b nn_1).trans (hk_3 b nn_0))))))))⟩
set_option maxRecDepth 100000 in
set_option maxHeartbeats 4000000 in
theorem a57_X7_addBytesOf {l : Launch} {E : Ez} {L : List Nat} {f : Nat → va_E} {aa_0 aa_1 : Nat} {xx_0 : Int32} {gg_0 : Nat → Int32} (m_aa_0 : aa_0 ∈ L) (e_aa_0 : f aa_0 = ob 7 [.ref aa_1, .int 4, .int 0, .int 0, .int 0, .int 0, .int (-1)]) (m_aa_1 : aa_1 ∈ L) (e_aa_1 : f aa_1 = aI E 600 gg_0) : CV l yX7_addBytesOf cX7_addBytesOf 3 0 0 0 E [.ref aa_0, .int xx_0] L f (fun L1 f1 => L = L1 ∧ (∃ g9, f1 aa_1 = aI E 600 g9) ∧ f1 aa_0 = ob 7 [.ref aa_1, .int 8, .int 0, .int 0, .int 0, .int 0, .int (-1)] ∧ ∀ b, b ≠ aa_1 → b ≠ aa_0 → f1 b = f b) := by
  refine cv_of (by decide) (Nat.le_of_ble_eq_true rfl) (fun z hz hnm hC hR => ?_)
  have hC : Cx z E cX7_addBytesOf RX7 3 0 0 0 := hC
  subst hz
  show V z E 3 0 0 L f 0 [(0, .ref aa_0), (1, .int xx_0)] []
  refine v_bipush hC dX7_addBytesOf_0 (v := 24) (by decide) ?_
  refine v_istore_n hC dX7_addBytesOf_2 (by decide) (lv' := [(2, .int 24), (0, .ref aa_0), (1, .int xx_0)]) rfl ?_
  refine v_iload_n hC dX7_addBytesOf_3 rfl ?_
  refine v_if_lt_f hC dX7_addBytesOf_4 (tgt := 51) (by decide) (by decide) ?_
  refine v_aload_n hC dX7_addBytesOf_7 rfl ?_
  refine v_get hC fl_X7_19 m_aa_0 e_aa_0 rfl dX7_addBytesOf_8 ?_
  refine v_aload_n hC dX7_addBytesOf_11 rfl ?_
  refine v_get hC fl_X7_9 m_aa_0 e_aa_0 rfl dX7_addBytesOf_12 ?_
  refine v_alen hC m_aa_1 e_aa_1 (t := 1) rfl (v := 600) rfl dX7_addBytesOf_15 ?_
  refine v_icmp_ge_f hC dX7_addBytesOf_16 (tgt := 45) (by decide) (by decide) ?_
  refine v_aload_n hC dX7_addBytesOf_19 rfl ?_
  refine v_get hC fl_X7_9 m_aa_0 e_aa_0 rfl dX7_addBytesOf_20 ?_
  refine v_aload_n hC dX7_addBytesOf_23 rfl ?_
  refine v_get hC fl_X7_19 m_aa_0 e_aa_0 rfl dX7_addBytesOf_24 ?_
  refine v_iload_n hC dX7_addBytesOf_27 rfl ?_
  refine v_iload_n hC dX7_addBytesOf_28 rfl ?_
  refine v_iushr hC dX7_addBytesOf_29 rfl ?_
  refine v_sipush hC dX7_addBytesOf_30 (v := 255) (by decide) ?_
  refine v_iand hC dX7_addBytesOf_33 rfl ?_
  refine v_iast hC m_aa_1 e_aa_1 (by unfold vp_in; decide) dX7_addBytesOf_34 (fun f_1 hf_2 hk_3 => ?_)
  obtain ⟨g_4, hf_2⟩ : ∃ g9, f_1 aa_1 = aI E 600 g9 := ⟨_, hf_2⟩
  have hf_5 := (hk_3 aa_0 (ne_kd e_aa_0 e_aa_1 rfl)).trans e_aa_0
  refine v_aload_n hC dX7_addBytesOf_35 rfl ?_
  refine v_dup hC dX7_addBytesOf_36 rfl ?_
  refine v_get hC fl_X7_19 m_aa_0 hf_5 rfl dX7_addBytesOf_37 ?_
  refine v_iconst hC dX7_addBytesOf_40 (v := 1) (by decide) ?_
  refine v_iadd hC dX7_addBytesOf_41 (v := 5) (by decide) ?_
  refine v_put hC fl_X7_19 m_aa_0 hf_5 rfl rfl (Nat.le_of_ble_eq_true rfl) (fs' := [.ref aa_1, .int 5, .int 0, .int 0, .int 0, .int 0, .int (-1)]) rfl dX7_addBytesOf_42 (fun f_6 hf_7 hk_8 => ?_)
  have hf_9 := (hk_8 aa_1 (ne_kd hf_2 hf_5 rfl)).trans hf_2
  refine v_iinc hC dX7_addBytesOf_45 (k := 0) rfl (v := 16) (by decide) (by decide) (lv' := [(2, .int 16), (0, .ref aa_0), (1, .int xx_0)]) rfl ?_
  refine v_goto hC dX7_addBytesOf_48 (tgt := 3) (by decide) ?_
  refine v_iload_n hC dX7_addBytesOf_3 rfl ?_
  refine v_if_lt_f hC dX7_addBytesOf_4 (tgt := 51) (by decide) (by decide) ?_
  refine v_aload_n hC dX7_addBytesOf_7 rfl ?_
  refine v_get hC fl_X7_19 m_aa_0 hf_7 rfl dX7_addBytesOf_8 ?_
  refine v_aload_n hC dX7_addBytesOf_11 rfl ?_
  refine v_get hC fl_X7_9 m_aa_0 hf_7 rfl dX7_addBytesOf_12 ?_
  refine v_alen hC m_aa_1 hf_9 (t := 1) rfl (v := 600) rfl dX7_addBytesOf_15 ?_
  refine v_icmp_ge_f hC dX7_addBytesOf_16 (tgt := 45) (by decide) (by decide) ?_
  refine v_aload_n hC dX7_addBytesOf_19 rfl ?_
  refine v_get hC fl_X7_9 m_aa_0 hf_7 rfl dX7_addBytesOf_20 ?_
  refine v_aload_n hC dX7_addBytesOf_23 rfl ?_
  refine v_get hC fl_X7_19 m_aa_0 hf_7 rfl dX7_addBytesOf_24 ?_
  refine v_iload_n hC dX7_addBytesOf_27 rfl ?_
  refine v_iload_n hC dX7_addBytesOf_28 rfl ?_
  refine v_iushr hC dX7_addBytesOf_29 rfl ?_
  refine v_sipush hC dX7_addBytesOf_30 (v := 255) (by decide) ?_
  refine v_iand hC dX7_addBytesOf_33 rfl ?_
  refine v_iast hC m_aa_1 hf_9 (by unfold vp_in; decide) dX7_addBytesOf_34 (fun f_10 hf_11 hk_12 => ?_)
  obtain ⟨g_13, hf_11⟩ : ∃ g9, f_10 aa_1 = aI E 600 g9 := ⟨_, hf_11⟩
  have hf_14 := (hk_12 aa_0 (ne_kd hf_7 hf_9 rfl)).trans hf_7
  refine v_aload_n hC dX7_addBytesOf_35 rfl ?_
  refine v_dup hC dX7_addBytesOf_36 rfl ?_
  refine v_get hC fl_X7_19 m_aa_0 hf_14 rfl dX7_addBytesOf_37 ?_
  refine v_iconst hC dX7_addBytesOf_40 (v := 1) (by decide) ?_
  refine v_iadd hC dX7_addBytesOf_41 (v := 6) (by decide) ?_
  refine v_put hC fl_X7_19 m_aa_0 hf_14 rfl rfl (Nat.le_of_ble_eq_true rfl) (fs' := [.ref aa_1, .int 6, .int 0, .int 0, .int 0, .int 0, .int (-1)]) rfl dX7_addBytesOf_42 (fun f_15 hf_16 hk_17 => ?_)
  have hf_18 := (hk_17 aa_1 (ne_kd hf_11 hf_14 rfl)).trans hf_11
  refine v_iinc hC dX7_addBytesOf_45 (k := 0) rfl (v := 8) (by decide) (by decide) (lv' := [(2, .int 8), (0, .ref aa_0), (1, .int xx_0)]) rfl ?_
  refine v_goto hC dX7_addBytesOf_48 (tgt := 3) (by decide) ?_
  refine v_iload_n hC dX7_addBytesOf_3 rfl ?_
  refine v_if_lt_f hC dX7_addBytesOf_4 (tgt := 51) (by decide) (by decide) ?_
  refine v_aload_n hC dX7_addBytesOf_7 rfl ?_
  refine v_get hC fl_X7_19 m_aa_0 hf_16 rfl dX7_addBytesOf_8 ?_
  refine v_aload_n hC dX7_addBytesOf_11 rfl ?_
  refine v_get hC fl_X7_9 m_aa_0 hf_16 rfl dX7_addBytesOf_12 ?_
  refine v_alen hC m_aa_1 hf_18 (t := 1) rfl (v := 600) rfl dX7_addBytesOf_15 ?_
  refine v_icmp_ge_f hC dX7_addBytesOf_16 (tgt := 45) (by decide) (by decide) ?_
  refine v_aload_n hC dX7_addBytesOf_19 rfl ?_
  refine v_get hC fl_X7_9 m_aa_0 hf_16 rfl dX7_addBytesOf_20 ?_
  refine v_aload_n hC dX7_addBytesOf_23 rfl ?_
  refine v_get hC fl_X7_19 m_aa_0 hf_16 rfl dX7_addBytesOf_24 ?_
  refine v_iload_n hC dX7_addBytesOf_27 rfl ?_
  refine v_iload_n hC dX7_addBytesOf_28 rfl ?_
  refine v_iushr hC dX7_addBytesOf_29 rfl ?_
  refine v_sipush hC dX7_addBytesOf_30 (v := 255) (by decide) ?_
  refine v_iand hC dX7_addBytesOf_33 rfl ?_
  refine v_iast hC m_aa_1 hf_18 (by unfold vp_in; decide) dX7_addBytesOf_34 (fun f_19 hf_20 hk_21 => ?_)
  obtain ⟨g_22, hf_20⟩ : ∃ g9, f_19 aa_1 = aI E 600 g9 := ⟨_, hf_20⟩
  have hf_23 := (hk_21 aa_0 (ne_kd hf_16 hf_18 rfl)).trans hf_16
  refine v_aload_n hC dX7_addBytesOf_35 rfl ?_
  refine v_dup hC dX7_addBytesOf_36 rfl ?_
  refine v_get hC fl_X7_19 m_aa_0 hf_23 rfl dX7_addBytesOf_37 ?_
  refine v_iconst hC dX7_addBytesOf_40 (v := 1) (by decide) ?_
  refine v_iadd hC dX7_addBytesOf_41 (v := 7) (by decide) ?_
  refine v_put hC fl_X7_19 m_aa_0 hf_23 rfl rfl (Nat.le_of_ble_eq_true rfl) (fs' := [.ref aa_1, .int 7, .int 0, .int 0, .int 0, .int 0, .int (-1)]) rfl dX7_addBytesOf_42 (fun f_24 hf_25 hk_26 => ?_)
  have hf_27 := (hk_26 aa_1 (ne_kd hf_20 hf_23 rfl)).trans hf_20
  refine v_iinc hC dX7_addBytesOf_45 (k := 0) rfl (v := 0) (by decide) (by decide) (lv' := [(2, .int 0), (0, .ref aa_0), (1, .int xx_0)]) rfl ?_
  refine v_goto hC dX7_addBytesOf_48 (tgt := 3) (by decide) ?_
  refine v_iload_n hC dX7_addBytesOf_3 rfl ?_
  refine v_if_lt_f hC dX7_addBytesOf_4 (tgt := 51) (by decide) (by decide) ?_
  refine v_aload_n hC dX7_addBytesOf_7 rfl ?_
  refine v_get hC fl_X7_19 m_aa_0 hf_25 rfl dX7_addBytesOf_8 ?_
  refine v_aload_n hC dX7_addBytesOf_11 rfl ?_
  refine v_get hC fl_X7_9 m_aa_0 hf_25 rfl dX7_addBytesOf_12 ?_
  refine v_alen hC m_aa_1 hf_27 (t := 1) rfl (v := 600) rfl dX7_addBytesOf_15 ?_
  refine v_icmp_ge_f hC dX7_addBytesOf_16 (tgt := 45) (by decide) (by decide) ?_
  refine v_aload_n hC dX7_addBytesOf_19 rfl ?_
  refine v_get hC fl_X7_9 m_aa_0 hf_25 rfl dX7_addBytesOf_20 ?_
  refine v_aload_n hC dX7_addBytesOf_23 rfl ?_
  refine v_get hC fl_X7_19 m_aa_0 hf_25 rfl dX7_addBytesOf_24 ?_
  refine v_iload_n hC dX7_addBytesOf_27 rfl ?_
  refine v_iload_n hC dX7_addBytesOf_28 rfl ?_
  refine v_iushr hC dX7_addBytesOf_29 rfl ?_
  refine v_sipush hC dX7_addBytesOf_30 (v := 255) (by decide) ?_
  refine v_iand hC dX7_addBytesOf_33 rfl ?_
  refine v_iast hC m_aa_1 hf_27 (by unfold vp_in; decide) dX7_addBytesOf_34 (fun f_28 hf_29 hk_30 => ?_)
  obtain ⟨g_31, hf_29⟩ : ∃ g9, f_28 aa_1 = aI E 600 g9 := ⟨_, hf_29⟩
  have hf_32 := (hk_30 aa_0 (ne_kd hf_25 hf_27 rfl)).trans hf_25
  refine v_aload_n hC dX7_addBytesOf_35 rfl ?_
  refine v_dup hC dX7_addBytesOf_36 rfl ?_
  refine v_get hC fl_X7_19 m_aa_0 hf_32 rfl dX7_addBytesOf_37 ?_
  refine v_iconst hC dX7_addBytesOf_40 (v := 1) (by decide) ?_
  refine v_iadd hC dX7_addBytesOf_41 (v := 8) (by decide) ?_
  refine v_put hC fl_X7_19 m_aa_0 hf_32 rfl rfl (Nat.le_of_ble_eq_true rfl) (fs' := [.ref aa_1, .int 8, .int 0, .int 0, .int 0, .int 0, .int (-1)]) rfl dX7_addBytesOf_42 (fun f_33 hf_34 hk_35 => ?_)
  have hf_36 := (hk_35 aa_1 (ne_kd hf_29 hf_32 rfl)).trans hf_29
  refine v_iinc hC dX7_addBytesOf_45 (k := 0) rfl (v := (-8)) (by decide) (by decide) (lv' := [(2, .int (-8)), (0, .ref aa_0), (1, .int xx_0)]) rfl ?_
  refine v_goto hC dX7_addBytesOf_48 (tgt := 3) (by decide) ?_
  refine v_iload_n hC dX7_addBytesOf_3 rfl ?_
  refine v_if_lt_t hC dX7_addBytesOf_4 (tgt := 51) (by decide) (by decide) ?_
  exact hR _ _ _ _ _ _ dX7_addBytesOf_51 (Nat.le_of_ble_eq_true rfl) (Nat.le_of_ble_eq_true rfl) ⟨rfl, ⟨_, hf_36⟩, hf_34, fun b nn_0 nn_1 => ((hk_35 b nn_1).trans ((hk_30 b nn_0).trans ((hk_26 b nn_1).trans ((hk_21 b nn_0).trans ((hk_17 b nn_1).trans ((hk_12 b nn_0).trans ((hk_8 b nn_1).trans (hk_3 b nn_0))))))))⟩
set_option maxRecDepth 100000 in
set_option maxHeartbeats 4000000 in
theorem a59_X7_addBytesOf {l : Launch} {E : Ez} {L : List Nat} {f : Nat → va_E} {aa_0 aa_1 : Nat} {xx_0 : Int32} {gg_0 : Nat → Int32} (m_aa_0 : aa_0 ∈ L) (e_aa_0 : f aa_0 = ob 7 [.ref aa_1, .int 8, .int 0, .int 0, .int 0, .int 0, .int (-1)]) (m_aa_1 : aa_1 ∈ L) (e_aa_1 : f aa_1 = aI E 600 gg_0) : CV l yX7_addBytesOf cX7_addBytesOf 3 0 0 0 E [.ref aa_0, .int xx_0] L f (fun L1 f1 => L = L1 ∧ (∃ g9, f1 aa_1 = aI E 600 g9) ∧ f1 aa_0 = ob 7 [.ref aa_1, .int 12, .int 0, .int 0, .int 0, .int 0, .int (-1)] ∧ ∀ b, b ≠ aa_1 → b ≠ aa_0 → f1 b = f b) := by
  refine cv_of (by decide) (Nat.le_of_ble_eq_true rfl) (fun z hz hnm hC hR => ?_)
  have hC : Cx z E cX7_addBytesOf RX7 3 0 0 0 := hC
  subst hz
  show V z E 3 0 0 L f 0 [(0, .ref aa_0), (1, .int xx_0)] []
  refine v_bipush hC dX7_addBytesOf_0 (v := 24) (by decide) ?_
  refine v_istore_n hC dX7_addBytesOf_2 (by decide) (lv' := [(2, .int 24), (0, .ref aa_0), (1, .int xx_0)]) rfl ?_
  refine v_iload_n hC dX7_addBytesOf_3 rfl ?_
  refine v_if_lt_f hC dX7_addBytesOf_4 (tgt := 51) (by decide) (by decide) ?_
  refine v_aload_n hC dX7_addBytesOf_7 rfl ?_
  refine v_get hC fl_X7_19 m_aa_0 e_aa_0 rfl dX7_addBytesOf_8 ?_
  refine v_aload_n hC dX7_addBytesOf_11 rfl ?_
  refine v_get hC fl_X7_9 m_aa_0 e_aa_0 rfl dX7_addBytesOf_12 ?_
  refine v_alen hC m_aa_1 e_aa_1 (t := 1) rfl (v := 600) rfl dX7_addBytesOf_15 ?_
  refine v_icmp_ge_f hC dX7_addBytesOf_16 (tgt := 45) (by decide) (by decide) ?_
  refine v_aload_n hC dX7_addBytesOf_19 rfl ?_
  refine v_get hC fl_X7_9 m_aa_0 e_aa_0 rfl dX7_addBytesOf_20 ?_
  refine v_aload_n hC dX7_addBytesOf_23 rfl ?_
  refine v_get hC fl_X7_19 m_aa_0 e_aa_0 rfl dX7_addBytesOf_24 ?_
  refine v_iload_n hC dX7_addBytesOf_27 rfl ?_
  refine v_iload_n hC dX7_addBytesOf_28 rfl ?_
  refine v_iushr hC dX7_addBytesOf_29 rfl ?_
  refine v_sipush hC dX7_addBytesOf_30 (v := 255) (by decide) ?_
  refine v_iand hC dX7_addBytesOf_33 rfl ?_
  refine v_iast hC m_aa_1 e_aa_1 (by unfold vp_in; decide) dX7_addBytesOf_34 (fun f_1 hf_2 hk_3 => ?_)
  obtain ⟨g_4, hf_2⟩ : ∃ g9, f_1 aa_1 = aI E 600 g9 := ⟨_, hf_2⟩
  have hf_5 := (hk_3 aa_0 (ne_kd e_aa_0 e_aa_1 rfl)).trans e_aa_0
  refine v_aload_n hC dX7_addBytesOf_35 rfl ?_
  refine v_dup hC dX7_addBytesOf_36 rfl ?_
  refine v_get hC fl_X7_19 m_aa_0 hf_5 rfl dX7_addBytesOf_37 ?_
  refine v_iconst hC dX7_addBytesOf_40 (v := 1) (by decide) ?_
  refine v_iadd hC dX7_addBytesOf_41 (v := 9) (by decide) ?_
  refine v_put hC fl_X7_19 m_aa_0 hf_5 rfl rfl (Nat.le_of_ble_eq_true rfl) (fs' := [.ref aa_1, .int 9, .int 0, .int 0, .int 0, .int 0, .int (-1)]) rfl dX7_addBytesOf_42 (fun f_6 hf_7 hk_8 => ?_)
  have hf_9 := (hk_8 aa_1 (ne_kd hf_2 hf_5 rfl)).trans hf_2
  refine v_iinc hC dX7_addBytesOf_45 (k := 0) rfl (v := 16) (by decide) (by decide) (lv' := [(2, .int 16), (0, .ref aa_0), (1, .int xx_0)]) rfl ?_
  refine v_goto hC dX7_addBytesOf_48 (tgt := 3) (by decide) ?_
  refine v_iload_n hC dX7_addBytesOf_3 rfl ?_
  refine v_if_lt_f hC dX7_addBytesOf_4 (tgt := 51) (by decide) (by decide) ?_
  refine v_aload_n hC dX7_addBytesOf_7 rfl ?_
  refine v_get hC fl_X7_19 m_aa_0 hf_7 rfl dX7_addBytesOf_8 ?_
  refine v_aload_n hC dX7_addBytesOf_11 rfl ?_
  refine v_get hC fl_X7_9 m_aa_0 hf_7 rfl dX7_addBytesOf_12 ?_
  refine v_alen hC m_aa_1 hf_9 (t := 1) rfl (v := 600) rfl dX7_addBytesOf_15 ?_
  refine v_icmp_ge_f hC dX7_addBytesOf_16 (tgt := 45) (by decide) (by decide) ?_
  refine v_aload_n hC dX7_addBytesOf_19 rfl ?_
  refine v_get hC fl_X7_9 m_aa_0 hf_7 rfl dX7_addBytesOf_20 ?_
  refine v_aload_n hC dX7_addBytesOf_23 rfl ?_
  refine v_get hC fl_X7_19 m_aa_0 hf_7 rfl dX7_addBytesOf_24 ?_
  refine v_iload_n hC dX7_addBytesOf_27 rfl ?_
  refine v_iload_n hC dX7_addBytesOf_28 rfl ?_
  refine v_iushr hC dX7_addBytesOf_29 rfl ?_
  refine v_sipush hC dX7_addBytesOf_30 (v := 255) (by decide) ?_
  refine v_iand hC dX7_addBytesOf_33 rfl ?_
  refine v_iast hC m_aa_1 hf_9 (by unfold vp_in; decide) dX7_addBytesOf_34 (fun f_10 hf_11 hk_12 => ?_)
  obtain ⟨g_13, hf_11⟩ : ∃ g9, f_10 aa_1 = aI E 600 g9 := ⟨_, hf_11⟩
  have hf_14 := (hk_12 aa_0 (ne_kd hf_7 hf_9 rfl)).trans hf_7
  refine v_aload_n hC dX7_addBytesOf_35 rfl ?_
  refine v_dup hC dX7_addBytesOf_36 rfl ?_
  refine v_get hC fl_X7_19 m_aa_0 hf_14 rfl dX7_addBytesOf_37 ?_
  refine v_iconst hC dX7_addBytesOf_40 (v := 1) (by decide) ?_
  refine v_iadd hC dX7_addBytesOf_41 (v := 10) (by decide) ?_
  refine v_put hC fl_X7_19 m_aa_0 hf_14 rfl rfl (Nat.le_of_ble_eq_true rfl) (fs' := [.ref aa_1, .int 10, .int 0, .int 0, .int 0, .int 0, .int (-1)]) rfl dX7_addBytesOf_42 (fun f_15 hf_16 hk_17 => ?_)
  have hf_18 := (hk_17 aa_1 (ne_kd hf_11 hf_14 rfl)).trans hf_11
  refine v_iinc hC dX7_addBytesOf_45 (k := 0) rfl (v := 8) (by decide) (by decide) (lv' := [(2, .int 8), (0, .ref aa_0), (1, .int xx_0)]) rfl ?_
  refine v_goto hC dX7_addBytesOf_48 (tgt := 3) (by decide) ?_
  refine v_iload_n hC dX7_addBytesOf_3 rfl ?_
  refine v_if_lt_f hC dX7_addBytesOf_4 (tgt := 51) (by decide) (by decide) ?_
  refine v_aload_n hC dX7_addBytesOf_7 rfl ?_
  refine v_get hC fl_X7_19 m_aa_0 hf_16 rfl dX7_addBytesOf_8 ?_
  refine v_aload_n hC dX7_addBytesOf_11 rfl ?_
  refine v_get hC fl_X7_9 m_aa_0 hf_16 rfl dX7_addBytesOf_12 ?_
  refine v_alen hC m_aa_1 hf_18 (t := 1) rfl (v := 600) rfl dX7_addBytesOf_15 ?_
  refine v_icmp_ge_f hC dX7_addBytesOf_16 (tgt := 45) (by decide) (by decide) ?_
  refine v_aload_n hC dX7_addBytesOf_19 rfl ?_
  refine v_get hC fl_X7_9 m_aa_0 hf_16 rfl dX7_addBytesOf_20 ?_
  refine v_aload_n hC dX7_addBytesOf_23 rfl ?_
  refine v_get hC fl_X7_19 m_aa_0 hf_16 rfl dX7_addBytesOf_24 ?_
  refine v_iload_n hC dX7_addBytesOf_27 rfl ?_
  refine v_iload_n hC dX7_addBytesOf_28 rfl ?_
  refine v_iushr hC dX7_addBytesOf_29 rfl ?_
  refine v_sipush hC dX7_addBytesOf_30 (v := 255) (by decide) ?_
  refine v_iand hC dX7_addBytesOf_33 rfl ?_
  refine v_iast hC m_aa_1 hf_18 (by unfold vp_in; decide) dX7_addBytesOf_34 (fun f_19 hf_20 hk_21 => ?_)
  obtain ⟨g_22, hf_20⟩ : ∃ g9, f_19 aa_1 = aI E 600 g9 := ⟨_, hf_20⟩
  have hf_23 := (hk_21 aa_0 (ne_kd hf_16 hf_18 rfl)).trans hf_16
  refine v_aload_n hC dX7_addBytesOf_35 rfl ?_
  refine v_dup hC dX7_addBytesOf_36 rfl ?_
  refine v_get hC fl_X7_19 m_aa_0 hf_23 rfl dX7_addBytesOf_37 ?_
  refine v_iconst hC dX7_addBytesOf_40 (v := 1) (by decide) ?_
  refine v_iadd hC dX7_addBytesOf_41 (v := 11) (by decide) ?_
  refine v_put hC fl_X7_19 m_aa_0 hf_23 rfl rfl (Nat.le_of_ble_eq_true rfl) (fs' := [.ref aa_1, .int 11, .int 0, .int 0, .int 0, .int 0, .int (-1)]) rfl dX7_addBytesOf_42 (fun f_24 hf_25 hk_26 => ?_)
  have hf_27 := (hk_26 aa_1 (ne_kd hf_20 hf_23 rfl)).trans hf_20
  refine v_iinc hC dX7_addBytesOf_45 (k := 0) rfl (v := 0) (by decide) (by decide) (lv' := [(2, .int 0), (0, .ref aa_0), (1, .int xx_0)]) rfl ?_
  refine v_goto hC dX7_addBytesOf_48 (tgt := 3) (by decide) ?_
  refine v_iload_n hC dX7_addBytesOf_3 rfl ?_
  refine v_if_lt_f hC dX7_addBytesOf_4 (tgt := 51) (by decide) (by decide) ?_
  refine v_aload_n hC dX7_addBytesOf_7 rfl ?_
  refine v_get hC fl_X7_19 m_aa_0 hf_25 rfl dX7_addBytesOf_8 ?_
  refine v_aload_n hC dX7_addBytesOf_11 rfl ?_
  refine v_get hC fl_X7_9 m_aa_0 hf_25 rfl dX7_addBytesOf_12 ?_
  refine v_alen hC m_aa_1 hf_27 (t := 1) rfl (v := 600) rfl dX7_addBytesOf_15 ?_
  refine v_icmp_ge_f hC dX7_addBytesOf_16 (tgt := 45) (by decide) (by decide) ?_
  refine v_aload_n hC dX7_addBytesOf_19 rfl ?_
  refine v_get hC fl_X7_9 m_aa_0 hf_25 rfl dX7_addBytesOf_20 ?_
  refine v_aload_n hC dX7_addBytesOf_23 rfl ?_
  refine v_get hC fl_X7_19 m_aa_0 hf_25 rfl dX7_addBytesOf_24 ?_
  refine v_iload_n hC dX7_addBytesOf_27 rfl ?_
  refine v_iload_n hC dX7_addBytesOf_28 rfl ?_
  refine v_iushr hC dX7_addBytesOf_29 rfl ?_
  refine v_sipush hC dX7_addBytesOf_30 (v := 255) (by decide) ?_
  refine v_iand hC dX7_addBytesOf_33 rfl ?_
  refine v_iast hC m_aa_1 hf_27 (by unfold vp_in; decide) dX7_addBytesOf_34 (fun f_28 hf_29 hk_30 => ?_)
  obtain ⟨g_31, hf_29⟩ : ∃ g9, f_28 aa_1 = aI E 600 g9 := ⟨_, hf_29⟩
  have hf_32 := (hk_30 aa_0 (ne_kd hf_25 hf_27 rfl)).trans hf_25
  refine v_aload_n hC dX7_addBytesOf_35 rfl ?_
  refine v_dup hC dX7_addBytesOf_36 rfl ?_
  refine v_get hC fl_X7_19 m_aa_0 hf_32 rfl dX7_addBytesOf_37 ?_
  refine v_iconst hC dX7_addBytesOf_40 (v := 1) (by decide) ?_
  refine v_iadd hC dX7_addBytesOf_41 (v := 12) (by decide) ?_
  refine v_put hC fl_X7_19 m_aa_0 hf_32 rfl rfl (Nat.le_of_ble_eq_true rfl) (fs' := [.ref aa_1, .int 12, .int 0, .int 0, .int 0, .int 0, .int (-1)]) rfl dX7_addBytesOf_42 (fun f_33 hf_34 hk_35 => ?_)
  have hf_36 := (hk_35 aa_1 (ne_kd hf_29 hf_32 rfl)).trans hf_29
  refine v_iinc hC dX7_addBytesOf_45 (k := 0) rfl (v := (-8)) (by decide) (by decide) (lv' := [(2, .int (-8)), (0, .ref aa_0), (1, .int xx_0)]) rfl ?_
  refine v_goto hC dX7_addBytesOf_48 (tgt := 3) (by decide) ?_
  refine v_iload_n hC dX7_addBytesOf_3 rfl ?_
  refine v_if_lt_t hC dX7_addBytesOf_4 (tgt := 51) (by decide) (by decide) ?_
  exact hR _ _ _ _ _ _ dX7_addBytesOf_51 (Nat.le_of_ble_eq_true rfl) (Nat.le_of_ble_eq_true rfl) ⟨rfl, ⟨_, hf_36⟩, hf_34, fun b nn_0 nn_1 => ((hk_35 b nn_1).trans ((hk_30 b nn_0).trans ((hk_26 b nn_1).trans ((hk_21 b nn_0).trans ((hk_17 b nn_1).trans ((hk_12 b nn_0).trans ((hk_8 b nn_1).trans (hk_3 b nn_0))))))))⟩
set_option maxRecDepth 100000 in
set_option maxHeartbeats 4000000 in
theorem a61_X7_addBytesOf {l : Launch} {E : Ez} {L : List Nat} {f : Nat → va_E} {aa_0 aa_1 : Nat} {xx_0 : Int32} {gg_0 : Nat → Int32} (m_aa_0 : aa_0 ∈ L) (e_aa_0 : f aa_0 = ob 7 [.ref aa_1, .int 12, .int 0, .int 0, .int 0, .int 0, .int (-1)]) (m_aa_1 : aa_1 ∈ L) (e_aa_1 : f aa_1 = aI E 600 gg_0) : CV l yX7_addBytesOf cX7_addBytesOf 3 0 0 0 E [.ref aa_0, .int xx_0] L f (fun L1 f1 => L = L1 ∧ (∃ g9, f1 aa_1 = aI E 600 g9) ∧ f1 aa_0 = ob 7 [.ref aa_1, .int 16, .int 0, .int 0, .int 0, .int 0, .int (-1)] ∧ ∀ b, b ≠ aa_1 → b ≠ aa_0 → f1 b = f b) := by
  refine cv_of (by decide) (Nat.le_of_ble_eq_true rfl) (fun z hz hnm hC hR => ?_)
  have hC : Cx z E cX7_addBytesOf RX7 3 0 0 0 := hC
  subst hz
  show V z E 3 0 0 L f 0 [(0, .ref aa_0), (1, .int xx_0)] []
  refine v_bipush hC dX7_addBytesOf_0 (v := 24) (by decide) ?_
  refine v_istore_n hC dX7_addBytesOf_2 (by decide) (lv' := [(2, .int 24), (0, .ref aa_0), (1, .int xx_0)]) rfl ?_
  refine v_iload_n hC dX7_addBytesOf_3 rfl ?_
  refine v_if_lt_f hC dX7_addBytesOf_4 (tgt := 51) (by decide) (by decide) ?_
  refine v_aload_n hC dX7_addBytesOf_7 rfl ?_
  refine v_get hC fl_X7_19 m_aa_0 e_aa_0 rfl dX7_addBytesOf_8 ?_
  refine v_aload_n hC dX7_addBytesOf_11 rfl ?_
  refine v_get hC fl_X7_9 m_aa_0 e_aa_0 rfl dX7_addBytesOf_12 ?_
  refine v_alen hC m_aa_1 e_aa_1 (t := 1) rfl (v := 600) rfl dX7_addBytesOf_15 ?_
  refine v_icmp_ge_f hC dX7_addBytesOf_16 (tgt := 45) (by decide) (by decide) ?_
  refine v_aload_n hC dX7_addBytesOf_19 rfl ?_
  refine v_get hC fl_X7_9 m_aa_0 e_aa_0 rfl dX7_addBytesOf_20 ?_
  refine v_aload_n hC dX7_addBytesOf_23 rfl ?_
  refine v_get hC fl_X7_19 m_aa_0 e_aa_0 rfl dX7_addBytesOf_24 ?_
  refine v_iload_n hC dX7_addBytesOf_27 rfl ?_
  refine v_iload_n hC dX7_addBytesOf_28 rfl ?_
  refine v_iushr hC dX7_addBytesOf_29 rfl ?_
  refine v_sipush hC dX7_addBytesOf_30 (v := 255) (by decide) ?_
  refine v_iand hC dX7_addBytesOf_33 rfl ?_
  refine v_iast hC m_aa_1 e_aa_1 (by unfold vp_in; decide) dX7_addBytesOf_34 (fun f_1 hf_2 hk_3 => ?_)
  obtain ⟨g_4, hf_2⟩ : ∃ g9, f_1 aa_1 = aI E 600 g9 := ⟨_, hf_2⟩
  have hf_5 := (hk_3 aa_0 (ne_kd e_aa_0 e_aa_1 rfl)).trans e_aa_0
  refine v_aload_n hC dX7_addBytesOf_35 rfl ?_
  refine v_dup hC dX7_addBytesOf_36 rfl ?_
  refine v_get hC fl_X7_19 m_aa_0 hf_5 rfl dX7_addBytesOf_37 ?_
  refine v_iconst hC dX7_addBytesOf_40 (v := 1) (by decide) ?_
  refine v_iadd hC dX7_addBytesOf_41 (v := 13) (by decide) ?_
  refine v_put hC fl_X7_19 m_aa_0 hf_5 rfl rfl (Nat.le_of_ble_eq_true rfl) (fs' := [.ref aa_1, .int 13, .int 0, .int 0, .int 0, .int 0, .int (-1)]) rfl dX7_addBytesOf_42 (fun f_6 hf_7 hk_8 => ?_)
  have hf_9 := (hk_8 aa_1 (ne_kd hf_2 hf_5 rfl)).trans hf_2
  refine v_iinc hC dX7_addBytesOf_45 (k := 0) rfl (v := 16) (by decide) (by decide) (lv' := [(2, .int 16), (0, .ref aa_0), (1, .int xx_0)]) rfl ?_
  refine v_goto hC dX7_addBytesOf_48 (tgt := 3) (by decide) ?_
  refine v_iload_n hC dX7_addBytesOf_3 rfl ?_
  refine v_if_lt_f hC dX7_addBytesOf_4 (tgt := 51) (by decide) (by decide) ?_
  refine v_aload_n hC dX7_addBytesOf_7 rfl ?_
  refine v_get hC fl_X7_19 m_aa_0 hf_7 rfl dX7_addBytesOf_8 ?_
  refine v_aload_n hC dX7_addBytesOf_11 rfl ?_
  refine v_get hC fl_X7_9 m_aa_0 hf_7 rfl dX7_addBytesOf_12 ?_
  refine v_alen hC m_aa_1 hf_9 (t := 1) rfl (v := 600) rfl dX7_addBytesOf_15 ?_
  refine v_icmp_ge_f hC dX7_addBytesOf_16 (tgt := 45) (by decide) (by decide) ?_
  refine v_aload_n hC dX7_addBytesOf_19 rfl ?_
  refine v_get hC fl_X7_9 m_aa_0 hf_7 rfl dX7_addBytesOf_20 ?_
  refine v_aload_n hC dX7_addBytesOf_23 rfl ?_
  refine v_get hC fl_X7_19 m_aa_0 hf_7 rfl dX7_addBytesOf_24 ?_
  refine v_iload_n hC dX7_addBytesOf_27 rfl ?_
  refine v_iload_n hC dX7_addBytesOf_28 rfl ?_
  refine v_iushr hC dX7_addBytesOf_29 rfl ?_
  refine v_sipush hC dX7_addBytesOf_30 (v := 255) (by decide) ?_
  refine v_iand hC dX7_addBytesOf_33 rfl ?_
  refine v_iast hC m_aa_1 hf_9 (by unfold vp_in; decide) dX7_addBytesOf_34 (fun f_10 hf_11 hk_12 => ?_)
  obtain ⟨g_13, hf_11⟩ : ∃ g9, f_10 aa_1 = aI E 600 g9 := ⟨_, hf_11⟩
  have hf_14 := (hk_12 aa_0 (ne_kd hf_7 hf_9 rfl)).trans hf_7
  refine v_aload_n hC dX7_addBytesOf_35 rfl ?_
  refine v_dup hC dX7_addBytesOf_36 rfl ?_
  refine v_get hC fl_X7_19 m_aa_0 hf_14 rfl dX7_addBytesOf_37 ?_
  refine v_iconst hC dX7_addBytesOf_40 (v := 1) (by decide) ?_
  refine v_iadd hC dX7_addBytesOf_41 (v := 14) (by decide) ?_
  refine v_put hC fl_X7_19 m_aa_0 hf_14 rfl rfl (Nat.le_of_ble_eq_true rfl) (fs' := [.ref aa_1, .int 14, .int 0, .int 0, .int 0, .int 0, .int (-1)]) rfl dX7_addBytesOf_42 (fun f_15 hf_16 hk_17 => ?_)
  have hf_18 := (hk_17 aa_1 (ne_kd hf_11 hf_14 rfl)).trans hf_11
  refine v_iinc hC dX7_addBytesOf_45 (k := 0) rfl (v := 8) (by decide) (by decide) (lv' := [(2, .int 8), (0, .ref aa_0), (1, .int xx_0)]) rfl ?_
  refine v_goto hC dX7_addBytesOf_48 (tgt := 3) (by decide) ?_
  refine v_iload_n hC dX7_addBytesOf_3 rfl ?_
  refine v_if_lt_f hC dX7_addBytesOf_4 (tgt := 51) (by decide) (by decide) ?_
  refine v_aload_n hC dX7_addBytesOf_7 rfl ?_
  refine v_get hC fl_X7_19 m_aa_0 hf_16 rfl dX7_addBytesOf_8 ?_
  refine v_aload_n hC dX7_addBytesOf_11 rfl ?_
  refine v_get hC fl_X7_9 m_aa_0 hf_16 rfl dX7_addBytesOf_12 ?_
  refine v_alen hC m_aa_1 hf_18 (t := 1) rfl (v := 600) rfl dX7_addBytesOf_15 ?_
  refine v_icmp_ge_f hC dX7_addBytesOf_16 (tgt := 45) (by decide) (by decide) ?_
  refine v_aload_n hC dX7_addBytesOf_19 rfl ?_
  refine v_get hC fl_X7_9 m_aa_0 hf_16 rfl dX7_addBytesOf_20 ?_
  refine v_aload_n hC dX7_addBytesOf_23 rfl ?_
  refine v_get hC fl_X7_19 m_aa_0 hf_16 rfl dX7_addBytesOf_24 ?_
  refine v_iload_n hC dX7_addBytesOf_27 rfl ?_
  refine v_iload_n hC dX7_addBytesOf_28 rfl ?_
  refine v_iushr hC dX7_addBytesOf_29 rfl ?_
  refine v_sipush hC dX7_addBytesOf_30 (v := 255) (by decide) ?_
  refine v_iand hC dX7_addBytesOf_33 rfl ?_
  refine v_iast hC m_aa_1 hf_18 (by unfold vp_in; decide) dX7_addBytesOf_34 (fun f_19 hf_20 hk_21 => ?_)
  obtain ⟨g_22, hf_20⟩ : ∃ g9, f_19 aa_1 = aI E 600 g9 := ⟨_, hf_20⟩
  have hf_23 := (hk_21 aa_0 (ne_kd hf_16 hf_18 rfl)).trans hf_16
  refine v_aload_n hC dX7_addBytesOf_35 rfl ?_
  refine v_dup hC dX7_addBytesOf_36 rfl ?_
  refine v_get hC fl_X7_19 m_aa_0 hf_23 rfl dX7_addBytesOf_37 ?_
  refine v_iconst hC dX7_addBytesOf_40 (v := 1) (by decide) ?_
  refine v_iadd hC dX7_addBytesOf_41 (v := 15) (by decide) ?_
  refine v_put hC fl_X7_19 m_aa_0 hf_23 rfl rfl (Nat.le_of_ble_eq_true rfl) (fs' := [.ref aa_1, .int 15, .int 0, .int 0, .int 0, .int 0, .int (-1)]) rfl dX7_addBytesOf_42 (fun f_24 hf_25 hk_26 => ?_)
  have hf_27 := (hk_26 aa_1 (ne_kd hf_20 hf_23 rfl)).trans hf_20
  refine v_iinc hC dX7_addBytesOf_45 (k := 0) rfl (v := 0) (by decide) (by decide) (lv' := [(2, .int 0), (0, .ref aa_0), (1, .int xx_0)]) rfl ?_
  refine v_goto hC dX7_addBytesOf_48 (tgt := 3) (by decide) ?_
  refine v_iload_n hC dX7_addBytesOf_3 rfl ?_
  refine v_if_lt_f hC dX7_addBytesOf_4 (tgt := 51) (by decide) (by decide) ?_
  refine v_aload_n hC dX7_addBytesOf_7 rfl ?_
  refine v_get hC fl_X7_19 m_aa_0 hf_25 rfl dX7_addBytesOf_8 ?_
  refine v_aload_n hC dX7_addBytesOf_11 rfl ?_
  refine v_get hC fl_X7_9 m_aa_0 hf_25 rfl dX7_addBytesOf_12 ?_
  refine v_alen hC m_aa_1 hf_27 (t := 1) rfl (v := 600) rfl dX7_addBytesOf_15 ?_
  refine v_icmp_ge_f hC dX7_addBytesOf_16 (tgt := 45) (by decide) (by decide) ?_
  refine v_aload_n hC dX7_addBytesOf_19 rfl ?_
  refine v_get hC fl_X7_9 m_aa_0 hf_25 rfl dX7_addBytesOf_20 ?_
  refine v_aload_n hC dX7_addBytesOf_23 rfl ?_
  refine v_get hC fl_X7_19 m_aa_0 hf_25 rfl dX7_addBytesOf_24 ?_
  refine v_iload_n hC dX7_addBytesOf_27 rfl ?_
  refine v_iload_n hC dX7_addBytesOf_28 rfl ?_
  refine v_iushr hC dX7_addBytesOf_29 rfl ?_
  refine v_sipush hC dX7_addBytesOf_30 (v := 255) (by decide) ?_
  refine v_iand hC dX7_addBytesOf_33 rfl ?_
  refine v_iast hC m_aa_1 hf_27 (by unfold vp_in; decide) dX7_addBytesOf_34 (fun f_28 hf_29 hk_30 => ?_)
  obtain ⟨g_31, hf_29⟩ : ∃ g9, f_28 aa_1 = aI E 600 g9 := ⟨_, hf_29⟩
  have hf_32 := (hk_30 aa_0 (ne_kd hf_25 hf_27 rfl)).trans hf_25
  refine v_aload_n hC dX7_addBytesOf_35 rfl ?_
  refine v_dup hC dX7_addBytesOf_36 rfl ?_
  refine v_get hC fl_X7_19 m_aa_0 hf_32 rfl dX7_addBytesOf_37 ?_
  refine v_iconst hC dX7_addBytesOf_40 (v := 1) (by decide) ?_
  refine v_iadd hC dX7_addBytesOf_41 (v := 16) (by decide) ?_
  refine v_put hC fl_X7_19 m_aa_0 hf_32 rfl rfl (Nat.le_of_ble_eq_true rfl) (fs' := [.ref aa_1, .int 16, .int 0, .int 0, .int 0, .int 0, .int (-1)]) rfl dX7_addBytesOf_42 (fun f_33 hf_34 hk_35 => ?_)
  have hf_36 := (hk_35 aa_1 (ne_kd hf_29 hf_32 rfl)).trans hf_29
  refine v_iinc hC dX7_addBytesOf_45 (k := 0) rfl (v := (-8)) (by decide) (by decide) (lv' := [(2, .int (-8)), (0, .ref aa_0), (1, .int xx_0)]) rfl ?_
  refine v_goto hC dX7_addBytesOf_48 (tgt := 3) (by decide) ?_
  refine v_iload_n hC dX7_addBytesOf_3 rfl ?_
  refine v_if_lt_t hC dX7_addBytesOf_4 (tgt := 51) (by decide) (by decide) ?_
  exact hR _ _ _ _ _ _ dX7_addBytesOf_51 (Nat.le_of_ble_eq_true rfl) (Nat.le_of_ble_eq_true rfl) ⟨rfl, ⟨_, hf_36⟩, hf_34, fun b nn_0 nn_1 => ((hk_35 b nn_1).trans ((hk_30 b nn_0).trans ((hk_26 b nn_1).trans ((hk_21 b nn_0).trans ((hk_17 b nn_1).trans ((hk_12 b nn_0).trans ((hk_8 b nn_1).trans (hk_3 b nn_0))))))))⟩
set_option maxRecDepth 100000 in
set_option maxHeartbeats 4000000 in
theorem a63_X7_addBytesOf {l : Launch} {E : Ez} {L : List Nat} {f : Nat → va_E} {aa_0 aa_1 : Nat} {xx_0 : Int32} {gg_0 : Nat → Int32} (m_aa_0 : aa_0 ∈ L) (e_aa_0 : f aa_0 = ob 7 [.ref aa_1, .int 16, .int 0, .int 0, .int 0, .int 0, .int (-1)]) (m_aa_1 : aa_1 ∈ L) (e_aa_1 : f aa_1 = aI E 600 gg_0) : CV l yX7_addBytesOf cX7_addBytesOf 3 0 0 0 E [.ref aa_0, .int xx_0] L f (fun L1 f1 => L = L1 ∧ (∃ g9, f1 aa_1 = aI E 600 g9) ∧ f1 aa_0 = ob 7 [.ref aa_1, .int 20, .int 0, .int 0, .int 0, .int 0, .int (-1)] ∧ ∀ b, b ≠ aa_1 → b ≠ aa_0 → f1 b = f b) := by
  refine cv_of (by decide) (Nat.le_of_ble_eq_true rfl) (fun z hz hnm hC hR => ?_)
  have hC : Cx z E cX7_addBytesOf RX7 3 0 0 0 := hC
  subst hz
  show V z E 3 0 0 L f 0 [(0, .ref aa_0), (1, .int xx_0)] []
  refine v_bipush hC dX7_addBytesOf_0 (v := 24) (by decide) ?_
  refine v_istore_n hC dX7_addBytesOf_2 (by decide) (lv' := [(2, .int 24), (0, .ref aa_0), (1, .int xx_0)]) rfl ?_
  refine v_iload_n hC dX7_addBytesOf_3 rfl ?_
  refine v_if_lt_f hC dX7_addBytesOf_4 (tgt := 51) (by decide) (by decide) ?_
  refine v_aload_n hC dX7_addBytesOf_7 rfl ?_
  refine v_get hC fl_X7_19 m_aa_0 e_aa_0 rfl dX7_addBytesOf_8 ?_
  refine v_aload_n hC dX7_addBytesOf_11 rfl ?_
  refine v_get hC fl_X7_9 m_aa_0 e_aa_0 rfl dX7_addBytesOf_12 ?_
  refine v_alen hC m_aa_1 e_aa_1 (t := 1) rfl (v := 600) rfl dX7_addBytesOf_15 ?_
  refine v_icmp_ge_f hC dX7_addBytesOf_16 (tgt := 45) (by decide) (by decide) ?_
  refine v_aload_n hC dX7_addBytesOf_19 rfl ?_
  refine v_get hC fl_X7_9 m_aa_0 e_aa_0 rfl dX7_addBytesOf_20 ?_
  refine v_aload_n hC dX7_addBytesOf_23 rfl ?_
  refine v_get hC fl_X7_19 m_aa_0 e_aa_0 rfl dX7_addBytesOf_24 ?_
  refine v_iload_n hC dX7_addBytesOf_27 rfl ?_
  refine v_iload_n hC dX7_addBytesOf_28 rfl ?_
  refine v_iushr hC dX7_addBytesOf_29 rfl ?_
  refine v_sipush hC dX7_addBytesOf_30 (v := 255) (by decide) ?_
  refine v_iand hC dX7_addBytesOf_33 rfl ?_
  refine v_iast hC m_aa_1 e_aa_1 (by unfold vp_in; decide) dX7_addBytesOf_34 (fun f_1 hf_2 hk_3 => ?_)
  obtain ⟨g_4, hf_2⟩ : ∃ g9, f_1 aa_1 = aI E 600 g9 := ⟨_, hf_2⟩
  have hf_5 := (hk_3 aa_0 (ne_kd e_aa_0 e_aa_1 rfl)).trans e_aa_0
  refine v_aload_n hC dX7_addBytesOf_35 rfl ?_
  refine v_dup hC dX7_addBytesOf_36 rfl ?_
  refine v_get hC fl_X7_19 m_aa_0 hf_5 rfl dX7_addBytesOf_37 ?_
  refine v_iconst hC dX7_addBytesOf_40 (v := 1) (by decide) ?_
  refine v_iadd hC dX7_addBytesOf_41 (v := 17) (by decide) ?_
  refine v_put hC fl_X7_19 m_aa_0 hf_5 rfl rfl (Nat.le_of_ble_eq_true rfl) (fs' := [.ref aa_1, .int 17, .int 0, .int 0, .int 0, .int 0, .int (-1)]) rfl dX7_addBytesOf_42 (fun f_6 hf_7 hk_8 => ?_)
  have hf_9 := (hk_8 aa_1 (ne_kd hf_2 hf_5 rfl)).trans hf_2
  refine v_iinc hC dX7_addBytesOf_45 (k := 0) rfl (v := 16) (by decide) (by decide) (lv' := [(2, .int 16), (0, .ref aa_0), (1, .int xx_0)]) rfl ?_
  refine v_goto hC dX7_addBytesOf_48 (tgt := 3) (by decide) ?_
  refine v_iload_n hC dX7_addBytesOf_3 rfl ?_
  refine v_if_lt_f hC dX7_addBytesOf_4 (tgt := 51) (by decide) (by decide) ?_
  refine v_aload_n hC dX7_addBytesOf_7 rfl ?_
  refine v_get hC fl_X7_19 m_aa_0 hf_7 rfl dX7_addBytesOf_8 ?_
  refine v_aload_n hC dX7_addBytesOf_11 rfl ?_
  refine v_get hC fl_X7_9 m_aa_0 hf_7 rfl dX7_addBytesOf_12 ?_
  refine v_alen hC m_aa_1 hf_9 (t := 1) rfl (v := 600) rfl dX7_addBytesOf_15 ?_
  refine v_icmp_ge_f hC dX7_addBytesOf_16 (tgt := 45) (by decide) (by decide) ?_
  refine v_aload_n hC dX7_addBytesOf_19 rfl ?_
  refine v_get hC fl_X7_9 m_aa_0 hf_7 rfl dX7_addBytesOf_20 ?_
  refine v_aload_n hC dX7_addBytesOf_23 rfl ?_
  refine v_get hC fl_X7_19 m_aa_0 hf_7 rfl dX7_addBytesOf_24 ?_
  refine v_iload_n hC dX7_addBytesOf_27 rfl ?_
  refine v_iload_n hC dX7_addBytesOf_28 rfl ?_
  refine v_iushr hC dX7_addBytesOf_29 rfl ?_
  refine v_sipush hC dX7_addBytesOf_30 (v := 255) (by decide) ?_
  refine v_iand hC dX7_addBytesOf_33 rfl ?_
  refine v_iast hC m_aa_1 hf_9 (by unfold vp_in; decide) dX7_addBytesOf_34 (fun f_10 hf_11 hk_12 => ?_)
  obtain ⟨g_13, hf_11⟩ : ∃ g9, f_10 aa_1 = aI E 600 g9 := ⟨_, hf_11⟩
  have hf_14 := (hk_12 aa_0 (ne_kd hf_7 hf_9 rfl)).trans hf_7
  refine v_aload_n hC dX7_addBytesOf_35 rfl ?_
  refine v_dup hC dX7_addBytesOf_36 rfl ?_
  refine v_get hC fl_X7_19 m_aa_0 hf_14 rfl dX7_addBytesOf_37 ?_
  refine v_iconst hC dX7_addBytesOf_40 (v := 1) (by decide) ?_
  refine v_iadd hC dX7_addBytesOf_41 (v := 18) (by decide) ?_
  refine v_put hC fl_X7_19 m_aa_0 hf_14 rfl rfl (Nat.le_of_ble_eq_true rfl) (fs' := [.ref aa_1, .int 18, .int 0, .int 0, .int 0, .int 0, .int (-1)]) rfl dX7_addBytesOf_42 (fun f_15 hf_16 hk_17 => ?_)
  have hf_18 := (hk_17 aa_1 (ne_kd hf_11 hf_14 rfl)).trans hf_11
  refine v_iinc hC dX7_addBytesOf_45 (k := 0) rfl (v := 8) (by decide) (by decide) (lv' := [(2, .int 8), (0, .ref aa_0), (1, .int xx_0)]) rfl ?_
  refine v_goto hC dX7_addBytesOf_48 (tgt := 3) (by decide) ?_
  refine v_iload_n hC dX7_addBytesOf_3 rfl ?_
  refine v_if_lt_f hC dX7_addBytesOf_4 (tgt := 51) (by decide) (by decide) ?_
  refine v_aload_n hC dX7_addBytesOf_7 rfl ?_
  refine v_get hC fl_X7_19 m_aa_0 hf_16 rfl dX7_addBytesOf_8 ?_
  refine v_aload_n hC dX7_addBytesOf_11 rfl ?_
  refine v_get hC fl_X7_9 m_aa_0 hf_16 rfl dX7_addBytesOf_12 ?_
  refine v_alen hC m_aa_1 hf_18 (t := 1) rfl (v := 600) rfl dX7_addBytesOf_15 ?_
  refine v_icmp_ge_f hC dX7_addBytesOf_16 (tgt := 45) (by decide) (by decide) ?_
  refine v_aload_n hC dX7_addBytesOf_19 rfl ?_
  refine v_get hC fl_X7_9 m_aa_0 hf_16 rfl dX7_addBytesOf_20 ?_
  refine v_aload_n hC dX7_addBytesOf_23 rfl ?_
  refine v_get hC fl_X7_19 m_aa_0 hf_16 rfl dX7_addBytesOf_24 ?_
  refine v_iload_n hC dX7_addBytesOf_27 rfl ?_
  refine v_iload_n hC dX7_addBytesOf_28 rfl ?_
  refine v_iushr hC dX7_addBytesOf_29 rfl ?_
  refine v_sipush hC dX7_addBytesOf_30 (v := 255) (by decide) ?_
  refine v_iand hC dX7_addBytesOf_33 rfl ?_
  refine v_iast hC m_aa_1 hf_18 (by unfold vp_in; decide) dX7_addBytesOf_34 (fun f_19 hf_20 hk_21 => ?_)
  obtain ⟨g_22, hf_20⟩ : ∃ g9, f_19 aa_1 = aI E 600 g9 := ⟨_, hf_20⟩
  have hf_23 := (hk_21 aa_0 (ne_kd hf_16 hf_18 rfl)).trans hf_16
  refine v_aload_n hC dX7_addBytesOf_35 rfl ?_
  refine v_dup hC dX7_addBytesOf_36 rfl ?_
  refine v_get hC fl_X7_19 m_aa_0 hf_23 rfl dX7_addBytesOf_37 ?_
  refine v_iconst hC dX7_addBytesOf_40 (v := 1) (by decide) ?_
  refine v_iadd hC dX7_addBytesOf_41 (v := 19) (by decide) ?_
  refine v_put hC fl_X7_19 m_aa_0 hf_23 rfl rfl (Nat.le_of_ble_eq_true rfl) (fs' := [.ref aa_1, .int 19, .int 0, .int 0, .int 0, .int 0, .int (-1)]) rfl dX7_addBytesOf_42 (fun f_24 hf_25 hk_26 => ?_)
  have hf_27 := (hk_26 aa_1 (ne_kd hf_20 hf_23 rfl)).trans hf_20
  refine v_iinc hC dX7_addBytesOf_45 (k := 0) rfl (v := 0) (by decide) (by decide) (lv' := [(2, .int 0), (0, .ref aa_0), (1, .int xx_0)]) rfl ?_
  refine v_goto hC dX7_addBytesOf_48 (tgt := 3) (by decide) ?_
  refine v_iload_n hC dX7_addBytesOf_3 rfl ?_
  refine v_if_lt_f hC dX7_addBytesOf_4 (tgt := 51) (by decide) (by decide) ?_
  refine v_aload_n hC dX7_addBytesOf_7 rfl ?_
  refine v_get hC fl_X7_19 m_aa_0 hf_25 rfl dX7_addBytesOf_8 ?_
  refine v_aload_n hC dX7_addBytesOf_11 rfl ?_
  refine v_get hC fl_X7_9 m_aa_0 hf_25 rfl dX7_addBytesOf_12 ?_
  refine v_alen hC m_aa_1 hf_27 (t := 1) rfl (v := 600) rfl dX7_addBytesOf_15 ?_
  refine v_icmp_ge_f hC dX7_addBytesOf_16 (tgt := 45) (by decide) (by decide) ?_
  refine v_aload_n hC dX7_addBytesOf_19 rfl ?_
  refine v_get hC fl_X7_9 m_aa_0 hf_25 rfl dX7_addBytesOf_20 ?_
  refine v_aload_n hC dX7_addBytesOf_23 rfl ?_
  refine v_get hC fl_X7_19 m_aa_0 hf_25 rfl dX7_addBytesOf_24 ?_
  refine v_iload_n hC dX7_addBytesOf_27 rfl ?_
  refine v_iload_n hC dX7_addBytesOf_28 rfl ?_
  refine v_iushr hC dX7_addBytesOf_29 rfl ?_
  refine v_sipush hC dX7_addBytesOf_30 (v := 255) (by decide) ?_
  refine v_iand hC dX7_addBytesOf_33 rfl ?_
  refine v_iast hC m_aa_1 hf_27 (by unfold vp_in; decide) dX7_addBytesOf_34 (fun f_28 hf_29 hk_30 => ?_)
  obtain ⟨g_31, hf_29⟩ : ∃ g9, f_28 aa_1 = aI E 600 g9 := ⟨_, hf_29⟩
  have hf_32 := (hk_30 aa_0 (ne_kd hf_25 hf_27 rfl)).trans hf_25
  refine v_aload_n hC dX7_addBytesOf_35 rfl ?_
  refine v_dup hC dX7_addBytesOf_36 rfl ?_
  refine v_get hC fl_X7_19 m_aa_0 hf_32 rfl dX7_addBytesOf_37 ?_
  refine v_iconst hC dX7_addBytesOf_40 (v := 1) (by decide) ?_
  refine v_iadd hC dX7_addBytesOf_41 (v := 20) (by decide) ?_
  refine v_put hC fl_X7_19 m_aa_0 hf_32 rfl rfl (Nat.le_of_ble_eq_true rfl) (fs' := [.ref aa_1, .int 20, .int 0, .int 0, .int 0, .int 0, .int (-1)]) rfl dX7_addBytesOf_42 (fun f_33 hf_34 hk_35 => ?_)
  have hf_36 := (hk_35 aa_1 (ne_kd hf_29 hf_32 rfl)).trans hf_29
  refine v_iinc hC dX7_addBytesOf_45 (k := 0) rfl (v := (-8)) (by decide) (by decide) (lv' := [(2, .int (-8)), (0, .ref aa_0), (1, .int xx_0)]) rfl ?_
  refine v_goto hC dX7_addBytesOf_48 (tgt := 3) (by decide) ?_
  refine v_iload_n hC dX7_addBytesOf_3 rfl ?_
  refine v_if_lt_t hC dX7_addBytesOf_4 (tgt := 51) (by decide) (by decide) ?_
  exact hR _ _ _ _ _ _ dX7_addBytesOf_51 (Nat.le_of_ble_eq_true rfl) (Nat.le_of_ble_eq_true rfl) ⟨rfl, ⟨_, hf_36⟩, hf_34, fun b nn_0 nn_1 => ((hk_35 b nn_1).trans ((hk_30 b nn_0).trans ((hk_26 b nn_1).trans ((hk_21 b nn_0).trans ((hk_17 b nn_1).trans ((hk_12 b nn_0).trans ((hk_8 b nn_1).trans (hk_3 b nn_0))))))))⟩
set_option maxRecDepth 100000 in
set_option maxHeartbeats 4000000 in
theorem x_feed {l : Launch} {E : Ez} {L : List Nat} {f : Nat → va_E} {he im la nl now np ns nw nwa sl t ta tb tr wa x : Nat} {a : Int32} {b : Int32} {c : Int32} {d : Int32} {e : Int32} (m_x : x ∈ L) (e_x : f x = ob 11 [.ref t, .ref now, .ref im, .ref la, .ref sl, .ref np, .ref ns, .ref nw, .ref nwa, .ref nl, .ref he, .ref wa, .ref tr, .ref ta]) (m_t : t ∈ L) (e_t : f t = ob 7 [.ref tb, .int 0, .int 0, .int 0, .int 0, .int 0, .int (-1)]) (m_tb : tb ∈ L) (e_tb : f tb = aI E 600 (fun _ => 0)) : CI l yX11_feed cX11_feed 6 .int 1 0 0 E [.ref x, .int a, .int b, .int c, .int d, .int e] L f (fun r L1 f1 => (20 : Int32) = r) := by
  refine ci_of (by decide) (Nat.le_of_ble_eq_true rfl) (fun z hz hnm hC hR => ?_)
  have hC : Cx z E cX11_feed RX11 6 1 0 0 := hC
  subst hz
  show V z E 6 0 0 L f 0 [(0, .ref x), (1, .int a), (2, .int b), (3, .int c), (4, .int d), (5, .int e)] []
  refine v_aload_n hC dX11_feed_0 rfl ?_
  refine v_get hC fl_X11_12 m_x e_x rfl dX11_feed_1 ?_
  refine v_bipush hC dX11_feed_4 (v := 20) (by decide) ?_
  refine v_vi hC (rest := []) m_t e_t rfl mi_X7_hasRoomFor ms_X7_hasRoomFor (a53_X7_hasRoomFor m_t e_t) mx_X7_hasRoomFor ml_X11_97 (by decide) rfl (cells1 := 0) (slots1 := 0) (by decide) (by decide) (Nat.le_of_ble_eq_true rfl) (Nat.le_of_ble_eq_true rfl) rfl (Nat.le_of_ble_eq_true rfl) dX11_feed_6 (fun r_1 L_2 f_3 h_4 => ?_)
  obtain ⟨rfl, rfl, rfl⟩ := h_4
  refine v_if_ne_t hC dX11_feed_9 (tgt := 14) (by decide) (by decide) ?_
  refine v_aload_n hC dX11_feed_14 rfl ?_
  refine v_get hC fl_X11_12 m_x e_x rfl dX11_feed_15 ?_
  refine v_iload_n hC dX11_feed_18 rfl ?_
  refine v_vv hC (rest := []) m_t e_t rfl mi_X7_addBytesOf ms_X7_addBytesOf (a55_X7_addBytesOf m_t e_t m_tb e_tb) mx_X7_addBytesOf ml_X11_101 (by decide) rfl (cells1 := 0) (slots1 := 0) (by decide) (by decide) (Nat.le_of_ble_eq_true rfl) (Nat.le_of_ble_eq_true rfl) rfl (Nat.le_of_ble_eq_true rfl) dX11_feed_19 (fun L_6 f_7 h_8 => ?_)
  obtain ⟨rfl, ⟨g_12, hf_9⟩, hf_10, hk_11⟩ := h_8
  have hf_13 := (hk_11 x (ne_kd e_x e_tb rfl) (ne_kd e_x e_t rfl)).trans e_x
  refine v_aload_n hC dX11_feed_22 rfl ?_
  refine v_get hC fl_X11_12 m_x hf_13 rfl dX11_feed_23 ?_
  refine v_iload_n hC dX11_feed_26 rfl ?_
  refine v_vv hC (rest := []) m_t hf_10 rfl mi_X7_addBytesOf ms_X7_addBytesOf (a57_X7_addBytesOf m_t hf_10 m_tb hf_9) mx_X7_addBytesOf ml_X11_101 (by decide) rfl (cells1 := 0) (slots1 := 0) (by decide) (by decide) (Nat.le_of_ble_eq_true rfl) (Nat.le_of_ble_eq_true rfl) rfl (Nat.le_of_ble_eq_true rfl) dX11_feed_27 (fun L_15 f_16 h_17 => ?_)
  obtain ⟨rfl, ⟨g_21, hf_18⟩, hf_19, hk_20⟩ := h_17
  have hf_22 := (hk_20 x (ne_kd hf_13 hf_9 rfl) (ne_kd hf_13 hf_10 rfl)).trans hf_13
  refine v_aload_n hC dX11_feed_30 rfl ?_
  refine v_get hC fl_X11_12 m_x hf_22 rfl dX11_feed_31 ?_
  refine v_iload_n hC dX11_feed_34 rfl ?_
  refine v_vv hC (rest := []) m_t hf_19 rfl mi_X7_addBytesOf ms_X7_addBytesOf (a59_X7_addBytesOf m_t hf_19 m_tb hf_18) mx_X7_addBytesOf ml_X11_101 (by decide) rfl (cells1 := 0) (slots1 := 0) (by decide) (by decide) (Nat.le_of_ble_eq_true rfl) (Nat.le_of_ble_eq_true rfl) rfl (Nat.le_of_ble_eq_true rfl) dX11_feed_35 (fun L_24 f_25 h_26 => ?_)
  obtain ⟨rfl, ⟨g_30, hf_27⟩, hf_28, hk_29⟩ := h_26
  have hf_31 := (hk_29 x (ne_kd hf_22 hf_18 rfl) (ne_kd hf_22 hf_19 rfl)).trans hf_22
  refine v_aload_n hC dX11_feed_38 rfl ?_
  refine v_get hC fl_X11_12 m_x hf_31 rfl dX11_feed_39 ?_
  refine v_iload hC dX11_feed_42 rfl ?_
  refine v_vv hC (rest := []) m_t hf_28 rfl mi_X7_addBytesOf ms_X7_addBytesOf (a61_X7_addBytesOf m_t hf_28 m_tb hf_27) mx_X7_addBytesOf ml_X11_101 (by decide) rfl (cells1 := 0) (slots1 := 0) (by decide) (by decide) (Nat.le_of_ble_eq_true rfl) (Nat.le_of_ble_eq_true rfl) rfl (Nat.le_of_ble_eq_true rfl) dX11_feed_44 (fun L_33 f_34 h_35 => ?_)
  obtain ⟨rfl, ⟨g_39, hf_36⟩, hf_37, hk_38⟩ := h_35
  have hf_40 := (hk_38 x (ne_kd hf_31 hf_27 rfl) (ne_kd hf_31 hf_28 rfl)).trans hf_31
  refine v_aload_n hC dX11_feed_47 rfl ?_
  refine v_get hC fl_X11_12 m_x hf_40 rfl dX11_feed_48 ?_
  refine v_iload hC dX11_feed_51 rfl ?_
  refine v_vv hC (rest := []) m_t hf_37 rfl mi_X7_addBytesOf ms_X7_addBytesOf (a63_X7_addBytesOf m_t hf_37 m_tb hf_36) mx_X7_addBytesOf ml_X11_101 (by decide) rfl (cells1 := 0) (slots1 := 0) (by decide) (by decide) (Nat.le_of_ble_eq_true rfl) (Nat.le_of_ble_eq_true rfl) rfl (Nat.le_of_ble_eq_true rfl) dX11_feed_53 (fun L_42 f_43 h_44 => ?_)
  obtain ⟨rfl, ⟨g_48, hf_45⟩, hf_46, hk_47⟩ := h_44
  have hf_49 := (hk_47 x (ne_kd hf_40 hf_36 rfl) (ne_kd hf_40 hf_37 rfl)).trans hf_40
  refine v_aload_n hC dX11_feed_56 rfl ?_
  refine v_get hC fl_X11_12 m_x hf_49 rfl dX11_feed_57 ?_
  refine v_getN hC fn_X11_105 m_t hf_46 rfl dX11_feed_60 ?_
  exact hR _ _ _ _ _ _ _ dX11_feed_63 rfl (Nat.le_of_ble_eq_true rfl) (Nat.le_of_ble_eq_true rfl) rfl
set_option maxRecDepth 100000 in
set_option maxHeartbeats 4000000 in
theorem a66_X7_isFine {l : Launch} {E : Ez} {L : List Nat} {f : Nat → va_E} {aa_0 aa_1 : Nat} (m_aa_0 : aa_0 ∈ L) (e_aa_0 : f aa_0 = ob 7 [.ref aa_1, .int 0, .int 0, .int 0, .int 0, .int 0, .int (-1)]) : CI l yX7_isFine cX7_isFine 1 .boolean 0 0 0 E [.ref aa_0] L f (fun r L1 f1 => 1 = r ∧ L = L1 ∧ f = f1) := by
  refine ci_of (by decide) (Nat.le_of_ble_eq_true rfl) (fun z hz hnm hC hR => ?_)
  have hC : Cx z E cX7_isFine RX7 1 0 0 0 := hC
  subst hz
  show V z E 1 0 0 L f 0 [(0, .ref aa_0)] []
  refine v_aload_n hC dX7_isFine_0 rfl ?_
  refine v_get hC fl_X7_22 m_aa_0 e_aa_0 rfl dX7_isFine_1 ?_
  refine v_if_ne_f hC dX7_isFine_4 (tgt := 11) (by decide) (by decide) ?_
  refine v_iconst hC dX7_isFine_7 (v := 1) (by decide) ?_
  refine v_goto hC dX7_isFine_8 (tgt := 12) (by decide) ?_
  exact hR _ _ _ _ _ _ _ dX7_isFine_12 rfl (Nat.le_of_ble_eq_true rfl) (Nat.le_of_ble_eq_true rfl) ⟨rfl, rfl, rfl⟩
set_option maxRecDepth 100000 in
set_option maxHeartbeats 4000000 in
theorem a68_X7_byteAt {l : Launch} {E : Ez} {L : List Nat} {f : Nat → va_E} {aa_0 aa_1 : Nat} (m_aa_0 : aa_0 ∈ L) (e_aa_0 : f aa_0 = ob 7 [.ref aa_1, .int 0, .int 0, .int 0, .int 0, .int 0, .int (-1)]) : CI l yX7_byteAt cX7_byteAt 2 .int 0 0 0 E [.ref aa_0, .int 0] L f (fun r L1 f1 => (-1) = r ∧ L = L1 ∧ f = f1) := by
  refine ci_of (by decide) (Nat.le_of_ble_eq_true rfl) (fun z hz hnm hC hR => ?_)
  have hC : Cx z E cX7_byteAt RX7 2 0 0 0 := hC
  subst hz
  show V z E 2 0 0 L f 0 [(0, .ref aa_0), (1, .int 0)] []
  refine v_iload_n hC dX7_byteAt_0 rfl ?_
  refine v_if_lt_f hC dX7_byteAt_1 (tgt := 30) (by decide) (by decide) ?_
  refine v_iload_n hC dX7_byteAt_4 rfl ?_
  refine v_aload_n hC dX7_byteAt_5 rfl ?_
  refine v_get hC fl_X7_19 m_aa_0 e_aa_0 rfl dX7_byteAt_6 ?_
  refine v_icmp_ge_t hC dX7_byteAt_9 (tgt := 30) (by decide) (by decide) ?_
  refine v_iconst hC dX7_byteAt_30 (v := (-1)) (by decide) ?_
  exact hR _ _ _ _ _ _ _ dX7_byteAt_31 rfl (Nat.le_of_ble_eq_true rfl) (Nat.le_of_ble_eq_true rfl) ⟨rfl, rfl, rfl⟩
set_option maxRecDepth 100000 in
set_option maxHeartbeats 4000000 in
theorem a70_X7_kindOf {l : Launch} {E : Ez} {L : List Nat} {f : Nat → va_E}   : CI l yX7_kindOf cX7_kindOf 1 .int 0 0 0 E [.int (-1)] L f (fun r L1 f1 => 0 = r ∧ L = L1 ∧ f = f1) := by
  refine ci_of (by decide) (Nat.le_of_ble_eq_true rfl) (fun z hz hnm hC hR => ?_)
  have hC : Cx z E cX7_kindOf RX7 1 0 0 0 := hC
  subst hz
  show V z E 1 0 0 L f 0 [(0, .int (-1))] []
  refine v_iload_n hC dX7_kindOf_0 rfl ?_
  refine v_bipush hC dX7_kindOf_1 (v := 97) (by decide) ?_
  refine v_icmp_lt_t hC dX7_kindOf_3 (tgt := 14) (by decide) (by decide) ?_
  refine v_iload_n hC dX7_kindOf_14 rfl ?_
  refine v_bipush hC dX7_kindOf_15 (v := 48) (by decide) ?_
  refine v_icmp_lt_t hC dX7_kindOf_17 (tgt := 28) (by decide) (by decide) ?_
  refine v_iload_n hC dX7_kindOf_28 rfl ?_
  refine v_bipush hC dX7_kindOf_29 (v := 59) (by decide) ?_
  refine v_icmp_ne_t hC dX7_kindOf_31 (tgt := 36) (by decide) (by decide) ?_
  refine v_iload_n hC dX7_kindOf_36 rfl ?_
  refine v_iconst hC dX7_kindOf_37 (v := (-1)) (by decide) ?_
  refine v_icmp_ne_f hC dX7_kindOf_38 (tgt := 45) (by decide) (by decide) ?_
  refine v_iconst hC dX7_kindOf_41 (v := 0) (by decide) ?_
  refine v_goto hC dX7_kindOf_42 (tgt := 46) (by decide) ?_
  exact hR _ _ _ _ _ _ _ dX7_kindOf_46 rfl (Nat.le_of_ble_eq_true rfl) (Nat.le_of_ble_eq_true rfl) ⟨rfl, rfl, rfl⟩
set_option maxRecDepth 100000 in
set_option maxHeartbeats 4000000 in
theorem a66_X7_advance {l : Launch} {E : Ez} {L : List Nat} {f : Nat → va_E} {aa_0 aa_1 : Nat} (m_aa_0 : aa_0 ∈ L) (e_aa_0 : f aa_0 = ob 7 [.ref aa_1, .int 0, .int 0, .int 0, .int 0, .int 0, .int (-1)]) : CV l yX7_advance cX7_advance 2 1 0 0 E [.ref aa_0] L f (fun L1 f1 => L = L1 ∧ f = f1) := by
  refine cv_of (by decide) (Nat.le_of_ble_eq_true rfl) (fun z hz hnm hC hR => ?_)
  have hC : Cx z E cX7_advance RX7 2 1 0 0 := hC
  subst hz
  show V z E 2 0 0 L f 0 [(0, .ref aa_0)] []
  refine v_aload_n hC dX7_advance_0 rfl ?_
  refine v_vi hC (rest := []) m_aa_0 e_aa_0 rfl mi_X7_isFine ms_X7_isFine (a66_X7_isFine m_aa_0 e_aa_0) mx_X7_isFine ml_X7_31 (by decide) rfl (cells1 := 0) (slots1 := 0) (by decide) (by decide) (Nat.le_of_ble_eq_true rfl) (Nat.le_of_ble_eq_true rfl) rfl (Nat.le_of_ble_eq_true rfl) dX7_advance_1 (fun r_1 L_2 f_3 h_4 => ?_)
  obtain ⟨rfl, rfl, rfl⟩ := h_4
  refine v_if_ne_t hC dX7_advance_4 (tgt := 8) (by decide) (by decide) ?_
  refine v_aload_n hC dX7_advance_8 rfl ?_
  refine v_aload_n hC dX7_advance_9 rfl ?_
  refine v_get hC fl_X7_25 m_aa_0 e_aa_0 rfl dX7_advance_10 ?_
  refine v_put hC fl_X7_38 m_aa_0 e_aa_0 rfl rfl (Nat.le_of_ble_eq_true rfl) (fs' := [.ref aa_1, .int 0, .int 0, .int 0, .int 0, .int 0, .int (-1)]) rfl dX7_advance_13 (fun f_5 hf_6 hk_7 => ?_)
  obtain rfl : f = f_5 := (funext (noop e_aa_0 hf_6 hk_7)).symm
  refine v_aload_n hC dX7_advance_16 rfl ?_
  refine v_get hC fl_X7_38 m_aa_0 e_aa_0 rfl dX7_advance_17 ?_
  refine v_aload_n hC dX7_advance_20 rfl ?_
  refine v_get hC fl_X7_19 m_aa_0 e_aa_0 rfl dX7_advance_21 ?_
  refine v_icmp_ge_t hC dX7_advance_24 (tgt := 54) (by decide) (by decide) ?_
  refine v_aload_n hC dX7_advance_54 rfl ?_
  refine v_aload_n hC dX7_advance_55 rfl ?_
  refine v_aload_n hC dX7_advance_56 rfl ?_
  refine v_get hC fl_X7_38 m_aa_0 e_aa_0 rfl dX7_advance_57 ?_
  refine v_vi hC (rest := [.ref aa_0]) m_aa_0 e_aa_0 rfl mi_X7_byteAt ms_X7_byteAt (a68_X7_byteAt m_aa_0 e_aa_0) mx_X7_byteAt ml_X7_41 (by decide) rfl (cells1 := 0) (slots1 := 0) (by decide) (by decide) (Nat.le_of_ble_eq_true rfl) (Nat.le_of_ble_eq_true rfl) rfl (Nat.le_of_ble_eq_true rfl) dX7_advance_60 (fun r_8 L_9 f_10 h_11 => ?_)
  obtain ⟨rfl, rfl, rfl⟩ := h_11
  refine v_si hC (rest := [.ref aa_0]) mt_X7_kindOf (a70_X7_kindOf) mx_X7_kindOf ml_X7_49 (by decide) rfl (cells1 := 0) (slots1 := 0) (by decide) (by decide) (Nat.le_of_ble_eq_true rfl) (Nat.le_of_ble_eq_true rfl) rfl (Nat.le_of_ble_eq_true rfl) dX7_advance_63 (fun r_12 L_13 f_14 h_15 => ?_)
  obtain ⟨rfl, rfl, rfl⟩ := h_15
  refine v_put hC fl_X7_35 m_aa_0 e_aa_0 rfl rfl (Nat.le_of_ble_eq_true rfl) (fs' := [.ref aa_1, .int 0, .int 0, .int 0, .int 0, .int 0, .int (-1)]) rfl dX7_advance_66 (fun f_16 hf_17 hk_18 => ?_)
  obtain rfl : f = f_16 := (funext (noop e_aa_0 hf_17 hk_18)).symm
  refine v_aload_n hC dX7_advance_69 rfl ?_
  refine v_aload_n hC dX7_advance_70 rfl ?_
  refine v_get hC fl_X7_38 m_aa_0 e_aa_0 rfl dX7_advance_71 ?_
  refine v_iconst hC dX7_advance_74 (v := 1) (by decide) ?_
  refine v_iadd hC dX7_advance_75 (v := 1) (by decide) ?_
  refine v_aload_n hC dX7_advance_76 rfl ?_
  refine v_get hC fl_X7_19 m_aa_0 e_aa_0 rfl dX7_advance_77 ?_
  refine v_mmin hC mm_X7_52 mm_smin mm_i mm_cmin (by decide) (Nat.le_of_ble_eq_true rfl) (Nat.le_of_ble_eq_true rfl) (Nat.le_of_ble_eq_true rfl) (v := 0) (by decide) dX7_advance_80 ?_
  refine v_put hC fl_X7_25 m_aa_0 e_aa_0 rfl rfl (Nat.le_of_ble_eq_true rfl) (fs' := [.ref aa_1, .int 0, .int 0, .int 0, .int 0, .int 0, .int (-1)]) rfl dX7_advance_83 (fun f_19 hf_20 hk_21 => ?_)
  obtain rfl : f = f_19 := (funext (noop e_aa_0 hf_20 hk_21)).symm
  refine v_aload_n hC dX7_advance_86 rfl ?_
  refine v_get hC fl_X7_35 m_aa_0 e_aa_0 rfl dX7_advance_87 ?_
  refine v_iconst hC dX7_advance_90 (v := 1) (by decide) ?_
  refine v_icmp_eq_f hC dX7_advance_91 (tgt := 102) (by decide) (by decide) ?_
  refine v_aload_n hC dX7_advance_94 rfl ?_
  refine v_get hC fl_X7_35 m_aa_0 e_aa_0 rfl dX7_advance_95 ?_
  refine v_iconst hC dX7_advance_98 (v := 2) (by decide) ?_
  refine v_icmp_ne_t hC dX7_advance_99 (tgt := 106) (by decide) (by decide) ?_
  refine v_iconst hC dX7_advance_106 (v := 0) (by decide) ?_
  refine v_istore_n hC dX7_advance_107 (by decide) (lv' := [(1, .int 0), (0, .ref aa_0)]) rfl ?_
  refine v_iload_n hC dX7_advance_108 rfl ?_
  refine v_if_eq_t hC dX7_advance_109 (tgt := 154) (by decide) (by decide) ?_
  exact hR _ _ _ _ _ _ dX7_advance_154 (Nat.le_of_ble_eq_true rfl) (Nat.le_of_ble_eq_true rfl) ⟨rfl, rfl⟩
set_option maxRecDepth 100000 in
set_option maxHeartbeats 4000000 in
theorem a66_X7_start {l : Launch} {E : Ez} {L : List Nat} {f : Nat → va_E} {aa_0 aa_1 : Nat} (m_aa_0 : aa_0 ∈ L) (e_aa_0 : f aa_0 = ob 7 [.ref aa_1, .int 0, .int 0, .int 0, .int 0, .int 0, .int (-1)]) : CV l yX7_start cX7_start 1 2 0 0 E [.ref aa_0] L f (fun L1 f1 => L = L1 ∧ f = f1) := by
  refine cv_of (by decide) (Nat.le_of_ble_eq_true rfl) (fun z hz hnm hC hR => ?_)
  have hC : Cx z E cX7_start RX7 1 2 0 0 := hC
  subst hz
  show V z E 1 0 0 L f 0 [(0, .ref aa_0)] []
  refine v_aload_n hC dX7_start_0 rfl ?_
  refine v_iconst hC dX7_start_1 (v := 0) (by decide) ?_
  refine v_put hC fl_X7_22 m_aa_0 e_aa_0 rfl rfl (Nat.le_of_ble_eq_true rfl) (fs' := [.ref aa_1, .int 0, .int 0, .int 0, .int 0, .int 0, .int (-1)]) rfl dX7_start_2 (fun f_1 hf_2 hk_3 => ?_)
  obtain rfl : f = f_1 := (funext (noop e_aa_0 hf_2 hk_3)).symm
  refine v_aload_n hC dX7_start_5 rfl ?_
  refine v_iconst hC dX7_start_6 (v := (-1)) (by decide) ?_
  refine v_put hC fl_X7_15 m_aa_0 e_aa_0 rfl rfl (Nat.le_of_ble_eq_true rfl) (fs' := [.ref aa_1, .int 0, .int 0, .int 0, .int 0, .int 0, .int (-1)]) rfl dX7_start_7 (fun f_4 hf_5 hk_6 => ?_)
  obtain rfl : f = f_4 := (funext (noop e_aa_0 hf_5 hk_6)).symm
  refine v_aload_n hC dX7_start_10 rfl ?_
  refine v_iconst hC dX7_start_11 (v := 0) (by decide) ?_
  refine v_put hC fl_X7_25 m_aa_0 e_aa_0 rfl rfl (Nat.le_of_ble_eq_true rfl) (fs' := [.ref aa_1, .int 0, .int 0, .int 0, .int 0, .int 0, .int (-1)]) rfl dX7_start_12 (fun f_7 hf_8 hk_9 => ?_)
  obtain rfl : f = f_7 := (funext (noop e_aa_0 hf_8 hk_9)).symm
  refine v_aload_n hC dX7_start_15 rfl ?_
  refine v_vv hC (rest := []) m_aa_0 e_aa_0 rfl mi_X7_advance ms_X7_advance (a66_X7_advance m_aa_0 e_aa_0) mx_X7_advance ml_X7_28 (by decide) rfl (cells1 := 0) (slots1 := 0) (by decide) (by decide) (Nat.le_of_ble_eq_true rfl) (Nat.le_of_ble_eq_true rfl) rfl (Nat.le_of_ble_eq_true rfl) dX7_start_16 (fun L_11 f_12 h_13 => ?_)
  obtain ⟨rfl, rfl⟩ := h_13
  exact hR _ _ _ _ _ _ dX7_start_19 (Nat.le_of_ble_eq_true rfl) (Nat.le_of_ble_eq_true rfl) ⟨rfl, rfl⟩
set_option maxRecDepth 100000 in
set_option maxHeartbeats 4000000 in
theorem a76_X7_isWord {l : Launch} {E : Ez} {L : List Nat} {f : Nat → va_E} {aa_0 aa_1 aa_2 : Nat} (m_aa_0 : aa_0 ∈ L) (e_aa_0 : f aa_0 = ob 7 [.ref aa_2, .int 0, .int 0, .int 0, .int 0, .int 0, .int (-1)]) : CI l yX7_isWord cX7_isWord 3 .boolean 0 0 0 E [.ref aa_0, .ref aa_1] L f (fun r L1 f1 => 0 = r ∧ L = L1 ∧ f = f1) := by
  refine ci_of (by decide) (Nat.le_of_ble_eq_true rfl) (fun z hz hnm hC hR => ?_)
  have hC : Cx z E cX7_isWord RX7 3 0 0 0 := hC
  subst hz
  show V z E 3 0 0 L f 0 [(0, .ref aa_0), (1, .ref aa_1)] []
  refine v_aload_n hC dX7_isWord_0 rfl ?_
  refine v_get hC fl_X7_35 m_aa_0 e_aa_0 rfl dX7_isWord_1 ?_
  refine v_iconst hC dX7_isWord_4 (v := 1) (by decide) ?_
  refine v_icmp_ne_t hC dX7_isWord_5 (tgt := 24) (by decide) (by decide) ?_
  refine v_iconst hC dX7_isWord_24 (v := 0) (by decide) ?_
  exact hR _ _ _ _ _ _ _ dX7_isWord_25 rfl (Nat.le_of_ble_eq_true rfl) (Nat.le_of_ble_eq_true rfl) ⟨rfl, rfl, rfl⟩
