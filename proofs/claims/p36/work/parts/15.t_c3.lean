set_option maxRecDepth 100000 in
set_option maxHeartbeats 4000000 in
theorem p_X2_isAs {l : Launch} {E : Ez} {L : List Nat} {f : Nat → va_E} {T : Nat → va_E → Prop} {a_0 : Nat} {a_1 : Nat} (hW : WT T L f) (k_0 : isLet T L E a_0) (k_1 : isLet T L E a_1) : CI l yX2_isAs cX2_isAs 3 .boolean 1 0 0 E [.ref a_0, .ref a_1] L f (fun r L1 f1 => L = L1 ∧ f = f1 ∧ (0 ≤ r.toInt ∧ r.toInt ≤ 1)) := by
  refine ci_of (by decide) (Nat.le_of_ble_eq_true rfl) (fun z hz hnm hC hR => ?_)
  have hC : Cx z E cX2_isAs RX2 3 1 0 0 := hC
  subst hz
  show V z E 3 0 0 L f 0 [(0, .ref a_0), (1, .ref a_1)] []
  refine v_aload_n hC dX2_isAs_0 rfl ?_
  obtain ⟨m_1, q_3, t_2, k_4⟩ := id k_0
  obtain ⟨v_6, e_5, b_7⟩ := hW.at m_1 t_2
  refine v_get hC fl_X2_21 m_1 e_5 rfl dX2_isAs_1 ?_
  refine v_aload_n hC dX2_isAs_4 rfl ?_
  obtain ⟨m_8, q_10, t_9, k_11⟩ := id k_1
  obtain ⟨v_13, e_12, b_14⟩ := hW.at m_8 t_9
  refine v_get hC fl_X2_21 m_8 e_12 rfl dX2_isAs_5 ?_
  refine v_icmp_eq hC dX2_isAs_8 (tgt := 13) (by decide) (fun h_15 => ?_) (fun h_15 => ?_)
  · simp only [Int32.lt_iff_toInt_lt, Int32.le_iff_toInt_le, Int32.reduceToInt, ← Int32.toInt_inj] at h_15
    refine v_iconst hC dX2_isAs_13 (v := 0) (by decide) ?_
    refine v_istore_n hC dX2_isAs_14 (by decide) (lv' := [(2, .int 0), (0, .ref a_0), (1, .ref a_1)]) rfl ?_
    have lp_85 : ∀ (n_86 : Nat) (i_83 : Int32) (b_84 : (0 ≤ i_83.toInt ∧ i_83.toInt ≤ 51)) (hm_88 : 51 - i_83.toInt < (n_86 : Int)), V z E 3 0 0 L f 15 [(2, .int i_83), (0, .ref a_0), (1, .ref a_1)] [] := by
      intro n_86
      induction n_86 with
      | zero =>
        intro i_83 b_84 hm_88
        exfalso; omega
      | succ n_86 ih_87 =>
        intro i_83 b_84 hm_88
        refine v_iload_n hC dX2_isAs_15 rfl ?_
        refine v_aload_n hC dX2_isAs_16 rfl ?_
        refine v_get hC fl_X2_21 m_1 e_5 rfl dX2_isAs_17 ?_
        refine v_icmp_ge hC dX2_isAs_20 (tgt := 44) (by decide) (fun h_89 => ?_) (fun h_89 => ?_)
        · simp only [Int32.lt_iff_toInt_lt, Int32.le_iff_toInt_le, Int32.reduceToInt, ← Int32.toInt_inj] at h_89
          refine v_iconst hC dX2_isAs_44 (v := 1) (by decide) ?_
          exact hR _ _ _ _ _ _ _ dX2_isAs_45 rfl (Nat.le_of_ble_eq_true rfl) (Nat.le_of_ble_eq_true rfl) ⟨rfl, rfl, (by decide)⟩
        · simp only [Int32.lt_iff_toInt_lt, Int32.le_iff_toInt_le, Int32.reduceToInt, ← Int32.toInt_inj] at h_89
          refine v_aload_n hC dX2_isAs_23 rfl ?_
          refine v_iload_n hC dX2_isAs_24 rfl ?_
          refine v_vi hC (rest := []) m_1 e_5 rfl mi_X2_fiveAt ms_X2_fiveAt (p_X2_fiveAt hW k_0) mx_X2_fiveAt ml_X2_36 (by decide) rfl (cells1 := 0) (slots1 := 0) (by decide) (by decide) (Nat.le_of_ble_eq_true rfl) (Nat.le_of_ble_eq_true rfl) rfl (Nat.le_of_ble_eq_true rfl) dX2_isAs_25 (fun r_90 L_91 f_92 h_93 => ?_)
          obtain ⟨rfl, rfl, h_94⟩ := h_93
          refine v_aload_n hC dX2_isAs_28 rfl ?_
          refine v_iload_n hC dX2_isAs_29 rfl ?_
          refine v_vi hC (rest := [.int r_90]) m_8 e_12 rfl mi_X2_fiveAt ms_X2_fiveAt (p_X2_fiveAt hW k_1) mx_X2_fiveAt ml_X2_36 (by decide) rfl (cells1 := 0) (slots1 := 0) (by decide) (by decide) (Nat.le_of_ble_eq_true rfl) (Nat.le_of_ble_eq_true rfl) rfl (Nat.le_of_ble_eq_true rfl) dX2_isAs_30 (fun r_97 L_98 f_99 h_100 => ?_)
          obtain ⟨rfl, rfl, h_101⟩ := h_100
          refine v_icmp_eq hC dX2_isAs_33 (tgt := 38) (by decide) (fun h_104 => ?_) (fun h_104 => ?_)
          · simp only [Int32.lt_iff_toInt_lt, Int32.le_iff_toInt_le, Int32.reduceToInt, ← Int32.toInt_inj] at h_104
            obtain ⟨v_105, h_106⟩ : ∃ v9 : Int32, i_83 + Int32.ofInt 1 = v9 := ⟨_, rfl⟩
            have h_107 := add_v (b := 1) h_106 (by first | omega | (simp only [Int32.lt_iff_toInt_lt, Int32.le_iff_toInt_le, Int32.reduceToInt, ← Int32.toInt_inj]; omega)) (by first | omega | (simp only [Int32.lt_iff_toInt_lt, Int32.le_iff_toInt_le, Int32.reduceToInt, ← Int32.toInt_inj]; omega))
            simp only [Int32.reduceToInt] at h_107
            refine v_iinc hC dX2_isAs_38 (k := 0) rfl (v := v_105) h_106 (by decide) (lv' := [(2, .int v_105), (0, .ref a_0), (1, .ref a_1)]) rfl ?_
            refine v_goto hC dX2_isAs_41 (tgt := 15) (by decide) ?_
            refine v_pick [0, 1, 2] rfl ?_
            exact ih_87 v_105 (by first | omega | (simp only [Int32.lt_iff_toInt_lt, Int32.le_iff_toInt_le, Int32.reduceToInt, ← Int32.toInt_inj]; omega)) (by first | omega | (simp only [Int32.lt_iff_toInt_lt, Int32.le_iff_toInt_le, Int32.reduceToInt, ← Int32.toInt_inj]; omega))
          · simp only [Int32.lt_iff_toInt_lt, Int32.le_iff_toInt_le, Int32.reduceToInt, ← Int32.toInt_inj] at h_104
            refine v_iconst hC dX2_isAs_36 (v := 0) (by decide) ?_
            exact hR _ _ _ _ _ _ _ dX2_isAs_37 rfl (Nat.le_of_ble_eq_true rfl) (Nat.le_of_ble_eq_true rfl) ⟨rfl, rfl, (by decide)⟩
    refine v_pick [0, 1, 2] rfl ?_
    exact lp_85 53 0 (by decide) (by decide)
  · simp only [Int32.lt_iff_toInt_lt, Int32.le_iff_toInt_le, Int32.reduceToInt, ← Int32.toInt_inj] at h_15
    refine v_iconst hC dX2_isAs_11 (v := 0) (by decide) ?_
    exact hR _ _ _ _ _ _ _ dX2_isAs_12 rfl (Nat.le_of_ble_eq_true rfl) (Nat.le_of_ble_eq_true rfl) ⟨rfl, rfl, (by decide)⟩
set_option maxRecDepth 100000 in
set_option maxHeartbeats 4000000 in
theorem p_X8_placeAt {l : Launch} {E : Ez} {L : List Nat} {f : Nat → va_E} {T : Nat → va_E → Prop} {a_0 : Nat} {a_1 : Int32} (hW : WT T L f) (k_0 : isWalk T L E a_0) : CI l yX8_placeAt cX8_placeAt 2 .int 0 0 0 E [.ref a_0, .int a_1] L f (fun r L1 f1 => L = L1 ∧ f = f1 ∧ (¬ r.toInt = 0 ∨ (0 ≤ a_1.toInt ∧ a_1.toInt ≤ 255))) := by
  refine ci_of (by decide) (Nat.le_of_ble_eq_true rfl) (fun z hz hnm hC hR => ?_)
  have hC : Cx z E cX8_placeAt RX8 2 0 0 0 := hC
  subst hz
  show V z E 2 0 0 L f 0 [(0, .ref a_0), (1, .int a_1)] []
  refine v_iload_n hC dX8_placeAt_0 rfl ?_
  refine v_if_lt hC dX8_placeAt_1 (tgt := 28) (by decide) (fun h_1 => ?_) (fun h_1 => ?_)
  · simp only [Int32.lt_iff_toInt_lt, Int32.le_iff_toInt_le, Int32.reduceToInt, ← Int32.toInt_inj] at h_1
    refine v_iconst hC dX8_placeAt_28 (v := (-1)) (by decide) ?_
    exact hR _ _ _ _ _ _ _ dX8_placeAt_29 rfl (Nat.le_of_ble_eq_true rfl) (Nat.le_of_ble_eq_true rfl) ⟨rfl, rfl, (.inl (by decide))⟩
  · simp only [Int32.lt_iff_toInt_lt, Int32.le_iff_toInt_le, Int32.reduceToInt, ← Int32.toInt_inj] at h_1
    refine v_iload_n hC dX8_placeAt_4 rfl ?_
    refine v_aload_n hC dX8_placeAt_5 rfl ?_
    obtain ⟨m_2, q_4, t_3, k_5⟩ := id k_0
    obtain ⟨v_7, v_9, v_11, v_13, e_6, b_8, b_10, b_12, b_14⟩ := hW.at m_2 t_3
    refine v_get hC fl_X8_22 m_2 e_6 rfl dX8_placeAt_6 ?_
    refine v_icmp_ge hC dX8_placeAt_9 (tgt := 28) (by decide) (fun h_15 => ?_) (fun h_15 => ?_)
    · simp only [Int32.lt_iff_toInt_lt, Int32.le_iff_toInt_le, Int32.reduceToInt, ← Int32.toInt_inj] at h_15
      refine v_iconst hC dX8_placeAt_28 (v := (-1)) (by decide) ?_
      exact hR _ _ _ _ _ _ _ dX8_placeAt_29 rfl (Nat.le_of_ble_eq_true rfl) (Nat.le_of_ble_eq_true rfl) ⟨rfl, rfl, (.inl (by decide))⟩
    · simp only [Int32.lt_iff_toInt_lt, Int32.le_iff_toInt_le, Int32.reduceToInt, ← Int32.toInt_inj] at h_15
      refine v_iload_n hC dX8_placeAt_12 rfl ?_
      refine v_sipush hC dX8_placeAt_13 (v := 256) (by decide) ?_
      refine v_icmp_ge_f hC dX8_placeAt_16 (tgt := 28) (by decide) (by first | omega | (simp only [Int32.lt_iff_toInt_lt, Int32.le_iff_toInt_le, Int32.reduceToInt, ← Int32.toInt_inj]; omega)) ?_
      refine v_aload_n hC dX8_placeAt_19 rfl ?_
      refine v_get hC fl_X8_9 m_2 e_6 rfl dX8_placeAt_20 ?_
      refine v_iload_n hC dX8_placeAt_23 rfl ?_
      obtain ⟨m_16, t_17⟩ := id k_5
      obtain ⟨g_19, e_18⟩ := hW.at m_16 t_17
      obtain ⟨v_20, h_21⟩ : ∃ v9 : Int32, g_19 (a_1 : Int32).toNatClampNeg = v9 := ⟨_, rfl⟩
      refine v_iald hC m_16 e_18 (vp_in_iff.mpr (by first | omega | (simp only [Int32.lt_iff_toInt_lt, Int32.le_iff_toInt_le, Int32.reduceToInt, ← Int32.toInt_inj]; omega))) h_21 dX8_placeAt_24 ?_
      refine v_goto hC dX8_placeAt_25 (tgt := 29) (by decide) ?_
      exact hR _ _ _ _ _ _ _ dX8_placeAt_29 rfl (Nat.le_of_ble_eq_true rfl) (Nat.le_of_ble_eq_true rfl) ⟨rfl, rfl, (.inr (by first | omega | (simp only [Int32.lt_iff_toInt_lt, Int32.le_iff_toInt_le, Int32.reduceToInt, ← Int32.toInt_inj]; omega)))⟩
set_option maxRecDepth 100000 in
set_option maxHeartbeats 4000000 in
theorem p_X8_groupTells {l : Launch} {E : Ez} {L : List Nat} {f : Nat → va_E} {T : Nat → va_E → Prop} {a_0 : Nat} {a_1 : Nat} {a_2 : Int32} (hW : WT T L f) (k_0 : isWalk T L E a_0) (k_1 : isClo T L E a_1) : CI l yX8_groupTells cX8_groupTells 6 .int 1 0 0 E [.ref a_0, .ref a_1, .int a_2] L f (fun r L1 f1 => L = L1 ∧ f = f1) := by
  refine ci_of (by decide) (Nat.le_of_ble_eq_true rfl) (fun z hz hnm hC hR => ?_)
  have hC : Cx z E cX8_groupTells RX8 6 1 0 0 := hC
  subst hz
  show V z E 6 0 0 L f 0 [(0, .ref a_0), (1, .ref a_1), (2, .int a_2)] []
  refine v_iconst hC dX8_groupTells_0 (v := 0) (by decide) ?_
  refine v_istore_n hC dX8_groupTells_1 (by decide) (lv' := [(3, .int 0), (0, .ref a_0), (1, .ref a_1), (2, .int a_2)]) rfl ?_
  refine v_iconst hC dX8_groupTells_2 (v := 0) (by decide) ?_
  refine v_istore hC dX8_groupTells_3 (by decide) (lv' := [(4, .int 0), (3, .int 0), (0, .ref a_0), (1, .ref a_1), (2, .int a_2)]) rfl ?_
  have lp_294 : ∀ (n_295 : Nat) (i_291 : Int32) (b_293 : (0 ≤ i_291.toInt ∧ i_291.toInt ≤ 5)) (i_292 : Int32) (hm_297 : 5 - i_291.toInt < (n_295 : Int)), V z E 6 0 0 L f 5 [(4, .int i_291), (3, .int i_292), (0, .ref a_0), (1, .ref a_1), (2, .int a_2)] [] := by
    intro n_295
    induction n_295 with
    | zero =>
      intro i_291 b_293 i_292 hm_297
      exfalso; omega
    | succ n_295 ih_296 =>
      intro i_291 b_293 i_292 hm_297
      refine v_iload hC dX8_groupTells_5 rfl ?_
      refine v_aload_n hC dX8_groupTells_7 rfl ?_
      obtain ⟨m_298, q_300, t_299, k_301⟩ := id k_0
      obtain ⟨v_303, v_305, v_307, v_309, e_302, b_304, b_306, b_308, b_310⟩ := hW.at m_298 t_299
      refine v_get hC fl_X8_15 m_298 e_302 rfl dX8_groupTells_8 ?_
      refine v_icmp_ge hC dX8_groupTells_11 (tgt := 55) (by decide) (fun h_311 => ?_) (fun h_311 => ?_)
      · simp only [Int32.lt_iff_toInt_lt, Int32.le_iff_toInt_le, Int32.reduceToInt, ← Int32.toInt_inj] at h_311
        refine v_iload_n hC dX8_groupTells_55 rfl ?_
        refine v_iconst hC dX8_groupTells_56 (v := 2) (by decide) ?_
        obtain ⟨v_312, h_313⟩ : ∃ v9 : Int32, i_292 - i_292 / 2 * 2 = v9 := ⟨_, rfl⟩
        refine v_irem hC dX8_groupTells_57 (by decide) h_313 ?_
        exact hR _ _ _ _ _ _ _ dX8_groupTells_58 rfl (Nat.le_of_ble_eq_true rfl) (Nat.le_of_ble_eq_true rfl) ⟨rfl, rfl⟩
      · simp only [Int32.lt_iff_toInt_lt, Int32.le_iff_toInt_le, Int32.reduceToInt, ← Int32.toInt_inj] at h_311
        refine v_aload_n hC dX8_groupTells_14 rfl ?_
        refine v_aload_n hC dX8_groupTells_15 rfl ?_
        refine v_iload_n hC dX8_groupTells_16 rfl ?_
        refine v_aload_n hC dX8_groupTells_17 rfl ?_
        refine v_get hC fl_X8_15 m_298 e_302 rfl dX8_groupTells_18 ?_
        obtain ⟨v_315, h_316⟩ : ∃ v9 : Int32, a_2 * v_305 = v9 := ⟨_, rfl⟩
        refine v_imul hC dX8_groupTells_21 h_316 ?_
        refine v_iload hC dX8_groupTells_22 rfl ?_
        obtain ⟨v_318, h_319⟩ : ∃ v9 : Int32, v_315 + i_291 = v9 := ⟨_, rfl⟩
        refine v_iadd hC dX8_groupTells_24 h_319 ?_
        refine v_vi hC (rest := [.ref a_1]) m_298 e_302 rfl mi_X8_placeAt ms_X8_placeAt (p_X8_placeAt hW k_0) mx_X8_placeAt ml_X8_71 (by decide) rfl (cells1 := 0) (slots1 := 0) (by decide) (by decide) (Nat.le_of_ble_eq_true rfl) (Nat.le_of_ble_eq_true rfl) rfl (Nat.le_of_ble_eq_true rfl) dX8_groupTells_25 (fun r_321 L_322 f_323 h_324 => ?_)
        obtain ⟨rfl, rfl, h_325⟩ := h_324
        obtain ⟨m_328, q_330, t_329, k_331⟩ := id k_1
        obtain ⟨v_333, e_332, b_334⟩ := hW.at m_328 t_329
        refine v_vi hC (rest := []) m_328 e_332 rfl mi_X1_stitchAt ms_X1_stitchAt (p_X1_stitchAt hW k_1) mx_X1_stitchAt ml_X8_74 (by decide) rfl (cells1 := 0) (slots1 := 0) (by decide) (by decide) (Nat.le_of_ble_eq_true rfl) (Nat.le_of_ble_eq_true rfl) rfl (Nat.le_of_ble_eq_true rfl) dX8_groupTells_28 (fun r_335 L_336 f_337 h_338 => ?_)
        obtain ⟨rfl, rfl, h_339⟩ := h_338
        refine v_istore hC dX8_groupTells_31 (by decide) (lv' := [(5, .int r_335), (4, .int i_291), (3, .int i_292), (0, .ref a_0), (1, .ref a_1), (2, .int a_2)]) rfl ?_
        refine v_iload hC dX8_groupTells_33 rfl ?_
        refine v_iconst hC dX8_groupTells_35 (v := 4) (by decide) ?_
        refine v_icmp_ne hC dX8_groupTells_36 (tgt := 41) (by decide) (fun h_342 => ?_) (fun h_342 => ?_)
        · simp only [Int32.lt_iff_toInt_lt, Int32.le_iff_toInt_le, Int32.reduceToInt, ← Int32.toInt_inj] at h_342
          refine v_iload hC dX8_groupTells_41 rfl ?_
          refine v_if_eq hC dX8_groupTells_43 (tgt := 49) (by decide) (fun h_343 => ?_) (fun h_343 => ?_)
          · simp only [Int32.lt_iff_toInt_lt, Int32.le_iff_toInt_le, Int32.reduceToInt, ← Int32.toInt_inj] at h_343
            obtain ⟨v_344, h_345⟩ : ∃ v9 : Int32, i_291 + Int32.ofInt 1 = v9 := ⟨_, rfl⟩
            have h_346 := add_v (b := 1) h_345 (by first | omega | (simp only [Int32.lt_iff_toInt_lt, Int32.le_iff_toInt_le, Int32.reduceToInt, ← Int32.toInt_inj]; omega)) (by first | omega | (simp only [Int32.lt_iff_toInt_lt, Int32.le_iff_toInt_le, Int32.reduceToInt, ← Int32.toInt_inj]; omega))
            simp only [Int32.reduceToInt] at h_346
            refine v_iinc hC dX8_groupTells_49 (k := 1) rfl (v := v_344) h_345 (by decide) (lv' := [(4, .int v_344), (5, .int r_335), (3, .int i_292), (0, .ref a_0), (1, .ref a_1), (2, .int a_2)]) rfl ?_
            refine v_goto hC dX8_groupTells_52 (tgt := 5) (by decide) ?_
            refine v_pick [0, 2, 3, 4, 5] rfl ?_
            exact ih_296 v_344 (by first | omega | (simp only [Int32.lt_iff_toInt_lt, Int32.le_iff_toInt_le, Int32.reduceToInt, ← Int32.toInt_inj]; omega)) i_292 (by first | omega | (simp only [Int32.lt_iff_toInt_lt, Int32.le_iff_toInt_le, Int32.reduceToInt, ← Int32.toInt_inj]; omega))
          · simp only [Int32.lt_iff_toInt_lt, Int32.le_iff_toInt_le, Int32.reduceToInt, ← Int32.toInt_inj] at h_343
            obtain ⟨v_347, h_348⟩ : ∃ v9 : Int32, i_292 + Int32.ofInt 1 = v9 := ⟨_, rfl⟩
            refine v_iinc hC dX8_groupTells_46 (k := 2) rfl (v := v_347) h_348 (by decide) (lv' := [(3, .int v_347), (5, .int r_335), (4, .int i_291), (0, .ref a_0), (1, .ref a_1), (2, .int a_2)]) rfl ?_
            obtain ⟨v_349, h_350⟩ : ∃ v9 : Int32, i_291 + Int32.ofInt 1 = v9 := ⟨_, rfl⟩
            have h_351 := add_v (b := 1) h_350 (by first | omega | (simp only [Int32.lt_iff_toInt_lt, Int32.le_iff_toInt_le, Int32.reduceToInt, ← Int32.toInt_inj]; omega)) (by first | omega | (simp only [Int32.lt_iff_toInt_lt, Int32.le_iff_toInt_le, Int32.reduceToInt, ← Int32.toInt_inj]; omega))
            simp only [Int32.reduceToInt] at h_351
            refine v_iinc hC dX8_groupTells_49 (k := 2) rfl (v := v_349) h_350 (by decide) (lv' := [(4, .int v_349), (3, .int v_347), (5, .int r_335), (0, .ref a_0), (1, .ref a_1), (2, .int a_2)]) rfl ?_
            refine v_goto hC dX8_groupTells_52 (tgt := 5) (by decide) ?_
            refine v_pick [0, 1, 3, 4, 5] rfl ?_
            exact ih_296 v_349 (by first | omega | (simp only [Int32.lt_iff_toInt_lt, Int32.le_iff_toInt_le, Int32.reduceToInt, ← Int32.toInt_inj]; omega)) v_347 (by first | omega | (simp only [Int32.lt_iff_toInt_lt, Int32.le_iff_toInt_le, Int32.reduceToInt, ← Int32.toInt_inj]; omega))
        · simp only [Int32.lt_iff_toInt_lt, Int32.le_iff_toInt_le, Int32.reduceToInt, ← Int32.toInt_inj] at h_342
          refine v_iconst hC dX8_groupTells_39 (v := 2) (by decide) ?_
          exact hR _ _ _ _ _ _ _ dX8_groupTells_40 rfl (Nat.le_of_ble_eq_true rfl) (Nat.le_of_ble_eq_true rfl) ⟨rfl, rfl⟩
  refine v_pick [0, 1, 2, 3, 4] rfl ?_
  exact lp_294 7 0 (by decide) 0 (by decide)
set_option maxRecDepth 100000 in
set_option maxHeartbeats 4000000 in
theorem p_X8_bitTells {l : Launch} {E : Ez} {L : List Nat} {f : Nat → va_E} {T : Nat → va_E → Prop} {a_0 : Nat} {a_1 : Nat} {a_2 : Int32} (hW : WT T L f) (k_0 : isWalk T L E a_0) (k_1 : isClo T L E a_1) : CI l yX8_bitTells cX8_bitTells 6 .int 2 0 0 E [.ref a_0, .ref a_1, .int a_2] L f (fun r L1 f1 => L = L1 ∧ f = f1 ∧ (0 ≤ r.toInt ∧ r.toInt ≤ 2)) := by
  refine ci_of (by decide) (Nat.le_of_ble_eq_true rfl) (fun z hz hnm hC hR => ?_)
  have hC : Cx z E cX8_bitTells RX8 6 2 0 0 := hC
  subst hz
  show V z E 6 0 0 L f 0 [(0, .ref a_0), (1, .ref a_1), (2, .int a_2)] []
  refine v_iconst hC dX8_bitTells_0 (v := 0) (by decide) ?_
  refine v_istore_n hC dX8_bitTells_1 (by decide) (lv' := [(3, .int 0), (0, .ref a_0), (1, .ref a_1), (2, .int a_2)]) rfl ?_
  refine v_iconst hC dX8_bitTells_2 (v := 0) (by decide) ?_
  refine v_istore hC dX8_bitTells_3 (by decide) (lv' := [(4, .int 0), (3, .int 0), (0, .ref a_0), (1, .ref a_1), (2, .int a_2)]) rfl ?_
  have lp_250 : ∀ (n_251 : Nat) (i_247 : Int32) (b_249 : (0 ≤ i_247.toInt ∧ i_247.toInt ≤ 5)) (i_248 : Int32) (hm_253 : 5 - i_247.toInt < (n_251 : Int)), V z E 6 0 0 L f 5 [(4, .int i_247), (3, .int i_248), (0, .ref a_0), (1, .ref a_1), (2, .int a_2)] [] := by
    intro n_251
    induction n_251 with
    | zero =>
      intro i_247 b_249 i_248 hm_253
      exfalso; omega
    | succ n_251 ih_252 =>
      intro i_247 b_249 i_248 hm_253
      refine v_iload hC dX8_bitTells_5 rfl ?_
      refine v_aload_n hC dX8_bitTells_7 rfl ?_
      obtain ⟨m_254, q_256, t_255, k_257⟩ := id k_0
      obtain ⟨v_259, v_261, v_263, v_265, e_258, b_260, b_262, b_264, b_266⟩ := hW.at m_254 t_255
      refine v_get hC fl_X8_19 m_254 e_258 rfl dX8_bitTells_8 ?_
      refine v_icmp_ge hC dX8_bitTells_11 (tgt := 56) (by decide) (fun h_267 => ?_) (fun h_267 => ?_)
      · simp only [Int32.lt_iff_toInt_lt, Int32.le_iff_toInt_le, Int32.reduceToInt, ← Int32.toInt_inj] at h_267
        refine v_iload_n hC dX8_bitTells_56 rfl ?_
        refine v_if_ne hC dX8_bitTells_57 (tgt := 62) (by decide) (fun h_268 => ?_) (fun h_268 => ?_)
        · simp only [Int32.lt_iff_toInt_lt, Int32.le_iff_toInt_le, Int32.reduceToInt, ← Int32.toInt_inj] at h_268
          refine v_iload_n hC dX8_bitTells_62 rfl ?_
          refine v_if_le hC dX8_bitTells_63 (tgt := 70) (by decide) (fun h_269 => ?_) (fun h_269 => ?_)
          · simp only [Int32.lt_iff_toInt_lt, Int32.le_iff_toInt_le, Int32.reduceToInt, ← Int32.toInt_inj] at h_269
            refine v_iconst hC dX8_bitTells_70 (v := 0) (by decide) ?_
            exact hR _ _ _ _ _ _ _ dX8_bitTells_71 rfl (Nat.le_of_ble_eq_true rfl) (Nat.le_of_ble_eq_true rfl) ⟨rfl, rfl, (by decide)⟩
          · simp only [Int32.lt_iff_toInt_lt, Int32.le_iff_toInt_le, Int32.reduceToInt, ← Int32.toInt_inj] at h_269
            refine v_iconst hC dX8_bitTells_66 (v := 1) (by decide) ?_
            refine v_goto hC dX8_bitTells_67 (tgt := 71) (by decide) ?_
            exact hR _ _ _ _ _ _ _ dX8_bitTells_71 rfl (Nat.le_of_ble_eq_true rfl) (Nat.le_of_ble_eq_true rfl) ⟨rfl, rfl, (by decide)⟩
        · simp only [Int32.lt_iff_toInt_lt, Int32.le_iff_toInt_le, Int32.reduceToInt, ← Int32.toInt_inj] at h_268
          refine v_iconst hC dX8_bitTells_60 (v := 2) (by decide) ?_
          exact hR _ _ _ _ _ _ _ dX8_bitTells_61 rfl (Nat.le_of_ble_eq_true rfl) (Nat.le_of_ble_eq_true rfl) ⟨rfl, rfl, (by decide)⟩
      · simp only [Int32.lt_iff_toInt_lt, Int32.le_iff_toInt_le, Int32.reduceToInt, ← Int32.toInt_inj] at h_267
        refine v_aload_n hC dX8_bitTells_14 rfl ?_
        refine v_aload_n hC dX8_bitTells_15 rfl ?_
        refine v_iload_n hC dX8_bitTells_16 rfl ?_
        refine v_aload_n hC dX8_bitTells_17 rfl ?_
        refine v_get hC fl_X8_19 m_254 e_258 rfl dX8_bitTells_18 ?_
        obtain ⟨v_270, h_271⟩ : ∃ v9 : Int32, a_2 * v_263 = v9 := ⟨_, rfl⟩
        refine v_imul hC dX8_bitTells_21 h_271 ?_
        refine v_iload hC dX8_bitTells_22 rfl ?_
        obtain ⟨v_273, h_274⟩ : ∃ v9 : Int32, v_270 + i_247 = v9 := ⟨_, rfl⟩
        refine v_iadd hC dX8_bitTells_24 h_274 ?_
        refine v_vi hC (rest := []) m_254 e_258 rfl mi_X8_groupTells ms_X8_groupTells (p_X8_groupTells hW k_0 k_1) mx_X8_groupTells ml_X8_79 (by decide) rfl (cells1 := 0) (slots1 := 0) (by decide) (by decide) (Nat.le_of_ble_eq_true rfl) (Nat.le_of_ble_eq_true rfl) rfl (Nat.le_of_ble_eq_true rfl) dX8_bitTells_25 (fun r_276 L_277 f_278 h_279 => ?_)
        obtain ⟨rfl, rfl⟩ := h_279
        refine v_istore hC dX8_bitTells_28 (by decide) (lv' := [(5, .int r_276), (4, .int i_247), (3, .int i_248), (0, .ref a_0), (1, .ref a_1), (2, .int a_2)]) rfl ?_
        refine v_iload hC dX8_bitTells_30 rfl ?_
        refine v_iconst hC dX8_bitTells_32 (v := 2) (by decide) ?_
        refine v_icmp_eq hC dX8_bitTells_33 (tgt := 50) (by decide) (fun h_282 => ?_) (fun h_282 => ?_)
        · simp only [Int32.lt_iff_toInt_lt, Int32.le_iff_toInt_le, Int32.reduceToInt, ← Int32.toInt_inj] at h_282
          obtain ⟨v_283, h_284⟩ : ∃ v9 : Int32, i_247 + Int32.ofInt 1 = v9 := ⟨_, rfl⟩
          have h_285 := add_v (b := 1) h_284 (by first | omega | (simp only [Int32.lt_iff_toInt_lt, Int32.le_iff_toInt_le, Int32.reduceToInt, ← Int32.toInt_inj]; omega)) (by first | omega | (simp only [Int32.lt_iff_toInt_lt, Int32.le_iff_toInt_le, Int32.reduceToInt, ← Int32.toInt_inj]; omega))
          simp only [Int32.reduceToInt] at h_285
          refine v_iinc hC dX8_bitTells_50 (k := 1) rfl (v := v_283) h_284 (by decide) (lv' := [(4, .int v_283), (5, .int r_276), (3, .int i_248), (0, .ref a_0), (1, .ref a_1), (2, .int a_2)]) rfl ?_
          refine v_goto hC dX8_bitTells_53 (tgt := 5) (by decide) ?_
          refine v_pick [0, 2, 3, 4, 5] rfl ?_
          exact ih_252 v_283 (by first | omega | (simp only [Int32.lt_iff_toInt_lt, Int32.le_iff_toInt_le, Int32.reduceToInt, ← Int32.toInt_inj]; omega)) i_248 (by first | omega | (simp only [Int32.lt_iff_toInt_lt, Int32.le_iff_toInt_le, Int32.reduceToInt, ← Int32.toInt_inj]; omega))
        · simp only [Int32.lt_iff_toInt_lt, Int32.le_iff_toInt_le, Int32.reduceToInt, ← Int32.toInt_inj] at h_282
          refine v_iload_n hC dX8_bitTells_36 rfl ?_
          refine v_iload hC dX8_bitTells_37 rfl ?_
          refine v_iconst hC dX8_bitTells_39 (v := 1) (by decide) ?_
          refine v_icmp_ne hC dX8_bitTells_40 (tgt := 47) (by decide) (fun h_286 => ?_) (fun h_286 => ?_)
          · simp only [Int32.lt_iff_toInt_lt, Int32.le_iff_toInt_le, Int32.reduceToInt, ← Int32.toInt_inj] at h_286
            refine v_iconst hC dX8_bitTells_47 (v := (-1)) (by decide) ?_
            obtain ⟨v_287, h_288⟩ : ∃ v9 : Int32, i_248 + (-1) = v9 := ⟨_, rfl⟩
            refine v_iadd hC dX8_bitTells_48 h_288 ?_
            refine v_istore_n hC dX8_bitTells_49 (by decide) (lv' := [(3, .int v_287), (5, .int r_276), (4, .int i_247), (0, .ref a_0), (1, .ref a_1), (2, .int a_2)]) rfl ?_
            obtain ⟨v_290, h_291⟩ : ∃ v9 : Int32, i_247 + Int32.ofInt 1 = v9 := ⟨_, rfl⟩
            have h_292 := add_v (b := 1) h_291 (by first | omega | (simp only [Int32.lt_iff_toInt_lt, Int32.le_iff_toInt_le, Int32.reduceToInt, ← Int32.toInt_inj]; omega)) (by first | omega | (simp only [Int32.lt_iff_toInt_lt, Int32.le_iff_toInt_le, Int32.reduceToInt, ← Int32.toInt_inj]; omega))
            simp only [Int32.reduceToInt] at h_292
            refine v_iinc hC dX8_bitTells_50 (k := 2) rfl (v := v_290) h_291 (by decide) (lv' := [(4, .int v_290), (3, .int v_287), (5, .int r_276), (0, .ref a_0), (1, .ref a_1), (2, .int a_2)]) rfl ?_
            refine v_goto hC dX8_bitTells_53 (tgt := 5) (by decide) ?_
            refine v_pick [0, 1, 3, 4, 5] rfl ?_
            exact ih_252 v_290 (by first | omega | (simp only [Int32.lt_iff_toInt_lt, Int32.le_iff_toInt_le, Int32.reduceToInt, ← Int32.toInt_inj]; omega)) v_287 (by first | omega | (simp only [Int32.lt_iff_toInt_lt, Int32.le_iff_toInt_le, Int32.reduceToInt, ← Int32.toInt_inj]; omega))
          · simp only [Int32.lt_iff_toInt_lt, Int32.le_iff_toInt_le, Int32.reduceToInt, ← Int32.toInt_inj] at h_286
            refine v_iconst hC dX8_bitTells_43 (v := 1) (by decide) ?_
            refine v_goto hC dX8_bitTells_44 (tgt := 48) (by decide) ?_
            obtain ⟨v_293, h_294⟩ : ∃ v9 : Int32, i_248 + 1 = v9 := ⟨_, rfl⟩
            refine v_iadd hC dX8_bitTells_48 h_294 ?_
            refine v_istore_n hC dX8_bitTells_49 (by decide) (lv' := [(3, .int v_293), (5, .int r_276), (4, .int i_247), (0, .ref a_0), (1, .ref a_1), (2, .int a_2)]) rfl ?_
            obtain ⟨v_296, h_297⟩ : ∃ v9 : Int32, i_247 + Int32.ofInt 1 = v9 := ⟨_, rfl⟩
            have h_298 := add_v (b := 1) h_297 (by first | omega | (simp only [Int32.lt_iff_toInt_lt, Int32.le_iff_toInt_le, Int32.reduceToInt, ← Int32.toInt_inj]; omega)) (by first | omega | (simp only [Int32.lt_iff_toInt_lt, Int32.le_iff_toInt_le, Int32.reduceToInt, ← Int32.toInt_inj]; omega))
            simp only [Int32.reduceToInt] at h_298
            refine v_iinc hC dX8_bitTells_50 (k := 2) rfl (v := v_296) h_297 (by decide) (lv' := [(4, .int v_296), (3, .int v_293), (5, .int r_276), (0, .ref a_0), (1, .ref a_1), (2, .int a_2)]) rfl ?_
            refine v_goto hC dX8_bitTells_53 (tgt := 5) (by decide) ?_
            refine v_pick [0, 1, 3, 4, 5] rfl ?_
            exact ih_252 v_296 (by first | omega | (simp only [Int32.lt_iff_toInt_lt, Int32.le_iff_toInt_le, Int32.reduceToInt, ← Int32.toInt_inj]; omega)) v_293 (by first | omega | (simp only [Int32.lt_iff_toInt_lt, Int32.le_iff_toInt_le, Int32.reduceToInt, ← Int32.toInt_inj]; omega))
  refine v_pick [0, 1, 2, 3, 4] rfl ?_
  exact lp_250 7 0 (by decide) 0 (by decide)
set_option maxRecDepth 100000 in
set_option maxHeartbeats 4000000 in
theorem p_X8_fiveTells {l : Launch} {E : Ez} {L : List Nat} {f : Nat → va_E} {T : Nat → va_E → Prop} {a_0 : Nat} {a_1 : Nat} {a_2 : Int32} (hW : WT T L f) (k_0 : isWalk T L E a_0) (k_1 : isClo T L E a_1) : CI l yX8_fiveTells cX8_fiveTells 6 .int 3 0 0 E [.ref a_0, .ref a_1, .int a_2] L f (fun r L1 f1 => L = L1 ∧ f = f1) := by
  refine ci_of (by decide) (Nat.le_of_ble_eq_true rfl) (fun z hz hnm hC hR => ?_)
  have hC : Cx z E cX8_fiveTells RX8 6 3 0 0 := hC
  subst hz
  show V z E 6 0 0 L f 0 [(0, .ref a_0), (1, .ref a_1), (2, .int a_2)] []
  refine v_iconst hC dX8_fiveTells_0 (v := 0) (by decide) ?_
  refine v_istore_n hC dX8_fiveTells_1 (by decide) (lv' := [(3, .int 0), (0, .ref a_0), (1, .ref a_1), (2, .int a_2)]) rfl ?_
  refine v_iconst hC dX8_fiveTells_2 (v := 0) (by decide) ?_
  refine v_istore hC dX8_fiveTells_3 (by decide) (lv' := [(4, .int 0), (3, .int 0), (0, .ref a_0), (1, .ref a_1), (2, .int a_2)]) rfl ?_
  have lp_208 : ∀ (n_209 : Nat) (i_205 : Int32) (b_207 : (0 ≤ i_205.toInt ∧ i_205.toInt ≤ 5)) (i_206 : Int32) (hm_211 : 5 - i_205.toInt < (n_209 : Int)), V z E 6 0 0 L f 5 [(4, .int i_205), (3, .int i_206), (0, .ref a_0), (1, .ref a_1), (2, .int a_2)] [] := by
    intro n_209
    induction n_209 with
    | zero =>
      intro i_205 b_207 i_206 hm_211
      exfalso; omega
    | succ n_209 ih_210 =>
      intro i_205 b_207 i_206 hm_211
      refine v_iload hC dX8_fiveTells_5 rfl ?_
      refine v_iconst hC dX8_fiveTells_7 (v := 5) (by decide) ?_
      refine v_icmp_ge hC dX8_fiveTells_8 (tgt := 46) (by decide) (fun h_212 => ?_) (fun h_212 => ?_)
      · simp only [Int32.lt_iff_toInt_lt, Int32.le_iff_toInt_le, Int32.reduceToInt, ← Int32.toInt_inj] at h_212
        refine v_iload_n hC dX8_fiveTells_46 rfl ?_
        exact hR _ _ _ _ _ _ _ dX8_fiveTells_47 rfl (Nat.le_of_ble_eq_true rfl) (Nat.le_of_ble_eq_true rfl) ⟨rfl, rfl⟩
      · simp only [Int32.lt_iff_toInt_lt, Int32.le_iff_toInt_le, Int32.reduceToInt, ← Int32.toInt_inj] at h_212
        refine v_aload_n hC dX8_fiveTells_11 rfl ?_
        refine v_aload_n hC dX8_fiveTells_12 rfl ?_
        refine v_iload_n hC dX8_fiveTells_13 rfl ?_
        refine v_iconst hC dX8_fiveTells_14 (v := 5) (by decide) ?_
        obtain ⟨v_213, h_214⟩ : ∃ v9 : Int32, a_2 * 5 = v9 := ⟨_, rfl⟩
        refine v_imul hC dX8_fiveTells_15 h_214 ?_
        refine v_iload hC dX8_fiveTells_16 rfl ?_
        obtain ⟨v_216, h_217⟩ : ∃ v9 : Int32, v_213 + i_205 = v9 := ⟨_, rfl⟩
        refine v_iadd hC dX8_fiveTells_18 h_217 ?_
        obtain ⟨m_219, q_221, t_220, k_222⟩ := id k_0
        obtain ⟨v_224, v_226, v_228, v_230, e_223, b_225, b_227, b_229, b_231⟩ := hW.at m_219 t_220
        refine v_vi hC (rest := []) m_219 e_223 rfl mi_X8_bitTells ms_X8_bitTells (p_X8_bitTells hW k_0 k_1) mx_X8_bitTells ml_X8_83 (by decide) rfl (cells1 := 0) (slots1 := 0) (by decide) (by decide) (Nat.le_of_ble_eq_true rfl) (Nat.le_of_ble_eq_true rfl) rfl (Nat.le_of_ble_eq_true rfl) dX8_fiveTells_19 (fun r_232 L_233 f_234 h_235 => ?_)
        obtain ⟨rfl, rfl, b_236⟩ := h_235
        refine v_istore hC dX8_fiveTells_22 (by decide) (lv' := [(5, .int r_232), (4, .int i_205), (3, .int i_206), (0, .ref a_0), (1, .ref a_1), (2, .int a_2)]) rfl ?_
        refine v_iload hC dX8_fiveTells_24 rfl ?_
        refine v_iconst hC dX8_fiveTells_26 (v := 2) (by decide) ?_
        refine v_icmp_ne hC dX8_fiveTells_27 (tgt := 33) (by decide) (fun h_239 => ?_) (fun h_239 => ?_)
        · simp only [Int32.lt_iff_toInt_lt, Int32.le_iff_toInt_le, Int32.reduceToInt, ← Int32.toInt_inj] at h_239
          refine v_iconst hC dX8_fiveTells_33 (v := 2) (by decide) ?_
          refine v_iload_n hC dX8_fiveTells_34 rfl ?_
          obtain ⟨v_240, h_241⟩ : ∃ v9 : Int32, (2 : Int32) * i_206 = v9 := ⟨_, rfl⟩
          refine v_imul hC dX8_fiveTells_35 h_241 ?_
          refine v_iload hC dX8_fiveTells_36 rfl ?_
          obtain ⟨v_243, h_244⟩ : ∃ v9 : Int32, v_240 + r_232 = v9 := ⟨_, rfl⟩
          refine v_iadd hC dX8_fiveTells_38 h_244 ?_
          refine v_istore_n hC dX8_fiveTells_39 (by decide) (lv' := [(3, .int v_243), (5, .int r_232), (4, .int i_205), (0, .ref a_0), (1, .ref a_1), (2, .int a_2)]) rfl ?_
          obtain ⟨v_246, h_247⟩ : ∃ v9 : Int32, i_205 + Int32.ofInt 1 = v9 := ⟨_, rfl⟩
          have h_248 := add_v (b := 1) h_247 (by first | omega | (simp only [Int32.lt_iff_toInt_lt, Int32.le_iff_toInt_le, Int32.reduceToInt, ← Int32.toInt_inj]; omega)) (by first | omega | (simp only [Int32.lt_iff_toInt_lt, Int32.le_iff_toInt_le, Int32.reduceToInt, ← Int32.toInt_inj]; omega))
          simp only [Int32.reduceToInt] at h_248
          refine v_iinc hC dX8_fiveTells_40 (k := 2) rfl (v := v_246) h_247 (by decide) (lv' := [(4, .int v_246), (3, .int v_243), (5, .int r_232), (0, .ref a_0), (1, .ref a_1), (2, .int a_2)]) rfl ?_
          refine v_goto hC dX8_fiveTells_43 (tgt := 5) (by decide) ?_
          refine v_pick [0, 1, 3, 4, 5] rfl ?_
          exact ih_210 v_246 (by first | omega | (simp only [Int32.lt_iff_toInt_lt, Int32.le_iff_toInt_le, Int32.reduceToInt, ← Int32.toInt_inj]; omega)) v_243 (by first | omega | (simp only [Int32.lt_iff_toInt_lt, Int32.le_iff_toInt_le, Int32.reduceToInt, ← Int32.toInt_inj]; omega))
        · simp only [Int32.lt_iff_toInt_lt, Int32.le_iff_toInt_le, Int32.reduceToInt, ← Int32.toInt_inj] at h_239
          refine v_bipush hC dX8_fiveTells_30 (v := 32) (by decide) ?_
          exact hR _ _ _ _ _ _ _ dX8_fiveTells_32 rfl (Nat.le_of_ble_eq_true rfl) (Nat.le_of_ble_eq_true rfl) ⟨rfl, rfl⟩
  refine v_pick [0, 1, 2, 3, 4] rfl ?_
  exact lp_208 7 0 (by decide) 0 (by decide)
set_option maxRecDepth 100000 in
set_option maxHeartbeats 4000000 in
theorem p_X2_hear {l : Launch} {E : Ez} {L : List Nat} {f : Nat → va_E} {T : Nat → va_E → Prop} {a_0 : Nat} {a_1 : Nat} {a_2 : Nat} (hW : WT T L f) (k_0 : isLet T L E a_0) (k_1 : isClo T L E a_1) (k_2 : isWalk T L E a_2) : CI l yX2_hear cX2_hear 5 .boolean 4 0 0 E [.ref a_0, .ref a_1, .ref a_2] L f (fun r L1 f1 => L = L1 ∧ WT T L f1 ∧ FR [2, 151] f f1 ∧ (0 ≤ r.toInt ∧ r.toInt ≤ 1)) := by
  refine ci_of (by decide) (Nat.le_of_ble_eq_true rfl) (fun z hz hnm hC hR => ?_)
  have hC : Cx z E cX2_hear RX2 5 4 0 0 := hC
  subst hz
  show V z E 5 0 0 L f 0 [(0, .ref a_0), (1, .ref a_1), (2, .ref a_2)] []
  refine v_aload_n hC dX2_hear_0 rfl ?_
  refine v_iconst hC dX2_hear_1 (v := 0) (by decide) ?_
  obtain ⟨m_1, q_3, t_2, k_4⟩ := id k_0
  obtain ⟨v_6, e_5, b_7⟩ := hW.at m_1 t_2
  refine v_put hC fl_X2_21 m_1 e_5 rfl rfl (Nat.le_of_ble_eq_true rfl) (fs' := [.ref q_3, .int 0]) rfl dX2_hear_2 (fun f_8 hf_9 hk_10 => ?_)
  have hW_11 := hW.up hf_9 hk_10 t_2 ⟨0, rfl, (by decide)⟩
  have fr_12 := FR.w hk_10 e_5 (k := 2) rfl
  refine v_iconst hC dX2_hear_5 (v := 0) (by decide) ?_
  refine v_istore_n hC dX2_hear_6 (by decide) (lv' := [(3, .int 0), (0, .ref a_0), (1, .ref a_1), (2, .ref a_2)]) rfl ?_
  have lp_251 : ∀ (n_252 : Nat) (f_247 : Nat → va_E) (hW_248 : WT T L f_247) (hF_249 : FR [2, 151] f_8 f_247) (i_246 : Int32) (b_250 : (0 ≤ i_246.toInt ∧ i_246.toInt ≤ 51)) (hm_254 : 51 - i_246.toInt < (n_252 : Int)), V z E 5 0 0 L f_247 7 [(3, .int i_246), (0, .ref a_0), (1, .ref a_1), (2, .ref a_2)] [] := by
    intro n_252
    induction n_252 with
    | zero =>
      intro f_247 hW_248 hF_249 i_246 b_250 hm_254
      exfalso; omega
    | succ n_252 ih_253 =>
      intro f_247 hW_248 hF_249 i_246 b_250 hm_254
      refine v_iload_n hC dX2_hear_7 rfl ?_
      refine v_aload_n hC dX2_hear_8 rfl ?_
      obtain ⟨m_255, q_257, t_256, k_258⟩ := id k_2
      obtain ⟨v_260, v_262, v_264, v_266, e_259, b_261, b_263, b_265, b_267⟩ := hW_248.at m_255 t_256
      refine v_getN hC fn_X2_39 m_255 e_259 rfl dX2_hear_9 ?_
      refine v_iconst hC dX2_hear_12 (v := 5) (by decide) ?_
      obtain ⟨v_268, h_269⟩ : ∃ v9 : Int32, v_266 / 5 = v9 := ⟨_, rfl⟩
      refine v_idiv hC dX2_hear_13 (by decide) h_269 ?_
      have h_270 := div_v h_269 (by first | omega | (simp only [Int32.lt_iff_toInt_lt, Int32.le_iff_toInt_le, Int32.reduceToInt, ← Int32.toInt_inj]; omega)) (by decide)
      try simp only [Int32.reduceToInt] at h_270
      refine v_icmp_ge hC dX2_hear_14 (tgt := 73) (by decide) (fun h_271 => ?_) (fun h_271 => ?_)
      · simp only [Int32.lt_iff_toInt_lt, Int32.le_iff_toInt_le, Int32.reduceToInt, ← Int32.toInt_inj] at h_271
        refine v_iconst hC dX2_hear_73 (v := 0) (by decide) ?_
        exact hR _ _ _ _ _ _ _ dX2_hear_74 rfl (Nat.le_of_ble_eq_true rfl) (Nat.le_of_ble_eq_true rfl) ⟨rfl, hW_248, ((fr_12.tr hF_249).mono rfl), (by decide)⟩
      · simp only [Int32.lt_iff_toInt_lt, Int32.le_iff_toInt_le, Int32.reduceToInt, ← Int32.toInt_inj] at h_271
        refine v_aload_n hC dX2_hear_17 rfl ?_
        refine v_aload_n hC dX2_hear_18 rfl ?_
        refine v_iload_n hC dX2_hear_19 rfl ?_
        refine v_vi hC (rest := []) m_255 e_259 rfl mi_X8_fiveTells ms_X8_fiveTells (p_X8_fiveTells hW_248 k_2 k_1) mx_X8_fiveTells ml_X2_44 (by decide) rfl (cells1 := 0) (slots1 := 0) (by decide) (by decide) (Nat.le_of_ble_eq_true rfl) (Nat.le_of_ble_eq_true rfl) rfl (Nat.le_of_ble_eq_true rfl) dX2_hear_20 (fun r_272 L_273 f_274 h_275 => ?_)
        obtain ⟨rfl, rfl⟩ := h_275
        refine v_istore hC dX2_hear_23 (by decide) (lv' := [(4, .int r_272), (3, .int i_246), (0, .ref a_0), (1, .ref a_1), (2, .ref a_2)]) rfl ?_
        refine v_iload hC dX2_hear_25 rfl ?_
        refine v_bipush hC dX2_hear_27 (v := 31) (by decide) ?_
        refine v_icmp_ne hC dX2_hear_29 (tgt := 45) (by decide) (fun h_278 => ?_) (fun h_278 => ?_)
        · simp only [Int32.lt_iff_toInt_lt, Int32.le_iff_toInt_le, Int32.reduceToInt, ← Int32.toInt_inj] at h_278
          refine v_iload hC dX2_hear_45 rfl ?_
          refine v_bipush hC dX2_hear_47 (v := 26) (by decide) ?_
          refine v_icmp_le hC dX2_hear_49 (tgt := 61) (by decide) (fun h_279 => ?_) (fun h_279 => ?_)
          · simp only [Int32.lt_iff_toInt_lt, Int32.le_iff_toInt_le, Int32.reduceToInt, ← Int32.toInt_inj] at h_279
            refine v_aload_n hC dX2_hear_61 rfl ?_
            refine v_iload hC dX2_hear_62 rfl ?_
            obtain ⟨v_281, e_280, b_282⟩ := hW_248.at m_1 t_2
            refine v_vv hC (rest := []) m_1 e_280 rfl mi_X2_add ms_X2_add (p_X2_add hW_248 k_0) mx_X2_add ml_X2_32 (by decide) rfl (cells1 := 0) (slots1 := 0) (by decide) (by decide) (Nat.le_of_ble_eq_true rfl) (Nat.le_of_ble_eq_true rfl) rfl (Nat.le_of_ble_eq_true rfl) dX2_hear_64 (fun L_284 f_285 h_286 => ?_)
            obtain ⟨rfl, hW_287, hF_288⟩ := h_286
            have hf_289 := hF_288.at e_259 rfl
            obtain ⟨v_290, h_291⟩ : ∃ v9 : Int32, i_246 + Int32.ofInt 1 = v9 := ⟨_, rfl⟩
            have h_292 := add_v (b := 1) h_291 (by first | omega | (simp only [Int32.lt_iff_toInt_lt, Int32.le_iff_toInt_le, Int32.reduceToInt, ← Int32.toInt_inj]; omega)) (by first | omega | (simp only [Int32.lt_iff_toInt_lt, Int32.le_iff_toInt_le, Int32.reduceToInt, ← Int32.toInt_inj]; omega))
            simp only [Int32.reduceToInt] at h_292
            refine v_iinc hC dX2_hear_67 (k := 1) rfl (v := v_290) h_291 (by decide) (lv' := [(3, .int v_290), (4, .int r_272), (0, .ref a_0), (1, .ref a_1), (2, .ref a_2)]) rfl ?_
            refine v_goto hC dX2_hear_70 (tgt := 7) (by decide) ?_
            refine v_pick [0, 2, 3, 4] rfl ?_
            exact ih_253 f_285 hW_287 ((hF_249.tr hF_288).mono rfl) v_290 (by first | omega | (simp only [Int32.lt_iff_toInt_lt, Int32.le_iff_toInt_le, Int32.reduceToInt, ← Int32.toInt_inj]; omega)) (by first | omega | (simp only [Int32.lt_iff_toInt_lt, Int32.le_iff_toInt_le, Int32.reduceToInt, ← Int32.toInt_inj]; omega))
          · simp only [Int32.lt_iff_toInt_lt, Int32.le_iff_toInt_le, Int32.reduceToInt, ← Int32.toInt_inj] at h_279
            refine v_iload hC dX2_hear_52 rfl ?_
            refine v_bipush hC dX2_hear_54 (v := 32) (by decide) ?_
            refine v_icmp_eq hC dX2_hear_56 (tgt := 61) (by decide) (fun h_293 => ?_) (fun h_293 => ?_)
            · simp only [Int32.lt_iff_toInt_lt, Int32.le_iff_toInt_le, Int32.reduceToInt, ← Int32.toInt_inj] at h_293
              refine v_aload_n hC dX2_hear_61 rfl ?_
              refine v_iload hC dX2_hear_62 rfl ?_
              obtain ⟨v_295, e_294, b_296⟩ := hW_248.at m_1 t_2
              refine v_vv hC (rest := []) m_1 e_294 rfl mi_X2_add ms_X2_add (p_X2_add hW_248 k_0) mx_X2_add ml_X2_32 (by decide) rfl (cells1 := 0) (slots1 := 0) (by decide) (by decide) (Nat.le_of_ble_eq_true rfl) (Nat.le_of_ble_eq_true rfl) rfl (Nat.le_of_ble_eq_true rfl) dX2_hear_64 (fun L_298 f_299 h_300 => ?_)
              obtain ⟨rfl, hW_301, hF_302⟩ := h_300
              have hf_303 := hF_302.at e_259 rfl
              obtain ⟨v_304, h_305⟩ : ∃ v9 : Int32, i_246 + Int32.ofInt 1 = v9 := ⟨_, rfl⟩
              have h_306 := add_v (b := 1) h_305 (by first | omega | (simp only [Int32.lt_iff_toInt_lt, Int32.le_iff_toInt_le, Int32.reduceToInt, ← Int32.toInt_inj]; omega)) (by first | omega | (simp only [Int32.lt_iff_toInt_lt, Int32.le_iff_toInt_le, Int32.reduceToInt, ← Int32.toInt_inj]; omega))
              simp only [Int32.reduceToInt] at h_306
              refine v_iinc hC dX2_hear_67 (k := 1) rfl (v := v_304) h_305 (by decide) (lv' := [(3, .int v_304), (4, .int r_272), (0, .ref a_0), (1, .ref a_1), (2, .ref a_2)]) rfl ?_
              refine v_goto hC dX2_hear_70 (tgt := 7) (by decide) ?_
              refine v_pick [0, 2, 3, 4] rfl ?_
              exact ih_253 f_299 hW_301 ((hF_249.tr hF_302).mono rfl) v_304 (by first | omega | (simp only [Int32.lt_iff_toInt_lt, Int32.le_iff_toInt_le, Int32.reduceToInt, ← Int32.toInt_inj]; omega)) (by first | omega | (simp only [Int32.lt_iff_toInt_lt, Int32.le_iff_toInt_le, Int32.reduceToInt, ← Int32.toInt_inj]; omega))
            · simp only [Int32.lt_iff_toInt_lt, Int32.le_iff_toInt_le, Int32.reduceToInt, ← Int32.toInt_inj] at h_293
              refine v_iconst hC dX2_hear_59 (v := 0) (by decide) ?_
              exact hR _ _ _ _ _ _ _ dX2_hear_60 rfl (Nat.le_of_ble_eq_true rfl) (Nat.le_of_ble_eq_true rfl) ⟨rfl, hW_248, ((fr_12.tr hF_249).mono rfl), (by decide)⟩
        · simp only [Int32.lt_iff_toInt_lt, Int32.le_iff_toInt_le, Int32.reduceToInt, ← Int32.toInt_inj] at h_278
          refine v_aload_n hC dX2_hear_32 rfl ?_
          obtain ⟨v_308, e_307, b_309⟩ := hW_248.at m_1 t_2
          refine v_get hC fl_X2_21 m_1 e_307 rfl dX2_hear_33 ?_
          refine v_if_le hC dX2_hear_36 (tgt := 43) (by decide) (fun h_310 => ?_) (fun h_310 => ?_)
          · simp only [Int32.lt_iff_toInt_lt, Int32.le_iff_toInt_le, Int32.reduceToInt, ← Int32.toInt_inj] at h_310
            refine v_iconst hC dX2_hear_43 (v := 0) (by decide) ?_
            exact hR _ _ _ _ _ _ _ dX2_hear_44 rfl (Nat.le_of_ble_eq_true rfl) (Nat.le_of_ble_eq_true rfl) ⟨rfl, hW_248, ((fr_12.tr hF_249).mono rfl), (by decide)⟩
          · simp only [Int32.lt_iff_toInt_lt, Int32.le_iff_toInt_le, Int32.reduceToInt, ← Int32.toInt_inj] at h_310
            refine v_iconst hC dX2_hear_39 (v := 1) (by decide) ?_
            refine v_goto hC dX2_hear_40 (tgt := 44) (by decide) ?_
            exact hR _ _ _ _ _ _ _ dX2_hear_44 rfl (Nat.le_of_ble_eq_true rfl) (Nat.le_of_ble_eq_true rfl) ⟨rfl, hW_248, ((fr_12.tr hF_249).mono rfl), (by decide)⟩
  refine v_pick [0, 1, 2, 3] rfl ?_
  exact lp_251 53 f_8 hW_11 FR.rf 0 (by decide) (by decide)
set_option maxRecDepth 100000 in
set_option maxHeartbeats 4000000 in
theorem p_X8_lastPlaceLeft {l : Launch} {E : Ez} {L : List Nat} {f : Nat → va_E} {T : Nat → va_E → Prop} {a_0 : Nat} {a_1 : Nat} {a_2 : Int32} (hW : WT T L f) (k_0 : isWalk T L E a_0) (k_1 : isClo T L E a_1) : CI l yX8_lastPlaceLeft cX8_lastPlaceLeft 5 .int 1 0 0 E [.ref a_0, .ref a_1, .int a_2] L f (fun r L1 f1 => L = L1 ∧ f = f1) := by
  refine ci_of (by decide) (Nat.le_of_ble_eq_true rfl) (fun z hz hnm hC hR => ?_)
  have hC : Cx z E cX8_lastPlaceLeft RX8 5 1 0 0 := hC
  subst hz
  show V z E 5 0 0 L f 0 [(0, .ref a_0), (1, .ref a_1), (2, .int a_2)] []
  refine v_aload_n hC dX8_lastPlaceLeft_0 rfl ?_
  obtain ⟨m_1, q_3, t_2, k_4⟩ := id k_0
  obtain ⟨v_6, v_8, v_10, v_12, e_5, b_7, b_9, b_11, b_13⟩ := hW.at m_1 t_2
  refine v_get hC fl_X8_15 m_1 e_5 rfl dX8_lastPlaceLeft_1 ?_
  refine v_iconst hC dX8_lastPlaceLeft_4 (v := 1) (by decide) ?_
  obtain ⟨v_14, h_15⟩ : ∃ v9 : Int32, v_8 - 1 = v9 := ⟨_, rfl⟩
  refine v_isub hC dX8_lastPlaceLeft_5 h_15 ?_
  have h_16 := sub_v h_15 (by first | omega | (simp only [Int32.lt_iff_toInt_lt, Int32.le_iff_toInt_le, Int32.reduceToInt, ← Int32.toInt_inj]; omega)) (by first | omega | (simp only [Int32.lt_iff_toInt_lt, Int32.le_iff_toInt_le, Int32.reduceToInt, ← Int32.toInt_inj]; omega))
  try simp only [Int32.reduceToInt] at h_16
  refine v_istore_n hC dX8_lastPlaceLeft_6 (by decide) (lv' := [(3, .int v_14), (0, .ref a_0), (1, .ref a_1), (2, .int a_2)]) rfl ?_
  have lp_157 : ∀ (n_158 : Nat) (i_155 : Int32) (b_156 : ((-1) ≤ i_155.toInt ∧ i_155.toInt ≤ 4)) (hm_160 : i_155.toInt - (-1) < (n_158 : Int)), V z E 5 0 0 L f 7 [(3, .int i_155), (0, .ref a_0), (1, .ref a_1), (2, .int a_2)] [] := by
    intro n_158
    induction n_158 with
    | zero =>
      intro i_155 b_156 hm_160
      exfalso; omega
    | succ n_158 ih_159 =>
      intro i_155 b_156 hm_160
      refine v_iload_n hC dX8_lastPlaceLeft_7 rfl ?_
      refine v_if_lt hC dX8_lastPlaceLeft_8 (tgt := 44) (by decide) (fun h_161 => ?_) (fun h_161 => ?_)
      · simp only [Int32.lt_iff_toInt_lt, Int32.le_iff_toInt_le, Int32.reduceToInt, ← Int32.toInt_inj] at h_161
        refine v_iconst hC dX8_lastPlaceLeft_44 (v := (-1)) (by decide) ?_
        exact hR _ _ _ _ _ _ _ dX8_lastPlaceLeft_45 rfl (Nat.le_of_ble_eq_true rfl) (Nat.le_of_ble_eq_true rfl) ⟨rfl, rfl⟩
      · simp only [Int32.lt_iff_toInt_lt, Int32.le_iff_toInt_le, Int32.reduceToInt, ← Int32.toInt_inj] at h_161
        refine v_aload_n hC dX8_lastPlaceLeft_11 rfl ?_
        refine v_iload_n hC dX8_lastPlaceLeft_12 rfl ?_
        refine v_aload_n hC dX8_lastPlaceLeft_13 rfl ?_
        refine v_get hC fl_X8_15 m_1 e_5 rfl dX8_lastPlaceLeft_14 ?_
        obtain ⟨v_162, h_163⟩ : ∃ v9 : Int32, a_2 * v_8 = v9 := ⟨_, rfl⟩
        refine v_imul hC dX8_lastPlaceLeft_17 h_163 ?_
        refine v_iload_n hC dX8_lastPlaceLeft_18 rfl ?_
        obtain ⟨v_165, h_166⟩ : ∃ v9 : Int32, v_162 + i_155 = v9 := ⟨_, rfl⟩
        refine v_iadd hC dX8_lastPlaceLeft_19 h_166 ?_
        refine v_vi hC (rest := []) m_1 e_5 rfl mi_X8_placeAt ms_X8_placeAt (p_X8_placeAt hW k_0) mx_X8_placeAt ml_X8_71 (by decide) rfl (cells1 := 0) (slots1 := 0) (by decide) (by decide) (Nat.le_of_ble_eq_true rfl) (Nat.le_of_ble_eq_true rfl) rfl (Nat.le_of_ble_eq_true rfl) dX8_lastPlaceLeft_20 (fun r_168 L_169 f_170 h_171 => ?_)
        obtain ⟨rfl, rfl, h_172⟩ := h_171
        refine v_istore hC dX8_lastPlaceLeft_23 (by decide) (lv' := [(4, .int r_168), (3, .int i_155), (0, .ref a_0), (1, .ref a_1), (2, .int a_2)]) rfl ?_
        refine v_aload_n hC dX8_lastPlaceLeft_25 rfl ?_
        refine v_iload hC dX8_lastPlaceLeft_26 rfl ?_
        obtain ⟨m_175, q_177, t_176, k_178⟩ := id k_1
        obtain ⟨v_180, e_179, b_181⟩ := hW.at m_175 t_176
        refine v_vi hC (rest := []) m_175 e_179 rfl mi_X1_stitchAt ms_X1_stitchAt (p_X1_stitchAt hW k_1) mx_X1_stitchAt ml_X8_74 (by decide) rfl (cells1 := 0) (slots1 := 0) (by decide) (by decide) (Nat.le_of_ble_eq_true rfl) (Nat.le_of_ble_eq_true rfl) rfl (Nat.le_of_ble_eq_true rfl) dX8_lastPlaceLeft_28 (fun r_182 L_183 f_184 h_185 => ?_)
        obtain ⟨rfl, rfl, h_186⟩ := h_185
        refine v_iconst hC dX8_lastPlaceLeft_31 (v := 4) (by decide) ?_
        refine v_icmp_eq hC dX8_lastPlaceLeft_32 (tgt := 38) (by decide) (fun h_189 => ?_) (fun h_189 => ?_)
        · simp only [Int32.lt_iff_toInt_lt, Int32.le_iff_toInt_le, Int32.reduceToInt, ← Int32.toInt_inj] at h_189
          obtain ⟨v_190, h_191⟩ : ∃ v9 : Int32, i_155 + Int32.ofInt (-1) = v9 := ⟨_, rfl⟩
          have h_192 := add_v (b := (-1)) h_191 (by first | omega | (simp only [Int32.lt_iff_toInt_lt, Int32.le_iff_toInt_le, Int32.reduceToInt, ← Int32.toInt_inj]; omega)) (by first | omega | (simp only [Int32.lt_iff_toInt_lt, Int32.le_iff_toInt_le, Int32.reduceToInt, ← Int32.toInt_inj]; omega))
          simp only [Int32.reduceToInt] at h_192
          refine v_iinc hC dX8_lastPlaceLeft_38 (k := 1) rfl (v := v_190) h_191 (by decide) (lv' := [(3, .int v_190), (4, .int r_168), (0, .ref a_0), (1, .ref a_1), (2, .int a_2)]) rfl ?_
          refine v_goto hC dX8_lastPlaceLeft_41 (tgt := 7) (by decide) ?_
          refine v_pick [0, 2, 3, 4] rfl ?_
          exact ih_159 v_190 (by first | omega | (simp only [Int32.lt_iff_toInt_lt, Int32.le_iff_toInt_le, Int32.reduceToInt, ← Int32.toInt_inj]; omega)) (by first | omega | (simp only [Int32.lt_iff_toInt_lt, Int32.le_iff_toInt_le, Int32.reduceToInt, ← Int32.toInt_inj]; omega))
        · simp only [Int32.lt_iff_toInt_lt, Int32.le_iff_toInt_le, Int32.reduceToInt, ← Int32.toInt_inj] at h_189
          refine v_iload hC dX8_lastPlaceLeft_35 rfl ?_
          exact hR _ _ _ _ _ _ _ dX8_lastPlaceLeft_37 rfl (Nat.le_of_ble_eq_true rfl) (Nat.le_of_ble_eq_true rfl) ⟨rfl, rfl⟩
  refine v_pick [0, 1, 2, 3] rfl ?_
  exact lp_157 7 v_14 (by first | omega | (simp only [Int32.lt_iff_toInt_lt, Int32.le_iff_toInt_le, Int32.reduceToInt, ← Int32.toInt_inj]; omega)) (by first | omega | (simp only [Int32.lt_iff_toInt_lt, Int32.le_iff_toInt_le, Int32.reduceToInt, ← Int32.toInt_inj]; omega))
set_option maxRecDepth 100000 in
set_option maxHeartbeats 4000000 in
theorem p_X8_setBit {l : Launch} {E : Ez} {L : List Nat} {f : Nat → va_E} {T : Nat → va_E → Prop} {a_0 : Nat} {a_1 : Nat} {a_2 : Nat} {a_3 : Int32} {a_4 : Int32} (hW : WT T L f) (k_0 : isWalk T L E a_0) (k_1 : isClo T L E a_1) (k_2 : isPat T L E a_2) : CI l yX8_setBit cX8_setBit 9 .int 3 0 0 E [.ref a_0, .ref a_1, .ref a_2, .int a_3, .int a_4] L f (fun r L1 f1 => L = L1 ∧ WT T L f1 ∧ FR [356] f f1) := by
  refine ci_of (by decide) (Nat.le_of_ble_eq_true rfl) (fun z hz hnm hC hR => ?_)
  have hC : Cx z E cX8_setBit RX8 9 3 0 0 := hC
  subst hz
  show V z E 9 0 0 L f 0 [(0, .ref a_0), (1, .ref a_1), (2, .ref a_2), (3, .int a_3), (4, .int a_4)] []
  refine v_iconst hC dX8_setBit_0 (v := 0) (by decide) ?_
  refine v_istore hC dX8_setBit_1 (by decide) (lv' := [(5, .int 0), (0, .ref a_0), (1, .ref a_1), (2, .ref a_2), (3, .int a_3), (4, .int a_4)]) rfl ?_
  refine v_iconst hC dX8_setBit_3 (v := 0) (by decide) ?_
  refine v_istore hC dX8_setBit_4 (by decide) (lv' := [(6, .int 0), (5, .int 0), (0, .ref a_0), (1, .ref a_1), (2, .ref a_2), (3, .int a_3), (4, .int a_4)]) rfl ?_
  have lp_578 : ∀ (n_579 : Nat) (f_574 : Nat → va_E) (hW_575 : WT T L f_574) (hF_576 : FR [356] f f_574) (i_572 : Int32) (b_577 : (0 ≤ i_572.toInt ∧ i_572.toInt ≤ 5)) (i_573 : Int32) (hm_581 : 5 - i_572.toInt < (n_579 : Int)), V z E 9 0 0 L f_574 6 [(6, .int i_572), (5, .int i_573), (0, .ref a_0), (1, .ref a_1), (2, .ref a_2), (3, .int a_3), (4, .int a_4)] [] := by
    intro n_579
    induction n_579 with
    | zero =>
      intro f_574 hW_575 hF_576 i_572 b_577 i_573 hm_581
      exfalso; omega
    | succ n_579 ih_580 =>
      intro f_574 hW_575 hF_576 i_572 b_577 i_573 hm_581
      refine v_iload hC dX8_setBit_6 rfl ?_
      refine v_aload_n hC dX8_setBit_8 rfl ?_
      obtain ⟨m_582, q_584, t_583, k_585⟩ := id k_0
      obtain ⟨v_587, v_589, v_591, v_593, e_586, b_588, b_590, b_592, b_594⟩ := hW_575.at m_582 t_583
      refine v_get hC fl_X8_19 m_582 e_586 rfl dX8_setBit_9 ?_
      refine v_icmp_ge hC dX8_setBit_12 (tgt := 80) (by decide) (fun h_595 => ?_) (fun h_595 => ?_)
      · simp only [Int32.lt_iff_toInt_lt, Int32.le_iff_toInt_le, Int32.reduceToInt, ← Int32.toInt_inj] at h_595
        refine v_iload hC dX8_setBit_80 rfl ?_
        exact hR _ _ _ _ _ _ _ dX8_setBit_82 rfl (Nat.le_of_ble_eq_true rfl) (Nat.le_of_ble_eq_true rfl) ⟨rfl, hW_575, (hF_576.mono rfl)⟩
      · simp only [Int32.lt_iff_toInt_lt, Int32.le_iff_toInt_le, Int32.reduceToInt, ← Int32.toInt_inj] at h_595
        refine v_iload_n hC dX8_setBit_15 rfl ?_
        refine v_aload_n hC dX8_setBit_16 rfl ?_
        refine v_get hC fl_X8_19 m_582 e_586 rfl dX8_setBit_17 ?_
        obtain ⟨v_596, h_597⟩ : ∃ v9 : Int32, a_3 * v_591 = v9 := ⟨_, rfl⟩
        refine v_imul hC dX8_setBit_20 h_597 ?_
        refine v_iload hC dX8_setBit_21 rfl ?_
        obtain ⟨v_599, h_600⟩ : ∃ v9 : Int32, v_596 + i_572 = v9 := ⟨_, rfl⟩
        refine v_iadd hC dX8_setBit_23 h_600 ?_
        refine v_istore hC dX8_setBit_24 (by decide) (lv' := [(7, .int v_599), (6, .int i_572), (5, .int i_573), (0, .ref a_0), (1, .ref a_1), (2, .ref a_2), (3, .int a_3), (4, .int a_4)]) rfl ?_
        refine v_aload_n hC dX8_setBit_26 rfl ?_
        refine v_aload_n hC dX8_setBit_27 rfl ?_
        refine v_iload hC dX8_setBit_28 rfl ?_
        refine v_vi hC (rest := []) m_582 e_586 rfl mi_X8_groupTells ms_X8_groupTells (p_X8_groupTells hW_575 k_0 k_1) mx_X8_groupTells ml_X8_79 (by decide) rfl (cells1 := 0) (slots1 := 0) (by decide) (by decide) (Nat.le_of_ble_eq_true rfl) (Nat.le_of_ble_eq_true rfl) rfl (Nat.le_of_ble_eq_true rfl) dX8_setBit_30 (fun r_602 L_603 f_604 h_605 => ?_)
        obtain ⟨rfl, rfl⟩ := h_605
        refine v_iload hC dX8_setBit_33 rfl ?_
        refine v_icmp_eq hC dX8_setBit_35 (tgt := 74) (by decide) (fun h_608 => ?_) (fun h_608 => ?_)
        · simp only [Int32.lt_iff_toInt_lt, Int32.le_iff_toInt_le, Int32.reduceToInt, ← Int32.toInt_inj] at h_608
          obtain ⟨v_609, h_610⟩ : ∃ v9 : Int32, i_572 + Int32.ofInt 1 = v9 := ⟨_, rfl⟩
          have h_611 := add_v (b := 1) h_610 (by first | omega | (simp only [Int32.lt_iff_toInt_lt, Int32.le_iff_toInt_le, Int32.reduceToInt, ← Int32.toInt_inj]; omega)) (by first | omega | (simp only [Int32.lt_iff_toInt_lt, Int32.le_iff_toInt_le, Int32.reduceToInt, ← Int32.toInt_inj]; omega))
          simp only [Int32.reduceToInt] at h_611
          refine v_iinc hC dX8_setBit_74 (k := 1) rfl (v := v_609) h_610 (by decide) (lv' := [(6, .int v_609), (7, .int v_599), (5, .int i_573), (0, .ref a_0), (1, .ref a_1), (2, .ref a_2), (3, .int a_3), (4, .int a_4)]) rfl ?_
          refine v_goto hC dX8_setBit_77 (tgt := 6) (by decide) ?_
          refine v_pick [0, 2, 3, 4, 5, 6, 7] rfl ?_
          exact ih_580 f_574 hW_575 (hF_576.mono rfl) v_609 (by first | omega | (simp only [Int32.lt_iff_toInt_lt, Int32.le_iff_toInt_le, Int32.reduceToInt, ← Int32.toInt_inj]; omega)) i_573 (by first | omega | (simp only [Int32.lt_iff_toInt_lt, Int32.le_iff_toInt_le, Int32.reduceToInt, ← Int32.toInt_inj]; omega))
        · simp only [Int32.lt_iff_toInt_lt, Int32.le_iff_toInt_le, Int32.reduceToInt, ← Int32.toInt_inj] at h_608
          refine v_aload_n hC dX8_setBit_38 rfl ?_
          refine v_aload_n hC dX8_setBit_39 rfl ?_
          refine v_iload hC dX8_setBit_40 rfl ?_
          refine v_vi hC (rest := []) m_582 e_586 rfl mi_X8_lastPlaceLeft ms_X8_lastPlaceLeft (p_X8_lastPlaceLeft hW_575 k_0 k_1) mx_X8_lastPlaceLeft ml_X8_86 (by decide) rfl (cells1 := 0) (slots1 := 0) (by decide) (by decide) (Nat.le_of_ble_eq_true rfl) (Nat.le_of_ble_eq_true rfl) rfl (Nat.le_of_ble_eq_true rfl) dX8_setBit_42 (fun r_612 L_613 f_614 h_615 => ?_)
          obtain ⟨rfl, rfl⟩ := h_615
          refine v_istore hC dX8_setBit_45 (by decide) (lv' := [(8, .int r_612), (7, .int v_599), (6, .int i_572), (5, .int i_573), (0, .ref a_0), (1, .ref a_1), (2, .ref a_2), (3, .int a_3), (4, .int a_4)]) rfl ?_
          refine v_iload hC dX8_setBit_47 rfl ?_
          refine v_iconst hC dX8_setBit_49 (v := (-1)) (by decide) ?_
          refine v_icmp_eq hC dX8_setBit_50 (tgt := 74) (by decide) (fun h_618 => ?_) (fun h_618 => ?_)
          · simp only [Int32.lt_iff_toInt_lt, Int32.le_iff_toInt_le, Int32.reduceToInt, ← Int32.toInt_inj] at h_618
            obtain ⟨v_619, h_620⟩ : ∃ v9 : Int32, i_572 + Int32.ofInt 1 = v9 := ⟨_, rfl⟩
            have h_621 := add_v (b := 1) h_620 (by first | omega | (simp only [Int32.lt_iff_toInt_lt, Int32.le_iff_toInt_le, Int32.reduceToInt, ← Int32.toInt_inj]; omega)) (by first | omega | (simp only [Int32.lt_iff_toInt_lt, Int32.le_iff_toInt_le, Int32.reduceToInt, ← Int32.toInt_inj]; omega))
            simp only [Int32.reduceToInt] at h_621
            refine v_iinc hC dX8_setBit_74 (k := 2) rfl (v := v_619) h_620 (by decide) (lv' := [(6, .int v_619), (8, .int r_612), (7, .int v_599), (5, .int i_573), (0, .ref a_0), (1, .ref a_1), (2, .ref a_2), (3, .int a_3), (4, .int a_4)]) rfl ?_
            refine v_goto hC dX8_setBit_77 (tgt := 6) (by decide) ?_
            refine v_pick [0, 3, 4, 5, 6, 7, 8] rfl ?_
            exact ih_580 f_574 hW_575 (hF_576.mono rfl) v_619 (by first | omega | (simp only [Int32.lt_iff_toInt_lt, Int32.le_iff_toInt_le, Int32.reduceToInt, ← Int32.toInt_inj]; omega)) i_573 (by first | omega | (simp only [Int32.lt_iff_toInt_lt, Int32.le_iff_toInt_le, Int32.reduceToInt, ← Int32.toInt_inj]; omega))
          · simp only [Int32.lt_iff_toInt_lt, Int32.le_iff_toInt_le, Int32.reduceToInt, ← Int32.toInt_inj] at h_618
            refine v_aload_n hC dX8_setBit_53 rfl ?_
            refine v_iload hC dX8_setBit_54 rfl ?_
            refine v_aload_n hC dX8_setBit_56 rfl ?_
            refine v_iload hC dX8_setBit_57 rfl ?_
            refine v_aload_n hC dX8_setBit_59 rfl ?_
            refine v_iload hC dX8_setBit_60 rfl ?_
            obtain ⟨m_622, q_624, t_623, k_625⟩ := id k_1
            obtain ⟨v_627, e_626, b_628⟩ := hW_575.at m_622 t_623
            refine v_vi hC (rest := [.int r_612, .ref a_2, .int r_612, .ref a_1]) m_622 e_626 rfl mi_X1_stitchAt ms_X1_stitchAt (p_X1_stitchAt hW_575 k_1) mx_X1_stitchAt ml_X8_74 (by decide) rfl (cells1 := 0) (slots1 := 0) (by decide) (by decide) (Nat.le_of_ble_eq_true rfl) (Nat.le_of_ble_eq_true rfl) rfl (Nat.le_of_ble_eq_true rfl) dX8_setBit_62 (fun r_629 L_630 f_631 h_632 => ?_)
            obtain ⟨rfl, rfl, h_633⟩ := h_632
            obtain ⟨m_636, q_638, q_639, t_637, k_640, k_641⟩ := id k_2
            obtain ⟨v_643, v_645, v_647, e_642, b_644, b_646, b_648⟩ := hW_575.at m_636 t_637
            refine v_vi hC (rest := [.int r_612, .ref a_1]) m_636 e_642 rfl mi_X4_turnedOver ms_X4_turnedOver (p_X4_turnedOver hW_575 k_2) mx_X4_turnedOver ml_X8_89 (by decide) rfl (cells1 := 0) (slots1 := 0) (by decide) (by decide) (Nat.le_of_ble_eq_true rfl) (Nat.le_of_ble_eq_true rfl) rfl (Nat.le_of_ble_eq_true rfl) dX8_setBit_65 (fun r_649 L_650 f_651 h_652 => ?_)
            obtain ⟨rfl, rfl, b_653, h_654⟩ := h_652
            refine v_vv hC (rest := []) m_622 e_626 rfl mi_X1_setStitch ms_X1_setStitch (p_X1_setStitch hW_575 k_1) mx_X1_setStitch ml_X8_92 (by decide) rfl (cells1 := 0) (slots1 := 0) (by decide) (by decide) (Nat.le_of_ble_eq_true rfl) (Nat.le_of_ble_eq_true rfl) rfl (Nat.le_of_ble_eq_true rfl) dX8_setBit_68 (fun L_658 f_659 h_660 => ?_)
            obtain ⟨rfl, hW_661, hF_662⟩ := h_660
            have hf_663 := hF_662.at e_586 rfl
            have hf_664 := hF_662.at e_626 rfl
            have hf_665 := hF_662.at e_642 rfl
            obtain ⟨v_666, h_667⟩ : ∃ v9 : Int32, i_573 + Int32.ofInt 1 = v9 := ⟨_, rfl⟩
            refine v_iinc hC dX8_setBit_71 (k := 3) rfl (v := v_666) h_667 (by decide) (lv' := [(5, .int v_666), (8, .int r_612), (7, .int v_599), (6, .int i_572), (0, .ref a_0), (1, .ref a_1), (2, .ref a_2), (3, .int a_3), (4, .int a_4)]) rfl ?_
            obtain ⟨v_668, h_669⟩ : ∃ v9 : Int32, i_572 + Int32.ofInt 1 = v9 := ⟨_, rfl⟩
            have h_670 := add_v (b := 1) h_669 (by first | omega | (simp only [Int32.lt_iff_toInt_lt, Int32.le_iff_toInt_le, Int32.reduceToInt, ← Int32.toInt_inj]; omega)) (by first | omega | (simp only [Int32.lt_iff_toInt_lt, Int32.le_iff_toInt_le, Int32.reduceToInt, ← Int32.toInt_inj]; omega))
            simp only [Int32.reduceToInt] at h_670
            refine v_iinc hC dX8_setBit_74 (k := 3) rfl (v := v_668) h_669 (by decide) (lv' := [(6, .int v_668), (5, .int v_666), (8, .int r_612), (7, .int v_599), (0, .ref a_0), (1, .ref a_1), (2, .ref a_2), (3, .int a_3), (4, .int a_4)]) rfl ?_
            refine v_goto hC dX8_setBit_77 (tgt := 6) (by decide) ?_
            refine v_pick [0, 1, 4, 5, 6, 7, 8] rfl ?_
            exact ih_580 f_659 hW_661 ((hF_576.tr hF_662).mono rfl) v_668 (by first | omega | (simp only [Int32.lt_iff_toInt_lt, Int32.le_iff_toInt_le, Int32.reduceToInt, ← Int32.toInt_inj]; omega)) v_666 (by first | omega | (simp only [Int32.lt_iff_toInt_lt, Int32.le_iff_toInt_le, Int32.reduceToInt, ← Int32.toInt_inj]; omega))
  refine v_pick [0, 1, 2, 3, 4, 5, 6] rfl ?_
  exact lp_578 7 f hW FR.rf 0 (by decide) 0 (by decide)
set_option maxRecDepth 100000 in
set_option maxHeartbeats 4000000 in
theorem p_X2_weaveInto {l : Launch} {E : Ez} {L : List Nat} {f : Nat → va_E} {T : Nat → va_E → Prop} {a_0 : Nat} {a_1 : Nat} {a_2 : Nat} {a_3 : Nat} (hW : WT T L f) (k_0 : isLet T L E a_0) (k_1 : isClo T L E a_1) (k_2 : isPat T L E a_2) (k_3 : isWalk T L E a_3) : CI l yX2_weaveInto cX2_weaveInto 9 .int 4 0 0 E [.ref a_0, .ref a_1, .ref a_2, .ref a_3] L f (fun r L1 f1 => L = L1 ∧ WT T L f1 ∧ FR [356] f f1) := by
  refine ci_of (by decide) (Nat.le_of_ble_eq_true rfl) (fun z hz hnm hC hR => ?_)
  have hC : Cx z E cX2_weaveInto RX2 9 4 0 0 := hC
  subst hz
  show V z E 9 0 0 L f 0 [(0, .ref a_0), (1, .ref a_1), (2, .ref a_2), (3, .ref a_3)] []
  refine v_iconst hC dX2_weaveInto_0 (v := 0) (by decide) ?_
  refine v_istore hC dX2_weaveInto_1 (by decide) (lv' := [(4, .int 0), (0, .ref a_0), (1, .ref a_1), (2, .ref a_2), (3, .ref a_3)]) rfl ?_
  refine v_iconst hC dX2_weaveInto_3 (v := 0) (by decide) ?_
  refine v_istore hC dX2_weaveInto_4 (by decide) (lv' := [(5, .int 0), (4, .int 0), (0, .ref a_0), (1, .ref a_1), (2, .ref a_2), (3, .ref a_3)]) rfl ?_
  have lp_1865 : ∀ (n_1866 : Nat) (f_1861 : Nat → va_E) (hW_1862 : WT T L f_1861) (hF_1863 : FR [356] f f_1861) (i_1859 : Int32) (b_1864 : (0 ≤ i_1859.toInt ∧ i_1859.toInt ≤ 52)) (i_1860 : Int32) (hm_1868 : 52 - i_1859.toInt < (n_1866 : Int)), V z E 9 0 0 L f_1861 6 [(5, .int i_1859), (4, .int i_1860), (0, .ref a_0), (1, .ref a_1), (2, .ref a_2), (3, .ref a_3)] [] := by
    intro n_1866
    induction n_1866 with
    | zero =>
      intro f_1861 hW_1862 hF_1863 i_1859 b_1864 i_1860 hm_1868
      exfalso; omega
    | succ n_1866 ih_1867 =>
      intro f_1861 hW_1862 hF_1863 i_1859 b_1864 i_1860 hm_1868
      refine v_iload hC dX2_weaveInto_6 rfl ?_
      refine v_aload_n hC dX2_weaveInto_8 rfl ?_
      obtain ⟨m_1869, q_1871, t_1870, k_1872⟩ := id k_0
      obtain ⟨v_1874, e_1873, b_1875⟩ := hW_1862.at m_1869 t_1870
      refine v_get hC fl_X2_21 m_1869 e_1873 rfl dX2_weaveInto_9 ?_
      refine v_icmp_gt hC dX2_weaveInto_12 (tgt := 89) (by decide) (fun h_1876 => ?_) (fun h_1876 => ?_)
      · simp only [Int32.lt_iff_toInt_lt, Int32.le_iff_toInt_le, Int32.reduceToInt, ← Int32.toInt_inj] at h_1876
        refine v_iload hC dX2_weaveInto_89 rfl ?_
        exact hR _ _ _ _ _ _ _ dX2_weaveInto_91 rfl (Nat.le_of_ble_eq_true rfl) (Nat.le_of_ble_eq_true rfl) ⟨rfl, hW_1862, (hF_1863.mono rfl)⟩
      · simp only [Int32.lt_iff_toInt_lt, Int32.le_iff_toInt_le, Int32.reduceToInt, ← Int32.toInt_inj] at h_1876
        refine v_iload hC dX2_weaveInto_15 rfl ?_
        refine v_aload_n hC dX2_weaveInto_17 rfl ?_
        refine v_get hC fl_X2_21 m_1869 e_1873 rfl dX2_weaveInto_18 ?_
        have jn_1885 : ∀ (v_1886 : Int32), V z E 9 0 0 L f_1861 35 [(5, .int i_1859), (4, .int i_1860), (0, .ref a_0), (1, .ref a_1), (2, .ref a_2), (3, .ref a_3)] [.int v_1886] := by
          intro v_1886
          refine v_istore hC dX2_weaveInto_35 (by decide) (lv' := [(6, .int v_1886), (5, .int i_1859), (4, .int i_1860), (0, .ref a_0), (1, .ref a_1), (2, .ref a_2), (3, .ref a_3)]) rfl ?_
          refine v_iconst hC dX2_weaveInto_37 (v := 0) (by decide) ?_
          refine v_istore hC dX2_weaveInto_38 (by decide) (lv' := [(7, .int 0), (6, .int v_1886), (5, .int i_1859), (4, .int i_1860), (0, .ref a_0), (1, .ref a_1), (2, .ref a_2), (3, .ref a_3)]) rfl ?_
          have lp_2108 : ∀ (n_2109 : Nat) (f_2103 : Nat → va_E) (hW_2104 : WT T L f_2103) (hF_2105 : FR [356] f_1861 f_2103) (i_2101 : Int32) (b_2107 : (0 ≤ i_2101.toInt ∧ i_2101.toInt ≤ 5)) (i_2102 : Int32) (hm_2111 : 5 - i_2101.toInt < (n_2109 : Int)), V z E 9 0 0 L f_2103 40 [(7, .int i_2101), (6, .int v_1886), (5, .int i_1859), (4, .int i_2102), (0, .ref a_0), (1, .ref a_1), (2, .ref a_2), (3, .ref a_3)] [] := by
            intro n_2109
            induction n_2109 with
            | zero =>
              intro f_2103 hW_2104 hF_2105 i_2101 b_2107 i_2102 hm_2111
              have hf_2106 := hF_2105.at e_1873 rfl
              exfalso; omega
            | succ n_2109 ih_2110 =>
              intro f_2103 hW_2104 hF_2105 i_2101 b_2107 i_2102 hm_2111
              have hf_2106 := hF_2105.at e_1873 rfl
              refine v_iload hC dX2_weaveInto_40 rfl ?_
              refine v_iconst hC dX2_weaveInto_42 (v := 5) (by decide) ?_
              refine v_icmp_ge hC dX2_weaveInto_43 (tgt := 83) (by decide) (fun h_2112 => ?_) (fun h_2112 => ?_)
              · simp only [Int32.lt_iff_toInt_lt, Int32.le_iff_toInt_le, Int32.reduceToInt, ← Int32.toInt_inj] at h_2112
                obtain ⟨v_2113, h_2114⟩ : ∃ v9 : Int32, i_1859 + Int32.ofInt 1 = v9 := ⟨_, rfl⟩
                have h_2115 := add_v (b := 1) h_2114 (by first | omega | (simp only [Int32.lt_iff_toInt_lt, Int32.le_iff_toInt_le, Int32.reduceToInt, ← Int32.toInt_inj]; omega)) (by first | omega | (simp only [Int32.lt_iff_toInt_lt, Int32.le_iff_toInt_le, Int32.reduceToInt, ← Int32.toInt_inj]; omega))
                simp only [Int32.reduceToInt] at h_2115
                refine v_iinc hC dX2_weaveInto_83 (k := 2) rfl (v := v_2113) h_2114 (by decide) (lv' := [(5, .int v_2113), (7, .int i_2101), (6, .int v_1886), (4, .int i_2102), (0, .ref a_0), (1, .ref a_1), (2, .ref a_2), (3, .ref a_3)]) rfl ?_
                refine v_goto hC dX2_weaveInto_86 (tgt := 6) (by decide) ?_
                refine v_pick [0, 3, 4, 5, 6, 7] rfl ?_
                exact ih_1867 f_2103 hW_2104 ((hF_1863.tr hF_2105).mono rfl) v_2113 (by first | omega | (simp only [Int32.lt_iff_toInt_lt, Int32.le_iff_toInt_le, Int32.reduceToInt, ← Int32.toInt_inj]; omega)) i_2102 (by first | omega | (simp only [Int32.lt_iff_toInt_lt, Int32.le_iff_toInt_le, Int32.reduceToInt, ← Int32.toInt_inj]; omega))
              · simp only [Int32.lt_iff_toInt_lt, Int32.le_iff_toInt_le, Int32.reduceToInt, ← Int32.toInt_inj] at h_2112
                refine v_iload hC dX2_weaveInto_46 rfl ?_
                refine v_iconst hC dX2_weaveInto_48 (v := 4) (by decide) ?_
                refine v_iload hC dX2_weaveInto_49 rfl ?_
                obtain ⟨v_2116, h_2117⟩ : ∃ v9 : Int32, (4 : Int32) - i_2101 = v9 := ⟨_, rfl⟩
                refine v_isub hC dX2_weaveInto_51 h_2117 ?_
                have h_2118 := sub_v h_2117 (by first | omega | (simp only [Int32.lt_iff_toInt_lt, Int32.le_iff_toInt_le, Int32.reduceToInt, ← Int32.toInt_inj]; omega)) (by first | omega | (simp only [Int32.lt_iff_toInt_lt, Int32.le_iff_toInt_le, Int32.reduceToInt, ← Int32.toInt_inj]; omega))
                try simp only [Int32.reduceToInt] at h_2118
                obtain ⟨v_2119, h_2120⟩ : ∃ v9 : Int32, v_1886 >>> (v_2116 &&& 31) = v9 := ⟨_, rfl⟩
                refine v_ishr hC dX2_weaveInto_52 h_2120 ?_
                refine v_iconst hC dX2_weaveInto_53 (v := 1) (by decide) ?_
                obtain ⟨v_2122, h_2123⟩ : ∃ v9 : Int32, v_2119 &&& 1 = v9 := ⟨_, rfl⟩
                refine v_iand hC dX2_weaveInto_54 h_2123 ?_
                have h_2124 := and_v h_2123 (by decide)
                try simp only [Int32.reduceToInt] at h_2124
                refine v_istore hC dX2_weaveInto_55 (by decide) (lv' := [(8, .int v_2122), (7, .int i_2101), (6, .int v_1886), (5, .int i_1859), (4, .int i_2102), (0, .ref a_0), (1, .ref a_1), (2, .ref a_2), (3, .ref a_3)]) rfl ?_
                refine v_iload hC dX2_weaveInto_57 rfl ?_
                refine v_aload_n hC dX2_weaveInto_59 rfl ?_
                refine v_aload_n hC dX2_weaveInto_60 rfl ?_
                refine v_aload_n hC dX2_weaveInto_61 rfl ?_
                refine v_iload hC dX2_weaveInto_62 rfl ?_
                refine v_iconst hC dX2_weaveInto_64 (v := 5) (by decide) ?_
                obtain ⟨v_2125, h_2126⟩ : ∃ v9 : Int32, i_1859 * 5 = v9 := ⟨_, rfl⟩
                refine v_imul hC dX2_weaveInto_65 h_2126 ?_
                have h_2127 := mul_v 51 5 255 h_2126 (by first | omega | (simp only [Int32.lt_iff_toInt_lt, Int32.le_iff_toInt_le, Int32.reduceToInt, ← Int32.toInt_inj]; omega)) (by decide) (by decide) (by decide)
                try simp only [Int32.reduceToInt] at h_2127
                refine v_iload hC dX2_weaveInto_66 rfl ?_
                obtain ⟨v_2128, h_2129⟩ : ∃ v9 : Int32, v_2125 + i_2101 = v9 := ⟨_, rfl⟩
                refine v_iadd hC dX2_weaveInto_68 h_2129 ?_
                have h_2130 := add_v h_2129 (by first | omega | (simp only [Int32.lt_iff_toInt_lt, Int32.le_iff_toInt_le, Int32.reduceToInt, ← Int32.toInt_inj]; omega)) (by first | omega | (simp only [Int32.lt_iff_toInt_lt, Int32.le_iff_toInt_le, Int32.reduceToInt, ← Int32.toInt_inj]; omega))
                refine v_iload hC dX2_weaveInto_69 rfl ?_
                obtain ⟨m_2131, q_2133, t_2132, k_2134⟩ := id k_3
                obtain ⟨v_2136, v_2138, v_2140, v_2142, e_2135, b_2137, b_2139, b_2141, b_2143⟩ := hW_2104.at m_2131 t_2132
                refine v_vi hC (rest := [.int i_2102]) m_2131 e_2135 rfl mi_X8_setBit ms_X8_setBit (p_X8_setBit hW_2104 k_3 k_1 k_2) mx_X8_setBit ml_X2_48 (by decide) rfl (cells1 := 0) (slots1 := 0) (by decide) (by decide) (Nat.le_of_ble_eq_true rfl) (Nat.le_of_ble_eq_true rfl) rfl (Nat.le_of_ble_eq_true rfl) dX2_weaveInto_71 (fun r_2144 L_2145 f_2146 h_2147 => ?_)
                obtain ⟨rfl, hW_2148, hF_2149⟩ := h_2147
                have hf_2150 := hF_2149.at hf_2106 rfl
                have hf_2151 := hF_2149.at e_2135 rfl
                obtain ⟨v_2152, h_2153⟩ : ∃ v9 : Int32, i_2102 + r_2144 = v9 := ⟨_, rfl⟩
                refine v_iadd hC dX2_weaveInto_74 h_2153 ?_
                refine v_istore hC dX2_weaveInto_75 (by decide) (lv' := [(4, .int v_2152), (8, .int v_2122), (7, .int i_2101), (6, .int v_1886), (5, .int i_1859), (0, .ref a_0), (1, .ref a_1), (2, .ref a_2), (3, .ref a_3)]) rfl ?_
                obtain ⟨v_2155, h_2156⟩ : ∃ v9 : Int32, i_2101 + Int32.ofInt 1 = v9 := ⟨_, rfl⟩
                have h_2157 := add_v (b := 1) h_2156 (by first | omega | (simp only [Int32.lt_iff_toInt_lt, Int32.le_iff_toInt_le, Int32.reduceToInt, ← Int32.toInt_inj]; omega)) (by first | omega | (simp only [Int32.lt_iff_toInt_lt, Int32.le_iff_toInt_le, Int32.reduceToInt, ← Int32.toInt_inj]; omega))
                simp only [Int32.reduceToInt] at h_2157
                refine v_iinc hC dX2_weaveInto_77 (k := 2) rfl (v := v_2155) h_2156 (by decide) (lv' := [(7, .int v_2155), (4, .int v_2152), (8, .int v_2122), (6, .int v_1886), (5, .int i_1859), (0, .ref a_0), (1, .ref a_1), (2, .ref a_2), (3, .ref a_3)]) rfl ?_
                refine v_goto hC dX2_weaveInto_80 (tgt := 40) (by decide) ?_
                refine v_pick [0, 3, 4, 1, 5, 6, 7, 8] rfl ?_
                exact ih_2110 f_2146 hW_2148 ((hF_2105.tr hF_2149).mono rfl) v_2155 (by first | omega | (simp only [Int32.lt_iff_toInt_lt, Int32.le_iff_toInt_le, Int32.reduceToInt, ← Int32.toInt_inj]; omega)) v_2152 (by first | omega | (simp only [Int32.lt_iff_toInt_lt, Int32.le_iff_toInt_le, Int32.reduceToInt, ← Int32.toInt_inj]; omega))
          refine v_pick [0, 1, 2, 3, 4, 5, 6, 7] rfl ?_
          exact lp_2108 7 f_1861 hW_1862 FR.rf 0 (by decide) i_1860 (by decide)
        refine v_icmp_ge hC dX2_weaveInto_21 (tgt := 33) (by decide) (fun h_1877 => ?_) (fun h_1877 => ?_)
        · simp only [Int32.lt_iff_toInt_lt, Int32.le_iff_toInt_le, Int32.reduceToInt, ← Int32.toInt_inj] at h_1877
          refine v_bipush hC dX2_weaveInto_33 (v := 31) (by decide) ?_
          refine v_pick [0, 1, 2, 3, 4, 5] rfl ?_
          exact jn_1885 31
        · simp only [Int32.lt_iff_toInt_lt, Int32.le_iff_toInt_le, Int32.reduceToInt, ← Int32.toInt_inj] at h_1877
          refine v_aload_n hC dX2_weaveInto_24 rfl ?_
          refine v_iload hC dX2_weaveInto_25 rfl ?_
          refine v_vi hC (rest := []) m_1869 e_1873 rfl mi_X2_fiveAt ms_X2_fiveAt (p_X2_fiveAt hW_1862 k_0) mx_X2_fiveAt ml_X2_36 (by decide) rfl (cells1 := 0) (slots1 := 0) (by decide) (by decide) (Nat.le_of_ble_eq_true rfl) (Nat.le_of_ble_eq_true rfl) rfl (Nat.le_of_ble_eq_true rfl) dX2_weaveInto_27 (fun r_2158 L_2159 f_2160 h_2161 => ?_)
          obtain ⟨rfl, rfl, h_2162⟩ := h_2161
          refine v_goto hC dX2_weaveInto_30 (tgt := 35) (by decide) ?_
          refine v_pick [0, 1, 2, 3, 4, 5] rfl ?_
          exact jn_1885 r_2158
  refine v_pick [0, 1, 2, 3, 4, 5] rfl ?_
  exact lp_1865 54 f hW FR.rf 0 (by decide) 0 (by decide)
set_option maxRecDepth 100000 in
set_option maxHeartbeats 4000000 in
theorem p_X1_takeFrom {l : Launch} {E : Ez} {L : List Nat} {f : Nat → va_E} {T : Nat → va_E → Prop} {a_0 : Nat} {a_1 : Nat} (hW : WT T L f) (k_0 : isClo T L E a_0) (k_1 : isClo T L E a_1) : CV l yX1_takeFrom cX1_takeFrom 2 1 0 0 E [.ref a_0, .ref a_1] L f (fun L1 f1 => L = L1 ∧ WT T L f1 ∧ FR [1, 356] f f1) := by
  refine cv_of (by decide) (Nat.le_of_ble_eq_true rfl) (fun z hz hnm hC hR => ?_)
  have hC : Cx z E cX1_takeFrom RX1 2 1 0 0 := hC
  subst hz
  show V z E 2 0 0 L f 0 [(0, .ref a_0), (1, .ref a_1)] []
  refine v_aload_n hC dX1_takeFrom_0 rfl ?_
  obtain ⟨m_1, q_3, t_2, k_4⟩ := id k_1
  obtain ⟨v_6, e_5, b_7⟩ := hW.at m_1 t_2
  refine v_get hC fl_X1_9 m_1 e_5 rfl dX1_takeFrom_1 ?_
  refine v_iconst hC dX1_takeFrom_4 (v := 0) (by decide) ?_
  refine v_aload_n hC dX1_takeFrom_5 rfl ?_
  obtain ⟨m_8, q_10, t_9, k_11⟩ := id k_0
  obtain ⟨v_13, e_12, b_14⟩ := hW.at m_8 t_9
  refine v_get hC fl_X1_9 m_8 e_12 rfl dX1_takeFrom_6 ?_
  refine v_iconst hC dX1_takeFrom_9 (v := 0) (by decide) ?_
  refine v_sipush hC dX1_takeFrom_10 (v := 256) (by decide) ?_
  obtain ⟨m_15, t_16⟩ := id k_4
  obtain ⟨g_18, e_17, fit_19⟩ := hW.at m_15 t_16
  obtain ⟨m_20, t_21⟩ := id k_11
  obtain ⟨g_23, e_22, fit_24⟩ := hW.at m_20 t_21
  refine v_copyb hC mo_X1_15 cp_n_ cp_s_ cp_i_ m_15 e_17 m_20 e_22 (by decide) (by decide) (by decide) (by decide) (by decide) fit_19 (by decide) (Nat.le_of_ble_eq_true rfl) dX1_takeFrom_13 (fun f_25 hf_26 hk_27 => ?_)
  have hW_28 := hW.up hf_26 hk_27 t_21 ⟨_, rfl, (fit_cpy fit_19 fit_24)⟩
  obtain ⟨g_29, hf_26, fit_30⟩ : ∃ g9, f_25 q_10 = aB E 256 g9 ∧ ∀ j, fits .byte (.int (g9 j)) = true := ⟨_, hf_26, (fit_cpy fit_19 fit_24)⟩
  have hf_31 := (hk_27 a_1 (ne_kd e_5 e_22 rfl)).trans e_5
  have hf_32 := (hk_27 a_0 (ne_kd e_12 e_22 rfl)).trans e_12
  have fr_33 := FR.w hk_27 e_22 (k := 356) rfl
  refine v_aload_n hC dX1_takeFrom_16 rfl ?_
  refine v_aload_n hC dX1_takeFrom_17 rfl ?_
  refine v_get hC fl_X1_21 m_1 hf_31 rfl dX1_takeFrom_18 ?_
  refine v_put hC fl_X1_21 m_8 hf_32 (nar01 (by first | omega | (simp only [Int32.lt_iff_toInt_lt, Int32.le_iff_toInt_le, Int32.reduceToInt, ← Int32.toInt_inj]; omega))) (fit01 (by first | omega | (simp only [Int32.lt_iff_toInt_lt, Int32.le_iff_toInt_le, Int32.reduceToInt, ← Int32.toInt_inj]; omega))) (Nat.le_of_ble_eq_true rfl) (fs' := [.ref q_10, .int v_6]) rfl dX1_takeFrom_21 (fun f_34 hf_35 hk_36 => ?_)
  have hW_37 := hW_28.up hf_35 hk_36 t_9 ⟨v_6, rfl, (by first | omega | (simp only [Int32.lt_iff_toInt_lt, Int32.le_iff_toInt_le, Int32.reduceToInt, ← Int32.toInt_inj]; omega))⟩
  have hf_38 := (hk_36 q_10 (ne_kd hf_26 hf_32 rfl)).trans hf_26
  have fr_39 := FR.w hk_36 hf_32 (k := 1) rfl
  exact hR _ _ _ _ _ _ dX1_takeFrom_24 (Nat.le_of_ble_eq_true rfl) (Nat.le_of_ble_eq_true rfl) ⟨rfl, hW_37, ((fr_33.tr fr_39).mono rfl)⟩
set_option maxRecDepth 100000 in
set_option maxHeartbeats 4000000 in
theorem p_X1_knitBy {l : Launch} {E : Ez} {L : List Nat} {f : Nat → va_E} {T : Nat → va_E → Prop} {a_0 : Nat} {a_1 : Nat} {a_2 : Nat} {a_3 : Int32} (hW : WT T L f) (k_0 : isClo T L E a_0) (k_1 : isPat T L E a_1) (k_2 : isI T L E 3 a_2) : CI l yX1_knitBy cX1_knitBy 10 .int 2 0 0 E [.ref a_0, .ref a_1, .ref a_2, .int a_3] L f (fun r L1 f1 => L = L1 ∧ WT T L f1 ∧ FR [1, 356] f f1) := by
  refine ci_of (by decide) (Nat.le_of_ble_eq_true rfl) (fun z hz hnm hC hR => ?_)
  have hC : Cx z E cX1_knitBy RX1 10 2 0 0 := hC
  subst hz
  show V z E 10 0 0 L f 0 [(0, .ref a_0), (1, .ref a_1), (2, .ref a_2), (3, .int a_3)] []
  refine v_aload_n hC dX1_knitBy_0 rfl ?_
  refine v_iconst hC dX1_knitBy_1 (v := 1) (by decide) ?_
  obtain ⟨m_1, q_3, t_2, k_4⟩ := id k_0
  obtain ⟨v_6, e_5, b_7⟩ := hW.at m_1 t_2
  refine v_put hC fl_X1_21 m_1 e_5 rfl rfl (Nat.le_of_ble_eq_true rfl) (fs' := [.ref q_3, .int 1]) rfl dX1_knitBy_2 (fun f_8 hf_9 hk_10 => ?_)
  have hW_11 := hW.up hf_9 hk_10 t_2 ⟨1, rfl, (by decide)⟩
  have fr_12 := FR.w hk_10 e_5 (k := 1) rfl
  refine v_iload_n hC dX1_knitBy_5 rfl ?_
  obtain ⟨v_13, h_14⟩ : ∃ v9 : Int64, a_3.toInt64 = v9 := ⟨_, rfl⟩
  refine v_i2l hC dX1_knitBy_6 h_14 ?_
  refine v_lstore hC dX1_knitBy_7 (by decide) (lv' := [(4, .long v_13), (0, .ref a_0), (1, .ref a_1), (2, .ref a_2), (3, .int a_3)]) rfl ?_
  refine v_iconst hC dX1_knitBy_9 (v := 0) (by decide) ?_
  refine v_istore hC dX1_knitBy_10 (by decide) (lv' := [(6, .int 0), (4, .long v_13), (0, .ref a_0), (1, .ref a_1), (2, .ref a_2), (3, .int a_3)]) rfl ?_
  refine v_iconst hC dX1_knitBy_12 (v := 0) (by decide) ?_
  refine v_istore hC dX1_knitBy_13 (by decide) (lv' := [(7, .int 0), (6, .int 0), (4, .long v_13), (0, .ref a_0), (1, .ref a_1), (2, .ref a_2), (3, .int a_3)]) rfl ?_
  have lp_889 : ∀ (n_890 : Nat) (f_884 : Nat → va_E) (hW_885 : WT T L f_884) (hF_886 : FR [356] f_8 f_884) (i_881 : Int32) (b_888 : (0 ≤ i_881.toInt ∧ i_881.toInt ≤ 256)) (i_882 : Int32) (i_883 : Int64) (hm_892 : 256 - i_881.toInt < (n_890 : Int)), V z E 10 0 0 L f_884 15 [(7, .int i_881), (6, .int i_882), (4, .long i_883), (0, .ref a_0), (1, .ref a_1), (2, .ref a_2)] [] := by
    intro n_890
    induction n_890 with
    | zero =>
      intro f_884 hW_885 hF_886 i_881 b_888 i_882 i_883 hm_892
      have hf_887 := hF_886.at hf_9 rfl
      exfalso; omega
    | succ n_890 ih_891 =>
      intro f_884 hW_885 hF_886 i_881 b_888 i_882 i_883 hm_892
      have hf_887 := hF_886.at hf_9 rfl
      refine v_iload hC dX1_knitBy_15 rfl ?_
      refine v_aload_n hC dX1_knitBy_17 rfl ?_
      obtain ⟨m_893, q_895, q_896, t_894, k_897, k_898⟩ := id k_1
      obtain ⟨v_900, v_902, v_904, e_899, b_901, b_903, b_905⟩ := hW_885.at m_893 t_894
      refine v_vi hC (rest := [.int i_881]) m_893 e_899 rfl mi_X4_places ms_X4_places (p_X4_places hW_885 k_1) mx_X4_places ml_X1_25 (by decide) rfl (cells1 := 0) (slots1 := 0) (by decide) (by decide) (Nat.le_of_ble_eq_true rfl) (Nat.le_of_ble_eq_true rfl) rfl (Nat.le_of_ble_eq_true rfl) dX1_knitBy_18 (fun r_906 L_907 f_908 h_909 => ?_)
      obtain ⟨rfl, rfl, b_910⟩ := h_909
      refine v_icmp_ge hC dX1_knitBy_21 (tgt := 150) (by decide) (fun h_913 => ?_) (fun h_913 => ?_)
      · simp only [Int32.lt_iff_toInt_lt, Int32.le_iff_toInt_le, Int32.reduceToInt, ← Int32.toInt_inj] at h_913
        refine v_iload hC dX1_knitBy_150 rfl ?_
        exact hR _ _ _ _ _ _ _ dX1_knitBy_152 rfl (Nat.le_of_ble_eq_true rfl) (Nat.le_of_ble_eq_true rfl) ⟨rfl, hW_885, ((fr_12.tr hF_886).mono rfl)⟩
      · simp only [Int32.lt_iff_toInt_lt, Int32.le_iff_toInt_le, Int32.reduceToInt, ← Int32.toInt_inj] at h_913
        refine v_aload_n hC dX1_knitBy_24 rfl ?_
        refine v_iload hC dX1_knitBy_25 rfl ?_
        refine v_vi hC (rest := []) m_893 e_899 rfl mi_X4_sortAt ms_X4_sortAt (p_X4_sortAt hW_885 k_1) mx_X4_sortAt ml_X1_31 (by decide) rfl (cells1 := 0) (slots1 := 0) (by decide) (by decide) (Nat.le_of_ble_eq_true rfl) (Nat.le_of_ble_eq_true rfl) rfl (Nat.le_of_ble_eq_true rfl) dX1_knitBy_27 (fun r_914 L_915 f_916 h_917 => ?_)
        obtain ⟨rfl, rfl, h_918⟩ := h_917
        refine v_iconst hC dX1_knitBy_30 (v := 2) (by decide) ?_
        obtain ⟨v_921, h_922⟩ : ∃ v9 : Int32, r_914 - 2 = v9 := ⟨_, rfl⟩
        refine v_isub hC dX1_knitBy_31 h_922 ?_
        refine v_istore hC dX1_knitBy_32 (by decide) (lv' := [(8, .int v_921), (7, .int i_881), (6, .int i_882), (4, .long i_883), (0, .ref a_0), (1, .ref a_1), (2, .ref a_2)]) rfl ?_
        refine v_iload hC dX1_knitBy_34 rfl ?_
        refine v_if_lt hC dX1_knitBy_36 (tgt := 127) (by decide) (fun h_924 => ?_) (fun h_924 => ?_)
        · simp only [Int32.lt_iff_toInt_lt, Int32.le_iff_toInt_le, Int32.reduceToInt, ← Int32.toInt_inj] at h_924
          refine v_aload_n hC dX1_knitBy_127 rfl ?_
          refine v_iload hC dX1_knitBy_128 rfl ?_
          refine v_iload hC dX1_knitBy_130 rfl ?_
          refine v_iconst hC dX1_knitBy_132 (v := (-1)) (by decide) ?_
          refine v_icmp_ne hC dX1_knitBy_133 (tgt := 140) (by decide) (fun h_925 => ?_) (fun h_925 => ?_)
          · simp only [Int32.lt_iff_toInt_lt, Int32.le_iff_toInt_le, Int32.reduceToInt, ← Int32.toInt_inj] at h_925
            refine v_iconst hC dX1_knitBy_140 (v := 0) (by decide) ?_
            refine v_vv hC (rest := []) m_1 hf_887 rfl mi_X1_setStitch ms_X1_setStitch (p_X1_setStitch hW_885 k_0) mx_X1_setStitch ml_X1_48 (by decide) rfl (cells1 := 0) (slots1 := 0) (by decide) (by decide) (Nat.le_of_ble_eq_true rfl) (Nat.le_of_ble_eq_true rfl) rfl (Nat.le_of_ble_eq_true rfl) dX1_knitBy_141 (fun L_927 f_928 h_929 => ?_)
            obtain ⟨rfl, hW_930, hF_931⟩ := h_929
            have hf_932 := hF_931.at hf_887 rfl
            have hf_933 := hF_931.at e_899 rfl
            obtain ⟨v_934, h_935⟩ : ∃ v9 : Int32, i_881 + Int32.ofInt 1 = v9 := ⟨_, rfl⟩
            have h_936 := add_v (b := 1) h_935 (by first | omega | (simp only [Int32.lt_iff_toInt_lt, Int32.le_iff_toInt_le, Int32.reduceToInt, ← Int32.toInt_inj]; omega)) (by first | omega | (simp only [Int32.lt_iff_toInt_lt, Int32.le_iff_toInt_le, Int32.reduceToInt, ← Int32.toInt_inj]; omega))
            simp only [Int32.reduceToInt] at h_936
            refine v_iinc hC dX1_knitBy_144 (k := 1) rfl (v := v_934) h_935 (by decide) (lv' := [(7, .int v_934), (8, .int v_921), (6, .int i_882), (4, .long i_883), (0, .ref a_0), (1, .ref a_1), (2, .ref a_2)]) rfl ?_
            refine v_goto hC dX1_knitBy_147 (tgt := 15) (by decide) ?_
            refine v_pick [0, 2, 3, 4, 5, 6] rfl ?_
            exact ih_891 f_928 hW_930 ((hF_886.tr hF_931).mono rfl) v_934 (by first | omega | (simp only [Int32.lt_iff_toInt_lt, Int32.le_iff_toInt_le, Int32.reduceToInt, ← Int32.toInt_inj]; omega)) i_882 i_883 (by first | omega | (simp only [Int32.lt_iff_toInt_lt, Int32.le_iff_toInt_le, Int32.reduceToInt, ← Int32.toInt_inj]; omega))
          · simp only [Int32.lt_iff_toInt_lt, Int32.le_iff_toInt_le, Int32.reduceToInt, ← Int32.toInt_inj] at h_925
            refine v_iconst hC dX1_knitBy_136 (v := 1) (by decide) ?_
            refine v_goto hC dX1_knitBy_137 (tgt := 141) (by decide) ?_
            refine v_vv hC (rest := []) m_1 hf_887 rfl mi_X1_setStitch ms_X1_setStitch (p_X1_setStitch hW_885 k_0) mx_X1_setStitch ml_X1_48 (by decide) rfl (cells1 := 0) (slots1 := 0) (by decide) (by decide) (Nat.le_of_ble_eq_true rfl) (Nat.le_of_ble_eq_true rfl) rfl (Nat.le_of_ble_eq_true rfl) dX1_knitBy_141 (fun L_938 f_939 h_940 => ?_)
            obtain ⟨rfl, hW_941, hF_942⟩ := h_940
            have hf_943 := hF_942.at hf_887 rfl
            have hf_944 := hF_942.at e_899 rfl
            obtain ⟨v_945, h_946⟩ : ∃ v9 : Int32, i_881 + Int32.ofInt 1 = v9 := ⟨_, rfl⟩
            have h_947 := add_v (b := 1) h_946 (by first | omega | (simp only [Int32.lt_iff_toInt_lt, Int32.le_iff_toInt_le, Int32.reduceToInt, ← Int32.toInt_inj]; omega)) (by first | omega | (simp only [Int32.lt_iff_toInt_lt, Int32.le_iff_toInt_le, Int32.reduceToInt, ← Int32.toInt_inj]; omega))
            simp only [Int32.reduceToInt] at h_947
            refine v_iinc hC dX1_knitBy_144 (k := 1) rfl (v := v_945) h_946 (by decide) (lv' := [(7, .int v_945), (8, .int v_921), (6, .int i_882), (4, .long i_883), (0, .ref a_0), (1, .ref a_1), (2, .ref a_2)]) rfl ?_
            refine v_goto hC dX1_knitBy_147 (tgt := 15) (by decide) ?_
            refine v_pick [0, 2, 3, 4, 5, 6] rfl ?_
            exact ih_891 f_939 hW_941 ((hF_886.tr hF_942).mono rfl) v_945 (by first | omega | (simp only [Int32.lt_iff_toInt_lt, Int32.le_iff_toInt_le, Int32.reduceToInt, ← Int32.toInt_inj]; omega)) i_882 i_883 (by first | omega | (simp only [Int32.lt_iff_toInt_lt, Int32.le_iff_toInt_le, Int32.reduceToInt, ← Int32.toInt_inj]; omega))
        · simp only [Int32.lt_iff_toInt_lt, Int32.le_iff_toInt_le, Int32.reduceToInt, ← Int32.toInt_inj] at h_924
          refine v_iload hC dX1_knitBy_39 rfl ?_
          refine v_aload_n hC dX1_knitBy_41 rfl ?_
          obtain ⟨m_948, t_949⟩ := id k_2
          obtain ⟨g_951, e_950⟩ := hW_885.at m_948 t_949
          refine v_alen hC m_948 e_950 (t := 1) rfl (v := 3) rfl dX1_knitBy_42 ?_
          refine v_icmp_ge hC dX1_knitBy_43 (tgt := 127) (by decide) (fun h_952 => ?_) (fun h_952 => ?_)
          · simp only [Int32.lt_iff_toInt_lt, Int32.le_iff_toInt_le, Int32.reduceToInt, ← Int32.toInt_inj] at h_952
            refine v_aload_n hC dX1_knitBy_127 rfl ?_
            refine v_iload hC dX1_knitBy_128 rfl ?_
            refine v_iload hC dX1_knitBy_130 rfl ?_
            refine v_iconst hC dX1_knitBy_132 (v := (-1)) (by decide) ?_
            refine v_icmp_ne_t hC dX1_knitBy_133 (tgt := 140) (by decide) (by first | omega | (simp only [Int32.lt_iff_toInt_lt, Int32.le_iff_toInt_le, Int32.reduceToInt, ← Int32.toInt_inj]; omega)) ?_
            refine v_iconst hC dX1_knitBy_140 (v := 0) (by decide) ?_
            refine v_vv hC (rest := []) m_1 hf_887 rfl mi_X1_setStitch ms_X1_setStitch (p_X1_setStitch hW_885 k_0) mx_X1_setStitch ml_X1_48 (by decide) rfl (cells1 := 0) (slots1 := 0) (by decide) (by decide) (Nat.le_of_ble_eq_true rfl) (Nat.le_of_ble_eq_true rfl) rfl (Nat.le_of_ble_eq_true rfl) dX1_knitBy_141 (fun L_954 f_955 h_956 => ?_)
            obtain ⟨rfl, hW_957, hF_958⟩ := h_956
            have hf_959 := hF_958.at hf_887 rfl
            have hf_960 := hF_958.at e_899 rfl
            have hf_961 := hF_958.at e_950 rfl
            obtain ⟨v_962, h_963⟩ : ∃ v9 : Int32, i_881 + Int32.ofInt 1 = v9 := ⟨_, rfl⟩
            have h_964 := add_v (b := 1) h_963 (by first | omega | (simp only [Int32.lt_iff_toInt_lt, Int32.le_iff_toInt_le, Int32.reduceToInt, ← Int32.toInt_inj]; omega)) (by first | omega | (simp only [Int32.lt_iff_toInt_lt, Int32.le_iff_toInt_le, Int32.reduceToInt, ← Int32.toInt_inj]; omega))
            simp only [Int32.reduceToInt] at h_964
            refine v_iinc hC dX1_knitBy_144 (k := 1) rfl (v := v_962) h_963 (by decide) (lv' := [(7, .int v_962), (8, .int v_921), (6, .int i_882), (4, .long i_883), (0, .ref a_0), (1, .ref a_1), (2, .ref a_2)]) rfl ?_
            refine v_goto hC dX1_knitBy_147 (tgt := 15) (by decide) ?_
            refine v_pick [0, 2, 3, 4, 5, 6] rfl ?_
            exact ih_891 f_955 hW_957 ((hF_886.tr hF_958).mono rfl) v_962 (by first | omega | (simp only [Int32.lt_iff_toInt_lt, Int32.le_iff_toInt_le, Int32.reduceToInt, ← Int32.toInt_inj]; omega)) i_882 i_883 (by first | omega | (simp only [Int32.lt_iff_toInt_lt, Int32.le_iff_toInt_le, Int32.reduceToInt, ← Int32.toInt_inj]; omega))
          · simp only [Int32.lt_iff_toInt_lt, Int32.le_iff_toInt_le, Int32.reduceToInt, ← Int32.toInt_inj] at h_952
            refine v_ldc2 hC kl_X1_35 dX1_knitBy_46 ?_
            refine v_lload hC dX1_knitBy_49 rfl ?_
            obtain ⟨v_965, h_966⟩ : ∃ v9 : Int64, (1103515245 : Int64) * i_883 = v9 := ⟨_, rfl⟩
            refine v_lmul hC dX1_knitBy_51 h_966 ?_
            refine v_ldc2 hC kl_X1_37 dX1_knitBy_52 ?_
            obtain ⟨v_967, h_968⟩ : ∃ v9 : Int64, v_965 + 12345 = v9 := ⟨_, rfl⟩
            refine v_ladd hC dX1_knitBy_55 h_968 ?_
            refine v_ldc2 hC kl_X1_39 dX1_knitBy_56 ?_
            obtain ⟨v_969, h_970⟩ : ∃ v9 : Int64, v_967 - v_967 / 2147483648 * 2147483648 = v9 := ⟨_, rfl⟩
            refine v_lrem hC dX1_knitBy_59 (by decide) h_970 ?_
            refine v_lstore hC dX1_knitBy_60 (by decide) (lv' := [(4, .long v_969), (8, .int v_921), (7, .int i_881), (6, .int i_882), (0, .ref a_0), (1, .ref a_1), (2, .ref a_2)]) rfl ?_
            refine v_lload hC dX1_knitBy_62 rfl ?_
            refine v_ldc2 hC kl_X1_41 dX1_knitBy_64 ?_
            obtain ⟨v_971, h_972⟩ : ∃ v9 : Int64, v_969 / 65536 = v9 := ⟨_, rfl⟩
            refine v_ldiv hC dX1_knitBy_67 (by decide) h_972 ?_
            refine v_ldc2 hC kl_X1_43 dX1_knitBy_68 ?_
            obtain ⟨v_973, h_974⟩ : ∃ v9 : Int64, v_971 - v_971 / 100 * 100 = v9 := ⟨_, rfl⟩
            refine v_lrem hC dX1_knitBy_71 (by decide) h_974 ?_
            refine v_aload_n hC dX1_knitBy_72 rfl ?_
            refine v_iload hC dX1_knitBy_73 rfl ?_
            obtain ⟨v_975, h_976⟩ : ∃ v9 : Int32, g_951 (v_921 : Int32).toNatClampNeg = v9 := ⟨_, rfl⟩
            refine v_iald hC m_948 e_950 (vp_in_iff.mpr (by first | omega | (simp only [Int32.lt_iff_toInt_lt, Int32.le_iff_toInt_le, Int32.reduceToInt, ← Int32.toInt_inj]; omega))) h_976 dX1_knitBy_75 ?_
            obtain ⟨v_977, h_978⟩ : ∃ v9 : Int64, v_975.toInt64 = v9 := ⟨_, rfl⟩
            refine v_i2l hC dX1_knitBy_76 h_978 ?_
            obtain ⟨v_979, h_980⟩ : ∃ v9 : Int32, lg_cmp v_973 v_977 = v9 := ⟨_, rfl⟩
            refine v_lcmp hC dX1_knitBy_77 h_980 ?_
            have jn_984 : ∀ (v_985 : Int32) (b_986 : (0 ≤ v_985.toInt ∧ v_985.toInt ≤ 1)), V z E 10 0 0 L f_884 86 [(4, .long v_969), (7, .int i_881), (6, .int i_882), (0, .ref a_0), (1, .ref a_1), (2, .ref a_2)] [.int v_985] := by
              intro v_985 b_986
              refine v_istore hC dX1_knitBy_86 (by decide) (lv' := [(9, .int v_985), (4, .long v_969), (7, .int i_881), (6, .int i_882), (0, .ref a_0), (1, .ref a_1), (2, .ref a_2)]) rfl ?_
              refine v_aload_n hC dX1_knitBy_88 rfl ?_
              refine v_iload hC dX1_knitBy_89 rfl ?_
              refine v_iload hC dX1_knitBy_91 rfl ?_
              have jn_995 : ∀ (v_996 : Int32) (b_997 : (0 ≤ v_996.toInt ∧ v_996.toInt ≤ 3)), V z E 10 0 0 L f_884 106 [(9, .int v_985), (4, .long v_969), (7, .int i_881), (6, .int i_882), (0, .ref a_0), (1, .ref a_1), (2, .ref a_2)] [.int v_996, .int i_881, .ref a_0] := by
                intro v_996 b_997
                refine v_vv hC (rest := []) m_1 hf_887 rfl mi_X1_setStitch ms_X1_setStitch (p_X1_setStitch hW_885 k_0) mx_X1_setStitch ml_X1_48 (by decide) rfl (cells1 := 0) (slots1 := 0) (by decide) (by decide) (Nat.le_of_ble_eq_true rfl) (Nat.le_of_ble_eq_true rfl) rfl (Nat.le_of_ble_eq_true rfl) dX1_knitBy_106 (fun L_999 f_1000 h_1001 => ?_)
                obtain ⟨rfl, hW_1002, hF_1003⟩ := h_1001
                have hf_1004 := hF_1003.at hf_887 rfl
                have hf_1005 := hF_1003.at e_899 rfl
                have hf_1006 := hF_1003.at e_950 rfl
                refine v_iload hC dX1_knitBy_109 rfl ?_
                refine v_iload hC dX1_knitBy_111 rfl ?_
                refine v_if_eq hC dX1_knitBy_113 (tgt := 120) (by decide) (fun h_1007 => ?_) (fun h_1007 => ?_)
                · simp only [Int32.lt_iff_toInt_lt, Int32.le_iff_toInt_le, Int32.reduceToInt, ← Int32.toInt_inj] at h_1007
                  refine v_iconst hC dX1_knitBy_120 (v := 1) (by decide) ?_
                  obtain ⟨v_1008, h_1009⟩ : ∃ v9 : Int32, i_882 + 1 = v9 := ⟨_, rfl⟩
                  refine v_iadd hC dX1_knitBy_121 h_1009 ?_
                  refine v_istore hC dX1_knitBy_122 (by decide) (lv' := [(6, .int v_1008), (9, .int v_985), (4, .long v_969), (7, .int i_881), (0, .ref a_0), (1, .ref a_1), (2, .ref a_2)]) rfl ?_
                  refine v_goto hC dX1_knitBy_124 (tgt := 144) (by decide) ?_
                  obtain ⟨v_1011, h_1012⟩ : ∃ v9 : Int32, i_881 + Int32.ofInt 1 = v9 := ⟨_, rfl⟩
                  have h_1013 := add_v (b := 1) h_1012 (by first | omega | (simp only [Int32.lt_iff_toInt_lt, Int32.le_iff_toInt_le, Int32.reduceToInt, ← Int32.toInt_inj]; omega)) (by first | omega | (simp only [Int32.lt_iff_toInt_lt, Int32.le_iff_toInt_le, Int32.reduceToInt, ← Int32.toInt_inj]; omega))
                  simp only [Int32.reduceToInt] at h_1013
                  refine v_iinc hC dX1_knitBy_144 (k := 3) rfl (v := v_1011) h_1012 (by decide) (lv' := [(7, .int v_1011), (6, .int v_1008), (9, .int v_985), (4, .long v_969), (0, .ref a_0), (1, .ref a_1), (2, .ref a_2)]) rfl ?_
                  refine v_goto hC dX1_knitBy_147 (tgt := 15) (by decide) ?_
                  refine v_pick [0, 1, 3, 4, 5, 6] rfl ?_
                  exact ih_891 f_1000 hW_1002 ((hF_886.tr hF_1003).mono rfl) v_1011 (by first | omega | (simp only [Int32.lt_iff_toInt_lt, Int32.le_iff_toInt_le, Int32.reduceToInt, ← Int32.toInt_inj]; omega)) v_1008 v_969 (by first | omega | (simp only [Int32.lt_iff_toInt_lt, Int32.le_iff_toInt_le, Int32.reduceToInt, ← Int32.toInt_inj]; omega))
                · simp only [Int32.lt_iff_toInt_lt, Int32.le_iff_toInt_le, Int32.reduceToInt, ← Int32.toInt_inj] at h_1007
                  refine v_iconst hC dX1_knitBy_116 (v := 0) (by decide) ?_
                  refine v_goto hC dX1_knitBy_117 (tgt := 121) (by decide) ?_
                  obtain ⟨v_1014, h_1015⟩ : ∃ v9 : Int32, i_882 + 0 = v9 := ⟨_, rfl⟩
                  refine v_iadd hC dX1_knitBy_121 h_1015 ?_
                  have rg_1017 := Int32.toInt_lt i_882
                  have rg_1018 := Int32.le_toInt i_882
                  have h_1016 := add_v h_1015 (by first | omega | (simp only [Int32.lt_iff_toInt_lt, Int32.le_iff_toInt_le, Int32.reduceToInt, ← Int32.toInt_inj]; omega)) (by first | omega | (simp only [Int32.lt_iff_toInt_lt, Int32.le_iff_toInt_le, Int32.reduceToInt, ← Int32.toInt_inj]; omega))
                  try simp only [Int32.reduceToInt] at h_1016
                  refine v_istore hC dX1_knitBy_122 (by decide) (lv' := [(6, .int v_1014), (9, .int v_985), (4, .long v_969), (7, .int i_881), (0, .ref a_0), (1, .ref a_1), (2, .ref a_2)]) rfl ?_
                  refine v_goto hC dX1_knitBy_124 (tgt := 144) (by decide) ?_
                  obtain ⟨v_1019, h_1020⟩ : ∃ v9 : Int32, i_881 + Int32.ofInt 1 = v9 := ⟨_, rfl⟩
                  have h_1021 := add_v (b := 1) h_1020 (by first | omega | (simp only [Int32.lt_iff_toInt_lt, Int32.le_iff_toInt_le, Int32.reduceToInt, ← Int32.toInt_inj]; omega)) (by first | omega | (simp only [Int32.lt_iff_toInt_lt, Int32.le_iff_toInt_le, Int32.reduceToInt, ← Int32.toInt_inj]; omega))
                  simp only [Int32.reduceToInt] at h_1021
                  refine v_iinc hC dX1_knitBy_144 (k := 3) rfl (v := v_1019) h_1020 (by decide) (lv' := [(7, .int v_1019), (6, .int v_1014), (9, .int v_985), (4, .long v_969), (0, .ref a_0), (1, .ref a_1), (2, .ref a_2)]) rfl ?_
                  refine v_goto hC dX1_knitBy_147 (tgt := 15) (by decide) ?_
                  refine v_pick [0, 1, 3, 4, 5, 6] rfl ?_
                  exact ih_891 f_1000 hW_1002 ((hF_886.tr hF_1003).mono rfl) v_1019 (by first | omega | (simp only [Int32.lt_iff_toInt_lt, Int32.le_iff_toInt_le, Int32.reduceToInt, ← Int32.toInt_inj]; omega)) v_1014 v_969 (by first | omega | (simp only [Int32.lt_iff_toInt_lt, Int32.le_iff_toInt_le, Int32.reduceToInt, ← Int32.toInt_inj]; omega))
              refine v_if_eq hC dX1_knitBy_93 (tgt := 100) (by decide) (fun h_987 => ?_) (fun h_987 => ?_)
              · simp only [Int32.lt_iff_toInt_lt, Int32.le_iff_toInt_le, Int32.reduceToInt, ← Int32.toInt_inj] at h_987
                refine v_aload_n hC dX1_knitBy_100 rfl ?_
                refine v_iload hC dX1_knitBy_101 rfl ?_
                refine v_vi hC (rest := [.int i_881, .ref a_0]) m_893 e_899 rfl mi_X4_notPlainAt ms_X4_notPlainAt (p_X4_notPlainAt hW_885 k_1) mx_X4_notPlainAt ml_X1_45 (by decide) rfl (cells1 := 0) (slots1 := 0) (by decide) (by decide) (Nat.le_of_ble_eq_true rfl) (Nat.le_of_ble_eq_true rfl) rfl (Nat.le_of_ble_eq_true rfl) dX1_knitBy_103 (fun r_1022 L_1023 f_1024 h_1025 => ?_)
                obtain ⟨rfl, rfl, b_1026⟩ := h_1025
                refine v_pick [0, 1, 2, 3, 4, 5, 6] rfl ?_
                exact jn_995 r_1022 (by first | omega | (simp only [Int32.lt_iff_toInt_lt, Int32.le_iff_toInt_le, Int32.reduceToInt, ← Int32.toInt_inj]; omega))
              · simp only [Int32.lt_iff_toInt_lt, Int32.le_iff_toInt_le, Int32.reduceToInt, ← Int32.toInt_inj] at h_987
                refine v_iconst hC dX1_knitBy_96 (v := 0) (by decide) ?_
                refine v_goto hC dX1_knitBy_97 (tgt := 106) (by decide) ?_
                refine v_pick [0, 1, 2, 3, 4, 5, 6] rfl ?_
                exact jn_995 0 (by decide)
            refine v_if_lt hC dX1_knitBy_78 (tgt := 85) (by decide) (fun h_981 => ?_) (fun h_981 => ?_)
            · have h_982 := h_981
              refine v_iconst hC dX1_knitBy_85 (v := 0) (by decide) ?_
              refine v_pick [0, 2, 3, 4, 5, 6] rfl ?_
              exact jn_984 0 (by decide)
            · have h_983 := h_981
              refine v_iconst hC dX1_knitBy_81 (v := 1) (by decide) ?_
              refine v_goto hC dX1_knitBy_82 (tgt := 86) (by decide) ?_
              refine v_pick [0, 2, 3, 4, 5, 6] rfl ?_
              exact jn_984 1 (by decide)
  refine v_pick [0, 1, 2, 3, 4, 5] rfl ?_
  exact lp_889 258 f_8 hW_11 FR.rf 0 (by decide) 0 v_13 (by decide)
set_option maxRecDepth 100000 in
set_option maxHeartbeats 4000000 in
theorem p_X1_knitBackFrom {l : Launch} {E : Ez} {L : List Nat} {f : Nat → va_E} {T : Nat → va_E → Prop} {a_0 : Nat} {a_1 : Nat} {a_2 : Nat} (hW : WT T L f) (k_0 : isClo T L E a_0) (k_1 : isClo T L E a_1) (k_2 : isPat T L E a_2) : CV l yX1_knitBackFrom cX1_knitBackFrom 6 2 0 0 E [.ref a_0, .ref a_1, .ref a_2] L f (fun L1 f1 => L = L1 ∧ WT T L f1 ∧ FR [1, 356] f f1) := by
  refine cv_of (by decide) (Nat.le_of_ble_eq_true rfl) (fun z hz hnm hC hR => ?_)
  have hC : Cx z E cX1_knitBackFrom RX1 6 2 0 0 := hC
  subst hz
  show V z E 6 0 0 L f 0 [(0, .ref a_0), (1, .ref a_1), (2, .ref a_2)] []
  refine v_aload_n hC dX1_knitBackFrom_0 rfl ?_
  refine v_iconst hC dX1_knitBackFrom_1 (v := 1) (by decide) ?_
  obtain ⟨m_1, q_3, t_2, k_4⟩ := id k_0
  obtain ⟨v_6, e_5, b_7⟩ := hW.at m_1 t_2
  refine v_put hC fl_X1_21 m_1 e_5 rfl rfl (Nat.le_of_ble_eq_true rfl) (fs' := [.ref q_3, .int 1]) rfl dX1_knitBackFrom_2 (fun f_8 hf_9 hk_10 => ?_)
  have hW_11 := hW.up hf_9 hk_10 t_2 ⟨1, rfl, (by decide)⟩
  have fr_12 := FR.w hk_10 e_5 (k := 1) rfl
  refine v_iconst hC dX1_knitBackFrom_5 (v := 0) (by decide) ?_
  refine v_istore_n hC dX1_knitBackFrom_6 (by decide) (lv' := [(3, .int 0), (0, .ref a_0), (1, .ref a_1), (2, .ref a_2)]) rfl ?_
  refine v_iconst hC dX1_knitBackFrom_7 (v := 0) (by decide) ?_
  refine v_istore hC dX1_knitBackFrom_8 (by decide) (lv' := [(4, .int 0), (3, .int 0), (0, .ref a_0), (1, .ref a_1), (2, .ref a_2)]) rfl ?_
  have lp_1184 : ∀ (n_1185 : Nat) (f_1177 : Nat → va_E) (hW_1178 : WT T L f_1177) (hF_1179 : FR [356] f_8 f_1177) (i_1175 : Int32) (b_1181 : (0 ≤ i_1175.toInt ∧ i_1175.toInt ≤ 256)) (i_1176 : Int32) (b_1182 : (0 ≤ i_1176.toInt ∧ i_1176.toInt ≤ 256)) (nv_1183 : i_1176.toInt ≤ i_1175.toInt) (hm_1187 : 256 - i_1175.toInt < (n_1185 : Int)), V z E 6 0 0 L f_1177 10 [(4, .int i_1175), (3, .int i_1176), (0, .ref a_0), (1, .ref a_1), (2, .ref a_2)] [] := by
    intro n_1185
    induction n_1185 with
    | zero =>
      intro f_1177 hW_1178 hF_1179 i_1175 b_1181 i_1176 b_1182 nv_1183 hm_1187
      have hf_1180 := hF_1179.at hf_9 rfl
      exfalso; omega
    | succ n_1185 ih_1186 =>
      intro f_1177 hW_1178 hF_1179 i_1175 b_1181 i_1176 b_1182 nv_1183 hm_1187
      have hf_1180 := hF_1179.at hf_9 rfl
      refine v_iload hC dX1_knitBackFrom_10 rfl ?_
      refine v_aload_n hC dX1_knitBackFrom_12 rfl ?_
      obtain ⟨m_1188, q_1190, q_1191, t_1189, k_1192, k_1193⟩ := id k_2
      obtain ⟨v_1195, v_1197, v_1199, e_1194, b_1196, b_1198, b_1200⟩ := hW_1178.at m_1188 t_1189
      refine v_vi hC (rest := [.int i_1175]) m_1188 e_1194 rfl mi_X4_places ms_X4_places (p_X4_places hW_1178 k_2) mx_X4_places ml_X1_25 (by decide) rfl (cells1 := 0) (slots1 := 0) (by decide) (by decide) (Nat.le_of_ble_eq_true rfl) (Nat.le_of_ble_eq_true rfl) rfl (Nat.le_of_ble_eq_true rfl) dX1_knitBackFrom_13 (fun r_1201 L_1202 f_1203 h_1204 => ?_)
      obtain ⟨rfl, rfl, b_1205⟩ := h_1204
      refine v_icmp_ge hC dX1_knitBackFrom_16 (tgt := 57) (by decide) (fun h_1208 => ?_) (fun h_1208 => ?_)
      · simp only [Int32.lt_iff_toInt_lt, Int32.le_iff_toInt_le, Int32.reduceToInt, ← Int32.toInt_inj] at h_1208
        refine v_iload_n hC dX1_knitBackFrom_57 rfl ?_
        refine v_istore hC dX1_knitBackFrom_58 (by decide) (lv' := [(4, .int i_1176), (3, .int i_1176), (0, .ref a_0), (1, .ref a_1), (2, .ref a_2)]) rfl ?_
        have lp_1393 : ∀ (n_1394 : Nat) (f_1387 : Nat → va_E) (hW_1388 : WT T L f_1387) (hF_1389 : FR [356] f_1177 f_1387) (i_1386 : Int32) (b_1392 : (0 ≤ i_1386.toInt ∧ i_1386.toInt ≤ 256)) (hm_1396 : 256 - i_1386.toInt < (n_1394 : Int)), V z E 6 0 0 L f_1387 60 [(4, .int i_1386), (0, .ref a_0), (2, .ref a_2)] [] := by
          intro n_1394
          induction n_1394 with
          | zero =>
            intro f_1387 hW_1388 hF_1389 i_1386 b_1392 hm_1396
            have hf_1390 := hF_1389.at hf_1180 rfl
            have hf_1391 := hF_1389.at e_1194 rfl
            exfalso; omega
          | succ n_1394 ih_1395 =>
            intro f_1387 hW_1388 hF_1389 i_1386 b_1392 hm_1396
            have hf_1390 := hF_1389.at hf_1180 rfl
            have hf_1391 := hF_1389.at e_1194 rfl
            refine v_iload hC dX1_knitBackFrom_60 rfl ?_
            refine v_aload_n hC dX1_knitBackFrom_62 rfl ?_
            refine v_vi hC (rest := [.int i_1386]) m_1188 hf_1391 rfl mi_X4_places ms_X4_places (p_X4_places hW_1388 k_2) mx_X4_places ml_X1_25 (by decide) rfl (cells1 := 0) (slots1 := 0) (by decide) (by decide) (Nat.le_of_ble_eq_true rfl) (Nat.le_of_ble_eq_true rfl) rfl (Nat.le_of_ble_eq_true rfl) dX1_knitBackFrom_63 (fun r_1397 L_1398 f_1399 h_1400 => ?_)
            obtain ⟨rfl, rfl, b_1401⟩ := h_1400
            refine v_icmp_ge hC dX1_knitBackFrom_66 (tgt := 86) (by decide) (fun h_1404 => ?_) (fun h_1404 => ?_)
            · simp only [Int32.lt_iff_toInt_lt, Int32.le_iff_toInt_le, Int32.reduceToInt, ← Int32.toInt_inj] at h_1404
              exact hR _ _ _ _ _ _ dX1_knitBackFrom_86 (Nat.le_of_ble_eq_true rfl) (Nat.le_of_ble_eq_true rfl) ⟨rfl, hW_1388, (((fr_12.tr hF_1179).tr hF_1389).mono rfl)⟩
            · simp only [Int32.lt_iff_toInt_lt, Int32.le_iff_toInt_le, Int32.reduceToInt, ← Int32.toInt_inj] at h_1404
              refine v_aload_n hC dX1_knitBackFrom_69 rfl ?_
              refine v_aload_n hC dX1_knitBackFrom_70 rfl ?_
              refine v_iload hC dX1_knitBackFrom_71 rfl ?_
              refine v_vi hC (rest := [.ref a_0]) m_1188 hf_1391 rfl mi_X4_knittedAs ms_X4_knittedAs (p_X4_knittedAs hW_1388 k_2) mx_X4_knittedAs ml_X1_52 (by decide) rfl (cells1 := 0) (slots1 := 0) (by decide) (by decide) (Nat.le_of_ble_eq_true rfl) (Nat.le_of_ble_eq_true rfl) rfl (Nat.le_of_ble_eq_true rfl) dX1_knitBackFrom_73 (fun r_1405 L_1406 f_1407 h_1408 => ?_)
              obtain ⟨rfl, rfl, b_1409⟩ := h_1408
              refine v_iconst hC dX1_knitBackFrom_76 (v := 4) (by decide) ?_
              refine v_vv hC (rest := []) m_1 hf_1390 rfl mi_X1_setStitch ms_X1_setStitch (p_X1_setStitch hW_1388 k_0) mx_X1_setStitch ml_X1_48 (by decide) rfl (cells1 := 0) (slots1 := 0) (by decide) (by decide) (Nat.le_of_ble_eq_true rfl) (Nat.le_of_ble_eq_true rfl) rfl (Nat.le_of_ble_eq_true rfl) dX1_knitBackFrom_77 (fun L_1413 f_1414 h_1415 => ?_)
              obtain ⟨rfl, hW_1416, hF_1417⟩ := h_1415
              have hf_1418 := hF_1417.at hf_1390 rfl
              have hf_1419 := hF_1417.at hf_1391 rfl
              obtain ⟨v_1420, h_1421⟩ : ∃ v9 : Int32, i_1386 + Int32.ofInt 1 = v9 := ⟨_, rfl⟩
              have h_1422 := add_v (b := 1) h_1421 (by first | omega | (simp only [Int32.lt_iff_toInt_lt, Int32.le_iff_toInt_le, Int32.reduceToInt, ← Int32.toInt_inj]; omega)) (by first | omega | (simp only [Int32.lt_iff_toInt_lt, Int32.le_iff_toInt_le, Int32.reduceToInt, ← Int32.toInt_inj]; omega))
              simp only [Int32.reduceToInt] at h_1422
              refine v_iinc hC dX1_knitBackFrom_80 (k := 0) rfl (v := v_1420) h_1421 (by decide) (lv' := [(4, .int v_1420), (0, .ref a_0), (2, .ref a_2)]) rfl ?_
              refine v_goto hC dX1_knitBackFrom_83 (tgt := 60) (by decide) ?_
              refine v_pick [0, 1, 2] rfl ?_
              exact ih_1395 f_1414 hW_1416 ((hF_1389.tr hF_1417).mono rfl) v_1420 (by first | omega | (simp only [Int32.lt_iff_toInt_lt, Int32.le_iff_toInt_le, Int32.reduceToInt, ← Int32.toInt_inj]; omega)) (by first | omega | (simp only [Int32.lt_iff_toInt_lt, Int32.le_iff_toInt_le, Int32.reduceToInt, ← Int32.toInt_inj]; omega))
        refine v_pick [0, 2, 4] rfl ?_
        exact lp_1393 258 f_1177 hW_1178 FR.rf i_1176 (by first | omega | (simp only [Int32.lt_iff_toInt_lt, Int32.le_iff_toInt_le, Int32.reduceToInt, ← Int32.toInt_inj]; omega)) (by first | omega | (simp only [Int32.lt_iff_toInt_lt, Int32.le_iff_toInt_le, Int32.reduceToInt, ← Int32.toInt_inj]; omega))
      · simp only [Int32.lt_iff_toInt_lt, Int32.le_iff_toInt_le, Int32.reduceToInt, ← Int32.toInt_inj] at h_1208
        refine v_aload_n hC dX1_knitBackFrom_19 rfl ?_
        refine v_aload_n hC dX1_knitBackFrom_20 rfl ?_
        refine v_iload hC dX1_knitBackFrom_21 rfl ?_
        refine v_vi hC (rest := [.ref a_1]) m_1188 e_1194 rfl mi_X4_knittedAs ms_X4_knittedAs (p_X4_knittedAs hW_1178 k_2) mx_X4_knittedAs ml_X1_52 (by decide) rfl (cells1 := 0) (slots1 := 0) (by decide) (by decide) (Nat.le_of_ble_eq_true rfl) (Nat.le_of_ble_eq_true rfl) rfl (Nat.le_of_ble_eq_true rfl) dX1_knitBackFrom_23 (fun r_1423 L_1424 f_1425 h_1426 => ?_)
        obtain ⟨rfl, rfl, b_1427⟩ := h_1426
        obtain ⟨m_1430, q_1432, t_1431, k_1433⟩ := id k_1
        obtain ⟨v_1435, e_1434, b_1436⟩ := hW_1178.at m_1430 t_1431
        refine v_vi hC (rest := []) m_1430 e_1434 rfl mi_X1_stitchAt ms_X1_stitchAt (p_X1_stitchAt hW_1178 k_1) mx_X1_stitchAt ml_X1_55 (by decide) rfl (cells1 := 0) (slots1 := 0) (by decide) (by decide) (Nat.le_of_ble_eq_true rfl) (Nat.le_of_ble_eq_true rfl) rfl (Nat.le_of_ble_eq_true rfl) dX1_knitBackFrom_26 (fun r_1437 L_1438 f_1439 h_1440 => ?_)
        obtain ⟨rfl, rfl, h_1441⟩ := h_1440
        refine v_istore hC dX1_knitBackFrom_29 (by decide) (lv' := [(5, .int r_1437), (4, .int i_1175), (3, .int i_1176), (0, .ref a_0), (1, .ref a_1), (2, .ref a_2)]) rfl ?_
        refine v_iload hC dX1_knitBackFrom_31 rfl ?_
        refine v_iconst hC dX1_knitBackFrom_33 (v := 4) (by decide) ?_
        refine v_icmp_eq hC dX1_knitBackFrom_34 (tgt := 51) (by decide) (fun h_1444 => ?_) (fun h_1444 => ?_)
        · simp only [Int32.lt_iff_toInt_lt, Int32.le_iff_toInt_le, Int32.reduceToInt, ← Int32.toInt_inj] at h_1444
          obtain ⟨v_1445, h_1446⟩ : ∃ v9 : Int32, i_1175 + Int32.ofInt 1 = v9 := ⟨_, rfl⟩
          have h_1447 := add_v (b := 1) h_1446 (by first | omega | (simp only [Int32.lt_iff_toInt_lt, Int32.le_iff_toInt_le, Int32.reduceToInt, ← Int32.toInt_inj]; omega)) (by first | omega | (simp only [Int32.lt_iff_toInt_lt, Int32.le_iff_toInt_le, Int32.reduceToInt, ← Int32.toInt_inj]; omega))
          simp only [Int32.reduceToInt] at h_1447
          refine v_iinc hC dX1_knitBackFrom_51 (k := 1) rfl (v := v_1445) h_1446 (by decide) (lv' := [(4, .int v_1445), (5, .int r_1437), (3, .int i_1176), (0, .ref a_0), (1, .ref a_1), (2, .ref a_2)]) rfl ?_
          refine v_goto hC dX1_knitBackFrom_54 (tgt := 10) (by decide) ?_
          refine v_pick [0, 2, 3, 4, 5] rfl ?_
          exact ih_1186 f_1177 hW_1178 (hF_1179.mono rfl) v_1445 (by first | omega | (simp only [Int32.lt_iff_toInt_lt, Int32.le_iff_toInt_le, Int32.reduceToInt, ← Int32.toInt_inj]; omega)) i_1176 (by first | omega | (simp only [Int32.lt_iff_toInt_lt, Int32.le_iff_toInt_le, Int32.reduceToInt, ← Int32.toInt_inj]; omega)) (by first | omega | (simp only [Int32.lt_iff_toInt_lt, Int32.le_iff_toInt_le, Int32.reduceToInt, ← Int32.toInt_inj]; omega)) (by first | omega | (simp only [Int32.lt_iff_toInt_lt, Int32.le_iff_toInt_le, Int32.reduceToInt, ← Int32.toInt_inj]; omega))
        · simp only [Int32.lt_iff_toInt_lt, Int32.le_iff_toInt_le, Int32.reduceToInt, ← Int32.toInt_inj] at h_1444
          refine v_aload_n hC dX1_knitBackFrom_37 rfl ?_
          refine v_aload_n hC dX1_knitBackFrom_38 rfl ?_
          refine v_iload_n hC dX1_knitBackFrom_39 rfl ?_
          refine v_vi hC (rest := [.ref a_0]) m_1188 e_1194 rfl mi_X4_knittedAs ms_X4_knittedAs (p_X4_knittedAs hW_1178 k_2) mx_X4_knittedAs ml_X1_52 (by decide) rfl (cells1 := 0) (slots1 := 0) (by decide) (by decide) (Nat.le_of_ble_eq_true rfl) (Nat.le_of_ble_eq_true rfl) rfl (Nat.le_of_ble_eq_true rfl) dX1_knitBackFrom_40 (fun r_1448 L_1449 f_1450 h_1451 => ?_)
          obtain ⟨rfl, rfl, b_1452⟩ := h_1451
          refine v_iload hC dX1_knitBackFrom_43 rfl ?_
          refine v_vv hC (rest := []) m_1 hf_1180 rfl mi_X1_setStitch ms_X1_setStitch (p_X1_setStitch hW_1178 k_0) mx_X1_setStitch ml_X1_48 (by decide) rfl (cells1 := 0) (slots1 := 0) (by decide) (by decide) (Nat.le_of_ble_eq_true rfl) (Nat.le_of_ble_eq_true rfl) rfl (Nat.le_of_ble_eq_true rfl) dX1_knitBackFrom_45 (fun L_1456 f_1457 h_1458 => ?_)
          obtain ⟨rfl, hW_1459, hF_1460⟩ := h_1458
          have hf_1461 := hF_1460.at hf_1180 rfl
          have hf_1462 := hF_1460.at e_1194 rfl
          have hf_1463 := hF_1460.at e_1434 rfl
          obtain ⟨v_1464, h_1465⟩ : ∃ v9 : Int32, i_1176 + Int32.ofInt 1 = v9 := ⟨_, rfl⟩
          have h_1466 := add_v (b := 1) h_1465 (by first | omega | (simp only [Int32.lt_iff_toInt_lt, Int32.le_iff_toInt_le, Int32.reduceToInt, ← Int32.toInt_inj]; omega)) (by first | omega | (simp only [Int32.lt_iff_toInt_lt, Int32.le_iff_toInt_le, Int32.reduceToInt, ← Int32.toInt_inj]; omega))
          simp only [Int32.reduceToInt] at h_1466
          refine v_iinc hC dX1_knitBackFrom_48 (k := 2) rfl (v := v_1464) h_1465 (by decide) (lv' := [(3, .int v_1464), (5, .int r_1437), (4, .int i_1175), (0, .ref a_0), (1, .ref a_1), (2, .ref a_2)]) rfl ?_
          obtain ⟨v_1467, h_1468⟩ : ∃ v9 : Int32, i_1175 + Int32.ofInt 1 = v9 := ⟨_, rfl⟩
          have h_1469 := add_v (b := 1) h_1468 (by first | omega | (simp only [Int32.lt_iff_toInt_lt, Int32.le_iff_toInt_le, Int32.reduceToInt, ← Int32.toInt_inj]; omega)) (by first | omega | (simp only [Int32.lt_iff_toInt_lt, Int32.le_iff_toInt_le, Int32.reduceToInt, ← Int32.toInt_inj]; omega))
          simp only [Int32.reduceToInt] at h_1469
          refine v_iinc hC dX1_knitBackFrom_51 (k := 2) rfl (v := v_1467) h_1468 (by decide) (lv' := [(4, .int v_1467), (3, .int v_1464), (5, .int r_1437), (0, .ref a_0), (1, .ref a_1), (2, .ref a_2)]) rfl ?_
          refine v_goto hC dX1_knitBackFrom_54 (tgt := 10) (by decide) ?_
          refine v_pick [0, 1, 3, 4, 5] rfl ?_
          exact ih_1186 f_1457 hW_1459 ((hF_1179.tr hF_1460).mono rfl) v_1467 (by first | omega | (simp only [Int32.lt_iff_toInt_lt, Int32.le_iff_toInt_le, Int32.reduceToInt, ← Int32.toInt_inj]; omega)) v_1464 (by first | omega | (simp only [Int32.lt_iff_toInt_lt, Int32.le_iff_toInt_le, Int32.reduceToInt, ← Int32.toInt_inj]; omega)) (by first | omega | (simp only [Int32.lt_iff_toInt_lt, Int32.le_iff_toInt_le, Int32.reduceToInt, ← Int32.toInt_inj]; omega)) (by first | omega | (simp only [Int32.lt_iff_toInt_lt, Int32.le_iff_toInt_le, Int32.reduceToInt, ← Int32.toInt_inj]; omega))
  refine v_pick [0, 1, 2, 3, 4] rfl ?_
  exact lp_1184 258 f_8 hW_11 FR.rf 0 (by decide) 0 (by decide) (by first | omega | (simp only [Int32.lt_iff_toInt_lt, Int32.le_iff_toInt_le, Int32.reduceToInt, ← Int32.toInt_inj]; omega)) (by decide)
set_option maxRecDepth 100000 in
set_option maxHeartbeats 4000000 in
theorem p_X1_placesUnlike {l : Launch} {E : Ez} {L : List Nat} {f : Nat → va_E} {T : Nat → va_E → Prop} {a_0 : Nat} {a_1 : Nat} {a_2 : Nat} (hW : WT T L f) (k_0 : isClo T L E a_0) (k_1 : isClo T L E a_1) (k_2 : isPat T L E a_2) : CI l yX1_placesUnlike cX1_placesUnlike 5 .int 1 0 0 E [.ref a_0, .ref a_1, .ref a_2] L f (fun r L1 f1 => L = L1 ∧ f = f1) := by
  refine ci_of (by decide) (Nat.le_of_ble_eq_true rfl) (fun z hz hnm hC hR => ?_)
  have hC : Cx z E cX1_placesUnlike RX1 5 1 0 0 := hC
  subst hz
  show V z E 5 0 0 L f 0 [(0, .ref a_0), (1, .ref a_1), (2, .ref a_2)] []
  refine v_iconst hC dX1_placesUnlike_0 (v := 0) (by decide) ?_
  refine v_istore_n hC dX1_placesUnlike_1 (by decide) (lv' := [(3, .int 0), (0, .ref a_0), (1, .ref a_1), (2, .ref a_2)]) rfl ?_
  refine v_iconst hC dX1_placesUnlike_2 (v := 0) (by decide) ?_
  refine v_istore hC dX1_placesUnlike_3 (by decide) (lv' := [(4, .int 0), (3, .int 0), (0, .ref a_0), (1, .ref a_1), (2, .ref a_2)]) rfl ?_
  have lp_314 : ∀ (n_315 : Nat) (i_311 : Int32) (b_313 : (0 ≤ i_311.toInt ∧ i_311.toInt ≤ 256)) (i_312 : Int32) (hm_317 : 256 - i_311.toInt < (n_315 : Int)), V z E 5 0 0 L f 5 [(4, .int i_311), (3, .int i_312), (0, .ref a_0), (1, .ref a_1), (2, .ref a_2)] [] := by
    intro n_315
    induction n_315 with
    | zero =>
      intro i_311 b_313 i_312 hm_317
      exfalso; omega
    | succ n_315 ih_316 =>
      intro i_311 b_313 i_312 hm_317
      refine v_iload hC dX1_placesUnlike_5 rfl ?_
      refine v_aload_n hC dX1_placesUnlike_7 rfl ?_
      obtain ⟨m_318, q_320, q_321, t_319, k_322, k_323⟩ := id k_2
      obtain ⟨v_325, v_327, v_329, e_324, b_326, b_328, b_330⟩ := hW.at m_318 t_319
      refine v_vi hC (rest := [.int i_311]) m_318 e_324 rfl mi_X4_places ms_X4_places (p_X4_places hW k_2) mx_X4_places ml_X1_25 (by decide) rfl (cells1 := 0) (slots1 := 0) (by decide) (by decide) (Nat.le_of_ble_eq_true rfl) (Nat.le_of_ble_eq_true rfl) rfl (Nat.le_of_ble_eq_true rfl) dX1_placesUnlike_8 (fun r_331 L_332 f_333 h_334 => ?_)
      obtain ⟨rfl, rfl, b_335⟩ := h_334
      refine v_icmp_ge hC dX1_placesUnlike_11 (tgt := 38) (by decide) (fun h_338 => ?_) (fun h_338 => ?_)
      · simp only [Int32.lt_iff_toInt_lt, Int32.le_iff_toInt_le, Int32.reduceToInt, ← Int32.toInt_inj] at h_338
        refine v_iload_n hC dX1_placesUnlike_38 rfl ?_
        exact hR _ _ _ _ _ _ _ dX1_placesUnlike_39 rfl (Nat.le_of_ble_eq_true rfl) (Nat.le_of_ble_eq_true rfl) ⟨rfl, rfl⟩
      · simp only [Int32.lt_iff_toInt_lt, Int32.le_iff_toInt_le, Int32.reduceToInt, ← Int32.toInt_inj] at h_338
        refine v_aload_n hC dX1_placesUnlike_14 rfl ?_
        refine v_iload hC dX1_placesUnlike_15 rfl ?_
        obtain ⟨m_339, q_341, t_340, k_342⟩ := id k_0
        obtain ⟨v_344, e_343, b_345⟩ := hW.at m_339 t_340
        refine v_vi hC (rest := []) m_339 e_343 rfl mi_X1_stitchAt ms_X1_stitchAt (p_X1_stitchAt hW k_0) mx_X1_stitchAt ml_X1_55 (by decide) rfl (cells1 := 0) (slots1 := 0) (by decide) (by decide) (Nat.le_of_ble_eq_true rfl) (Nat.le_of_ble_eq_true rfl) rfl (Nat.le_of_ble_eq_true rfl) dX1_placesUnlike_17 (fun r_346 L_347 f_348 h_349 => ?_)
        obtain ⟨rfl, rfl, h_350⟩ := h_349
        refine v_aload_n hC dX1_placesUnlike_20 rfl ?_
        refine v_iload hC dX1_placesUnlike_21 rfl ?_
        obtain ⟨m_353, q_355, t_354, k_356⟩ := id k_1
        obtain ⟨v_358, e_357, b_359⟩ := hW.at m_353 t_354
        refine v_vi hC (rest := [.int r_346]) m_353 e_357 rfl mi_X1_stitchAt ms_X1_stitchAt (p_X1_stitchAt hW k_1) mx_X1_stitchAt ml_X1_55 (by decide) rfl (cells1 := 0) (slots1 := 0) (by decide) (by decide) (Nat.le_of_ble_eq_true rfl) (Nat.le_of_ble_eq_true rfl) rfl (Nat.le_of_ble_eq_true rfl) dX1_placesUnlike_23 (fun r_360 L_361 f_362 h_363 => ?_)
        obtain ⟨rfl, rfl, h_364⟩ := h_363
        refine v_icmp_eq hC dX1_placesUnlike_26 (tgt := 32) (by decide) (fun h_367 => ?_) (fun h_367 => ?_)
        · simp only [Int32.lt_iff_toInt_lt, Int32.le_iff_toInt_le, Int32.reduceToInt, ← Int32.toInt_inj] at h_367
          obtain ⟨v_368, h_369⟩ : ∃ v9 : Int32, i_311 + Int32.ofInt 1 = v9 := ⟨_, rfl⟩
          have h_370 := add_v (b := 1) h_369 (by first | omega | (simp only [Int32.lt_iff_toInt_lt, Int32.le_iff_toInt_le, Int32.reduceToInt, ← Int32.toInt_inj]; omega)) (by first | omega | (simp only [Int32.lt_iff_toInt_lt, Int32.le_iff_toInt_le, Int32.reduceToInt, ← Int32.toInt_inj]; omega))
          simp only [Int32.reduceToInt] at h_370
          refine v_iinc hC dX1_placesUnlike_32 (k := 0) rfl (v := v_368) h_369 (by decide) (lv' := [(4, .int v_368), (3, .int i_312), (0, .ref a_0), (1, .ref a_1), (2, .ref a_2)]) rfl ?_
          refine v_goto hC dX1_placesUnlike_35 (tgt := 5) (by decide) ?_
          refine v_pick [0, 1, 2, 3, 4] rfl ?_
          exact ih_316 v_368 (by first | omega | (simp only [Int32.lt_iff_toInt_lt, Int32.le_iff_toInt_le, Int32.reduceToInt, ← Int32.toInt_inj]; omega)) i_312 (by first | omega | (simp only [Int32.lt_iff_toInt_lt, Int32.le_iff_toInt_le, Int32.reduceToInt, ← Int32.toInt_inj]; omega))
        · simp only [Int32.lt_iff_toInt_lt, Int32.le_iff_toInt_le, Int32.reduceToInt, ← Int32.toInt_inj] at h_367
          obtain ⟨v_371, h_372⟩ : ∃ v9 : Int32, i_312 + Int32.ofInt 1 = v9 := ⟨_, rfl⟩
          refine v_iinc hC dX1_placesUnlike_29 (k := 1) rfl (v := v_371) h_372 (by decide) (lv' := [(3, .int v_371), (4, .int i_311), (0, .ref a_0), (1, .ref a_1), (2, .ref a_2)]) rfl ?_
          obtain ⟨v_373, h_374⟩ : ∃ v9 : Int32, i_311 + Int32.ofInt 1 = v9 := ⟨_, rfl⟩
          have h_375 := add_v (b := 1) h_374 (by first | omega | (simp only [Int32.lt_iff_toInt_lt, Int32.le_iff_toInt_le, Int32.reduceToInt, ← Int32.toInt_inj]; omega)) (by first | omega | (simp only [Int32.lt_iff_toInt_lt, Int32.le_iff_toInt_le, Int32.reduceToInt, ← Int32.toInt_inj]; omega))
          simp only [Int32.reduceToInt] at h_375
          refine v_iinc hC dX1_placesUnlike_32 (k := 1) rfl (v := v_373) h_374 (by decide) (lv' := [(4, .int v_373), (3, .int v_371), (0, .ref a_0), (1, .ref a_1), (2, .ref a_2)]) rfl ?_
          refine v_goto hC dX1_placesUnlike_35 (tgt := 5) (by decide) ?_
          refine v_pick [0, 1, 2, 3, 4] rfl ?_
          exact ih_316 v_373 (by first | omega | (simp only [Int32.lt_iff_toInt_lt, Int32.le_iff_toInt_le, Int32.reduceToInt, ← Int32.toInt_inj]; omega)) v_371 (by first | omega | (simp only [Int32.lt_iff_toInt_lt, Int32.le_iff_toInt_le, Int32.reduceToInt, ← Int32.toInt_inj]; omega))
  refine v_pick [0, 1, 2, 3, 4] rfl ?_
  exact lp_314 258 0 (by decide) 0 (by decide)
set_option maxRecDepth 100000 in
set_option maxHeartbeats 4000000 in
theorem p_X1_lostPlaces {l : Launch} {E : Ez} {L : List Nat} {f : Nat → va_E} {T : Nat → va_E → Prop} {a_0 : Nat} {a_1 : Nat} (hW : WT T L f) (k_0 : isClo T L E a_0) (k_1 : isPat T L E a_1) : CI l yX1_lostPlaces cX1_lostPlaces 4 .int 1 0 0 E [.ref a_0, .ref a_1] L f (fun r L1 f1 => L = L1 ∧ f = f1) := by
  refine ci_of (by decide) (Nat.le_of_ble_eq_true rfl) (fun z hz hnm hC hR => ?_)
  have hC : Cx z E cX1_lostPlaces RX1 4 1 0 0 := hC
  subst hz
  show V z E 4 0 0 L f 0 [(0, .ref a_0), (1, .ref a_1)] []
  refine v_iconst hC dX1_lostPlaces_0 (v := 0) (by decide) ?_
  refine v_istore_n hC dX1_lostPlaces_1 (by decide) (lv' := [(2, .int 0), (0, .ref a_0), (1, .ref a_1)]) rfl ?_
  refine v_iconst hC dX1_lostPlaces_2 (v := 0) (by decide) ?_
  refine v_istore_n hC dX1_lostPlaces_3 (by decide) (lv' := [(3, .int 0), (2, .int 0), (0, .ref a_0), (1, .ref a_1)]) rfl ?_
  have lp_244 : ∀ (n_245 : Nat) (i_241 : Int32) (b_243 : (0 ≤ i_241.toInt ∧ i_241.toInt ≤ 256)) (i_242 : Int32) (hm_247 : 256 - i_241.toInt < (n_245 : Int)), V z E 4 0 0 L f 4 [(3, .int i_241), (2, .int i_242), (0, .ref a_0), (1, .ref a_1)] [] := by
    intro n_245
    induction n_245 with
    | zero =>
      intro i_241 b_243 i_242 hm_247
      exfalso; omega
    | succ n_245 ih_246 =>
      intro i_241 b_243 i_242 hm_247
      refine v_iload_n hC dX1_lostPlaces_4 rfl ?_
      refine v_aload_n hC dX1_lostPlaces_5 rfl ?_
      obtain ⟨m_248, q_250, q_251, t_249, k_252, k_253⟩ := id k_1
      obtain ⟨v_255, v_257, v_259, e_254, b_256, b_258, b_260⟩ := hW.at m_248 t_249
      refine v_vi hC (rest := [.int i_241]) m_248 e_254 rfl mi_X4_places ms_X4_places (p_X4_places hW k_1) mx_X4_places ml_X1_25 (by decide) rfl (cells1 := 0) (slots1 := 0) (by decide) (by decide) (Nat.le_of_ble_eq_true rfl) (Nat.le_of_ble_eq_true rfl) rfl (Nat.le_of_ble_eq_true rfl) dX1_lostPlaces_6 (fun r_261 L_262 f_263 h_264 => ?_)
      obtain ⟨rfl, rfl, b_265⟩ := h_264
      refine v_icmp_ge hC dX1_lostPlaces_9 (tgt := 30) (by decide) (fun h_268 => ?_) (fun h_268 => ?_)
      · simp only [Int32.lt_iff_toInt_lt, Int32.le_iff_toInt_le, Int32.reduceToInt, ← Int32.toInt_inj] at h_268
        refine v_iload_n hC dX1_lostPlaces_30 rfl ?_
        exact hR _ _ _ _ _ _ _ dX1_lostPlaces_31 rfl (Nat.le_of_ble_eq_true rfl) (Nat.le_of_ble_eq_true rfl) ⟨rfl, rfl⟩
      · simp only [Int32.lt_iff_toInt_lt, Int32.le_iff_toInt_le, Int32.reduceToInt, ← Int32.toInt_inj] at h_268
        refine v_aload_n hC dX1_lostPlaces_12 rfl ?_
        refine v_iload_n hC dX1_lostPlaces_13 rfl ?_
        obtain ⟨m_269, q_271, t_270, k_272⟩ := id k_0
        obtain ⟨v_274, e_273, b_275⟩ := hW.at m_269 t_270
        refine v_vi hC (rest := []) m_269 e_273 rfl mi_X1_stitchAt ms_X1_stitchAt (p_X1_stitchAt hW k_0) mx_X1_stitchAt ml_X1_55 (by decide) rfl (cells1 := 0) (slots1 := 0) (by decide) (by decide) (Nat.le_of_ble_eq_true rfl) (Nat.le_of_ble_eq_true rfl) rfl (Nat.le_of_ble_eq_true rfl) dX1_lostPlaces_14 (fun r_276 L_277 f_278 h_279 => ?_)
        obtain ⟨rfl, rfl, h_280⟩ := h_279
        refine v_iconst hC dX1_lostPlaces_17 (v := 4) (by decide) ?_
        refine v_icmp_ne hC dX1_lostPlaces_18 (tgt := 24) (by decide) (fun h_283 => ?_) (fun h_283 => ?_)
        · simp only [Int32.lt_iff_toInt_lt, Int32.le_iff_toInt_le, Int32.reduceToInt, ← Int32.toInt_inj] at h_283
          obtain ⟨v_284, h_285⟩ : ∃ v9 : Int32, i_241 + Int32.ofInt 1 = v9 := ⟨_, rfl⟩
          have h_286 := add_v (b := 1) h_285 (by first | omega | (simp only [Int32.lt_iff_toInt_lt, Int32.le_iff_toInt_le, Int32.reduceToInt, ← Int32.toInt_inj]; omega)) (by first | omega | (simp only [Int32.lt_iff_toInt_lt, Int32.le_iff_toInt_le, Int32.reduceToInt, ← Int32.toInt_inj]; omega))
          simp only [Int32.reduceToInt] at h_286
          refine v_iinc hC dX1_lostPlaces_24 (k := 0) rfl (v := v_284) h_285 (by decide) (lv' := [(3, .int v_284), (2, .int i_242), (0, .ref a_0), (1, .ref a_1)]) rfl ?_
          refine v_goto hC dX1_lostPlaces_27 (tgt := 4) (by decide) ?_
          refine v_pick [0, 1, 2, 3] rfl ?_
          exact ih_246 v_284 (by first | omega | (simp only [Int32.lt_iff_toInt_lt, Int32.le_iff_toInt_le, Int32.reduceToInt, ← Int32.toInt_inj]; omega)) i_242 (by first | omega | (simp only [Int32.lt_iff_toInt_lt, Int32.le_iff_toInt_le, Int32.reduceToInt, ← Int32.toInt_inj]; omega))
        · simp only [Int32.lt_iff_toInt_lt, Int32.le_iff_toInt_le, Int32.reduceToInt, ← Int32.toInt_inj] at h_283
          obtain ⟨v_287, h_288⟩ : ∃ v9 : Int32, i_242 + Int32.ofInt 1 = v9 := ⟨_, rfl⟩
          refine v_iinc hC dX1_lostPlaces_21 (k := 1) rfl (v := v_287) h_288 (by decide) (lv' := [(2, .int v_287), (3, .int i_241), (0, .ref a_0), (1, .ref a_1)]) rfl ?_
          obtain ⟨v_289, h_290⟩ : ∃ v9 : Int32, i_241 + Int32.ofInt 1 = v9 := ⟨_, rfl⟩
          have h_291 := add_v (b := 1) h_290 (by first | omega | (simp only [Int32.lt_iff_toInt_lt, Int32.le_iff_toInt_le, Int32.reduceToInt, ← Int32.toInt_inj]; omega)) (by first | omega | (simp only [Int32.lt_iff_toInt_lt, Int32.le_iff_toInt_le, Int32.reduceToInt, ← Int32.toInt_inj]; omega))
          simp only [Int32.reduceToInt] at h_291
          refine v_iinc hC dX1_lostPlaces_24 (k := 1) rfl (v := v_289) h_290 (by decide) (lv' := [(3, .int v_289), (2, .int v_287), (0, .ref a_0), (1, .ref a_1)]) rfl ?_
          refine v_goto hC dX1_lostPlaces_27 (tgt := 4) (by decide) ?_
          refine v_pick [0, 1, 2, 3] rfl ?_
          exact ih_246 v_289 (by first | omega | (simp only [Int32.lt_iff_toInt_lt, Int32.le_iff_toInt_le, Int32.reduceToInt, ← Int32.toInt_inj]; omega)) v_287 (by first | omega | (simp only [Int32.lt_iff_toInt_lt, Int32.le_iff_toInt_le, Int32.reduceToInt, ← Int32.toInt_inj]; omega))
  refine v_pick [0, 1, 2, 3] rfl ?_
  exact lp_244 258 0 (by decide) 0 (by decide)
set_option maxRecDepth 100000 in
set_option maxHeartbeats 4000000 in
theorem p_X8_addPlace {l : Launch} {E : Ez} {L : List Nat} {f : Nat → va_E} {T : Nat → va_E → Prop} {a_0 : Nat} {a_1 : Int32} (hW : WT T L f) (k_0 : isWalk T L E a_0) : CV l yX8_addPlace cX8_addPlace 2 0 0 0 E [.ref a_0, .int a_1] L f (fun L1 f1 => L = L1 ∧ WT T L f1 ∧ FR [8, 356] f f1) := by
  refine cv_of (by decide) (Nat.le_of_ble_eq_true rfl) (fun z hz hnm hC hR => ?_)
  have hC : Cx z E cX8_addPlace RX8 2 0 0 0 := hC
  subst hz
  show V z E 2 0 0 L f 0 [(0, .ref a_0), (1, .int a_1)] []
  refine v_aload_n hC dX8_addPlace_0 rfl ?_
  obtain ⟨m_1, q_3, t_2, k_4⟩ := id k_0
  obtain ⟨v_6, v_8, v_10, v_12, e_5, b_7, b_9, b_11, b_13⟩ := hW.at m_1 t_2
  refine v_get hC fl_X8_22 m_1 e_5 rfl dX8_addPlace_1 ?_
  refine v_sipush hC dX8_addPlace_4 (v := 256) (by decide) ?_
  refine v_icmp_ge hC dX8_addPlace_7 (tgt := 30) (by decide) (fun h_14 => ?_) (fun h_14 => ?_)
  · simp only [Int32.lt_iff_toInt_lt, Int32.le_iff_toInt_le, Int32.reduceToInt, ← Int32.toInt_inj] at h_14
    exact hR _ _ _ _ _ _ dX8_addPlace_30 (Nat.le_of_ble_eq_true rfl) (Nat.le_of_ble_eq_true rfl) ⟨rfl, hW, FR.rf⟩
  · simp only [Int32.lt_iff_toInt_lt, Int32.le_iff_toInt_le, Int32.reduceToInt, ← Int32.toInt_inj] at h_14
    refine v_aload_n hC dX8_addPlace_10 rfl ?_
    refine v_get hC fl_X8_9 m_1 e_5 rfl dX8_addPlace_11 ?_
    refine v_aload_n hC dX8_addPlace_14 rfl ?_
    refine v_get hC fl_X8_22 m_1 e_5 rfl dX8_addPlace_15 ?_
    refine v_iload_n hC dX8_addPlace_18 rfl ?_
    obtain ⟨m_15, t_16⟩ := id k_4
    obtain ⟨g_18, e_17⟩ := hW.at m_15 t_16
    refine v_iast hC m_15 e_17 (vp_in_iff.mpr (by first | omega | (simp only [Int32.lt_iff_toInt_lt, Int32.le_iff_toInt_le, Int32.reduceToInt, ← Int32.toInt_inj]; omega))) dX8_addPlace_19 (fun f_19 hf_20 hk_21 => ?_)
    have hW_23 := hW.up hf_20 hk_21 t_16 ⟨_, rfl⟩
    obtain ⟨g_22, hf_20⟩ : ∃ g9, f_19 q_3 = aI E 256 g9 := ⟨_, hf_20⟩
    have hf_24 := (hk_21 a_0 (ne_kd e_5 e_17 rfl)).trans e_5
    have fr_25 := FR.w hk_21 e_17 (k := 356) rfl
    refine v_aload_n hC dX8_addPlace_20 rfl ?_
    refine v_dup hC dX8_addPlace_21 rfl ?_
    refine v_get hC fl_X8_22 m_1 hf_24 rfl dX8_addPlace_22 ?_
    refine v_iconst hC dX8_addPlace_25 (v := 1) (by decide) ?_
    obtain ⟨v_26, h_27⟩ : ∃ v9 : Int32, v_6 + 1 = v9 := ⟨_, rfl⟩
    refine v_iadd hC dX8_addPlace_26 h_27 ?_
    have h_28 := add_v h_27 (by first | omega | (simp only [Int32.lt_iff_toInt_lt, Int32.le_iff_toInt_le, Int32.reduceToInt, ← Int32.toInt_inj]; omega)) (by first | omega | (simp only [Int32.lt_iff_toInt_lt, Int32.le_iff_toInt_le, Int32.reduceToInt, ← Int32.toInt_inj]; omega))
    try simp only [Int32.reduceToInt] at h_28
    refine v_put hC fl_X8_22 m_1 hf_24 rfl rfl (Nat.le_of_ble_eq_true rfl) (fs' := [.ref q_3, .int v_26, .int v_8, .int v_10, .int v_12]) rfl dX8_addPlace_27 (fun f_29 hf_30 hk_31 => ?_)
    have hW_32 := hW_23.up hf_30 hk_31 t_2 ⟨v_26, v_8, v_10, v_12, rfl, (by first | omega | (simp only [Int32.lt_iff_toInt_lt, Int32.le_iff_toInt_le, Int32.reduceToInt, ← Int32.toInt_inj]; omega)), (by first | omega | (simp only [Int32.lt_iff_toInt_lt, Int32.le_iff_toInt_le, Int32.reduceToInt, ← Int32.toInt_inj]; omega)), (by first | omega | (simp only [Int32.lt_iff_toInt_lt, Int32.le_iff_toInt_le, Int32.reduceToInt, ← Int32.toInt_inj]; omega)), (by first | omega | (simp only [Int32.lt_iff_toInt_lt, Int32.le_iff_toInt_le, Int32.reduceToInt, ← Int32.toInt_inj]; omega))⟩
    have hf_33 := (hk_31 q_3 (ne_kd hf_20 hf_24 rfl)).trans hf_20
    have fr_34 := FR.w hk_31 hf_24 (k := 8) rfl
    exact hR _ _ _ _ _ _ dX8_addPlace_30 (Nat.le_of_ble_eq_true rfl) (Nat.le_of_ble_eq_true rfl) ⟨rfl, hW_32, ((fr_25.tr fr_34).mono rfl)⟩
set_option maxRecDepth 100000 in
set_option maxHeartbeats 4000000 in
theorem p_X8_follow {l : Launch} {E : Ez} {L : List Nat} {f : Nat → va_E} {T : Nat → va_E → Prop} {a_0 : Nat} {a_1 : Nat} {a_2 : Nat} (hW : WT T L f) (k_0 : isWalk T L E a_0) (k_1 : isWay T L E a_1) (k_2 : isPat T L E a_2) : CV l yX8_follow cX8_follow 9 1 0 0 E [.ref a_0, .ref a_1, .ref a_2] L f (fun L1 f1 => L = L1 ∧ WT T L f1 ∧ FR [8, 356] f f1) := by
  refine cv_of (by decide) (Nat.le_of_ble_eq_true rfl) (fun z hz hnm hC hR => ?_)
  have hC : Cx z E cX8_follow RX8 9 1 0 0 := hC
  subst hz
  show V z E 9 0 0 L f 0 [(0, .ref a_0), (1, .ref a_1), (2, .ref a_2)] []
  refine v_aload_n hC dX8_follow_0 rfl ?_
  refine v_iconst hC dX8_follow_1 (v := 0) (by decide) ?_
  obtain ⟨m_1, q_3, t_2, k_4⟩ := id k_0
  obtain ⟨v_6, v_8, v_10, v_12, e_5, b_7, b_9, b_11, b_13⟩ := hW.at m_1 t_2
  refine v_put hC fl_X8_22 m_1 e_5 rfl rfl (Nat.le_of_ble_eq_true rfl) (fs' := [.ref q_3, .int 0, .int v_8, .int v_10, .int v_12]) rfl dX8_follow_2 (fun f_14 hf_15 hk_16 => ?_)
  have hW_17 := hW.up hf_15 hk_16 t_2 ⟨0, v_8, v_10, v_12, rfl, (by decide), (by first | omega | (simp only [Int32.lt_iff_toInt_lt, Int32.le_iff_toInt_le, Int32.reduceToInt, ← Int32.toInt_inj]; omega)), (by first | omega | (simp only [Int32.lt_iff_toInt_lt, Int32.le_iff_toInt_le, Int32.reduceToInt, ← Int32.toInt_inj]; omega)), (by first | omega | (simp only [Int32.lt_iff_toInt_lt, Int32.le_iff_toInt_le, Int32.reduceToInt, ← Int32.toInt_inj]; omega))⟩
  have fr_18 := FR.w hk_16 e_5 (k := 8) rfl
  refine v_aload_n hC dX8_follow_5 rfl ?_
  obtain ⟨m_19, t_20⟩ := id k_1
  obtain ⟨v_22, v_24, v_25, v_26, v_28, v_30, v_32, e_21, b_23, b_27, b_29, b_31, b_33⟩ := hW_17.at m_19 t_20
  refine v_getN hC fn_X8_25 m_19 e_21 rfl dX8_follow_6 ?_
  refine v_istore_n hC dX8_follow_9 (by decide) (lv' := [(3, .int v_25), (0, .ref a_0), (1, .ref a_1), (2, .ref a_2)]) rfl ?_
  refine v_iconst hC dX8_follow_10 (v := 0) (by decide) ?_
  refine v_istore hC dX8_follow_11 (by decide) (lv' := [(4, .int 0), (3, .int v_25), (0, .ref a_0), (1, .ref a_1), (2, .ref a_2)]) rfl ?_
  have lp_3771 : ∀ (n_3772 : Nat) (f_3766 : Nat → va_E) (hW_3767 : WT T L f_3766) (hF_3768 : FR [8, 356] f_14 f_3766) (i_3764 : Int32) (b_3770 : (0 ≤ i_3764.toInt ∧ i_3764.toInt ≤ 16)) (i_3765 : Int32) (hm_3774 : 16 - i_3764.toInt < (n_3772 : Int)), V z E 9 0 0 L f_3766 13 [(4, .int i_3764), (3, .int i_3765), (0, .ref a_0), (1, .ref a_1), (2, .ref a_2)] [] := by
    intro n_3772
    induction n_3772 with
    | zero =>
      intro f_3766 hW_3767 hF_3768 i_3764 b_3770 i_3765 hm_3774
      have hf_3769 := hF_3768.at e_21 rfl
      exfalso; omega
    | succ n_3772 ih_3773 =>
      intro f_3766 hW_3767 hF_3768 i_3764 b_3770 i_3765 hm_3774
      have hf_3769 := hF_3768.at e_21 rfl
      refine v_iload hC dX8_follow_13 rfl ?_
      refine v_aload_n hC dX8_follow_15 rfl ?_
      obtain ⟨m_3775, q_3777, q_3778, t_3776, k_3779, k_3780⟩ := id k_2
      obtain ⟨v_3782, v_3784, v_3786, e_3781, b_3783, b_3785, b_3787⟩ := hW_3767.at m_3775 t_3776
      refine v_getN hC fn_X8_30 m_3775 e_3781 rfl dX8_follow_16 ?_
      refine v_icmp_ge hC dX8_follow_19 (tgt := 149) (by decide) (fun h_3788 => ?_) (fun h_3788 => ?_)
      · simp only [Int32.lt_iff_toInt_lt, Int32.le_iff_toInt_le, Int32.reduceToInt, ← Int32.toInt_inj] at h_3788
        refine v_aload_n hC dX8_follow_149 rfl ?_
        refine v_iconst hC dX8_follow_150 (v := 1) (by decide) ?_
        refine v_aload_n hC dX8_follow_151 rfl ?_
        refine v_getN hC fn_X8_61 m_19 hf_3769 rfl dX8_follow_152 ?_
        obtain ⟨v_4227, h_4228⟩ : ∃ v9 : Int32, (if (1 : Int32) < v_26 then v_26 else (1 : Int32)) = v9 := ⟨_, rfl⟩
        refine v_mmax hC mm_X8_62 mm_smax mm_i mm_cmax (by decide) (Nat.le_of_ble_eq_true rfl) (Nat.le_of_ble_eq_true rfl) (Nat.le_of_ble_eq_true rfl) h_4228 dX8_follow_155 ?_
        have b_4229 := max_v h_4228
        try simp only [Int32.reduceToInt] at b_4229
        obtain ⟨v_4231, v_4233, v_4235, v_4237, e_4230, b_4232, b_4234, b_4236, b_4238⟩ := hW_3767.at m_1 t_2
        refine v_put hC fl_X8_15 m_1 e_4230 rfl rfl (Nat.le_of_ble_eq_true rfl) (fs' := [.ref q_3, .int v_4231, .int v_4227, .int v_4235, .int v_4237]) rfl dX8_follow_158 (fun f_4239 hf_4240 hk_4241 => ?_)
        have hW_4242 := hW_3767.up hf_4240 hk_4241 t_2 ⟨v_4231, v_4227, v_4235, v_4237, rfl, (by first | omega | (simp only [Int32.lt_iff_toInt_lt, Int32.le_iff_toInt_le, Int32.reduceToInt, ← Int32.toInt_inj]; omega)), (by first | omega | (simp only [Int32.lt_iff_toInt_lt, Int32.le_iff_toInt_le, Int32.reduceToInt, ← Int32.toInt_inj]; omega)), (by first | omega | (simp only [Int32.lt_iff_toInt_lt, Int32.le_iff_toInt_le, Int32.reduceToInt, ← Int32.toInt_inj]; omega)), (by first | omega | (simp only [Int32.lt_iff_toInt_lt, Int32.le_iff_toInt_le, Int32.reduceToInt, ← Int32.toInt_inj]; omega))⟩
        have hf_4243 := (hk_4241 a_1 (ne_kd hf_3769 e_4230 rfl)).trans hf_3769
        have hf_4244 := (hk_4241 a_2 (ne_kd e_3781 e_4230 rfl)).trans e_3781
        have fr_4245 := FR.w hk_4241 e_4230 (k := 8) rfl
        refine v_aload_n hC dX8_follow_161 rfl ?_
        refine v_iconst hC dX8_follow_162 (v := 1) (by decide) ?_
        refine v_aload_n hC dX8_follow_163 rfl ?_
        refine v_getN hC fn_X8_67 m_19 hf_4243 rfl dX8_follow_164 ?_
        obtain ⟨v_4246, h_4247⟩ : ∃ v9 : Int32, (if (1 : Int32) < v_28 then v_28 else (1 : Int32)) = v9 := ⟨_, rfl⟩
        refine v_mmax hC mm_X8_62 mm_smax mm_i mm_cmax (by decide) (Nat.le_of_ble_eq_true rfl) (Nat.le_of_ble_eq_true rfl) (Nat.le_of_ble_eq_true rfl) h_4247 dX8_follow_167 ?_
        have b_4248 := max_v h_4247
        try simp only [Int32.reduceToInt] at b_4248
        refine v_put hC fl_X8_19 m_1 hf_4240 rfl rfl (Nat.le_of_ble_eq_true rfl) (fs' := [.ref q_3, .int v_4231, .int v_4227, .int v_4246, .int v_4237]) rfl dX8_follow_170 (fun f_4249 hf_4250 hk_4251 => ?_)
        have hW_4252 := hW_4242.up hf_4250 hk_4251 t_2 ⟨v_4231, v_4227, v_4246, v_4237, rfl, (by first | omega | (simp only [Int32.lt_iff_toInt_lt, Int32.le_iff_toInt_le, Int32.reduceToInt, ← Int32.toInt_inj]; omega)), (by first | omega | (simp only [Int32.lt_iff_toInt_lt, Int32.le_iff_toInt_le, Int32.reduceToInt, ← Int32.toInt_inj]; omega)), (by first | omega | (simp only [Int32.lt_iff_toInt_lt, Int32.le_iff_toInt_le, Int32.reduceToInt, ← Int32.toInt_inj]; omega)), (by first | omega | (simp only [Int32.lt_iff_toInt_lt, Int32.le_iff_toInt_le, Int32.reduceToInt, ← Int32.toInt_inj]; omega))⟩
        have hf_4253 := (hk_4251 a_1 (ne_kd hf_4243 hf_4240 rfl)).trans hf_4243
        have hf_4254 := (hk_4251 a_2 (ne_kd hf_4244 hf_4240 rfl)).trans hf_4244
        have fr_4255 := FR.w hk_4251 hf_4240 (k := 8) rfl
        refine v_aload_n hC dX8_follow_173 rfl ?_
        refine v_aload_n hC dX8_follow_174 rfl ?_
        refine v_get hC fl_X8_22 m_1 hf_4250 rfl dX8_follow_175 ?_
        refine v_aload_n hC dX8_follow_178 rfl ?_
        refine v_get hC fl_X8_15 m_1 hf_4250 rfl dX8_follow_179 ?_
        refine v_aload_n hC dX8_follow_182 rfl ?_
        refine v_get hC fl_X8_19 m_1 hf_4250 rfl dX8_follow_183 ?_
        obtain ⟨v_4256, h_4257⟩ : ∃ v9 : Int32, v_4227 * v_4246 = v9 := ⟨_, rfl⟩
        refine v_imul hC dX8_follow_186 h_4257 ?_
        have h_4258 := mul_v 5 5 25 h_4257 (by first | omega | (simp only [Int32.lt_iff_toInt_lt, Int32.le_iff_toInt_le, Int32.reduceToInt, ← Int32.toInt_inj]; omega)) (by first | omega | (simp only [Int32.lt_iff_toInt_lt, Int32.le_iff_toInt_le, Int32.reduceToInt, ← Int32.toInt_inj]; omega)) (by decide) (by decide)
        have h_4259 : 1 ≤ v_4256.toInt := by rw [h_4258.1]; exact Int.mul_le_mul (a := 1) (b := 1) (by first | omega | (simp only [Int32.lt_iff_toInt_lt, Int32.le_iff_toInt_le, Int32.reduceToInt, ← Int32.toInt_inj]; omega)) (by first | omega | (simp only [Int32.lt_iff_toInt_lt, Int32.le_iff_toInt_le, Int32.reduceToInt, ← Int32.toInt_inj]; omega)) (by decide) (by first | omega | (simp only [Int32.lt_iff_toInt_lt, Int32.le_iff_toInt_le, Int32.reduceToInt, ← Int32.toInt_inj]; omega))
        obtain ⟨v_4260, h_4261⟩ : ∃ v9 : Int32, v_4231 / v_4256 = v9 := ⟨_, rfl⟩
        refine v_idiv hC dX8_follow_187 (by first | omega | (simp only [Int32.lt_iff_toInt_lt, Int32.le_iff_toInt_le, Int32.reduceToInt, ← Int32.toInt_inj]; omega)) h_4261 ?_
        have h_4262 := div_v h_4261 (by first | omega | (simp only [Int32.lt_iff_toInt_lt, Int32.le_iff_toInt_le, Int32.reduceToInt, ← Int32.toInt_inj]; omega)) (by first | omega | (simp only [Int32.lt_iff_toInt_lt, Int32.le_iff_toInt_le, Int32.reduceToInt, ← Int32.toInt_inj]; omega))
        refine v_put hC fl_X8_68 m_1 hf_4250 rfl rfl (Nat.le_of_ble_eq_true rfl) (fs' := [.ref q_3, .int v_4231, .int v_4227, .int v_4246, .int v_4260]) rfl dX8_follow_188 (fun f_4263 hf_4264 hk_4265 => ?_)
        have hW_4266 := hW_4252.up hf_4264 hk_4265 t_2 ⟨v_4231, v_4227, v_4246, v_4260, rfl, (by first | omega | (simp only [Int32.lt_iff_toInt_lt, Int32.le_iff_toInt_le, Int32.reduceToInt, ← Int32.toInt_inj]; omega)), (by first | omega | (simp only [Int32.lt_iff_toInt_lt, Int32.le_iff_toInt_le, Int32.reduceToInt, ← Int32.toInt_inj]; omega)), (by first | omega | (simp only [Int32.lt_iff_toInt_lt, Int32.le_iff_toInt_le, Int32.reduceToInt, ← Int32.toInt_inj]; omega)), (by first | omega | (simp only [Int32.lt_iff_toInt_lt, Int32.le_iff_toInt_le, Int32.reduceToInt, ← Int32.toInt_inj]; omega))⟩
        have hf_4267 := (hk_4265 a_1 (ne_kd hf_4253 hf_4250 rfl)).trans hf_4253
        have hf_4268 := (hk_4265 a_2 (ne_kd hf_4254 hf_4250 rfl)).trans hf_4254
        have fr_4269 := FR.w hk_4265 hf_4250 (k := 8) rfl
        exact hR _ _ _ _ _ _ dX8_follow_191 (Nat.le_of_ble_eq_true rfl) (Nat.le_of_ble_eq_true rfl) ⟨rfl, hW_4266, (((((fr_18.tr hF_3768).tr fr_4245).tr fr_4255).tr fr_4269).mono rfl)⟩
      · simp only [Int32.lt_iff_toInt_lt, Int32.le_iff_toInt_le, Int32.reduceToInt, ← Int32.toInt_inj] at h_3788
        refine v_aload_n hC dX8_follow_22 rfl ?_
        refine v_getN hC fn_X8_35 m_19 hf_3769 rfl dX8_follow_23 ?_
        have jn_4277 : ∀ (v_4278 : Int32) (b_4279 : ((-15) ≤ v_4278.toInt ∧ v_4278.toInt ≤ 15)), V z E 9 0 0 L f_3766 43 [(4, .int i_3764), (3, .int i_3765), (0, .ref a_0), (1, .ref a_1), (2, .ref a_2)] [.int v_4278] := by
          intro v_4278 b_4279
          refine v_istore hC dX8_follow_43 (by decide) (lv' := [(5, .int v_4278), (4, .int i_3764), (3, .int i_3765), (0, .ref a_0), (1, .ref a_1), (2, .ref a_2)]) rfl ?_
          refine v_aload_n hC dX8_follow_45 rfl ?_
          refine v_getN hC fn_X8_39 m_19 hf_3769 rfl dX8_follow_46 ?_
          have jn_4285 : ∀ (v_4286 : Int32) (b_4287 : (0 ≤ v_4286.toInt ∧ v_4286.toInt ≤ 1)), V z E 9 0 0 L f_3766 65 [(5, .int v_4278), (4, .int i_3764), (3, .int i_3765), (0, .ref a_0), (1, .ref a_1), (2, .ref a_2)] [.int v_4286] := by
            intro v_4286 b_4287
            refine v_istore hC dX8_follow_65 (by decide) (lv' := [(6, .int v_4286), (5, .int v_4278), (4, .int i_3764), (3, .int i_3765), (0, .ref a_0), (1, .ref a_1), (2, .ref a_2)]) rfl ?_
            refine v_iconst hC dX8_follow_67 (v := 0) (by decide) ?_
            refine v_istore hC dX8_follow_68 (by decide) (lv' := [(7, .int 0), (6, .int v_4286), (5, .int v_4278), (4, .int i_3764), (3, .int i_3765), (0, .ref a_0), (1, .ref a_1), (2, .ref a_2)]) rfl ?_
            have lp_4620 : ∀ (n_4621 : Nat) (f_4614 : Nat → va_E) (hW_4615 : WT T L f_4614) (hF_4616 : FR [8, 356] f_3766 f_4614) (i_4612 : Int32) (b_4619 : (0 ≤ i_4612.toInt ∧ i_4612.toInt ≤ 16)) (i_4613 : Int32) (hm_4623 : 16 - i_4612.toInt < (n_4621 : Int)), V z E 9 0 0 L f_4614 70 [(7, .int i_4612), (6, .int v_4286), (5, .int v_4278), (4, .int i_3764), (3, .int i_4613), (0, .ref a_0), (1, .ref a_1), (2, .ref a_2)] [] := by
              intro n_4621
              induction n_4621 with
              | zero =>
                intro f_4614 hW_4615 hF_4616 i_4612 b_4619 i_4613 hm_4623
                have hf_4617 := hF_4616.at hf_3769 rfl
                have hf_4618 := hF_4616.at e_3781 rfl
                exfalso; omega
              | succ n_4621 ih_4622 =>
                intro f_4614 hW_4615 hF_4616 i_4612 b_4619 i_4613 hm_4623
                have hf_4617 := hF_4616.at hf_3769 rfl
                have hf_4618 := hF_4616.at e_3781 rfl
                refine v_iload hC dX8_follow_70 rfl ?_
                refine v_aload_n hC dX8_follow_72 rfl ?_
                refine v_getN hC fn_X8_42 m_3775 hf_4618 rfl dX8_follow_73 ?_
                refine v_icmp_ge hC dX8_follow_76 (tgt := 143) (by decide) (fun h_4624 => ?_) (fun h_4624 => ?_)
                · simp only [Int32.lt_iff_toInt_lt, Int32.le_iff_toInt_le, Int32.reduceToInt, ← Int32.toInt_inj] at h_4624
                  obtain ⟨v_4625, h_4626⟩ : ∃ v9 : Int32, i_3764 + Int32.ofInt 1 = v9 := ⟨_, rfl⟩
                  have h_4627 := add_v (b := 1) h_4626 (by first | omega | (simp only [Int32.lt_iff_toInt_lt, Int32.le_iff_toInt_le, Int32.reduceToInt, ← Int32.toInt_inj]; omega)) (by first | omega | (simp only [Int32.lt_iff_toInt_lt, Int32.le_iff_toInt_le, Int32.reduceToInt, ← Int32.toInt_inj]; omega))
                  simp only [Int32.reduceToInt] at h_4627
                  refine v_iinc hC dX8_follow_143 (k := 3) rfl (v := v_4625) h_4626 (by decide) (lv' := [(4, .int v_4625), (7, .int i_4612), (6, .int v_4286), (5, .int v_4278), (3, .int i_4613), (0, .ref a_0), (1, .ref a_1), (2, .ref a_2)]) rfl ?_
                  refine v_goto hC dX8_follow_146 (tgt := 13) (by decide) ?_
                  refine v_pick [0, 4, 5, 6, 7] rfl ?_
                  exact ih_3773 f_4614 hW_4615 ((hF_3768.tr hF_4616).mono rfl) v_4625 (by first | omega | (simp only [Int32.lt_iff_toInt_lt, Int32.le_iff_toInt_le, Int32.reduceToInt, ← Int32.toInt_inj]; omega)) i_4613 (by first | omega | (simp only [Int32.lt_iff_toInt_lt, Int32.le_iff_toInt_le, Int32.reduceToInt, ← Int32.toInt_inj]; omega))
                · simp only [Int32.lt_iff_toInt_lt, Int32.le_iff_toInt_le, Int32.reduceToInt, ← Int32.toInt_inj] at h_4624
                  refine v_aload_n hC dX8_follow_79 rfl ?_
                  refine v_iload hC dX8_follow_80 rfl ?_
                  refine v_iload hC dX8_follow_82 rfl ?_
                  have jn_4635 : ∀ (v_4636 : Int32) (b_4637 : ((-15) ≤ v_4636.toInt ∧ v_4636.toInt ≤ 15)), V z E 9 0 0 L f_4614 101 [(7, .int i_4612), (6, .int v_4286), (5, .int v_4278), (4, .int i_3764), (3, .int i_4613), (0, .ref a_0), (1, .ref a_1), (2, .ref a_2)] [.int v_4636, .int v_4278, .ref a_2] := by
                    intro v_4636 b_4637
                    refine v_vi hC (rest := []) m_3775 hf_4618 rfl mi_X4_placeOf ms_X4_placeOf (p_X4_placeOf hW_4615 k_2) mx_X4_placeOf ml_X8_45 (by decide) rfl (cells1 := 0) (slots1 := 0) (by decide) (by decide) (Nat.le_of_ble_eq_true rfl) (Nat.le_of_ble_eq_true rfl) rfl (Nat.le_of_ble_eq_true rfl) dX8_follow_101 (fun r_4638 L_4639 f_4640 h_4641 => ?_)
                    obtain ⟨rfl, rfl, b_4642, h_4643, h_4644⟩ := h_4641
                    refine v_istore hC dX8_follow_104 (by decide) (lv' := [(8, .int r_4638), (7, .int i_4612), (6, .int v_4286), (5, .int v_4278), (4, .int i_3764), (3, .int i_4613), (0, .ref a_0), (1, .ref a_1), (2, .ref a_2)]) rfl ?_
                    refine v_aload_n hC dX8_follow_106 rfl ?_
                    refine v_aload_n hC dX8_follow_107 rfl ?_
                    refine v_iload hC dX8_follow_108 rfl ?_
                    refine v_vi hC (rest := [.ref a_1]) m_3775 hf_4618 rfl mi_X4_sortAt ms_X4_sortAt (p_X4_sortAt hW_4615 k_2) mx_X4_sortAt ml_X8_49 (by decide) rfl (cells1 := 0) (slots1 := 0) (by decide) (by decide) (Nat.le_of_ble_eq_true rfl) (Nat.le_of_ble_eq_true rfl) rfl (Nat.le_of_ble_eq_true rfl) dX8_follow_110 (fun r_4647 L_4648 f_4649 h_4650 => ?_)
                    obtain ⟨rfl, rfl, h_4651⟩ := h_4650
                    refine v_vi hC (rest := []) m_19 hf_4617 rfl mi_X10_wants ms_X10_wants (p_X10_wants hW_4615 k_1) mx_X10_wants ml_X8_53 (by decide) rfl (cells1 := 0) (slots1 := 0) (by decide) (by decide) (Nat.le_of_ble_eq_true rfl) (Nat.le_of_ble_eq_true rfl) rfl (Nat.le_of_ble_eq_true rfl) dX8_follow_113 (fun r_4654 L_4655 f_4656 h_4657 => ?_)
                    obtain ⟨rfl, rfl, b_4658, h_4659⟩ := h_4657
                    refine v_if_eq hC dX8_follow_116 (tgt := 137) (by decide) (fun h_4662 => ?_) (fun h_4662 => ?_)
                    · simp only [Int32.lt_iff_toInt_lt, Int32.le_iff_toInt_le, Int32.reduceToInt, ← Int32.toInt_inj] at h_4662
                      obtain ⟨v_4663, h_4664⟩ : ∃ v9 : Int32, i_4612 + Int32.ofInt 1 = v9 := ⟨_, rfl⟩
                      have h_4665 := add_v (b := 1) h_4664 (by first | omega | (simp only [Int32.lt_iff_toInt_lt, Int32.le_iff_toInt_le, Int32.reduceToInt, ← Int32.toInt_inj]; omega)) (by first | omega | (simp only [Int32.lt_iff_toInt_lt, Int32.le_iff_toInt_le, Int32.reduceToInt, ← Int32.toInt_inj]; omega))
                      simp only [Int32.reduceToInt] at h_4665
                      refine v_iinc hC dX8_follow_137 (k := 1) rfl (v := v_4663) h_4664 (by decide) (lv' := [(7, .int v_4663), (8, .int r_4638), (6, .int v_4286), (5, .int v_4278), (4, .int i_3764), (3, .int i_4613), (0, .ref a_0), (1, .ref a_1), (2, .ref a_2)]) rfl ?_
                      refine v_goto hC dX8_follow_140 (tgt := 70) (by decide) ?_
                      refine v_pick [0, 2, 3, 4, 5, 6, 7, 8] rfl ?_
                      exact ih_4622 f_4614 hW_4615 (hF_4616.mono rfl) v_4663 (by first | omega | (simp only [Int32.lt_iff_toInt_lt, Int32.le_iff_toInt_le, Int32.reduceToInt, ← Int32.toInt_inj]; omega)) i_4613 (by first | omega | (simp only [Int32.lt_iff_toInt_lt, Int32.le_iff_toInt_le, Int32.reduceToInt, ← Int32.toInt_inj]; omega))
                    · simp only [Int32.lt_iff_toInt_lt, Int32.le_iff_toInt_le, Int32.reduceToInt, ← Int32.toInt_inj] at h_4662
                      obtain ⟨v_4666, h_4667⟩ : ∃ v9 : Int32, i_4613 + Int32.ofInt (-1) = v9 := ⟨_, rfl⟩
                      refine v_iinc hC dX8_follow_119 (k := 5) rfl (v := v_4666) h_4667 (by decide) (lv' := [(3, .int v_4666), (8, .int r_4638), (7, .int i_4612), (6, .int v_4286), (5, .int v_4278), (4, .int i_3764), (0, .ref a_0), (1, .ref a_1), (2, .ref a_2)]) rfl ?_
                      refine v_iload_n hC dX8_follow_122 rfl ?_
                      refine v_if_ne hC dX8_follow_123 (tgt := 137) (by decide) (fun h_4668 => ?_) (fun h_4668 => ?_)
                      · simp only [Int32.lt_iff_toInt_lt, Int32.le_iff_toInt_le, Int32.reduceToInt, ← Int32.toInt_inj] at h_4668
                        obtain ⟨v_4669, h_4670⟩ : ∃ v9 : Int32, i_4612 + Int32.ofInt 1 = v9 := ⟨_, rfl⟩
                        have h_4671 := add_v (b := 1) h_4670 (by first | omega | (simp only [Int32.lt_iff_toInt_lt, Int32.le_iff_toInt_le, Int32.reduceToInt, ← Int32.toInt_inj]; omega)) (by first | omega | (simp only [Int32.lt_iff_toInt_lt, Int32.le_iff_toInt_le, Int32.reduceToInt, ← Int32.toInt_inj]; omega))
                        simp only [Int32.reduceToInt] at h_4671
                        refine v_iinc hC dX8_follow_137 (k := 2) rfl (v := v_4669) h_4670 (by decide) (lv' := [(7, .int v_4669), (3, .int v_4666), (8, .int r_4638), (6, .int v_4286), (5, .int v_4278), (4, .int i_3764), (0, .ref a_0), (1, .ref a_1), (2, .ref a_2)]) rfl ?_
                        refine v_goto hC dX8_follow_140 (tgt := 70) (by decide) ?_
                        refine v_pick [0, 3, 4, 5, 1, 6, 7, 8] rfl ?_
                        exact ih_4622 f_4614 hW_4615 (hF_4616.mono rfl) v_4669 (by first | omega | (simp only [Int32.lt_iff_toInt_lt, Int32.le_iff_toInt_le, Int32.reduceToInt, ← Int32.toInt_inj]; omega)) v_4666 (by first | omega | (simp only [Int32.lt_iff_toInt_lt, Int32.le_iff_toInt_le, Int32.reduceToInt, ← Int32.toInt_inj]; omega))
                      · simp only [Int32.lt_iff_toInt_lt, Int32.le_iff_toInt_le, Int32.reduceToInt, ← Int32.toInt_inj] at h_4668
                        refine v_aload_n hC dX8_follow_126 rfl ?_
                        refine v_iload hC dX8_follow_127 rfl ?_
                        obtain ⟨v_4673, v_4675, v_4677, v_4679, e_4672, b_4674, b_4676, b_4678, b_4680⟩ := hW_4615.at m_1 t_2
                        refine v_vv hC (rest := []) m_1 e_4672 rfl mi_X8_addPlace ms_X8_addPlace (p_X8_addPlace hW_4615 k_0) mx_X8_addPlace ml_X8_57 (by decide) rfl (cells1 := 0) (slots1 := 0) (by decide) (by decide) (Nat.le_of_ble_eq_true rfl) (Nat.le_of_ble_eq_true rfl) rfl (Nat.le_of_ble_eq_true rfl) dX8_follow_129 (fun L_4682 f_4683 h_4684 => ?_)
                        obtain ⟨rfl, hW_4685, hF_4686⟩ := h_4684
                        have hf_4687 := hF_4686.at hf_4617 rfl
                        have hf_4688 := hF_4686.at hf_4618 rfl
                        refine v_aload_n hC dX8_follow_132 rfl ?_
                        refine v_getN hC fn_X8_25 m_19 hf_4687 rfl dX8_follow_133 ?_
                        refine v_istore_n hC dX8_follow_136 (by decide) (lv' := [(3, .int v_25), (8, .int r_4638), (7, .int i_4612), (6, .int v_4286), (5, .int v_4278), (4, .int i_3764), (0, .ref a_0), (1, .ref a_1), (2, .ref a_2)]) rfl ?_
                        obtain ⟨v_4689, h_4690⟩ : ∃ v9 : Int32, i_4612 + Int32.ofInt 1 = v9 := ⟨_, rfl⟩
                        have h_4691 := add_v (b := 1) h_4690 (by first | omega | (simp only [Int32.lt_iff_toInt_lt, Int32.le_iff_toInt_le, Int32.reduceToInt, ← Int32.toInt_inj]; omega)) (by first | omega | (simp only [Int32.lt_iff_toInt_lt, Int32.le_iff_toInt_le, Int32.reduceToInt, ← Int32.toInt_inj]; omega))
                        simp only [Int32.reduceToInt] at h_4691
                        refine v_iinc hC dX8_follow_137 (k := 2) rfl (v := v_4689) h_4690 (by decide) (lv' := [(7, .int v_4689), (3, .int v_25), (8, .int r_4638), (6, .int v_4286), (5, .int v_4278), (4, .int i_3764), (0, .ref a_0), (1, .ref a_1), (2, .ref a_2)]) rfl ?_
                        refine v_goto hC dX8_follow_140 (tgt := 70) (by decide) ?_
                        refine v_pick [0, 3, 4, 5, 1, 6, 7, 8] rfl ?_
                        exact ih_4622 f_4683 hW_4685 ((hF_4616.tr hF_4686).mono rfl) v_4689 (by first | omega | (simp only [Int32.lt_iff_toInt_lt, Int32.le_iff_toInt_le, Int32.reduceToInt, ← Int32.toInt_inj]; omega)) v_25 (by first | omega | (simp only [Int32.lt_iff_toInt_lt, Int32.le_iff_toInt_le, Int32.reduceToInt, ← Int32.toInt_inj]; omega))
                  refine v_if_eq hC dX8_follow_84 (tgt := 99) (by decide) (fun h_4628 => ?_) (fun h_4628 => ?_)
                  · simp only [Int32.lt_iff_toInt_lt, Int32.le_iff_toInt_le, Int32.reduceToInt, ← Int32.toInt_inj] at h_4628
                    refine v_iload hC dX8_follow_99 rfl ?_
                    refine v_pick [0, 1, 2, 3, 4, 5, 6, 7] rfl ?_
                    exact jn_4635 i_4612 (by first | omega | (simp only [Int32.lt_iff_toInt_lt, Int32.le_iff_toInt_le, Int32.reduceToInt, ← Int32.toInt_inj]; omega))
                  · simp only [Int32.lt_iff_toInt_lt, Int32.le_iff_toInt_le, Int32.reduceToInt, ← Int32.toInt_inj] at h_4628
                    refine v_aload_n hC dX8_follow_87 rfl ?_
                    refine v_getN hC fn_X8_42 m_3775 hf_4618 rfl dX8_follow_88 ?_
                    refine v_iconst hC dX8_follow_91 (v := 1) (by decide) ?_
                    obtain ⟨v_4692, h_4693⟩ : ∃ v9 : Int32, v_3782 - 1 = v9 := ⟨_, rfl⟩
                    refine v_isub hC dX8_follow_92 h_4693 ?_
                    have h_4694 := sub_v h_4693 (by first | omega | (simp only [Int32.lt_iff_toInt_lt, Int32.le_iff_toInt_le, Int32.reduceToInt, ← Int32.toInt_inj]; omega)) (by first | omega | (simp only [Int32.lt_iff_toInt_lt, Int32.le_iff_toInt_le, Int32.reduceToInt, ← Int32.toInt_inj]; omega))
                    try simp only [Int32.reduceToInt] at h_4694
                    refine v_iload hC dX8_follow_93 rfl ?_
                    obtain ⟨v_4695, h_4696⟩ : ∃ v9 : Int32, v_4692 - i_4612 = v9 := ⟨_, rfl⟩
                    refine v_isub hC dX8_follow_95 h_4696 ?_
                    have h_4697 := sub_v h_4696 (by first | omega | (simp only [Int32.lt_iff_toInt_lt, Int32.le_iff_toInt_le, Int32.reduceToInt, ← Int32.toInt_inj]; omega)) (by first | omega | (simp only [Int32.lt_iff_toInt_lt, Int32.le_iff_toInt_le, Int32.reduceToInt, ← Int32.toInt_inj]; omega))
                    refine v_goto hC dX8_follow_96 (tgt := 101) (by decide) ?_
                    refine v_pick [0, 1, 2, 3, 4, 5, 6, 7] rfl ?_
                    exact jn_4635 v_4695 (by first | omega | (simp only [Int32.lt_iff_toInt_lt, Int32.le_iff_toInt_le, Int32.reduceToInt, ← Int32.toInt_inj]; omega))
            refine v_pick [0, 1, 2, 3, 4, 5, 6, 7] rfl ?_
            exact lp_4620 18 f_3766 hW_3767 FR.rf 0 (by decide) i_3765 (by decide)
          refine v_if_eq hC dX8_follow_49 (tgt := 64) (by decide) (fun h_4280 => ?_) (fun h_4280 => ?_)
          · simp only [Int32.lt_iff_toInt_lt, Int32.le_iff_toInt_le, Int32.reduceToInt, ← Int32.toInt_inj] at h_4280
            refine v_iconst hC dX8_follow_64 (v := 0) (by decide) ?_
            refine v_pick [0, 1, 2, 3, 4, 5] rfl ?_
            exact jn_4285 0 (by decide)
          · simp only [Int32.lt_iff_toInt_lt, Int32.le_iff_toInt_le, Int32.reduceToInt, ← Int32.toInt_inj] at h_4280
            refine v_iload hC dX8_follow_52 rfl ?_
            refine v_iconst hC dX8_follow_54 (v := 2) (by decide) ?_
            obtain ⟨v_4698, h_4699⟩ : ∃ v9 : Int32, v_4278 - v_4278 / 2 * 2 = v9 := ⟨_, rfl⟩
            refine v_irem hC dX8_follow_55 (by decide) h_4699 ?_
            refine v_iconst hC dX8_follow_56 (v := 1) (by decide) ?_
            refine v_icmp_ne hC dX8_follow_57 (tgt := 64) (by decide) (fun h_4701 => ?_) (fun h_4701 => ?_)
            · simp only [Int32.lt_iff_toInt_lt, Int32.le_iff_toInt_le, Int32.reduceToInt, ← Int32.toInt_inj] at h_4701
              refine v_iconst hC dX8_follow_64 (v := 0) (by decide) ?_
              refine v_pick [0, 1, 2, 3, 4, 5] rfl ?_
              exact jn_4285 0 (by decide)
            · simp only [Int32.lt_iff_toInt_lt, Int32.le_iff_toInt_le, Int32.reduceToInt, ← Int32.toInt_inj] at h_4701
              refine v_iconst hC dX8_follow_60 (v := 1) (by decide) ?_
              refine v_goto hC dX8_follow_61 (tgt := 65) (by decide) ?_
              refine v_pick [0, 1, 2, 3, 4, 5] rfl ?_
              exact jn_4285 1 (by decide)
        refine v_if_eq hC dX8_follow_26 (tgt := 41) (by decide) (fun h_4270 => ?_) (fun h_4270 => ?_)
        · simp only [Int32.lt_iff_toInt_lt, Int32.le_iff_toInt_le, Int32.reduceToInt, ← Int32.toInt_inj] at h_4270
          refine v_iload hC dX8_follow_41 rfl ?_
          refine v_pick [0, 1, 2, 3, 4] rfl ?_
          exact jn_4277 i_3764 (by first | omega | (simp only [Int32.lt_iff_toInt_lt, Int32.le_iff_toInt_le, Int32.reduceToInt, ← Int32.toInt_inj]; omega))
        · simp only [Int32.lt_iff_toInt_lt, Int32.le_iff_toInt_le, Int32.reduceToInt, ← Int32.toInt_inj] at h_4270
          refine v_aload_n hC dX8_follow_29 rfl ?_
          refine v_getN hC fn_X8_30 m_3775 e_3781 rfl dX8_follow_30 ?_
          refine v_iconst hC dX8_follow_33 (v := 1) (by decide) ?_
          obtain ⟨v_4702, h_4703⟩ : ∃ v9 : Int32, v_3784 - 1 = v9 := ⟨_, rfl⟩
          refine v_isub hC dX8_follow_34 h_4703 ?_
          have h_4704 := sub_v h_4703 (by first | omega | (simp only [Int32.lt_iff_toInt_lt, Int32.le_iff_toInt_le, Int32.reduceToInt, ← Int32.toInt_inj]; omega)) (by first | omega | (simp only [Int32.lt_iff_toInt_lt, Int32.le_iff_toInt_le, Int32.reduceToInt, ← Int32.toInt_inj]; omega))
          try simp only [Int32.reduceToInt] at h_4704
          refine v_iload hC dX8_follow_35 rfl ?_
          obtain ⟨v_4705, h_4706⟩ : ∃ v9 : Int32, v_4702 - i_3764 = v9 := ⟨_, rfl⟩
          refine v_isub hC dX8_follow_37 h_4706 ?_
          have h_4707 := sub_v h_4706 (by first | omega | (simp only [Int32.lt_iff_toInt_lt, Int32.le_iff_toInt_le, Int32.reduceToInt, ← Int32.toInt_inj]; omega)) (by first | omega | (simp only [Int32.lt_iff_toInt_lt, Int32.le_iff_toInt_le, Int32.reduceToInt, ← Int32.toInt_inj]; omega))
          refine v_goto hC dX8_follow_38 (tgt := 43) (by decide) ?_
          refine v_pick [0, 1, 2, 3, 4] rfl ?_
          exact jn_4277 v_4705 (by first | omega | (simp only [Int32.lt_iff_toInt_lt, Int32.le_iff_toInt_le, Int32.reduceToInt, ← Int32.toInt_inj]; omega))
  refine v_pick [0, 1, 2, 3, 4] rfl ?_
  exact lp_3771 18 f_14 hW_17 FR.rf 0 (by decide) v_25 (by decide)
set_option maxRecDepth 100000 in
set_option maxHeartbeats 4000000 in
theorem p_X8_hasRoomFor {l : Launch} {E : Ez} {L : List Nat} {f : Nat → va_E} {T : Nat → va_E → Prop} {a_0 : Nat} {a_1 : Int32} (hW : WT T L f) (k_0 : isWalk T L E a_0) : CI l yX8_hasRoomFor cX8_hasRoomFor 2 .boolean 0 0 0 E [.ref a_0, .int a_1] L f (fun r L1 f1 => L = L1 ∧ f = f1 ∧ (0 ≤ r.toInt ∧ r.toInt ≤ 1)) := by
  refine ci_of (by decide) (Nat.le_of_ble_eq_true rfl) (fun z hz hnm hC hR => ?_)
  have hC : Cx z E cX8_hasRoomFor RX8 2 0 0 0 := hC
  subst hz
  show V z E 2 0 0 L f 0 [(0, .ref a_0), (1, .int a_1)] []
  refine v_iconst hC dX8_hasRoomFor_0 (v := 5) (by decide) ?_
  refine v_iload_n hC dX8_hasRoomFor_1 rfl ?_
  refine v_iconst hC dX8_hasRoomFor_2 (v := 1) (by decide) ?_
  obtain ⟨v_1, h_2⟩ : ∃ v9 : Int32, a_1 + 1 = v9 := ⟨_, rfl⟩
  refine v_iadd hC dX8_hasRoomFor_3 h_2 ?_
  obtain ⟨v_4, h_5⟩ : ∃ v9 : Int32, (5 : Int32) * v_1 = v9 := ⟨_, rfl⟩
  refine v_imul hC dX8_hasRoomFor_4 h_5 ?_
  refine v_aload_n hC dX8_hasRoomFor_5 rfl ?_
  obtain ⟨m_7, q_9, t_8, k_10⟩ := id k_0
  obtain ⟨v_12, v_14, v_16, v_18, e_11, b_13, b_15, b_17, b_19⟩ := hW.at m_7 t_8
  refine v_get hC fl_X8_68 m_7 e_11 rfl dX8_hasRoomFor_6 ?_
  refine v_icmp_gt hC dX8_hasRoomFor_9 (tgt := 16) (by decide) (fun h_20 => ?_) (fun h_20 => ?_)
  · simp only [Int32.lt_iff_toInt_lt, Int32.le_iff_toInt_le, Int32.reduceToInt, ← Int32.toInt_inj] at h_20
    refine v_iconst hC dX8_hasRoomFor_16 (v := 0) (by decide) ?_
    exact hR _ _ _ _ _ _ _ dX8_hasRoomFor_17 rfl (Nat.le_of_ble_eq_true rfl) (Nat.le_of_ble_eq_true rfl) ⟨rfl, rfl, (by decide)⟩
  · simp only [Int32.lt_iff_toInt_lt, Int32.le_iff_toInt_le, Int32.reduceToInt, ← Int32.toInt_inj] at h_20
    refine v_iconst hC dX8_hasRoomFor_12 (v := 1) (by decide) ?_
    refine v_goto hC dX8_hasRoomFor_13 (tgt := 17) (by decide) ?_
    exact hR _ _ _ _ _ _ _ dX8_hasRoomFor_17 rfl (Nat.le_of_ble_eq_true rfl) (Nat.le_of_ble_eq_true rfl) ⟨rfl, rfl, (by decide)⟩
set_option maxRecDepth 100000 in
set_option maxHeartbeats 4000000 in
theorem p_J7_fill_53178 {l : Launch} {E : Ez} {L : List Nat} {f : Nat → va_E} {T : Nat → va_E → Prop} {a_0 : Nat} {a_1 : Int32} (hW : WT T L f) (k_0 : isI T L E 5 a_0) : CV l yJ7_fill_53178 cJ7_fill_53178 4 0 0 0 E [.ref a_0, .int a_1] L f (fun L1 f1 => L = L1 ∧ WT T L f1 ∧ FR [105] f f1) := by
  refine cv_of (by decide) (Nat.le_of_ble_eq_true rfl) (fun z hz hnm hC hR => ?_)
  have hC : Cx z E cJ7_fill_53178 RJ7 4 0 0 0 := hC
  subst hz
  show V z E 4 0 0 L f 0 [(0, .ref a_0), (1, .int a_1)] []
  refine v_iconst hC dJ7_fill_53178_0 (v := 0) (by decide) ?_
  refine v_istore_n hC dJ7_fill_53178_1 (by decide) (lv' := [(2, .int 0), (0, .ref a_0), (1, .int a_1)]) rfl ?_
  refine v_aload_n hC dJ7_fill_53178_2 rfl ?_
  obtain ⟨m_1, t_2⟩ := id k_0
  obtain ⟨g_4, e_3⟩ := hW.at m_1 t_2
  refine v_alen hC m_1 e_3 (t := 1) rfl (v := 5) rfl dJ7_fill_53178_3 ?_
  refine v_istore_n hC dJ7_fill_53178_4 (by decide) (lv' := [(3, .int 5), (2, .int 0), (0, .ref a_0), (1, .int a_1)]) rfl ?_
  have lp_75 : ∀ (n_76 : Nat) (f_71 : Nat → va_E) (hW_72 : WT T L f_71) (hF_73 : FR [105] f f_71) (i_70 : Int32) (b_74 : (0 ≤ i_70.toInt ∧ i_70.toInt ≤ 5)) (hm_78 : 5 - i_70.toInt < (n_76 : Int)), V z E 4 0 0 L f_71 5 [(3, .int 5), (2, .int i_70), (0, .ref a_0), (1, .int a_1)] [] := by
    intro n_76
    induction n_76 with
    | zero =>
      intro f_71 hW_72 hF_73 i_70 b_74 hm_78
      exfalso; omega
    | succ n_76 ih_77 =>
      intro f_71 hW_72 hF_73 i_70 b_74 hm_78
      refine v_iload_n hC dJ7_fill_53178_5 rfl ?_
      refine v_iload_n hC dJ7_fill_53178_6 rfl ?_
      refine v_icmp_ge hC dJ7_fill_53178_7 (tgt := 20) (by decide) (fun h_79 => ?_) (fun h_79 => ?_)
      · simp only [Int32.lt_iff_toInt_lt, Int32.le_iff_toInt_le, Int32.reduceToInt, ← Int32.toInt_inj] at h_79
        exact hR _ _ _ _ _ _ dJ7_fill_53178_20 (Nat.le_of_ble_eq_true rfl) (Nat.le_of_ble_eq_true rfl) ⟨rfl, hW_72, (hF_73.mono rfl)⟩
      · simp only [Int32.lt_iff_toInt_lt, Int32.le_iff_toInt_le, Int32.reduceToInt, ← Int32.toInt_inj] at h_79
        refine v_aload_n hC dJ7_fill_53178_10 rfl ?_
        refine v_iload_n hC dJ7_fill_53178_11 rfl ?_
        refine v_iload_n hC dJ7_fill_53178_12 rfl ?_
        obtain ⟨g_81, e_80⟩ := hW_72.at m_1 t_2
        refine v_iast hC m_1 e_80 (vp_in_iff.mpr (by first | omega | (simp only [Int32.lt_iff_toInt_lt, Int32.le_iff_toInt_le, Int32.reduceToInt, ← Int32.toInt_inj]; omega))) dJ7_fill_53178_13 (fun f_82 hf_83 hk_84 => ?_)
        have hW_86 := hW_72.up hf_83 hk_84 t_2 ⟨_, rfl⟩
        obtain ⟨g_85, hf_83⟩ : ∃ g9, f_82 a_0 = aI E 5 g9 := ⟨_, hf_83⟩
        have fr_87 := FR.w hk_84 e_80 (k := 105) rfl
        obtain ⟨v_88, h_89⟩ : ∃ v9 : Int32, i_70 + Int32.ofInt 1 = v9 := ⟨_, rfl⟩
        have h_90 := add_v (b := 1) h_89 (by first | omega | (simp only [Int32.lt_iff_toInt_lt, Int32.le_iff_toInt_le, Int32.reduceToInt, ← Int32.toInt_inj]; omega)) (by first | omega | (simp only [Int32.lt_iff_toInt_lt, Int32.le_iff_toInt_le, Int32.reduceToInt, ← Int32.toInt_inj]; omega))
        simp only [Int32.reduceToInt] at h_90
        refine v_iinc hC dJ7_fill_53178_14 (k := 1) rfl (v := v_88) h_89 (by decide) (lv' := [(2, .int v_88), (3, .int 5), (0, .ref a_0), (1, .int a_1)]) rfl ?_
        refine v_goto hC dJ7_fill_53178_17 (tgt := 5) (by decide) ?_
        refine v_pick [1, 0, 2, 3] rfl ?_
        exact ih_77 f_82 hW_86 ((hF_73.tr fr_87).mono rfl) v_88 (by first | omega | (simp only [Int32.lt_iff_toInt_lt, Int32.le_iff_toInt_le, Int32.reduceToInt, ← Int32.toInt_inj]; omega)) (by first | omega | (simp only [Int32.lt_iff_toInt_lt, Int32.le_iff_toInt_le, Int32.reduceToInt, ← Int32.toInt_inj]; omega))
  refine v_pick [0, 1, 2, 3] rfl ?_
  exact lp_75 7 f hW FR.rf 0 (by decide) (by decide)
set_option maxRecDepth 100000 in
set_option maxHeartbeats 4000000 in
theorem p_J7_fill_53178_108 {l : Launch} {E : Ez} {L : List Nat} {f : Nat → va_E} {T : Nat → va_E → Prop} {a_0 : Nat} {a_1 : Int32} (hW : WT T L f) (k_0 : isI T L E 16 a_0) : CV l yJ7_fill_53178 cJ7_fill_53178 4 0 0 0 E [.ref a_0, .int a_1] L f (fun L1 f1 => L = L1 ∧ WT T L f1 ∧ FR [116] f f1) := by
  refine cv_of (by decide) (Nat.le_of_ble_eq_true rfl) (fun z hz hnm hC hR => ?_)
  have hC : Cx z E cJ7_fill_53178 RJ7 4 0 0 0 := hC
  subst hz
  show V z E 4 0 0 L f 0 [(0, .ref a_0), (1, .int a_1)] []
  refine v_iconst hC dJ7_fill_53178_0 (v := 0) (by decide) ?_
  refine v_istore_n hC dJ7_fill_53178_1 (by decide) (lv' := [(2, .int 0), (0, .ref a_0), (1, .int a_1)]) rfl ?_
  refine v_aload_n hC dJ7_fill_53178_2 rfl ?_
  obtain ⟨m_1, t_2⟩ := id k_0
  obtain ⟨g_4, e_3⟩ := hW.at m_1 t_2
  refine v_alen hC m_1 e_3 (t := 1) rfl (v := 16) rfl dJ7_fill_53178_3 ?_
  refine v_istore_n hC dJ7_fill_53178_4 (by decide) (lv' := [(3, .int 16), (2, .int 0), (0, .ref a_0), (1, .int a_1)]) rfl ?_
  have lp_75 : ∀ (n_76 : Nat) (f_71 : Nat → va_E) (hW_72 : WT T L f_71) (hF_73 : FR [116] f f_71) (i_70 : Int32) (b_74 : (0 ≤ i_70.toInt ∧ i_70.toInt ≤ 16)) (hm_78 : 16 - i_70.toInt < (n_76 : Int)), V z E 4 0 0 L f_71 5 [(3, .int 16), (2, .int i_70), (0, .ref a_0), (1, .int a_1)] [] := by
    intro n_76
    induction n_76 with
    | zero =>
      intro f_71 hW_72 hF_73 i_70 b_74 hm_78
      exfalso; omega
    | succ n_76 ih_77 =>
      intro f_71 hW_72 hF_73 i_70 b_74 hm_78
      refine v_iload_n hC dJ7_fill_53178_5 rfl ?_
      refine v_iload_n hC dJ7_fill_53178_6 rfl ?_
      refine v_icmp_ge hC dJ7_fill_53178_7 (tgt := 20) (by decide) (fun h_79 => ?_) (fun h_79 => ?_)
      · simp only [Int32.lt_iff_toInt_lt, Int32.le_iff_toInt_le, Int32.reduceToInt, ← Int32.toInt_inj] at h_79
        exact hR _ _ _ _ _ _ dJ7_fill_53178_20 (Nat.le_of_ble_eq_true rfl) (Nat.le_of_ble_eq_true rfl) ⟨rfl, hW_72, (hF_73.mono rfl)⟩
      · simp only [Int32.lt_iff_toInt_lt, Int32.le_iff_toInt_le, Int32.reduceToInt, ← Int32.toInt_inj] at h_79
        refine v_aload_n hC dJ7_fill_53178_10 rfl ?_
        refine v_iload_n hC dJ7_fill_53178_11 rfl ?_
        refine v_iload_n hC dJ7_fill_53178_12 rfl ?_
        obtain ⟨g_81, e_80⟩ := hW_72.at m_1 t_2
        refine v_iast hC m_1 e_80 (vp_in_iff.mpr (by first | omega | (simp only [Int32.lt_iff_toInt_lt, Int32.le_iff_toInt_le, Int32.reduceToInt, ← Int32.toInt_inj]; omega))) dJ7_fill_53178_13 (fun f_82 hf_83 hk_84 => ?_)
        have hW_86 := hW_72.up hf_83 hk_84 t_2 ⟨_, rfl⟩
        obtain ⟨g_85, hf_83⟩ : ∃ g9, f_82 a_0 = aI E 16 g9 := ⟨_, hf_83⟩
        have fr_87 := FR.w hk_84 e_80 (k := 116) rfl
        obtain ⟨v_88, h_89⟩ : ∃ v9 : Int32, i_70 + Int32.ofInt 1 = v9 := ⟨_, rfl⟩
        have h_90 := add_v (b := 1) h_89 (by first | omega | (simp only [Int32.lt_iff_toInt_lt, Int32.le_iff_toInt_le, Int32.reduceToInt, ← Int32.toInt_inj]; omega)) (by first | omega | (simp only [Int32.lt_iff_toInt_lt, Int32.le_iff_toInt_le, Int32.reduceToInt, ← Int32.toInt_inj]; omega))
        simp only [Int32.reduceToInt] at h_90
        refine v_iinc hC dJ7_fill_53178_14 (k := 1) rfl (v := v_88) h_89 (by decide) (lv' := [(2, .int v_88), (3, .int 16), (0, .ref a_0), (1, .int a_1)]) rfl ?_
        refine v_goto hC dJ7_fill_53178_17 (tgt := 5) (by decide) ?_
        refine v_pick [1, 0, 2, 3] rfl ?_
        exact ih_77 f_82 hW_86 ((hF_73.tr fr_87).mono rfl) v_88 (by first | omega | (simp only [Int32.lt_iff_toInt_lt, Int32.le_iff_toInt_le, Int32.reduceToInt, ← Int32.toInt_inj]; omega)) (by first | omega | (simp only [Int32.lt_iff_toInt_lt, Int32.le_iff_toInt_le, Int32.reduceToInt, ← Int32.toInt_inj]; omega))
  refine v_pick [0, 1, 2, 3] rfl ?_
  exact lp_75 18 f hW FR.rf 0 (by decide) (by decide)
set_option maxRecDepth 100000 in
set_option maxHeartbeats 4000000 in
theorem p_J7_fill_53178_109 {l : Launch} {E : Ez} {L : List Nat} {f : Nat → va_E} {T : Nat → va_E → Prop} {a_0 : Nat} {a_1 : Int32} (hW : WT T L f) (k_0 : isI T L E 256 a_0) : CV l yJ7_fill_53178 cJ7_fill_53178 4 0 0 0 E [.ref a_0, .int a_1] L f (fun L1 f1 => L = L1 ∧ WT T L f1 ∧ FR [356] f f1) := by
  refine cv_of (by decide) (Nat.le_of_ble_eq_true rfl) (fun z hz hnm hC hR => ?_)
  have hC : Cx z E cJ7_fill_53178 RJ7 4 0 0 0 := hC
  subst hz
  show V z E 4 0 0 L f 0 [(0, .ref a_0), (1, .int a_1)] []
  refine v_iconst hC dJ7_fill_53178_0 (v := 0) (by decide) ?_
  refine v_istore_n hC dJ7_fill_53178_1 (by decide) (lv' := [(2, .int 0), (0, .ref a_0), (1, .int a_1)]) rfl ?_
  refine v_aload_n hC dJ7_fill_53178_2 rfl ?_
  obtain ⟨m_1, t_2⟩ := id k_0
  obtain ⟨g_4, e_3⟩ := hW.at m_1 t_2
  refine v_alen hC m_1 e_3 (t := 1) rfl (v := 256) rfl dJ7_fill_53178_3 ?_
  refine v_istore_n hC dJ7_fill_53178_4 (by decide) (lv' := [(3, .int 256), (2, .int 0), (0, .ref a_0), (1, .int a_1)]) rfl ?_
  have lp_75 : ∀ (n_76 : Nat) (f_71 : Nat → va_E) (hW_72 : WT T L f_71) (hF_73 : FR [356] f f_71) (i_70 : Int32) (b_74 : (0 ≤ i_70.toInt ∧ i_70.toInt ≤ 256)) (hm_78 : 256 - i_70.toInt < (n_76 : Int)), V z E 4 0 0 L f_71 5 [(3, .int 256), (2, .int i_70), (0, .ref a_0), (1, .int a_1)] [] := by
    intro n_76
    induction n_76 with
    | zero =>
      intro f_71 hW_72 hF_73 i_70 b_74 hm_78
      exfalso; omega
    | succ n_76 ih_77 =>
      intro f_71 hW_72 hF_73 i_70 b_74 hm_78
      refine v_iload_n hC dJ7_fill_53178_5 rfl ?_
      refine v_iload_n hC dJ7_fill_53178_6 rfl ?_
      refine v_icmp_ge hC dJ7_fill_53178_7 (tgt := 20) (by decide) (fun h_79 => ?_) (fun h_79 => ?_)
      · simp only [Int32.lt_iff_toInt_lt, Int32.le_iff_toInt_le, Int32.reduceToInt, ← Int32.toInt_inj] at h_79
        exact hR _ _ _ _ _ _ dJ7_fill_53178_20 (Nat.le_of_ble_eq_true rfl) (Nat.le_of_ble_eq_true rfl) ⟨rfl, hW_72, (hF_73.mono rfl)⟩
      · simp only [Int32.lt_iff_toInt_lt, Int32.le_iff_toInt_le, Int32.reduceToInt, ← Int32.toInt_inj] at h_79
        refine v_aload_n hC dJ7_fill_53178_10 rfl ?_
        refine v_iload_n hC dJ7_fill_53178_11 rfl ?_
        refine v_iload_n hC dJ7_fill_53178_12 rfl ?_
        obtain ⟨g_81, e_80⟩ := hW_72.at m_1 t_2
        refine v_iast hC m_1 e_80 (vp_in_iff.mpr (by first | omega | (simp only [Int32.lt_iff_toInt_lt, Int32.le_iff_toInt_le, Int32.reduceToInt, ← Int32.toInt_inj]; omega))) dJ7_fill_53178_13 (fun f_82 hf_83 hk_84 => ?_)
        have hW_86 := hW_72.up hf_83 hk_84 t_2 ⟨_, rfl⟩
        obtain ⟨g_85, hf_83⟩ : ∃ g9, f_82 a_0 = aI E 256 g9 := ⟨_, hf_83⟩
        have fr_87 := FR.w hk_84 e_80 (k := 356) rfl
        obtain ⟨v_88, h_89⟩ : ∃ v9 : Int32, i_70 + Int32.ofInt 1 = v9 := ⟨_, rfl⟩
        have h_90 := add_v (b := 1) h_89 (by first | omega | (simp only [Int32.lt_iff_toInt_lt, Int32.le_iff_toInt_le, Int32.reduceToInt, ← Int32.toInt_inj]; omega)) (by first | omega | (simp only [Int32.lt_iff_toInt_lt, Int32.le_iff_toInt_le, Int32.reduceToInt, ← Int32.toInt_inj]; omega))
        simp only [Int32.reduceToInt] at h_90
        refine v_iinc hC dJ7_fill_53178_14 (k := 1) rfl (v := v_88) h_89 (by decide) (lv' := [(2, .int v_88), (3, .int 256), (0, .ref a_0), (1, .int a_1)]) rfl ?_
        refine v_goto hC dJ7_fill_53178_17 (tgt := 5) (by decide) ?_
        refine v_pick [1, 0, 2, 3] rfl ?_
        exact ih_77 f_82 hW_86 ((hF_73.tr fr_87).mono rfl) v_88 (by first | omega | (simp only [Int32.lt_iff_toInt_lt, Int32.le_iff_toInt_le, Int32.reduceToInt, ← Int32.toInt_inj]; omega)) (by first | omega | (simp only [Int32.lt_iff_toInt_lt, Int32.le_iff_toInt_le, Int32.reduceToInt, ← Int32.toInt_inj]; omega))
  refine v_pick [0, 1, 2, 3] rfl ?_
  exact lp_75 258 f hW FR.rf 0 (by decide) (by decide)
set_option maxRecDepth 100000 in
set_option maxHeartbeats 4000000 in
theorem p_X6_addStitch {l : Launch} {E : Ez} {L : List Nat} {f : Nat → va_E} {T : Nat → va_E → Prop} {a_0 : Nat} {a_1 : Int32} {a_2 : Int32} (hW : WT T L f) (k_0 : isTal T L E a_0) : CV l yX6_addStitch cX6_addStitch 5 1 0 0 E [.ref a_0, .int a_1, .int a_2] L f (fun L1 f1 => L = L1 ∧ WT T L f1 ∧ FR [105, 116] f f1) := by
  refine cv_of (by decide) (Nat.le_of_ble_eq_true rfl) (fun z hz hnm hC hR => ?_)
  have hC : Cx z E cX6_addStitch RX6 5 1 0 0 := hC
  subst hz
  show V z E 5 0 0 L f 0 [(0, .ref a_0), (1, .int a_1), (2, .int a_2)] []
  refine v_aload_n hC dX6_addStitch_0 rfl ?_
  obtain ⟨m_1, q_3, q_4, q_5, q_6, q_7, t_2, k_8, k_9, k_10, k_11, k_12⟩ := id k_0
  obtain ⟨v_14, v_15, v_17, v_19, v_20, e_13, b_16, b_18⟩ := hW.at m_1 t_2
  refine v_get hC fl_X6_12 m_1 e_13 rfl dX6_addStitch_1 ?_
  refine v_iload_n hC dX6_addStitch_4 rfl ?_
  obtain ⟨m_21, q_23, t_22, k_24⟩ := id k_8
  obtain ⟨v_26, e_25, b_27⟩ := hW.at m_21 t_22
  refine v_vi hC (rest := []) m_21 e_25 rfl mi_X1_stitchAt ms_X1_stitchAt (p_X1_stitchAt hW k_8) mx_X1_stitchAt ml_X6_90 (by decide) rfl (cells1 := 0) (slots1 := 0) (by decide) (by decide) (Nat.le_of_ble_eq_true rfl) (Nat.le_of_ble_eq_true rfl) rfl (Nat.le_of_ble_eq_true rfl) dX6_addStitch_5 (fun r_28 L_29 f_30 h_31 => ?_)
  obtain ⟨rfl, rfl, h_32⟩ := h_31
  refine v_istore_n hC dX6_addStitch_8 (by decide) (lv' := [(3, .int r_28), (0, .ref a_0), (1, .int a_1), (2, .int a_2)]) rfl ?_
  refine v_aload_n hC dX6_addStitch_9 rfl ?_
  refine v_get hC fl_X6_47 m_1 e_13 rfl dX6_addStitch_10 ?_
  have jn_39 : ∀ (v_40 : Int32), V z E 5 0 0 L f 26 [(3, .int r_28), (0, .ref a_0), (2, .int a_2)] [.int v_40] := by
    intro v_40
    refine v_istore hC dX6_addStitch_26 (by decide) (lv' := [(4, .int v_40), (3, .int r_28), (0, .ref a_0), (2, .int a_2)]) rfl ?_
    refine v_iload_n hC dX6_addStitch_28 rfl ?_
    refine v_if_le hC dX6_addStitch_29 (tgt := 70) (by decide) (fun h_41 => ?_) (fun h_41 => ?_)
    · simp only [Int32.lt_iff_toInt_lt, Int32.le_iff_toInt_le, Int32.reduceToInt, ← Int32.toInt_inj] at h_41
      exact hR _ _ _ _ _ _ dX6_addStitch_70 (Nat.le_of_ble_eq_true rfl) (Nat.le_of_ble_eq_true rfl) ⟨rfl, hW, FR.rf⟩
    · simp only [Int32.lt_iff_toInt_lt, Int32.le_iff_toInt_le, Int32.reduceToInt, ← Int32.toInt_inj] at h_41
      refine v_iload_n hC dX6_addStitch_32 rfl ?_
      refine v_iconst hC dX6_addStitch_33 (v := 4) (by decide) ?_
      refine v_icmp_ge hC dX6_addStitch_34 (tgt := 70) (by decide) (fun h_42 => ?_) (fun h_42 => ?_)
      · simp only [Int32.lt_iff_toInt_lt, Int32.le_iff_toInt_le, Int32.reduceToInt, ← Int32.toInt_inj] at h_42
        exact hR _ _ _ _ _ _ dX6_addStitch_70 (Nat.le_of_ble_eq_true rfl) (Nat.le_of_ble_eq_true rfl) ⟨rfl, hW, FR.rf⟩
      · simp only [Int32.lt_iff_toInt_lt, Int32.le_iff_toInt_le, Int32.reduceToInt, ← Int32.toInt_inj] at h_42
        refine v_iload hC dX6_addStitch_37 rfl ?_
        refine v_if_lt hC dX6_addStitch_39 (tgt := 70) (by decide) (fun h_43 => ?_) (fun h_43 => ?_)
        · simp only [Int32.lt_iff_toInt_lt, Int32.le_iff_toInt_le, Int32.reduceToInt, ← Int32.toInt_inj] at h_43
          exact hR _ _ _ _ _ _ dX6_addStitch_70 (Nat.le_of_ble_eq_true rfl) (Nat.le_of_ble_eq_true rfl) ⟨rfl, hW, FR.rf⟩
        · simp only [Int32.lt_iff_toInt_lt, Int32.le_iff_toInt_le, Int32.reduceToInt, ← Int32.toInt_inj] at h_43
          refine v_iload hC dX6_addStitch_42 rfl ?_
          refine v_bipush hC dX6_addStitch_44 (v := 16) (by decide) ?_
          refine v_icmp_ge hC dX6_addStitch_46 (tgt := 70) (by decide) (fun h_44 => ?_) (fun h_44 => ?_)
          · simp only [Int32.lt_iff_toInt_lt, Int32.le_iff_toInt_le, Int32.reduceToInt, ← Int32.toInt_inj] at h_44
            exact hR _ _ _ _ _ _ dX6_addStitch_70 (Nat.le_of_ble_eq_true rfl) (Nat.le_of_ble_eq_true rfl) ⟨rfl, hW, FR.rf⟩
          · simp only [Int32.lt_iff_toInt_lt, Int32.le_iff_toInt_le, Int32.reduceToInt, ← Int32.toInt_inj] at h_44
            refine v_aload_n hC dX6_addStitch_49 rfl ?_
            refine v_get hC fl_X6_18 m_1 e_13 rfl dX6_addStitch_50 ?_
            refine v_iload_n hC dX6_addStitch_53 rfl ?_
            refine v_dup2 hC dX6_addStitch_54 rfl rfl ?_
            obtain ⟨m_45, t_46⟩ := id k_9
            obtain ⟨g_48, e_47⟩ := hW.at m_45 t_46
            obtain ⟨v_49, h_50⟩ : ∃ v9 : Int32, g_48 (r_28 : Int32).toNatClampNeg = v9 := ⟨_, rfl⟩
            refine v_iald hC m_45 e_47 (vp_in_iff.mpr (by first | omega | (simp only [Int32.lt_iff_toInt_lt, Int32.le_iff_toInt_le, Int32.reduceToInt, ← Int32.toInt_inj]; omega))) h_50 dX6_addStitch_55 ?_
            refine v_iload_n hC dX6_addStitch_56 rfl ?_
            obtain ⟨v_51, h_52⟩ : ∃ v9 : Int32, v_49 + a_2 = v9 := ⟨_, rfl⟩
            refine v_iadd hC dX6_addStitch_57 h_52 ?_
            refine v_iast hC m_45 e_47 (vp_in_iff.mpr (by first | omega | (simp only [Int32.lt_iff_toInt_lt, Int32.le_iff_toInt_le, Int32.reduceToInt, ← Int32.toInt_inj]; omega))) dX6_addStitch_58 (fun f_54 hf_55 hk_56 => ?_)
            have hW_58 := hW.up hf_55 hk_56 t_46 ⟨_, rfl⟩
            obtain ⟨g_57, hf_55⟩ : ∃ g9, f_54 q_4 = aI E 5 g9 := ⟨_, hf_55⟩
            have hf_59 := (hk_56 a_0 (ne_kd e_13 e_47 rfl)).trans e_13
            have hf_60 := (hk_56 q_3 (ne_kd e_25 e_47 rfl)).trans e_25
            have fr_61 := FR.w hk_56 e_47 (k := 105) rfl
            refine v_aload_n hC dX6_addStitch_59 rfl ?_
            refine v_get hC fl_X6_22 m_1 hf_59 rfl dX6_addStitch_60 ?_
            refine v_iload hC dX6_addStitch_63 rfl ?_
            refine v_dup2 hC dX6_addStitch_65 rfl rfl ?_
            obtain ⟨m_62, t_63⟩ := id k_10
            obtain ⟨g_65, e_64⟩ := hW_58.at m_62 t_63
            obtain ⟨v_66, h_67⟩ : ∃ v9 : Int32, g_65 (v_40 : Int32).toNatClampNeg = v9 := ⟨_, rfl⟩
            refine v_iald hC m_62 e_64 (vp_in_iff.mpr (by first | omega | (simp only [Int32.lt_iff_toInt_lt, Int32.le_iff_toInt_le, Int32.reduceToInt, ← Int32.toInt_inj]; omega))) h_67 dX6_addStitch_66 ?_
            refine v_iload_n hC dX6_addStitch_67 rfl ?_
            obtain ⟨v_68, h_69⟩ : ∃ v9 : Int32, v_66 + a_2 = v9 := ⟨_, rfl⟩
            refine v_iadd hC dX6_addStitch_68 h_69 ?_
            refine v_iast hC m_62 e_64 (vp_in_iff.mpr (by first | omega | (simp only [Int32.lt_iff_toInt_lt, Int32.le_iff_toInt_le, Int32.reduceToInt, ← Int32.toInt_inj]; omega))) dX6_addStitch_69 (fun f_71 hf_72 hk_73 => ?_)
            have hW_75 := hW_58.up hf_72 hk_73 t_63 ⟨_, rfl⟩
            obtain ⟨g_74, hf_72⟩ : ∃ g9, f_71 q_5 = aI E 16 g9 := ⟨_, hf_72⟩
            have hf_76 := (hk_73 a_0 (ne_kd hf_59 e_64 rfl)).trans hf_59
            have hf_77 := (hk_73 q_3 (ne_kd hf_60 e_64 rfl)).trans hf_60
            have hf_78 := (hk_73 q_4 (ne_kd hf_55 e_64 rfl)).trans hf_55
            have fr_79 := FR.w hk_73 e_64 (k := 116) rfl
            exact hR _ _ _ _ _ _ dX6_addStitch_70 (Nat.le_of_ble_eq_true rfl) (Nat.le_of_ble_eq_true rfl) ⟨rfl, hW_75, ((fr_61.tr fr_79).mono rfl)⟩
  refine v_if_le hC dX6_addStitch_13 (tgt := 25) (by decide) (fun h_35 => ?_) (fun h_35 => ?_)
  · simp only [Int32.lt_iff_toInt_lt, Int32.le_iff_toInt_le, Int32.reduceToInt, ← Int32.toInt_inj] at h_35
    refine v_iconst hC dX6_addStitch_25 (v := (-1)) (by decide) ?_
    refine v_pick [0, 1, 3] rfl ?_
    exact jn_39 (-1)
  · simp only [Int32.lt_iff_toInt_lt, Int32.le_iff_toInt_le, Int32.reduceToInt, ← Int32.toInt_inj] at h_35
    refine v_iload_n hC dX6_addStitch_16 rfl ?_
    refine v_aload_n hC dX6_addStitch_17 rfl ?_
    refine v_get hC fl_X6_47 m_1 e_13 rfl dX6_addStitch_18 ?_
    obtain ⟨v_80, h_81⟩ : ∃ v9 : Int32, a_1 / v_14 = v9 := ⟨_, rfl⟩
    refine v_idiv hC dX6_addStitch_21 (by first | omega | (simp only [Int32.lt_iff_toInt_lt, Int32.le_iff_toInt_le, Int32.reduceToInt, ← Int32.toInt_inj]; omega)) h_81 ?_
    refine v_goto hC dX6_addStitch_22 (tgt := 26) (by decide) ?_
    refine v_pick [0, 1, 3] rfl ?_
    exact jn_39 v_80
set_option maxRecDepth 100000 in
set_option maxHeartbeats 4000000 in
theorem p_X6_link {l : Launch} {E : Ez} {L : List Nat} {f : Nat → va_E} {T : Nat → va_E → Prop} {a_0 : Nat} {a_1 : Int32} {a_2 : Int32} (hW : WT T L f) (k_0 : isTal T L E a_0) : CV l yX6_link cX6_link 3 0 0 0 E [.ref a_0, .int a_1, .int a_2] L f (fun L1 f1 => L = L1 ∧ WT T L f1 ∧ FR [356] f f1) := by
  refine cv_of (by decide) (Nat.le_of_ble_eq_true rfl) (fun z hz hnm hC hR => ?_)
  have hC : Cx z E cX6_link RX6 3 0 0 0 := hC
  subst hz
  show V z E 3 0 0 L f 0 [(0, .ref a_0), (1, .int a_1), (2, .int a_2)] []
  refine v_iload_n hC dX6_link_0 rfl ?_
  refine v_if_lt hC dX6_link_1 (tgt := 36) (by decide) (fun h_1 => ?_) (fun h_1 => ?_)
  · simp only [Int32.lt_iff_toInt_lt, Int32.le_iff_toInt_le, Int32.reduceToInt, ← Int32.toInt_inj] at h_1
    exact hR _ _ _ _ _ _ dX6_link_36 (Nat.le_of_ble_eq_true rfl) (Nat.le_of_ble_eq_true rfl) ⟨rfl, hW, FR.rf⟩
  · simp only [Int32.lt_iff_toInt_lt, Int32.le_iff_toInt_le, Int32.reduceToInt, ← Int32.toInt_inj] at h_1
    refine v_iload_n hC dX6_link_4 rfl ?_
    refine v_sipush hC dX6_link_5 (v := 256) (by decide) ?_
    refine v_icmp_ge hC dX6_link_8 (tgt := 36) (by decide) (fun h_2 => ?_) (fun h_2 => ?_)
    · simp only [Int32.lt_iff_toInt_lt, Int32.le_iff_toInt_le, Int32.reduceToInt, ← Int32.toInt_inj] at h_2
      exact hR _ _ _ _ _ _ dX6_link_36 (Nat.le_of_ble_eq_true rfl) (Nat.le_of_ble_eq_true rfl) ⟨rfl, hW, FR.rf⟩
    · simp only [Int32.lt_iff_toInt_lt, Int32.le_iff_toInt_le, Int32.reduceToInt, ← Int32.toInt_inj] at h_2
      refine v_iload_n hC dX6_link_11 rfl ?_
      refine v_if_lt hC dX6_link_12 (tgt := 36) (by decide) (fun h_3 => ?_) (fun h_3 => ?_)
      · simp only [Int32.lt_iff_toInt_lt, Int32.le_iff_toInt_le, Int32.reduceToInt, ← Int32.toInt_inj] at h_3
        exact hR _ _ _ _ _ _ dX6_link_36 (Nat.le_of_ble_eq_true rfl) (Nat.le_of_ble_eq_true rfl) ⟨rfl, hW, FR.rf⟩
      · simp only [Int32.lt_iff_toInt_lt, Int32.le_iff_toInt_le, Int32.reduceToInt, ← Int32.toInt_inj] at h_3
        refine v_iload_n hC dX6_link_15 rfl ?_
        refine v_sipush hC dX6_link_16 (v := 256) (by decide) ?_
        refine v_icmp_ge hC dX6_link_19 (tgt := 36) (by decide) (fun h_4 => ?_) (fun h_4 => ?_)
        · simp only [Int32.lt_iff_toInt_lt, Int32.le_iff_toInt_le, Int32.reduceToInt, ← Int32.toInt_inj] at h_4
          exact hR _ _ _ _ _ _ dX6_link_36 (Nat.le_of_ble_eq_true rfl) (Nat.le_of_ble_eq_true rfl) ⟨rfl, hW, FR.rf⟩
        · simp only [Int32.lt_iff_toInt_lt, Int32.le_iff_toInt_le, Int32.reduceToInt, ← Int32.toInt_inj] at h_4
          refine v_aload_n hC dX6_link_22 rfl ?_
          obtain ⟨m_5, q_7, q_8, q_9, q_10, q_11, t_6, k_12, k_13, k_14, k_15, k_16⟩ := id k_0
          obtain ⟨v_18, v_19, v_21, v_23, v_24, e_17, b_20, b_22⟩ := hW.at m_5 t_6
          refine v_get hC fl_X6_28 m_5 e_17 rfl dX6_link_23 ?_
          refine v_iload_n hC dX6_link_26 rfl ?_
          refine v_iload_n hC dX6_link_27 rfl ?_
          obtain ⟨m_25, t_26⟩ := id k_16
          obtain ⟨g_28, e_27⟩ := hW.at m_25 t_26
          refine v_iast hC m_25 e_27 (vp_in_iff.mpr (by first | omega | (simp only [Int32.lt_iff_toInt_lt, Int32.le_iff_toInt_le, Int32.reduceToInt, ← Int32.toInt_inj]; omega))) dX6_link_28 (fun f_29 hf_30 hk_31 => ?_)
          have hW_33 := hW.up hf_30 hk_31 t_26 ⟨_, rfl⟩
          obtain ⟨g_32, hf_30⟩ : ∃ g9, f_29 q_11 = aI E 256 g9 := ⟨_, hf_30⟩
          have hf_34 := (hk_31 a_0 (ne_kd e_17 e_27 rfl)).trans e_17
          have fr_35 := FR.w hk_31 e_27 (k := 356) rfl
          refine v_aload_n hC dX6_link_29 rfl ?_
          refine v_get hC fl_X6_25 m_5 hf_34 rfl dX6_link_30 ?_
          refine v_iload_n hC dX6_link_33 rfl ?_
          refine v_iload_n hC dX6_link_34 rfl ?_
          obtain ⟨m_36, t_37⟩ := id k_15
          obtain ⟨g_39, e_38⟩ := hW_33.at m_36 t_37
          refine v_iast hC m_36 e_38 (vp_in_iff.mpr (by first | omega | (simp only [Int32.lt_iff_toInt_lt, Int32.le_iff_toInt_le, Int32.reduceToInt, ← Int32.toInt_inj]; omega))) dX6_link_35 (fun f_40 hf_41 hk_42 => ?_)
          have hW_44 := hW_33.up hf_41 hk_42 t_37 ⟨_, rfl⟩
          obtain ⟨g_43, hf_41⟩ : ∃ g9, f_40 q_10 = aI E 256 g9 := ⟨_, hf_41⟩
          have hf_45 := (hk_42 a_0 (ne_kd hf_34 e_38 rfl)).trans hf_34
          have fr_46 := FR.w hk_42 e_38 (k := 356) rfl
          exact hR _ _ _ _ _ _ dX6_link_36 (Nat.le_of_ble_eq_true rfl) (Nat.le_of_ble_eq_true rfl) ⟨rfl, hW_44, ((fr_35.tr fr_46).mono rfl)⟩
set_option maxRecDepth 100000 in
set_option maxHeartbeats 4000000 in
theorem p_X6_isRun {l : Launch} {E : Ez} {L : List Nat} {f : Nat → va_E} {T : Nat → va_E → Prop} {a_0 : Nat} {a_1 : Int32} {a_2 : Int32} (hW : WT T L f) (k_0 : isTal T L E a_0) : CI l yX6_isRun cX6_isRun 5 .boolean 1 0 0 E [.ref a_0, .int a_1, .int a_2] L f (fun r L1 f1 => L = L1 ∧ f = f1 ∧ (0 ≤ r.toInt ∧ r.toInt ≤ 1)) := by
  refine ci_of (by decide) (Nat.le_of_ble_eq_true rfl) (fun z hz hnm hC hR => ?_)
  have hC : Cx z E cX6_isRun RX6 5 1 0 0 := hC
  subst hz
  show V z E 5 0 0 L f 0 [(0, .ref a_0), (1, .int a_1), (2, .int a_2)] []
  refine v_aload_n hC dX6_isRun_0 rfl ?_
  obtain ⟨m_1, q_3, q_4, q_5, q_6, q_7, t_2, k_8, k_9, k_10, k_11, k_12⟩ := id k_0
  obtain ⟨v_14, v_15, v_17, v_19, v_20, e_13, b_16, b_18⟩ := hW.at m_1 t_2
  refine v_get hC fl_X6_12 m_1 e_13 rfl dX6_isRun_1 ?_
  refine v_iload_n hC dX6_isRun_4 rfl ?_
  obtain ⟨m_21, q_23, t_22, k_24⟩ := id k_8
  obtain ⟨v_26, e_25, b_27⟩ := hW.at m_21 t_22
  refine v_vi hC (rest := []) m_21 e_25 rfl mi_X1_stitchAt ms_X1_stitchAt (p_X1_stitchAt hW k_8) mx_X1_stitchAt ml_X6_90 (by decide) rfl (cells1 := 0) (slots1 := 0) (by decide) (by decide) (Nat.le_of_ble_eq_true rfl) (Nat.le_of_ble_eq_true rfl) rfl (Nat.le_of_ble_eq_true rfl) dX6_isRun_5 (fun r_28 L_29 f_30 h_31 => ?_)
  obtain ⟨rfl, rfl, h_32⟩ := h_31
  refine v_istore_n hC dX6_isRun_8 (by decide) (lv' := [(3, .int r_28), (0, .ref a_0), (1, .int a_1), (2, .int a_2)]) rfl ?_
  refine v_aload_n hC dX6_isRun_9 rfl ?_
  refine v_get hC fl_X6_12 m_1 e_13 rfl dX6_isRun_10 ?_
  refine v_iload_n hC dX6_isRun_13 rfl ?_
  refine v_vi hC (rest := []) m_21 e_25 rfl mi_X1_stitchAt ms_X1_stitchAt (p_X1_stitchAt hW k_8) mx_X1_stitchAt ml_X6_90 (by decide) rfl (cells1 := 0) (slots1 := 0) (by decide) (by decide) (Nat.le_of_ble_eq_true rfl) (Nat.le_of_ble_eq_true rfl) rfl (Nat.le_of_ble_eq_true rfl) dX6_isRun_14 (fun r_35 L_36 f_37 h_38 => ?_)
  obtain ⟨rfl, rfl, h_39⟩ := h_38
  refine v_istore hC dX6_isRun_17 (by decide) (lv' := [(4, .int r_35), (3, .int r_28), (0, .ref a_0), (1, .int a_1), (2, .int a_2)]) rfl ?_
  refine v_iload_n hC dX6_isRun_19 rfl ?_
  refine v_iconst hC dX6_isRun_20 (v := 4) (by decide) ?_
  refine v_icmp_eq hC dX6_isRun_21 (tgt := 40) (by decide) (fun h_42 => ?_) (fun h_42 => ?_)
  · simp only [Int32.lt_iff_toInt_lt, Int32.le_iff_toInt_le, Int32.reduceToInt, ← Int32.toInt_inj] at h_42
    refine v_iconst hC dX6_isRun_40 (v := 0) (by decide) ?_
    exact hR _ _ _ _ _ _ _ dX6_isRun_41 rfl (Nat.le_of_ble_eq_true rfl) (Nat.le_of_ble_eq_true rfl) ⟨rfl, rfl, (by decide)⟩
  · simp only [Int32.lt_iff_toInt_lt, Int32.le_iff_toInt_le, Int32.reduceToInt, ← Int32.toInt_inj] at h_42
    refine v_iload hC dX6_isRun_24 rfl ?_
    refine v_iconst hC dX6_isRun_26 (v := 4) (by decide) ?_
    refine v_icmp_eq hC dX6_isRun_27 (tgt := 40) (by decide) (fun h_43 => ?_) (fun h_43 => ?_)
    · simp only [Int32.lt_iff_toInt_lt, Int32.le_iff_toInt_le, Int32.reduceToInt, ← Int32.toInt_inj] at h_43
      refine v_iconst hC dX6_isRun_40 (v := 0) (by decide) ?_
      exact hR _ _ _ _ _ _ _ dX6_isRun_41 rfl (Nat.le_of_ble_eq_true rfl) (Nat.le_of_ble_eq_true rfl) ⟨rfl, rfl, (by decide)⟩
    · simp only [Int32.lt_iff_toInt_lt, Int32.le_iff_toInt_le, Int32.reduceToInt, ← Int32.toInt_inj] at h_43
      refine v_iload_n hC dX6_isRun_30 rfl ?_
      refine v_iload hC dX6_isRun_31 rfl ?_
      refine v_icmp_eq hC dX6_isRun_33 (tgt := 40) (by decide) (fun h_44 => ?_) (fun h_44 => ?_)
      · simp only [Int32.lt_iff_toInt_lt, Int32.le_iff_toInt_le, Int32.reduceToInt, ← Int32.toInt_inj] at h_44
        refine v_iconst hC dX6_isRun_40 (v := 0) (by decide) ?_
        exact hR _ _ _ _ _ _ _ dX6_isRun_41 rfl (Nat.le_of_ble_eq_true rfl) (Nat.le_of_ble_eq_true rfl) ⟨rfl, rfl, (by decide)⟩
      · simp only [Int32.lt_iff_toInt_lt, Int32.le_iff_toInt_le, Int32.reduceToInt, ← Int32.toInt_inj] at h_44
        refine v_iconst hC dX6_isRun_36 (v := 1) (by decide) ?_
        refine v_goto hC dX6_isRun_37 (tgt := 41) (by decide) ?_
        exact hR _ _ _ _ _ _ _ dX6_isRun_41 rfl (Nat.le_of_ble_eq_true rfl) (Nat.le_of_ble_eq_true rfl) ⟨rfl, rfl, (by decide)⟩
set_option maxRecDepth 100000 in
set_option maxHeartbeats 4000000 in
theorem p_X6_countOver {l : Launch} {E : Ez} {L : List Nat} {f : Nat → va_E} {T : Nat → va_E → Prop} {a_0 : Nat} {a_1 : Nat} {a_2 : Nat} (hW : WT T L f) (k_0 : isTal T L E a_0) (k_1 : isPat T L E a_1) (k_2 : isClo T L E a_2) : CV l yX6_countOver cX6_countOver 6 2 0 0 E [.ref a_0, .ref a_1, .ref a_2] L f (fun L1 f1 => L = L1 ∧ WT T L f1 ∧ FR [1, 6, 105, 116, 356] f f1) := by
  refine cv_of (by decide) (Nat.le_of_ble_eq_true rfl) (fun z hz hnm hC hR => ?_)
  have hC : Cx z E cX6_countOver RX6 6 2 0 0 := hC
  subst hz
  show V z E 6 0 0 L f 0 [(0, .ref a_0), (1, .ref a_1), (2, .ref a_2)] []
  refine v_aload_n hC dX6_countOver_0 rfl ?_
  obtain ⟨m_1, q_3, q_4, q_5, q_6, q_7, t_2, k_8, k_9, k_10, k_11, k_12⟩ := id k_0
  obtain ⟨v_14, v_15, v_17, v_19, v_20, e_13, b_16, b_18⟩ := hW.at m_1 t_2
  refine v_get hC fl_X6_12 m_1 e_13 rfl dX6_countOver_1 ?_
  refine v_aload_n hC dX6_countOver_4 rfl ?_
  obtain ⟨m_21, q_23, t_22, k_24⟩ := id k_8
  obtain ⟨v_26, e_25, b_27⟩ := hW.at m_21 t_22
  refine v_vv hC (rest := []) m_21 e_25 rfl mi_X1_takeFrom ms_X1_takeFrom (p_X1_takeFrom hW k_8 k_2) mx_X1_takeFrom ml_X6_31 (by decide) rfl (cells1 := 0) (slots1 := 0) (by decide) (by decide) (Nat.le_of_ble_eq_true rfl) (Nat.le_of_ble_eq_true rfl) rfl (Nat.le_of_ble_eq_true rfl) dX6_countOver_5 (fun L_29 f_30 h_31 => ?_)
  obtain ⟨rfl, hW_32, hF_33⟩ := h_31
  have hf_34 := hF_33.at e_13 rfl
  refine v_aload_n hC dX6_countOver_8 rfl ?_
  refine v_get hC fl_X6_18 m_1 hf_34 rfl dX6_countOver_9 ?_
  refine v_iconst hC dX6_countOver_12 (v := 0) (by decide) ?_
  refine v_sv hC (rest := []) mt_J7_fill_53178 (p_J7_fill_53178 hW_32 k_9) mx_J7_fill_53178 ml_X6_35 (by decide) rfl (cells1 := 0) (slots1 := 0) (by decide) (by decide) (Nat.le_of_ble_eq_true rfl) (Nat.le_of_ble_eq_true rfl) rfl (Nat.le_of_ble_eq_true rfl) dX6_countOver_13 (fun L_36 f_37 h_38 => ?_)
  obtain ⟨rfl, hW_39, hF_40⟩ := h_38
  have hf_41 := hF_40.at hf_34 rfl
  refine v_aload_n hC dX6_countOver_16 rfl ?_
  refine v_get hC fl_X6_22 m_1 hf_41 rfl dX6_countOver_17 ?_
  refine v_iconst hC dX6_countOver_20 (v := 0) (by decide) ?_
  refine v_sv hC (rest := []) mt_J7_fill_53178 (p_J7_fill_53178_108 hW_39 k_10) mx_J7_fill_53178 ml_X6_35 (by decide) rfl (cells1 := 0) (slots1 := 0) (by decide) (by decide) (Nat.le_of_ble_eq_true rfl) (Nat.le_of_ble_eq_true rfl) rfl (Nat.le_of_ble_eq_true rfl) dX6_countOver_21 (fun L_43 f_44 h_45 => ?_)
  obtain ⟨rfl, hW_46, hF_47⟩ := h_45
  have hf_48 := hF_47.at hf_41 rfl
  refine v_aload_n hC dX6_countOver_24 rfl ?_
  refine v_get hC fl_X6_25 m_1 hf_48 rfl dX6_countOver_25 ?_
  refine v_iconst hC dX6_countOver_28 (v := (-1)) (by decide) ?_
  refine v_sv hC (rest := []) mt_J7_fill_53178 (p_J7_fill_53178_109 hW_46 k_11) mx_J7_fill_53178 ml_X6_35 (by decide) rfl (cells1 := 0) (slots1 := 0) (by decide) (by decide) (Nat.le_of_ble_eq_true rfl) (Nat.le_of_ble_eq_true rfl) rfl (Nat.le_of_ble_eq_true rfl) dX6_countOver_29 (fun L_50 f_51 h_52 => ?_)
  obtain ⟨rfl, hW_53, hF_54⟩ := h_52
  have hf_55 := hF_54.at hf_48 rfl
  refine v_aload_n hC dX6_countOver_32 rfl ?_
  refine v_get hC fl_X6_28 m_1 hf_55 rfl dX6_countOver_33 ?_
  refine v_iconst hC dX6_countOver_36 (v := (-1)) (by decide) ?_
  refine v_sv hC (rest := []) mt_J7_fill_53178 (p_J7_fill_53178_109 hW_53 k_12) mx_J7_fill_53178 ml_X6_35 (by decide) rfl (cells1 := 0) (slots1 := 0) (by decide) (by decide) (Nat.le_of_ble_eq_true rfl) (Nat.le_of_ble_eq_true rfl) rfl (Nat.le_of_ble_eq_true rfl) dX6_countOver_37 (fun L_57 f_58 h_59 => ?_)
  obtain ⟨rfl, hW_60, hF_61⟩ := h_59
  have hf_62 := hF_61.at hf_55 rfl
  refine v_aload_n hC dX6_countOver_40 rfl ?_
  refine v_aload_n hC dX6_countOver_41 rfl ?_
  obtain ⟨m_63, q_65, q_66, t_64, k_67, k_68⟩ := id k_1
  obtain ⟨v_70, v_72, v_74, e_69, b_71, b_73, b_75⟩ := hW_60.at m_63 t_64
  refine v_getN hC fn_X6_41 m_63 e_69 rfl dX6_countOver_42 ?_
  refine v_put hC fl_X6_47 m_1 hf_62 rfl rfl (Nat.le_of_ble_eq_true rfl) (fs' := [.ref q_3, .ref q_4, .ref q_5, .ref q_6, .ref q_7, .int v_70, .int v_15, .int v_17, .int v_19, .int v_20]) rfl dX6_countOver_45 (fun f_76 hf_77 hk_78 => ?_)
  have hW_79 := hW_60.up hf_77 hk_78 t_2 ⟨v_70, v_15, v_17, v_19, v_20, rfl, (by first | omega | (simp only [Int32.lt_iff_toInt_lt, Int32.le_iff_toInt_le, Int32.reduceToInt, ← Int32.toInt_inj]; omega)), (by first | omega | (simp only [Int32.lt_iff_toInt_lt, Int32.le_iff_toInt_le, Int32.reduceToInt, ← Int32.toInt_inj]; omega))⟩
  have hf_80 := (hk_78 a_1 (ne_kd e_69 hf_62 rfl)).trans e_69
  have fr_81 := FR.w hk_78 hf_62 (k := 6) rfl
  refine v_aload_n hC dX6_countOver_48 rfl ?_
  refine v_aload_n hC dX6_countOver_49 rfl ?_
  refine v_getN hC fn_X6_48 m_63 hf_80 rfl dX6_countOver_50 ?_
  refine v_bipush hC dX6_countOver_53 (v := 16) (by decide) ?_
  obtain ⟨v_82, h_83⟩ : ∃ v9 : Int32, (if 16 < (v_72 : Int32) then 16 else (v_72 : Int32)) = v9 := ⟨_, rfl⟩
  refine v_mmin hC mm_X6_51 mm_smin mm_i mm_cmin (by decide) (Nat.le_of_ble_eq_true rfl) (Nat.le_of_ble_eq_true rfl) (Nat.le_of_ble_eq_true rfl) h_83 dX6_countOver_55 ?_
  have b_84 := min_v h_83
  try simp only [Int32.reduceToInt] at b_84
  refine v_put hC fl_X6_57 m_1 hf_77 rfl rfl (Nat.le_of_ble_eq_true rfl) (fs' := [.ref q_3, .ref q_4, .ref q_5, .ref q_6, .ref q_7, .int v_70, .int v_82, .int v_17, .int v_19, .int v_20]) rfl dX6_countOver_58 (fun f_85 hf_86 hk_87 => ?_)
  have hW_88 := hW_79.up hf_86 hk_87 t_2 ⟨v_70, v_82, v_17, v_19, v_20, rfl, (by first | omega | (simp only [Int32.lt_iff_toInt_lt, Int32.le_iff_toInt_le, Int32.reduceToInt, ← Int32.toInt_inj]; omega)), (by first | omega | (simp only [Int32.lt_iff_toInt_lt, Int32.le_iff_toInt_le, Int32.reduceToInt, ← Int32.toInt_inj]; omega))⟩
  have hf_89 := (hk_87 a_1 (ne_kd hf_80 hf_77 rfl)).trans hf_80
  have fr_90 := FR.w hk_87 hf_77 (k := 6) rfl
  refine v_aload_n hC dX6_countOver_61 rfl ?_
  refine v_aload_n hC dX6_countOver_62 rfl ?_
  refine v_getN hC fn_X6_58 m_63 hf_89 rfl dX6_countOver_63 ?_
  refine v_put hC fl_X6_61 m_1 hf_86 rfl rfl (Nat.le_of_ble_eq_true rfl) (fs' := [.ref q_3, .ref q_4, .ref q_5, .ref q_6, .ref q_7, .int v_70, .int v_82, .int v_74, .int v_19, .int v_20]) rfl dX6_countOver_66 (fun f_91 hf_92 hk_93 => ?_)
  have hW_94 := hW_88.up hf_92 hk_93 t_2 ⟨v_70, v_82, v_74, v_19, v_20, rfl, (by first | omega | (simp only [Int32.lt_iff_toInt_lt, Int32.le_iff_toInt_le, Int32.reduceToInt, ← Int32.toInt_inj]; omega)), (by first | omega | (simp only [Int32.lt_iff_toInt_lt, Int32.le_iff_toInt_le, Int32.reduceToInt, ← Int32.toInt_inj]; omega))⟩
  have hf_95 := (hk_93 a_1 (ne_kd hf_89 hf_86 rfl)).trans hf_89
  have fr_96 := FR.w hk_93 hf_86 (k := 6) rfl
  refine v_aload_n hC dX6_countOver_69 rfl ?_
  refine v_aload_n hC dX6_countOver_70 rfl ?_
  refine v_aload_n hC dX6_countOver_71 rfl ?_
  obtain ⟨m_97, q_99, t_98, k_100⟩ := id k_2
  obtain ⟨v_102, e_101, b_103⟩ := hW_94.at m_97 t_98
  refine v_vi hC (rest := [.ref a_0]) m_97 e_101 rfl mi_X1_lostPlaces ms_X1_lostPlaces (p_X1_lostPlaces hW_94 k_2 k_1) mx_X1_lostPlaces ml_X6_62 (by decide) rfl (cells1 := 0) (slots1 := 0) (by decide) (by decide) (Nat.le_of_ble_eq_true rfl) (Nat.le_of_ble_eq_true rfl) rfl (Nat.le_of_ble_eq_true rfl) dX6_countOver_72 (fun r_104 L_105 f_106 h_107 => ?_)
  obtain ⟨rfl, rfl⟩ := h_107
  refine v_put hC fl_X6_66 m_1 hf_92 rfl rfl (Nat.le_of_ble_eq_true rfl) (fs' := [.ref q_3, .ref q_4, .ref q_5, .ref q_6, .ref q_7, .int v_70, .int v_82, .int v_74, .int r_104, .int v_20]) rfl dX6_countOver_75 (fun f_110 hf_111 hk_112 => ?_)
  have hW_113 := hW_94.up hf_111 hk_112 t_2 ⟨v_70, v_82, v_74, r_104, v_20, rfl, (by first | omega | (simp only [Int32.lt_iff_toInt_lt, Int32.le_iff_toInt_le, Int32.reduceToInt, ← Int32.toInt_inj]; omega)), (by first | omega | (simp only [Int32.lt_iff_toInt_lt, Int32.le_iff_toInt_le, Int32.reduceToInt, ← Int32.toInt_inj]; omega))⟩
  have hf_114 := (hk_112 a_1 (ne_kd hf_95 hf_92 rfl)).trans hf_95
  have hf_115 := (hk_112 a_2 (ne_kd e_101 hf_92 rfl)).trans e_101
  have fr_116 := FR.w hk_112 hf_92 (k := 6) rfl
  refine v_aload_n hC dX6_countOver_78 rfl ?_
  refine v_iconst hC dX6_countOver_79 (v := 0) (by decide) ?_
  refine v_put hC fl_X6_69 m_1 hf_111 rfl rfl (Nat.le_of_ble_eq_true rfl) (fs' := [.ref q_3, .ref q_4, .ref q_5, .ref q_6, .ref q_7, .int v_70, .int v_82, .int v_74, .int r_104, .int 0]) rfl dX6_countOver_80 (fun f_117 hf_118 hk_119 => ?_)
  have hW_120 := hW_113.up hf_118 hk_119 t_2 ⟨v_70, v_82, v_74, r_104, 0, rfl, (by first | omega | (simp only [Int32.lt_iff_toInt_lt, Int32.le_iff_toInt_le, Int32.reduceToInt, ← Int32.toInt_inj]; omega)), (by first | omega | (simp only [Int32.lt_iff_toInt_lt, Int32.le_iff_toInt_le, Int32.reduceToInt, ← Int32.toInt_inj]; omega))⟩
  have hf_121 := (hk_119 a_1 (ne_kd hf_114 hf_111 rfl)).trans hf_114
  have hf_122 := (hk_119 a_2 (ne_kd hf_115 hf_111 rfl)).trans hf_115
  have fr_123 := FR.w hk_119 hf_111 (k := 6) rfl
  refine v_iconst hC dX6_countOver_83 (v := (-1)) (by decide) ?_
  refine v_istore_n hC dX6_countOver_84 (by decide) (lv' := [(3, .int (-1)), (0, .ref a_0), (1, .ref a_1), (2, .ref a_2)]) rfl ?_
  refine v_iconst hC dX6_countOver_85 (v := 0) (by decide) ?_
  refine v_istore hC dX6_countOver_86 (by decide) (lv' := [(4, .int 0), (3, .int (-1)), (0, .ref a_0), (1, .ref a_1), (2, .ref a_2)]) rfl ?_
  have lp_651 : ∀ (n_652 : Nat) (f_645 : Nat → va_E) (hW_646 : WT T L f_645) (hF_647 : FR [6, 105, 116, 356] f_117 f_645) (i_643 : Int32) (b_650 : (0 ≤ i_643.toInt ∧ i_643.toInt ≤ 256)) (i_644 : Int32) (hm_654 : 256 - i_643.toInt < (n_652 : Int)), V z E 6 0 0 L f_645 88 [(4, .int i_643), (3, .int i_644), (0, .ref a_0), (1, .ref a_1)] [] := by
    intro n_652
    induction n_652 with
    | zero =>
      intro f_645 hW_646 hF_647 i_643 b_650 i_644 hm_654
      have hf_648 := hF_647.at hf_121 rfl
      have hf_649 := hF_647.at hf_122 rfl
      exfalso; omega
    | succ n_652 ih_653 =>
      intro f_645 hW_646 hF_647 i_643 b_650 i_644 hm_654
      have hf_648 := hF_647.at hf_121 rfl
      have hf_649 := hF_647.at hf_122 rfl
      refine v_iload hC dX6_countOver_88 rfl ?_
      refine v_aload_n hC dX6_countOver_90 rfl ?_
      obtain ⟨v_656, v_657, v_659, v_661, v_662, e_655, b_658, b_660⟩ := hW_646.at m_1 t_2
      refine v_get hC fl_X6_61 m_1 e_655 rfl dX6_countOver_91 ?_
      refine v_icmp_ge hC dX6_countOver_94 (tgt := 162) (by decide) (fun h_663 => ?_) (fun h_663 => ?_)
      · simp only [Int32.lt_iff_toInt_lt, Int32.le_iff_toInt_le, Int32.reduceToInt, ← Int32.toInt_inj] at h_663
        exact hR _ _ _ _ _ _ dX6_countOver_162 (Nat.le_of_ble_eq_true rfl) (Nat.le_of_ble_eq_true rfl) ⟨rfl, hW_646, (((((((((((hF_33.tr hF_40).tr hF_47).tr hF_54).tr hF_61).tr fr_81).tr fr_90).tr fr_96).tr fr_116).tr fr_123).tr hF_647).mono rfl)⟩
      · simp only [Int32.lt_iff_toInt_lt, Int32.le_iff_toInt_le, Int32.reduceToInt, ← Int32.toInt_inj] at h_663
        refine v_aload_n hC dX6_countOver_97 rfl ?_
        refine v_iload hC dX6_countOver_98 rfl ?_
        refine v_vi hC (rest := []) m_63 hf_648 rfl mi_X4_freePlace ms_X4_freePlace (p_X4_freePlace hW_646 k_1) mx_X4_freePlace ml_X6_72 (by decide) rfl (cells1 := 0) (slots1 := 0) (by decide) (by decide) (Nat.le_of_ble_eq_true rfl) (Nat.le_of_ble_eq_true rfl) rfl (Nat.le_of_ble_eq_true rfl) dX6_countOver_100 (fun r_664 L_665 f_666 h_667 => ?_)
        obtain ⟨rfl, rfl, h_668⟩ := h_667
        refine v_istore hC dX6_countOver_103 (by decide) (lv' := [(5, .int r_664), (4, .int i_643), (3, .int i_644), (0, .ref a_0), (1, .ref a_1)]) rfl ?_
        refine v_aload_n hC dX6_countOver_105 rfl ?_
        refine v_iload hC dX6_countOver_106 rfl ?_
        refine v_iconst hC dX6_countOver_108 (v := 1) (by decide) ?_
        refine v_vv hC (rest := []) m_1 e_655 rfl mi_X6_addStitch ms_X6_addStitch (p_X6_addStitch hW_646 k_0) mx_X6_addStitch ml_X6_76 (by decide) rfl (cells1 := 0) (slots1 := 0) (by decide) (by decide) (Nat.le_of_ble_eq_true rfl) (Nat.le_of_ble_eq_true rfl) rfl (Nat.le_of_ble_eq_true rfl) dX6_countOver_109 (fun L_672 f_673 h_674 => ?_)
        obtain ⟨rfl, hW_675, hF_676⟩ := h_674
        have hf_677 := hF_676.at hf_648 rfl
        have hf_678 := hF_676.at hf_649 rfl
        have hf_679 := hF_676.at e_655 rfl
        refine v_aload_n hC dX6_countOver_112 rfl ?_
        refine v_iload hC dX6_countOver_113 rfl ?_
        refine v_vi hC (rest := []) m_63 hf_677 rfl mi_X4_sortAt ms_X4_sortAt (p_X4_sortAt hW_675 k_1) mx_X4_sortAt ml_X6_80 (by decide) rfl (cells1 := 0) (slots1 := 0) (by decide) (by decide) (Nat.le_of_ble_eq_true rfl) (Nat.le_of_ble_eq_true rfl) rfl (Nat.le_of_ble_eq_true rfl) dX6_countOver_115 (fun r_680 L_681 f_682 h_683 => ?_)
        obtain ⟨rfl, rfl, h_684⟩ := h_683
        refine v_iconst hC dX6_countOver_118 (v := 2) (by decide) ?_
        refine v_icmp_ne hC dX6_countOver_119 (tgt := 156) (by decide) (fun h_687 => ?_) (fun h_687 => ?_)
        · simp only [Int32.lt_iff_toInt_lt, Int32.le_iff_toInt_le, Int32.reduceToInt, ← Int32.toInt_inj] at h_687
          obtain ⟨v_688, h_689⟩ : ∃ v9 : Int32, i_643 + Int32.ofInt 1 = v9 := ⟨_, rfl⟩
          have h_690 := add_v (b := 1) h_689 (by first | omega | (simp only [Int32.lt_iff_toInt_lt, Int32.le_iff_toInt_le, Int32.reduceToInt, ← Int32.toInt_inj]; omega)) (by first | omega | (simp only [Int32.lt_iff_toInt_lt, Int32.le_iff_toInt_le, Int32.reduceToInt, ← Int32.toInt_inj]; omega))
          simp only [Int32.reduceToInt] at h_690
          refine v_iinc hC dX6_countOver_156 (k := 1) rfl (v := v_688) h_689 (by decide) (lv' := [(4, .int v_688), (5, .int r_664), (3, .int i_644), (0, .ref a_0), (1, .ref a_1)]) rfl ?_
          refine v_goto hC dX6_countOver_159 (tgt := 88) (by decide) ?_
          refine v_pick [0, 2, 3, 4] rfl ?_
          exact ih_653 f_673 hW_675 ((hF_647.tr hF_676).mono rfl) v_688 (by first | omega | (simp only [Int32.lt_iff_toInt_lt, Int32.le_iff_toInt_le, Int32.reduceToInt, ← Int32.toInt_inj]; omega)) i_644 (by first | omega | (simp only [Int32.lt_iff_toInt_lt, Int32.le_iff_toInt_le, Int32.reduceToInt, ← Int32.toInt_inj]; omega))
        · simp only [Int32.lt_iff_toInt_lt, Int32.le_iff_toInt_le, Int32.reduceToInt, ← Int32.toInt_inj] at h_687
          refine v_aload_n hC dX6_countOver_122 rfl ?_
          refine v_iload_n hC dX6_countOver_123 rfl ?_
          refine v_iload hC dX6_countOver_124 rfl ?_
          refine v_vv hC (rest := []) m_1 hf_679 rfl mi_X6_link ms_X6_link (p_X6_link hW_675 k_0) mx_X6_link ml_X6_83 (by decide) rfl (cells1 := 0) (slots1 := 0) (by decide) (by decide) (Nat.le_of_ble_eq_true rfl) (Nat.le_of_ble_eq_true rfl) rfl (Nat.le_of_ble_eq_true rfl) dX6_countOver_126 (fun L_692 f_693 h_694 => ?_)
          obtain ⟨rfl, hW_695, hF_696⟩ := h_694
          have hf_697 := hF_696.at hf_677 rfl
          have hf_698 := hF_696.at hf_678 rfl
          have hf_699 := hF_696.at hf_679 rfl
          refine v_aload_n hC dX6_countOver_129 rfl ?_
          refine v_dup hC dX6_countOver_130 rfl ?_
          refine v_get hC fl_X6_69 m_1 hf_699 rfl dX6_countOver_131 ?_
          refine v_aload_n hC dX6_countOver_134 rfl ?_
          refine v_iload_n hC dX6_countOver_135 rfl ?_
          refine v_iload hC dX6_countOver_136 rfl ?_
          refine v_vi hC (rest := [.int v_662, .ref a_0]) m_1 hf_699 rfl mi_X6_isRun ms_X6_isRun (p_X6_isRun hW_695 k_0) mx_X6_isRun ml_X6_86 (by decide) rfl (cells1 := 0) (slots1 := 0) (by decide) (by decide) (Nat.le_of_ble_eq_true rfl) (Nat.le_of_ble_eq_true rfl) rfl (Nat.le_of_ble_eq_true rfl) dX6_countOver_138 (fun r_700 L_701 f_702 h_703 => ?_)
          obtain ⟨rfl, rfl, b_704⟩ := h_703
          refine v_if_eq hC dX6_countOver_141 (tgt := 148) (by decide) (fun h_707 => ?_) (fun h_707 => ?_)
          · simp only [Int32.lt_iff_toInt_lt, Int32.le_iff_toInt_le, Int32.reduceToInt, ← Int32.toInt_inj] at h_707
            refine v_iconst hC dX6_countOver_148 (v := 0) (by decide) ?_
            obtain ⟨v_708, h_709⟩ : ∃ v9 : Int32, v_662 + 0 = v9 := ⟨_, rfl⟩
            refine v_iadd hC dX6_countOver_149 h_709 ?_
            have rg_711 := Int32.toInt_lt v_662
            have rg_712 := Int32.le_toInt v_662
            have h_710 := add_v h_709 (by first | omega | (simp only [Int32.lt_iff_toInt_lt, Int32.le_iff_toInt_le, Int32.reduceToInt, ← Int32.toInt_inj]; omega)) (by first | omega | (simp only [Int32.lt_iff_toInt_lt, Int32.le_iff_toInt_le, Int32.reduceToInt, ← Int32.toInt_inj]; omega))
            try simp only [Int32.reduceToInt] at h_710
            refine v_put hC fl_X6_69 m_1 hf_699 rfl rfl (Nat.le_of_ble_eq_true rfl) (fs' := [.ref q_3, .ref q_4, .ref q_5, .ref q_6, .ref q_7, .int v_656, .int v_657, .int v_659, .int v_661, .int v_708]) rfl dX6_countOver_150 (fun f_713 hf_714 hk_715 => ?_)
            have hW_716 := hW_695.up hf_714 hk_715 t_2 ⟨v_656, v_657, v_659, v_661, v_708, rfl, (by first | omega | (simp only [Int32.lt_iff_toInt_lt, Int32.le_iff_toInt_le, Int32.reduceToInt, ← Int32.toInt_inj]; omega)), (by first | omega | (simp only [Int32.lt_iff_toInt_lt, Int32.le_iff_toInt_le, Int32.reduceToInt, ← Int32.toInt_inj]; omega))⟩
            have hf_717 := (hk_715 a_1 (ne_kd hf_697 hf_699 rfl)).trans hf_697
            have hf_718 := (hk_715 a_2 (ne_kd hf_698 hf_699 rfl)).trans hf_698
            have fr_719 := FR.w hk_715 hf_699 (k := 6) rfl
            refine v_iload hC dX6_countOver_153 rfl ?_
            refine v_istore_n hC dX6_countOver_155 (by decide) (lv' := [(3, .int r_664), (5, .int r_664), (4, .int i_643), (0, .ref a_0), (1, .ref a_1)]) rfl ?_
            obtain ⟨v_720, h_721⟩ : ∃ v9 : Int32, i_643 + Int32.ofInt 1 = v9 := ⟨_, rfl⟩
            have h_722 := add_v (b := 1) h_721 (by first | omega | (simp only [Int32.lt_iff_toInt_lt, Int32.le_iff_toInt_le, Int32.reduceToInt, ← Int32.toInt_inj]; omega)) (by first | omega | (simp only [Int32.lt_iff_toInt_lt, Int32.le_iff_toInt_le, Int32.reduceToInt, ← Int32.toInt_inj]; omega))
            simp only [Int32.reduceToInt] at h_722
            refine v_iinc hC dX6_countOver_156 (k := 2) rfl (v := v_720) h_721 (by decide) (lv' := [(4, .int v_720), (3, .int r_664), (5, .int r_664), (0, .ref a_0), (1, .ref a_1)]) rfl ?_
            refine v_goto hC dX6_countOver_159 (tgt := 88) (by decide) ?_
            refine v_pick [0, 1, 3, 4] rfl ?_
            exact ih_653 f_713 hW_716 ((((hF_647.tr hF_676).tr hF_696).tr fr_719).mono rfl) v_720 (by first | omega | (simp only [Int32.lt_iff_toInt_lt, Int32.le_iff_toInt_le, Int32.reduceToInt, ← Int32.toInt_inj]; omega)) r_664 (by first | omega | (simp only [Int32.lt_iff_toInt_lt, Int32.le_iff_toInt_le, Int32.reduceToInt, ← Int32.toInt_inj]; omega))
          · simp only [Int32.lt_iff_toInt_lt, Int32.le_iff_toInt_le, Int32.reduceToInt, ← Int32.toInt_inj] at h_707
            refine v_iconst hC dX6_countOver_144 (v := 1) (by decide) ?_
            refine v_goto hC dX6_countOver_145 (tgt := 149) (by decide) ?_
            obtain ⟨v_723, h_724⟩ : ∃ v9 : Int32, v_662 + 1 = v9 := ⟨_, rfl⟩
            refine v_iadd hC dX6_countOver_149 h_724 ?_
            refine v_put hC fl_X6_69 m_1 hf_699 rfl rfl (Nat.le_of_ble_eq_true rfl) (fs' := [.ref q_3, .ref q_4, .ref q_5, .ref q_6, .ref q_7, .int v_656, .int v_657, .int v_659, .int v_661, .int v_723]) rfl dX6_countOver_150 (fun f_726 hf_727 hk_728 => ?_)
            have hW_729 := hW_695.up hf_727 hk_728 t_2 ⟨v_656, v_657, v_659, v_661, v_723, rfl, (by first | omega | (simp only [Int32.lt_iff_toInt_lt, Int32.le_iff_toInt_le, Int32.reduceToInt, ← Int32.toInt_inj]; omega)), (by first | omega | (simp only [Int32.lt_iff_toInt_lt, Int32.le_iff_toInt_le, Int32.reduceToInt, ← Int32.toInt_inj]; omega))⟩
            have hf_730 := (hk_728 a_1 (ne_kd hf_697 hf_699 rfl)).trans hf_697
            have hf_731 := (hk_728 a_2 (ne_kd hf_698 hf_699 rfl)).trans hf_698
            have fr_732 := FR.w hk_728 hf_699 (k := 6) rfl
            refine v_iload hC dX6_countOver_153 rfl ?_
            refine v_istore_n hC dX6_countOver_155 (by decide) (lv' := [(3, .int r_664), (5, .int r_664), (4, .int i_643), (0, .ref a_0), (1, .ref a_1)]) rfl ?_
            obtain ⟨v_733, h_734⟩ : ∃ v9 : Int32, i_643 + Int32.ofInt 1 = v9 := ⟨_, rfl⟩
            have h_735 := add_v (b := 1) h_734 (by first | omega | (simp only [Int32.lt_iff_toInt_lt, Int32.le_iff_toInt_le, Int32.reduceToInt, ← Int32.toInt_inj]; omega)) (by first | omega | (simp only [Int32.lt_iff_toInt_lt, Int32.le_iff_toInt_le, Int32.reduceToInt, ← Int32.toInt_inj]; omega))
            simp only [Int32.reduceToInt] at h_735
            refine v_iinc hC dX6_countOver_156 (k := 2) rfl (v := v_733) h_734 (by decide) (lv' := [(4, .int v_733), (3, .int r_664), (5, .int r_664), (0, .ref a_0), (1, .ref a_1)]) rfl ?_
            refine v_goto hC dX6_countOver_159 (tgt := 88) (by decide) ?_
            refine v_pick [0, 1, 3, 4] rfl ?_
            exact ih_653 f_726 hW_729 ((((hF_647.tr hF_676).tr hF_696).tr fr_732).mono rfl) v_733 (by first | omega | (simp only [Int32.lt_iff_toInt_lt, Int32.le_iff_toInt_le, Int32.reduceToInt, ← Int32.toInt_inj]; omega)) r_664 (by first | omega | (simp only [Int32.lt_iff_toInt_lt, Int32.le_iff_toInt_le, Int32.reduceToInt, ← Int32.toInt_inj]; omega))
  refine v_pick [0, 1, 2, 3] rfl ?_
  exact lp_651 258 f_117 hW_120 FR.rf 0 (by decide) (-1) (by decide)
set_option maxRecDepth 100000 in
set_option maxHeartbeats 4000000 in
theorem p_X6_runsAt {l : Launch} {E : Ez} {L : List Nat} {f : Nat → va_E} {T : Nat → va_E → Prop} {a_0 : Nat} {a_1 : Int32} (hW : WT T L f) (k_0 : isTal T L E a_0) : CI l yX6_runsAt cX6_runsAt 2 .int 2 0 0 E [.ref a_0, .int a_1] L f (fun r L1 f1 => L = L1 ∧ f = f1 ∧ (0 ≤ r.toInt ∧ r.toInt ≤ 2) ∧ (r.toInt = 0 ∨ (0 ≤ a_1.toInt ∧ a_1.toInt ≤ 255))) := by
  refine ci_of (by decide) (Nat.le_of_ble_eq_true rfl) (fun z hz hnm hC hR => ?_)
  have hC : Cx z E cX6_runsAt RX6 2 2 0 0 := hC
  subst hz
  show V z E 2 0 0 L f 0 [(0, .ref a_0), (1, .int a_1)] []
  refine v_iload_n hC dX6_runsAt_0 rfl ?_
  refine v_if_lt hC dX6_runsAt_1 (tgt := 11) (by decide) (fun h_1 => ?_) (fun h_1 => ?_)
  · simp only [Int32.lt_iff_toInt_lt, Int32.le_iff_toInt_le, Int32.reduceToInt, ← Int32.toInt_inj] at h_1
    refine v_iconst hC dX6_runsAt_11 (v := 0) (by decide) ?_
    exact hR _ _ _ _ _ _ _ dX6_runsAt_12 rfl (Nat.le_of_ble_eq_true rfl) (Nat.le_of_ble_eq_true rfl) ⟨rfl, rfl, (by decide), (.inl (by decide))⟩
  · simp only [Int32.lt_iff_toInt_lt, Int32.le_iff_toInt_le, Int32.reduceToInt, ← Int32.toInt_inj] at h_1
    refine v_iload_n hC dX6_runsAt_4 rfl ?_
    refine v_sipush hC dX6_runsAt_5 (v := 256) (by decide) ?_
    refine v_icmp_lt hC dX6_runsAt_8 (tgt := 13) (by decide) (fun h_2 => ?_) (fun h_2 => ?_)
    · simp only [Int32.lt_iff_toInt_lt, Int32.le_iff_toInt_le, Int32.reduceToInt, ← Int32.toInt_inj] at h_2
      refine v_aload_n hC dX6_runsAt_13 rfl ?_
      refine v_aload_n hC dX6_runsAt_14 rfl ?_
      obtain ⟨m_3, q_5, q_6, q_7, q_8, q_9, t_4, k_10, k_11, k_12, k_13, k_14⟩ := id k_0
      obtain ⟨v_16, v_17, v_19, v_21, v_22, e_15, b_18, b_20⟩ := hW.at m_3 t_4
      refine v_get hC fl_X6_25 m_3 e_15 rfl dX6_runsAt_15 ?_
      refine v_iload_n hC dX6_runsAt_18 rfl ?_
      obtain ⟨m_23, t_24⟩ := id k_13
      obtain ⟨g_26, e_25⟩ := hW.at m_23 t_24
      obtain ⟨v_27, h_28⟩ : ∃ v9 : Int32, g_26 (a_1 : Int32).toNatClampNeg = v9 := ⟨_, rfl⟩
      refine v_iald hC m_23 e_25 (vp_in_iff.mpr (by first | omega | (simp only [Int32.lt_iff_toInt_lt, Int32.le_iff_toInt_le, Int32.reduceToInt, ← Int32.toInt_inj]; omega))) h_28 dX6_runsAt_19 ?_
      refine v_iload_n hC dX6_runsAt_20 rfl ?_
      refine v_vi hC (rest := []) m_3 e_15 rfl mi_X6_isRun ms_X6_isRun (p_X6_isRun hW k_0) mx_X6_isRun ml_X6_86 (by decide) rfl (cells1 := 0) (slots1 := 0) (by decide) (by decide) (Nat.le_of_ble_eq_true rfl) (Nat.le_of_ble_eq_true rfl) rfl (Nat.le_of_ble_eq_true rfl) dX6_runsAt_21 (fun r_29 L_30 f_31 h_32 => ?_)
      obtain ⟨rfl, rfl, b_33⟩ := h_32
      have jn_37 : ∀ (v_38 : Int32) (b_39 : (0 ≤ v_38.toInt ∧ v_38.toInt ≤ 1)), V z E 2 0 0 L f 32 [(0, .ref a_0), (1, .int a_1)] [.int v_38] := by
        intro v_38 b_39
        refine v_aload_n hC dX6_runsAt_32 rfl ?_
        refine v_iload_n hC dX6_runsAt_33 rfl ?_
        refine v_aload_n hC dX6_runsAt_34 rfl ?_
        refine v_get hC fl_X6_28 m_3 e_15 rfl dX6_runsAt_35 ?_
        refine v_iload_n hC dX6_runsAt_38 rfl ?_
        obtain ⟨m_40, t_41⟩ := id k_14
        obtain ⟨g_43, e_42⟩ := hW.at m_40 t_41
        obtain ⟨v_44, h_45⟩ : ∃ v9 : Int32, g_43 (a_1 : Int32).toNatClampNeg = v9 := ⟨_, rfl⟩
        refine v_iald hC m_40 e_42 (vp_in_iff.mpr (by first | omega | (simp only [Int32.lt_iff_toInt_lt, Int32.le_iff_toInt_le, Int32.reduceToInt, ← Int32.toInt_inj]; omega))) h_45 dX6_runsAt_39 ?_
        refine v_vi hC (rest := [.int v_38]) m_3 e_15 rfl mi_X6_isRun ms_X6_isRun (p_X6_isRun hW k_0) mx_X6_isRun ml_X6_86 (by decide) rfl (cells1 := 0) (slots1 := 0) (by decide) (by decide) (Nat.le_of_ble_eq_true rfl) (Nat.le_of_ble_eq_true rfl) rfl (Nat.le_of_ble_eq_true rfl) dX6_runsAt_40 (fun r_46 L_47 f_48 h_49 => ?_)
        obtain ⟨rfl, rfl, b_50⟩ := h_49
        refine v_if_eq hC dX6_runsAt_43 (tgt := 50) (by decide) (fun h_53 => ?_) (fun h_53 => ?_)
        · simp only [Int32.lt_iff_toInt_lt, Int32.le_iff_toInt_le, Int32.reduceToInt, ← Int32.toInt_inj] at h_53
          refine v_iconst hC dX6_runsAt_50 (v := 0) (by decide) ?_
          obtain ⟨v_54, h_55⟩ : ∃ v9 : Int32, v_38 + 0 = v9 := ⟨_, rfl⟩
          refine v_iadd hC dX6_runsAt_51 h_55 ?_
          have h_56 := add_v h_55 (by first | omega | (simp only [Int32.lt_iff_toInt_lt, Int32.le_iff_toInt_le, Int32.reduceToInt, ← Int32.toInt_inj]; omega)) (by first | omega | (simp only [Int32.lt_iff_toInt_lt, Int32.le_iff_toInt_le, Int32.reduceToInt, ← Int32.toInt_inj]; omega))
          try simp only [Int32.reduceToInt] at h_56
          exact hR _ _ _ _ _ _ _ dX6_runsAt_52 rfl (Nat.le_of_ble_eq_true rfl) (Nat.le_of_ble_eq_true rfl) ⟨rfl, rfl, (by first | omega | (simp only [Int32.lt_iff_toInt_lt, Int32.le_iff_toInt_le, Int32.reduceToInt, ← Int32.toInt_inj]; omega)), (.inr (by first | omega | (simp only [Int32.lt_iff_toInt_lt, Int32.le_iff_toInt_le, Int32.reduceToInt, ← Int32.toInt_inj]; omega)))⟩
        · simp only [Int32.lt_iff_toInt_lt, Int32.le_iff_toInt_le, Int32.reduceToInt, ← Int32.toInt_inj] at h_53
          refine v_iconst hC dX6_runsAt_46 (v := 1) (by decide) ?_
          refine v_goto hC dX6_runsAt_47 (tgt := 51) (by decide) ?_
          obtain ⟨v_57, h_58⟩ : ∃ v9 : Int32, v_38 + 1 = v9 := ⟨_, rfl⟩
          refine v_iadd hC dX6_runsAt_51 h_58 ?_
          have h_59 := add_v h_58 (by first | omega | (simp only [Int32.lt_iff_toInt_lt, Int32.le_iff_toInt_le, Int32.reduceToInt, ← Int32.toInt_inj]; omega)) (by first | omega | (simp only [Int32.lt_iff_toInt_lt, Int32.le_iff_toInt_le, Int32.reduceToInt, ← Int32.toInt_inj]; omega))
          try simp only [Int32.reduceToInt] at h_59
          exact hR _ _ _ _ _ _ _ dX6_runsAt_52 rfl (Nat.le_of_ble_eq_true rfl) (Nat.le_of_ble_eq_true rfl) ⟨rfl, rfl, (by first | omega | (simp only [Int32.lt_iff_toInt_lt, Int32.le_iff_toInt_le, Int32.reduceToInt, ← Int32.toInt_inj]; omega)), (.inr (by first | omega | (simp only [Int32.lt_iff_toInt_lt, Int32.le_iff_toInt_le, Int32.reduceToInt, ← Int32.toInt_inj]; omega)))⟩
      refine v_if_eq hC dX6_runsAt_24 (tgt := 31) (by decide) (fun h_36 => ?_) (fun h_36 => ?_)
      · simp only [Int32.lt_iff_toInt_lt, Int32.le_iff_toInt_le, Int32.reduceToInt, ← Int32.toInt_inj] at h_36
        refine v_iconst hC dX6_runsAt_31 (v := 0) (by decide) ?_
        refine v_pick [0, 1] rfl ?_
        exact jn_37 0 (by decide)
      · simp only [Int32.lt_iff_toInt_lt, Int32.le_iff_toInt_le, Int32.reduceToInt, ← Int32.toInt_inj] at h_36
        refine v_iconst hC dX6_runsAt_27 (v := 1) (by decide) ?_
        refine v_goto hC dX6_runsAt_28 (tgt := 32) (by decide) ?_
        refine v_pick [0, 1] rfl ?_
        exact jn_37 1 (by decide)
    · simp only [Int32.lt_iff_toInt_lt, Int32.le_iff_toInt_le, Int32.reduceToInt, ← Int32.toInt_inj] at h_2
      refine v_iconst hC dX6_runsAt_11 (v := 0) (by decide) ?_
      exact hR _ _ _ _ _ _ _ dX6_runsAt_12 rfl (Nat.le_of_ble_eq_true rfl) (Nat.le_of_ble_eq_true rfl) ⟨rfl, rfl, (by decide), (.inl (by decide))⟩
set_option maxRecDepth 100000 in
set_option maxHeartbeats 4000000 in
theorem p_X6_change {l : Launch} {E : Ez} {L : List Nat} {f : Nat → va_E} {T : Nat → va_E → Prop} {a_0 : Nat} {a_1 : Int32} {a_2 : Int32} (hW : WT T L f) (k_0 : isTal T L E a_0) : CV l yX6_change cX6_change 3 3 0 0 E [.ref a_0, .int a_1, .int a_2] L f (fun L1 f1 => L = L1 ∧ WT T L f1 ∧ FR [6, 105, 116, 356] f f1) := by
  refine cv_of (by decide) (Nat.le_of_ble_eq_true rfl) (fun z hz hnm hC hR => ?_)
  have hC : Cx z E cX6_change RX6 3 3 0 0 := hC
  subst hz
  show V z E 3 0 0 L f 0 [(0, .ref a_0), (1, .int a_1), (2, .int a_2)] []
  refine v_iload_n hC dX6_change_0 rfl ?_
  refine v_if_lt hC dX6_change_1 (tgt := 11) (by decide) (fun h_1 => ?_) (fun h_1 => ?_)
  · simp only [Int32.lt_iff_toInt_lt, Int32.le_iff_toInt_le, Int32.reduceToInt, ← Int32.toInt_inj] at h_1
    exact hR _ _ _ _ _ _ dX6_change_11 (Nat.le_of_ble_eq_true rfl) (Nat.le_of_ble_eq_true rfl) ⟨rfl, hW, FR.rf⟩
  · simp only [Int32.lt_iff_toInt_lt, Int32.le_iff_toInt_le, Int32.reduceToInt, ← Int32.toInt_inj] at h_1
    refine v_iload_n hC dX6_change_4 rfl ?_
    refine v_sipush hC dX6_change_5 (v := 256) (by decide) ?_
    refine v_icmp_lt hC dX6_change_8 (tgt := 12) (by decide) (fun h_2 => ?_) (fun h_2 => ?_)
    · simp only [Int32.lt_iff_toInt_lt, Int32.le_iff_toInt_le, Int32.reduceToInt, ← Int32.toInt_inj] at h_2
      refine v_aload_n hC dX6_change_12 rfl ?_
      refine v_iload_n hC dX6_change_13 rfl ?_
      refine v_iconst hC dX6_change_14 (v := (-1)) (by decide) ?_
      obtain ⟨m_3, q_5, q_6, q_7, q_8, q_9, t_4, k_10, k_11, k_12, k_13, k_14⟩ := id k_0
      obtain ⟨v_16, v_17, v_19, v_21, v_22, e_15, b_18, b_20⟩ := hW.at m_3 t_4
      refine v_vv hC (rest := []) m_3 e_15 rfl mi_X6_addStitch ms_X6_addStitch (p_X6_addStitch hW k_0) mx_X6_addStitch ml_X6_76 (by decide) rfl (cells1 := 0) (slots1 := 0) (by decide) (by decide) (Nat.le_of_ble_eq_true rfl) (Nat.le_of_ble_eq_true rfl) rfl (Nat.le_of_ble_eq_true rfl) dX6_change_15 (fun L_24 f_25 h_26 => ?_)
      obtain ⟨rfl, hW_27, hF_28⟩ := h_26
      have hf_29 := hF_28.at e_15 rfl
      refine v_aload_n hC dX6_change_18 rfl ?_
      refine v_dup hC dX6_change_19 rfl ?_
      refine v_get hC fl_X6_69 m_3 hf_29 rfl dX6_change_20 ?_
      refine v_aload_n hC dX6_change_23 rfl ?_
      refine v_iload_n hC dX6_change_24 rfl ?_
      refine v_vi hC (rest := [.int v_22, .ref a_0]) m_3 hf_29 rfl mi_X6_runsAt ms_X6_runsAt (p_X6_runsAt hW_27 k_0) mx_X6_runsAt ml_X6_93 (by decide) rfl (cells1 := 0) (slots1 := 0) (by decide) (by decide) (Nat.le_of_ble_eq_true rfl) (Nat.le_of_ble_eq_true rfl) rfl (Nat.le_of_ble_eq_true rfl) dX6_change_25 (fun r_30 L_31 f_32 h_33 => ?_)
      obtain ⟨rfl, rfl, b_34, h_35⟩ := h_33
      obtain ⟨v_38, h_39⟩ : ∃ v9 : Int32, v_22 - r_30 = v9 := ⟨_, rfl⟩
      refine v_isub hC dX6_change_28 h_39 ?_
      refine v_put hC fl_X6_69 m_3 hf_29 rfl rfl (Nat.le_of_ble_eq_true rfl) (fs' := [.ref q_5, .ref q_6, .ref q_7, .ref q_8, .ref q_9, .int v_16, .int v_17, .int v_19, .int v_21, .int v_38]) rfl dX6_change_29 (fun f_41 hf_42 hk_43 => ?_)
      have hW_44 := hW_27.up hf_42 hk_43 t_4 ⟨v_16, v_17, v_19, v_21, v_38, rfl, (by first | omega | (simp only [Int32.lt_iff_toInt_lt, Int32.le_iff_toInt_le, Int32.reduceToInt, ← Int32.toInt_inj]; omega)), (by first | omega | (simp only [Int32.lt_iff_toInt_lt, Int32.le_iff_toInt_le, Int32.reduceToInt, ← Int32.toInt_inj]; omega))⟩
      have fr_45 := FR.w hk_43 hf_29 (k := 6) rfl
      refine v_aload_n hC dX6_change_32 rfl ?_
      refine v_get hC fl_X6_12 m_3 hf_42 rfl dX6_change_33 ?_
      refine v_iload_n hC dX6_change_36 rfl ?_
      refine v_iload_n hC dX6_change_37 rfl ?_
      obtain ⟨m_46, q_48, t_47, k_49⟩ := id k_10
      obtain ⟨v_51, e_50, b_52⟩ := hW_44.at m_46 t_47
      refine v_vv hC (rest := []) m_46 e_50 rfl mi_X1_setStitch ms_X1_setStitch (p_X1_setStitch hW_44 k_10) mx_X1_setStitch ml_X6_96 (by decide) rfl (cells1 := 0) (slots1 := 0) (by decide) (by decide) (Nat.le_of_ble_eq_true rfl) (Nat.le_of_ble_eq_true rfl) rfl (Nat.le_of_ble_eq_true rfl) dX6_change_38 (fun L_54 f_55 h_56 => ?_)
      obtain ⟨rfl, hW_57, hF_58⟩ := h_56
      have hf_59 := hF_58.at hf_42 rfl
      have hf_60 := hF_58.at e_50 rfl
      refine v_aload_n hC dX6_change_41 rfl ?_
      refine v_dup hC dX6_change_42 rfl ?_
      refine v_get hC fl_X6_69 m_3 hf_59 rfl dX6_change_43 ?_
      refine v_aload_n hC dX6_change_46 rfl ?_
      refine v_iload_n hC dX6_change_47 rfl ?_
      refine v_vi hC (rest := [.int v_38, .ref a_0]) m_3 hf_59 rfl mi_X6_runsAt ms_X6_runsAt (p_X6_runsAt hW_57 k_0) mx_X6_runsAt ml_X6_93 (by decide) rfl (cells1 := 0) (slots1 := 0) (by decide) (by decide) (Nat.le_of_ble_eq_true rfl) (Nat.le_of_ble_eq_true rfl) rfl (Nat.le_of_ble_eq_true rfl) dX6_change_48 (fun r_61 L_62 f_63 h_64 => ?_)
      obtain ⟨rfl, rfl, b_65, h_66⟩ := h_64
      obtain ⟨v_69, h_70⟩ : ∃ v9 : Int32, v_38 + r_61 = v9 := ⟨_, rfl⟩
      refine v_iadd hC dX6_change_51 h_70 ?_
      refine v_put hC fl_X6_69 m_3 hf_59 rfl rfl (Nat.le_of_ble_eq_true rfl) (fs' := [.ref q_5, .ref q_6, .ref q_7, .ref q_8, .ref q_9, .int v_16, .int v_17, .int v_19, .int v_21, .int v_69]) rfl dX6_change_52 (fun f_72 hf_73 hk_74 => ?_)
      have hW_75 := hW_57.up hf_73 hk_74 t_4 ⟨v_16, v_17, v_19, v_21, v_69, rfl, (by first | omega | (simp only [Int32.lt_iff_toInt_lt, Int32.le_iff_toInt_le, Int32.reduceToInt, ← Int32.toInt_inj]; omega)), (by first | omega | (simp only [Int32.lt_iff_toInt_lt, Int32.le_iff_toInt_le, Int32.reduceToInt, ← Int32.toInt_inj]; omega))⟩
      have hf_76 := (hk_74 q_5 (ne_kd hf_60 hf_59 rfl)).trans hf_60
      have fr_77 := FR.w hk_74 hf_59 (k := 6) rfl
      refine v_aload_n hC dX6_change_55 rfl ?_
      refine v_iload_n hC dX6_change_56 rfl ?_
      refine v_iconst hC dX6_change_57 (v := 1) (by decide) ?_
      refine v_vv hC (rest := []) m_3 hf_73 rfl mi_X6_addStitch ms_X6_addStitch (p_X6_addStitch hW_75 k_0) mx_X6_addStitch ml_X6_76 (by decide) rfl (cells1 := 0) (slots1 := 0) (by decide) (by decide) (Nat.le_of_ble_eq_true rfl) (Nat.le_of_ble_eq_true rfl) rfl (Nat.le_of_ble_eq_true rfl) dX6_change_58 (fun L_79 f_80 h_81 => ?_)
      obtain ⟨rfl, hW_82, hF_83⟩ := h_81
      have hf_84 := hF_83.at hf_76 rfl
      have hf_85 := hF_83.at hf_73 rfl
      exact hR _ _ _ _ _ _ dX6_change_61 (Nat.le_of_ble_eq_true rfl) (Nat.le_of_ble_eq_true rfl) ⟨rfl, hW_82, (((((hF_28.tr fr_45).tr hF_58).tr fr_77).tr hF_83).mono rfl)⟩
    · simp only [Int32.lt_iff_toInt_lt, Int32.le_iff_toInt_le, Int32.reduceToInt, ← Int32.toInt_inj] at h_2
      exact hR _ _ _ _ _ _ dX6_change_11 (Nat.le_of_ble_eq_true rfl) (Nat.le_of_ble_eq_true rfl) ⟨rfl, hW, FR.rf⟩
set_option maxRecDepth 100000 in
set_option maxHeartbeats 4000000 in
theorem p_X5_isThere {l : Launch} {E : Ez} {L : List Nat} {f : Nat → va_E} {T : Nat → va_E → Prop} {a_0 : Nat} (hW : WT T L f) (k_0 : isSlot T L E a_0) : CI l yX5_isThere cX5_isThere 1 .boolean 0 0 0 E [.ref a_0] L f (fun r L1 f1 => L = L1 ∧ f = f1 ∧ (0 ≤ r.toInt ∧ r.toInt ≤ 1)) := by
  refine ci_of (by decide) (Nat.le_of_ble_eq_true rfl) (fun z hz hnm hC hR => ?_)
  have hC : Cx z E cX5_isThere RX5 1 0 0 0 := hC
  subst hz
  show V z E 1 0 0 L f 0 [(0, .ref a_0)] []
  refine v_aload_n hC dX5_isThere_0 rfl ?_
  obtain ⟨m_1, q_3, t_2, k_4⟩ := id k_0
  obtain ⟨v_6, v_8, e_5, b_7, b_9⟩ := hW.at m_1 t_2
  refine v_get hC fl_X5_15 m_1 e_5 rfl dX5_isThere_1 ?_
  refine v_iconst hC dX5_isThere_4 (v := (-1)) (by decide) ?_
  refine v_icmp_eq hC dX5_isThere_5 (tgt := 12) (by decide) (fun h_10 => ?_) (fun h_10 => ?_)
  · simp only [Int32.lt_iff_toInt_lt, Int32.le_iff_toInt_le, Int32.reduceToInt, ← Int32.toInt_inj] at h_10
    refine v_iconst hC dX5_isThere_12 (v := 0) (by decide) ?_
    exact hR _ _ _ _ _ _ _ dX5_isThere_13 rfl (Nat.le_of_ble_eq_true rfl) (Nat.le_of_ble_eq_true rfl) ⟨rfl, rfl, (by decide)⟩
  · simp only [Int32.lt_iff_toInt_lt, Int32.le_iff_toInt_le, Int32.reduceToInt, ← Int32.toInt_inj] at h_10
    refine v_iconst hC dX5_isThere_8 (v := 1) (by decide) ?_
    refine v_goto hC dX5_isThere_9 (tgt := 13) (by decide) ?_
    exact hR _ _ _ _ _ _ _ dX5_isThere_13 rfl (Nat.le_of_ble_eq_true rfl) (Nat.le_of_ble_eq_true rfl) ⟨rfl, rfl, (by decide)⟩
set_option maxRecDepth 100000 in
set_option maxHeartbeats 4000000 in
theorem p_J7_fill_d0a16 {l : Launch} {E : Ez} {L : List Nat} {f : Nat → va_E} {T : Nat → va_E → Prop} {a_0 : Nat} {a_1 : Int64} (hW : WT T L f) (k_0 : isJ T L E 60 a_0) : CV l yJ7_fill_d0a16 cJ7_fill_d0a16 5 0 0 0 E [.ref a_0, .long a_1] L f (fun L1 f1 => L = L1 ∧ WT T L f1 ∧ FR [160] f f1) := by
  refine cv_of (by decide) (Nat.le_of_ble_eq_true rfl) (fun z hz hnm hC hR => ?_)
  have hC : Cx z E cJ7_fill_d0a16 RJ7 5 0 0 0 := hC
  subst hz
  show V z E 5 0 0 L f 0 [(0, .ref a_0), (1, .long a_1)] []
  refine v_iconst hC dJ7_fill_d0a16_0 (v := 0) (by decide) ?_
  refine v_istore_n hC dJ7_fill_d0a16_1 (by decide) (lv' := [(3, .int 0), (0, .ref a_0), (1, .long a_1)]) rfl ?_
  refine v_aload_n hC dJ7_fill_d0a16_2 rfl ?_
  obtain ⟨m_1, t_2⟩ := id k_0
  obtain ⟨g_4, e_3⟩ := hW.at m_1 t_2
  refine v_alen hC m_1 e_3 (t := 2) rfl (v := 60) rfl dJ7_fill_d0a16_3 ?_
  refine v_istore hC dJ7_fill_d0a16_4 (by decide) (lv' := [(4, .int 60), (3, .int 0), (0, .ref a_0), (1, .long a_1)]) rfl ?_
  have lp_75 : ∀ (n_76 : Nat) (f_71 : Nat → va_E) (hW_72 : WT T L f_71) (hF_73 : FR [160] f f_71) (i_70 : Int32) (b_74 : (0 ≤ i_70.toInt ∧ i_70.toInt ≤ 60)) (hm_78 : 60 - i_70.toInt < (n_76 : Int)), V z E 5 0 0 L f_71 6 [(4, .int 60), (3, .int i_70), (0, .ref a_0), (1, .long a_1)] [] := by
    intro n_76
    induction n_76 with
    | zero =>
      intro f_71 hW_72 hF_73 i_70 b_74 hm_78
      exfalso; omega
    | succ n_76 ih_77 =>
      intro f_71 hW_72 hF_73 i_70 b_74 hm_78
      refine v_iload_n hC dJ7_fill_d0a16_6 rfl ?_
      refine v_iload hC dJ7_fill_d0a16_7 rfl ?_
      refine v_icmp_ge hC dJ7_fill_d0a16_9 (tgt := 22) (by decide) (fun h_79 => ?_) (fun h_79 => ?_)
      · simp only [Int32.lt_iff_toInt_lt, Int32.le_iff_toInt_le, Int32.reduceToInt, ← Int32.toInt_inj] at h_79
        exact hR _ _ _ _ _ _ dJ7_fill_d0a16_22 (Nat.le_of_ble_eq_true rfl) (Nat.le_of_ble_eq_true rfl) ⟨rfl, hW_72, (hF_73.mono rfl)⟩
      · simp only [Int32.lt_iff_toInt_lt, Int32.le_iff_toInt_le, Int32.reduceToInt, ← Int32.toInt_inj] at h_79
        refine v_aload_n hC dJ7_fill_d0a16_12 rfl ?_
        refine v_iload_n hC dJ7_fill_d0a16_13 rfl ?_
        refine v_lload_n hC dJ7_fill_d0a16_14 rfl ?_
        obtain ⟨g_81, e_80⟩ := hW_72.at m_1 t_2
        refine v_last hC m_1 e_80 (vp_in_iff.mpr (by first | omega | (simp only [Int32.lt_iff_toInt_lt, Int32.le_iff_toInt_le, Int32.reduceToInt, ← Int32.toInt_inj]; omega))) dJ7_fill_d0a16_15 (fun f_82 hf_83 hk_84 => ?_)
        have hW_86 := hW_72.up hf_83 hk_84 t_2 ⟨_, rfl⟩
        obtain ⟨g_85, hf_83⟩ : ∃ g9, f_82 a_0 = aJ E 60 g9 := ⟨_, hf_83⟩
        have fr_87 := FR.w hk_84 e_80 (k := 160) rfl
        obtain ⟨v_88, h_89⟩ : ∃ v9 : Int32, i_70 + Int32.ofInt 1 = v9 := ⟨_, rfl⟩
        have h_90 := add_v (b := 1) h_89 (by first | omega | (simp only [Int32.lt_iff_toInt_lt, Int32.le_iff_toInt_le, Int32.reduceToInt, ← Int32.toInt_inj]; omega)) (by first | omega | (simp only [Int32.lt_iff_toInt_lt, Int32.le_iff_toInt_le, Int32.reduceToInt, ← Int32.toInt_inj]; omega))
        simp only [Int32.reduceToInt] at h_90
        refine v_iinc hC dJ7_fill_d0a16_16 (k := 1) rfl (v := v_88) h_89 (by decide) (lv' := [(3, .int v_88), (4, .int 60), (0, .ref a_0), (1, .long a_1)]) rfl ?_
        refine v_goto hC dJ7_fill_d0a16_19 (tgt := 6) (by decide) ?_
        refine v_pick [1, 0, 2, 3] rfl ?_
        exact ih_77 f_82 hW_86 ((hF_73.tr fr_87).mono rfl) v_88 (by first | omega | (simp only [Int32.lt_iff_toInt_lt, Int32.le_iff_toInt_le, Int32.reduceToInt, ← Int32.toInt_inj]; omega)) (by first | omega | (simp only [Int32.lt_iff_toInt_lt, Int32.le_iff_toInt_le, Int32.reduceToInt, ← Int32.toInt_inj]; omega))
  refine v_pick [0, 1, 2, 3] rfl ?_
  exact lp_75 62 f hW FR.rf 0 (by decide) (by decide)
set_option maxRecDepth 100000 in
set_option maxHeartbeats 4000000 in
theorem p_X5_begin {l : Launch} {E : Ez} {L : List Nat} {f : Nat → va_E} {T : Nat → va_E → Prop} {a_0 : Nat} {a_1 : Int32} {a_2 : Int32} (hW : WT T L f) (k_0 : isSlot T L E a_0) (g_1 : (0 ≤ a_1.toInt ∧ a_1.toInt ≤ 3)) (g_2 : (0 ≤ a_2.toInt ∧ a_2.toInt ≤ 60)) : CV l yX5_begin cX5_begin 3 1 0 0 E [.ref a_0, .int a_1, .int a_2] L f (fun L1 f1 => L = L1 ∧ WT T L f1 ∧ FR [5, 160] f f1) := by
  refine cv_of (by decide) (Nat.le_of_ble_eq_true rfl) (fun z hz hnm hC hR => ?_)
  have hC : Cx z E cX5_begin RX5 3 1 0 0 := hC
  subst hz
  show V z E 3 0 0 L f 0 [(0, .ref a_0), (1, .int a_1), (2, .int a_2)] []
  refine v_aload_n hC dX5_begin_0 rfl ?_
  refine v_iload_n hC dX5_begin_1 rfl ?_
  obtain ⟨m_1, q_3, t_2, k_4⟩ := id k_0
  obtain ⟨v_6, v_8, e_5, b_7, b_9⟩ := hW.at m_1 t_2
  refine v_put hC fl_X5_15 m_1 e_5 rfl rfl (Nat.le_of_ble_eq_true rfl) (fs' := [.ref q_3, .int a_1, .int v_8]) rfl dX5_begin_2 (fun f_10 hf_11 hk_12 => ?_)
  have hW_13 := hW.up hf_11 hk_12 t_2 ⟨a_1, v_8, rfl, (by first | omega | (simp only [Int32.lt_iff_toInt_lt, Int32.le_iff_toInt_le, Int32.reduceToInt, ← Int32.toInt_inj]; omega)), (by first | omega | (simp only [Int32.lt_iff_toInt_lt, Int32.le_iff_toInt_le, Int32.reduceToInt, ← Int32.toInt_inj]; omega))⟩
  have fr_14 := FR.w hk_12 e_5 (k := 5) rfl
  refine v_aload_n hC dX5_begin_5 rfl ?_
  refine v_iload_n hC dX5_begin_6 rfl ?_
  refine v_put hC fl_X5_19 m_1 hf_11 rfl rfl (Nat.le_of_ble_eq_true rfl) (fs' := [.ref q_3, .int a_1, .int a_2]) rfl dX5_begin_7 (fun f_15 hf_16 hk_17 => ?_)
  have hW_18 := hW_13.up hf_16 hk_17 t_2 ⟨a_1, a_2, rfl, (by first | omega | (simp only [Int32.lt_iff_toInt_lt, Int32.le_iff_toInt_le, Int32.reduceToInt, ← Int32.toInt_inj]; omega)), (by first | omega | (simp only [Int32.lt_iff_toInt_lt, Int32.le_iff_toInt_le, Int32.reduceToInt, ← Int32.toInt_inj]; omega))⟩
  have fr_19 := FR.w hk_17 hf_11 (k := 5) rfl
  refine v_aload_n hC dX5_begin_10 rfl ?_
  refine v_get hC fl_X5_9 m_1 hf_16 rfl dX5_begin_11 ?_
  refine v_lconst hC dX5_begin_14 (v := 0) (by decide) ?_
  refine v_sv hC (rest := []) mt_J7_fill_d0a16 (p_J7_fill_d0a16 hW_18 k_4) mx_J7_fill_d0a16 ml_X5_22 (by decide) rfl (cells1 := 0) (slots1 := 0) (by decide) (by decide) (Nat.le_of_ble_eq_true rfl) (Nat.le_of_ble_eq_true rfl) rfl (Nat.le_of_ble_eq_true rfl) dX5_begin_15 (fun L_21 f_22 h_23 => ?_)
  obtain ⟨rfl, hW_24, hF_25⟩ := h_23
  have hf_26 := hF_25.at hf_16 rfl
  exact hR _ _ _ _ _ _ dX5_begin_18 (Nat.le_of_ble_eq_true rfl) (Nat.le_of_ble_eq_true rfl) ⟨rfl, hW_24, (((fr_14.tr fr_19).tr hF_25).mono rfl)⟩
set_option maxRecDepth 100000 in
set_option maxHeartbeats 4000000 in
theorem p_X5_has {l : Launch} {E : Ez} {L : List Nat} {f : Nat → va_E} {T : Nat → va_E → Prop} {a_0 : Nat} {a_1 : Int32} {a_2 : Int32} (hW : WT T L f) (k_0 : isSlot T L E a_0) : CI l yX5_has cX5_has 3 .boolean 0 0 0 E [.ref a_0, .int a_1, .int a_2] L f (fun r L1 f1 => L = L1 ∧ f = f1 ∧ (0 ≤ r.toInt ∧ r.toInt ≤ 1) ∧ (r.toInt = 0 ∨ (0 ≤ a_1.toInt ∧ a_1.toInt ≤ 60)) ∧ (r.toInt = 0 ∨ (0 ≤ a_2.toInt ∧ a_2.toInt ≤ 60)) ∧ (r.toInt = 0 ∨ (0 ≤ a_1.toInt ∧ 0 ≤ a_2.toInt ∧ a_1.toInt + a_2.toInt ≤ 60))) := by
  refine ci_of (by decide) (Nat.le_of_ble_eq_true rfl) (fun z hz hnm hC hR => ?_)
  have hC : Cx z E cX5_has RX5 3 0 0 0 := hC
  subst hz
  show V z E 3 0 0 L f 0 [(0, .ref a_0), (1, .int a_1), (2, .int a_2)] []
  refine v_iload_n hC dX5_has_0 rfl ?_
  refine v_if_lt hC dX5_has_1 (tgt := 30) (by decide) (fun h_1 => ?_) (fun h_1 => ?_)
  · simp only [Int32.lt_iff_toInt_lt, Int32.le_iff_toInt_le, Int32.reduceToInt, ← Int32.toInt_inj] at h_1
    refine v_iconst hC dX5_has_30 (v := 0) (by decide) ?_
    exact hR _ _ _ _ _ _ _ dX5_has_31 rfl (Nat.le_of_ble_eq_true rfl) (Nat.le_of_ble_eq_true rfl) ⟨rfl, rfl, (by decide), (.inl (by decide)), (.inl (by decide)), (.inl (by decide))⟩
  · simp only [Int32.lt_iff_toInt_lt, Int32.le_iff_toInt_le, Int32.reduceToInt, ← Int32.toInt_inj] at h_1
    refine v_iload_n hC dX5_has_4 rfl ?_
    refine v_if_lt hC dX5_has_5 (tgt := 30) (by decide) (fun h_2 => ?_) (fun h_2 => ?_)
    · simp only [Int32.lt_iff_toInt_lt, Int32.le_iff_toInt_le, Int32.reduceToInt, ← Int32.toInt_inj] at h_2
      refine v_iconst hC dX5_has_30 (v := 0) (by decide) ?_
      exact hR _ _ _ _ _ _ _ dX5_has_31 rfl (Nat.le_of_ble_eq_true rfl) (Nat.le_of_ble_eq_true rfl) ⟨rfl, rfl, (by decide), (.inl (by decide)), (.inl (by decide)), (.inl (by decide))⟩
    · simp only [Int32.lt_iff_toInt_lt, Int32.le_iff_toInt_le, Int32.reduceToInt, ← Int32.toInt_inj] at h_2
      refine v_iload_n hC dX5_has_8 rfl ?_
      refine v_aload_n hC dX5_has_9 rfl ?_
      obtain ⟨m_3, q_5, t_4, k_6⟩ := id k_0
      obtain ⟨v_8, v_10, e_7, b_9, b_11⟩ := hW.at m_3 t_4
      refine v_get hC fl_X5_19 m_3 e_7 rfl dX5_has_10 ?_
      refine v_icmp_gt hC dX5_has_13 (tgt := 30) (by decide) (fun h_12 => ?_) (fun h_12 => ?_)
      · simp only [Int32.lt_iff_toInt_lt, Int32.le_iff_toInt_le, Int32.reduceToInt, ← Int32.toInt_inj] at h_12
        refine v_iconst hC dX5_has_30 (v := 0) (by decide) ?_
        exact hR _ _ _ _ _ _ _ dX5_has_31 rfl (Nat.le_of_ble_eq_true rfl) (Nat.le_of_ble_eq_true rfl) ⟨rfl, rfl, (by decide), (.inl (by decide)), (.inl (by decide)), (.inl (by decide))⟩
      · simp only [Int32.lt_iff_toInt_lt, Int32.le_iff_toInt_le, Int32.reduceToInt, ← Int32.toInt_inj] at h_12
        refine v_iload_n hC dX5_has_16 rfl ?_
        refine v_aload_n hC dX5_has_17 rfl ?_
        refine v_get hC fl_X5_19 m_3 e_7 rfl dX5_has_18 ?_
        refine v_iload_n hC dX5_has_21 rfl ?_
        obtain ⟨v_13, h_14⟩ : ∃ v9 : Int32, v_10 - a_1 = v9 := ⟨_, rfl⟩
        refine v_isub hC dX5_has_22 h_14 ?_
        have h_15 := sub_v h_14 (by first | omega | (simp only [Int32.lt_iff_toInt_lt, Int32.le_iff_toInt_le, Int32.reduceToInt, ← Int32.toInt_inj]; omega)) (by first | omega | (simp only [Int32.lt_iff_toInt_lt, Int32.le_iff_toInt_le, Int32.reduceToInt, ← Int32.toInt_inj]; omega))
        refine v_icmp_gt hC dX5_has_23 (tgt := 30) (by decide) (fun h_16 => ?_) (fun h_16 => ?_)
        · simp only [Int32.lt_iff_toInt_lt, Int32.le_iff_toInt_le, Int32.reduceToInt, ← Int32.toInt_inj] at h_16
          refine v_iconst hC dX5_has_30 (v := 0) (by decide) ?_
          exact hR _ _ _ _ _ _ _ dX5_has_31 rfl (Nat.le_of_ble_eq_true rfl) (Nat.le_of_ble_eq_true rfl) ⟨rfl, rfl, (by decide), (.inl (by decide)), (.inl (by decide)), (.inl (by decide))⟩
        · simp only [Int32.lt_iff_toInt_lt, Int32.le_iff_toInt_le, Int32.reduceToInt, ← Int32.toInt_inj] at h_16
          refine v_iconst hC dX5_has_26 (v := 1) (by decide) ?_
          refine v_goto hC dX5_has_27 (tgt := 31) (by decide) ?_
          exact hR _ _ _ _ _ _ _ dX5_has_31 rfl (Nat.le_of_ble_eq_true rfl) (Nat.le_of_ble_eq_true rfl) ⟨rfl, rfl, (by decide), (.inr (by first | omega | (simp only [Int32.lt_iff_toInt_lt, Int32.le_iff_toInt_le, Int32.reduceToInt, ← Int32.toInt_inj]; omega))), (.inr (by first | omega | (simp only [Int32.lt_iff_toInt_lt, Int32.le_iff_toInt_le, Int32.reduceToInt, ← Int32.toInt_inj]; omega))), (by first | omega | (simp only [Int32.lt_iff_toInt_lt, Int32.le_iff_toInt_le, Int32.reduceToInt, ← Int32.toInt_inj]; omega))⟩
