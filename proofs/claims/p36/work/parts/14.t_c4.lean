set_option maxRecDepth 100000 in
set_option maxHeartbeats 4000000 in
theorem p_X5_cutToWidth {l : Launch} {E : Ez} {L : List Nat} {f : Nat → va_E} {T : Nat → va_E → Prop} {a_0 : Nat} {a_1 : Int64} (hW : WT T L f) (k_0 : isSlot T L E a_0) : CJ l yX5_cutToWidth cX5_cutToWidth 3 0 0 0 E [.ref a_0, .long a_1] L f (fun r L1 f1 => L = L1 ∧ f = f1) := by
  refine cj_of (by decide) (Nat.le_of_ble_eq_true rfl) (fun z hz hnm hC hR => ?_)
  have hC : Cx z E cX5_cutToWidth RX5 3 0 0 0 := hC
  subst hz
  show V z E 3 0 0 L f 0 [(0, .ref a_0), (1, .long a_1)] []
  refine v_aload_n hC dX5_cutToWidth_0 rfl ?_
  obtain ⟨m_1, q_3, t_2, k_4⟩ := id k_0
  obtain ⟨v_6, v_8, e_5, b_7, b_9⟩ := hW.at m_1 t_2
  refine v_get hC fl_X5_15 m_1 e_5 rfl dX5_cutToWidth_1 ?_
  by_cases h_10 : v_6 = 0
  · refine v_tableIn hC dX5_cutToWidth_4 (off := 28) (tgt := 32) (by rw [h_10]; decide) (by rw [h_10]; decide) (by rw [h_10]; rfl) (by decide) ?_
    simp only [Int32.lt_iff_toInt_lt, Int32.le_iff_toInt_le, Int32.reduceToInt, ← Int32.toInt_inj] at h_10
    refine v_lload_n hC dX5_cutToWidth_32 rfl ?_
    obtain ⟨v_13, h_14⟩ : ∃ v9 : Int32, a_1.toInt32 = v9 := ⟨_, rfl⟩
    refine v_l2i hC dX5_cutToWidth_33 h_14 ?_
    obtain ⟨v_15, h_16⟩ : ∃ v9 : Int32, v_13.toInt8.toInt32 = v9 := ⟨_, rfl⟩
    refine v_i2b hC dX5_cutToWidth_34 h_16 ?_
    obtain ⟨v_17, h_18⟩ : ∃ v9 : Int64, v_15.toInt64 = v9 := ⟨_, rfl⟩
    refine v_i2l hC dX5_cutToWidth_35 h_18 ?_
    exact hR _ _ _ _ _ _ _ dX5_cutToWidth_36 (Nat.le_of_ble_eq_true rfl) (Nat.le_of_ble_eq_true rfl) ⟨rfl, rfl⟩
  by_cases h_11 : v_6 = 1
  · refine v_tableIn hC dX5_cutToWidth_4 (off := 33) (tgt := 37) (by rw [h_11]; decide) (by rw [h_11]; decide) (by rw [h_11]; rfl) (by decide) ?_
    simp only [Int32.lt_iff_toInt_lt, Int32.le_iff_toInt_le, Int32.reduceToInt, ← Int32.toInt_inj] at h_11
    refine v_lload_n hC dX5_cutToWidth_37 rfl ?_
    obtain ⟨v_19, h_20⟩ : ∃ v9 : Int32, a_1.toInt32 = v9 := ⟨_, rfl⟩
    refine v_l2i hC dX5_cutToWidth_38 h_20 ?_
    obtain ⟨v_21, h_22⟩ : ∃ v9 : Int32, v_19.toInt16.toInt32 = v9 := ⟨_, rfl⟩
    refine v_i2s hC dX5_cutToWidth_39 h_22 ?_
    obtain ⟨v_23, h_24⟩ : ∃ v9 : Int64, v_21.toInt64 = v9 := ⟨_, rfl⟩
    refine v_i2l hC dX5_cutToWidth_40 h_24 ?_
    exact hR _ _ _ _ _ _ _ dX5_cutToWidth_41 (Nat.le_of_ble_eq_true rfl) (Nat.le_of_ble_eq_true rfl) ⟨rfl, rfl⟩
  by_cases h_12 : v_6 = 2
  · refine v_tableIn hC dX5_cutToWidth_4 (off := 38) (tgt := 42) (by rw [h_12]; decide) (by rw [h_12]; decide) (by rw [h_12]; rfl) (by decide) ?_
    simp only [Int32.lt_iff_toInt_lt, Int32.le_iff_toInt_le, Int32.reduceToInt, ← Int32.toInt_inj] at h_12
    refine v_lload_n hC dX5_cutToWidth_42 rfl ?_
    obtain ⟨v_25, h_26⟩ : ∃ v9 : Int32, a_1.toInt32 = v9 := ⟨_, rfl⟩
    refine v_l2i hC dX5_cutToWidth_43 h_26 ?_
    obtain ⟨v_27, h_28⟩ : ∃ v9 : Int64, v_25.toInt64 = v9 := ⟨_, rfl⟩
    refine v_i2l hC dX5_cutToWidth_44 h_28 ?_
    exact hR _ _ _ _ _ _ _ dX5_cutToWidth_45 (Nat.le_of_ble_eq_true rfl) (Nat.le_of_ble_eq_true rfl) ⟨rfl, rfl⟩
  simp only [Int32.lt_iff_toInt_lt, Int32.le_iff_toInt_le, Int32.reduceToInt, ← Int32.toInt_inj] at h_10 h_11 h_12
  refine v_tableOut hC dX5_cutToWidth_4 (tgt := 46) (by omega) (by decide) ?_
  refine v_lload_n hC dX5_cutToWidth_46 rfl ?_
  exact hR _ _ _ _ _ _ _ dX5_cutToWidth_47 (Nat.le_of_ble_eq_true rfl) (Nat.le_of_ble_eq_true rfl) ⟨rfl, rfl⟩
set_option maxRecDepth 100000 in
set_option maxHeartbeats 4000000 in
theorem p_X5_set {l : Launch} {E : Ez} {L : List Nat} {f : Nat → va_E} {T : Nat → va_E → Prop} {a_0 : Nat} {a_1 : Int32} {a_2 : Int64} (hW : WT T L f) (k_0 : isSlot T L E a_0) : CV l yX5_set cX5_set 4 1 0 0 E [.ref a_0, .int a_1, .long a_2] L f (fun L1 f1 => L = L1 ∧ WT T L f1 ∧ FR [160] f f1) := by
  refine cv_of (by decide) (Nat.le_of_ble_eq_true rfl) (fun z hz hnm hC hR => ?_)
  have hC : Cx z E cX5_set RX5 4 1 0 0 := hC
  subst hz
  show V z E 4 0 0 L f 0 [(0, .ref a_0), (1, .int a_1), (2, .long a_2)] []
  refine v_iload_n hC dX5_set_0 rfl ?_
  refine v_if_lt hC dX5_set_1 (tgt := 21) (by decide) (fun h_1 => ?_) (fun h_1 => ?_)
  · simp only [Int32.lt_iff_toInt_lt, Int32.le_iff_toInt_le, Int32.reduceToInt, ← Int32.toInt_inj] at h_1
    exact hR _ _ _ _ _ _ dX5_set_21 (Nat.le_of_ble_eq_true rfl) (Nat.le_of_ble_eq_true rfl) ⟨rfl, hW, FR.rf⟩
  · simp only [Int32.lt_iff_toInt_lt, Int32.le_iff_toInt_le, Int32.reduceToInt, ← Int32.toInt_inj] at h_1
    refine v_iload_n hC dX5_set_4 rfl ?_
    refine v_bipush hC dX5_set_5 (v := 60) (by decide) ?_
    refine v_icmp_ge hC dX5_set_7 (tgt := 21) (by decide) (fun h_2 => ?_) (fun h_2 => ?_)
    · simp only [Int32.lt_iff_toInt_lt, Int32.le_iff_toInt_le, Int32.reduceToInt, ← Int32.toInt_inj] at h_2
      exact hR _ _ _ _ _ _ dX5_set_21 (Nat.le_of_ble_eq_true rfl) (Nat.le_of_ble_eq_true rfl) ⟨rfl, hW, FR.rf⟩
    · simp only [Int32.lt_iff_toInt_lt, Int32.le_iff_toInt_le, Int32.reduceToInt, ← Int32.toInt_inj] at h_2
      refine v_aload_n hC dX5_set_10 rfl ?_
      obtain ⟨m_3, q_5, t_4, k_6⟩ := id k_0
      obtain ⟨v_8, v_10, e_7, b_9, b_11⟩ := hW.at m_3 t_4
      refine v_get hC fl_X5_9 m_3 e_7 rfl dX5_set_11 ?_
      refine v_iload_n hC dX5_set_14 rfl ?_
      refine v_aload_n hC dX5_set_15 rfl ?_
      refine v_lload_n hC dX5_set_16 rfl ?_
      refine v_vj hC (rest := [.int a_1, .ref q_5]) m_3 e_7 rfl mi_X5_cutToWidth ms_X5_cutToWidth (p_X5_cutToWidth hW k_0) mx_X5_cutToWidth ml_X5_28 (by decide) rfl (cells1 := 0) (slots1 := 0) (by decide) (by decide) (Nat.le_of_ble_eq_true rfl) (Nat.le_of_ble_eq_true rfl) rfl (Nat.le_of_ble_eq_true rfl) dX5_set_17 (fun r_12 L_13 f_14 h_15 => ?_)
      obtain ⟨rfl, rfl⟩ := h_15
      obtain ⟨m_18, t_19⟩ := id k_6
      obtain ⟨g_21, e_20⟩ := hW.at m_18 t_19
      refine v_last hC m_18 e_20 (vp_in_iff.mpr (by first | omega | (simp only [Int32.lt_iff_toInt_lt, Int32.le_iff_toInt_le, Int32.reduceToInt, ← Int32.toInt_inj]; omega))) dX5_set_20 (fun f_22 hf_23 hk_24 => ?_)
      have hW_26 := hW.up hf_23 hk_24 t_19 ⟨_, rfl⟩
      obtain ⟨g_25, hf_23⟩ : ∃ g9, f_22 q_5 = aJ E 60 g9 := ⟨_, hf_23⟩
      have hf_27 := (hk_24 a_0 (ne_kd e_7 e_20 rfl)).trans e_7
      have fr_28 := FR.w hk_24 e_20 (k := 160) rfl
      exact hR _ _ _ _ _ _ dX5_set_21 (Nat.le_of_ble_eq_true rfl) (Nat.le_of_ble_eq_true rfl) ⟨rfl, hW_26, (fr_28.mono rfl)⟩
set_option maxRecDepth 100000 in
set_option maxHeartbeats 4000000 in
theorem p_X5_isZero {l : Launch} {E : Ez} {L : List Nat} {f : Nat → va_E} {T : Nat → va_E → Prop} {a_0 : Nat} {a_1 : Int32} (hW : WT T L f) (k_0 : isSlot T L E a_0) : CI l yX5_isZero cX5_isZero 2 .boolean 0 0 0 E [.ref a_0, .int a_1] L f (fun r L1 f1 => L = L1 ∧ f = f1 ∧ (0 ≤ r.toInt ∧ r.toInt ≤ 1) ∧ (¬ r.toInt = 0 ∨ (0 ≤ a_1.toInt ∧ a_1.toInt ≤ 59))) := by
  refine ci_of (by decide) (Nat.le_of_ble_eq_true rfl) (fun z hz hnm hC hR => ?_)
  have hC : Cx z E cX5_isZero RX5 2 0 0 0 := hC
  subst hz
  show V z E 2 0 0 L f 0 [(0, .ref a_0), (1, .int a_1)] []
  refine v_iload_n hC dX5_isZero_0 rfl ?_
  refine v_if_lt hC dX5_isZero_1 (tgt := 21) (by decide) (fun h_1 => ?_) (fun h_1 => ?_)
  · simp only [Int32.lt_iff_toInt_lt, Int32.le_iff_toInt_le, Int32.reduceToInt, ← Int32.toInt_inj] at h_1
    refine v_iconst hC dX5_isZero_21 (v := 1) (by decide) ?_
    refine v_goto hC dX5_isZero_22 (tgt := 26) (by decide) ?_
    exact hR _ _ _ _ _ _ _ dX5_isZero_26 rfl (Nat.le_of_ble_eq_true rfl) (Nat.le_of_ble_eq_true rfl) ⟨rfl, rfl, (by decide), (.inl (by decide))⟩
  · simp only [Int32.lt_iff_toInt_lt, Int32.le_iff_toInt_le, Int32.reduceToInt, ← Int32.toInt_inj] at h_1
    refine v_iload_n hC dX5_isZero_4 rfl ?_
    refine v_bipush hC dX5_isZero_5 (v := 60) (by decide) ?_
    refine v_icmp_ge hC dX5_isZero_7 (tgt := 21) (by decide) (fun h_2 => ?_) (fun h_2 => ?_)
    · simp only [Int32.lt_iff_toInt_lt, Int32.le_iff_toInt_le, Int32.reduceToInt, ← Int32.toInt_inj] at h_2
      refine v_iconst hC dX5_isZero_21 (v := 1) (by decide) ?_
      refine v_goto hC dX5_isZero_22 (tgt := 26) (by decide) ?_
      exact hR _ _ _ _ _ _ _ dX5_isZero_26 rfl (Nat.le_of_ble_eq_true rfl) (Nat.le_of_ble_eq_true rfl) ⟨rfl, rfl, (by decide), (.inl (by decide))⟩
    · simp only [Int32.lt_iff_toInt_lt, Int32.le_iff_toInt_le, Int32.reduceToInt, ← Int32.toInt_inj] at h_2
      refine v_aload_n hC dX5_isZero_10 rfl ?_
      obtain ⟨m_3, q_5, t_4, k_6⟩ := id k_0
      obtain ⟨v_8, v_10, e_7, b_9, b_11⟩ := hW.at m_3 t_4
      refine v_get hC fl_X5_9 m_3 e_7 rfl dX5_isZero_11 ?_
      refine v_iload_n hC dX5_isZero_14 rfl ?_
      obtain ⟨m_12, t_13⟩ := id k_6
      obtain ⟨g_15, e_14⟩ := hW.at m_12 t_13
      obtain ⟨v_16, h_17⟩ : ∃ v9 : Int64, g_15 (a_1 : Int32).toNatClampNeg = v9 := ⟨_, rfl⟩
      refine v_lald hC m_12 e_14 (vp_in_iff.mpr (by first | omega | (simp only [Int32.lt_iff_toInt_lt, Int32.le_iff_toInt_le, Int32.reduceToInt, ← Int32.toInt_inj]; omega))) h_17 dX5_isZero_15 ?_
      refine v_lconst hC dX5_isZero_16 (v := 0) (by decide) ?_
      obtain ⟨v_18, h_19⟩ : ∃ v9 : Int32, lg_cmp v_16 0 = v9 := ⟨_, rfl⟩
      refine v_lcmp hC dX5_isZero_17 h_19 ?_
      refine v_if_ne hC dX5_isZero_18 (tgt := 25) (by decide) (fun h_20 => ?_) (fun h_20 => ?_)
      · have h_21 := h_20
        refine v_iconst hC dX5_isZero_25 (v := 0) (by decide) ?_
        exact hR _ _ _ _ _ _ _ dX5_isZero_26 rfl (Nat.le_of_ble_eq_true rfl) (Nat.le_of_ble_eq_true rfl) ⟨rfl, rfl, (by decide), (.inr (by first | omega | (simp only [Int32.lt_iff_toInt_lt, Int32.le_iff_toInt_le, Int32.reduceToInt, ← Int32.toInt_inj]; omega)))⟩
      · have h_22 := h_20
        refine v_iconst hC dX5_isZero_21 (v := 1) (by decide) ?_
        refine v_goto hC dX5_isZero_22 (tgt := 26) (by decide) ?_
        exact hR _ _ _ _ _ _ _ dX5_isZero_26 rfl (Nat.le_of_ble_eq_true rfl) (Nat.le_of_ble_eq_true rfl) ⟨rfl, rfl, (by decide), (.inl (by decide))⟩
set_option maxRecDepth 100000 in
set_option maxHeartbeats 4000000 in
theorem p_X0_takeFrom {l : Launch} {E : Ez} {L : List Nat} {f : Nat → va_E} {T : Nat → va_E → Prop} {a_0 : Nat} {a_1 : Nat} (hW : WT T L f) (k_0 : isBas T L E a_0) (k_1 : isBas T L E a_1) : CV l yX0_takeFrom cX0_takeFrom 3 2 0 0 E [.ref a_0, .ref a_1] L f (fun L1 f1 => L = L1 ∧ WT T L f1 ∧ FR [1, 3, 4, 9, 10, 103, 112, 356, 400] f f1) := by
  refine cv_of (by decide) (Nat.le_of_ble_eq_true rfl) (fun z hz hnm hC hR => ?_)
  have hC : Cx z E cX0_takeFrom RX0 3 2 0 0 := hC
  subst hz
  show V z E 3 0 0 L f 0 [(0, .ref a_0), (1, .ref a_1)] []
  refine v_aload_n hC dX0_takeFrom_0 rfl ?_
  obtain ⟨m_1, q_3, q_4, q_5, q_6, q_7, q_8, t_2, k_9, k_10, k_11, k_12, k_13, k_14⟩ := id k_0
  have e_15 : f a_0 = ob 0 [.ref q_3, .ref q_4, .ref q_5, .ref q_6, .ref q_7, .ref q_8] := hW.at m_1 t_2
  refine v_get hC fl_X0_12 m_1 e_15 rfl dX0_takeFrom_1 ?_
  refine v_aload_n hC dX0_takeFrom_4 rfl ?_
  obtain ⟨m_16, q_18, q_19, q_20, q_21, q_22, q_23, t_17, k_24, k_25, k_26, k_27, k_28, k_29⟩ := id k_1
  have e_30 : f a_1 = ob 0 [.ref q_18, .ref q_19, .ref q_20, .ref q_21, .ref q_22, .ref q_23] := hW.at m_16 t_17
  refine v_get hC fl_X0_12 m_16 e_30 rfl dX0_takeFrom_5 ?_
  obtain ⟨m_31, q_33, q_34, t_32, k_35, k_36⟩ := id k_9
  obtain ⟨v_38, v_40, v_42, e_37, b_39, b_41, b_43⟩ := hW.at m_31 t_32
  refine v_vv hC (rest := []) m_31 e_37 rfl mi_X4_takeFrom ms_X4_takeFrom (p_X4_takeFrom hW k_9 k_24) mx_X4_takeFrom ml_X0_50 (by decide) rfl (cells1 := 0) (slots1 := 0) (by decide) (by decide) (Nat.le_of_ble_eq_true rfl) (Nat.le_of_ble_eq_true rfl) rfl (Nat.le_of_ble_eq_true rfl) dX0_takeFrom_8 (fun L_45 f_46 h_47 => ?_)
  obtain ⟨rfl, hW_48, hF_49⟩ := h_47
  have hf_50 := hF_49.at e_15 rfl
  have hf_51 := hF_49.at e_30 rfl
  refine v_aload_n hC dX0_takeFrom_11 rfl ?_
  refine v_get hC fl_X0_18 m_16 hf_51 rfl dX0_takeFrom_12 ?_
  refine v_iconst hC dX0_takeFrom_15 (v := 0) (by decide) ?_
  refine v_aload_n hC dX0_takeFrom_16 rfl ?_
  refine v_get hC fl_X0_18 m_1 hf_50 rfl dX0_takeFrom_17 ?_
  refine v_iconst hC dX0_takeFrom_20 (v := 0) (by decide) ?_
  refine v_iconst hC dX0_takeFrom_21 (v := 3) (by decide) ?_
  obtain ⟨m_52, t_53⟩ := id k_25
  obtain ⟨g_55, e_54⟩ := hW_48.at m_52 t_53
  obtain ⟨m_56, t_57⟩ := id k_10
  obtain ⟨g_59, e_58⟩ := hW_48.at m_56 t_57
  refine v_copyi hC mo_X0_54 cp_n_ cp_s_ cp_i_ m_52 e_54 m_56 e_58 (by decide) (by decide) (by decide) (by decide) (by decide) (by decide) (Nat.le_of_ble_eq_true rfl) dX0_takeFrom_22 (fun f_60 hf_61 hk_62 => ?_)
  have hW_63 := hW_48.up hf_61 hk_62 t_57 ⟨_, rfl⟩
  obtain ⟨g_64, hf_61⟩ : ∃ g9, f_60 q_4 = aI E 3 g9 := ⟨_, hf_61⟩
  have hf_65 := (hk_62 a_0 (ne_kd hf_50 e_58 rfl)).trans hf_50
  have hf_66 := (hk_62 a_1 (ne_kd hf_51 e_58 rfl)).trans hf_51
  have fr_67 := FR.w hk_62 e_58 (k := 103) rfl
  refine v_iconst hC dX0_takeFrom_25 (v := 0) (by decide) ?_
  refine v_istore_n hC dX0_takeFrom_26 (by decide) (lv' := [(2, .int 0), (0, .ref a_0), (1, .ref a_1)]) rfl ?_
  have lp_1546 : ∀ (n_1547 : Nat) (f_1539 : Nat → va_E) (hW_1540 : WT T L f_1539) (hF_1541 : FR [10] f_60 f_1539) (i_1538 : Int32) (b_1545 : (0 ≤ i_1538.toInt ∧ i_1538.toInt ≤ 6)) (hm_1549 : 6 - i_1538.toInt < (n_1547 : Int)), V z E 3 0 0 L f_1539 27 [(2, .int i_1538), (0, .ref a_0), (1, .ref a_1)] [] := by
    intro n_1547
    induction n_1547 with
    | zero =>
      intro f_1539 hW_1540 hF_1541 i_1538 b_1545 hm_1549
      have hf_1542 := hF_1541.at hf_65 rfl
      have hf_1543 := hF_1541.at hf_66 rfl
      have hf_1544 := hF_1541.at hf_61 rfl
      exfalso; omega
    | succ n_1547 ih_1548 =>
      intro f_1539 hW_1540 hF_1541 i_1538 b_1545 hm_1549
      have hf_1542 := hF_1541.at hf_65 rfl
      have hf_1543 := hF_1541.at hf_66 rfl
      have hf_1544 := hF_1541.at hf_61 rfl
      refine v_iload_n hC dX0_takeFrom_27 rfl ?_
      refine v_bipush hC dX0_takeFrom_28 (v := 6) (by decide) ?_
      refine v_icmp_ge hC dX0_takeFrom_30 (tgt := 54) (by decide) (fun h_1550 => ?_) (fun h_1550 => ?_)
      · simp only [Int32.lt_iff_toInt_lt, Int32.le_iff_toInt_le, Int32.reduceToInt, ← Int32.toInt_inj] at h_1550
        refine v_aload_n hC dX0_takeFrom_54 rfl ?_
        refine v_get hC fl_X0_31 m_1 hf_1542 rfl dX0_takeFrom_55 ?_
        refine v_aload_n hC dX0_takeFrom_58 rfl ?_
        refine v_get hC fl_X0_31 m_16 hf_1543 rfl dX0_takeFrom_59 ?_
        obtain ⟨m_1596, q_1598, t_1597, k_1599⟩ := id k_12
        obtain ⟨v_1601, v_1603, e_1600, b_1602⟩ := hW_1540.at m_1596 t_1597
        refine v_vv hC (rest := []) m_1596 e_1600 rfl mi_X9_takeFrom ms_X9_takeFrom (p_X9_takeFrom hW_1540 k_12 k_27) mx_X9_takeFrom ml_X0_63 (by decide) rfl (cells1 := 0) (slots1 := 0) (by decide) (by decide) (Nat.le_of_ble_eq_true rfl) (Nat.le_of_ble_eq_true rfl) rfl (Nat.le_of_ble_eq_true rfl) dX0_takeFrom_62 (fun L_1605 f_1606 h_1607 => ?_)
        obtain ⟨rfl, hW_1608, hF_1609⟩ := h_1607
        have hf_1610 := hF_1609.at hf_1542 rfl
        have hf_1611 := hF_1609.at hf_1543 rfl
        have hf_1612 := hF_1609.at hf_1544 rfl
        refine v_aload_n hC dX0_takeFrom_65 rfl ?_
        refine v_get hC fl_X0_38 m_1 hf_1610 rfl dX0_takeFrom_66 ?_
        refine v_aload_n hC dX0_takeFrom_69 rfl ?_
        refine v_get hC fl_X0_38 m_16 hf_1611 rfl dX0_takeFrom_70 ?_
        obtain ⟨m_1613, q_1615, q_1616, q_1617, t_1614, k_1618, k_1619, k_1620⟩ := id k_13
        obtain ⟨v_1622, e_1621, b_1623⟩ := hW_1608.at m_1613 t_1614
        refine v_vv hC (rest := []) m_1613 e_1621 rfl mi_X3_takeFrom ms_X3_takeFrom (p_X3_takeFrom hW_1608 k_13 k_28) mx_X3_takeFrom ml_X0_66 (by decide) rfl (cells1 := 0) (slots1 := 0) (by decide) (by decide) (Nat.le_of_ble_eq_true rfl) (Nat.le_of_ble_eq_true rfl) rfl (Nat.le_of_ble_eq_true rfl) dX0_takeFrom_73 (fun L_1625 f_1626 h_1627 => ?_)
        obtain ⟨rfl, hW_1628, hF_1629⟩ := h_1627
        have hf_1630 := hF_1629.at hf_1610 rfl
        have hf_1631 := hF_1629.at hf_1611 rfl
        have hf_1632 := hF_1629.at hf_1612 rfl
        refine v_iconst hC dX0_takeFrom_76 (v := 0) (by decide) ?_
        refine v_istore_n hC dX0_takeFrom_77 (by decide) (lv' := [(2, .int 0), (0, .ref a_0), (1, .ref a_1)]) rfl ?_
        have lp_1823 : ∀ (n_1824 : Nat) (f_1816 : Nat → va_E) (hW_1817 : WT T L f_1816) (hF_1818 : FR [1, 356] f_1626 f_1816) (i_1815 : Int32) (b_1822 : (0 ≤ i_1815.toInt ∧ i_1815.toInt ≤ 4)) (hm_1826 : 4 - i_1815.toInt < (n_1824 : Int)), V z E 3 0 0 L f_1816 78 [(2, .int i_1815), (0, .ref a_0), (1, .ref a_1)] [] := by
          intro n_1824
          induction n_1824 with
          | zero =>
            intro f_1816 hW_1817 hF_1818 i_1815 b_1822 hm_1826
            have hf_1819 := hF_1818.at hf_1630 rfl
            have hf_1820 := hF_1818.at hf_1631 rfl
            have hf_1821 := hF_1818.at hf_1632 rfl
            exfalso; omega
          | succ n_1824 ih_1825 =>
            intro f_1816 hW_1817 hF_1818 i_1815 b_1822 hm_1826
            have hf_1819 := hF_1818.at hf_1630 rfl
            have hf_1820 := hF_1818.at hf_1631 rfl
            have hf_1821 := hF_1818.at hf_1632 rfl
            refine v_iload_n hC dX0_takeFrom_78 rfl ?_
            refine v_iconst hC dX0_takeFrom_79 (v := 4) (by decide) ?_
            refine v_icmp_ge hC dX0_takeFrom_80 (tgt := 104) (by decide) (fun h_1827 => ?_) (fun h_1827 => ?_)
            · simp only [Int32.lt_iff_toInt_lt, Int32.le_iff_toInt_le, Int32.reduceToInt, ← Int32.toInt_inj] at h_1827
              exact hR _ _ _ _ _ _ dX0_takeFrom_104 (Nat.le_of_ble_eq_true rfl) (Nat.le_of_ble_eq_true rfl) ⟨rfl, hW_1817, ((((((hF_49.tr fr_67).tr hF_1541).tr hF_1609).tr hF_1629).tr hF_1818).mono rfl)⟩
            · simp only [Int32.lt_iff_toInt_lt, Int32.le_iff_toInt_le, Int32.reduceToInt, ← Int32.toInt_inj] at h_1827
              refine v_aload_n hC dX0_takeFrom_83 rfl ?_
              refine v_get hC fl_X0_44 m_1 hf_1819 rfl dX0_takeFrom_84 ?_
              refine v_iload_n hC dX0_takeFrom_87 rfl ?_
              obtain ⟨m_1828, g_1830, t_1829, k_1831⟩ := id k_14
              have e_1832 : f_1816 q_8 = aR E 5 4 g_1830 := hW_1817.at m_1828 t_1829
              obtain ⟨q_1833, h_1834, k_1835⟩ := k_1831 (i_1815 : Int32).toNatClampNeg (clamp_lt (vp_in_iff.mpr (by first | omega | (simp only [Int32.lt_iff_toInt_lt, Int32.le_iff_toInt_le, Int32.reduceToInt, ← Int32.toInt_inj]; omega))))
              refine v_aald hC m_1828 e_1832 rfl (vp_in_iff.mpr (by first | omega | (simp only [Int32.lt_iff_toInt_lt, Int32.le_iff_toInt_le, Int32.reduceToInt, ← Int32.toInt_inj]; omega))) (v := .ref q_1833) (by rw [h_1834]; rfl) dX0_takeFrom_88 ?_
              refine v_aload_n hC dX0_takeFrom_89 rfl ?_
              refine v_get hC fl_X0_44 m_16 hf_1820 rfl dX0_takeFrom_90 ?_
              refine v_iload_n hC dX0_takeFrom_93 rfl ?_
              obtain ⟨m_1836, g_1838, t_1837, k_1839⟩ := id k_29
              have e_1840 : f_1816 q_23 = aR E 5 4 g_1838 := hW_1817.at m_1836 t_1837
              obtain ⟨q_1841, h_1842, k_1843⟩ := k_1839 (i_1815 : Int32).toNatClampNeg (clamp_lt (vp_in_iff.mpr (by first | omega | (simp only [Int32.lt_iff_toInt_lt, Int32.le_iff_toInt_le, Int32.reduceToInt, ← Int32.toInt_inj]; omega))))
              refine v_aald hC m_1836 e_1840 rfl (vp_in_iff.mpr (by first | omega | (simp only [Int32.lt_iff_toInt_lt, Int32.le_iff_toInt_le, Int32.reduceToInt, ← Int32.toInt_inj]; omega))) (v := .ref q_1841) (by rw [h_1842]; rfl) dX0_takeFrom_94 ?_
              obtain ⟨m_1844, q_1846, t_1845, k_1847⟩ := id k_1835
              obtain ⟨v_1849, e_1848, b_1850⟩ := hW_1817.at m_1844 t_1845
              refine v_vv hC (rest := []) m_1844 e_1848 rfl mi_X1_takeFrom ms_X1_takeFrom (p_X1_takeFrom hW_1817 k_1835 k_1843) mx_X1_takeFrom ml_X0_69 (by decide) rfl (cells1 := 0) (slots1 := 0) (by decide) (by decide) (Nat.le_of_ble_eq_true rfl) (Nat.le_of_ble_eq_true rfl) rfl (Nat.le_of_ble_eq_true rfl) dX0_takeFrom_95 (fun L_1852 f_1853 h_1854 => ?_)
              obtain ⟨rfl, hW_1855, hF_1856⟩ := h_1854
              have hf_1857 := hF_1856.at hf_1819 rfl
              have hf_1858 := hF_1856.at hf_1820 rfl
              have hf_1859 := hF_1856.at hf_1821 rfl
              have hf_1860 := hF_1856.at e_1832 rfl
              have hf_1861 := hF_1856.at e_1840 rfl
              obtain ⟨v_1862, h_1863⟩ : ∃ v9 : Int32, i_1815 + Int32.ofInt 1 = v9 := ⟨_, rfl⟩
              have h_1864 := add_v (b := 1) h_1863 (by first | omega | (simp only [Int32.lt_iff_toInt_lt, Int32.le_iff_toInt_le, Int32.reduceToInt, ← Int32.toInt_inj]; omega)) (by first | omega | (simp only [Int32.lt_iff_toInt_lt, Int32.le_iff_toInt_le, Int32.reduceToInt, ← Int32.toInt_inj]; omega))
              simp only [Int32.reduceToInt] at h_1864
              refine v_iinc hC dX0_takeFrom_98 (k := 0) rfl (v := v_1862) h_1863 (by decide) (lv' := [(2, .int v_1862), (0, .ref a_0), (1, .ref a_1)]) rfl ?_
              refine v_goto hC dX0_takeFrom_101 (tgt := 78) (by decide) ?_
              refine v_pick [0, 1, 2] rfl ?_
              exact ih_1825 f_1853 hW_1855 ((hF_1818.tr hF_1856).mono rfl) v_1862 (by first | omega | (simp only [Int32.lt_iff_toInt_lt, Int32.le_iff_toInt_le, Int32.reduceToInt, ← Int32.toInt_inj]; omega)) (by first | omega | (simp only [Int32.lt_iff_toInt_lt, Int32.le_iff_toInt_le, Int32.reduceToInt, ← Int32.toInt_inj]; omega))
        refine v_pick [0, 1, 2] rfl ?_
        exact lp_1823 6 f_1626 hW_1628 FR.rf 0 (by decide) (by decide)
      · simp only [Int32.lt_iff_toInt_lt, Int32.le_iff_toInt_le, Int32.reduceToInt, ← Int32.toInt_inj] at h_1550
        refine v_aload_n hC dX0_takeFrom_33 rfl ?_
        refine v_get hC fl_X0_24 m_1 hf_1542 rfl dX0_takeFrom_34 ?_
        refine v_iload_n hC dX0_takeFrom_37 rfl ?_
        obtain ⟨m_1865, g_1867, t_1866, k_1868⟩ := id k_11
        have e_1869 : f_1539 q_5 = aR E 7 6 g_1867 := hW_1540.at m_1865 t_1866
        obtain ⟨q_1870, h_1871, k_1872⟩ := k_1868 (i_1538 : Int32).toNatClampNeg (clamp_lt (vp_in_iff.mpr (by first | omega | (simp only [Int32.lt_iff_toInt_lt, Int32.le_iff_toInt_le, Int32.reduceToInt, ← Int32.toInt_inj]; omega))))
        refine v_aald hC m_1865 e_1869 rfl (vp_in_iff.mpr (by first | omega | (simp only [Int32.lt_iff_toInt_lt, Int32.le_iff_toInt_le, Int32.reduceToInt, ← Int32.toInt_inj]; omega))) (v := .ref q_1870) (by rw [h_1871]; rfl) dX0_takeFrom_38 ?_
        refine v_aload_n hC dX0_takeFrom_39 rfl ?_
        refine v_get hC fl_X0_24 m_16 hf_1543 rfl dX0_takeFrom_40 ?_
        refine v_iload_n hC dX0_takeFrom_43 rfl ?_
        obtain ⟨m_1873, g_1875, t_1874, k_1876⟩ := id k_26
        have e_1877 : f_1539 q_20 = aR E 7 6 g_1875 := hW_1540.at m_1873 t_1874
        obtain ⟨q_1878, h_1879, k_1880⟩ := k_1876 (i_1538 : Int32).toNatClampNeg (clamp_lt (vp_in_iff.mpr (by first | omega | (simp only [Int32.lt_iff_toInt_lt, Int32.le_iff_toInt_le, Int32.reduceToInt, ← Int32.toInt_inj]; omega))))
        refine v_aald hC m_1873 e_1877 rfl (vp_in_iff.mpr (by first | omega | (simp only [Int32.lt_iff_toInt_lt, Int32.le_iff_toInt_le, Int32.reduceToInt, ← Int32.toInt_inj]; omega))) (v := .ref q_1878) (by rw [h_1879]; rfl) dX0_takeFrom_44 ?_
        obtain ⟨m_1881, t_1882⟩ := id k_1872
        obtain ⟨v_1884, v_1886, v_1887, v_1888, v_1890, v_1892, v_1894, e_1883, b_1885, b_1889, b_1891, b_1893, b_1895⟩ := hW_1540.at m_1881 t_1882
        refine v_vv hC (rest := []) m_1881 e_1883 rfl mi_X10_takeFrom ms_X10_takeFrom (p_X10_takeFrom hW_1540 k_1872 k_1880) mx_X10_takeFrom ml_X0_60 (by decide) rfl (cells1 := 0) (slots1 := 0) (by decide) (by decide) (Nat.le_of_ble_eq_true rfl) (Nat.le_of_ble_eq_true rfl) rfl (Nat.le_of_ble_eq_true rfl) dX0_takeFrom_45 (fun L_1897 f_1898 h_1899 => ?_)
        obtain ⟨rfl, hW_1900, hF_1901⟩ := h_1899
        have hf_1902 := hF_1901.at hf_1542 rfl
        have hf_1903 := hF_1901.at hf_1543 rfl
        have hf_1904 := hF_1901.at hf_1544 rfl
        have hf_1905 := hF_1901.at e_1869 rfl
        have hf_1906 := hF_1901.at e_1877 rfl
        obtain ⟨v_1907, h_1908⟩ : ∃ v9 : Int32, i_1538 + Int32.ofInt 1 = v9 := ⟨_, rfl⟩
        have h_1909 := add_v (b := 1) h_1908 (by first | omega | (simp only [Int32.lt_iff_toInt_lt, Int32.le_iff_toInt_le, Int32.reduceToInt, ← Int32.toInt_inj]; omega)) (by first | omega | (simp only [Int32.lt_iff_toInt_lt, Int32.le_iff_toInt_le, Int32.reduceToInt, ← Int32.toInt_inj]; omega))
        simp only [Int32.reduceToInt] at h_1909
        refine v_iinc hC dX0_takeFrom_48 (k := 0) rfl (v := v_1907) h_1908 (by decide) (lv' := [(2, .int v_1907), (0, .ref a_0), (1, .ref a_1)]) rfl ?_
        refine v_goto hC dX0_takeFrom_51 (tgt := 27) (by decide) ?_
        refine v_pick [0, 1, 2] rfl ?_
        exact ih_1548 f_1898 hW_1900 ((hF_1541.tr hF_1901).mono rfl) v_1907 (by first | omega | (simp only [Int32.lt_iff_toInt_lt, Int32.le_iff_toInt_le, Int32.reduceToInt, ← Int32.toInt_inj]; omega)) (by first | omega | (simp only [Int32.lt_iff_toInt_lt, Int32.le_iff_toInt_le, Int32.reduceToInt, ← Int32.toInt_inj]; omega))
  refine v_pick [0, 1, 2] rfl ?_
  exact lp_1546 8 f_60 hW_63 FR.rf 0 (by decide) (by decide)
set_option maxRecDepth 100000 in
set_option maxHeartbeats 4000000 in
theorem p_X0_dropCloths {l : Launch} {E : Ez} {L : List Nat} {f : Nat → va_E} {T : Nat → va_E → Prop} {a_0 : Nat} (hW : WT T L f) (k_0 : isBas T L E a_0) : CV l yX0_dropCloths cX0_dropCloths 2 0 0 0 E [.ref a_0] L f (fun L1 f1 => L = L1 ∧ WT T L f1 ∧ FR [1] f f1) := by
  refine cv_of (by decide) (Nat.le_of_ble_eq_true rfl) (fun z hz hnm hC hR => ?_)
  have hC : Cx z E cX0_dropCloths RX0 2 0 0 0 := hC
  subst hz
  show V z E 2 0 0 L f 0 [(0, .ref a_0)] []
  refine v_iconst hC dX0_dropCloths_0 (v := 0) (by decide) ?_
  refine v_istore_n hC dX0_dropCloths_1 (by decide) (lv' := [(1, .int 0), (0, .ref a_0)]) rfl ?_
  have lp_188 : ∀ (n_189 : Nat) (f_184 : Nat → va_E) (hW_185 : WT T L f_184) (hF_186 : FR [1] f f_184) (i_183 : Int32) (b_187 : (0 ≤ i_183.toInt ∧ i_183.toInt ≤ 4)) (hm_191 : 4 - i_183.toInt < (n_189 : Int)), V z E 2 0 0 L f_184 2 [(1, .int i_183), (0, .ref a_0)] [] := by
    intro n_189
    induction n_189 with
    | zero =>
      intro f_184 hW_185 hF_186 i_183 b_187 hm_191
      exfalso; omega
    | succ n_189 ih_190 =>
      intro f_184 hW_185 hF_186 i_183 b_187 hm_191
      refine v_iload_n hC dX0_dropCloths_2 rfl ?_
      refine v_iconst hC dX0_dropCloths_3 (v := 4) (by decide) ?_
      refine v_icmp_ge hC dX0_dropCloths_4 (tgt := 23) (by decide) (fun h_192 => ?_) (fun h_192 => ?_)
      · simp only [Int32.lt_iff_toInt_lt, Int32.le_iff_toInt_le, Int32.reduceToInt, ← Int32.toInt_inj] at h_192
        exact hR _ _ _ _ _ _ dX0_dropCloths_23 (Nat.le_of_ble_eq_true rfl) (Nat.le_of_ble_eq_true rfl) ⟨rfl, hW_185, (hF_186.mono rfl)⟩
      · simp only [Int32.lt_iff_toInt_lt, Int32.le_iff_toInt_le, Int32.reduceToInt, ← Int32.toInt_inj] at h_192
        refine v_aload_n hC dX0_dropCloths_7 rfl ?_
        obtain ⟨m_193, q_195, q_196, q_197, q_198, q_199, q_200, t_194, k_201, k_202, k_203, k_204, k_205, k_206⟩ := id k_0
        have e_207 : f_184 a_0 = ob 0 [.ref q_195, .ref q_196, .ref q_197, .ref q_198, .ref q_199, .ref q_200] := hW_185.at m_193 t_194
        refine v_get hC fl_X0_44 m_193 e_207 rfl dX0_dropCloths_8 ?_
        refine v_iload_n hC dX0_dropCloths_11 rfl ?_
        obtain ⟨m_208, g_210, t_209, k_211⟩ := id k_206
        have e_212 : f_184 q_200 = aR E 5 4 g_210 := hW_185.at m_208 t_209
        obtain ⟨q_213, h_214, k_215⟩ := k_211 (i_183 : Int32).toNatClampNeg (clamp_lt (vp_in_iff.mpr (by first | omega | (simp only [Int32.lt_iff_toInt_lt, Int32.le_iff_toInt_le, Int32.reduceToInt, ← Int32.toInt_inj]; omega))))
        refine v_aald hC m_208 e_212 rfl (vp_in_iff.mpr (by first | omega | (simp only [Int32.lt_iff_toInt_lt, Int32.le_iff_toInt_le, Int32.reduceToInt, ← Int32.toInt_inj]; omega))) (v := .ref q_213) (by rw [h_214]; rfl) dX0_dropCloths_12 ?_
        refine v_iconst hC dX0_dropCloths_13 (v := 0) (by decide) ?_
        obtain ⟨m_216, q_218, t_217, k_219⟩ := id k_215
        obtain ⟨v_221, e_220, b_222⟩ := hW_185.at m_216 t_217
        refine v_putN hC fn_X0_72 m_216 e_220 rfl rfl (Nat.le_of_ble_eq_true rfl) (fs' := [.ref q_218, .int 0]) rfl dX0_dropCloths_14 (fun f_223 hf_224 hk_225 => ?_)
        have hW_226 := hW_185.up hf_224 hk_225 t_217 ⟨0, rfl, (by decide)⟩
        have hf_227 := (hk_225 a_0 (ne_kd e_207 e_220 rfl)).trans e_207
        have hf_228 := (hk_225 q_200 (ne_kd e_212 e_220 rfl)).trans e_212
        have fr_229 := FR.w hk_225 e_220 (k := 1) rfl
        obtain ⟨v_230, h_231⟩ : ∃ v9 : Int32, i_183 + Int32.ofInt 1 = v9 := ⟨_, rfl⟩
        have h_232 := add_v (b := 1) h_231 (by first | omega | (simp only [Int32.lt_iff_toInt_lt, Int32.le_iff_toInt_le, Int32.reduceToInt, ← Int32.toInt_inj]; omega)) (by first | omega | (simp only [Int32.lt_iff_toInt_lt, Int32.le_iff_toInt_le, Int32.reduceToInt, ← Int32.toInt_inj]; omega))
        simp only [Int32.reduceToInt] at h_232
        refine v_iinc hC dX0_dropCloths_17 (k := 0) rfl (v := v_230) h_231 (by decide) (lv' := [(1, .int v_230), (0, .ref a_0)]) rfl ?_
        refine v_goto hC dX0_dropCloths_20 (tgt := 2) (by decide) ?_
        refine v_pick [0, 1] rfl ?_
        exact ih_190 f_223 hW_226 ((hF_186.tr fr_229).mono rfl) v_230 (by first | omega | (simp only [Int32.lt_iff_toInt_lt, Int32.le_iff_toInt_le, Int32.reduceToInt, ← Int32.toInt_inj]; omega)) (by first | omega | (simp only [Int32.lt_iff_toInt_lt, Int32.le_iff_toInt_le, Int32.reduceToInt, ← Int32.toInt_inj]; omega))
  refine v_pick [0, 1] rfl ?_
  exact lp_188 6 f hW FR.rf 0 (by decide) (by decide)
set_option maxRecDepth 100000 in
set_option maxHeartbeats 4000000 in
theorem p_X0_waysThere {l : Launch} {E : Ez} {L : List Nat} {f : Nat → va_E} {T : Nat → va_E → Prop} {a_0 : Nat} (hW : WT T L f) (k_0 : isBas T L E a_0) : CI l yX0_waysThere cX0_waysThere 3 .int 0 0 0 E [.ref a_0] L f (fun r L1 f1 => L = L1 ∧ f = f1) := by
  refine ci_of (by decide) (Nat.le_of_ble_eq_true rfl) (fun z hz hnm hC hR => ?_)
  have hC : Cx z E cX0_waysThere RX0 3 0 0 0 := hC
  subst hz
  show V z E 3 0 0 L f 0 [(0, .ref a_0)] []
  refine v_iconst hC dX0_waysThere_0 (v := 0) (by decide) ?_
  refine v_istore_n hC dX0_waysThere_1 (by decide) (lv' := [(1, .int 0), (0, .ref a_0)]) rfl ?_
  refine v_iconst hC dX0_waysThere_2 (v := 0) (by decide) ?_
  refine v_istore_n hC dX0_waysThere_3 (by decide) (lv' := [(2, .int 0), (1, .int 0), (0, .ref a_0)]) rfl ?_
  have lp_264 : ∀ (n_265 : Nat) (i_261 : Int32) (b_263 : (0 ≤ i_261.toInt ∧ i_261.toInt ≤ 6)) (i_262 : Int32) (hm_267 : 6 - i_261.toInt < (n_265 : Int)), V z E 3 0 0 L f 4 [(2, .int i_261), (1, .int i_262), (0, .ref a_0)] [] := by
    intro n_265
    induction n_265 with
    | zero =>
      intro i_261 b_263 i_262 hm_267
      exfalso; omega
    | succ n_265 ih_266 =>
      intro i_261 b_263 i_262 hm_267
      refine v_iload_n hC dX0_waysThere_4 rfl ?_
      refine v_bipush hC dX0_waysThere_5 (v := 6) (by decide) ?_
      refine v_icmp_ge hC dX0_waysThere_7 (tgt := 31) (by decide) (fun h_268 => ?_) (fun h_268 => ?_)
      · simp only [Int32.lt_iff_toInt_lt, Int32.le_iff_toInt_le, Int32.reduceToInt, ← Int32.toInt_inj] at h_268
        refine v_iload_n hC dX0_waysThere_31 rfl ?_
        exact hR _ _ _ _ _ _ _ dX0_waysThere_32 rfl (Nat.le_of_ble_eq_true rfl) (Nat.le_of_ble_eq_true rfl) ⟨rfl, rfl⟩
      · simp only [Int32.lt_iff_toInt_lt, Int32.le_iff_toInt_le, Int32.reduceToInt, ← Int32.toInt_inj] at h_268
        refine v_aload_n hC dX0_waysThere_10 rfl ?_
        obtain ⟨m_269, q_271, q_272, q_273, q_274, q_275, q_276, t_270, k_277, k_278, k_279, k_280, k_281, k_282⟩ := id k_0
        have e_283 : f a_0 = ob 0 [.ref q_271, .ref q_272, .ref q_273, .ref q_274, .ref q_275, .ref q_276] := hW.at m_269 t_270
        refine v_get hC fl_X0_24 m_269 e_283 rfl dX0_waysThere_11 ?_
        refine v_iload_n hC dX0_waysThere_14 rfl ?_
        obtain ⟨m_284, g_286, t_285, k_287⟩ := id k_279
        have e_288 : f q_273 = aR E 7 6 g_286 := hW.at m_284 t_285
        obtain ⟨q_289, h_290, k_291⟩ := k_287 (i_261 : Int32).toNatClampNeg (clamp_lt (vp_in_iff.mpr (by first | omega | (simp only [Int32.lt_iff_toInt_lt, Int32.le_iff_toInt_le, Int32.reduceToInt, ← Int32.toInt_inj]; omega))))
        refine v_aald hC m_284 e_288 rfl (vp_in_iff.mpr (by first | omega | (simp only [Int32.lt_iff_toInt_lt, Int32.le_iff_toInt_le, Int32.reduceToInt, ← Int32.toInt_inj]; omega))) (v := .ref q_289) (by rw [h_290]; rfl) dX0_waysThere_15 ?_
        obtain ⟨m_292, t_293⟩ := id k_291
        obtain ⟨v_295, v_297, v_298, v_299, v_301, v_303, v_305, e_294, b_296, b_300, b_302, b_304, b_306⟩ := hW.at m_292 t_293
        refine v_getN hC fn_X0_76 m_292 e_294 rfl dX0_waysThere_16 ?_
        refine v_if_eq hC dX0_waysThere_19 (tgt := 25) (by decide) (fun h_307 => ?_) (fun h_307 => ?_)
        · simp only [Int32.lt_iff_toInt_lt, Int32.le_iff_toInt_le, Int32.reduceToInt, ← Int32.toInt_inj] at h_307
          obtain ⟨v_308, h_309⟩ : ∃ v9 : Int32, i_261 + Int32.ofInt 1 = v9 := ⟨_, rfl⟩
          have h_310 := add_v (b := 1) h_309 (by first | omega | (simp only [Int32.lt_iff_toInt_lt, Int32.le_iff_toInt_le, Int32.reduceToInt, ← Int32.toInt_inj]; omega)) (by first | omega | (simp only [Int32.lt_iff_toInt_lt, Int32.le_iff_toInt_le, Int32.reduceToInt, ← Int32.toInt_inj]; omega))
          simp only [Int32.reduceToInt] at h_310
          refine v_iinc hC dX0_waysThere_25 (k := 0) rfl (v := v_308) h_309 (by decide) (lv' := [(2, .int v_308), (1, .int i_262), (0, .ref a_0)]) rfl ?_
          refine v_goto hC dX0_waysThere_28 (tgt := 4) (by decide) ?_
          refine v_pick [0, 1, 2] rfl ?_
          exact ih_266 v_308 (by first | omega | (simp only [Int32.lt_iff_toInt_lt, Int32.le_iff_toInt_le, Int32.reduceToInt, ← Int32.toInt_inj]; omega)) i_262 (by first | omega | (simp only [Int32.lt_iff_toInt_lt, Int32.le_iff_toInt_le, Int32.reduceToInt, ← Int32.toInt_inj]; omega))
        · simp only [Int32.lt_iff_toInt_lt, Int32.le_iff_toInt_le, Int32.reduceToInt, ← Int32.toInt_inj] at h_307
          obtain ⟨v_311, h_312⟩ : ∃ v9 : Int32, i_262 + Int32.ofInt 1 = v9 := ⟨_, rfl⟩
          refine v_iinc hC dX0_waysThere_22 (k := 1) rfl (v := v_311) h_312 (by decide) (lv' := [(1, .int v_311), (2, .int i_261), (0, .ref a_0)]) rfl ?_
          obtain ⟨v_313, h_314⟩ : ∃ v9 : Int32, i_261 + Int32.ofInt 1 = v9 := ⟨_, rfl⟩
          have h_315 := add_v (b := 1) h_314 (by first | omega | (simp only [Int32.lt_iff_toInt_lt, Int32.le_iff_toInt_le, Int32.reduceToInt, ← Int32.toInt_inj]; omega)) (by first | omega | (simp only [Int32.lt_iff_toInt_lt, Int32.le_iff_toInt_le, Int32.reduceToInt, ← Int32.toInt_inj]; omega))
          simp only [Int32.reduceToInt] at h_315
          refine v_iinc hC dX0_waysThere_25 (k := 1) rfl (v := v_313) h_314 (by decide) (lv' := [(2, .int v_313), (1, .int v_311), (0, .ref a_0)]) rfl ?_
          refine v_goto hC dX0_waysThere_28 (tgt := 4) (by decide) ?_
          refine v_pick [0, 1, 2] rfl ?_
          exact ih_266 v_313 (by first | omega | (simp only [Int32.lt_iff_toInt_lt, Int32.le_iff_toInt_le, Int32.reduceToInt, ← Int32.toInt_inj]; omega)) v_311 (by first | omega | (simp only [Int32.lt_iff_toInt_lt, Int32.le_iff_toInt_le, Int32.reduceToInt, ← Int32.toInt_inj]; omega))
  refine v_pick [0, 1, 2] rfl ?_
  exact lp_264 8 0 (by decide) 0 (by decide)
set_option maxRecDepth 100000 in
set_option maxHeartbeats 4000000 in
theorem p_X0_clothsThere {l : Launch} {E : Ez} {L : List Nat} {f : Nat → va_E} {T : Nat → va_E → Prop} {a_0 : Nat} (hW : WT T L f) (k_0 : isBas T L E a_0) : CI l yX0_clothsThere cX0_clothsThere 3 .int 0 0 0 E [.ref a_0] L f (fun r L1 f1 => L = L1 ∧ f = f1) := by
  refine ci_of (by decide) (Nat.le_of_ble_eq_true rfl) (fun z hz hnm hC hR => ?_)
  have hC : Cx z E cX0_clothsThere RX0 3 0 0 0 := hC
  subst hz
  show V z E 3 0 0 L f 0 [(0, .ref a_0)] []
  refine v_iconst hC dX0_clothsThere_0 (v := 0) (by decide) ?_
  refine v_istore_n hC dX0_clothsThere_1 (by decide) (lv' := [(1, .int 0), (0, .ref a_0)]) rfl ?_
  refine v_iconst hC dX0_clothsThere_2 (v := 0) (by decide) ?_
  refine v_istore_n hC dX0_clothsThere_3 (by decide) (lv' := [(2, .int 0), (1, .int 0), (0, .ref a_0)]) rfl ?_
  have lp_224 : ∀ (n_225 : Nat) (i_221 : Int32) (b_223 : (0 ≤ i_221.toInt ∧ i_221.toInt ≤ 4)) (i_222 : Int32) (hm_227 : 4 - i_221.toInt < (n_225 : Int)), V z E 3 0 0 L f 4 [(2, .int i_221), (1, .int i_222), (0, .ref a_0)] [] := by
    intro n_225
    induction n_225 with
    | zero =>
      intro i_221 b_223 i_222 hm_227
      exfalso; omega
    | succ n_225 ih_226 =>
      intro i_221 b_223 i_222 hm_227
      refine v_iload_n hC dX0_clothsThere_4 rfl ?_
      refine v_iconst hC dX0_clothsThere_5 (v := 4) (by decide) ?_
      refine v_icmp_ge hC dX0_clothsThere_6 (tgt := 30) (by decide) (fun h_228 => ?_) (fun h_228 => ?_)
      · simp only [Int32.lt_iff_toInt_lt, Int32.le_iff_toInt_le, Int32.reduceToInt, ← Int32.toInt_inj] at h_228
        refine v_iload_n hC dX0_clothsThere_30 rfl ?_
        exact hR _ _ _ _ _ _ _ dX0_clothsThere_31 rfl (Nat.le_of_ble_eq_true rfl) (Nat.le_of_ble_eq_true rfl) ⟨rfl, rfl⟩
      · simp only [Int32.lt_iff_toInt_lt, Int32.le_iff_toInt_le, Int32.reduceToInt, ← Int32.toInt_inj] at h_228
        refine v_aload_n hC dX0_clothsThere_9 rfl ?_
        obtain ⟨m_229, q_231, q_232, q_233, q_234, q_235, q_236, t_230, k_237, k_238, k_239, k_240, k_241, k_242⟩ := id k_0
        have e_243 : f a_0 = ob 0 [.ref q_231, .ref q_232, .ref q_233, .ref q_234, .ref q_235, .ref q_236] := hW.at m_229 t_230
        refine v_get hC fl_X0_44 m_229 e_243 rfl dX0_clothsThere_10 ?_
        refine v_iload_n hC dX0_clothsThere_13 rfl ?_
        obtain ⟨m_244, g_246, t_245, k_247⟩ := id k_242
        have e_248 : f q_236 = aR E 5 4 g_246 := hW.at m_244 t_245
        obtain ⟨q_249, h_250, k_251⟩ := k_247 (i_221 : Int32).toNatClampNeg (clamp_lt (vp_in_iff.mpr (by first | omega | (simp only [Int32.lt_iff_toInt_lt, Int32.le_iff_toInt_le, Int32.reduceToInt, ← Int32.toInt_inj]; omega))))
        refine v_aald hC m_244 e_248 rfl (vp_in_iff.mpr (by first | omega | (simp only [Int32.lt_iff_toInt_lt, Int32.le_iff_toInt_le, Int32.reduceToInt, ← Int32.toInt_inj]; omega))) (v := .ref q_249) (by rw [h_250]; rfl) dX0_clothsThere_14 ?_
        obtain ⟨m_252, q_254, t_253, k_255⟩ := id k_251
        obtain ⟨v_257, e_256, b_258⟩ := hW.at m_252 t_253
        refine v_getN hC fn_X0_72 m_252 e_256 rfl dX0_clothsThere_15 ?_
        refine v_if_eq hC dX0_clothsThere_18 (tgt := 24) (by decide) (fun h_259 => ?_) (fun h_259 => ?_)
        · simp only [Int32.lt_iff_toInt_lt, Int32.le_iff_toInt_le, Int32.reduceToInt, ← Int32.toInt_inj] at h_259
          obtain ⟨v_260, h_261⟩ : ∃ v9 : Int32, i_221 + Int32.ofInt 1 = v9 := ⟨_, rfl⟩
          have h_262 := add_v (b := 1) h_261 (by first | omega | (simp only [Int32.lt_iff_toInt_lt, Int32.le_iff_toInt_le, Int32.reduceToInt, ← Int32.toInt_inj]; omega)) (by first | omega | (simp only [Int32.lt_iff_toInt_lt, Int32.le_iff_toInt_le, Int32.reduceToInt, ← Int32.toInt_inj]; omega))
          simp only [Int32.reduceToInt] at h_262
          refine v_iinc hC dX0_clothsThere_24 (k := 0) rfl (v := v_260) h_261 (by decide) (lv' := [(2, .int v_260), (1, .int i_222), (0, .ref a_0)]) rfl ?_
          refine v_goto hC dX0_clothsThere_27 (tgt := 4) (by decide) ?_
          refine v_pick [0, 1, 2] rfl ?_
          exact ih_226 v_260 (by first | omega | (simp only [Int32.lt_iff_toInt_lt, Int32.le_iff_toInt_le, Int32.reduceToInt, ← Int32.toInt_inj]; omega)) i_222 (by first | omega | (simp only [Int32.lt_iff_toInt_lt, Int32.le_iff_toInt_le, Int32.reduceToInt, ← Int32.toInt_inj]; omega))
        · simp only [Int32.lt_iff_toInt_lt, Int32.le_iff_toInt_le, Int32.reduceToInt, ← Int32.toInt_inj] at h_259
          obtain ⟨v_263, h_264⟩ : ∃ v9 : Int32, i_222 + Int32.ofInt 1 = v9 := ⟨_, rfl⟩
          refine v_iinc hC dX0_clothsThere_21 (k := 1) rfl (v := v_263) h_264 (by decide) (lv' := [(1, .int v_263), (2, .int i_221), (0, .ref a_0)]) rfl ?_
          obtain ⟨v_265, h_266⟩ : ∃ v9 : Int32, i_221 + Int32.ofInt 1 = v9 := ⟨_, rfl⟩
          have h_267 := add_v (b := 1) h_266 (by first | omega | (simp only [Int32.lt_iff_toInt_lt, Int32.le_iff_toInt_le, Int32.reduceToInt, ← Int32.toInt_inj]; omega)) (by first | omega | (simp only [Int32.lt_iff_toInt_lt, Int32.le_iff_toInt_le, Int32.reduceToInt, ← Int32.toInt_inj]; omega))
          simp only [Int32.reduceToInt] at h_267
          refine v_iinc hC dX0_clothsThere_24 (k := 1) rfl (v := v_265) h_266 (by decide) (lv' := [(2, .int v_265), (1, .int v_263), (0, .ref a_0)]) rfl ?_
          refine v_goto hC dX0_clothsThere_27 (tgt := 4) (by decide) ?_
          refine v_pick [0, 1, 2] rfl ?_
          exact ih_226 v_265 (by first | omega | (simp only [Int32.lt_iff_toInt_lt, Int32.le_iff_toInt_le, Int32.reduceToInt, ← Int32.toInt_inj]; omega)) v_263 (by first | omega | (simp only [Int32.lt_iff_toInt_lt, Int32.le_iff_toInt_le, Int32.reduceToInt, ← Int32.toInt_inj]; omega))
  refine v_pick [0, 1, 2] rfl ?_
  exact lp_224 6 0 (by decide) 0 (by decide)
