set_option maxRecDepth 100000 in
set_option maxHeartbeats 4000000 in
theorem p_X5_cutToWidth {l : Launch} {E : Ez} {L : List Nat} {f : Nat → va_E} {T : Nat → va_E → Prop} {a_0 : Nat} {a_1 : Int64} (hW : WT T L f) (k_0 : isSlot T L E a_0) : CJ l yX5_cutToWidth cX5_cutToWidth 3 0 0 0 E [.ref a_0, .long a_1] L f (fun r L1 f1 => L = L1 ∧ f = f1) := by
  refine cj_of (by decide) (Nat.le_of_ble_eq_true rfl) (fun z hz hnm hC hR => ?_)
  have hC : Cx z E cX5_cutToWidth RX5 3 0 0 0 := hC
  subst hz
  show V z E 3 0 0 L f 0 [(0, .ref a_0), (1, .long a_1)] []
  refine v_aload_n hC dX5_cutToWidth_0 rfl ?_
  obtain ⟨m_1, q_3, t_2, k_4⟩ := id k_0
  obtain ⟨v_6, v_8, e_5, b_7, b_9⟩ := hW.at m_1 t_2
  refine v_get hC fl_X5_15 m_1 e_5 rfl dX5_cutToWidth_1 ?_
  by_cases h_10 : v_6 = 0
  · refine v_tableIn hC dX5_cutToWidth_4 (off := 28) (tgt := 32) (by rw [h_10]; decide) (by rw [h_10]; decide) (by rw [h_10]; rfl) (by decide) ?_
    simp only [Int32.lt_iff_toInt_lt, Int32.le_iff_toInt_le, Int32.reduceToInt, ← Int32.toInt_inj] at h_10
    refine v_lload_n hC dX5_cutToWidth_32 rfl ?_
    obtain ⟨v_13, h_14⟩ : ∃ v9 : Int32, a_1.toInt32 = v9 := ⟨_, rfl⟩
    refine v_l2i hC dX5_cutToWidth_33 h_14 ?_
    obtain ⟨v_15, h_16⟩ : ∃ v9 : Int32, v_13.toInt8.toInt32 = v9 := ⟨_, rfl⟩
    refine v_i2b hC dX5_cutToWidth_34 h_16 ?_
    obtain ⟨v_17, h_18⟩ : ∃ v9 : Int64, v_15.toInt64 = v9 := ⟨_, rfl⟩
    refine v_i2l hC dX5_cutToWidth_35 h_18 ?_
    exact hR _ _ _ _ _ _ _ dX5_cutToWidth_36 (Nat.le_of_ble_eq_true rfl) (Nat.le_of_ble_eq_true rfl) ⟨rfl, rfl⟩
  by_cases h_11 : v_6 = 1
  · refine v_tableIn hC dX5_cutToWidth_4 (off := 33) (tgt := 37) (by rw [h_11]; decide) (by rw [h_11]; decide) (by rw [h_11]; rfl) (by decide) ?_
    simp only [Int32.lt_iff_toInt_lt, Int32.le_iff_toInt_le, Int32.reduceToInt, ← Int32.toInt_inj] at h_11
    refine v_lload_n hC dX5_cutToWidth_37 rfl ?_
    obtain ⟨v_19, h_20⟩ : ∃ v9 : Int32, a_1.toInt32 = v9 := ⟨_, rfl⟩
    refine v_l2i hC dX5_cutToWidth_38 h_20 ?_
    obtain ⟨v_21, h_22⟩ : ∃ v9 : Int32, v_19.toInt16.toInt32 = v9 := ⟨_, rfl⟩
    refine v_i2s hC dX5_cutToWidth_39 h_22 ?_
    obtain ⟨v_23, h_24⟩ : ∃ v9 : Int64, v_21.toInt64 = v9 := ⟨_, rfl⟩
    refine v_i2l hC dX5_cutToWidth_40 h_24 ?_
    exact hR _ _ _ _ _ _ _ dX5_cutToWidth_41 (Nat.le_of_ble_eq_true rfl) (Nat.le_of_ble_eq_true rfl) ⟨rfl, rfl⟩
  by_cases h_12 : v_6 = 2
  · refine v_tableIn hC dX5_cutToWidth_4 (off := 38) (tgt := 42) (by rw [h_12]; decide) (by rw [h_12]; decide) (by rw [h_12]; rfl) (by decide) ?_
    simp only [Int32.lt_iff_toInt_lt, Int32.le_iff_toInt_le, Int32.reduceToInt, ← Int32.toInt_inj] at h_12
    refine v_lload_n hC dX5_cutToWidth_42 rfl ?_
    obtain ⟨v_25, h_26⟩ : ∃ v9 : Int32, a_1.toInt32 = v9 := ⟨_, rfl⟩
    refine v_l2i hC dX5_cutToWidth_43 h_26 ?_
    obtain ⟨v_27, h_28⟩ : ∃ v9 : Int64, v_25.toInt64 = v9 := ⟨_, rfl⟩
    refine v_i2l hC dX5_cutToWidth_44 h_28 ?_
    exact hR _ _ _ _ _ _ _ dX5_cutToWidth_45 (Nat.le_of_ble_eq_true rfl) (Nat.le_of_ble_eq_true rfl) ⟨rfl, rfl⟩
  simp only [Int32.lt_iff_toInt_lt, Int32.le_iff_toInt_le, Int32.reduceToInt, ← Int32.toInt_inj] at h_10 h_11 h_12
  refine v_tableOut hC dX5_cutToWidth_4 (tgt := 46) (by omega) (by decide) ?_
  refine v_lload_n hC dX5_cutToWidth_46 rfl ?_
  exact hR _ _ _ _ _ _ _ dX5_cutToWidth_47 (Nat.le_of_ble_eq_true rfl) (Nat.le_of_ble_eq_true rfl) ⟨rfl, rfl⟩
set_option maxRecDepth 100000 in
set_option maxHeartbeats 4000000 in
theorem p_X5_set {l : Launch} {E : Ez} {L : List Nat} {f : Nat → va_E} {T : Nat → va_E → Prop} {a_0 : Nat} {a_1 : Int32} {a_2 : Int64} (hW : WT T L f) (k_0 : isSlot T L E a_0) : CV l yX5_set cX5_set 4 1 0 0 E [.ref a_0, .int a_1, .long a_2] L f (fun L1 f1 => L = L1 ∧ WT T L f1 ∧ FR [160] f f1) := by
  refine cv_of (by decide) (Nat.le_of_ble_eq_true rfl) (fun z hz hnm hC hR => ?_)
  have hC : Cx z E cX5_set RX5 4 1 0 0 := hC
  subst hz
  show V z E 4 0 0 L f 0 [(0, .ref a_0), (1, .int a_1), (2, .long a_2)] []
  refine v_iload_n hC dX5_set_0 rfl ?_
  refine v_if_lt hC dX5_set_1 (tgt := 21) (by decide) (fun h_1 => ?_) (fun h_1 => ?_)
  · simp only [Int32.lt_iff_toInt_lt, Int32.le_iff_toInt_le, Int32.reduceToInt, ← Int32.toInt_inj] at h_1
    exact hR _ _ _ _ _ _ dX5_set_21 (Nat.le_of_ble_eq_true rfl) (Nat.le_of_ble_eq_true rfl) ⟨rfl, hW, FR.rf⟩
  · simp only [Int32.lt_iff_toInt_lt, Int32.le_iff_toInt_le, Int32.reduceToInt, ← Int32.toInt_inj] at h_1
    refine v_iload_n hC dX5_set_4 rfl ?_
    refine v_bipush hC dX5_set_5 (v := 60) (by decide) ?_
    refine v_icmp_ge hC dX5_set_7 (tgt := 21) (by decide) (fun h_2 => ?_) (fun h_2 => ?_)
    · simp only [Int32.lt_iff_toInt_lt, Int32.le_iff_toInt_le, Int32.reduceToInt, ← Int32.toInt_inj] at h_2
      exact hR _ _ _ _ _ _ dX5_set_21 (Nat.le_of_ble_eq_true rfl) (Nat.le_of_ble_eq_true rfl) ⟨rfl, hW, FR.rf⟩
    · simp only [Int32.lt_iff_toInt_lt, Int32.le_iff_toInt_le, Int32.reduceToInt, ← Int32.toInt_inj] at h_2
      refine v_aload_n hC dX5_set_10 rfl ?_
      obtain ⟨m_3, q_5, t_4, k_6⟩ := id k_0
      obtain ⟨v_8, v_10, e_7, b_9, b_11⟩ := hW.at m_3 t_4
      refine v_get hC fl_X5_9 m_3 e_7 rfl dX5_set_11 ?_
      refine v_iload_n hC dX5_set_14 rfl ?_
      refine v_aload_n hC dX5_set_15 rfl ?_
      refine v_lload_n hC dX5_set_16 rfl ?_
      refine v_vj hC (rest := [.int a_1, .ref q_5]) m_3 e_7 rfl mi_X5_cutToWidth ms_X5_cutToWidth (p_X5_cutToWidth hW k_0) mx_X5_cutToWidth ml_X5_28 (by decide) rfl (cells1 := 0) (slots1 := 0) (by decide) (by decide) (Nat.le_of_ble_eq_true rfl) (Nat.le_of_ble_eq_true rfl) rfl (Nat.le_of_ble_eq_true rfl) dX5_set_17 (fun r_12 L_13 f_14 h_15 => ?_)
      obtain ⟨rfl, rfl⟩ := h_15
      obtain ⟨m_18, t_19⟩ := id k_6
      obtain ⟨g_21, e_20⟩ := hW.at m_18 t_19
      refine v_last hC m_18 e_20 (vp_in_iff.mpr (by first | omega | (simp only [Int32.lt_iff_toInt_lt, Int32.le_iff_toInt_le, Int32.reduceToInt, ← Int32.toInt_inj]; omega))) dX5_set_20 (fun f_22 hf_23 hk_24 => ?_)
      have hW_26 := hW.up hf_23 hk_24 t_19 ⟨_, rfl⟩
      obtain ⟨g_25, hf_23⟩ : ∃ g9, f_22 q_5 = aJ E 60 g9 := ⟨_, hf_23⟩
      have hf_27 := (hk_24 a_0 (ne_kd e_7 e_20 rfl)).trans e_7
      have fr_28 := FR.w hk_24 e_20 (k := 160) rfl
      exact hR _ _ _ _ _ _ dX5_set_21 (Nat.le_of_ble_eq_true rfl) (Nat.le_of_ble_eq_true rfl) ⟨rfl, hW_26, (fr_28.mono rfl)⟩
set_option maxRecDepth 100000 in
set_option maxHeartbeats 4000000 in
theorem p_X5_isZero {l : Launch} {E : Ez} {L : List Nat} {f : Nat → va_E} {T : Nat → va_E → Prop} {a_0 : Nat} {a_1 : Int32} (hW : WT T L f) (k_0 : isSlot T L E a_0) : CI l yX5_isZero cX5_isZero 2 .boolean 0 0 0 E [.ref a_0, .int a_1] L f (fun r L1 f1 => L = L1 ∧ f = f1 ∧ (0 ≤ r.toInt ∧ r.toInt ≤ 1) ∧ (¬ r.toInt = 0 ∨ (0 ≤ a_1.toInt ∧ a_1.toInt ≤ 59))) := by
  refine ci_of (by decide) (Nat.le_of_ble_eq_true rfl) (fun z hz hnm hC hR => ?_)
  have hC : Cx z E cX5_isZero RX5 2 0 0 0 := hC
  subst hz
  show V z E 2 0 0 L f 0 [(0, .ref a_0), (1, .int a_1)] []
  refine v_iload_n hC dX5_isZero_0 rfl ?_
  refine v_if_lt hC dX5_isZero_1 (tgt := 21) (by decide) (fun h_1 => ?_) (fun h_1 => ?_)
  · simp only [Int32.lt_iff_toInt_lt, Int32.le_iff_toInt_le, Int32.reduceToInt, ← Int32.toInt_inj] at h_1
    refine v_iconst hC dX5_isZero_21 (v := 1) (by decide) ?_
    refine v_goto hC dX5_isZero_22 (tgt := 26) (by decide) ?_
    exact hR _ _ _ _ _ _ _ dX5_isZero_26 rfl (Nat.le_of_ble_eq_true rfl) (Nat.le_of_ble_eq_true rfl) ⟨rfl, rfl, (by decide), (.inl (by decide))⟩
  · simp only [Int32.lt_iff_toInt_lt, Int32.le_iff_toInt_le, Int32.reduceToInt, ← Int32.toInt_inj] at h_1
    refine v_iload_n hC dX5_isZero_4 rfl ?_
    refine v_bipush hC dX5_isZero_5 (v := 60) (by decide) ?_
    refine v_icmp_ge hC dX5_isZero_7 (tgt := 21) (by decide) (fun h_2 => ?_) (fun h_2 => ?_)
    · simp only [Int32.lt_iff_toInt_lt, Int32.le_iff_toInt_le, Int32.reduceToInt, ← Int32.toInt_inj] at h_2
      refine v_iconst hC dX5_isZero_21 (v := 1) (by decide) ?_
      refine v_goto hC dX5_isZero_22 (tgt := 26) (by decide) ?_
      exact hR _ _ _ _ _ _ _ dX5_isZero_26 rfl (Nat.le_of_ble_eq_true rfl) (Nat.le_of_ble_eq_true rfl) ⟨rfl, rfl, (by decide), (.inl (by decide))⟩
    · simp only [Int32.lt_iff_toInt_lt, Int32.le_iff_toInt_le, Int32.reduceToInt, ← Int32.toInt_inj] at h_2
      refine v_aload_n hC dX5_isZero_10 rfl ?_
      obtain ⟨m_3, q_5, t_4, k_6⟩ := id k_0
      obtain ⟨v_8, v_10, e_7, b_9, b_11⟩ := hW.at m_3 t_4
      refine v_get hC fl_X5_9 m_3 e_7 rfl dX5_isZero_11 ?_
      refine v_iload_n hC dX5_isZero_14 rfl ?_
      obtain ⟨m_12, t_13⟩ := id k_6
      obtain ⟨g_15, e_14⟩ := hW.at m_12 t_13
      obtain ⟨v_16, h_17⟩ : ∃ v9 : Int64, g_15 (a_1 : Int32).toNatClampNeg = v9 := ⟨_, rfl⟩
      refine v_lald hC m_12 e_14 (vp_in_iff.mpr (by first | omega | (simp only [Int32.lt_iff_toInt_lt, Int32.le_iff_toInt_le, Int32.reduceToInt, ← Int32.toInt_inj]; omega))) h_17 dX5_isZero_15 ?_
      refine v_lconst hC dX5_isZero_16 (v := 0) (by decide) ?_
      obtain ⟨v_18, h_19⟩ : ∃ v9 : Int32, lg_cmp v_16 0 = v9 := ⟨_, rfl⟩
      refine v_lcmp hC dX5_isZero_17 h_19 ?_
      refine v_if_ne hC dX5_isZero_18 (tgt := 25) (by decide) (fun h_20 => ?_) (fun h_20 => ?_)
      · have h_21 := h_20
        refine v_iconst hC dX5_isZero_25 (v := 0) (by decide) ?_
        exact hR _ _ _ _ _ _ _ dX5_isZero_26 rfl (Nat.le_of_ble_eq_true rfl) (Nat.le_of_ble_eq_true rfl) ⟨rfl, rfl, (by decide), (.inr (by first | omega | (simp only [Int32.lt_iff_toInt_lt, Int32.le_iff_toInt_le, Int32.reduceToInt, ← Int32.toInt_inj]; omega)))⟩
      · have h_22 := h_20
        refine v_iconst hC dX5_isZero_21 (v := 1) (by decide) ?_
        refine v_goto hC dX5_isZero_22 (tgt := 26) (by decide) ?_
        exact hR _ _ _ _ _ _ _ dX5_isZero_26 rfl (Nat.le_of_ble_eq_true rfl) (Nat.le_of_ble_eq_true rfl) ⟨rfl, rfl, (by decide), (.inl (by decide))⟩
set_option maxRecDepth 100000 in
set_option maxHeartbeats 4000000 in
theorem p_X0_takeFrom {l : Launch} {E : Ez} {L : List Nat} {f : Nat → va_E} {T : Nat → va_E → Prop} {a_0 : Nat} {a_1 : Nat} (hW : WT T L f) (k_0 : isBas T L E a_0) (k_1 : isBas T L E a_1) : CV l yX0_takeFrom cX0_takeFrom 3 2 0 0 E [.ref a_0, .ref a_1] L f (fun L1 f1 => L = L1 ∧ WT T L f1 ∧ FR [1, 3, 4, 9, 10, 103, 112, 356, 400] f f1) := by
  refine cv_of (by decide) (Nat.le_of_ble_eq_true rfl) (fun z hz hnm hC hR => ?_)
  have hC : Cx z E cX0_takeFrom RX0 3 2 0 0 := hC
  subst hz
  show V z E 3 0 0 L f 0 [(0, .ref a_0), (1, .ref a_1)] []
  refine v_aload_n hC dX0_takeFrom_0 rfl ?_
  obtain ⟨m_1, q_3, q_4, q_5, q_6, q_7, q_8, t_2, k_9, k_10, k_11, k_12, k_13, k_14⟩ := id k_0
  have e_15 : f a_0 = ob 0 [.ref q_3, .ref q_4, .ref q_5, .ref q_6, .ref q_7, .ref q_8] := hW.at m_1 t_2
  refine v_get hC fl_X0_12 m_1 e_15 rfl dX0_takeFrom_1 ?_
  refine v_aload_n hC dX0_takeFrom_4 rfl ?_
  obtain ⟨m_16, q_18, q_19, q_20, q_21, q_22, q_23, t_17, k_24, k_25, k_26, k_27, k_28, k_29⟩ := id k_1
  have e_30 : f a_1 = ob 0 [.ref q_18, .ref q_19, .ref q_20, .ref q_21, .ref q_22, .ref q_23] := hW.at m_16 t_17
  refine v_get hC fl_X0_12 m_16 e_30 rfl dX0_takeFrom_5 ?_
  obtain ⟨m_31, q_33, q_34, t_32, k_35, k_36⟩ := id k_9
  obtain ⟨v_38, v_40, v_42, e_37, b_39, b_41, b_43⟩ := hW.at m_31 t_32
  refine v_vv hC (rest := []) m_31 e_37 rfl mi_X4_takeFrom ms_X4_takeFrom (p_X4_takeFrom hW k_9 k_24) mx_X4_takeFrom ml_X0_50 (by decide) rfl (cells1 := 0) (slots1 := 0) (by decide) (by decide) (Nat.le_of_ble_eq_true rfl) (Nat.le_of_ble_eq_true rfl) rfl (Nat.le_of_ble_eq_true rfl) dX0_takeFrom_8 (fun L_45 f_46 h_47 => ?_)
  obtain ⟨rfl, hW_48, hF_49⟩ := h_47
  have hf_50 := hF_49.at e_15 rfl
  have hf_51 := hF_49.at e_30 rfl
  refine v_aload_n hC dX0_takeFrom_11 rfl ?_
  refine v_get hC fl_X0_18 m_16 hf_51 rfl dX0_takeFrom_12 ?_
  refine v_iconst hC dX0_takeFrom_15 (v := 0) (by decide) ?_
  refine v_aload_n hC dX0_takeFrom_16 rfl ?_
  refine v_get hC fl_X0_18 m_1 hf_50 rfl dX0_takeFrom_17 ?_
  refine v_iconst hC dX0_takeFrom_20 (v := 0) (by decide) ?_
  refine v_iconst hC dX0_takeFrom_21 (v := 3) (by decide) ?_
  obtain ⟨m_52, t_53⟩ := id k_25
  obtain ⟨g_55, e_54⟩ := hW_48.at m_52 t_53
  obtain ⟨m_56, t_57⟩ := id k_10
  obtain ⟨g_59, e_58⟩ := hW_48.at m_56 t_57
  refine v_copyi hC mo_X0_54 cp_n_ cp_s_ cp_i_ m_52 e_54 m_56 e_58 (by decide) (by decide) (by decide) (by decide) (by decide) (by decide) (Nat.le_of_ble_eq_true rfl) dX0_takeFrom_22 (fun f_60 hf_61 hk_62 => ?_)
  have hW_63 := hW_48.up hf_61 hk_62 t_57 ⟨_, rfl⟩
  obtain ⟨g_64, hf_61⟩ : ∃ g9, f_60 q_4 = aI E 3 g9 := ⟨_, hf_61⟩
  have hf_65 := (hk_62 a_0 (ne_kd hf_50 e_58 rfl)).trans hf_50
  have hf_66 := (hk_62 a_1 (ne_kd hf_51 e_58 rfl)).trans hf_51
  have fr_67 := FR.w hk_62 e_58 (k := 103) rfl
  refine v_iconst hC dX0_takeFrom_25 (v := 0) (by decide) ?_
  refine v_istore_n hC dX0_takeFrom_26 (by decide) (lv' := [(2, .int 0), (0, .ref a_0), (1, .ref a_1)]) rfl ?_
  have lp_1546 : ∀ (n_1547 : Nat) (f_1539 : Nat → va_E) (hW_1540 : WT T L f_1539) (hF_1541 : FR [10] f_60 f_1539) (i_1538 : Int32) (b_1545 : (0 ≤ i_1538.toInt ∧ i_1538.toInt ≤ 6)) (hm_1549 : 6 - i_1538.toInt < (n_1547 : Int)), V z E 3 0 0 L f_1539 27 [(2, .int i_1538), (0, .ref a_0), (1, .ref a_1)] [] := by
    intro n_1547
    induction n_1547 with
    | zero =>
      intro f_1539 hW_1540 hF_1541 i_1538 b_1545 hm_1549
      have hf_1542 := hF_1541.at hf_65 rfl
      have hf_1543 := hF_1541.at hf_66 rfl
      have hf_1544 := hF_1541.at hf_61 rfl
      exfalso; omega
    | succ n_1547 ih_1548 =>
      intro f_1539 hW_1540 hF_1541 i_1538 b_1545 hm_1549
      have hf_1542 := hF_1541.at hf_65 rfl
      have hf_1543 := hF_1541.at hf_66 rfl
      have hf_1544 := hF_1541.at hf_61 rfl
      refine v_iload_n hC dX0_takeFrom_27 rfl ?_
      refine v_bipush hC dX0_takeFrom_28 (v := 6) (by decide) ?_
      refine v_icmp_ge hC dX0_takeFrom_30 (tgt := 54) (by decide) (fun h_1550 => ?_) (fun h_1550 => ?_)
      · simp only [Int32.lt_iff_toInt_lt, Int32.le_iff_toInt_le, Int32.reduceToInt, ← Int32.toInt_inj] at h_1550
        refine v_aload_n hC dX0_takeFrom_54 rfl ?_
        refine v_get hC fl_X0_31 m_1 hf_1542 rfl dX0_takeFrom_55 ?_
        refine v_aload_n hC dX0_takeFrom_58 rfl ?_
        refine v_get hC fl_X0_31 m_16 hf_1543 rfl dX0_takeFrom_59 ?_
        obtain ⟨m_1596, q_1598, t_1597, k_1599⟩ := id k_12
        obtain ⟨v_1601, v_1603, e_1600, b_1602⟩ := hW_1540.at m_1596 t_1597
        refine v_vv hC (rest := []) m_1596 e_1600 rfl mi_X9_takeFrom ms_X9_takeFrom (p_X9_takeFrom hW_1540 k_12 k_27) mx_X9_takeFrom ml_X0_63 (by decide) rfl (cells1 := 0) (slots1 := 0) (by decide) (by decide) (Nat.le_of_ble_eq_true rfl) (Nat.le_of_ble_eq_true rfl) rfl (Nat.le_of_ble_eq_true rfl) dX0_takeFrom_62 (fun L_1605 f_1606 h_1607 => ?_)
        obtain ⟨rfl, hW_1608, hF_1609⟩ := h_1607
        have hf_1610 := hF_1609.at hf_1542 rfl
        have hf_1611 := hF_1609.at hf_1543 rfl
        have hf_1612 := hF_1609.at hf_1544 rfl
        refine v_aload_n hC dX0_takeFrom_65 rfl ?_
        refine v_get hC fl_X0_38 m_1 hf_1610 rfl dX0_takeFrom_66 ?_
        refine v_aload_n hC dX0_takeFrom_69 rfl ?_
        refine v_get hC fl_X0_38 m_16 hf_1611 rfl dX0_takeFrom_70 ?_
        obtain ⟨m_1613, q_1615, q_1616, q_1617, t_1614, k_1618, k_1619, k_1620⟩ := id k_13
        obtain ⟨v_1622, e_1621, b_1623⟩ := hW_1608.at m_1613 t_1614
        refine v_vv hC (rest := []) m_1613 e_1621 rfl mi_X3_takeFrom ms_X3_takeFrom (p_X3_takeFrom hW_1608 k_13 k_28) mx_X3_takeFrom ml_X0_66 (by decide) rfl (cells1 := 0) (slots1 := 0) (by decide) (by decide) (Nat.le_of_ble_eq_true rfl) (Nat.le_of_ble_eq_true rfl) rfl (Nat.le_of_ble_eq_true rfl) dX0_takeFrom_73 (fun L_1625 f_1626 h_1627 => ?_)
        obtain ⟨rfl, hW_1628, hF_1629⟩ := h_1627
        have hf_1630 := hF_1629.at hf_1610 rfl
        have hf_1631 := hF_1629.at hf_1611 rfl
        have hf_1632 := hF_1629.at hf_1612 rfl
        refine v_iconst hC dX0_takeFrom_76 (v := 0) (by decide) ?_
        refine v_istore_n hC dX0_takeFrom_77 (by decide) (lv' := [(2, .int 0), (0, .ref a_0), (1, .ref a_1)]) rfl ?_
        have lp_1823 : ∀ (n_1824 : Nat) (f_1816 : Nat → va_E) (hW_1817 : WT T L f_1816) (hF_1818 : FR [1, 356] f_1626 f_1816) (i_1815 : Int32) (b_1822 : (0 ≤ i_1815.toInt ∧ i_1815.toInt ≤ 4)) (hm_1826 : 4 - i_1815.toInt < (n_1824 : Int)), V z E 3 0 0 L f_1816 78 [(2, .int i_1815), (0, .ref a_0), (1, .ref a_1)] [] := by
          intro n_1824
          induction n_1824 with
          | zero =>
            intro f_1816 hW_1817 hF_1818 i_1815 b_1822 hm_1826
            have hf_1819 := hF_1818.at hf_1630 rfl
            have hf_1820 := hF_1818.at hf_1631 rfl
            have hf_1821 := hF_1818.at hf_1632 rfl
            exfalso; omega
          | succ n_1824 ih_1825 =>
            intro f_1816 hW_1817 hF_1818 i_1815 b_1822 hm_1826
            have hf_1819 := hF_1818.at hf_1630 rfl
            have hf_1820 := hF_1818.at hf_1631 rfl
            have hf_1821 := hF_1818.at hf_1632 rfl
            refine v_iload_n hC dX0_takeFrom_78 rfl ?_
            refine v_iconst hC dX0_takeFrom_79 (v := 4) (by decide) ?_
            refine v_icmp_ge hC dX0_takeFrom_80 (tgt := 104) (by decide) (fun h_1827 => ?_) (fun h_1827 => ?_)
            · simp only [Int32.lt_iff_toInt_lt, Int32.le_iff_toInt_le, Int32.reduceToInt, ← Int32.toInt_inj] at h_1827
              exact hR _ _ _ _ _ _ dX0_takeFrom_104 (Nat.le_of_ble_eq_true rfl) (Nat.le_of_ble_eq_true rfl) ⟨rfl, hW_1817, ((((((hF_49.tr fr_67).tr hF_1541).tr hF_1609).tr hF_1629).tr hF_1818).mono rfl)⟩
            · simp only [Int32.lt_iff_toInt_lt, Int32.le_iff_toInt_le, Int32.reduceToInt, ← Int32.toInt_inj] at h_1827
              refine v_aload_n hC dX0_takeFrom_83 rfl ?_
              refine v_get hC fl_X0_44 m_1 hf_1819 rfl dX0_takeFrom_84 ?_
              refine v_iload_n hC dX0_takeFrom_87 rfl ?_
              obtain ⟨m_1828, g_1830, t_1829, k_1831⟩ := id k_14
              have e_1832 : f_1816 q_8 = aR E 5 4 g_1830 := hW_1817.at m_1828 t_1829
              obtain ⟨q_1833, h_1834, k_1835⟩ := k_1831 (i_1815 : Int32).toNatClampNeg (clamp_lt (vp_in_iff.mpr (by first | omega | (simp only [Int32.lt_iff_toInt_lt, Int32.le_iff_toInt_le, Int32.reduceToInt, ← Int32.toInt_inj]; omega))))
              refine v_aald hC m_1828 e_1832 rfl (vp_in_iff.mpr (by first | omega | (simp only [Int32.lt_iff_toInt_lt, Int32.le_iff_toInt_le, Int32.reduceToInt, ← Int32.toInt_inj]; omega))) (v := .ref q_1833) (by rw [h_1834]; rfl) dX0_takeFrom_88 ?_
              refine v_aload_n hC dX0_takeFrom_89 rfl ?_
              refine v_get hC fl_X0_44 m_16 hf_1820 rfl dX0_takeFrom_90 ?_
              refine v_iload_n hC dX0_takeFrom_93 rfl ?_
              obtain ⟨m_1836, g_1838, t_1837, k_1839⟩ := id k_29
              have e_1840 : f_1816 q_23 = aR E 5 4 g_1838 := hW_1817.at m_1836 t_1837
              obtain ⟨q_1841, h_1842, k_1843⟩ := k_1839 (i_1815 : Int32).toNatClampNeg (clamp_lt (vp_in_iff.mpr (by first | omega | (simp only [Int32.lt_iff_toInt_lt, Int32.le_iff_toInt_le, Int32.reduceToInt, ← Int32.toInt_inj]; omega))))
              refine v_aald hC m_1836 e_1840 rfl (vp_in_iff.mpr (by first | omega | (simp only [Int32.lt_iff_toInt_lt, Int32.le_iff_toInt_le, Int32.reduceToInt, ← Int32.toInt_inj]; omega))) (v := .ref q_1841) (by rw [h_1842]; rfl) dX0_takeFrom_94 ?_
              obtain ⟨m_1844, q_1846, t_1845, k_1847⟩ := id k_1835
              obtain ⟨v_1849, e_1848, b_1850⟩ := hW_1817.at m_1844 t_1845
              refine v_vv hC (rest := []) m_1844 e_1848 rfl mi_X1_takeFrom ms_X1_takeFrom (p_X1_takeFrom hW_1817 k_1835 k_1843) mx_X1_takeFrom ml_X0_69 (by decide) rfl (cells1 := 0) (slots1 := 0) (by decide) (by decide) (Nat.le_of_ble_eq_true rfl) (Nat.le_of_ble_eq_true rfl) rfl (Nat.le_of_ble_eq_true rfl) dX0_takeFrom_95 (fun L_1852 f_1853 h_1854 => ?_)
              obtain ⟨rfl, hW_1855, hF_1856⟩ := h_1854
              have hf_1857 := hF_1856.at hf_1819 rfl
              have hf_1858 := hF_1856.at hf_1820 rfl
              have hf_1859 := hF_1856.at hf_1821 rfl
              have hf_1860 := hF_1856.at e_1832 rfl
              have hf_1861 := hF_1856.at e_1840 rfl
              obtain ⟨v_1862, h_1863⟩ : ∃ v9 : Int32, i_1815 + Int32.ofInt 1 = v9 := ⟨_, rfl⟩
              have h_1864 := add_v (b := 1) h_1863 (by first | omega | (simp only [Int32.lt_iff_toInt_lt, Int32.le_iff_toInt_le, Int32.reduceToInt, ← Int32.toInt_inj]; omega)) (by first | omega | (simp only [Int32.lt_iff_toInt_lt, Int32.le_iff_toInt_le, Int32.reduceToInt, ← Int32.toInt_inj]; omega))
              simp only [Int32.reduceToInt] at h_1864
              refine v_iinc hC dX0_takeFrom_98 (k := 0) rfl (v := v_1862) h_1863 (by decide) (lv' := [(2, .int v_1862), (0, .ref a_0), (1, .ref a_1)]) rfl ?_
              refine v_goto hC dX0_takeFrom_101 (tgt := 78) (by decide) ?_
              refine v_pick [0, 1, 2] rfl ?_
              exact ih_1825 f_1853 hW_1855 ((hF_1818.tr hF_1856).mono rfl) v_1862 (by first | omega | (simp only [Int32.lt_iff_toInt_lt, Int32.le_iff_toInt_le, Int32.reduceToInt, ← Int32.toInt_inj]; omega)) (by first | omega | (simp only [Int32.lt_iff_toInt_lt, Int32.le_iff_toInt_le, Int32.reduceToInt, ← Int32.toInt_inj]; omega))
        refine v_pick [0, 1, 2] rfl ?_
        exact lp_1823 6 f_1626 hW_1628 FR.rf 0 (by decide) (by decide)
      · simp only [Int32.lt_iff_toInt_lt, Int32.le_iff_toInt_le, Int32.reduceToInt, ← Int32.toInt_inj] at h_1550
        refine v_aload_n hC dX0_takeFrom_33 rfl ?_
        refine v_get hC fl_X0_24 m_1 hf_1542 rfl dX0_takeFrom_34 ?_
        refine v_iload_n hC dX0_takeFrom_37 rfl ?_
        obtain ⟨m_1865, g_1867, t_1866, k_1868⟩ := id k_11
        have e_1869 : f_1539 q_5 = aR E 7 6 g_1867 := hW_1540.at m_1865 t_1866
        obtain ⟨q_1870, h_1871, k_1872⟩ := k_1868 (i_1538 : Int32).toNatClampNeg (clamp_lt (vp_in_iff.mpr (by first | omega | (simp only [Int32.lt_iff_toInt_lt, Int32.le_iff_toInt_le, Int32.reduceToInt, ← Int32.toInt_inj]; omega))))
        refine v_aald hC m_1865 e_1869 rfl (vp_in_iff.mpr (by first | omega | (simp only [Int32.lt_iff_toInt_lt, Int32.le_iff_toInt_le, Int32.reduceToInt, ← Int32.toInt_inj]; omega))) (v := .ref q_1870) (by rw [h_1871]; rfl) dX0_takeFrom_38 ?_
        refine v_aload_n hC dX0_takeFrom_39 rfl ?_
        refine v_get hC fl_X0_24 m_16 hf_1543 rfl dX0_takeFrom_40 ?_
        refine v_iload_n hC dX0_takeFrom_43 rfl ?_
        obtain ⟨m_1873, g_1875, t_1874, k_1876⟩ := id k_26
        have e_1877 : f_1539 q_20 = aR E 7 6 g_1875 := hW_1540.at m_1873 t_1874
        obtain ⟨q_1878, h_1879, k_1880⟩ := k_1876 (i_1538 : Int32).toNatClampNeg (clamp_lt (vp_in_iff.mpr (by first | omega | (simp only [Int32.lt_iff_toInt_lt, Int32.le_iff_toInt_le, Int32.reduceToInt, ← Int32.toInt_inj]; omega))))
        refine v_aald hC m_1873 e_1877 rfl (vp_in_iff.mpr (by first | omega | (simp only [Int32.lt_iff_toInt_lt, Int32.le_iff_toInt_le, Int32.reduceToInt, ← Int32.toInt_inj]; omega))) (v := .ref q_1878) (by rw [h_1879]; rfl) dX0_takeFrom_44 ?_
        obtain ⟨m_1881, t_1882⟩ := id k_1872
        obtain ⟨v_1884, v_1886, v_1887, v_1888, v_1890, v_1892, v_1894, e_1883, b_1885, b_1889, b_1891, b_1893, b_1895⟩ := hW_1540.at m_1881 t_1882
        refine v_vv hC (rest := []) m_1881 e_1883 rfl mi_X10_takeFrom ms_X10_takeFrom (p_X10_takeFrom hW_1540 k_1872 k_1880) mx_X10_takeFrom ml_X0_60 (by decide) rfl (cells1 := 0) (slots1 := 0) (by decide) (by decide) (Nat.le_of_ble_eq_true rfl) (Nat.le_of_ble_eq_true rfl) rfl (Nat.le_of_ble_eq_true rfl) dX0_takeFrom_45 (fun L_1897 f_1898 h_1899 => ?_)
        obtain ⟨rfl, hW_1900, hF_1901⟩ := h_1899
        have hf_1902 := hF_1901.at hf_1542 rfl
        have hf_1903 := hF_1901.at hf_1543 rfl
        have hf_1904 := hF_1901.at hf_1544 rfl
        have hf_1905 := hF_1901.at e_1869 rfl
        have hf_1906 := hF_1901.at e_1877 rfl
        obtain ⟨v_1907, h_1908⟩ : ∃ v9 : Int32, i_1538 + Int32.ofInt 1 = v9 := ⟨_, rfl⟩
        have h_1909 := add_v (b := 1) h_1908 (by first | omega | (simp only [Int32.lt_iff_toInt_lt, Int32.le_iff_toInt_le, Int32.reduceToInt, ← Int32.toInt_inj]; omega)) (by first | omega | (simp only [Int32.lt_iff_toInt_lt, Int32.le_iff_toInt_le, Int32.reduceToInt, ← Int32.toInt_inj]; omega))
        simp only [Int32.reduceToInt] at h_1909
        refine v_iinc hC dX0_takeFrom_48 (k := 0) rfl (v := v_1907) h_1908 (by decide) (lv' := [(2, .int v_1907), (0, .ref a_0), (1, .ref a_1)]) rfl ?_
        refine v_goto hC dX0_takeFrom_51 (tgt := 27) (by decide) ?_
        refine v_pick [0, 1, 2] rfl ?_
        exact ih_1548 f_1898 hW_1900 ((hF_1541.tr hF_1901).mono rfl) v_1907 (by first | omega | (simp only [Int32.lt_iff_toInt_lt, Int32.le_iff_toInt_le, Int32.reduceToInt, ← Int32.toInt_inj]; omega)) (by first | omega | (simp only [Int32.lt_iff_toInt_lt, Int32.le_iff_toInt_le, Int32.reduceToInt, ← Int32.toInt_inj]; omega))
  refine v_pick [0, 1, 2] rfl ?_
  exact lp_1546 8 f_60 hW_63 FR.rf 0 (by decide) (by decide)
set_option maxRecDepth 100000 in
set_option maxHeartbeats 4000000 in
theorem p_X0_dropCloths {l : Launch} {E : Ez} {L : List Nat} {f : Nat → va_E} {T : Nat → va_E → Prop} {a_0 : Nat} (hW : WT T L f) (k_0 : isBas T L E a_0) : CV l yX0_dropCloths cX0_dropCloths 2 0 0 0 E [.ref a_0] L f (fun L1 f1 => L = L1 ∧ WT T L f1 ∧ FR [1] f f1) := by
  refine cv_of (by decide) (Nat.le_of_ble_eq_true rfl) (fun z hz hnm hC hR => ?_)
  have hC : Cx z E cX0_dropCloths RX0 2 0 0 0 := hC
  subst hz
  show V z E 2 0 0 L f 0 [(0, .ref a_0)] []
  refine v_iconst hC dX0_dropCloths_0 (v := 0) (by decide) ?_
  refine v_istore_n hC dX0_dropCloths_1 (by decide) (lv' := [(1, .int 0), (0, .ref a_0)]) rfl ?_
  have lp_188 : ∀ (n_189 : Nat) (f_184 : Nat → va_E) (hW_185 : WT T L f_184) (hF_186 : FR [1] f f_184) (i_183 : Int32) (b_187 : (0 ≤ i_183.toInt ∧ i_183.toInt ≤ 4)) (hm_191 : 4 - i_183.toInt < (n_189 : Int)), V z E 2 0 0 L f_184 2 [(1, .int i_183), (0, .ref a_0)] [] := by
    intro n_189
    induction n_189 with
    | zero =>
      intro f_184 hW_185 hF_186 i_183 b_187 hm_191
      exfalso; omega
    | succ n_189 ih_190 =>
      intro f_184 hW_185 hF_186 i_183 b_187 hm_191
      refine v_iload_n hC dX0_dropCloths_2 rfl ?_
      refine v_iconst hC dX0_dropCloths_3 (v := 4) (by decide) ?_
      refine v_icmp_ge hC dX0_dropCloths_4 (tgt := 23) (by decide) (fun h_192 => ?_) (fun h_192 => ?_)
      · simp only [Int32.lt_iff_toInt_lt, Int32.le_iff_toInt_le, Int32.reduceToInt, ← Int32.toInt_inj] at h_192
        exact hR _ _ _ _ _ _ dX0_dropCloths_23 (Nat.le_of_ble_eq_true rfl) (Nat.le_of_ble_eq_true rfl) ⟨rfl, hW_185, (hF_186.mono rfl)⟩
      · simp only [Int32.lt_iff_toInt_lt, Int32.le_iff_toInt_le, Int32.reduceToInt, ← Int32.toInt_inj] at h_192
        refine v_aload_n hC dX0_dropCloths_7 rfl ?_
        obtain ⟨m_193, q_195, q_196, q_197, q_198, q_199, q_200, t_194, k_201, k_202, k_203, k_204, k_205, k_206⟩ := id k_0
        have e_207 : f_184 a_0 = ob 0 [.ref q_195, .ref q_196, .ref q_197, .ref q_198, .ref q_199, .ref q_200] := hW_185.at m_193 t_194
        refine v_get hC fl_X0_44 m_193 e_207 rfl dX0_dropCloths_8 ?_
        refine v_iload_n hC dX0_dropCloths_11 rfl ?_
        obtain ⟨m_208, g_210, t_209, k_211⟩ := id k_206
        have e_212 : f_184 q_200 = aR E 5 4 g_210 := hW_185.at m_208 t_209
        obtain ⟨q_213, h_214, k_215⟩ := k_211 (i_183 : Int32).toNatClampNeg (clamp_lt (vp_in_iff.mpr (by first | omega | (simp only [Int32.lt_iff_toInt_lt, Int32.le_iff_toInt_le, Int32.reduceToInt, ← Int32.toInt_inj]; omega))))
        refine v_aald hC m_208 e_212 rfl (vp_in_iff.mpr (by first | omega | (simp only [Int32.lt_iff_toInt_lt, Int32.le_iff_toInt_le, Int32.reduceToInt, ← Int32.toInt_inj]; omega))) (v := .ref q_213) (by rw [h_214]; rfl) dX0_dropCloths_12 ?_
        refine v_iconst hC dX0_dropCloths_13 (v := 0) (by decide) ?_
        obtain ⟨m_216, q_218, t_217, k_219⟩ := id k_215
        obtain ⟨v_221, e_220, b_222⟩ := hW_185.at m_216 t_217
        refine v_putN hC fn_X0_72 m_216 e_220 rfl rfl (Nat.le_of_ble_eq_true rfl) (fs' := [.ref q_218, .int 0]) rfl dX0_dropCloths_14 (fun f_223 hf_224 hk_225 => ?_)
        have hW_226 := hW_185.up hf_224 hk_225 t_217 ⟨0, rfl, (by decide)⟩
        have hf_227 := (hk_225 a_0 (ne_kd e_207 e_220 rfl)).trans e_207
        have hf_228 := (hk_225 q_200 (ne_kd e_212 e_220 rfl)).trans e_212
        have fr_229 := FR.w hk_225 e_220 (k := 1) rfl
        obtain ⟨v_230, h_231⟩ : ∃ v9 : Int32, i_183 + Int32.ofInt 1 = v9 := ⟨_, rfl⟩
        have h_232 := add_v (b := 1) h_231 (by first | omega | (simp only [Int32.lt_iff_toInt_lt, Int32.le_iff_toInt_le, Int32.reduceToInt, ← Int32.toInt_inj]; omega)) (by first | omega | (simp only [Int32.lt_iff_toInt_lt, Int32.le_iff_toInt_le, Int32.reduceToInt, ← Int32.toInt_inj]; omega))
        simp only [Int32.reduceToInt] at h_232
        refine v_iinc hC dX0_dropCloths_17 (k := 0) rfl (v := v_230) h_231 (by decide) (lv' := [(1, .int v_230), (0, .ref a_0)]) rfl ?_
        refine v_goto hC dX0_dropCloths_20 (tgt := 2) (by decide) ?_
        refine v_pick [0, 1] rfl ?_
        exact ih_190 f_223 hW_226 ((hF_186.tr fr_229).mono rfl) v_230 (by first | omega | (simp only [Int32.lt_iff_toInt_lt, Int32.le_iff_toInt_le, Int32.reduceToInt, ← Int32.toInt_inj]; omega)) (by first | omega | (simp only [Int32.lt_iff_toInt_lt, Int32.le_iff_toInt_le, Int32.reduceToInt, ← Int32.toInt_inj]; omega))
  refine v_pick [0, 1] rfl ?_
  exact lp_188 6 f hW FR.rf 0 (by decide) (by decide)
set_option maxRecDepth 100000 in
set_option maxHeartbeats 4000000 in
theorem p_X0_waysThere {l : Launch} {E : Ez} {L : List Nat} {f : Nat → va_E} {T : Nat → va_E → Prop} {a_0 : Nat} (hW : WT T L f) (k_0 : isBas T L E a_0) : CI l yX0_waysThere cX0_waysThere 3 .int 0 0 0 E [.ref a_0] L f (fun r L1 f1 => L = L1 ∧ f = f1) := by
  refine ci_of (by decide) (Nat.le_of_ble_eq_true rfl) (fun z hz hnm hC hR => ?_)
  have hC : Cx z E cX0_waysThere RX0 3 0 0 0 := hC
  subst hz
  show V z E 3 0 0 L f 0 [(0, .ref a_0)] []
  refine v_iconst hC dX0_waysThere_0 (v := 0) (by decide) ?_
  refine v_istore_n hC dX0_waysThere_1 (by decide) (lv' := [(1, .int 0), (0, .ref a_0)]) rfl ?_
  refine v_iconst hC dX0_waysThere_2 (v := 0) (by decide) ?_
  refine v_istore_n hC dX0_waysThere_3 (by decide) (lv' := [(2, .int 0), (1, .int 0), (0, .ref a_0)]) rfl ?_
  have lp_264 : ∀ (n_265 : Nat) (i_261 : Int32) (b_263 : (0 ≤ i_261.toInt ∧ i_261.toInt ≤ 6)) (i_262 : Int32) (hm_267 : 6 - i_261.toInt < (n_265 : Int)), V z E 3 0 0 L f 4 [(2, .int i_261), (1, .int i_262), (0, .ref a_0)] [] := by
    intro n_265
    induction n_265 with
    | zero =>
      intro i_261 b_263 i_262 hm_267
      exfalso; omega
    | succ n_265 ih_266 =>
      intro i_261 b_263 i_262 hm_267
      refine v_iload_n hC dX0_waysThere_4 rfl ?_
      refine v_bipush hC dX0_waysThere_5 (v := 6) (by decide) ?_
      refine v_icmp_ge hC dX0_waysThere_7 (tgt := 31) (by decide) (fun h_268 => ?_) (fun h_268 => ?_)
      · simp only [Int32.lt_iff_toInt_lt, Int32.le_iff_toInt_le, Int32.reduceToInt, ← Int32.toInt_inj] at h_268
        refine v_iload_n hC dX0_waysThere_31 rfl ?_
        exact hR _ _ _ _ _ _ _ dX0_waysThere_32 rfl (Nat.le_of_ble_eq_true rfl) (Nat.le_of_ble_eq_true rfl) ⟨rfl, rfl⟩
      · simp only [Int32.lt_iff_toInt_lt, Int32.le_iff_toInt_le, Int32.reduceToInt, ← Int32.toInt_inj] at h_268
        refine v_aload_n hC dX0_waysThere_10 rfl ?_
        obtain ⟨m_269, q_271, q_272, q_273, q_274, q_275, q_276, t_270, k_277, k_278, k_279, k_280, k_281, k_282⟩ := id k_0
        have e_283 : f a_0 = ob 0 [.ref q_271, .ref q_272, .ref q_273, .ref q_274, .ref q_275, .ref q_276] := hW.at m_269 t_270
        refine v_get hC fl_X0_24 m_269 e_283 rfl dX0_waysThere_11 ?_
        refine v_iload_n hC dX0_waysThere_14 rfl ?_
        obtain ⟨m_284, g_286, t_285, k_287⟩ := id k_279
        have e_288 : f q_273 = aR E 7 6 g_286 := hW.at m_284 t_285
        obtain ⟨q_289, h_290, k_291⟩ := k_287 (i_261 : Int32).toNatClampNeg (clamp_lt (vp_in_iff.mpr (by first | omega | (simp only [Int32.lt_iff_toInt_lt, Int32.le_iff_toInt_le, Int32.reduceToInt, ← Int32.toInt_inj]; omega))))
        refine v_aald hC m_284 e_288 rfl (vp_in_iff.mpr (by first | omega | (simp only [Int32.lt_iff_toInt_lt, Int32.le_iff_toInt_le, Int32.reduceToInt, ← Int32.toInt_inj]; omega))) (v := .ref q_289) (by rw [h_290]; rfl) dX0_waysThere_15 ?_
        obtain ⟨m_292, t_293⟩ := id k_291
        obtain ⟨v_295, v_297, v_298, v_299, v_301, v_303, v_305, e_294, b_296, b_300, b_302, b_304, b_306⟩ := hW.at m_292 t_293
        refine v_getN hC fn_X0_76 m_292 e_294 rfl dX0_waysThere_16 ?_
        refine v_if_eq hC dX0_waysThere_19 (tgt := 25) (by decide) (fun h_307 => ?_) (fun h_307 => ?_)
        · simp only [Int32.lt_iff_toInt_lt, Int32.le_iff_toInt_le, Int32.reduceToInt, ← Int32.toInt_inj] at h_307
          obtain ⟨v_308, h_309⟩ : ∃ v9 : Int32, i_261 + Int32.ofInt 1 = v9 := ⟨_, rfl⟩
          have h_310 := add_v (b := 1) h_309 (by first | omega | (simp only [Int32.lt_iff_toInt_lt, Int32.le_iff_toInt_le, Int32.reduceToInt, ← Int32.toInt_inj]; omega)) (by first | omega | (simp only [Int32.lt_iff_toInt_lt, Int32.le_iff_toInt_le, Int32.reduceToInt, ← Int32.toInt_inj]; omega))
          simp only [Int32.reduceToInt] at h_310
          refine v_iinc hC dX0_waysThere_25 (k := 0) rfl (v := v_308) h_309 (by decide) (lv' := [(2, .int v_308), (1, .int i_262), (0, .ref a_0)]) rfl ?_
          refine v_goto hC dX0_waysThere_28 (tgt := 4) (by decide) ?_
          refine v_pick [0, 1, 2] rfl ?_
          exact ih_266 v_308 (by first | omega | (simp only [Int32.lt_iff_toInt_lt, Int32.le_iff_toInt_le, Int32.reduceToInt, ← Int32.toInt_inj]; omega)) i_262 (by first | omega | (simp only [Int32.lt_iff_toInt_lt, Int32.le_iff_toInt_le, Int32.reduceToInt, ← Int32.toInt_inj]; omega))
        · simp only [Int32.lt_iff_toInt_lt, Int32.le_iff_toInt_le, Int32.reduceToInt, ← Int32.toInt_inj] at h_307
          obtain ⟨v_311, h_312⟩ : ∃ v9 : Int32, i_262 + Int32.ofInt 1 = v9 := ⟨_, rfl⟩
          refine v_iinc hC dX0_waysThere_22 (k := 1) rfl (v := v_311) h_312 (by decide) (lv' := [(1, .int v_311), (2, .int i_261), (0, .ref a_0)]) rfl ?_
          obtain ⟨v_313, h_314⟩ : ∃ v9 : Int32, i_261 + Int32.ofInt 1 = v9 := ⟨_, rfl⟩
          have h_315 := add_v (b := 1) h_314 (by first | omega | (simp only [Int32.lt_iff_toInt_lt, Int32.le_iff_toInt_le, Int32.reduceToInt, ← Int32.toInt_inj]; omega)) (by first | omega | (simp only [Int32.lt_iff_toInt_lt, Int32.le_iff_toInt_le, Int32.reduceToInt, ← Int32.toInt_inj]; omega))
          simp only [Int32.reduceToInt] at h_315
          refine v_iinc hC dX0_waysThere_25 (k := 1) rfl (v := v_313) h_314 (by decide) (lv' := [(2, .int v_313), (1, .int v_311), (0, .ref a_0)]) rfl ?_
          refine v_goto hC dX0_waysThere_28 (tgt := 4) (by decide) ?_
          refine v_pick [0, 1, 2] rfl ?_
          exact ih_266 v_313 (by first | omega | (simp only [Int32.lt_iff_toInt_lt, Int32.le_iff_toInt_le, Int32.reduceToInt, ← Int32.toInt_inj]; omega)) v_311 (by first | omega | (simp only [Int32.lt_iff_toInt_lt, Int32.le_iff_toInt_le, Int32.reduceToInt, ← Int32.toInt_inj]; omega))
  refine v_pick [0, 1, 2] rfl ?_
  exact lp_264 8 0 (by decide) 0 (by decide)
set_option maxRecDepth 100000 in
set_option maxHeartbeats 4000000 in
theorem p_X0_clothsThere {l : Launch} {E : Ez} {L : List Nat} {f : Nat → va_E} {T : Nat → va_E → Prop} {a_0 : Nat} (hW : WT T L f) (k_0 : isBas T L E a_0) : CI l yX0_clothsThere cX0_clothsThere 3 .int 0 0 0 E [.ref a_0] L f (fun r L1 f1 => L = L1 ∧ f = f1) := by
  refine ci_of (by decide) (Nat.le_of_ble_eq_true rfl) (fun z hz hnm hC hR => ?_)
  have hC : Cx z E cX0_clothsThere RX0 3 0 0 0 := hC
  subst hz
  show V z E 3 0 0 L f 0 [(0, .ref a_0)] []
  refine v_iconst hC dX0_clothsThere_0 (v := 0) (by decide) ?_
  refine v_istore_n hC dX0_clothsThere_1 (by decide) (lv' := [(1, .int 0), (0, .ref a_0)]) rfl ?_
  refine v_iconst hC dX0_clothsThere_2 (v := 0) (by decide) ?_
  refine v_istore_n hC dX0_clothsThere_3 (by decide) (lv' := [(2, .int 0), (1, .int 0), (0, .ref a_0)]) rfl ?_
  have lp_224 : ∀ (n_225 : Nat) (i_221 : Int32) (b_223 : (0 ≤ i_221.toInt ∧ i_221.toInt ≤ 4)) (i_222 : Int32) (hm_227 : 4 - i_221.toInt < (n_225 : Int)), V z E 3 0 0 L f 4 [(2, .int i_221), (1, .int i_222), (0, .ref a_0)] [] := by
    intro n_225
    induction n_225 with
    | zero =>
      intro i_221 b_223 i_222 hm_227
      exfalso; omega
    | succ n_225 ih_226 =>
      intro i_221 b_223 i_222 hm_227
      refine v_iload_n hC dX0_clothsThere_4 rfl ?_
      refine v_iconst hC dX0_clothsThere_5 (v := 4) (by decide) ?_
      refine v_icmp_ge hC dX0_clothsThere_6 (tgt := 30) (by decide) (fun h_228 => ?_) (fun h_228 => ?_)
      · simp only [Int32.lt_iff_toInt_lt, Int32.le_iff_toInt_le, Int32.reduceToInt, ← Int32.toInt_inj] at h_228
        refine v_iload_n hC dX0_clothsThere_30 rfl ?_
        exact hR _ _ _ _ _ _ _ dX0_clothsThere_31 rfl (Nat.le_of_ble_eq_true rfl) (Nat.le_of_ble_eq_true rfl) ⟨rfl, rfl⟩
      · simp only [Int32.lt_iff_toInt_lt, Int32.le_iff_toInt_le, Int32.reduceToInt, ← Int32.toInt_inj] at h_228
        refine v_aload_n hC dX0_clothsThere_9 rfl ?_
        obtain ⟨m_229, q_231, q_232, q_233, q_234, q_235, q_236, t_230, k_237, k_238, k_239, k_240, k_241, k_242⟩ := id k_0
        have e_243 : f a_0 = ob 0 [.ref q_231, .ref q_232, .ref q_233, .ref q_234, .ref q_235, .ref q_236] := hW.at m_229 t_230
        refine v_get hC fl_X0_44 m_229 e_243 rfl dX0_clothsThere_10 ?_
        refine v_iload_n hC dX0_clothsThere_13 rfl ?_
        obtain ⟨m_244, g_246, t_245, k_247⟩ := id k_242
        have e_248 : f q_236 = aR E 5 4 g_246 := hW.at m_244 t_245
        obtain ⟨q_249, h_250, k_251⟩ := k_247 (i_221 : Int32).toNatClampNeg (clamp_lt (vp_in_iff.mpr (by first | omega | (simp only [Int32.lt_iff_toInt_lt, Int32.le_iff_toInt_le, Int32.reduceToInt, ← Int32.toInt_inj]; omega))))
        refine v_aald hC m_244 e_248 rfl (vp_in_iff.mpr (by first | omega | (simp only [Int32.lt_iff_toInt_lt, Int32.le_iff_toInt_le, Int32.reduceToInt, ← Int32.toInt_inj]; omega))) (v := .ref q_249) (by rw [h_250]; rfl) dX0_clothsThere_14 ?_
        obtain ⟨m_252, q_254, t_253, k_255⟩ := id k_251
        obtain ⟨v_257, e_256, b_258⟩ := hW.at m_252 t_253
        refine v_getN hC fn_X0_72 m_252 e_256 rfl dX0_clothsThere_15 ?_
        refine v_if_eq hC dX0_clothsThere_18 (tgt := 24) (by decide) (fun h_259 => ?_) (fun h_259 => ?_)
        · simp only [Int32.lt_iff_toInt_lt, Int32.le_iff_toInt_le, Int32.reduceToInt, ← Int32.toInt_inj] at h_259
          obtain ⟨v_260, h_261⟩ : ∃ v9 : Int32, i_221 + Int32.ofInt 1 = v9 := ⟨_, rfl⟩
          have h_262 := add_v (b := 1) h_261 (by first | omega | (simp only [Int32.lt_iff_toInt_lt, Int32.le_iff_toInt_le, Int32.reduceToInt, ← Int32.toInt_inj]; omega)) (by first | omega | (simp only [Int32.lt_iff_toInt_lt, Int32.le_iff_toInt_le, Int32.reduceToInt, ← Int32.toInt_inj]; omega))
          simp only [Int32.reduceToInt] at h_262
          refine v_iinc hC dX0_clothsThere_24 (k := 0) rfl (v := v_260) h_261 (by decide) (lv' := [(2, .int v_260), (1, .int i_222), (0, .ref a_0)]) rfl ?_
          refine v_goto hC dX0_clothsThere_27 (tgt := 4) (by decide) ?_
          refine v_pick [0, 1, 2] rfl ?_
          exact ih_226 v_260 (by first | omega | (simp only [Int32.lt_iff_toInt_lt, Int32.le_iff_toInt_le, Int32.reduceToInt, ← Int32.toInt_inj]; omega)) i_222 (by first | omega | (simp only [Int32.lt_iff_toInt_lt, Int32.le_iff_toInt_le, Int32.reduceToInt, ← Int32.toInt_inj]; omega))
        · simp only [Int32.lt_iff_toInt_lt, Int32.le_iff_toInt_le, Int32.reduceToInt, ← Int32.toInt_inj] at h_259
          obtain ⟨v_263, h_264⟩ : ∃ v9 : Int32, i_222 + Int32.ofInt 1 = v9 := ⟨_, rfl⟩
          refine v_iinc hC dX0_clothsThere_21 (k := 1) rfl (v := v_263) h_264 (by decide) (lv' := [(1, .int v_263), (2, .int i_221), (0, .ref a_0)]) rfl ?_
          obtain ⟨v_265, h_266⟩ : ∃ v9 : Int32, i_221 + Int32.ofInt 1 = v9 := ⟨_, rfl⟩
          have h_267 := add_v (b := 1) h_266 (by first | omega | (simp only [Int32.lt_iff_toInt_lt, Int32.le_iff_toInt_le, Int32.reduceToInt, ← Int32.toInt_inj]; omega)) (by first | omega | (simp only [Int32.lt_iff_toInt_lt, Int32.le_iff_toInt_le, Int32.reduceToInt, ← Int32.toInt_inj]; omega))
          simp only [Int32.reduceToInt] at h_267
          refine v_iinc hC dX0_clothsThere_24 (k := 1) rfl (v := v_265) h_266 (by decide) (lv' := [(2, .int v_265), (1, .int v_263), (0, .ref a_0)]) rfl ?_
          refine v_goto hC dX0_clothsThere_27 (tgt := 4) (by decide) ?_
          refine v_pick [0, 1, 2] rfl ?_
          exact ih_226 v_265 (by first | omega | (simp only [Int32.lt_iff_toInt_lt, Int32.le_iff_toInt_le, Int32.reduceToInt, ← Int32.toInt_inj]; omega)) v_263 (by first | omega | (simp only [Int32.lt_iff_toInt_lt, Int32.le_iff_toInt_le, Int32.reduceToInt, ← Int32.toInt_inj]; omega))
  refine v_pick [0, 1, 2] rfl ?_
  exact lp_224 6 0 (by decide) 0 (by decide)
set_option maxRecDepth 100000 in
set_option maxHeartbeats 4000000 in
theorem p_X11_feed {l : Launch} {E : Ez} {L : List Nat} {f : Nat → va_E} {T : Nat → va_E → Prop} {a_0 : Nat} {a_1 : Int32} {a_2 : Int32} {a_3 : Int32} {a_4 : Int32} {a_5 : Int32} (hW : WT T L f) (k_0 : isX T L E a_0) : CI l yX11_feed cX11_feed 6 .int 1 0 0 E [.ref a_0, .int a_1, .int a_2, .int a_3, .int a_4, .int a_5] L f (fun r L1 f1 => L = L1 ∧ WT T L f1 ∧ FR [7, 700] f f1 ∧ ((-1) ≤ r.toInt ∧ r.toInt ≤ 600)) := by
  refine ci_of (by decide) (Nat.le_of_ble_eq_true rfl) (fun z hz hnm hC hR => ?_)
  have hC : Cx z E cX11_feed RX11 6 1 0 0 := hC
  subst hz
  show V z E 6 0 0 L f 0 [(0, .ref a_0), (1, .int a_1), (2, .int a_2), (3, .int a_3), (4, .int a_4), (5, .int a_5)] []
  refine v_aload_n hC dX11_feed_0 rfl ?_
  obtain ⟨m_1, q_3, q_4, q_5, q_6, q_7, q_8, q_9, q_10, q_11, q_12, q_13, q_14, q_15, q_16, t_2, k_17, k_18, k_19, k_20, k_21, k_22, k_23, k_24, k_25, k_26, k_27, k_28, k_29, k_30⟩ := id k_0
  have e_31 : f a_0 = ob 11 [.ref q_3, .ref q_4, .ref q_5, .ref q_6, .ref q_7, .ref q_8, .ref q_9, .ref q_10, .ref q_11, .ref q_12, .ref q_13, .ref q_14, .ref q_15, .ref q_16] := hW.at m_1 t_2
  refine v_get hC fl_X11_12 m_1 e_31 rfl dX11_feed_1 ?_
  refine v_bipush hC dX11_feed_4 (v := 20) (by decide) ?_
  obtain ⟨m_32, q_34, t_33, k_35⟩ := id k_17
  obtain ⟨v_37, v_39, v_40, v_42, v_44, v_45, e_36, b_38, b_41, b_43⟩ := hW.at m_32 t_33
  refine v_vi hC (rest := []) m_32 e_36 rfl mi_X7_hasRoomFor ms_X7_hasRoomFor (p_X7_hasRoomFor hW k_17) mx_X7_hasRoomFor ml_X11_97 (by decide) rfl (cells1 := 0) (slots1 := 0) (by decide) (by decide) (Nat.le_of_ble_eq_true rfl) (Nat.le_of_ble_eq_true rfl) rfl (Nat.le_of_ble_eq_true rfl) dX11_feed_6 (fun r_46 L_47 f_48 h_49 => ?_)
  obtain ⟨rfl, rfl, b_50⟩ := h_49
  refine v_if_ne hC dX11_feed_9 (tgt := 14) (by decide) (fun h_53 => ?_) (fun h_53 => ?_)
  · simp only [Int32.lt_iff_toInt_lt, Int32.le_iff_toInt_le, Int32.reduceToInt, ← Int32.toInt_inj] at h_53
    refine v_aload_n hC dX11_feed_14 rfl ?_
    refine v_get hC fl_X11_12 m_1 e_31 rfl dX11_feed_15 ?_
    refine v_iload_n hC dX11_feed_18 rfl ?_
    refine v_vv hC (rest := []) m_32 e_36 rfl mi_X7_addBytesOf ms_X7_addBytesOf (p_X7_addBytesOf hW k_17) mx_X7_addBytesOf ml_X11_101 (by decide) rfl (cells1 := 0) (slots1 := 0) (by decide) (by decide) (Nat.le_of_ble_eq_true rfl) (Nat.le_of_ble_eq_true rfl) rfl (Nat.le_of_ble_eq_true rfl) dX11_feed_19 (fun L_55 f_56 h_57 => ?_)
    obtain ⟨rfl, hW_58, hF_59⟩ := h_57
    have hf_60 := hF_59.at e_31 rfl
    refine v_aload_n hC dX11_feed_22 rfl ?_
    refine v_get hC fl_X11_12 m_1 hf_60 rfl dX11_feed_23 ?_
    refine v_iload_n hC dX11_feed_26 rfl ?_
    obtain ⟨v_62, v_64, v_65, v_67, v_69, v_70, e_61, b_63, b_66, b_68⟩ := hW_58.at m_32 t_33
    refine v_vv hC (rest := []) m_32 e_61 rfl mi_X7_addBytesOf ms_X7_addBytesOf (p_X7_addBytesOf hW_58 k_17) mx_X7_addBytesOf ml_X11_101 (by decide) rfl (cells1 := 0) (slots1 := 0) (by decide) (by decide) (Nat.le_of_ble_eq_true rfl) (Nat.le_of_ble_eq_true rfl) rfl (Nat.le_of_ble_eq_true rfl) dX11_feed_27 (fun L_72 f_73 h_74 => ?_)
    obtain ⟨rfl, hW_75, hF_76⟩ := h_74
    have hf_77 := hF_76.at hf_60 rfl
    refine v_aload_n hC dX11_feed_30 rfl ?_
    refine v_get hC fl_X11_12 m_1 hf_77 rfl dX11_feed_31 ?_
    refine v_iload_n hC dX11_feed_34 rfl ?_
    obtain ⟨v_79, v_81, v_82, v_84, v_86, v_87, e_78, b_80, b_83, b_85⟩ := hW_75.at m_32 t_33
    refine v_vv hC (rest := []) m_32 e_78 rfl mi_X7_addBytesOf ms_X7_addBytesOf (p_X7_addBytesOf hW_75 k_17) mx_X7_addBytesOf ml_X11_101 (by decide) rfl (cells1 := 0) (slots1 := 0) (by decide) (by decide) (Nat.le_of_ble_eq_true rfl) (Nat.le_of_ble_eq_true rfl) rfl (Nat.le_of_ble_eq_true rfl) dX11_feed_35 (fun L_89 f_90 h_91 => ?_)
    obtain ⟨rfl, hW_92, hF_93⟩ := h_91
    have hf_94 := hF_93.at hf_77 rfl
    refine v_aload_n hC dX11_feed_38 rfl ?_
    refine v_get hC fl_X11_12 m_1 hf_94 rfl dX11_feed_39 ?_
    refine v_iload hC dX11_feed_42 rfl ?_
    obtain ⟨v_96, v_98, v_99, v_101, v_103, v_104, e_95, b_97, b_100, b_102⟩ := hW_92.at m_32 t_33
    refine v_vv hC (rest := []) m_32 e_95 rfl mi_X7_addBytesOf ms_X7_addBytesOf (p_X7_addBytesOf hW_92 k_17) mx_X7_addBytesOf ml_X11_101 (by decide) rfl (cells1 := 0) (slots1 := 0) (by decide) (by decide) (Nat.le_of_ble_eq_true rfl) (Nat.le_of_ble_eq_true rfl) rfl (Nat.le_of_ble_eq_true rfl) dX11_feed_44 (fun L_106 f_107 h_108 => ?_)
    obtain ⟨rfl, hW_109, hF_110⟩ := h_108
    have hf_111 := hF_110.at hf_94 rfl
    refine v_aload_n hC dX11_feed_47 rfl ?_
    refine v_get hC fl_X11_12 m_1 hf_111 rfl dX11_feed_48 ?_
    refine v_iload hC dX11_feed_51 rfl ?_
    obtain ⟨v_113, v_115, v_116, v_118, v_120, v_121, e_112, b_114, b_117, b_119⟩ := hW_109.at m_32 t_33
    refine v_vv hC (rest := []) m_32 e_112 rfl mi_X7_addBytesOf ms_X7_addBytesOf (p_X7_addBytesOf hW_109 k_17) mx_X7_addBytesOf ml_X11_101 (by decide) rfl (cells1 := 0) (slots1 := 0) (by decide) (by decide) (Nat.le_of_ble_eq_true rfl) (Nat.le_of_ble_eq_true rfl) rfl (Nat.le_of_ble_eq_true rfl) dX11_feed_53 (fun L_123 f_124 h_125 => ?_)
    obtain ⟨rfl, hW_126, hF_127⟩ := h_125
    have hf_128 := hF_127.at hf_111 rfl
    refine v_aload_n hC dX11_feed_56 rfl ?_
    refine v_get hC fl_X11_12 m_1 hf_128 rfl dX11_feed_57 ?_
    obtain ⟨v_130, v_132, v_133, v_135, v_137, v_138, e_129, b_131, b_134, b_136⟩ := hW_126.at m_32 t_33
    refine v_getN hC fn_X11_105 m_32 e_129 rfl dX11_feed_60 ?_
    exact hR _ _ _ _ _ _ _ dX11_feed_63 rfl (Nat.le_of_ble_eq_true rfl) (Nat.le_of_ble_eq_true rfl) ⟨rfl, hW_126, (((((hF_59.tr hF_76).tr hF_93).tr hF_110).tr hF_127).mono rfl), (by first | omega | (simp only [Int32.lt_iff_toInt_lt, Int32.le_iff_toInt_le, Int32.reduceToInt, ← Int32.toInt_inj]; omega))⟩
  · simp only [Int32.lt_iff_toInt_lt, Int32.le_iff_toInt_le, Int32.reduceToInt, ← Int32.toInt_inj] at h_53
    refine v_iconst hC dX11_feed_12 (v := (-1)) (by decide) ?_
    exact hR _ _ _ _ _ _ _ dX11_feed_13 rfl (Nat.le_of_ble_eq_true rfl) (Nat.le_of_ble_eq_true rfl) ⟨rfl, hW, FR.rf, (by decide)⟩
set_option maxRecDepth 100000 in
set_option maxHeartbeats 4000000 in
theorem p_X11_end {l : Launch} {E : Ez} {L : List Nat} {f : Nat → va_E} {T : Nat → va_E → Prop} {a_0 : Nat} {a_1 : Int32} (hW : WT T L f) (k_0 : isX T L E a_0) : CI l yX11_end cX11_end 2 .int 0 0 0 E [.ref a_0, .int a_1] L f (fun r L1 f1 => L = L1 ∧ WT T L f1 ∧ FR [7] f f1 ∧ ((-1) ≤ r.toInt ∧ r.toInt ≤ 600) ∧ (¬ r.toInt = 0 ∨ (0 ≤ a_1.toInt ∧ a_1.toInt ≤ 600))) := by
  refine ci_of (by decide) (Nat.le_of_ble_eq_true rfl) (fun z hz hnm hC hR => ?_)
  have hC : Cx z E cX11_end RX11 2 0 0 0 := hC
  subst hz
  show V z E 2 0 0 L f 0 [(0, .ref a_0), (1, .int a_1)] []
  refine v_iload_n hC dX11_end_0 rfl ?_
  refine v_if_lt hC dX11_end_1 (tgt := 15) (by decide) (fun h_1 => ?_) (fun h_1 => ?_)
  · simp only [Int32.lt_iff_toInt_lt, Int32.le_iff_toInt_le, Int32.reduceToInt, ← Int32.toInt_inj] at h_1
    refine v_iconst hC dX11_end_15 (v := (-1)) (by decide) ?_
    exact hR _ _ _ _ _ _ _ dX11_end_16 rfl (Nat.le_of_ble_eq_true rfl) (Nat.le_of_ble_eq_true rfl) ⟨rfl, hW, FR.rf, (by decide), (.inl (by decide))⟩
  · simp only [Int32.lt_iff_toInt_lt, Int32.le_iff_toInt_le, Int32.reduceToInt, ← Int32.toInt_inj] at h_1
    refine v_iload_n hC dX11_end_4 rfl ?_
    refine v_aload_n hC dX11_end_5 rfl ?_
    obtain ⟨m_2, q_4, q_5, q_6, q_7, q_8, q_9, q_10, q_11, q_12, q_13, q_14, q_15, q_16, q_17, t_3, k_18, k_19, k_20, k_21, k_22, k_23, k_24, k_25, k_26, k_27, k_28, k_29, k_30, k_31⟩ := id k_0
    have e_32 : f a_0 = ob 11 [.ref q_4, .ref q_5, .ref q_6, .ref q_7, .ref q_8, .ref q_9, .ref q_10, .ref q_11, .ref q_12, .ref q_13, .ref q_14, .ref q_15, .ref q_16, .ref q_17] := hW.at m_2 t_3
    refine v_get hC fl_X11_12 m_2 e_32 rfl dX11_end_6 ?_
    obtain ⟨m_33, q_35, t_34, k_36⟩ := id k_18
    obtain ⟨v_38, v_40, v_41, v_43, v_45, v_46, e_37, b_39, b_42, b_44⟩ := hW.at m_33 t_34
    refine v_getN hC fn_X11_105 m_33 e_37 rfl dX11_end_9 ?_
    refine v_icmp_le hC dX11_end_12 (tgt := 17) (by decide) (fun h_47 => ?_) (fun h_47 => ?_)
    · simp only [Int32.lt_iff_toInt_lt, Int32.le_iff_toInt_le, Int32.reduceToInt, ← Int32.toInt_inj] at h_47
      refine v_aload_n hC dX11_end_17 rfl ?_
      refine v_get hC fl_X11_12 m_2 e_32 rfl dX11_end_18 ?_
      refine v_iload_n hC dX11_end_21 rfl ?_
      refine v_putN hC fn_X11_105 m_33 e_37 rfl rfl (Nat.le_of_ble_eq_true rfl) (fs' := [.ref q_35, .int a_1, .int v_40, .int v_41, .int v_43, .int v_45, .int v_46]) rfl dX11_end_22 (fun f_48 hf_49 hk_50 => ?_)
      have hW_51 := hW.up hf_49 hk_50 t_34 ⟨a_1, v_40, v_41, v_43, v_45, v_46, rfl, (by first | omega | (simp only [Int32.lt_iff_toInt_lt, Int32.le_iff_toInt_le, Int32.reduceToInt, ← Int32.toInt_inj]; omega)), (by first | omega | (simp only [Int32.lt_iff_toInt_lt, Int32.le_iff_toInt_le, Int32.reduceToInt, ← Int32.toInt_inj]; omega)), (by first | omega | (simp only [Int32.lt_iff_toInt_lt, Int32.le_iff_toInt_le, Int32.reduceToInt, ← Int32.toInt_inj]; omega))⟩
      have hf_52 := (hk_50 a_0 (ne_kd e_32 e_37 rfl)).trans e_32
      have fr_53 := FR.w hk_50 e_37 (k := 7) rfl
      refine v_iload_n hC dX11_end_25 rfl ?_
      exact hR _ _ _ _ _ _ _ dX11_end_26 rfl (Nat.le_of_ble_eq_true rfl) (Nat.le_of_ble_eq_true rfl) ⟨rfl, hW_51, (fr_53.mono rfl), (by first | omega | (simp only [Int32.lt_iff_toInt_lt, Int32.le_iff_toInt_le, Int32.reduceToInt, ← Int32.toInt_inj]; omega)), (.inr (by first | omega | (simp only [Int32.lt_iff_toInt_lt, Int32.le_iff_toInt_le, Int32.reduceToInt, ← Int32.toInt_inj]; omega)))⟩
    · simp only [Int32.lt_iff_toInt_lt, Int32.le_iff_toInt_le, Int32.reduceToInt, ← Int32.toInt_inj] at h_47
      refine v_iconst hC dX11_end_15 (v := (-1)) (by decide) ?_
      exact hR _ _ _ _ _ _ _ dX11_end_16 rfl (Nat.le_of_ble_eq_true rfl) (Nat.le_of_ble_eq_true rfl) ⟨rfl, hW, FR.rf, (by decide), (.inl (by decide))⟩
set_option maxRecDepth 100000 in
set_option maxHeartbeats 4000000 in
theorem p_X11_pattern {l : Launch} {E : Ez} {L : List Nat} {f : Nat → va_E} {T : Nat → va_E → Prop} {a_0 : Nat} (hW : WT T L f) (k_0 : isX T L E a_0) : CI l yX11_pattern cX11_pattern 2 .int 8 0 0 E [.ref a_0] L f (fun r L1 f1 => L = L1 ∧ WT T L f1 ∧ FR [1, 4, 7, 356] f f1 ∧ ((-4) ≤ r.toInt ∧ r.toInt ≤ 256)) := by
  refine ci_of (by decide) (Nat.le_of_ble_eq_true rfl) (fun z hz hnm hC hR => ?_)
  have hC : Cx z E cX11_pattern RX11 2 8 0 0 := hC
  subst hz
  show V z E 2 0 0 L f 0 [(0, .ref a_0)] []
  refine v_aload_n hC dX11_pattern_0 rfl ?_
  obtain ⟨m_1, q_3, q_4, q_5, q_6, q_7, q_8, q_9, q_10, q_11, q_12, q_13, q_14, q_15, q_16, t_2, k_17, k_18, k_19, k_20, k_21, k_22, k_23, k_24, k_25, k_26, k_27, k_28, k_29, k_30⟩ := id k_0
  have e_31 : f a_0 = ob 11 [.ref q_3, .ref q_4, .ref q_5, .ref q_6, .ref q_7, .ref q_8, .ref q_9, .ref q_10, .ref q_11, .ref q_12, .ref q_13, .ref q_14, .ref q_15, .ref q_16] := hW.at m_1 t_2
  refine v_get hC fl_X11_43 m_1 e_31 rfl dX11_pattern_1 ?_
  refine v_aload_n hC dX11_pattern_4 rfl ?_
  refine v_get hC fl_X11_12 m_1 e_31 rfl dX11_pattern_5 ?_
  obtain ⟨m_32, q_34, q_35, t_33, k_36, k_37⟩ := id k_22
  obtain ⟨v_39, v_41, v_43, e_38, b_40, b_42, b_44⟩ := hW.at m_32 t_33
  refine v_vi hC (rest := []) m_32 e_38 rfl mi_X4_tell ms_X4_tell (p_X4_tell hW k_22 k_17) mx_X4_tell ml_X11_109 (by decide) rfl (cells1 := 0) (slots1 := 0) (by decide) (by decide) (Nat.le_of_ble_eq_true rfl) (Nat.le_of_ble_eq_true rfl) rfl (Nat.le_of_ble_eq_true rfl) dX11_pattern_8 (fun r_45 L_46 f_47 h_48 => ?_)
  obtain ⟨rfl, hW_50, hF_51, b_49⟩ := h_48
  have hf_52 := hF_51.at e_31 rfl
  refine v_istore_n hC dX11_pattern_11 (by decide) (lv' := [(1, .int r_45), (0, .ref a_0)]) rfl ?_
  refine v_aload_n hC dX11_pattern_12 rfl ?_
  refine v_get hC fl_X11_12 m_1 hf_52 rfl dX11_pattern_13 ?_
  obtain ⟨m_53, q_55, t_54, k_56⟩ := id k_17
  obtain ⟨v_58, v_60, v_61, v_63, v_65, v_66, e_57, b_59, b_62, b_64⟩ := hW_50.at m_53 t_54
  refine v_vv hC (rest := []) m_53 e_57 rfl mi_X7_empty ms_X7_empty (p_X7_empty hW_50 k_17) mx_X7_empty ml_X11_113 (by decide) rfl (cells1 := 0) (slots1 := 0) (by decide) (by decide) (Nat.le_of_ble_eq_true rfl) (Nat.le_of_ble_eq_true rfl) rfl (Nat.le_of_ble_eq_true rfl) dX11_pattern_16 (fun L_68 f_69 h_70 => ?_)
  obtain ⟨rfl, hW_71, hF_72⟩ := h_70
  have hf_73 := hF_72.at hf_52 rfl
  refine v_iload_n hC dX11_pattern_19 rfl ?_
  refine v_if_ne hC dX11_pattern_20 (tgt := 26) (by decide) (fun h_74 => ?_) (fun h_74 => ?_)
  · simp only [Int32.lt_iff_toInt_lt, Int32.le_iff_toInt_le, Int32.reduceToInt, ← Int32.toInt_inj] at h_74
    refine v_aload_n hC dX11_pattern_26 rfl ?_
    refine v_get hC fl_X11_19 m_1 hf_73 rfl dX11_pattern_27 ?_
    obtain ⟨m_75, q_77, q_78, q_79, q_80, q_81, q_82, t_76, k_83, k_84, k_85, k_86, k_87, k_88⟩ := id k_18
    have e_89 : f_69 q_4 = ob 0 [.ref q_77, .ref q_78, .ref q_79, .ref q_80, .ref q_81, .ref q_82] := hW_71.at m_75 t_76
    refine v_getN hC fn_X11_116 m_75 e_89 rfl dX11_pattern_30 ?_
    refine v_aload_n hC dX11_pattern_33 rfl ?_
    refine v_get hC fl_X11_43 m_1 hf_73 rfl dX11_pattern_34 ?_
    obtain ⟨m_90, q_92, q_93, t_91, k_94, k_95⟩ := id k_83
    obtain ⟨v_97, v_99, v_101, e_96, b_98, b_100, b_102⟩ := hW_71.at m_90 t_91
    refine v_vv hC (rest := []) m_90 e_96 rfl mi_X4_takeFrom ms_X4_takeFrom (p_X4_takeFrom hW_71 k_83 k_22) mx_X4_takeFrom ml_X11_119 (by decide) rfl (cells1 := 0) (slots1 := 0) (by decide) (by decide) (Nat.le_of_ble_eq_true rfl) (Nat.le_of_ble_eq_true rfl) rfl (Nat.le_of_ble_eq_true rfl) dX11_pattern_37 (fun L_104 f_105 h_106 => ?_)
    obtain ⟨rfl, hW_107, hF_108⟩ := h_106
    have hf_109 := hF_108.at hf_73 rfl
    have hf_110 := hF_108.at e_89 rfl
    refine v_aload_n hC dX11_pattern_40 rfl ?_
    refine v_get hC fl_X11_19 m_1 hf_109 rfl dX11_pattern_41 ?_
    refine v_vv hC (rest := []) m_75 hf_110 rfl mi_X0_dropCloths ms_X0_dropCloths (p_X0_dropCloths hW_107 k_18) mx_X0_dropCloths ml_X11_123 (by decide) rfl (cells1 := 0) (slots1 := 0) (by decide) (by decide) (Nat.le_of_ble_eq_true rfl) (Nat.le_of_ble_eq_true rfl) rfl (Nat.le_of_ble_eq_true rfl) dX11_pattern_44 (fun L_112 f_113 h_114 => ?_)
    obtain ⟨rfl, hW_115, hF_116⟩ := h_114
    have hf_117 := hF_116.at hf_109 rfl
    have hf_118 := hF_116.at hf_110 rfl
    refine v_aload_n hC dX11_pattern_47 rfl ?_
    refine v_get hC fl_X11_19 m_1 hf_117 rfl dX11_pattern_48 ?_
    refine v_getN hC fn_X11_116 m_75 hf_118 rfl dX11_pattern_51 ?_
    obtain ⟨v_120, v_122, v_124, e_119, b_121, b_123, b_125⟩ := hW_115.at m_90 t_91
    refine v_getN hC fn_X11_126 m_90 e_119 rfl dX11_pattern_54 ?_
    exact hR _ _ _ _ _ _ _ dX11_pattern_57 rfl (Nat.le_of_ble_eq_true rfl) (Nat.le_of_ble_eq_true rfl) ⟨rfl, hW_115, ((((hF_51.tr hF_72).tr hF_108).tr hF_116).mono rfl), (by first | omega | (simp only [Int32.lt_iff_toInt_lt, Int32.le_iff_toInt_le, Int32.reduceToInt, ← Int32.toInt_inj]; omega))⟩
  · simp only [Int32.lt_iff_toInt_lt, Int32.le_iff_toInt_le, Int32.reduceToInt, ← Int32.toInt_inj] at h_74
    refine v_bipush hC dX11_pattern_23 (v := (-4)) (by decide) ?_
    exact hR _ _ _ _ _ _ _ dX11_pattern_25 rfl (Nat.le_of_ble_eq_true rfl) (Nat.le_of_ble_eq_true rfl) ⟨rfl, hW_71, ((hF_51.tr hF_72).mono rfl), (by decide)⟩
set_option maxRecDepth 100000 in
set_option maxHeartbeats 4000000 in
theorem p_X11_tellHand {l : Launch} {E : Ez} {L : List Nat} {f : Nat → va_E} {T : Nat → va_E → Prop} {a_0 : Nat} (hW : WT T L f) (k_0 : isX T L E a_0) : CI l yX11_tellHand cX11_tellHand 2 .boolean 6 0 0 E [.ref a_0] L f (fun r L1 f1 => L = L1 ∧ WT T L f1 ∧ FR [7, 103] f f1 ∧ (0 ≤ r.toInt ∧ r.toInt ≤ 1)) := by
  refine ci_of (by decide) (Nat.le_of_ble_eq_true rfl) (fun z hz hnm hC hR => ?_)
  have hC : Cx z E cX11_tellHand RX11 2 6 0 0 := hC
  subst hz
  show V z E 2 0 0 L f 0 [(0, .ref a_0)] []
  refine v_aload_n hC dX11_tellHand_0 rfl ?_
  obtain ⟨m_1, q_3, q_4, q_5, q_6, q_7, q_8, q_9, q_10, q_11, q_12, q_13, q_14, q_15, q_16, t_2, k_17, k_18, k_19, k_20, k_21, k_22, k_23, k_24, k_25, k_26, k_27, k_28, k_29, k_30⟩ := id k_0
  have e_31 : f a_0 = ob 11 [.ref q_3, .ref q_4, .ref q_5, .ref q_6, .ref q_7, .ref q_8, .ref q_9, .ref q_10, .ref q_11, .ref q_12, .ref q_13, .ref q_14, .ref q_15, .ref q_16] := hW.at m_1 t_2
  refine v_get hC fl_X11_12 m_1 e_31 rfl dX11_tellHand_1 ?_
  obtain ⟨m_32, q_34, t_33, k_35⟩ := id k_17
  obtain ⟨v_37, v_39, v_40, v_42, v_44, v_45, e_36, b_38, b_41, b_43⟩ := hW.at m_32 t_33
  refine v_vv hC (rest := []) m_32 e_36 rfl mi_X7_start ms_X7_start (p_X7_start hW k_17) mx_X7_start ml_X11_387 (by decide) rfl (cells1 := 0) (slots1 := 0) (by decide) (by decide) (Nat.le_of_ble_eq_true rfl) (Nat.le_of_ble_eq_true rfl) rfl (Nat.le_of_ble_eq_true rfl) dX11_tellHand_4 (fun L_47 f_48 h_49 => ?_)
  obtain ⟨rfl, hW_50, hF_51⟩ := h_49
  have hf_52 := hF_51.at e_31 rfl
  refine v_aload_n hC dX11_tellHand_7 rfl ?_
  refine v_get hC fl_X11_12 m_1 hf_52 rfl dX11_tellHand_8 ?_
  refine v_ldcwS hC sr_X11_390 dX11_tellHand_11 ?_
  obtain ⟨v_54, v_56, v_57, v_59, v_61, v_62, e_53, b_55, b_58, b_60⟩ := hW_50.at m_32 t_33
  refine v_vv hC (rest := []) m_32 e_53 rfl mi_X7_takeWord ms_X7_takeWord (p_X7_takeWord hW_50 k_17 (by decide)) mx_X7_takeWord ml_X11_392 (by decide) rfl (cells1 := 0) (slots1 := 0) (by decide) (by decide) (Nat.le_of_ble_eq_true rfl) (Nat.le_of_ble_eq_true rfl) rfl (Nat.le_of_ble_eq_true rfl) dX11_tellHand_14 (fun L_64 f_65 h_66 => ?_)
  obtain ⟨rfl, hW_67, hF_68⟩ := h_66
  have hf_69 := hF_68.at hf_52 rfl
  refine v_iconst hC dX11_tellHand_17 (v := 0) (by decide) ?_
  refine v_istore_n hC dX11_tellHand_18 (by decide) (lv' := [(1, .int 0), (0, .ref a_0)]) rfl ?_
  have lp_522 : ∀ (n_523 : Nat) (f_517 : Nat → va_E) (hW_518 : WT T L f_517) (hF_519 : FR [7, 103] f_65 f_517) (i_516 : Int32) (b_521 : (0 ≤ i_516.toInt ∧ i_516.toInt ≤ 3)) (hm_525 : 3 - i_516.toInt < (n_523 : Int)), V z E 2 0 0 L f_517 19 [(1, .int i_516), (0, .ref a_0)] [] := by
    intro n_523
    induction n_523 with
    | zero =>
      intro f_517 hW_518 hF_519 i_516 b_521 hm_525
      have hf_520 := hF_519.at hf_69 rfl
      exfalso; omega
    | succ n_523 ih_524 =>
      intro f_517 hW_518 hF_519 i_516 b_521 hm_525
      have hf_520 := hF_519.at hf_69 rfl
      refine v_iload_n hC dX11_tellHand_19 rfl ?_
      refine v_iconst hC dX11_tellHand_20 (v := 3) (by decide) ?_
      refine v_icmp_ge hC dX11_tellHand_21 (tgt := 77) (by decide) (fun h_526 => ?_) (fun h_526 => ?_)
      · simp only [Int32.lt_iff_toInt_lt, Int32.le_iff_toInt_le, Int32.reduceToInt, ← Int32.toInt_inj] at h_526
        refine v_aload_n hC dX11_tellHand_77 rfl ?_
        refine v_get hC fl_X11_12 m_1 hf_520 rfl dX11_tellHand_78 ?_
        obtain ⟨v_528, v_530, v_531, v_533, v_535, v_536, e_527, b_529, b_532, b_534⟩ := hW_518.at m_32 t_33
        refine v_vv hC (rest := []) m_32 e_527 rfl mi_X7_takeSemicolon ms_X7_takeSemicolon (p_X7_takeSemicolon hW_518 k_17) mx_X7_takeSemicolon ml_X11_405 (by decide) rfl (cells1 := 0) (slots1 := 0) (by decide) (by decide) (Nat.le_of_ble_eq_true rfl) (Nat.le_of_ble_eq_true rfl) rfl (Nat.le_of_ble_eq_true rfl) dX11_tellHand_81 (fun L_538 f_539 h_540 => ?_)
        obtain ⟨rfl, hW_541, hF_542⟩ := h_540
        have hf_543 := hF_542.at hf_520 rfl
        refine v_aload_n hC dX11_tellHand_84 rfl ?_
        refine v_get hC fl_X11_12 m_1 hf_543 rfl dX11_tellHand_85 ?_
        obtain ⟨v_545, v_547, v_548, v_550, v_552, v_553, e_544, b_546, b_549, b_551⟩ := hW_541.at m_32 t_33
        refine v_vv hC (rest := []) m_32 e_544 rfl mi_X7_takeEnd ms_X7_takeEnd (p_X7_takeEnd hW_541 k_17) mx_X7_takeEnd ml_X11_408 (by decide) rfl (cells1 := 0) (slots1 := 0) (by decide) (by decide) (Nat.le_of_ble_eq_true rfl) (Nat.le_of_ble_eq_true rfl) rfl (Nat.le_of_ble_eq_true rfl) dX11_tellHand_88 (fun L_555 f_556 h_557 => ?_)
        obtain ⟨rfl, hW_558, hF_559⟩ := h_557
        have hf_560 := hF_559.at hf_543 rfl
        refine v_aload_n hC dX11_tellHand_91 rfl ?_
        refine v_get hC fl_X11_12 m_1 hf_560 rfl dX11_tellHand_92 ?_
        obtain ⟨v_562, v_564, v_565, v_567, v_569, v_570, e_561, b_563, b_566, b_568⟩ := hW_558.at m_32 t_33
        refine v_vi hC (rest := []) m_32 e_561 rfl mi_X7_isFine ms_X7_isFine (p_X7_isFine hW_558 k_17) mx_X7_isFine ml_X11_411 (by decide) rfl (cells1 := 0) (slots1 := 0) (by decide) (by decide) (Nat.le_of_ble_eq_true rfl) (Nat.le_of_ble_eq_true rfl) rfl (Nat.le_of_ble_eq_true rfl) dX11_tellHand_95 (fun r_571 L_572 f_573 h_574 => ?_)
        obtain ⟨rfl, rfl, b_575⟩ := h_574
        exact hR _ _ _ _ _ _ _ dX11_tellHand_98 (nar01 (by first | omega | (simp only [Int32.lt_iff_toInt_lt, Int32.le_iff_toInt_le, Int32.reduceToInt, ← Int32.toInt_inj]; omega))) (Nat.le_of_ble_eq_true rfl) (Nat.le_of_ble_eq_true rfl) ⟨rfl, hW_558, (((((hF_51.tr hF_68).tr hF_519).tr hF_542).tr hF_559).mono rfl), (by first | omega | (simp only [Int32.lt_iff_toInt_lt, Int32.le_iff_toInt_le, Int32.reduceToInt, ← Int32.toInt_inj]; omega))⟩
      · simp only [Int32.lt_iff_toInt_lt, Int32.le_iff_toInt_le, Int32.reduceToInt, ← Int32.toInt_inj] at h_526
        refine v_aload_n hC dX11_tellHand_24 rfl ?_
        refine v_get hC fl_X11_12 m_1 hf_520 rfl dX11_tellHand_25 ?_
        refine v_iload_n hC dX11_tellHand_28 rfl ?_
        have jn_580 : ∀ (jj_581 : Nat) (hjj_581 : jj_581 < 77), V z E 2 0 0 L f_517 52 [(1, .int i_516), (0, .ref a_0)] [.ref (eK E jj_581), .ref q_3] := by
          intro jj_581 hjj_581
          obtain ⟨v_583, v_585, v_586, v_588, v_590, v_591, e_582, b_584, b_587, b_589⟩ := hW_518.at m_32 t_33
          refine v_vv hC (rest := []) m_32 e_582 rfl mi_X7_takeWord ms_X7_takeWord (p_X7_takeWord hW_518 k_17 hjj_581) mx_X7_takeWord ml_X11_392 (by decide) rfl (cells1 := 0) (slots1 := 0) (by decide) (by decide) (Nat.le_of_ble_eq_true rfl) (Nat.le_of_ble_eq_true rfl) rfl (Nat.le_of_ble_eq_true rfl) dX11_tellHand_52 (fun L_593 f_594 h_595 => ?_)
          obtain ⟨rfl, hW_596, hF_597⟩ := h_595
          have hf_598 := hF_597.at hf_520 rfl
          refine v_aload_n hC dX11_tellHand_55 rfl ?_
          refine v_get hC fl_X11_47 m_1 hf_598 rfl dX11_tellHand_56 ?_
          refine v_iload_n hC dX11_tellHand_59 rfl ?_
          refine v_aload_n hC dX11_tellHand_60 rfl ?_
          refine v_get hC fl_X11_12 m_1 hf_598 rfl dX11_tellHand_61 ?_
          refine v_iconst hC dX11_tellHand_64 (v := 0) (by decide) ?_
          refine v_bipush hC dX11_tellHand_65 (v := 100) (by decide) ?_
          obtain ⟨v_600, v_602, v_603, v_605, v_607, v_608, e_599, b_601, b_604, b_606⟩ := hW_596.at m_32 t_33
          refine v_vi hC (rest := [.int i_516, .ref q_9]) m_32 e_599 rfl mi_X7_takeNumber ms_X7_takeNumber (p_X7_takeNumber hW_596 k_17) mx_X7_takeNumber ml_X11_402 (by decide) rfl (cells1 := 0) (slots1 := 0) (by decide) (by decide) (Nat.le_of_ble_eq_true rfl) (Nat.le_of_ble_eq_true rfl) rfl (Nat.le_of_ble_eq_true rfl) dX11_tellHand_67 (fun r_609 L_610 f_611 h_612 => ?_)
          obtain ⟨rfl, hW_614, hF_615, x_613⟩ := h_612
          have hf_616 := hF_615.at hf_598 rfl
          try simp only [Int32.reduceToInt] at x_613
          obtain ⟨m_617, t_618⟩ := id k_23
          obtain ⟨g_620, e_619⟩ := hW_614.at m_617 t_618
          refine v_iast hC m_617 e_619 (vp_in_iff.mpr (by first | omega | (simp only [Int32.lt_iff_toInt_lt, Int32.le_iff_toInt_le, Int32.reduceToInt, ← Int32.toInt_inj]; omega))) dX11_tellHand_70 (fun f_621 hf_622 hk_623 => ?_)
          have hW_625 := hW_614.up hf_622 hk_623 t_618 ⟨_, rfl⟩
          obtain ⟨g_624, hf_622⟩ : ∃ g9, f_621 q_9 = aI E 3 g9 := ⟨_, hf_622⟩
          have hf_626 := (hk_623 a_0 (ne_kd hf_616 e_619 rfl)).trans hf_616
          have fr_627 := FR.w hk_623 e_619 (k := 103) rfl
          obtain ⟨v_628, h_629⟩ : ∃ v9 : Int32, i_516 + Int32.ofInt 1 = v9 := ⟨_, rfl⟩
          have h_630 := add_v (b := 1) h_629 (by first | omega | (simp only [Int32.lt_iff_toInt_lt, Int32.le_iff_toInt_le, Int32.reduceToInt, ← Int32.toInt_inj]; omega)) (by first | omega | (simp only [Int32.lt_iff_toInt_lt, Int32.le_iff_toInt_le, Int32.reduceToInt, ← Int32.toInt_inj]; omega))
          simp only [Int32.reduceToInt] at h_630
          refine v_iinc hC dX11_tellHand_71 (k := 0) rfl (v := v_628) h_629 (by decide) (lv' := [(1, .int v_628), (0, .ref a_0)]) rfl ?_
          refine v_goto hC dX11_tellHand_74 (tgt := 19) (by decide) ?_
          refine v_pick [0, 1] rfl ?_
          exact ih_524 f_621 hW_625 ((((hF_519.tr hF_597).tr hF_615).tr fr_627).mono rfl) v_628 (by first | omega | (simp only [Int32.lt_iff_toInt_lt, Int32.le_iff_toInt_le, Int32.reduceToInt, ← Int32.toInt_inj]; omega)) (by first | omega | (simp only [Int32.lt_iff_toInt_lt, Int32.le_iff_toInt_le, Int32.reduceToInt, ← Int32.toInt_inj]; omega))
        refine v_if_ne hC dX11_tellHand_29 (tgt := 38) (by decide) (fun h_578 => ?_) (fun h_578 => ?_)
        · simp only [Int32.lt_iff_toInt_lt, Int32.le_iff_toInt_le, Int32.reduceToInt, ← Int32.toInt_inj] at h_578
          refine v_iload_n hC dX11_tellHand_38 rfl ?_
          refine v_iconst hC dX11_tellHand_39 (v := 1) (by decide) ?_
          refine v_icmp_ne hC dX11_tellHand_40 (tgt := 49) (by decide) (fun h_631 => ?_) (fun h_631 => ?_)
          · simp only [Int32.lt_iff_toInt_lt, Int32.le_iff_toInt_le, Int32.reduceToInt, ← Int32.toInt_inj] at h_631
            refine v_ldcwS hC sr_X11_400 dX11_tellHand_49 ?_
            refine v_pick [0, 1] rfl ?_
            exact jn_580 7 (by decide)
          · simp only [Int32.lt_iff_toInt_lt, Int32.le_iff_toInt_le, Int32.reduceToInt, ← Int32.toInt_inj] at h_631
            refine v_ldcwS hC sr_X11_398 dX11_tellHand_43 ?_
            refine v_goto hC dX11_tellHand_46 (tgt := 52) (by decide) ?_
            refine v_pick [0, 1] rfl ?_
            exact jn_580 6 (by decide)
        · simp only [Int32.lt_iff_toInt_lt, Int32.le_iff_toInt_le, Int32.reduceToInt, ← Int32.toInt_inj] at h_578
          refine v_ldcwS hC sr_X11_396 dX11_tellHand_32 ?_
          refine v_goto hC dX11_tellHand_35 (tgt := 52) (by decide) ?_
          refine v_pick [0, 1] rfl ?_
          exact jn_580 5 (by decide)
  refine v_pick [0, 1] rfl ?_
  exact lp_522 5 f_65 hW_67 FR.rf 0 (by decide) (by decide)
set_option maxRecDepth 100000 in
set_option maxHeartbeats 4000000 in
theorem p_X11_hand {l : Launch} {E : Ez} {L : List Nat} {f : Nat → va_E} {T : Nat → va_E → Prop} {a_0 : Nat} (hW : WT T L f) (k_0 : isX T L E a_0) : CI l yX11_hand cX11_hand 2 .int 7 0 0 E [.ref a_0] L f (fun r L1 f1 => L = L1 ∧ WT T L f1 ∧ FR [7, 103] f f1 ∧ ((-4) ≤ r.toInt ∧ r.toInt ≤ 0)) := by
  refine ci_of (by decide) (Nat.le_of_ble_eq_true rfl) (fun z hz hnm hC hR => ?_)
  have hC : Cx z E cX11_hand RX11 2 7 0 0 := hC
  subst hz
  show V z E 2 0 0 L f 0 [(0, .ref a_0)] []
  refine v_aload_n hC dX11_hand_0 rfl ?_
  obtain ⟨m_1, q_3, q_4, q_5, q_6, q_7, q_8, q_9, q_10, q_11, q_12, q_13, q_14, q_15, q_16, t_2, k_17, k_18, k_19, k_20, k_21, k_22, k_23, k_24, k_25, k_26, k_27, k_28, k_29, k_30⟩ := id k_0
  have e_31 : f a_0 = ob 11 [.ref q_3, .ref q_4, .ref q_5, .ref q_6, .ref q_7, .ref q_8, .ref q_9, .ref q_10, .ref q_11, .ref q_12, .ref q_13, .ref q_14, .ref q_15, .ref q_16] := hW.at m_1 t_2
  refine v_vi hC (rest := []) m_1 e_31 rfl mi_X11_tellHand ms_X11_tellHand (p_X11_tellHand hW k_0) mx_X11_tellHand ml_X11_129 (by decide) rfl (cells1 := 0) (slots1 := 0) (by decide) (by decide) (Nat.le_of_ble_eq_true rfl) (Nat.le_of_ble_eq_true rfl) rfl (Nat.le_of_ble_eq_true rfl) dX11_hand_1 (fun r_32 L_33 f_34 h_35 => ?_)
  obtain ⟨rfl, hW_37, hF_38, b_36⟩ := h_35
  have hf_39 := hF_38.at e_31 rfl
  refine v_istore_n hC dX11_hand_4 (by decide) (lv' := [(1, .int r_32), (0, .ref a_0)]) rfl ?_
  refine v_aload_n hC dX11_hand_5 rfl ?_
  refine v_get hC fl_X11_12 m_1 hf_39 rfl dX11_hand_6 ?_
  obtain ⟨m_40, q_42, t_41, k_43⟩ := id k_17
  obtain ⟨v_45, v_47, v_48, v_50, v_52, v_53, e_44, b_46, b_49, b_51⟩ := hW_37.at m_40 t_41
  refine v_vv hC (rest := []) m_40 e_44 rfl mi_X7_empty ms_X7_empty (p_X7_empty hW_37 k_17) mx_X7_empty ml_X11_113 (by decide) rfl (cells1 := 0) (slots1 := 0) (by decide) (by decide) (Nat.le_of_ble_eq_true rfl) (Nat.le_of_ble_eq_true rfl) rfl (Nat.le_of_ble_eq_true rfl) dX11_hand_9 (fun L_55 f_56 h_57 => ?_)
  obtain ⟨rfl, hW_58, hF_59⟩ := h_57
  have hf_60 := hF_59.at hf_39 rfl
  refine v_iload_n hC dX11_hand_12 rfl ?_
  refine v_if_ne hC dX11_hand_13 (tgt := 19) (by decide) (fun h_61 => ?_) (fun h_61 => ?_)
  · simp only [Int32.lt_iff_toInt_lt, Int32.le_iff_toInt_le, Int32.reduceToInt, ← Int32.toInt_inj] at h_61
    refine v_aload_n hC dX11_hand_19 rfl ?_
    refine v_get hC fl_X11_47 m_1 hf_60 rfl dX11_hand_20 ?_
    refine v_iconst hC dX11_hand_23 (v := 0) (by decide) ?_
    refine v_aload_n hC dX11_hand_24 rfl ?_
    refine v_get hC fl_X11_19 m_1 hf_60 rfl dX11_hand_25 ?_
    obtain ⟨m_62, q_64, q_65, q_66, q_67, q_68, q_69, t_63, k_70, k_71, k_72, k_73, k_74, k_75⟩ := id k_18
    have e_76 : f_56 q_4 = ob 0 [.ref q_64, .ref q_65, .ref q_66, .ref q_67, .ref q_68, .ref q_69] := hW_58.at m_62 t_63
    refine v_getN hC fn_X11_133 m_62 e_76 rfl dX11_hand_28 ?_
    refine v_iconst hC dX11_hand_31 (v := 0) (by decide) ?_
    refine v_iconst hC dX11_hand_32 (v := 3) (by decide) ?_
    obtain ⟨m_77, t_78⟩ := id k_23
    obtain ⟨g_80, e_79⟩ := hW_58.at m_77 t_78
    obtain ⟨m_81, t_82⟩ := id k_71
    obtain ⟨g_84, e_83⟩ := hW_58.at m_81 t_82
    refine v_copyi hC mo_X11_136 cp_n_ cp_s_ cp_i_ m_77 e_79 m_81 e_83 (by decide) (by decide) (by decide) (by decide) (by decide) (by decide) (Nat.le_of_ble_eq_true rfl) dX11_hand_33 (fun f_85 hf_86 hk_87 => ?_)
    have hW_88 := hW_58.up hf_86 hk_87 t_82 ⟨_, rfl⟩
    obtain ⟨g_89, hf_86⟩ : ∃ g9, f_85 q_65 = aI E 3 g9 := ⟨_, hf_86⟩
    have hf_90 := (hk_87 a_0 (ne_kd hf_60 e_83 rfl)).trans hf_60
    have hf_91 := (hk_87 q_4 (ne_kd e_76 e_83 rfl)).trans e_76
    have fr_92 := FR.w hk_87 e_83 (k := 103) rfl
    refine v_iconst hC dX11_hand_36 (v := 0) (by decide) ?_
    exact hR _ _ _ _ _ _ _ dX11_hand_37 rfl (Nat.le_of_ble_eq_true rfl) (Nat.le_of_ble_eq_true rfl) ⟨rfl, hW_88, (((hF_38.tr hF_59).tr fr_92).mono rfl), (by decide)⟩
  · simp only [Int32.lt_iff_toInt_lt, Int32.le_iff_toInt_le, Int32.reduceToInt, ← Int32.toInt_inj] at h_61
    refine v_bipush hC dX11_hand_16 (v := (-4)) (by decide) ?_
    exact hR _ _ _ _ _ _ _ dX11_hand_18 rfl (Nat.le_of_ble_eq_true rfl) (Nat.le_of_ble_eq_true rfl) ⟨rfl, hW_58, ((hF_38.tr hF_59).mono rfl), (by decide)⟩
set_option maxRecDepth 100000 in
set_option maxHeartbeats 4000000 in
theorem p_X11_isWay {l : Launch} {E : Ez} {L : List Nat} {f : Nat → va_E} {T : Nat → va_E → Prop} {a_0 : Int32} (hW : WT T L f) : CI l yX11_isWay cX11_isWay 1 .boolean 0 0 0 E [.int a_0] L f (fun r L1 f1 => L = L1 ∧ f = f1 ∧ (0 ≤ r.toInt ∧ r.toInt ≤ 1) ∧ (r.toInt = 0 ∨ (0 ≤ a_0.toInt ∧ a_0.toInt ≤ 5))) := by
  refine ci_of (by decide) (Nat.le_of_ble_eq_true rfl) (fun z hz hnm hC hR => ?_)
  have hC : Cx z E cX11_isWay RX11 1 0 0 0 := hC
  subst hz
  show V z E 1 0 0 L f 0 [(0, .int a_0)] []
  refine v_iload_n hC dX11_isWay_0 rfl ?_
  refine v_if_lt hC dX11_isWay_1 (tgt := 14) (by decide) (fun h_1 => ?_) (fun h_1 => ?_)
  · simp only [Int32.lt_iff_toInt_lt, Int32.le_iff_toInt_le, Int32.reduceToInt, ← Int32.toInt_inj] at h_1
    refine v_iconst hC dX11_isWay_14 (v := 0) (by decide) ?_
    exact hR _ _ _ _ _ _ _ dX11_isWay_15 rfl (Nat.le_of_ble_eq_true rfl) (Nat.le_of_ble_eq_true rfl) ⟨rfl, rfl, (by decide), (.inl (by decide))⟩
  · simp only [Int32.lt_iff_toInt_lt, Int32.le_iff_toInt_le, Int32.reduceToInt, ← Int32.toInt_inj] at h_1
    refine v_iload_n hC dX11_isWay_4 rfl ?_
    refine v_bipush hC dX11_isWay_5 (v := 6) (by decide) ?_
    refine v_icmp_ge hC dX11_isWay_7 (tgt := 14) (by decide) (fun h_2 => ?_) (fun h_2 => ?_)
    · simp only [Int32.lt_iff_toInt_lt, Int32.le_iff_toInt_le, Int32.reduceToInt, ← Int32.toInt_inj] at h_2
      refine v_iconst hC dX11_isWay_14 (v := 0) (by decide) ?_
      exact hR _ _ _ _ _ _ _ dX11_isWay_15 rfl (Nat.le_of_ble_eq_true rfl) (Nat.le_of_ble_eq_true rfl) ⟨rfl, rfl, (by decide), (.inl (by decide))⟩
    · simp only [Int32.lt_iff_toInt_lt, Int32.le_iff_toInt_le, Int32.reduceToInt, ← Int32.toInt_inj] at h_2
      refine v_iconst hC dX11_isWay_10 (v := 1) (by decide) ?_
      refine v_goto hC dX11_isWay_11 (tgt := 15) (by decide) ?_
      exact hR _ _ _ _ _ _ _ dX11_isWay_15 rfl (Nat.le_of_ble_eq_true rfl) (Nat.le_of_ble_eq_true rfl) ⟨rfl, rfl, (by decide), (.inr (by first | omega | (simp only [Int32.lt_iff_toInt_lt, Int32.le_iff_toInt_le, Int32.reduceToInt, ← Int32.toInt_inj]; omega)))⟩
set_option maxRecDepth 100000 in
set_option maxHeartbeats 4000000 in
theorem p_X11_bitsOf {l : Launch} {E : Ez} {L : List Nat} {f : Nat → va_E} {T : Nat → va_E → Prop} {a_0 : Nat} {a_1 : Nat} (hW : WT T L f) (k_0 : isX T L E a_0) (k_1 : isWay T L E a_1) : CI l yX11_bitsOf cX11_bitsOf 2 .int 2 0 0 E [.ref a_0, .ref a_1] L f (fun r L1 f1 => L = L1 ∧ WT T L f1 ∧ FR [8, 356] f f1 ∧ (0 ≤ r.toInt ∧ r.toInt ≤ 256)) := by
  refine ci_of (by decide) (Nat.le_of_ble_eq_true rfl) (fun z hz hnm hC hR => ?_)
  have hC : Cx z E cX11_bitsOf RX11 2 2 0 0 := hC
  subst hz
  show V z E 2 0 0 L f 0 [(0, .ref a_0), (1, .ref a_1)] []
  refine v_aload_n hC dX11_bitsOf_0 rfl ?_
  obtain ⟨m_1, q_3, q_4, q_5, q_6, q_7, q_8, q_9, q_10, q_11, q_12, q_13, q_14, q_15, q_16, t_2, k_17, k_18, k_19, k_20, k_21, k_22, k_23, k_24, k_25, k_26, k_27, k_28, k_29, k_30⟩ := id k_0
  have e_31 : f a_0 = ob 11 [.ref q_3, .ref q_4, .ref q_5, .ref q_6, .ref q_7, .ref q_8, .ref q_9, .ref q_10, .ref q_11, .ref q_12, .ref q_13, .ref q_14, .ref q_15, .ref q_16] := hW.at m_1 t_2
  refine v_get hC fl_X11_78 m_1 e_31 rfl dX11_bitsOf_1 ?_
  refine v_aload_n hC dX11_bitsOf_4 rfl ?_
  refine v_aload_n hC dX11_bitsOf_5 rfl ?_
  refine v_get hC fl_X11_19 m_1 e_31 rfl dX11_bitsOf_6 ?_
  obtain ⟨m_32, q_34, q_35, q_36, q_37, q_38, q_39, t_33, k_40, k_41, k_42, k_43, k_44, k_45⟩ := id k_18
  have e_46 : f q_4 = ob 0 [.ref q_34, .ref q_35, .ref q_36, .ref q_37, .ref q_38, .ref q_39] := hW.at m_32 t_33
  refine v_getN hC fn_X11_116 m_32 e_46 rfl dX11_bitsOf_9 ?_
  obtain ⟨m_47, q_49, t_48, k_50⟩ := id k_28
  obtain ⟨v_52, v_54, v_56, v_58, e_51, b_53, b_55, b_57, b_59⟩ := hW.at m_47 t_48
  refine v_vv hC (rest := []) m_47 e_51 rfl mi_X8_follow ms_X8_follow (p_X8_follow hW k_28 k_1 k_40) mx_X8_follow ml_X11_218 (by decide) rfl (cells1 := 0) (slots1 := 0) (by decide) (by decide) (Nat.le_of_ble_eq_true rfl) (Nat.le_of_ble_eq_true rfl) rfl (Nat.le_of_ble_eq_true rfl) dX11_bitsOf_12 (fun L_61 f_62 h_63 => ?_)
  obtain ⟨rfl, hW_64, hF_65⟩ := h_63
  have hf_66 := hF_65.at e_31 rfl
  have hf_67 := hF_65.at e_46 rfl
  refine v_aload_n hC dX11_bitsOf_15 rfl ?_
  refine v_get hC fl_X11_78 m_1 hf_66 rfl dX11_bitsOf_16 ?_
  obtain ⟨v_69, v_71, v_73, v_75, e_68, b_70, b_72, b_74, b_76⟩ := hW_64.at m_47 t_48
  refine v_getN hC fn_X11_222 m_47 e_68 rfl dX11_bitsOf_19 ?_
  exact hR _ _ _ _ _ _ _ dX11_bitsOf_22 rfl (Nat.le_of_ble_eq_true rfl) (Nat.le_of_ble_eq_true rfl) ⟨rfl, hW_64, (hF_65.mono rfl), (by first | omega | (simp only [Int32.lt_iff_toInt_lt, Int32.le_iff_toInt_le, Int32.reduceToInt, ← Int32.toInt_inj]; omega))⟩
set_option maxRecDepth 100000 in
set_option maxHeartbeats 4000000 in
theorem p_X11_way {l : Launch} {E : Ez} {L : List Nat} {f : Nat → va_E} {T : Nat → va_E → Prop} {a_0 : Nat} {a_1 : Int32} (hW : WT T L f) (k_0 : isX T L E a_0) : CI l yX11_way cX11_way 3 .int 7 0 0 E [.ref a_0, .int a_1] L f (fun r L1 f1 => L = L1 ∧ WT T L f1 ∧ FR [7, 8, 10, 356] f f1 ∧ ((-4) ≤ r.toInt ∧ r.toInt ≤ 256) ∧ (¬ r.toInt = 0 ∨ (0 ≤ a_1.toInt ∧ a_1.toInt ≤ 5))) := by
  refine ci_of (by decide) (Nat.le_of_ble_eq_true rfl) (fun z hz hnm hC hR => ?_)
  have hC : Cx z E cX11_way RX11 3 7 0 0 := hC
  subst hz
  show V z E 3 0 0 L f 0 [(0, .ref a_0), (1, .int a_1)] []
  refine v_iload_n hC dX11_way_0 rfl ?_
  refine v_si hC (rest := []) mt_X11_isWay (p_X11_isWay hW) mx_X11_isWay ml_X11_142 (by decide) rfl (cells1 := 0) (slots1 := 0) (by decide) (by decide) (Nat.le_of_ble_eq_true rfl) (Nat.le_of_ble_eq_true rfl) rfl (Nat.le_of_ble_eq_true rfl) dX11_way_1 (fun r_1 L_2 f_3 h_4 => ?_)
  obtain ⟨rfl, rfl, b_5, h_6⟩ := h_4
  refine v_if_ne hC dX11_way_4 (tgt := 10) (by decide) (fun h_9 => ?_) (fun h_9 => ?_)
  · simp only [Int32.lt_iff_toInt_lt, Int32.le_iff_toInt_le, Int32.reduceToInt, ← Int32.toInt_inj] at h_9
    refine v_aload_n hC dX11_way_10 rfl ?_
    obtain ⟨m_10, q_12, q_13, q_14, q_15, q_16, q_17, q_18, q_19, q_20, q_21, q_22, q_23, q_24, q_25, t_11, k_26, k_27, k_28, k_29, k_30, k_31, k_32, k_33, k_34, k_35, k_36, k_37, k_38, k_39⟩ := id k_0
    have e_40 : f a_0 = ob 11 [.ref q_12, .ref q_13, .ref q_14, .ref q_15, .ref q_16, .ref q_17, .ref q_18, .ref q_19, .ref q_20, .ref q_21, .ref q_22, .ref q_23, .ref q_24, .ref q_25] := hW.at m_10 t_11
    refine v_get hC fl_X11_54 m_10 e_40 rfl dX11_way_11 ?_
    refine v_aload_n hC dX11_way_14 rfl ?_
    refine v_get hC fl_X11_12 m_10 e_40 rfl dX11_way_15 ?_
    obtain ⟨m_41, t_42⟩ := id k_33
    obtain ⟨v_44, v_46, v_47, v_48, v_50, v_52, v_54, e_43, b_45, b_49, b_51, b_53, b_55⟩ := hW.at m_41 t_42
    refine v_vi hC (rest := []) m_41 e_43 rfl mi_X10_tell ms_X10_tell (p_X10_tell hW k_33 k_26) mx_X10_tell ml_X11_145 (by decide) rfl (cells1 := 0) (slots1 := 0) (by decide) (by decide) (Nat.le_of_ble_eq_true rfl) (Nat.le_of_ble_eq_true rfl) rfl (Nat.le_of_ble_eq_true rfl) dX11_way_18 (fun r_56 L_57 f_58 h_59 => ?_)
    obtain ⟨rfl, hW_61, hF_62, b_60⟩ := h_59
    have hf_63 := hF_62.at e_40 rfl
    refine v_istore_n hC dX11_way_21 (by decide) (lv' := [(2, .int r_56), (0, .ref a_0), (1, .int a_1)]) rfl ?_
    refine v_aload_n hC dX11_way_22 rfl ?_
    refine v_get hC fl_X11_12 m_10 hf_63 rfl dX11_way_23 ?_
    obtain ⟨m_64, q_66, t_65, k_67⟩ := id k_26
    obtain ⟨v_69, v_71, v_72, v_74, v_76, v_77, e_68, b_70, b_73, b_75⟩ := hW_61.at m_64 t_65
    refine v_vv hC (rest := []) m_64 e_68 rfl mi_X7_empty ms_X7_empty (p_X7_empty hW_61 k_26) mx_X7_empty ml_X11_113 (by decide) rfl (cells1 := 0) (slots1 := 0) (by decide) (by decide) (Nat.le_of_ble_eq_true rfl) (Nat.le_of_ble_eq_true rfl) rfl (Nat.le_of_ble_eq_true rfl) dX11_way_26 (fun L_79 f_80 h_81 => ?_)
    obtain ⟨rfl, hW_82, hF_83⟩ := h_81
    have hf_84 := hF_83.at hf_63 rfl
    refine v_iload_n hC dX11_way_29 rfl ?_
    refine v_if_ne hC dX11_way_30 (tgt := 36) (by decide) (fun h_85 => ?_) (fun h_85 => ?_)
    · simp only [Int32.lt_iff_toInt_lt, Int32.le_iff_toInt_le, Int32.reduceToInt, ← Int32.toInt_inj] at h_85
      refine v_aload_n hC dX11_way_36 rfl ?_
      refine v_get hC fl_X11_19 m_10 hf_84 rfl dX11_way_37 ?_
      obtain ⟨m_86, q_88, q_89, q_90, q_91, q_92, q_93, t_87, k_94, k_95, k_96, k_97, k_98, k_99⟩ := id k_27
      have e_100 : f_80 q_13 = ob 0 [.ref q_88, .ref q_89, .ref q_90, .ref q_91, .ref q_92, .ref q_93] := hW_82.at m_86 t_87
      refine v_getN hC fn_X11_146 m_86 e_100 rfl dX11_way_40 ?_
      refine v_iload_n hC dX11_way_43 rfl ?_
      obtain ⟨m_101, g_103, t_102, k_104⟩ := id k_96
      have e_105 : f_80 q_90 = aR E 7 6 g_103 := hW_82.at m_101 t_102
      obtain ⟨q_106, h_107, k_108⟩ := k_104 (a_1 : Int32).toNatClampNeg (clamp_lt (vp_in_iff.mpr (by first | omega | (simp only [Int32.lt_iff_toInt_lt, Int32.le_iff_toInt_le, Int32.reduceToInt, ← Int32.toInt_inj]; omega))))
      refine v_aald hC m_101 e_105 rfl (vp_in_iff.mpr (by first | omega | (simp only [Int32.lt_iff_toInt_lt, Int32.le_iff_toInt_le, Int32.reduceToInt, ← Int32.toInt_inj]; omega))) (v := .ref q_106) (by rw [h_107]; rfl) dX11_way_44 ?_
      refine v_aload_n hC dX11_way_45 rfl ?_
      refine v_get hC fl_X11_54 m_10 hf_84 rfl dX11_way_46 ?_
      obtain ⟨m_109, t_110⟩ := id k_108
      obtain ⟨v_112, v_114, v_115, v_116, v_118, v_120, v_122, e_111, b_113, b_117, b_119, b_121, b_123⟩ := hW_82.at m_109 t_110
      refine v_vv hC (rest := []) m_109 e_111 rfl mi_X10_takeFrom ms_X10_takeFrom (p_X10_takeFrom hW_82 k_108 k_33) mx_X10_takeFrom ml_X11_150 (by decide) rfl (cells1 := 0) (slots1 := 0) (by decide) (by decide) (Nat.le_of_ble_eq_true rfl) (Nat.le_of_ble_eq_true rfl) rfl (Nat.le_of_ble_eq_true rfl) dX11_way_49 (fun L_125 f_126 h_127 => ?_)
      obtain ⟨rfl, hW_128, hF_129⟩ := h_127
      have hf_130 := hF_129.at hf_84 rfl
      have hf_131 := hF_129.at e_100 rfl
      have hf_132 := hF_129.at e_105 rfl
      refine v_aload_n hC dX11_way_52 rfl ?_
      refine v_aload_n hC dX11_way_53 rfl ?_
      refine v_get hC fl_X11_19 m_10 hf_130 rfl dX11_way_54 ?_
      refine v_getN hC fn_X11_146 m_86 hf_131 rfl dX11_way_57 ?_
      refine v_iload_n hC dX11_way_60 rfl ?_
      obtain ⟨q_133, h_134, k_135⟩ := k_104 (a_1 : Int32).toNatClampNeg (clamp_lt (vp_in_iff.mpr (by first | omega | (simp only [Int32.lt_iff_toInt_lt, Int32.le_iff_toInt_le, Int32.reduceToInt, ← Int32.toInt_inj]; omega))))
      refine v_aald hC m_101 hf_132 rfl (vp_in_iff.mpr (by first | omega | (simp only [Int32.lt_iff_toInt_lt, Int32.le_iff_toInt_le, Int32.reduceToInt, ← Int32.toInt_inj]; omega))) (v := .ref q_133) (by rw [h_134]; rfl) dX11_way_61 ?_
      refine v_vi hC (rest := []) m_10 hf_130 rfl mi_X11_bitsOf ms_X11_bitsOf (p_X11_bitsOf hW_128 k_0 k_135) mx_X11_bitsOf ml_X11_153 (by decide) rfl (cells1 := 0) (slots1 := 0) (by decide) (by decide) (Nat.le_of_ble_eq_true rfl) (Nat.le_of_ble_eq_true rfl) rfl (Nat.le_of_ble_eq_true rfl) dX11_way_62 (fun r_136 L_137 f_138 h_139 => ?_)
      obtain ⟨rfl, hW_141, hF_142, b_140⟩ := h_139
      have hf_143 := hF_142.at hf_130 rfl
      have hf_144 := hF_142.at hf_131 rfl
      have hf_145 := hF_142.at hf_132 rfl
      exact hR _ _ _ _ _ _ _ dX11_way_65 rfl (Nat.le_of_ble_eq_true rfl) (Nat.le_of_ble_eq_true rfl) ⟨rfl, hW_141, ((((hF_62.tr hF_83).tr hF_129).tr hF_142).mono rfl), (by first | omega | (simp only [Int32.lt_iff_toInt_lt, Int32.le_iff_toInt_le, Int32.reduceToInt, ← Int32.toInt_inj]; omega)), (.inr (by first | omega | (simp only [Int32.lt_iff_toInt_lt, Int32.le_iff_toInt_le, Int32.reduceToInt, ← Int32.toInt_inj]; omega)))⟩
    · simp only [Int32.lt_iff_toInt_lt, Int32.le_iff_toInt_le, Int32.reduceToInt, ← Int32.toInt_inj] at h_85
      refine v_bipush hC dX11_way_33 (v := (-4)) (by decide) ?_
      exact hR _ _ _ _ _ _ _ dX11_way_35 rfl (Nat.le_of_ble_eq_true rfl) (Nat.le_of_ble_eq_true rfl) ⟨rfl, hW_82, ((hF_62.tr hF_83).mono rfl), (by decide), (.inl (by decide))⟩
  · simp only [Int32.lt_iff_toInt_lt, Int32.le_iff_toInt_le, Int32.reduceToInt, ← Int32.toInt_inj] at h_9
    refine v_bipush hC dX11_way_7 (v := (-2)) (by decide) ?_
    exact hR _ _ _ _ _ _ _ dX11_way_9 rfl (Nat.le_of_ble_eq_true rfl) (Nat.le_of_ble_eq_true rfl) ⟨rfl, hW, FR.rf, (by decide), (.inl (by decide))⟩
set_option maxRecDepth 100000 in
set_option maxHeartbeats 4000000 in
theorem p_X11_watcher {l : Launch} {E : Ez} {L : List Nat} {f : Nat → va_E} {T : Nat → va_E → Prop} {a_0 : Nat} (hW : WT T L f) (k_0 : isX T L E a_0) : CI l yX11_watcher cX11_watcher 2 .int 9 0 0 E [.ref a_0] L f (fun r L1 f1 => L = L1 ∧ WT T L f1 ∧ FR [7, 9, 400] f f1) := by
  refine ci_of (by decide) (Nat.le_of_ble_eq_true rfl) (fun z hz hnm hC hR => ?_)
  have hC : Cx z E cX11_watcher RX11 2 9 0 0 := hC
  subst hz
  show V z E 2 0 0 L f 0 [(0, .ref a_0)] []
  refine v_aload_n hC dX11_watcher_0 rfl ?_
  obtain ⟨m_1, q_3, q_4, q_5, q_6, q_7, q_8, q_9, q_10, q_11, q_12, q_13, q_14, q_15, q_16, t_2, k_17, k_18, k_19, k_20, k_21, k_22, k_23, k_24, k_25, k_26, k_27, k_28, k_29, k_30⟩ := id k_0
  have e_31 : f a_0 = ob 11 [.ref q_3, .ref q_4, .ref q_5, .ref q_6, .ref q_7, .ref q_8, .ref q_9, .ref q_10, .ref q_11, .ref q_12, .ref q_13, .ref q_14, .ref q_15, .ref q_16] := hW.at m_1 t_2
  refine v_get hC fl_X11_61 m_1 e_31 rfl dX11_watcher_1 ?_
  refine v_aload_n hC dX11_watcher_4 rfl ?_
  refine v_get hC fl_X11_12 m_1 e_31 rfl dX11_watcher_5 ?_
  obtain ⟨m_32, q_34, t_33, k_35⟩ := id k_25
  obtain ⟨v_37, v_39, e_36, b_38⟩ := hW.at m_32 t_33
  refine v_vi hC (rest := []) m_32 e_36 rfl mi_X9_tell ms_X9_tell (p_X9_tell hW k_25 k_17) mx_X9_tell ml_X11_157 (by decide) rfl (cells1 := 0) (slots1 := 0) (by decide) (by decide) (Nat.le_of_ble_eq_true rfl) (Nat.le_of_ble_eq_true rfl) rfl (Nat.le_of_ble_eq_true rfl) dX11_watcher_8 (fun r_40 L_41 f_42 h_43 => ?_)
  obtain ⟨rfl, hW_45, hF_46, b_44⟩ := h_43
  have hf_47 := hF_46.at e_31 rfl
  refine v_istore_n hC dX11_watcher_11 (by decide) (lv' := [(1, .int r_40), (0, .ref a_0)]) rfl ?_
  refine v_aload_n hC dX11_watcher_12 rfl ?_
  refine v_get hC fl_X11_12 m_1 hf_47 rfl dX11_watcher_13 ?_
  obtain ⟨m_48, q_50, t_49, k_51⟩ := id k_17
  obtain ⟨v_53, v_55, v_56, v_58, v_60, v_61, e_52, b_54, b_57, b_59⟩ := hW_45.at m_48 t_49
  refine v_vv hC (rest := []) m_48 e_52 rfl mi_X7_empty ms_X7_empty (p_X7_empty hW_45 k_17) mx_X7_empty ml_X11_113 (by decide) rfl (cells1 := 0) (slots1 := 0) (by decide) (by decide) (Nat.le_of_ble_eq_true rfl) (Nat.le_of_ble_eq_true rfl) rfl (Nat.le_of_ble_eq_true rfl) dX11_watcher_16 (fun L_63 f_64 h_65 => ?_)
  obtain ⟨rfl, hW_66, hF_67⟩ := h_65
  have hf_68 := hF_67.at hf_47 rfl
  refine v_iload_n hC dX11_watcher_19 rfl ?_
  refine v_if_ne hC dX11_watcher_20 (tgt := 26) (by decide) (fun h_69 => ?_) (fun h_69 => ?_)
  · simp only [Int32.lt_iff_toInt_lt, Int32.le_iff_toInt_le, Int32.reduceToInt, ← Int32.toInt_inj] at h_69
    refine v_aload_n hC dX11_watcher_26 rfl ?_
    refine v_get hC fl_X11_19 m_1 hf_68 rfl dX11_watcher_27 ?_
    obtain ⟨m_70, q_72, q_73, q_74, q_75, q_76, q_77, t_71, k_78, k_79, k_80, k_81, k_82, k_83⟩ := id k_18
    have e_84 : f_64 q_4 = ob 0 [.ref q_72, .ref q_73, .ref q_74, .ref q_75, .ref q_76, .ref q_77] := hW_66.at m_70 t_71
    refine v_getN hC fn_X11_158 m_70 e_84 rfl dX11_watcher_30 ?_
    refine v_aload_n hC dX11_watcher_33 rfl ?_
    refine v_get hC fl_X11_61 m_1 hf_68 rfl dX11_watcher_34 ?_
    obtain ⟨m_85, q_87, t_86, k_88⟩ := id k_81
    obtain ⟨v_90, v_92, e_89, b_91⟩ := hW_66.at m_85 t_86
    refine v_vv hC (rest := []) m_85 e_89 rfl mi_X9_takeFrom ms_X9_takeFrom (p_X9_takeFrom hW_66 k_81 k_25) mx_X9_takeFrom ml_X11_161 (by decide) rfl (cells1 := 0) (slots1 := 0) (by decide) (by decide) (Nat.le_of_ble_eq_true rfl) (Nat.le_of_ble_eq_true rfl) rfl (Nat.le_of_ble_eq_true rfl) dX11_watcher_37 (fun L_94 f_95 h_96 => ?_)
    obtain ⟨rfl, hW_97, hF_98⟩ := h_96
    have hf_99 := hF_98.at hf_68 rfl
    have hf_100 := hF_98.at e_84 rfl
    refine v_aload_n hC dX11_watcher_40 rfl ?_
    refine v_get hC fl_X11_19 m_1 hf_99 rfl dX11_watcher_41 ?_
    refine v_getN hC fn_X11_158 m_70 hf_100 rfl dX11_watcher_44 ?_
    obtain ⟨v_102, v_104, e_101, b_103⟩ := hW_97.at m_85 t_86
    refine v_getN hC fn_X11_164 m_85 e_101 rfl dX11_watcher_47 ?_
    exact hR _ _ _ _ _ _ _ dX11_watcher_50 rfl (Nat.le_of_ble_eq_true rfl) (Nat.le_of_ble_eq_true rfl) ⟨rfl, hW_97, (((hF_46.tr hF_67).tr hF_98).mono rfl)⟩
  · simp only [Int32.lt_iff_toInt_lt, Int32.le_iff_toInt_le, Int32.reduceToInt, ← Int32.toInt_inj] at h_69
    refine v_bipush hC dX11_watcher_23 (v := (-4)) (by decide) ?_
    exact hR _ _ _ _ _ _ _ dX11_watcher_25 rfl (Nat.le_of_ble_eq_true rfl) (Nat.le_of_ble_eq_true rfl) ⟨rfl, hW_66, ((hF_46.tr hF_67).mono rfl)⟩
set_option maxRecDepth 100000 in
set_option maxHeartbeats 4000000 in
theorem p_X11_losses {l : Launch} {E : Ez} {L : List Nat} {f : Nat → va_E} {T : Nat → va_E → Prop} {a_0 : Nat} (hW : WT T L f) (k_0 : isX T L E a_0) : CI l yX11_losses cX11_losses 2 .int 9 0 0 E [.ref a_0] L f (fun r L1 f1 => L = L1 ∧ WT T L f1 ∧ FR [3, 7, 112] f f1 ∧ ((-4) ≤ r.toInt ∧ r.toInt ≤ 12)) := by
  refine ci_of (by decide) (Nat.le_of_ble_eq_true rfl) (fun z hz hnm hC hR => ?_)
  have hC : Cx z E cX11_losses RX11 2 9 0 0 := hC
  subst hz
  show V z E 2 0 0 L f 0 [(0, .ref a_0)] []
  refine v_aload_n hC dX11_losses_0 rfl ?_
  obtain ⟨m_1, q_3, q_4, q_5, q_6, q_7, q_8, q_9, q_10, q_11, q_12, q_13, q_14, q_15, q_16, t_2, k_17, k_18, k_19, k_20, k_21, k_22, k_23, k_24, k_25, k_26, k_27, k_28, k_29, k_30⟩ := id k_0
  have e_31 : f a_0 = ob 11 [.ref q_3, .ref q_4, .ref q_5, .ref q_6, .ref q_7, .ref q_8, .ref q_9, .ref q_10, .ref q_11, .ref q_12, .ref q_13, .ref q_14, .ref q_15, .ref q_16] := hW.at m_1 t_2
  refine v_get hC fl_X11_68 m_1 e_31 rfl dX11_losses_1 ?_
  refine v_aload_n hC dX11_losses_4 rfl ?_
  refine v_get hC fl_X11_12 m_1 e_31 rfl dX11_losses_5 ?_
  obtain ⟨m_32, q_34, q_35, q_36, t_33, k_37, k_38, k_39⟩ := id k_26
  obtain ⟨v_41, e_40, b_42⟩ := hW.at m_32 t_33
  refine v_vi hC (rest := []) m_32 e_40 rfl mi_X3_tell ms_X3_tell (p_X3_tell hW k_26 k_17) mx_X3_tell ml_X11_167 (by decide) rfl (cells1 := 0) (slots1 := 0) (by decide) (by decide) (Nat.le_of_ble_eq_true rfl) (Nat.le_of_ble_eq_true rfl) rfl (Nat.le_of_ble_eq_true rfl) dX11_losses_8 (fun r_43 L_44 f_45 h_46 => ?_)
  obtain ⟨rfl, hW_48, hF_49, b_47⟩ := h_46
  have hf_50 := hF_49.at e_31 rfl
  refine v_istore_n hC dX11_losses_11 (by decide) (lv' := [(1, .int r_43), (0, .ref a_0)]) rfl ?_
  refine v_aload_n hC dX11_losses_12 rfl ?_
  refine v_get hC fl_X11_12 m_1 hf_50 rfl dX11_losses_13 ?_
  obtain ⟨m_51, q_53, t_52, k_54⟩ := id k_17
  obtain ⟨v_56, v_58, v_59, v_61, v_63, v_64, e_55, b_57, b_60, b_62⟩ := hW_48.at m_51 t_52
  refine v_vv hC (rest := []) m_51 e_55 rfl mi_X7_empty ms_X7_empty (p_X7_empty hW_48 k_17) mx_X7_empty ml_X11_113 (by decide) rfl (cells1 := 0) (slots1 := 0) (by decide) (by decide) (Nat.le_of_ble_eq_true rfl) (Nat.le_of_ble_eq_true rfl) rfl (Nat.le_of_ble_eq_true rfl) dX11_losses_16 (fun L_66 f_67 h_68 => ?_)
  obtain ⟨rfl, hW_69, hF_70⟩ := h_68
  have hf_71 := hF_70.at hf_50 rfl
  refine v_iload_n hC dX11_losses_19 rfl ?_
  refine v_if_ne hC dX11_losses_20 (tgt := 26) (by decide) (fun h_72 => ?_) (fun h_72 => ?_)
  · simp only [Int32.lt_iff_toInt_lt, Int32.le_iff_toInt_le, Int32.reduceToInt, ← Int32.toInt_inj] at h_72
    refine v_aload_n hC dX11_losses_26 rfl ?_
    refine v_get hC fl_X11_19 m_1 hf_71 rfl dX11_losses_27 ?_
    obtain ⟨m_73, q_75, q_76, q_77, q_78, q_79, q_80, t_74, k_81, k_82, k_83, k_84, k_85, k_86⟩ := id k_18
    have e_87 : f_67 q_4 = ob 0 [.ref q_75, .ref q_76, .ref q_77, .ref q_78, .ref q_79, .ref q_80] := hW_69.at m_73 t_74
    refine v_getN hC fn_X11_168 m_73 e_87 rfl dX11_losses_30 ?_
    refine v_aload_n hC dX11_losses_33 rfl ?_
    refine v_get hC fl_X11_68 m_1 hf_71 rfl dX11_losses_34 ?_
    obtain ⟨m_88, q_90, q_91, q_92, t_89, k_93, k_94, k_95⟩ := id k_85
    obtain ⟨v_97, e_96, b_98⟩ := hW_69.at m_88 t_89
    refine v_vv hC (rest := []) m_88 e_96 rfl mi_X3_takeFrom ms_X3_takeFrom (p_X3_takeFrom hW_69 k_85 k_26) mx_X3_takeFrom ml_X11_171 (by decide) rfl (cells1 := 0) (slots1 := 0) (by decide) (by decide) (Nat.le_of_ble_eq_true rfl) (Nat.le_of_ble_eq_true rfl) rfl (Nat.le_of_ble_eq_true rfl) dX11_losses_37 (fun L_100 f_101 h_102 => ?_)
    obtain ⟨rfl, hW_103, hF_104⟩ := h_102
    have hf_105 := hF_104.at hf_71 rfl
    have hf_106 := hF_104.at e_87 rfl
    refine v_aload_n hC dX11_losses_40 rfl ?_
    refine v_get hC fl_X11_19 m_1 hf_105 rfl dX11_losses_41 ?_
    refine v_getN hC fn_X11_168 m_73 hf_106 rfl dX11_losses_44 ?_
    obtain ⟨v_108, e_107, b_109⟩ := hW_103.at m_88 t_89
    refine v_getN hC fn_X11_174 m_88 e_107 rfl dX11_losses_47 ?_
    exact hR _ _ _ _ _ _ _ dX11_losses_50 rfl (Nat.le_of_ble_eq_true rfl) (Nat.le_of_ble_eq_true rfl) ⟨rfl, hW_103, (((hF_49.tr hF_70).tr hF_104).mono rfl), (by first | omega | (simp only [Int32.lt_iff_toInt_lt, Int32.le_iff_toInt_le, Int32.reduceToInt, ← Int32.toInt_inj]; omega))⟩
  · simp only [Int32.lt_iff_toInt_lt, Int32.le_iff_toInt_le, Int32.reduceToInt, ← Int32.toInt_inj] at h_72
    refine v_bipush hC dX11_losses_23 (v := (-4)) (by decide) ?_
    exact hR _ _ _ _ _ _ _ dX11_losses_25 rfl (Nat.le_of_ble_eq_true rfl) (Nat.le_of_ble_eq_true rfl) ⟨rfl, hW_69, ((hF_49.tr hF_70).mono rfl), (by decide)⟩
set_option maxRecDepth 100000 in
set_option maxHeartbeats 4000000 in
theorem p_X11_fault {l : Launch} {E : Ez} {L : List Nat} {f : Nat → va_E} {T : Nat → va_E → Prop} {a_0 : Nat} {a_1 : Int32} (hW : WT T L f) (k_0 : isX T L E a_0) : CI l yX11_fault cX11_fault 2 .int 0 0 0 E [.ref a_0, .int a_1] L f (fun r L1 f1 => L = L1 ∧ f = f1 ∧ (¬ r.toInt = 0 ∨ (0 ≤ a_1.toInt ∧ a_1.toInt ≤ 1))) := by
  refine ci_of (by decide) (Nat.le_of_ble_eq_true rfl) (fun z hz hnm hC hR => ?_)
  have hC : Cx z E cX11_fault RX11 2 0 0 0 := hC
  subst hz
  show V z E 2 0 0 L f 0 [(0, .ref a_0), (1, .int a_1)] []
  refine v_iload_n hC dX11_fault_0 rfl ?_
  by_cases h_1 : a_1 = 0
  · refine v_lookup hC dX11_fault_1 (off := 27) (tgt := 28) (by decide) (by rw [h_1]; rfl) (by decide) ?_
    simp only [Int32.lt_iff_toInt_lt, Int32.le_iff_toInt_le, Int32.reduceToInt, ← Int32.toInt_inj] at h_1
    refine v_aload_n hC dX11_fault_28 rfl ?_
    obtain ⟨m_3, q_5, q_6, q_7, q_8, q_9, q_10, q_11, q_12, q_13, q_14, q_15, q_16, q_17, q_18, t_4, k_19, k_20, k_21, k_22, k_23, k_24, k_25, k_26, k_27, k_28, k_29, k_30, k_31, k_32⟩ := id k_0
    have e_33 : f a_0 = ob 11 [.ref q_5, .ref q_6, .ref q_7, .ref q_8, .ref q_9, .ref q_10, .ref q_11, .ref q_12, .ref q_13, .ref q_14, .ref q_15, .ref q_16, .ref q_17, .ref q_18] := hW.at m_3 t_4
    refine v_get hC fl_X11_12 m_3 e_33 rfl dX11_fault_29 ?_
    obtain ⟨m_34, q_36, t_35, k_37⟩ := id k_19
    obtain ⟨v_39, v_41, v_42, v_44, v_46, v_47, e_38, b_40, b_43, b_45⟩ := hW.at m_34 t_35
    refine v_getN hC fn_X11_175 m_34 e_38 rfl dX11_fault_32 ?_
    exact hR _ _ _ _ _ _ _ dX11_fault_35 rfl (Nat.le_of_ble_eq_true rfl) (Nat.le_of_ble_eq_true rfl) ⟨rfl, rfl, (.inr (by first | omega | (simp only [Int32.lt_iff_toInt_lt, Int32.le_iff_toInt_le, Int32.reduceToInt, ← Int32.toInt_inj]; omega)))⟩
  by_cases h_2 : a_1 = 1
  · refine v_lookup hC dX11_fault_1 (off := 35) (tgt := 36) (by decide) (by rw [h_2]; rfl) (by decide) ?_
    simp only [Int32.lt_iff_toInt_lt, Int32.le_iff_toInt_le, Int32.reduceToInt, ← Int32.toInt_inj] at h_2
    refine v_aload_n hC dX11_fault_36 rfl ?_
    obtain ⟨m_48, q_50, q_51, q_52, q_53, q_54, q_55, q_56, q_57, q_58, q_59, q_60, q_61, q_62, q_63, t_49, k_64, k_65, k_66, k_67, k_68, k_69, k_70, k_71, k_72, k_73, k_74, k_75, k_76, k_77⟩ := id k_0
    have e_78 : f a_0 = ob 11 [.ref q_50, .ref q_51, .ref q_52, .ref q_53, .ref q_54, .ref q_55, .ref q_56, .ref q_57, .ref q_58, .ref q_59, .ref q_60, .ref q_61, .ref q_62, .ref q_63] := hW.at m_48 t_49
    refine v_get hC fl_X11_12 m_48 e_78 rfl dX11_fault_37 ?_
    obtain ⟨m_79, q_81, t_80, k_82⟩ := id k_64
    obtain ⟨v_84, v_86, v_87, v_89, v_91, v_92, e_83, b_85, b_88, b_90⟩ := hW.at m_79 t_80
    refine v_getN hC fn_X11_178 m_79 e_83 rfl dX11_fault_40 ?_
    exact hR _ _ _ _ _ _ _ dX11_fault_43 rfl (Nat.le_of_ble_eq_true rfl) (Nat.le_of_ble_eq_true rfl) ⟨rfl, rfl, (.inr (by first | omega | (simp only [Int32.lt_iff_toInt_lt, Int32.le_iff_toInt_le, Int32.reduceToInt, ← Int32.toInt_inj]; omega)))⟩
  refine v_lookup hC dX11_fault_1 (off := 43) (tgt := 44) (by decide) (by refine (lv_osw h_1 rfl).trans ?_; refine (lv_osw h_2 rfl).trans ?_; rfl) (by decide) ?_
  simp only [Int32.lt_iff_toInt_lt, Int32.le_iff_toInt_le, Int32.reduceToInt, ← Int32.toInt_inj] at h_1 h_2
  refine v_iconst hC dX11_fault_44 (v := (-1)) (by decide) ?_
  exact hR _ _ _ _ _ _ _ dX11_fault_45 rfl (Nat.le_of_ble_eq_true rfl) (Nat.le_of_ble_eq_true rfl) ⟨rfl, rfl, (.inl (by decide))⟩
set_option maxRecDepth 100000 in
set_option maxHeartbeats 4000000 in
theorem p_X11_isCloth {l : Launch} {E : Ez} {L : List Nat} {f : Nat → va_E} {T : Nat → va_E → Prop} {a_0 : Int32} (hW : WT T L f) : CI l yX11_isCloth cX11_isCloth 1 .boolean 0 0 0 E [.int a_0] L f (fun r L1 f1 => L = L1 ∧ f = f1 ∧ (0 ≤ r.toInt ∧ r.toInt ≤ 1) ∧ (r.toInt = 0 ∨ (0 ≤ a_0.toInt ∧ a_0.toInt ≤ 3))) := by
  refine ci_of (by decide) (Nat.le_of_ble_eq_true rfl) (fun z hz hnm hC hR => ?_)
  have hC : Cx z E cX11_isCloth RX11 1 0 0 0 := hC
  subst hz
  show V z E 1 0 0 L f 0 [(0, .int a_0)] []
  refine v_iload_n hC dX11_isCloth_0 rfl ?_
  refine v_if_lt hC dX11_isCloth_1 (tgt := 13) (by decide) (fun h_1 => ?_) (fun h_1 => ?_)
  · simp only [Int32.lt_iff_toInt_lt, Int32.le_iff_toInt_le, Int32.reduceToInt, ← Int32.toInt_inj] at h_1
    refine v_iconst hC dX11_isCloth_13 (v := 0) (by decide) ?_
    exact hR _ _ _ _ _ _ _ dX11_isCloth_14 rfl (Nat.le_of_ble_eq_true rfl) (Nat.le_of_ble_eq_true rfl) ⟨rfl, rfl, (by decide), (.inl (by decide))⟩
  · simp only [Int32.lt_iff_toInt_lt, Int32.le_iff_toInt_le, Int32.reduceToInt, ← Int32.toInt_inj] at h_1
    refine v_iload_n hC dX11_isCloth_4 rfl ?_
    refine v_iconst hC dX11_isCloth_5 (v := 4) (by decide) ?_
    refine v_icmp_ge hC dX11_isCloth_6 (tgt := 13) (by decide) (fun h_2 => ?_) (fun h_2 => ?_)
    · simp only [Int32.lt_iff_toInt_lt, Int32.le_iff_toInt_le, Int32.reduceToInt, ← Int32.toInt_inj] at h_2
      refine v_iconst hC dX11_isCloth_13 (v := 0) (by decide) ?_
      exact hR _ _ _ _ _ _ _ dX11_isCloth_14 rfl (Nat.le_of_ble_eq_true rfl) (Nat.le_of_ble_eq_true rfl) ⟨rfl, rfl, (by decide), (.inl (by decide))⟩
    · simp only [Int32.lt_iff_toInt_lt, Int32.le_iff_toInt_le, Int32.reduceToInt, ← Int32.toInt_inj] at h_2
      refine v_iconst hC dX11_isCloth_9 (v := 1) (by decide) ?_
      refine v_goto hC dX11_isCloth_10 (tgt := 14) (by decide) ?_
      exact hR _ _ _ _ _ _ _ dX11_isCloth_14 rfl (Nat.le_of_ble_eq_true rfl) (Nat.le_of_ble_eq_true rfl) ⟨rfl, rfl, (by decide), (.inr (by first | omega | (simp only [Int32.lt_iff_toInt_lt, Int32.le_iff_toInt_le, Int32.reduceToInt, ← Int32.toInt_inj]; omega)))⟩
set_option maxRecDepth 100000 in
set_option maxHeartbeats 4000000 in
theorem p_X11_isSeed {l : Launch} {E : Ez} {L : List Nat} {f : Nat → va_E} {T : Nat → va_E → Prop} {a_0 : Int32} (hW : WT T L f) : CI l yX11_isSeed cX11_isSeed 1 .boolean 0 0 0 E [.int a_0] L f (fun r L1 f1 => L = L1 ∧ f = f1 ∧ (0 ≤ r.toInt ∧ r.toInt ≤ 1) ∧ (r.toInt = 0 ∨ (0 ≤ a_0.toInt ∧ a_0.toInt ≤ 2000000000))) := by
  refine ci_of (by decide) (Nat.le_of_ble_eq_true rfl) (fun z hz hnm hC hR => ?_)
  have hC : Cx z E cX11_isSeed RX11 1 0 0 0 := hC
  subst hz
  show V z E 1 0 0 L f 0 [(0, .int a_0)] []
  refine v_iload_n hC dX11_isSeed_0 rfl ?_
  refine v_if_lt hC dX11_isSeed_1 (tgt := 15) (by decide) (fun h_1 => ?_) (fun h_1 => ?_)
  · simp only [Int32.lt_iff_toInt_lt, Int32.le_iff_toInt_le, Int32.reduceToInt, ← Int32.toInt_inj] at h_1
    refine v_iconst hC dX11_isSeed_15 (v := 0) (by decide) ?_
    exact hR _ _ _ _ _ _ _ dX11_isSeed_16 rfl (Nat.le_of_ble_eq_true rfl) (Nat.le_of_ble_eq_true rfl) ⟨rfl, rfl, (by decide), (.inl (by decide))⟩
  · simp only [Int32.lt_iff_toInt_lt, Int32.le_iff_toInt_le, Int32.reduceToInt, ← Int32.toInt_inj] at h_1
    refine v_iload_n hC dX11_isSeed_4 rfl ?_
    refine v_ldcw hC kc_X11_385 dX11_isSeed_5 ?_
    refine v_icmp_gt hC dX11_isSeed_8 (tgt := 15) (by decide) (fun h_2 => ?_) (fun h_2 => ?_)
    · simp only [Int32.lt_iff_toInt_lt, Int32.le_iff_toInt_le, Int32.reduceToInt, ← Int32.toInt_inj] at h_2
      refine v_iconst hC dX11_isSeed_15 (v := 0) (by decide) ?_
      exact hR _ _ _ _ _ _ _ dX11_isSeed_16 rfl (Nat.le_of_ble_eq_true rfl) (Nat.le_of_ble_eq_true rfl) ⟨rfl, rfl, (by decide), (.inl (by decide))⟩
    · simp only [Int32.lt_iff_toInt_lt, Int32.le_iff_toInt_le, Int32.reduceToInt, ← Int32.toInt_inj] at h_2
      refine v_iconst hC dX11_isSeed_11 (v := 1) (by decide) ?_
      refine v_goto hC dX11_isSeed_12 (tgt := 16) (by decide) ?_
      exact hR _ _ _ _ _ _ _ dX11_isSeed_16 rfl (Nat.le_of_ble_eq_true rfl) (Nat.le_of_ble_eq_true rfl) ⟨rfl, rfl, (by decide), (.inr (by first | omega | (simp only [Int32.lt_iff_toInt_lt, Int32.le_iff_toInt_le, Int32.reduceToInt, ← Int32.toInt_inj]; omega)))⟩
set_option maxRecDepth 100000 in
set_option maxHeartbeats 4000000 in
theorem p_X11_knit {l : Launch} {E : Ez} {L : List Nat} {f : Nat → va_E} {T : Nat → va_E → Prop} {a_0 : Nat} {a_1 : Int32} {a_2 : Int32} (hW : WT T L f) (k_0 : isX T L E a_0) : CI l yX11_knit cX11_knit 3 .int 3 0 0 E [.ref a_0, .int a_1, .int a_2] L f (fun r L1 f1 => L = L1 ∧ WT T L f1 ∧ FR [1, 356] f f1 ∧ (¬ r.toInt = 0 ∨ (0 ≤ a_1.toInt ∧ a_1.toInt ≤ 3)) ∧ (¬ r.toInt = 0 ∨ (0 ≤ a_2.toInt ∧ a_2.toInt ≤ 2000000000))) := by
  refine ci_of (by decide) (Nat.le_of_ble_eq_true rfl) (fun z hz hnm hC hR => ?_)
  have hC : Cx z E cX11_knit RX11 3 3 0 0 := hC
  subst hz
  show V z E 3 0 0 L f 0 [(0, .ref a_0), (1, .int a_1), (2, .int a_2)] []
  refine v_iload_n hC dX11_knit_0 rfl ?_
  refine v_si hC (rest := []) mt_X11_isCloth (p_X11_isCloth hW) mx_X11_isCloth ml_X11_181 (by decide) rfl (cells1 := 0) (slots1 := 0) (by decide) (by decide) (Nat.le_of_ble_eq_true rfl) (Nat.le_of_ble_eq_true rfl) rfl (Nat.le_of_ble_eq_true rfl) dX11_knit_1 (fun r_1 L_2 f_3 h_4 => ?_)
  obtain ⟨rfl, rfl, b_5, h_6⟩ := h_4
  refine v_if_eq hC dX11_knit_4 (tgt := 14) (by decide) (fun h_9 => ?_) (fun h_9 => ?_)
  · simp only [Int32.lt_iff_toInt_lt, Int32.le_iff_toInt_le, Int32.reduceToInt, ← Int32.toInt_inj] at h_9
    refine v_bipush hC dX11_knit_14 (v := (-2)) (by decide) ?_
    exact hR _ _ _ _ _ _ _ dX11_knit_16 rfl (Nat.le_of_ble_eq_true rfl) (Nat.le_of_ble_eq_true rfl) ⟨rfl, hW, FR.rf, (.inl (by decide)), (.inl (by decide))⟩
  · simp only [Int32.lt_iff_toInt_lt, Int32.le_iff_toInt_le, Int32.reduceToInt, ← Int32.toInt_inj] at h_9
    refine v_iload_n hC dX11_knit_7 rfl ?_
    refine v_si hC (rest := []) mt_X11_isSeed (p_X11_isSeed hW) mx_X11_isSeed ml_X11_184 (by decide) rfl (cells1 := 0) (slots1 := 0) (by decide) (by decide) (Nat.le_of_ble_eq_true rfl) (Nat.le_of_ble_eq_true rfl) rfl (Nat.le_of_ble_eq_true rfl) dX11_knit_8 (fun r_10 L_11 f_12 h_13 => ?_)
    obtain ⟨rfl, rfl, b_14, h_15⟩ := h_13
    refine v_if_ne hC dX11_knit_11 (tgt := 17) (by decide) (fun h_18 => ?_) (fun h_18 => ?_)
    · simp only [Int32.lt_iff_toInt_lt, Int32.le_iff_toInt_le, Int32.reduceToInt, ← Int32.toInt_inj] at h_18
      refine v_aload_n hC dX11_knit_17 rfl ?_
      obtain ⟨m_19, q_21, q_22, q_23, q_24, q_25, q_26, q_27, q_28, q_29, q_30, q_31, q_32, q_33, q_34, t_20, k_35, k_36, k_37, k_38, k_39, k_40, k_41, k_42, k_43, k_44, k_45, k_46, k_47, k_48⟩ := id k_0
      have e_49 : f a_0 = ob 11 [.ref q_21, .ref q_22, .ref q_23, .ref q_24, .ref q_25, .ref q_26, .ref q_27, .ref q_28, .ref q_29, .ref q_30, .ref q_31, .ref q_32, .ref q_33, .ref q_34] := hW.at m_19 t_20
      refine v_get hC fl_X11_19 m_19 e_49 rfl dX11_knit_18 ?_
      obtain ⟨m_50, q_52, q_53, q_54, q_55, q_56, q_57, t_51, k_58, k_59, k_60, k_61, k_62, k_63⟩ := id k_36
      have e_64 : f q_22 = ob 0 [.ref q_52, .ref q_53, .ref q_54, .ref q_55, .ref q_56, .ref q_57] := hW.at m_50 t_51
      refine v_getN hC fn_X11_116 m_50 e_64 rfl dX11_knit_21 ?_
      obtain ⟨m_65, q_67, q_68, t_66, k_69, k_70⟩ := id k_58
      obtain ⟨v_72, v_74, v_76, e_71, b_73, b_75, b_77⟩ := hW.at m_65 t_66
      refine v_vi hC (rest := []) m_65 e_71 rfl mi_X4_isThere ms_X4_isThere (p_X4_isThere hW k_58) mx_X4_isThere ml_X11_187 (by decide) rfl (cells1 := 0) (slots1 := 0) (by decide) (by decide) (Nat.le_of_ble_eq_true rfl) (Nat.le_of_ble_eq_true rfl) rfl (Nat.le_of_ble_eq_true rfl) dX11_knit_24 (fun r_78 L_79 f_80 h_81 => ?_)
      obtain ⟨rfl, rfl, b_82⟩ := h_81
      refine v_if_ne hC dX11_knit_27 (tgt := 33) (by decide) (fun h_85 => ?_) (fun h_85 => ?_)
      · simp only [Int32.lt_iff_toInt_lt, Int32.le_iff_toInt_le, Int32.reduceToInt, ← Int32.toInt_inj] at h_85
        refine v_aload_n hC dX11_knit_33 rfl ?_
        refine v_get hC fl_X11_19 m_19 e_49 rfl dX11_knit_34 ?_
        refine v_getN hC fn_X11_190 m_50 e_64 rfl dX11_knit_37 ?_
        refine v_iload_n hC dX11_knit_40 rfl ?_
        obtain ⟨m_86, g_88, t_87, k_89⟩ := id k_63
        have e_90 : f q_57 = aR E 5 4 g_88 := hW.at m_86 t_87
        obtain ⟨q_91, h_92, k_93⟩ := k_89 (a_1 : Int32).toNatClampNeg (clamp_lt (vp_in_iff.mpr (by first | omega | (simp only [Int32.lt_iff_toInt_lt, Int32.le_iff_toInt_le, Int32.reduceToInt, ← Int32.toInt_inj]; omega))))
        refine v_aald hC m_86 e_90 rfl (vp_in_iff.mpr (by first | omega | (simp only [Int32.lt_iff_toInt_lt, Int32.le_iff_toInt_le, Int32.reduceToInt, ← Int32.toInt_inj]; omega))) (v := .ref q_91) (by rw [h_92]; rfl) dX11_knit_41 ?_
        refine v_aload_n hC dX11_knit_42 rfl ?_
        refine v_get hC fl_X11_19 m_19 e_49 rfl dX11_knit_43 ?_
        refine v_getN hC fn_X11_116 m_50 e_64 rfl dX11_knit_46 ?_
        refine v_aload_n hC dX11_knit_49 rfl ?_
        refine v_get hC fl_X11_19 m_19 e_49 rfl dX11_knit_50 ?_
        refine v_getN hC fn_X11_133 m_50 e_64 rfl dX11_knit_53 ?_
        refine v_iload_n hC dX11_knit_56 rfl ?_
        obtain ⟨m_94, q_96, t_95, k_97⟩ := id k_93
        obtain ⟨v_99, e_98, b_100⟩ := hW.at m_94 t_95
        refine v_vi hC (rest := []) m_94 e_98 rfl mi_X1_knitBy ms_X1_knitBy (p_X1_knitBy hW k_93 k_58 k_59) mx_X1_knitBy ml_X11_194 (by decide) rfl (cells1 := 0) (slots1 := 0) (by decide) (by decide) (Nat.le_of_ble_eq_true rfl) (Nat.le_of_ble_eq_true rfl) rfl (Nat.le_of_ble_eq_true rfl) dX11_knit_57 (fun r_101 L_102 f_103 h_104 => ?_)
        obtain ⟨rfl, hW_105, hF_106⟩ := h_104
        have hf_107 := hF_106.at e_49 rfl
        have hf_108 := hF_106.at e_64 rfl
        have hf_109 := hF_106.at e_71 rfl
        have hf_110 := hF_106.at e_90 rfl
        exact hR _ _ _ _ _ _ _ dX11_knit_60 rfl (Nat.le_of_ble_eq_true rfl) (Nat.le_of_ble_eq_true rfl) ⟨rfl, hW_105, (hF_106.mono rfl), (.inr (by first | omega | (simp only [Int32.lt_iff_toInt_lt, Int32.le_iff_toInt_le, Int32.reduceToInt, ← Int32.toInt_inj]; omega))), (.inr (by first | omega | (simp only [Int32.lt_iff_toInt_lt, Int32.le_iff_toInt_le, Int32.reduceToInt, ← Int32.toInt_inj]; omega)))⟩
      · simp only [Int32.lt_iff_toInt_lt, Int32.le_iff_toInt_le, Int32.reduceToInt, ← Int32.toInt_inj] at h_85
        refine v_bipush hC dX11_knit_30 (v := (-6)) (by decide) ?_
        exact hR _ _ _ _ _ _ _ dX11_knit_32 rfl (Nat.le_of_ble_eq_true rfl) (Nat.le_of_ble_eq_true rfl) ⟨rfl, hW, FR.rf, (.inl (by decide)), (.inl (by decide))⟩
    · simp only [Int32.lt_iff_toInt_lt, Int32.le_iff_toInt_le, Int32.reduceToInt, ← Int32.toInt_inj] at h_18
      refine v_bipush hC dX11_knit_14 (v := (-2)) (by decide) ?_
      exact hR _ _ _ _ _ _ _ dX11_knit_16 rfl (Nat.le_of_ble_eq_true rfl) (Nat.le_of_ble_eq_true rfl) ⟨rfl, hW, FR.rf, (.inl (by decide)), (.inl (by decide))⟩
set_option maxRecDepth 100000 in
set_option maxHeartbeats 4000000 in
theorem p_X11_hasCloth {l : Launch} {E : Ez} {L : List Nat} {f : Nat → va_E} {T : Nat → va_E → Prop} {a_0 : Nat} {a_1 : Int32} (hW : WT T L f) (k_0 : isX T L E a_0) : CI l yX11_hasCloth cX11_hasCloth 2 .boolean 1 0 0 E [.ref a_0, .int a_1] L f (fun r L1 f1 => L = L1 ∧ f = f1 ∧ (0 ≤ r.toInt ∧ r.toInt ≤ 1) ∧ (r.toInt = 0 ∨ (0 ≤ a_1.toInt ∧ a_1.toInt ≤ 3))) := by
  refine ci_of (by decide) (Nat.le_of_ble_eq_true rfl) (fun z hz hnm hC hR => ?_)
  have hC : Cx z E cX11_hasCloth RX11 2 1 0 0 := hC
  subst hz
  show V z E 2 0 0 L f 0 [(0, .ref a_0), (1, .int a_1)] []
  refine v_iload_n hC dX11_hasCloth_0 rfl ?_
  refine v_si hC (rest := []) mt_X11_isCloth (p_X11_isCloth hW) mx_X11_isCloth ml_X11_181 (by decide) rfl (cells1 := 0) (slots1 := 0) (by decide) (by decide) (Nat.le_of_ble_eq_true rfl) (Nat.le_of_ble_eq_true rfl) rfl (Nat.le_of_ble_eq_true rfl) dX11_hasCloth_1 (fun r_1 L_2 f_3 h_4 => ?_)
  obtain ⟨rfl, rfl, b_5, h_6⟩ := h_4
  refine v_if_eq hC dX11_hasCloth_4 (tgt := 26) (by decide) (fun h_9 => ?_) (fun h_9 => ?_)
  · simp only [Int32.lt_iff_toInt_lt, Int32.le_iff_toInt_le, Int32.reduceToInt, ← Int32.toInt_inj] at h_9
    refine v_iconst hC dX11_hasCloth_26 (v := 0) (by decide) ?_
    exact hR _ _ _ _ _ _ _ dX11_hasCloth_27 rfl (Nat.le_of_ble_eq_true rfl) (Nat.le_of_ble_eq_true rfl) ⟨rfl, rfl, (by decide), (.inl (by decide))⟩
  · simp only [Int32.lt_iff_toInt_lt, Int32.le_iff_toInt_le, Int32.reduceToInt, ← Int32.toInt_inj] at h_9
    refine v_aload_n hC dX11_hasCloth_7 rfl ?_
    obtain ⟨m_10, q_12, q_13, q_14, q_15, q_16, q_17, q_18, q_19, q_20, q_21, q_22, q_23, q_24, q_25, t_11, k_26, k_27, k_28, k_29, k_30, k_31, k_32, k_33, k_34, k_35, k_36, k_37, k_38, k_39⟩ := id k_0
    have e_40 : f a_0 = ob 11 [.ref q_12, .ref q_13, .ref q_14, .ref q_15, .ref q_16, .ref q_17, .ref q_18, .ref q_19, .ref q_20, .ref q_21, .ref q_22, .ref q_23, .ref q_24, .ref q_25] := hW.at m_10 t_11
    refine v_get hC fl_X11_19 m_10 e_40 rfl dX11_hasCloth_8 ?_
    obtain ⟨m_41, q_43, q_44, q_45, q_46, q_47, q_48, t_42, k_49, k_50, k_51, k_52, k_53, k_54⟩ := id k_27
    have e_55 : f q_13 = ob 0 [.ref q_43, .ref q_44, .ref q_45, .ref q_46, .ref q_47, .ref q_48] := hW.at m_41 t_42
    refine v_getN hC fn_X11_190 m_41 e_55 rfl dX11_hasCloth_11 ?_
    refine v_iload_n hC dX11_hasCloth_14 rfl ?_
    obtain ⟨m_56, g_58, t_57, k_59⟩ := id k_54
    have e_60 : f q_48 = aR E 5 4 g_58 := hW.at m_56 t_57
    obtain ⟨q_61, h_62, k_63⟩ := k_59 (a_1 : Int32).toNatClampNeg (clamp_lt (vp_in_iff.mpr (by first | omega | (simp only [Int32.lt_iff_toInt_lt, Int32.le_iff_toInt_le, Int32.reduceToInt, ← Int32.toInt_inj]; omega))))
    refine v_aald hC m_56 e_60 rfl (vp_in_iff.mpr (by first | omega | (simp only [Int32.lt_iff_toInt_lt, Int32.le_iff_toInt_le, Int32.reduceToInt, ← Int32.toInt_inj]; omega))) (v := .ref q_61) (by rw [h_62]; rfl) dX11_hasCloth_15 ?_
    obtain ⟨m_64, q_66, t_65, k_67⟩ := id k_63
    obtain ⟨v_69, e_68, b_70⟩ := hW.at m_64 t_65
    refine v_getN hC fn_X11_386 m_64 e_68 rfl dX11_hasCloth_16 ?_
    refine v_if_eq hC dX11_hasCloth_19 (tgt := 26) (by decide) (fun h_71 => ?_) (fun h_71 => ?_)
    · simp only [Int32.lt_iff_toInt_lt, Int32.le_iff_toInt_le, Int32.reduceToInt, ← Int32.toInt_inj] at h_71
      refine v_iconst hC dX11_hasCloth_26 (v := 0) (by decide) ?_
      exact hR _ _ _ _ _ _ _ dX11_hasCloth_27 rfl (Nat.le_of_ble_eq_true rfl) (Nat.le_of_ble_eq_true rfl) ⟨rfl, rfl, (by decide), (.inl (by decide))⟩
    · simp only [Int32.lt_iff_toInt_lt, Int32.le_iff_toInt_le, Int32.reduceToInt, ← Int32.toInt_inj] at h_71
      refine v_iconst hC dX11_hasCloth_22 (v := 1) (by decide) ?_
      refine v_goto hC dX11_hasCloth_23 (tgt := 27) (by decide) ?_
      exact hR _ _ _ _ _ _ _ dX11_hasCloth_27 rfl (Nat.le_of_ble_eq_true rfl) (Nat.le_of_ble_eq_true rfl) ⟨rfl, rfl, (by decide), (.inr (by first | omega | (simp only [Int32.lt_iff_toInt_lt, Int32.le_iff_toInt_le, Int32.reduceToInt, ← Int32.toInt_inj]; omega)))⟩
set_option maxRecDepth 100000 in
set_option maxHeartbeats 4000000 in
theorem p_X11_refusalOfReading {l : Launch} {E : Ez} {L : List Nat} {f : Nat → va_E} {T : Nat → va_E → Prop} {a_0 : Nat} {a_1 : Int32} {a_2 : Int32} (hW : WT T L f) (k_0 : isX T L E a_0) : CI l yX11_refusalOfReading cX11_refusalOfReading 3 .int 2 0 0 E [.ref a_0, .int a_1, .int a_2] L f (fun r L1 f1 => L = L1 ∧ f = f1 ∧ ((-6) ≤ r.toInt ∧ r.toInt ≤ 0) ∧ (¬ r.toInt = 0 ∨ (0 ≤ a_1.toInt ∧ a_1.toInt ≤ 3)) ∧ (¬ r.toInt = 0 ∨ (0 ≤ a_2.toInt ∧ a_2.toInt ≤ 5))) := by
  refine ci_of (by decide) (Nat.le_of_ble_eq_true rfl) (fun z hz hnm hC hR => ?_)
  have hC : Cx z E cX11_refusalOfReading RX11 3 2 0 0 := hC
  subst hz
  show V z E 3 0 0 L f 0 [(0, .ref a_0), (1, .int a_1), (2, .int a_2)] []
  refine v_iload_n hC dX11_refusalOfReading_0 rfl ?_
  refine v_si hC (rest := []) mt_X11_isCloth (p_X11_isCloth hW) mx_X11_isCloth ml_X11_181 (by decide) rfl (cells1 := 0) (slots1 := 0) (by decide) (by decide) (Nat.le_of_ble_eq_true rfl) (Nat.le_of_ble_eq_true rfl) rfl (Nat.le_of_ble_eq_true rfl) dX11_refusalOfReading_1 (fun r_1 L_2 f_3 h_4 => ?_)
  obtain ⟨rfl, rfl, b_5, h_6⟩ := h_4
  refine v_if_eq hC dX11_refusalOfReading_4 (tgt := 14) (by decide) (fun h_9 => ?_) (fun h_9 => ?_)
  · simp only [Int32.lt_iff_toInt_lt, Int32.le_iff_toInt_le, Int32.reduceToInt, ← Int32.toInt_inj] at h_9
    refine v_bipush hC dX11_refusalOfReading_14 (v := (-2)) (by decide) ?_
    exact hR _ _ _ _ _ _ _ dX11_refusalOfReading_16 rfl (Nat.le_of_ble_eq_true rfl) (Nat.le_of_ble_eq_true rfl) ⟨rfl, rfl, (by decide), (.inl (by decide)), (.inl (by decide))⟩
  · simp only [Int32.lt_iff_toInt_lt, Int32.le_iff_toInt_le, Int32.reduceToInt, ← Int32.toInt_inj] at h_9
    refine v_iload_n hC dX11_refusalOfReading_7 rfl ?_
    refine v_si hC (rest := []) mt_X11_isWay (p_X11_isWay hW) mx_X11_isWay ml_X11_142 (by decide) rfl (cells1 := 0) (slots1 := 0) (by decide) (by decide) (Nat.le_of_ble_eq_true rfl) (Nat.le_of_ble_eq_true rfl) rfl (Nat.le_of_ble_eq_true rfl) dX11_refusalOfReading_8 (fun r_10 L_11 f_12 h_13 => ?_)
    obtain ⟨rfl, rfl, b_14, h_15⟩ := h_13
    refine v_if_ne hC dX11_refusalOfReading_11 (tgt := 17) (by decide) (fun h_18 => ?_) (fun h_18 => ?_)
    · simp only [Int32.lt_iff_toInt_lt, Int32.le_iff_toInt_le, Int32.reduceToInt, ← Int32.toInt_inj] at h_18
      refine v_aload_n hC dX11_refusalOfReading_17 rfl ?_
      refine v_iload_n hC dX11_refusalOfReading_18 rfl ?_
      obtain ⟨m_19, q_21, q_22, q_23, q_24, q_25, q_26, q_27, q_28, q_29, q_30, q_31, q_32, q_33, q_34, t_20, k_35, k_36, k_37, k_38, k_39, k_40, k_41, k_42, k_43, k_44, k_45, k_46, k_47, k_48⟩ := id k_0
      have e_49 : f a_0 = ob 11 [.ref q_21, .ref q_22, .ref q_23, .ref q_24, .ref q_25, .ref q_26, .ref q_27, .ref q_28, .ref q_29, .ref q_30, .ref q_31, .ref q_32, .ref q_33, .ref q_34] := hW.at m_19 t_20
      refine v_vi hC (rest := []) m_19 e_49 rfl mi_X11_hasCloth ms_X11_hasCloth (p_X11_hasCloth hW k_0) mx_X11_hasCloth ml_X11_239 (by decide) rfl (cells1 := 0) (slots1 := 0) (by decide) (by decide) (Nat.le_of_ble_eq_true rfl) (Nat.le_of_ble_eq_true rfl) rfl (Nat.le_of_ble_eq_true rfl) dX11_refusalOfReading_19 (fun r_50 L_51 f_52 h_53 => ?_)
      obtain ⟨rfl, rfl, b_54, h_55⟩ := h_53
      refine v_if_eq hC dX11_refusalOfReading_22 (tgt := 44) (by decide) (fun h_58 => ?_) (fun h_58 => ?_)
      · simp only [Int32.lt_iff_toInt_lt, Int32.le_iff_toInt_le, Int32.reduceToInt, ← Int32.toInt_inj] at h_58
        refine v_bipush hC dX11_refusalOfReading_44 (v := (-6)) (by decide) ?_
        exact hR _ _ _ _ _ _ _ dX11_refusalOfReading_46 rfl (Nat.le_of_ble_eq_true rfl) (Nat.le_of_ble_eq_true rfl) ⟨rfl, rfl, (by decide), (.inl (by decide)), (.inl (by decide))⟩
      · simp only [Int32.lt_iff_toInt_lt, Int32.le_iff_toInt_le, Int32.reduceToInt, ← Int32.toInt_inj] at h_58
        refine v_aload_n hC dX11_refusalOfReading_25 rfl ?_
        refine v_get hC fl_X11_19 m_19 e_49 rfl dX11_refusalOfReading_26 ?_
        obtain ⟨m_59, q_61, q_62, q_63, q_64, q_65, q_66, t_60, k_67, k_68, k_69, k_70, k_71, k_72⟩ := id k_36
        have e_73 : f q_22 = ob 0 [.ref q_61, .ref q_62, .ref q_63, .ref q_64, .ref q_65, .ref q_66] := hW.at m_59 t_60
        refine v_getN hC fn_X11_146 m_59 e_73 rfl dX11_refusalOfReading_29 ?_
        refine v_iload_n hC dX11_refusalOfReading_32 rfl ?_
        obtain ⟨m_74, g_76, t_75, k_77⟩ := id k_69
        have e_78 : f q_63 = aR E 7 6 g_76 := hW.at m_74 t_75
        obtain ⟨q_79, h_80, k_81⟩ := k_77 (a_2 : Int32).toNatClampNeg (clamp_lt (vp_in_iff.mpr (by first | omega | (simp only [Int32.lt_iff_toInt_lt, Int32.le_iff_toInt_le, Int32.reduceToInt, ← Int32.toInt_inj]; omega))))
        refine v_aald hC m_74 e_78 rfl (vp_in_iff.mpr (by first | omega | (simp only [Int32.lt_iff_toInt_lt, Int32.le_iff_toInt_le, Int32.reduceToInt, ← Int32.toInt_inj]; omega))) (v := .ref q_79) (by rw [h_80]; rfl) dX11_refusalOfReading_33 ?_
        obtain ⟨m_82, t_83⟩ := id k_81
        obtain ⟨v_85, v_87, v_88, v_89, v_91, v_93, v_95, e_84, b_86, b_90, b_92, b_94, b_96⟩ := hW.at m_82 t_83
        refine v_getN hC fn_X11_232 m_82 e_84 rfl dX11_refusalOfReading_34 ?_
        refine v_if_eq hC dX11_refusalOfReading_37 (tgt := 44) (by decide) (fun h_97 => ?_) (fun h_97 => ?_)
        · simp only [Int32.lt_iff_toInt_lt, Int32.le_iff_toInt_le, Int32.reduceToInt, ← Int32.toInt_inj] at h_97
          refine v_bipush hC dX11_refusalOfReading_44 (v := (-6)) (by decide) ?_
          exact hR _ _ _ _ _ _ _ dX11_refusalOfReading_46 rfl (Nat.le_of_ble_eq_true rfl) (Nat.le_of_ble_eq_true rfl) ⟨rfl, rfl, (by decide), (.inl (by decide)), (.inl (by decide))⟩
        · simp only [Int32.lt_iff_toInt_lt, Int32.le_iff_toInt_le, Int32.reduceToInt, ← Int32.toInt_inj] at h_97
          refine v_iconst hC dX11_refusalOfReading_40 (v := 0) (by decide) ?_
          refine v_goto hC dX11_refusalOfReading_41 (tgt := 46) (by decide) ?_
          exact hR _ _ _ _ _ _ _ dX11_refusalOfReading_46 rfl (Nat.le_of_ble_eq_true rfl) (Nat.le_of_ble_eq_true rfl) ⟨rfl, rfl, (by decide), (.inr (by first | omega | (simp only [Int32.lt_iff_toInt_lt, Int32.le_iff_toInt_le, Int32.reduceToInt, ← Int32.toInt_inj]; omega))), (.inr (by first | omega | (simp only [Int32.lt_iff_toInt_lt, Int32.le_iff_toInt_le, Int32.reduceToInt, ← Int32.toInt_inj]; omega)))⟩
    · simp only [Int32.lt_iff_toInt_lt, Int32.le_iff_toInt_le, Int32.reduceToInt, ← Int32.toInt_inj] at h_18
      refine v_bipush hC dX11_refusalOfReading_14 (v := (-2)) (by decide) ?_
      exact hR _ _ _ _ _ _ _ dX11_refusalOfReading_16 rfl (Nat.le_of_ble_eq_true rfl) (Nat.le_of_ble_eq_true rfl) ⟨rfl, rfl, (by decide), (.inl (by decide)), (.inl (by decide))⟩
set_option maxRecDepth 100000 in
set_option maxHeartbeats 4000000 in
theorem p_X11_putTape {l : Launch} {E : Ez} {L : List Nat} {f : Nat → va_E} {T : Nat → va_E → Prop} {a_0 : Nat} {a_1 : Nat} {a_2 : Nat} (hW : WT T L f) (k_0 : isX T L E a_0) (k_1 : isClo T L E a_1) (k_2 : isWay T L E a_2) : CI l yX11_putTape cX11_putTape 3 .int 5 0 0 E [.ref a_0, .ref a_1, .ref a_2] L f (fun r L1 f1 => L = L1 ∧ WT T L f1 ∧ FR [2, 7, 8, 151, 356] f f1) := by
  refine ci_of (by decide) (Nat.le_of_ble_eq_true rfl) (fun z hz hnm hC hR => ?_)
  have hC : Cx z E cX11_putTape RX11 3 5 0 0 := hC
  subst hz
  show V z E 3 0 0 L f 0 [(0, .ref a_0), (1, .ref a_1), (2, .ref a_2)] []
  refine v_aload_n hC dX11_putTape_0 rfl ?_
  obtain ⟨m_1, q_3, q_4, q_5, q_6, q_7, q_8, q_9, q_10, q_11, q_12, q_13, q_14, q_15, q_16, t_2, k_17, k_18, k_19, k_20, k_21, k_22, k_23, k_24, k_25, k_26, k_27, k_28, k_29, k_30⟩ := id k_0
  have e_31 : f a_0 = ob 11 [.ref q_3, .ref q_4, .ref q_5, .ref q_6, .ref q_7, .ref q_8, .ref q_9, .ref q_10, .ref q_11, .ref q_12, .ref q_13, .ref q_14, .ref q_15, .ref q_16] := hW.at m_1 t_2
  refine v_get hC fl_X11_12 m_1 e_31 rfl dX11_putTape_1 ?_
  obtain ⟨m_32, q_34, t_33, k_35⟩ := id k_17
  obtain ⟨v_37, v_39, v_40, v_42, v_44, v_45, e_36, b_38, b_41, b_43⟩ := hW.at m_32 t_33
  refine v_vi hC (rest := []) m_32 e_36 rfl mi_X7_isWords ms_X7_isWords (p_X7_isWords hW k_17) mx_X7_isWords ml_X11_414 (by decide) rfl (cells1 := 0) (slots1 := 0) (by decide) (by decide) (Nat.le_of_ble_eq_true rfl) (Nat.le_of_ble_eq_true rfl) rfl (Nat.le_of_ble_eq_true rfl) dX11_putTape_4 (fun r_46 L_47 f_48 h_49 => ?_)
  obtain ⟨rfl, hW_51, hF_52, b_50⟩ := h_49
  have hf_53 := hF_52.at e_31 rfl
  refine v_if_ne hC dX11_putTape_7 (tgt := 13) (by decide) (fun h_54 => ?_) (fun h_54 => ?_)
  · simp only [Int32.lt_iff_toInt_lt, Int32.le_iff_toInt_le, Int32.reduceToInt, ← Int32.toInt_inj] at h_54
    refine v_aload_n hC dX11_putTape_13 rfl ?_
    refine v_get hC fl_X11_78 m_1 hf_53 rfl dX11_putTape_14 ?_
    refine v_aload_n hC dX11_putTape_17 rfl ?_
    refine v_aload_n hC dX11_putTape_18 rfl ?_
    refine v_get hC fl_X11_19 m_1 hf_53 rfl dX11_putTape_19 ?_
    obtain ⟨m_55, q_57, q_58, q_59, q_60, q_61, q_62, t_56, k_63, k_64, k_65, k_66, k_67, k_68⟩ := id k_18
    have e_69 : f_48 q_4 = ob 0 [.ref q_57, .ref q_58, .ref q_59, .ref q_60, .ref q_61, .ref q_62] := hW_51.at m_55 t_56
    refine v_getN hC fn_X11_116 m_55 e_69 rfl dX11_putTape_22 ?_
    obtain ⟨m_70, q_72, t_71, k_73⟩ := id k_28
    obtain ⟨v_75, v_77, v_79, v_81, e_74, b_76, b_78, b_80, b_82⟩ := hW_51.at m_70 t_71
    refine v_vv hC (rest := []) m_70 e_74 rfl mi_X8_follow ms_X8_follow (p_X8_follow hW_51 k_28 k_2 k_63) mx_X8_follow ml_X11_218 (by decide) rfl (cells1 := 0) (slots1 := 0) (by decide) (by decide) (Nat.le_of_ble_eq_true rfl) (Nat.le_of_ble_eq_true rfl) rfl (Nat.le_of_ble_eq_true rfl) dX11_putTape_25 (fun L_84 f_85 h_86 => ?_)
    obtain ⟨rfl, hW_87, hF_88⟩ := h_86
    have hf_89 := hF_88.at hf_53 rfl
    have hf_90 := hF_88.at e_69 rfl
    refine v_aload_n hC dX11_putTape_28 rfl ?_
    refine v_get hC fl_X11_78 m_1 hf_89 rfl dX11_putTape_29 ?_
    refine v_aload_n hC dX11_putTape_32 rfl ?_
    refine v_get hC fl_X11_12 m_1 hf_89 rfl dX11_putTape_33 ?_
    obtain ⟨v_92, v_94, v_95, v_97, v_99, v_100, e_91, b_93, b_96, b_98⟩ := hW_87.at m_32 t_33
    refine v_getN hC fn_X11_105 m_32 e_91 rfl dX11_putTape_36 ?_
    obtain ⟨v_102, v_104, v_106, v_108, e_101, b_103, b_105, b_107, b_109⟩ := hW_87.at m_70 t_71
    refine v_vi hC (rest := []) m_70 e_101 rfl mi_X8_hasRoomFor ms_X8_hasRoomFor (p_X8_hasRoomFor hW_87 k_28) mx_X8_hasRoomFor ml_X11_282 (by decide) rfl (cells1 := 0) (slots1 := 0) (by decide) (by decide) (Nat.le_of_ble_eq_true rfl) (Nat.le_of_ble_eq_true rfl) rfl (Nat.le_of_ble_eq_true rfl) dX11_putTape_39 (fun r_110 L_111 f_112 h_113 => ?_)
    obtain ⟨rfl, rfl, b_114⟩ := h_113
    refine v_if_ne hC dX11_putTape_42 (tgt := 48) (by decide) (fun h_117 => ?_) (fun h_117 => ?_)
    · simp only [Int32.lt_iff_toInt_lt, Int32.le_iff_toInt_le, Int32.reduceToInt, ← Int32.toInt_inj] at h_117
      refine v_aload_n hC dX11_putTape_48 rfl ?_
      refine v_get hC fl_X11_72 m_1 hf_89 rfl dX11_putTape_49 ?_
      refine v_aload_n hC dX11_putTape_52 rfl ?_
      refine v_get hC fl_X11_12 m_1 hf_89 rfl dX11_putTape_53 ?_
      obtain ⟨m_118, q_120, t_119, k_121⟩ := id k_27
      obtain ⟨v_123, e_122, b_124⟩ := hW_87.at m_118 t_119
      refine v_vv hC (rest := []) m_118 e_122 rfl mi_X2_takeTape ms_X2_takeTape (p_X2_takeTape hW_87 k_27 k_17) mx_X2_takeTape ml_X11_417 (by decide) rfl (cells1 := 0) (slots1 := 0) (by decide) (by decide) (Nat.le_of_ble_eq_true rfl) (Nat.le_of_ble_eq_true rfl) rfl (Nat.le_of_ble_eq_true rfl) dX11_putTape_56 (fun L_126 f_127 h_128 => ?_)
      obtain ⟨rfl, hW_129, hF_130⟩ := h_128
      have hf_131 := hF_130.at hf_89 rfl
      have hf_132 := hF_130.at hf_90 rfl
      have hf_133 := hF_130.at e_91 rfl
      have hf_134 := hF_130.at e_101 rfl
      refine v_aload_n hC dX11_putTape_59 rfl ?_
      refine v_get hC fl_X11_72 m_1 hf_131 rfl dX11_putTape_60 ?_
      refine v_aload_n hC dX11_putTape_63 rfl ?_
      refine v_aload_n hC dX11_putTape_64 rfl ?_
      refine v_get hC fl_X11_19 m_1 hf_131 rfl dX11_putTape_65 ?_
      refine v_getN hC fn_X11_116 m_55 hf_132 rfl dX11_putTape_68 ?_
      refine v_aload_n hC dX11_putTape_71 rfl ?_
      refine v_get hC fl_X11_78 m_1 hf_131 rfl dX11_putTape_72 ?_
      obtain ⟨v_136, e_135, b_137⟩ := hW_129.at m_118 t_119
      refine v_vi hC (rest := []) m_118 e_135 rfl mi_X2_weaveInto ms_X2_weaveInto (p_X2_weaveInto hW_129 k_27 k_1 k_63 k_28) mx_X2_weaveInto ml_X11_283 (by decide) rfl (cells1 := 0) (slots1 := 0) (by decide) (by decide) (Nat.le_of_ble_eq_true rfl) (Nat.le_of_ble_eq_true rfl) rfl (Nat.le_of_ble_eq_true rfl) dX11_putTape_75 (fun r_138 L_139 f_140 h_141 => ?_)
      obtain ⟨rfl, hW_142, hF_143⟩ := h_141
      have hf_144 := hF_143.at hf_131 rfl
      have hf_145 := hF_143.at hf_132 rfl
      have hf_146 := hF_143.at hf_133 rfl
      have hf_147 := hF_143.at hf_134 rfl
      have hf_148 := hF_143.at e_135 rfl
      exact hR _ _ _ _ _ _ _ dX11_putTape_78 rfl (Nat.le_of_ble_eq_true rfl) (Nat.le_of_ble_eq_true rfl) ⟨rfl, hW_142, ((((hF_52.tr hF_88).tr hF_130).tr hF_143).mono rfl)⟩
    · simp only [Int32.lt_iff_toInt_lt, Int32.le_iff_toInt_le, Int32.reduceToInt, ← Int32.toInt_inj] at h_117
      refine v_bipush hC dX11_putTape_45 (v := (-3)) (by decide) ?_
      exact hR _ _ _ _ _ _ _ dX11_putTape_47 rfl (Nat.le_of_ble_eq_true rfl) (Nat.le_of_ble_eq_true rfl) ⟨rfl, hW_87, ((hF_52.tr hF_88).mono rfl)⟩
  · simp only [Int32.lt_iff_toInt_lt, Int32.le_iff_toInt_le, Int32.reduceToInt, ← Int32.toInt_inj] at h_54
    refine v_bipush hC dX11_putTape_10 (v := (-4)) (by decide) ?_
    exact hR _ _ _ _ _ _ _ dX11_putTape_12 rfl (Nat.le_of_ble_eq_true rfl) (Nat.le_of_ble_eq_true rfl) ⟨rfl, hW_51, (hF_52.mono rfl)⟩
set_option maxRecDepth 100000 in
set_option maxHeartbeats 4000000 in
theorem p_X11_put {l : Launch} {E : Ez} {L : List Nat} {f : Nat → va_E} {T : Nat → va_E → Prop} {a_0 : Nat} {a_1 : Int32} {a_2 : Int32} (hW : WT T L f) (k_0 : isX T L E a_0) : CI l yX11_put cX11_put 5 .int 6 0 0 E [.ref a_0, .int a_1, .int a_2] L f (fun r L1 f1 => L = L1 ∧ WT T L f1 ∧ FR [2, 7, 8, 151, 356] f f1 ∧ (¬ r.toInt = 0 ∨ (0 ≤ a_1.toInt ∧ a_1.toInt ≤ 3)) ∧ (¬ r.toInt = 0 ∨ (0 ≤ a_2.toInt ∧ a_2.toInt ≤ 5))) := by
  refine ci_of (by decide) (Nat.le_of_ble_eq_true rfl) (fun z hz hnm hC hR => ?_)
  have hC : Cx z E cX11_put RX11 5 6 0 0 := hC
  subst hz
  show V z E 5 0 0 L f 0 [(0, .ref a_0), (1, .int a_1), (2, .int a_2)] []
  refine v_aload_n hC dX11_put_0 rfl ?_
  refine v_iload_n hC dX11_put_1 rfl ?_
  refine v_iload_n hC dX11_put_2 rfl ?_
  obtain ⟨m_1, q_3, q_4, q_5, q_6, q_7, q_8, q_9, q_10, q_11, q_12, q_13, q_14, q_15, q_16, t_2, k_17, k_18, k_19, k_20, k_21, k_22, k_23, k_24, k_25, k_26, k_27, k_28, k_29, k_30⟩ := id k_0
  have e_31 : f a_0 = ob 11 [.ref q_3, .ref q_4, .ref q_5, .ref q_6, .ref q_7, .ref q_8, .ref q_9, .ref q_10, .ref q_11, .ref q_12, .ref q_13, .ref q_14, .ref q_15, .ref q_16] := hW.at m_1 t_2
  refine v_vi hC (rest := []) m_1 e_31 rfl mi_X11_refusalOfReading ms_X11_refusalOfReading (p_X11_refusalOfReading hW k_0) mx_X11_refusalOfReading ml_X11_198 (by decide) rfl (cells1 := 0) (slots1 := 0) (by decide) (by decide) (Nat.le_of_ble_eq_true rfl) (Nat.le_of_ble_eq_true rfl) rfl (Nat.le_of_ble_eq_true rfl) dX11_put_3 (fun r_32 L_33 f_34 h_35 => ?_)
  obtain ⟨rfl, rfl, b_36, h_37, h_38⟩ := h_35
  refine v_istore_n hC dX11_put_6 (by decide) (lv' := [(3, .int r_32), (0, .ref a_0), (1, .int a_1), (2, .int a_2)]) rfl ?_
  refine v_iload_n hC dX11_put_7 rfl ?_
  refine v_if_eq hC dX11_put_8 (tgt := 13) (by decide) (fun h_41 => ?_) (fun h_41 => ?_)
  · simp only [Int32.lt_iff_toInt_lt, Int32.le_iff_toInt_le, Int32.reduceToInt, ← Int32.toInt_inj] at h_41
    refine v_aload_n hC dX11_put_13 rfl ?_
    refine v_aload_n hC dX11_put_14 rfl ?_
    refine v_get hC fl_X11_19 m_1 e_31 rfl dX11_put_15 ?_
    obtain ⟨m_42, q_44, q_45, q_46, q_47, q_48, q_49, t_43, k_50, k_51, k_52, k_53, k_54, k_55⟩ := id k_18
    have e_56 : f q_4 = ob 0 [.ref q_44, .ref q_45, .ref q_46, .ref q_47, .ref q_48, .ref q_49] := hW.at m_42 t_43
    refine v_getN hC fn_X11_190 m_42 e_56 rfl dX11_put_18 ?_
    refine v_iload_n hC dX11_put_21 rfl ?_
    obtain ⟨m_57, g_59, t_58, k_60⟩ := id k_55
    have e_61 : f q_49 = aR E 5 4 g_59 := hW.at m_57 t_58
    obtain ⟨q_62, h_63, k_64⟩ := k_60 (a_1 : Int32).toNatClampNeg (clamp_lt (vp_in_iff.mpr (by first | omega | (simp only [Int32.lt_iff_toInt_lt, Int32.le_iff_toInt_le, Int32.reduceToInt, ← Int32.toInt_inj]; omega))))
    refine v_aald hC m_57 e_61 rfl (vp_in_iff.mpr (by first | omega | (simp only [Int32.lt_iff_toInt_lt, Int32.le_iff_toInt_le, Int32.reduceToInt, ← Int32.toInt_inj]; omega))) (v := .ref q_62) (by rw [h_63]; rfl) dX11_put_22 ?_
    refine v_aload_n hC dX11_put_23 rfl ?_
    refine v_get hC fl_X11_19 m_1 e_31 rfl dX11_put_24 ?_
    refine v_getN hC fn_X11_146 m_42 e_56 rfl dX11_put_27 ?_
    refine v_iload_n hC dX11_put_30 rfl ?_
    obtain ⟨m_65, g_67, t_66, k_68⟩ := id k_52
    have e_69 : f q_46 = aR E 7 6 g_67 := hW.at m_65 t_66
    obtain ⟨q_70, h_71, k_72⟩ := k_68 (a_2 : Int32).toNatClampNeg (clamp_lt (vp_in_iff.mpr (by first | omega | (simp only [Int32.lt_iff_toInt_lt, Int32.le_iff_toInt_le, Int32.reduceToInt, ← Int32.toInt_inj]; omega))))
    refine v_aald hC m_65 e_69 rfl (vp_in_iff.mpr (by first | omega | (simp only [Int32.lt_iff_toInt_lt, Int32.le_iff_toInt_le, Int32.reduceToInt, ← Int32.toInt_inj]; omega))) (v := .ref q_70) (by rw [h_71]; rfl) dX11_put_31 ?_
    refine v_vi hC (rest := []) m_1 e_31 rfl mi_X11_putTape ms_X11_putTape (p_X11_putTape hW k_0 k_64 k_72) mx_X11_putTape ml_X11_202 (by decide) rfl (cells1 := 0) (slots1 := 0) (by decide) (by decide) (Nat.le_of_ble_eq_true rfl) (Nat.le_of_ble_eq_true rfl) rfl (Nat.le_of_ble_eq_true rfl) dX11_put_32 (fun r_73 L_74 f_75 h_76 => ?_)
    obtain ⟨rfl, hW_77, hF_78⟩ := h_76
    have hf_79 := hF_78.at e_31 rfl
    have hf_80 := hF_78.at e_56 rfl
    have hf_81 := hF_78.at e_61 rfl
    have hf_82 := hF_78.at e_69 rfl
    refine v_istore hC dX11_put_35 (by decide) (lv' := [(4, .int r_73), (3, .int r_32), (0, .ref a_0), (1, .int a_1), (2, .int a_2)]) rfl ?_
    refine v_aload_n hC dX11_put_37 rfl ?_
    refine v_get hC fl_X11_12 m_1 hf_79 rfl dX11_put_38 ?_
    obtain ⟨m_83, q_85, t_84, k_86⟩ := id k_17
    obtain ⟨v_88, v_90, v_91, v_93, v_95, v_96, e_87, b_89, b_92, b_94⟩ := hW_77.at m_83 t_84
    refine v_vv hC (rest := []) m_83 e_87 rfl mi_X7_empty ms_X7_empty (p_X7_empty hW_77 k_17) mx_X7_empty ml_X11_113 (by decide) rfl (cells1 := 0) (slots1 := 0) (by decide) (by decide) (Nat.le_of_ble_eq_true rfl) (Nat.le_of_ble_eq_true rfl) rfl (Nat.le_of_ble_eq_true rfl) dX11_put_41 (fun L_98 f_99 h_100 => ?_)
    obtain ⟨rfl, hW_101, hF_102⟩ := h_100
    have hf_103 := hF_102.at hf_79 rfl
    have hf_104 := hF_102.at hf_80 rfl
    have hf_105 := hF_102.at hf_81 rfl
    have hf_106 := hF_102.at hf_82 rfl
    refine v_iload hC dX11_put_44 rfl ?_
    exact hR _ _ _ _ _ _ _ dX11_put_46 rfl (Nat.le_of_ble_eq_true rfl) (Nat.le_of_ble_eq_true rfl) ⟨rfl, hW_101, ((hF_78.tr hF_102).mono rfl), (.inr (by first | omega | (simp only [Int32.lt_iff_toInt_lt, Int32.le_iff_toInt_le, Int32.reduceToInt, ← Int32.toInt_inj]; omega))), (.inr (by first | omega | (simp only [Int32.lt_iff_toInt_lt, Int32.le_iff_toInt_le, Int32.reduceToInt, ← Int32.toInt_inj]; omega)))⟩
  · simp only [Int32.lt_iff_toInt_lt, Int32.le_iff_toInt_le, Int32.reduceToInt, ← Int32.toInt_inj] at h_41
    refine v_iload_n hC dX11_put_11 rfl ?_
    exact hR _ _ _ _ _ _ _ dX11_put_12 rfl (Nat.le_of_ble_eq_true rfl) (Nat.le_of_ble_eq_true rfl) ⟨rfl, hW, FR.rf, (by first | omega | (simp only [Int32.lt_iff_toInt_lt, Int32.le_iff_toInt_le, Int32.reduceToInt, ← Int32.toInt_inj]; omega)), (by first | omega | (simp only [Int32.lt_iff_toInt_lt, Int32.le_iff_toInt_le, Int32.reduceToInt, ← Int32.toInt_inj]; omega))⟩
set_option maxRecDepth 100000 in
set_option maxHeartbeats 4000000 in
theorem p_X11_saysByWay {l : Launch} {E : Ez} {L : List Nat} {f : Nat → va_E} {T : Nat → va_E → Prop} {a_0 : Nat} {a_1 : Nat} {a_2 : Nat} (hW : WT T L f) (k_0 : isX T L E a_0) (k_1 : isClo T L E a_1) (k_2 : isWay T L E a_2) : CI l yX11_saysByWay cX11_saysByWay 3 .boolean 5 0 0 E [.ref a_0, .ref a_1, .ref a_2] L f (fun r L1 f1 => L = L1 ∧ WT T L f1 ∧ FR [2, 8, 151, 356] f f1 ∧ (0 ≤ r.toInt ∧ r.toInt ≤ 1)) := by
  refine ci_of (by decide) (Nat.le_of_ble_eq_true rfl) (fun z hz hnm hC hR => ?_)
  have hC : Cx z E cX11_saysByWay RX11 3 5 0 0 := hC
  subst hz
  show V z E 3 0 0 L f 0 [(0, .ref a_0), (1, .ref a_1), (2, .ref a_2)] []
  refine v_aload_n hC dX11_saysByWay_0 rfl ?_
  obtain ⟨m_1, q_3, q_4, q_5, q_6, q_7, q_8, q_9, q_10, q_11, q_12, q_13, q_14, q_15, q_16, t_2, k_17, k_18, k_19, k_20, k_21, k_22, k_23, k_24, k_25, k_26, k_27, k_28, k_29, k_30⟩ := id k_0
  have e_31 : f a_0 = ob 11 [.ref q_3, .ref q_4, .ref q_5, .ref q_6, .ref q_7, .ref q_8, .ref q_9, .ref q_10, .ref q_11, .ref q_12, .ref q_13, .ref q_14, .ref q_15, .ref q_16] := hW.at m_1 t_2
  refine v_get hC fl_X11_78 m_1 e_31 rfl dX11_saysByWay_1 ?_
  refine v_aload_n hC dX11_saysByWay_4 rfl ?_
  refine v_aload_n hC dX11_saysByWay_5 rfl ?_
  refine v_get hC fl_X11_19 m_1 e_31 rfl dX11_saysByWay_6 ?_
  obtain ⟨m_32, q_34, q_35, q_36, q_37, q_38, q_39, t_33, k_40, k_41, k_42, k_43, k_44, k_45⟩ := id k_18
  have e_46 : f q_4 = ob 0 [.ref q_34, .ref q_35, .ref q_36, .ref q_37, .ref q_38, .ref q_39] := hW.at m_32 t_33
  refine v_getN hC fn_X11_116 m_32 e_46 rfl dX11_saysByWay_9 ?_
  obtain ⟨m_47, q_49, t_48, k_50⟩ := id k_28
  obtain ⟨v_52, v_54, v_56, v_58, e_51, b_53, b_55, b_57, b_59⟩ := hW.at m_47 t_48
  refine v_vv hC (rest := []) m_47 e_51 rfl mi_X8_follow ms_X8_follow (p_X8_follow hW k_28 k_2 k_40) mx_X8_follow ml_X11_218 (by decide) rfl (cells1 := 0) (slots1 := 0) (by decide) (by decide) (Nat.le_of_ble_eq_true rfl) (Nat.le_of_ble_eq_true rfl) rfl (Nat.le_of_ble_eq_true rfl) dX11_saysByWay_12 (fun L_61 f_62 h_63 => ?_)
  obtain ⟨rfl, hW_64, hF_65⟩ := h_63
  have hf_66 := hF_65.at e_31 rfl
  have hf_67 := hF_65.at e_46 rfl
  refine v_aload_n hC dX11_saysByWay_15 rfl ?_
  refine v_get hC fl_X11_72 m_1 hf_66 rfl dX11_saysByWay_16 ?_
  refine v_aload_n hC dX11_saysByWay_19 rfl ?_
  refine v_aload_n hC dX11_saysByWay_20 rfl ?_
  refine v_get hC fl_X11_78 m_1 hf_66 rfl dX11_saysByWay_21 ?_
  obtain ⟨m_68, q_70, t_69, k_71⟩ := id k_27
  obtain ⟨v_73, e_72, b_74⟩ := hW_64.at m_68 t_69
  refine v_vi hC (rest := []) m_68 e_72 rfl mi_X2_hear ms_X2_hear (p_X2_hear hW_64 k_27 k_1 k_28) mx_X2_hear ml_X11_421 (by decide) rfl (cells1 := 0) (slots1 := 0) (by decide) (by decide) (Nat.le_of_ble_eq_true rfl) (Nat.le_of_ble_eq_true rfl) rfl (Nat.le_of_ble_eq_true rfl) dX11_saysByWay_24 (fun r_75 L_76 f_77 h_78 => ?_)
  obtain ⟨rfl, hW_80, hF_81, b_79⟩ := h_78
  have hf_82 := hF_81.at hf_66 rfl
  have hf_83 := hF_81.at hf_67 rfl
  exact hR _ _ _ _ _ _ _ dX11_saysByWay_27 (nar01 (by first | omega | (simp only [Int32.lt_iff_toInt_lt, Int32.le_iff_toInt_le, Int32.reduceToInt, ← Int32.toInt_inj]; omega))) (Nat.le_of_ble_eq_true rfl) (Nat.le_of_ble_eq_true rfl) ⟨rfl, hW_80, ((hF_65.tr hF_81).mono rfl), (by first | omega | (simp only [Int32.lt_iff_toInt_lt, Int32.le_iff_toInt_le, Int32.reduceToInt, ← Int32.toInt_inj]; omega))⟩
set_option maxRecDepth 100000 in
set_option maxHeartbeats 4000000 in
theorem p_X11_read {l : Launch} {E : Ez} {L : List Nat} {f : Nat → va_E} {T : Nat → va_E → Prop} {a_0 : Nat} {a_1 : Int32} {a_2 : Int32} (hW : WT T L f) (k_0 : isX T L E a_0) : CI l yX11_read cX11_read 4 .int 6 0 0 E [.ref a_0, .int a_1, .int a_2] L f (fun r L1 f1 => L = L1 ∧ WT T L f1 ∧ FR [2, 8, 151, 356] f f1 ∧ ((-6) ≤ r.toInt ∧ r.toInt ≤ 51) ∧ (¬ r.toInt = 0 ∨ (0 ≤ a_1.toInt ∧ a_1.toInt ≤ 3)) ∧ (¬ r.toInt = 0 ∨ (0 ≤ a_2.toInt ∧ a_2.toInt ≤ 5))) := by
  refine ci_of (by decide) (Nat.le_of_ble_eq_true rfl) (fun z hz hnm hC hR => ?_)
  have hC : Cx z E cX11_read RX11 4 6 0 0 := hC
  subst hz
  show V z E 4 0 0 L f 0 [(0, .ref a_0), (1, .int a_1), (2, .int a_2)] []
  refine v_aload_n hC dX11_read_0 rfl ?_
  refine v_iload_n hC dX11_read_1 rfl ?_
  refine v_iload_n hC dX11_read_2 rfl ?_
  obtain ⟨m_1, q_3, q_4, q_5, q_6, q_7, q_8, q_9, q_10, q_11, q_12, q_13, q_14, q_15, q_16, t_2, k_17, k_18, k_19, k_20, k_21, k_22, k_23, k_24, k_25, k_26, k_27, k_28, k_29, k_30⟩ := id k_0
  have e_31 : f a_0 = ob 11 [.ref q_3, .ref q_4, .ref q_5, .ref q_6, .ref q_7, .ref q_8, .ref q_9, .ref q_10, .ref q_11, .ref q_12, .ref q_13, .ref q_14, .ref q_15, .ref q_16] := hW.at m_1 t_2
  refine v_vi hC (rest := []) m_1 e_31 rfl mi_X11_refusalOfReading ms_X11_refusalOfReading (p_X11_refusalOfReading hW k_0) mx_X11_refusalOfReading ml_X11_198 (by decide) rfl (cells1 := 0) (slots1 := 0) (by decide) (by decide) (Nat.le_of_ble_eq_true rfl) (Nat.le_of_ble_eq_true rfl) rfl (Nat.le_of_ble_eq_true rfl) dX11_read_3 (fun r_32 L_33 f_34 h_35 => ?_)
  obtain ⟨rfl, rfl, b_36, h_37, h_38⟩ := h_35
  refine v_istore_n hC dX11_read_6 (by decide) (lv' := [(3, .int r_32), (0, .ref a_0), (1, .int a_1), (2, .int a_2)]) rfl ?_
  refine v_iload_n hC dX11_read_7 rfl ?_
  refine v_if_eq hC dX11_read_8 (tgt := 13) (by decide) (fun h_41 => ?_) (fun h_41 => ?_)
  · simp only [Int32.lt_iff_toInt_lt, Int32.le_iff_toInt_le, Int32.reduceToInt, ← Int32.toInt_inj] at h_41
    refine v_aload_n hC dX11_read_13 rfl ?_
    refine v_aload_n hC dX11_read_14 rfl ?_
    refine v_get hC fl_X11_19 m_1 e_31 rfl dX11_read_15 ?_
    obtain ⟨m_42, q_44, q_45, q_46, q_47, q_48, q_49, t_43, k_50, k_51, k_52, k_53, k_54, k_55⟩ := id k_18
    have e_56 : f q_4 = ob 0 [.ref q_44, .ref q_45, .ref q_46, .ref q_47, .ref q_48, .ref q_49] := hW.at m_42 t_43
    refine v_getN hC fn_X11_190 m_42 e_56 rfl dX11_read_18 ?_
    refine v_iload_n hC dX11_read_21 rfl ?_
    obtain ⟨m_57, g_59, t_58, k_60⟩ := id k_55
    have e_61 : f q_49 = aR E 5 4 g_59 := hW.at m_57 t_58
    obtain ⟨q_62, h_63, k_64⟩ := k_60 (a_1 : Int32).toNatClampNeg (clamp_lt (vp_in_iff.mpr (by first | omega | (simp only [Int32.lt_iff_toInt_lt, Int32.le_iff_toInt_le, Int32.reduceToInt, ← Int32.toInt_inj]; omega))))
    refine v_aald hC m_57 e_61 rfl (vp_in_iff.mpr (by first | omega | (simp only [Int32.lt_iff_toInt_lt, Int32.le_iff_toInt_le, Int32.reduceToInt, ← Int32.toInt_inj]; omega))) (v := .ref q_62) (by rw [h_63]; rfl) dX11_read_22 ?_
    refine v_aload_n hC dX11_read_23 rfl ?_
    refine v_get hC fl_X11_19 m_1 e_31 rfl dX11_read_24 ?_
    refine v_getN hC fn_X11_146 m_42 e_56 rfl dX11_read_27 ?_
    refine v_iload_n hC dX11_read_30 rfl ?_
    obtain ⟨m_65, g_67, t_66, k_68⟩ := id k_52
    have e_69 : f q_46 = aR E 7 6 g_67 := hW.at m_65 t_66
    obtain ⟨q_70, h_71, k_72⟩ := k_68 (a_2 : Int32).toNatClampNeg (clamp_lt (vp_in_iff.mpr (by first | omega | (simp only [Int32.lt_iff_toInt_lt, Int32.le_iff_toInt_le, Int32.reduceToInt, ← Int32.toInt_inj]; omega))))
    refine v_aald hC m_65 e_69 rfl (vp_in_iff.mpr (by first | omega | (simp only [Int32.lt_iff_toInt_lt, Int32.le_iff_toInt_le, Int32.reduceToInt, ← Int32.toInt_inj]; omega))) (v := .ref q_70) (by rw [h_71]; rfl) dX11_read_31 ?_
    refine v_vi hC (rest := []) m_1 e_31 rfl mi_X11_saysByWay ms_X11_saysByWay (p_X11_saysByWay hW k_0 k_64 k_72) mx_X11_saysByWay ml_X11_206 (by decide) rfl (cells1 := 0) (slots1 := 0) (by decide) (by decide) (Nat.le_of_ble_eq_true rfl) (Nat.le_of_ble_eq_true rfl) rfl (Nat.le_of_ble_eq_true rfl) dX11_read_32 (fun r_73 L_74 f_75 h_76 => ?_)
    obtain ⟨rfl, hW_78, hF_79, b_77⟩ := h_76
    have hf_80 := hF_79.at e_31 rfl
    have hf_81 := hF_79.at e_56 rfl
    have hf_82 := hF_79.at e_61 rfl
    have hf_83 := hF_79.at e_69 rfl
    refine v_if_ne hC dX11_read_35 (tgt := 40) (by decide) (fun h_84 => ?_) (fun h_84 => ?_)
    · simp only [Int32.lt_iff_toInt_lt, Int32.le_iff_toInt_le, Int32.reduceToInt, ← Int32.toInt_inj] at h_84
      refine v_aload_n hC dX11_read_40 rfl ?_
      refine v_get hC fl_X11_30 m_1 hf_80 rfl dX11_read_41 ?_
      refine v_aload_n hC dX11_read_44 rfl ?_
      refine v_get hC fl_X11_72 m_1 hf_80 rfl dX11_read_45 ?_
      obtain ⟨m_85, q_87, t_86, k_88⟩ := id k_20
      obtain ⟨v_90, e_89, b_91⟩ := hW_78.at m_85 t_86
      refine v_vv hC (rest := []) m_85 e_89 rfl mi_X2_takeFrom ms_X2_takeFrom (p_X2_takeFrom hW_78 k_20 k_27) mx_X2_takeFrom ml_X11_210 (by decide) rfl (cells1 := 0) (slots1 := 0) (by decide) (by decide) (Nat.le_of_ble_eq_true rfl) (Nat.le_of_ble_eq_true rfl) rfl (Nat.le_of_ble_eq_true rfl) dX11_read_48 (fun L_93 f_94 h_95 => ?_)
      obtain ⟨rfl, hW_96, hF_97⟩ := h_95
      have hf_98 := hF_97.at hf_80 rfl
      have hf_99 := hF_97.at hf_81 rfl
      have hf_100 := hF_97.at hf_82 rfl
      have hf_101 := hF_97.at hf_83 rfl
      refine v_aload_n hC dX11_read_51 rfl ?_
      refine v_get hC fl_X11_30 m_1 hf_98 rfl dX11_read_52 ?_
      obtain ⟨v_103, e_102, b_104⟩ := hW_96.at m_85 t_86
      refine v_getN hC fn_X11_213 m_85 e_102 rfl dX11_read_55 ?_
      exact hR _ _ _ _ _ _ _ dX11_read_58 rfl (Nat.le_of_ble_eq_true rfl) (Nat.le_of_ble_eq_true rfl) ⟨rfl, hW_96, ((hF_79.tr hF_97).mono rfl), (by first | omega | (simp only [Int32.lt_iff_toInt_lt, Int32.le_iff_toInt_le, Int32.reduceToInt, ← Int32.toInt_inj]; omega)), (.inr (by first | omega | (simp only [Int32.lt_iff_toInt_lt, Int32.le_iff_toInt_le, Int32.reduceToInt, ← Int32.toInt_inj]; omega))), (.inr (by first | omega | (simp only [Int32.lt_iff_toInt_lt, Int32.le_iff_toInt_le, Int32.reduceToInt, ← Int32.toInt_inj]; omega)))⟩
    · simp only [Int32.lt_iff_toInt_lt, Int32.le_iff_toInt_le, Int32.reduceToInt, ← Int32.toInt_inj] at h_84
      refine v_iconst hC dX11_read_38 (v := (-1)) (by decide) ?_
      exact hR _ _ _ _ _ _ _ dX11_read_39 rfl (Nat.le_of_ble_eq_true rfl) (Nat.le_of_ble_eq_true rfl) ⟨rfl, hW_78, (hF_79.mono rfl), (by decide), (.inl (by decide)), (.inl (by decide))⟩
  · simp only [Int32.lt_iff_toInt_lt, Int32.le_iff_toInt_le, Int32.reduceToInt, ← Int32.toInt_inj] at h_41
    refine v_iload_n hC dX11_read_11 rfl ?_
    exact hR _ _ _ _ _ _ _ dX11_read_12 rfl (Nat.le_of_ble_eq_true rfl) (Nat.le_of_ble_eq_true rfl) ⟨rfl, hW, FR.rf, (by first | omega | (simp only [Int32.lt_iff_toInt_lt, Int32.le_iff_toInt_le, Int32.reduceToInt, ← Int32.toInt_inj]; omega)), (by first | omega | (simp only [Int32.lt_iff_toInt_lt, Int32.le_iff_toInt_le, Int32.reduceToInt, ← Int32.toInt_inj]; omega)), (by first | omega | (simp only [Int32.lt_iff_toInt_lt, Int32.le_iff_toInt_le, Int32.reduceToInt, ← Int32.toInt_inj]; omega))⟩
set_option maxRecDepth 100000 in
set_option maxHeartbeats 4000000 in
theorem p_X11_letter {l : Launch} {E : Ez} {L : List Nat} {f : Nat → va_E} {T : Nat → va_E → Prop} {a_0 : Nat} {a_1 : Int32} (hW : WT T L f) (k_0 : isX T L E a_0) : CI l yX11_letter cX11_letter 2 .int 2 0 0 E [.ref a_0, .int a_1] L f (fun r L1 f1 => L = L1 ∧ f = f1) := by
  refine ci_of (by decide) (Nat.le_of_ble_eq_true rfl) (fun z hz hnm hC hR => ?_)
  have hC : Cx z E cX11_letter RX11 2 2 0 0 := hC
  subst hz
  show V z E 2 0 0 L f 0 [(0, .ref a_0), (1, .int a_1)] []
  refine v_aload_n hC dX11_letter_0 rfl ?_
  obtain ⟨m_1, q_3, q_4, q_5, q_6, q_7, q_8, q_9, q_10, q_11, q_12, q_13, q_14, q_15, q_16, t_2, k_17, k_18, k_19, k_20, k_21, k_22, k_23, k_24, k_25, k_26, k_27, k_28, k_29, k_30⟩ := id k_0
  have e_31 : f a_0 = ob 11 [.ref q_3, .ref q_4, .ref q_5, .ref q_6, .ref q_7, .ref q_8, .ref q_9, .ref q_10, .ref q_11, .ref q_12, .ref q_13, .ref q_14, .ref q_15, .ref q_16] := hW.at m_1 t_2
  refine v_get hC fl_X11_30 m_1 e_31 rfl dX11_letter_1 ?_
  refine v_iload_n hC dX11_letter_4 rfl ?_
  obtain ⟨m_32, q_34, t_33, k_35⟩ := id k_20
  obtain ⟨v_37, e_36, b_38⟩ := hW.at m_32 t_33
  refine v_vi hC (rest := []) m_32 e_36 rfl mi_X2_byteOf ms_X2_byteOf (p_X2_byteOf hW k_20) mx_X2_byteOf ml_X11_214 (by decide) rfl (cells1 := 0) (slots1 := 0) (by decide) (by decide) (Nat.le_of_ble_eq_true rfl) (Nat.le_of_ble_eq_true rfl) rfl (Nat.le_of_ble_eq_true rfl) dX11_letter_5 (fun r_39 L_40 f_41 h_42 => ?_)
  obtain ⟨rfl, rfl⟩ := h_42
  exact hR _ _ _ _ _ _ _ dX11_letter_8 rfl (Nat.le_of_ble_eq_true rfl) (Nat.le_of_ble_eq_true rfl) ⟨rfl, rfl⟩
set_option maxRecDepth 100000 in
set_option maxHeartbeats 4000000 in
theorem p_X11_bit {l : Launch} {E : Ez} {L : List Nat} {f : Nat → va_E} {T : Nat → va_E → Prop} {a_0 : Nat} {a_1 : Int32} {a_2 : Int32} {a_3 : Int32} (hW : WT T L f) (k_0 : isX T L E a_0) : CI l yX11_bit cX11_bit 5 .int 3 0 0 E [.ref a_0, .int a_1, .int a_2, .int a_3] L f (fun r L1 f1 => L = L1 ∧ WT T L f1 ∧ FR [8, 356] f f1 ∧ ((-6) ≤ r.toInt ∧ r.toInt ≤ 2) ∧ (¬ r.toInt = 0 ∨ (0 ≤ a_1.toInt ∧ a_1.toInt ≤ 3)) ∧ (¬ r.toInt = 0 ∨ (0 ≤ a_2.toInt ∧ a_2.toInt ≤ 5)) ∧ (¬ r.toInt = 0 ∨ (0 ≤ a_3.toInt ∧ a_3.toInt ≤ 255))) := by
  refine ci_of (by decide) (Nat.le_of_ble_eq_true rfl) (fun z hz hnm hC hR => ?_)
  have hC : Cx z E cX11_bit RX11 5 3 0 0 := hC
  subst hz
  show V z E 5 0 0 L f 0 [(0, .ref a_0), (1, .int a_1), (2, .int a_2), (3, .int a_3)] []
  refine v_aload_n hC dX11_bit_0 rfl ?_
  refine v_iload_n hC dX11_bit_1 rfl ?_
  refine v_iload_n hC dX11_bit_2 rfl ?_
  obtain ⟨m_1, q_3, q_4, q_5, q_6, q_7, q_8, q_9, q_10, q_11, q_12, q_13, q_14, q_15, q_16, t_2, k_17, k_18, k_19, k_20, k_21, k_22, k_23, k_24, k_25, k_26, k_27, k_28, k_29, k_30⟩ := id k_0
  have e_31 : f a_0 = ob 11 [.ref q_3, .ref q_4, .ref q_5, .ref q_6, .ref q_7, .ref q_8, .ref q_9, .ref q_10, .ref q_11, .ref q_12, .ref q_13, .ref q_14, .ref q_15, .ref q_16] := hW.at m_1 t_2
  refine v_vi hC (rest := []) m_1 e_31 rfl mi_X11_refusalOfReading ms_X11_refusalOfReading (p_X11_refusalOfReading hW k_0) mx_X11_refusalOfReading ml_X11_198 (by decide) rfl (cells1 := 0) (slots1 := 0) (by decide) (by decide) (Nat.le_of_ble_eq_true rfl) (Nat.le_of_ble_eq_true rfl) rfl (Nat.le_of_ble_eq_true rfl) dX11_bit_3 (fun r_32 L_33 f_34 h_35 => ?_)
  obtain ⟨rfl, rfl, b_36, h_37, h_38⟩ := h_35
  refine v_istore hC dX11_bit_6 (by decide) (lv' := [(4, .int r_32), (0, .ref a_0), (1, .int a_1), (2, .int a_2), (3, .int a_3)]) rfl ?_
  refine v_iload hC dX11_bit_8 rfl ?_
  refine v_if_eq hC dX11_bit_10 (tgt := 16) (by decide) (fun h_41 => ?_) (fun h_41 => ?_)
  · simp only [Int32.lt_iff_toInt_lt, Int32.le_iff_toInt_le, Int32.reduceToInt, ← Int32.toInt_inj] at h_41
    refine v_aload_n hC dX11_bit_16 rfl ?_
    refine v_get hC fl_X11_78 m_1 e_31 rfl dX11_bit_17 ?_
    refine v_aload_n hC dX11_bit_20 rfl ?_
    refine v_get hC fl_X11_19 m_1 e_31 rfl dX11_bit_21 ?_
    obtain ⟨m_42, q_44, q_45, q_46, q_47, q_48, q_49, t_43, k_50, k_51, k_52, k_53, k_54, k_55⟩ := id k_18
    have e_56 : f q_4 = ob 0 [.ref q_44, .ref q_45, .ref q_46, .ref q_47, .ref q_48, .ref q_49] := hW.at m_42 t_43
    refine v_getN hC fn_X11_146 m_42 e_56 rfl dX11_bit_24 ?_
    refine v_iload_n hC dX11_bit_27 rfl ?_
    obtain ⟨m_57, g_59, t_58, k_60⟩ := id k_52
    have e_61 : f q_46 = aR E 7 6 g_59 := hW.at m_57 t_58
    obtain ⟨q_62, h_63, k_64⟩ := k_60 (a_2 : Int32).toNatClampNeg (clamp_lt (vp_in_iff.mpr (by first | omega | (simp only [Int32.lt_iff_toInt_lt, Int32.le_iff_toInt_le, Int32.reduceToInt, ← Int32.toInt_inj]; omega))))
    refine v_aald hC m_57 e_61 rfl (vp_in_iff.mpr (by first | omega | (simp only [Int32.lt_iff_toInt_lt, Int32.le_iff_toInt_le, Int32.reduceToInt, ← Int32.toInt_inj]; omega))) (v := .ref q_62) (by rw [h_63]; rfl) dX11_bit_28 ?_
    refine v_aload_n hC dX11_bit_29 rfl ?_
    refine v_get hC fl_X11_19 m_1 e_31 rfl dX11_bit_30 ?_
    refine v_getN hC fn_X11_116 m_42 e_56 rfl dX11_bit_33 ?_
    obtain ⟨m_65, q_67, t_66, k_68⟩ := id k_28
    obtain ⟨v_70, v_72, v_74, v_76, e_69, b_71, b_73, b_75, b_77⟩ := hW.at m_65 t_66
    refine v_vv hC (rest := []) m_65 e_69 rfl mi_X8_follow ms_X8_follow (p_X8_follow hW k_28 k_64 k_50) mx_X8_follow ml_X11_218 (by decide) rfl (cells1 := 0) (slots1 := 0) (by decide) (by decide) (Nat.le_of_ble_eq_true rfl) (Nat.le_of_ble_eq_true rfl) rfl (Nat.le_of_ble_eq_true rfl) dX11_bit_36 (fun L_79 f_80 h_81 => ?_)
    obtain ⟨rfl, hW_82, hF_83⟩ := h_81
    have hf_84 := hF_83.at e_31 rfl
    have hf_85 := hF_83.at e_56 rfl
    have hf_86 := hF_83.at e_61 rfl
    refine v_iload_n hC dX11_bit_39 rfl ?_
    refine v_if_lt hC dX11_bit_40 (tgt := 54) (by decide) (fun h_87 => ?_) (fun h_87 => ?_)
    · simp only [Int32.lt_iff_toInt_lt, Int32.le_iff_toInt_le, Int32.reduceToInt, ← Int32.toInt_inj] at h_87
      refine v_iconst hC dX11_bit_54 (v := (-1)) (by decide) ?_
      exact hR _ _ _ _ _ _ _ dX11_bit_55 rfl (Nat.le_of_ble_eq_true rfl) (Nat.le_of_ble_eq_true rfl) ⟨rfl, hW_82, (hF_83.mono rfl), (by decide), (.inl (by decide)), (.inl (by decide)), (.inl (by decide))⟩
    · simp only [Int32.lt_iff_toInt_lt, Int32.le_iff_toInt_le, Int32.reduceToInt, ← Int32.toInt_inj] at h_87
      refine v_iload_n hC dX11_bit_43 rfl ?_
      refine v_aload_n hC dX11_bit_44 rfl ?_
      refine v_get hC fl_X11_78 m_1 hf_84 rfl dX11_bit_45 ?_
      obtain ⟨v_89, v_91, v_93, v_95, e_88, b_90, b_92, b_94, b_96⟩ := hW_82.at m_65 t_66
      refine v_getN hC fn_X11_222 m_65 e_88 rfl dX11_bit_48 ?_
      refine v_icmp_lt hC dX11_bit_51 (tgt := 56) (by decide) (fun h_97 => ?_) (fun h_97 => ?_)
      · simp only [Int32.lt_iff_toInt_lt, Int32.le_iff_toInt_le, Int32.reduceToInt, ← Int32.toInt_inj] at h_97
        refine v_aload_n hC dX11_bit_56 rfl ?_
        refine v_get hC fl_X11_78 m_1 hf_84 rfl dX11_bit_57 ?_
        refine v_aload_n hC dX11_bit_60 rfl ?_
        refine v_get hC fl_X11_19 m_1 hf_84 rfl dX11_bit_61 ?_
        refine v_getN hC fn_X11_190 m_42 hf_85 rfl dX11_bit_64 ?_
        refine v_iload_n hC dX11_bit_67 rfl ?_
        obtain ⟨m_98, g_100, t_99, k_101⟩ := id k_55
        have e_102 : f_80 q_49 = aR E 5 4 g_100 := hW_82.at m_98 t_99
        obtain ⟨q_103, h_104, k_105⟩ := k_101 (a_1 : Int32).toNatClampNeg (clamp_lt (vp_in_iff.mpr (by first | omega | (simp only [Int32.lt_iff_toInt_lt, Int32.le_iff_toInt_le, Int32.reduceToInt, ← Int32.toInt_inj]; omega))))
        refine v_aald hC m_98 e_102 rfl (vp_in_iff.mpr (by first | omega | (simp only [Int32.lt_iff_toInt_lt, Int32.le_iff_toInt_le, Int32.reduceToInt, ← Int32.toInt_inj]; omega))) (v := .ref q_103) (by rw [h_104]; rfl) dX11_bit_68 ?_
        refine v_iload_n hC dX11_bit_69 rfl ?_
        refine v_vi hC (rest := []) m_65 e_88 rfl mi_X8_bitTells ms_X8_bitTells (p_X8_bitTells hW_82 k_28 k_105) mx_X8_bitTells ml_X11_225 (by decide) rfl (cells1 := 0) (slots1 := 0) (by decide) (by decide) (Nat.le_of_ble_eq_true rfl) (Nat.le_of_ble_eq_true rfl) rfl (Nat.le_of_ble_eq_true rfl) dX11_bit_70 (fun r_106 L_107 f_108 h_109 => ?_)
        obtain ⟨rfl, rfl, b_110⟩ := h_109
        exact hR _ _ _ _ _ _ _ dX11_bit_73 rfl (Nat.le_of_ble_eq_true rfl) (Nat.le_of_ble_eq_true rfl) ⟨rfl, hW_82, (hF_83.mono rfl), (by first | omega | (simp only [Int32.lt_iff_toInt_lt, Int32.le_iff_toInt_le, Int32.reduceToInt, ← Int32.toInt_inj]; omega)), (.inr (by first | omega | (simp only [Int32.lt_iff_toInt_lt, Int32.le_iff_toInt_le, Int32.reduceToInt, ← Int32.toInt_inj]; omega))), (.inr (by first | omega | (simp only [Int32.lt_iff_toInt_lt, Int32.le_iff_toInt_le, Int32.reduceToInt, ← Int32.toInt_inj]; omega))), (.inr (by first | omega | (simp only [Int32.lt_iff_toInt_lt, Int32.le_iff_toInt_le, Int32.reduceToInt, ← Int32.toInt_inj]; omega)))⟩
      · simp only [Int32.lt_iff_toInt_lt, Int32.le_iff_toInt_le, Int32.reduceToInt, ← Int32.toInt_inj] at h_97
        refine v_iconst hC dX11_bit_54 (v := (-1)) (by decide) ?_
        exact hR _ _ _ _ _ _ _ dX11_bit_55 rfl (Nat.le_of_ble_eq_true rfl) (Nat.le_of_ble_eq_true rfl) ⟨rfl, hW_82, (hF_83.mono rfl), (by decide), (.inl (by decide)), (.inl (by decide)), (.inl (by decide))⟩
  · simp only [Int32.lt_iff_toInt_lt, Int32.le_iff_toInt_le, Int32.reduceToInt, ← Int32.toInt_inj] at h_41
    refine v_iload hC dX11_bit_13 rfl ?_
    exact hR _ _ _ _ _ _ _ dX11_bit_15 rfl (Nat.le_of_ble_eq_true rfl) (Nat.le_of_ble_eq_true rfl) ⟨rfl, hW, FR.rf, (by first | omega | (simp only [Int32.lt_iff_toInt_lt, Int32.le_iff_toInt_le, Int32.reduceToInt, ← Int32.toInt_inj]; omega)), (by first | omega | (simp only [Int32.lt_iff_toInt_lt, Int32.le_iff_toInt_le, Int32.reduceToInt, ← Int32.toInt_inj]; omega)), (by first | omega | (simp only [Int32.lt_iff_toInt_lt, Int32.le_iff_toInt_le, Int32.reduceToInt, ← Int32.toInt_inj]; omega)), (by first | omega | (simp only [Int32.lt_iff_toInt_lt, Int32.le_iff_toInt_le, Int32.reduceToInt, ← Int32.toInt_inj]; omega))⟩
set_option maxRecDepth 100000 in
set_option maxHeartbeats 4000000 in
theorem p_X11_dim {l : Launch} {E : Ez} {L : List Nat} {f : Nat → va_E} {T : Nat → va_E → Prop} {a_0 : Nat} {a_1 : Int32} {a_2 : Int32} (hW : WT T L f) (k_0 : isX T L E a_0) : CI l yX11_dim cX11_dim 6 .int 3 0 0 E [.ref a_0, .int a_1, .int a_2] L f (fun r L1 f1 => L = L1 ∧ WT T L f1 ∧ FR [8, 356] f f1 ∧ (¬ r.toInt = 0 ∨ (0 ≤ a_1.toInt ∧ a_1.toInt ≤ 3)) ∧ (¬ r.toInt = 0 ∨ (0 ≤ a_2.toInt ∧ a_2.toInt ≤ 5))) := by
  refine ci_of (by decide) (Nat.le_of_ble_eq_true rfl) (fun z hz hnm hC hR => ?_)
  have hC : Cx z E cX11_dim RX11 6 3 0 0 := hC
  subst hz
  show V z E 6 0 0 L f 0 [(0, .ref a_0), (1, .int a_1), (2, .int a_2)] []
  refine v_aload_n hC dX11_dim_0 rfl ?_
  refine v_iload_n hC dX11_dim_1 rfl ?_
  refine v_iload_n hC dX11_dim_2 rfl ?_
  obtain ⟨m_1, q_3, q_4, q_5, q_6, q_7, q_8, q_9, q_10, q_11, q_12, q_13, q_14, q_15, q_16, t_2, k_17, k_18, k_19, k_20, k_21, k_22, k_23, k_24, k_25, k_26, k_27, k_28, k_29, k_30⟩ := id k_0
  have e_31 : f a_0 = ob 11 [.ref q_3, .ref q_4, .ref q_5, .ref q_6, .ref q_7, .ref q_8, .ref q_9, .ref q_10, .ref q_11, .ref q_12, .ref q_13, .ref q_14, .ref q_15, .ref q_16] := hW.at m_1 t_2
  refine v_vi hC (rest := []) m_1 e_31 rfl mi_X11_refusalOfReading ms_X11_refusalOfReading (p_X11_refusalOfReading hW k_0) mx_X11_refusalOfReading ml_X11_198 (by decide) rfl (cells1 := 0) (slots1 := 0) (by decide) (by decide) (Nat.le_of_ble_eq_true rfl) (Nat.le_of_ble_eq_true rfl) rfl (Nat.le_of_ble_eq_true rfl) dX11_dim_3 (fun r_32 L_33 f_34 h_35 => ?_)
  obtain ⟨rfl, rfl, b_36, h_37, h_38⟩ := h_35
  refine v_istore_n hC dX11_dim_6 (by decide) (lv' := [(3, .int r_32), (0, .ref a_0), (1, .int a_1), (2, .int a_2)]) rfl ?_
  refine v_iload_n hC dX11_dim_7 rfl ?_
  refine v_if_eq hC dX11_dim_8 (tgt := 13) (by decide) (fun h_41 => ?_) (fun h_41 => ?_)
  · simp only [Int32.lt_iff_toInt_lt, Int32.le_iff_toInt_le, Int32.reduceToInt, ← Int32.toInt_inj] at h_41
    refine v_aload_n hC dX11_dim_13 rfl ?_
    refine v_get hC fl_X11_78 m_1 e_31 rfl dX11_dim_14 ?_
    refine v_aload_n hC dX11_dim_17 rfl ?_
    refine v_get hC fl_X11_19 m_1 e_31 rfl dX11_dim_18 ?_
    obtain ⟨m_42, q_44, q_45, q_46, q_47, q_48, q_49, t_43, k_50, k_51, k_52, k_53, k_54, k_55⟩ := id k_18
    have e_56 : f q_4 = ob 0 [.ref q_44, .ref q_45, .ref q_46, .ref q_47, .ref q_48, .ref q_49] := hW.at m_42 t_43
    refine v_getN hC fn_X11_146 m_42 e_56 rfl dX11_dim_21 ?_
    refine v_iload_n hC dX11_dim_24 rfl ?_
    obtain ⟨m_57, g_59, t_58, k_60⟩ := id k_52
    have e_61 : f q_46 = aR E 7 6 g_59 := hW.at m_57 t_58
    obtain ⟨q_62, h_63, k_64⟩ := k_60 (a_2 : Int32).toNatClampNeg (clamp_lt (vp_in_iff.mpr (by first | omega | (simp only [Int32.lt_iff_toInt_lt, Int32.le_iff_toInt_le, Int32.reduceToInt, ← Int32.toInt_inj]; omega))))
    refine v_aald hC m_57 e_61 rfl (vp_in_iff.mpr (by first | omega | (simp only [Int32.lt_iff_toInt_lt, Int32.le_iff_toInt_le, Int32.reduceToInt, ← Int32.toInt_inj]; omega))) (v := .ref q_62) (by rw [h_63]; rfl) dX11_dim_25 ?_
    refine v_aload_n hC dX11_dim_26 rfl ?_
    refine v_get hC fl_X11_19 m_1 e_31 rfl dX11_dim_27 ?_
    refine v_getN hC fn_X11_116 m_42 e_56 rfl dX11_dim_30 ?_
    obtain ⟨m_65, q_67, t_66, k_68⟩ := id k_28
    obtain ⟨v_70, v_72, v_74, v_76, e_69, b_71, b_73, b_75, b_77⟩ := hW.at m_65 t_66
    refine v_vv hC (rest := []) m_65 e_69 rfl mi_X8_follow ms_X8_follow (p_X8_follow hW k_28 k_64 k_50) mx_X8_follow ml_X11_218 (by decide) rfl (cells1 := 0) (slots1 := 0) (by decide) (by decide) (Nat.le_of_ble_eq_true rfl) (Nat.le_of_ble_eq_true rfl) rfl (Nat.le_of_ble_eq_true rfl) dX11_dim_33 (fun L_79 f_80 h_81 => ?_)
    obtain ⟨rfl, hW_82, hF_83⟩ := h_81
    have hf_84 := hF_83.at e_31 rfl
    have hf_85 := hF_83.at e_56 rfl
    have hf_86 := hF_83.at e_61 rfl
    refine v_iconst hC dX11_dim_36 (v := 0) (by decide) ?_
    refine v_istore hC dX11_dim_37 (by decide) (lv' := [(4, .int 0), (3, .int r_32), (0, .ref a_0), (1, .int a_1), (2, .int a_2)]) rfl ?_
    refine v_iconst hC dX11_dim_39 (v := 0) (by decide) ?_
    refine v_istore hC dX11_dim_40 (by decide) (lv' := [(5, .int 0), (4, .int 0), (3, .int r_32), (0, .ref a_0), (1, .int a_1), (2, .int a_2)]) rfl ?_
    have lp_283 : ∀ (n_284 : Nat) (i_280 : Int32) (b_282 : (0 ≤ i_280.toInt ∧ i_280.toInt ≤ 256)) (i_281 : Int32) (hm_286 : 256 - i_280.toInt < (n_284 : Int)), V z E 6 0 0 L f_80 42 [(5, .int i_280), (4, .int i_281), (0, .ref a_0), (1, .int a_1)] [] := by
      intro n_284
      induction n_284 with
      | zero =>
        intro i_280 b_282 i_281 hm_286
        exfalso; omega
      | succ n_284 ih_285 =>
        intro i_280 b_282 i_281 hm_286
        refine v_iload hC dX11_dim_42 rfl ?_
        refine v_aload_n hC dX11_dim_44 rfl ?_
        refine v_get hC fl_X11_78 m_1 hf_84 rfl dX11_dim_45 ?_
        obtain ⟨v_288, v_290, v_292, v_294, e_287, b_289, b_291, b_293, b_295⟩ := hW_82.at m_65 t_66
        refine v_getN hC fn_X11_222 m_65 e_287 rfl dX11_dim_48 ?_
        refine v_icmp_ge hC dX11_dim_51 (tgt := 85) (by decide) (fun h_296 => ?_) (fun h_296 => ?_)
        · simp only [Int32.lt_iff_toInt_lt, Int32.le_iff_toInt_le, Int32.reduceToInt, ← Int32.toInt_inj] at h_296
          refine v_iload hC dX11_dim_85 rfl ?_
          exact hR _ _ _ _ _ _ _ dX11_dim_87 rfl (Nat.le_of_ble_eq_true rfl) (Nat.le_of_ble_eq_true rfl) ⟨rfl, hW_82, (hF_83.mono rfl), (.inr (by first | omega | (simp only [Int32.lt_iff_toInt_lt, Int32.le_iff_toInt_le, Int32.reduceToInt, ← Int32.toInt_inj]; omega))), (.inr (by first | omega | (simp only [Int32.lt_iff_toInt_lt, Int32.le_iff_toInt_le, Int32.reduceToInt, ← Int32.toInt_inj]; omega)))⟩
        · simp only [Int32.lt_iff_toInt_lt, Int32.le_iff_toInt_le, Int32.reduceToInt, ← Int32.toInt_inj] at h_296
          refine v_aload_n hC dX11_dim_54 rfl ?_
          refine v_get hC fl_X11_78 m_1 hf_84 rfl dX11_dim_55 ?_
          refine v_aload_n hC dX11_dim_58 rfl ?_
          refine v_get hC fl_X11_19 m_1 hf_84 rfl dX11_dim_59 ?_
          refine v_getN hC fn_X11_190 m_42 hf_85 rfl dX11_dim_62 ?_
          refine v_iload_n hC dX11_dim_65 rfl ?_
          obtain ⟨m_297, g_299, t_298, k_300⟩ := id k_55
          have e_301 : f_80 q_49 = aR E 5 4 g_299 := hW_82.at m_297 t_298
          obtain ⟨q_302, h_303, k_304⟩ := k_300 (a_1 : Int32).toNatClampNeg (clamp_lt (vp_in_iff.mpr (by first | omega | (simp only [Int32.lt_iff_toInt_lt, Int32.le_iff_toInt_le, Int32.reduceToInt, ← Int32.toInt_inj]; omega))))
          refine v_aald hC m_297 e_301 rfl (vp_in_iff.mpr (by first | omega | (simp only [Int32.lt_iff_toInt_lt, Int32.le_iff_toInt_le, Int32.reduceToInt, ← Int32.toInt_inj]; omega))) (v := .ref q_302) (by rw [h_303]; rfl) dX11_dim_66 ?_
          refine v_iload hC dX11_dim_67 rfl ?_
          refine v_vi hC (rest := []) m_65 e_287 rfl mi_X8_bitTells ms_X8_bitTells (p_X8_bitTells hW_82 k_28 k_304) mx_X8_bitTells ml_X11_225 (by decide) rfl (cells1 := 0) (slots1 := 0) (by decide) (by decide) (Nat.le_of_ble_eq_true rfl) (Nat.le_of_ble_eq_true rfl) rfl (Nat.le_of_ble_eq_true rfl) dX11_dim_69 (fun r_305 L_306 f_307 h_308 => ?_)
          obtain ⟨rfl, rfl, b_309⟩ := h_308
          refine v_iconst hC dX11_dim_72 (v := 2) (by decide) ?_
          refine v_icmp_ne hC dX11_dim_73 (tgt := 79) (by decide) (fun h_312 => ?_) (fun h_312 => ?_)
          · simp only [Int32.lt_iff_toInt_lt, Int32.le_iff_toInt_le, Int32.reduceToInt, ← Int32.toInt_inj] at h_312
            obtain ⟨v_313, h_314⟩ : ∃ v9 : Int32, i_280 + Int32.ofInt 1 = v9 := ⟨_, rfl⟩
            have h_315 := add_v (b := 1) h_314 (by first | omega | (simp only [Int32.lt_iff_toInt_lt, Int32.le_iff_toInt_le, Int32.reduceToInt, ← Int32.toInt_inj]; omega)) (by first | omega | (simp only [Int32.lt_iff_toInt_lt, Int32.le_iff_toInt_le, Int32.reduceToInt, ← Int32.toInt_inj]; omega))
            simp only [Int32.reduceToInt] at h_315
            refine v_iinc hC dX11_dim_79 (k := 0) rfl (v := v_313) h_314 (by decide) (lv' := [(5, .int v_313), (4, .int i_281), (0, .ref a_0), (1, .int a_1)]) rfl ?_
            refine v_goto hC dX11_dim_82 (tgt := 42) (by decide) ?_
            refine v_pick [0, 1, 2, 3] rfl ?_
            exact ih_285 v_313 (by first | omega | (simp only [Int32.lt_iff_toInt_lt, Int32.le_iff_toInt_le, Int32.reduceToInt, ← Int32.toInt_inj]; omega)) i_281 (by first | omega | (simp only [Int32.lt_iff_toInt_lt, Int32.le_iff_toInt_le, Int32.reduceToInt, ← Int32.toInt_inj]; omega))
          · simp only [Int32.lt_iff_toInt_lt, Int32.le_iff_toInt_le, Int32.reduceToInt, ← Int32.toInt_inj] at h_312
            obtain ⟨v_316, h_317⟩ : ∃ v9 : Int32, i_281 + Int32.ofInt 1 = v9 := ⟨_, rfl⟩
            refine v_iinc hC dX11_dim_76 (k := 1) rfl (v := v_316) h_317 (by decide) (lv' := [(4, .int v_316), (5, .int i_280), (0, .ref a_0), (1, .int a_1)]) rfl ?_
            obtain ⟨v_318, h_319⟩ : ∃ v9 : Int32, i_280 + Int32.ofInt 1 = v9 := ⟨_, rfl⟩
            have h_320 := add_v (b := 1) h_319 (by first | omega | (simp only [Int32.lt_iff_toInt_lt, Int32.le_iff_toInt_le, Int32.reduceToInt, ← Int32.toInt_inj]; omega)) (by first | omega | (simp only [Int32.lt_iff_toInt_lt, Int32.le_iff_toInt_le, Int32.reduceToInt, ← Int32.toInt_inj]; omega))
            simp only [Int32.reduceToInt] at h_320
            refine v_iinc hC dX11_dim_79 (k := 1) rfl (v := v_318) h_319 (by decide) (lv' := [(5, .int v_318), (4, .int v_316), (0, .ref a_0), (1, .int a_1)]) rfl ?_
            refine v_goto hC dX11_dim_82 (tgt := 42) (by decide) ?_
            refine v_pick [0, 1, 2, 3] rfl ?_
            exact ih_285 v_318 (by first | omega | (simp only [Int32.lt_iff_toInt_lt, Int32.le_iff_toInt_le, Int32.reduceToInt, ← Int32.toInt_inj]; omega)) v_316 (by first | omega | (simp only [Int32.lt_iff_toInt_lt, Int32.le_iff_toInt_le, Int32.reduceToInt, ← Int32.toInt_inj]; omega))
    refine v_pick [0, 1, 3, 4] rfl ?_
    exact lp_283 258 0 (by decide) 0 (by decide)
  · simp only [Int32.lt_iff_toInt_lt, Int32.le_iff_toInt_le, Int32.reduceToInt, ← Int32.toInt_inj] at h_41
    refine v_iload_n hC dX11_dim_11 rfl ?_
    exact hR _ _ _ _ _ _ _ dX11_dim_12 rfl (Nat.le_of_ble_eq_true rfl) (Nat.le_of_ble_eq_true rfl) ⟨rfl, hW, FR.rf, (by first | omega | (simp only [Int32.lt_iff_toInt_lt, Int32.le_iff_toInt_le, Int32.reduceToInt, ← Int32.toInt_inj]; omega)), (by first | omega | (simp only [Int32.lt_iff_toInt_lt, Int32.le_iff_toInt_le, Int32.reduceToInt, ← Int32.toInt_inj]; omega))⟩
