set_option maxRecDepth 100000 in
set_option maxHeartbeats 8000000 in
theorem p_X7_mayTakeWord {l : Launch} {E : Ez} {L : List Nat} {f : Nat → va_E} {T : Nat → va_E → Prop} {a_0 : Nat} {a_1 : Nat} (hW : WT T L f) (k_0 : isTape T L E a_0) (ha_1 : a_1 < 77) : CI l yX7_mayTakeWord cX7_mayTakeWord 2 .boolean 5 0 0 E [.ref a_0, .ref (eK E a_1)] L f (fun r L1 f1 => L = L1 ∧ WT T L f1 ∧ FR [7] f f1 ∧ (0 ≤ r.toInt ∧ r.toInt ≤ 1)) := by
  refine ci_of (by decide) (Nat.le_of_ble_eq_true rfl) (fun z hz hnm hC hR => ?_)
  have hC : Cx z E cX7_mayTakeWord RX7 2 5 0 0 := hC
  subst hz
  show V z E 2 0 0 L f 0 [(0, .ref a_0), (1, .ref (eK E a_1))] []
  refine v_aload_n hC dX7_mayTakeWord_0 rfl ?_
  refine v_aload_n hC dX7_mayTakeWord_1 rfl ?_
  obtain ⟨m_1, q_3, t_2, k_4⟩ := id k_0
  obtain ⟨v_6, v_8, v_9, v_11, v_13, v_14, e_5, b_7, b_10, b_12⟩ := hW.at m_1 t_2
  refine v_vi hC (rest := []) m_1 e_5 rfl mi_X7_isWord ms_X7_isWord (p_X7_isWord hW k_0 ha_1) mx_X7_isWord ml_X7_77 (by decide) rfl (cells1 := 0) (slots1 := 0) (by decide) (by decide) (Nat.le_of_ble_eq_true rfl) (Nat.le_of_ble_eq_true rfl) rfl (Nat.le_of_ble_eq_true rfl) dX7_mayTakeWord_2 (fun r_15 L_16 f_17 h_18 => ?_)
  obtain ⟨rfl, rfl, b_19⟩ := h_18
  refine v_if_ne hC dX7_mayTakeWord_5 (tgt := 10) (by decide) (fun h_22 => ?_) (fun h_22 => ?_)
  · simp only [Int32.lt_iff_toInt_lt, Int32.le_iff_toInt_le, Int32.reduceToInt, ← Int32.toInt_inj] at h_22
    refine v_aload_n hC dX7_mayTakeWord_10 rfl ?_
    refine v_vv hC (rest := []) m_1 e_5 rfl mi_X7_advance ms_X7_advance (p_X7_advance hW k_0) mx_X7_advance ml_X7_28 (by decide) rfl (cells1 := 0) (slots1 := 0) (by decide) (by decide) (Nat.le_of_ble_eq_true rfl) (Nat.le_of_ble_eq_true rfl) rfl (Nat.le_of_ble_eq_true rfl) dX7_mayTakeWord_11 (fun L_24 f_25 h_26 => ?_)
    obtain ⟨rfl, hW_27, hF_28⟩ := h_26
    refine v_iconst hC dX7_mayTakeWord_14 (v := 1) (by decide) ?_
    exact hR _ _ _ _ _ _ _ dX7_mayTakeWord_15 rfl (Nat.le_of_ble_eq_true rfl) (Nat.le_of_ble_eq_true rfl) ⟨rfl, hW_27, (hF_28.mono rfl), (by decide)⟩
  · simp only [Int32.lt_iff_toInt_lt, Int32.le_iff_toInt_le, Int32.reduceToInt, ← Int32.toInt_inj] at h_22
    refine v_iconst hC dX7_mayTakeWord_8 (v := 0) (by decide) ?_
    exact hR _ _ _ _ _ _ _ dX7_mayTakeWord_9 rfl (Nat.le_of_ble_eq_true rfl) (Nat.le_of_ble_eq_true rfl) ⟨rfl, hW, FR.rf, (by decide)⟩
set_option maxRecDepth 100000 in
set_option maxHeartbeats 8000000 in
theorem p_X7_takeNumber {l : Launch} {E : Ez} {L : List Nat} {f : Nat → va_E} {T : Nat → va_E → Prop} {a_0 : Nat} {a_1 : Int32} {a_2 : Int32} (hW : WT T L f) (k_0 : isTape T L E a_0) : CI l yX7_takeNumber cX7_takeNumber 4 .int 2 0 0 E [.ref a_0, .int a_1, .int a_2] L f (fun r L1 f1 => L = L1 ∧ WT T L f1 ∧ FR [7] f f1 ∧ (a_1.toInt ≤ r.toInt ∧ (r.toInt ≤ a_2.toInt ∨ r.toInt = a_1.toInt))) := by
  refine ci_of (by decide) (Nat.le_of_ble_eq_true rfl) (fun z hz hnm hC hR => ?_)
  have hC : Cx z E cX7_takeNumber RX7 4 2 0 0 := hC
  subst hz
  show V z E 4 0 0 L f 0 [(0, .ref a_0), (1, .int a_1), (2, .int a_2)] []
  refine v_aload_n hC dX7_takeNumber_0 rfl ?_
  obtain ⟨m_1, q_3, t_2, k_4⟩ := id k_0
  obtain ⟨v_6, v_8, v_9, v_11, v_13, v_14, e_5, b_7, b_10, b_12⟩ := hW.at m_1 t_2
  refine v_vi hC (rest := []) m_1 e_5 rfl mi_X7_isNumber ms_X7_isNumber (p_X7_isNumber hW k_0) mx_X7_isNumber ml_X7_58 (by decide) rfl (cells1 := 0) (slots1 := 0) (by decide) (by decide) (Nat.le_of_ble_eq_true rfl) (Nat.le_of_ble_eq_true rfl) rfl (Nat.le_of_ble_eq_true rfl) dX7_takeNumber_1 (fun r_15 L_16 f_17 h_18 => ?_)
  obtain ⟨rfl, rfl, b_19⟩ := h_18
  refine v_if_ne hC dX7_takeNumber_4 (tgt := 14) (by decide) (fun h_22 => ?_) (fun h_22 => ?_)
  · simp only [Int32.lt_iff_toInt_lt, Int32.le_iff_toInt_le, Int32.reduceToInt, ← Int32.toInt_inj] at h_22
    refine v_aload_n hC dX7_takeNumber_14 rfl ?_
    refine v_vi hC (rest := []) m_1 e_5 rfl mi_X7_numberTold ms_X7_numberTold (p_X7_numberTold hW k_0) mx_X7_numberTold ml_X7_61 (by decide) rfl (cells1 := 0) (slots1 := 0) (by decide) (by decide) (Nat.le_of_ble_eq_true rfl) (Nat.le_of_ble_eq_true rfl) rfl (Nat.le_of_ble_eq_true rfl) dX7_takeNumber_15 (fun r_23 L_24 f_25 h_26 => ?_)
    obtain ⟨rfl, rfl, b_27⟩ := h_26
    refine v_istore_n hC dX7_takeNumber_18 (by decide) (lv' := [(3, .int r_23), (0, .ref a_0), (1, .int a_1), (2, .int a_2)]) rfl ?_
    refine v_iload_n hC dX7_takeNumber_19 rfl ?_
    refine v_iload_n hC dX7_takeNumber_20 rfl ?_
    refine v_icmp_lt hC dX7_takeNumber_21 (tgt := 29) (by decide) (fun h_30 => ?_) (fun h_30 => ?_)
    · simp only [Int32.lt_iff_toInt_lt, Int32.le_iff_toInt_le, Int32.reduceToInt, ← Int32.toInt_inj] at h_30
      refine v_aload_n hC dX7_takeNumber_29 rfl ?_
      refine v_iconst hC dX7_takeNumber_30 (v := 2) (by decide) ?_
      refine v_vv hC (rest := []) m_1 e_5 rfl mi_X7_complain ms_X7_complain (p_X7_complain hW k_0) mx_X7_complain ml_X7_81 (by decide) rfl (cells1 := 0) (slots1 := 0) (by decide) (by decide) (Nat.le_of_ble_eq_true rfl) (Nat.le_of_ble_eq_true rfl) rfl (Nat.le_of_ble_eq_true rfl) dX7_takeNumber_31 (fun L_32 f_33 h_34 => ?_)
      obtain ⟨rfl, hW_35, hF_36⟩ := h_34
      refine v_iload_n hC dX7_takeNumber_34 rfl ?_
      exact hR _ _ _ _ _ _ _ dX7_takeNumber_35 rfl (Nat.le_of_ble_eq_true rfl) (Nat.le_of_ble_eq_true rfl) ⟨rfl, hW_35, (hF_36.mono rfl), (by first | omega | (simp only [Int32.lt_iff_toInt_lt, Int32.le_iff_toInt_le, Int32.reduceToInt, ← Int32.toInt_inj, true_and, and_true, or_true, true_or, false_or, or_false, false_and, and_false, not_true_eq_false, not_false_eq_true] <;> omega))⟩
    · simp only [Int32.lt_iff_toInt_lt, Int32.le_iff_toInt_le, Int32.reduceToInt, ← Int32.toInt_inj] at h_30
      refine v_iload_n hC dX7_takeNumber_24 rfl ?_
      refine v_iload_n hC dX7_takeNumber_25 rfl ?_
      refine v_icmp_le hC dX7_takeNumber_26 (tgt := 36) (by decide) (fun h_37 => ?_) (fun h_37 => ?_)
      · simp only [Int32.lt_iff_toInt_lt, Int32.le_iff_toInt_le, Int32.reduceToInt, ← Int32.toInt_inj] at h_37
        refine v_aload_n hC dX7_takeNumber_36 rfl ?_
        refine v_vv hC (rest := []) m_1 e_5 rfl mi_X7_advance ms_X7_advance (p_X7_advance hW k_0) mx_X7_advance ml_X7_28 (by decide) rfl (cells1 := 0) (slots1 := 0) (by decide) (by decide) (Nat.le_of_ble_eq_true rfl) (Nat.le_of_ble_eq_true rfl) rfl (Nat.le_of_ble_eq_true rfl) dX7_takeNumber_37 (fun L_39 f_40 h_41 => ?_)
        obtain ⟨rfl, hW_42, hF_43⟩ := h_41
        refine v_iload_n hC dX7_takeNumber_40 rfl ?_
        exact hR _ _ _ _ _ _ _ dX7_takeNumber_41 rfl (Nat.le_of_ble_eq_true rfl) (Nat.le_of_ble_eq_true rfl) ⟨rfl, hW_42, (hF_43.mono rfl), (by first | omega | (simp only [Int32.lt_iff_toInt_lt, Int32.le_iff_toInt_le, Int32.reduceToInt, ← Int32.toInt_inj, true_and, and_true, or_true, true_or, false_or, or_false, false_and, and_false, not_true_eq_false, not_false_eq_true] <;> omega))⟩
      · simp only [Int32.lt_iff_toInt_lt, Int32.le_iff_toInt_le, Int32.reduceToInt, ← Int32.toInt_inj] at h_37
        refine v_aload_n hC dX7_takeNumber_29 rfl ?_
        refine v_iconst hC dX7_takeNumber_30 (v := 2) (by decide) ?_
        refine v_vv hC (rest := []) m_1 e_5 rfl mi_X7_complain ms_X7_complain (p_X7_complain hW k_0) mx_X7_complain ml_X7_81 (by decide) rfl (cells1 := 0) (slots1 := 0) (by decide) (by decide) (Nat.le_of_ble_eq_true rfl) (Nat.le_of_ble_eq_true rfl) rfl (Nat.le_of_ble_eq_true rfl) dX7_takeNumber_31 (fun L_45 f_46 h_47 => ?_)
        obtain ⟨rfl, hW_48, hF_49⟩ := h_47
        refine v_iload_n hC dX7_takeNumber_34 rfl ?_
        exact hR _ _ _ _ _ _ _ dX7_takeNumber_35 rfl (Nat.le_of_ble_eq_true rfl) (Nat.le_of_ble_eq_true rfl) ⟨rfl, hW_48, (hF_49.mono rfl), (by first | omega | (simp only [Int32.lt_iff_toInt_lt, Int32.le_iff_toInt_le, Int32.reduceToInt, ← Int32.toInt_inj, true_and, and_true, or_true, true_or, false_or, or_false, false_and, and_false, not_true_eq_false, not_false_eq_true] <;> omega))⟩
  · simp only [Int32.lt_iff_toInt_lt, Int32.le_iff_toInt_le, Int32.reduceToInt, ← Int32.toInt_inj] at h_22
    refine v_aload_n hC dX7_takeNumber_7 rfl ?_
    refine v_iconst hC dX7_takeNumber_8 (v := 1) (by decide) ?_
    refine v_vv hC (rest := []) m_1 e_5 rfl mi_X7_complain ms_X7_complain (p_X7_complain hW k_0) mx_X7_complain ml_X7_81 (by decide) rfl (cells1 := 0) (slots1 := 0) (by decide) (by decide) (Nat.le_of_ble_eq_true rfl) (Nat.le_of_ble_eq_true rfl) rfl (Nat.le_of_ble_eq_true rfl) dX7_takeNumber_9 (fun L_51 f_52 h_53 => ?_)
    obtain ⟨rfl, hW_54, hF_55⟩ := h_53
    refine v_iload_n hC dX7_takeNumber_12 rfl ?_
    exact hR _ _ _ _ _ _ _ dX7_takeNumber_13 rfl (Nat.le_of_ble_eq_true rfl) (Nat.le_of_ble_eq_true rfl) ⟨rfl, hW_54, (hF_55.mono rfl), (by first | omega | (simp only [Int32.lt_iff_toInt_lt, Int32.le_iff_toInt_le, Int32.reduceToInt, ← Int32.toInt_inj, true_and, and_true, or_true, true_or, false_or, or_false, false_and, and_false, not_true_eq_false, not_false_eq_true] <;> omega))⟩
set_option maxRecDepth 100000 in
set_option maxHeartbeats 8000000 in
theorem p_X7_takeSemicolon {l : Launch} {E : Ez} {L : List Nat} {f : Nat → va_E} {T : Nat → va_E → Prop} {a_0 : Nat} (hW : WT T L f) (k_0 : isTape T L E a_0) : CV l yX7_takeSemicolon cX7_takeSemicolon 1 2 0 0 E [.ref a_0] L f (fun L1 f1 => L = L1 ∧ WT T L f1 ∧ FR [7] f f1) := by
  refine cv_of (by decide) (Nat.le_of_ble_eq_true rfl) (fun z hz hnm hC hR => ?_)
  have hC : Cx z E cX7_takeSemicolon RX7 1 2 0 0 := hC
  subst hz
  show V z E 1 0 0 L f 0 [(0, .ref a_0)] []
  refine v_aload_n hC dX7_takeSemicolon_0 rfl ?_
  obtain ⟨m_1, q_3, t_2, k_4⟩ := id k_0
  obtain ⟨v_6, v_8, v_9, v_11, v_13, v_14, e_5, b_7, b_10, b_12⟩ := hW.at m_1 t_2
  refine v_vi hC (rest := []) m_1 e_5 rfl mi_X7_isSemicolon ms_X7_isSemicolon (p_X7_isSemicolon hW k_0) mx_X7_isSemicolon ml_X7_85 (by decide) rfl (cells1 := 0) (slots1 := 0) (by decide) (by decide) (Nat.le_of_ble_eq_true rfl) (Nat.le_of_ble_eq_true rfl) rfl (Nat.le_of_ble_eq_true rfl) dX7_takeSemicolon_1 (fun r_15 L_16 f_17 h_18 => ?_)
  obtain ⟨rfl, rfl, b_19⟩ := h_18
  refine v_if_eq hC dX7_takeSemicolon_4 (tgt := 14) (by decide) (fun h_22 => ?_) (fun h_22 => ?_)
  · simp only [Int32.lt_iff_toInt_lt, Int32.le_iff_toInt_le, Int32.reduceToInt, ← Int32.toInt_inj] at h_22
    refine v_aload_n hC dX7_takeSemicolon_14 rfl ?_
    refine v_iconst hC dX7_takeSemicolon_15 (v := 1) (by decide) ?_
    refine v_vv hC (rest := []) m_1 e_5 rfl mi_X7_complain ms_X7_complain (p_X7_complain hW k_0) mx_X7_complain ml_X7_81 (by decide) rfl (cells1 := 0) (slots1 := 0) (by decide) (by decide) (Nat.le_of_ble_eq_true rfl) (Nat.le_of_ble_eq_true rfl) rfl (Nat.le_of_ble_eq_true rfl) dX7_takeSemicolon_16 (fun L_24 f_25 h_26 => ?_)
    obtain ⟨rfl, hW_27, hF_28⟩ := h_26
    exact hR _ _ _ _ _ _ dX7_takeSemicolon_19 (Nat.le_of_ble_eq_true rfl) (Nat.le_of_ble_eq_true rfl) ⟨rfl, hW_27, (hF_28.mono rfl)⟩
  · simp only [Int32.lt_iff_toInt_lt, Int32.le_iff_toInt_le, Int32.reduceToInt, ← Int32.toInt_inj] at h_22
    refine v_aload_n hC dX7_takeSemicolon_7 rfl ?_
    refine v_vv hC (rest := []) m_1 e_5 rfl mi_X7_advance ms_X7_advance (p_X7_advance hW k_0) mx_X7_advance ml_X7_28 (by decide) rfl (cells1 := 0) (slots1 := 0) (by decide) (by decide) (Nat.le_of_ble_eq_true rfl) (Nat.le_of_ble_eq_true rfl) rfl (Nat.le_of_ble_eq_true rfl) dX7_takeSemicolon_8 (fun L_30 f_31 h_32 => ?_)
    obtain ⟨rfl, hW_33, hF_34⟩ := h_32
    refine v_goto hC dX7_takeSemicolon_11 (tgt := 19) (by decide) ?_
    exact hR _ _ _ _ _ _ dX7_takeSemicolon_19 (Nat.le_of_ble_eq_true rfl) (Nat.le_of_ble_eq_true rfl) ⟨rfl, hW_33, (hF_34.mono rfl)⟩
set_option maxRecDepth 100000 in
set_option maxHeartbeats 8000000 in
theorem p_X7_takeEnd {l : Launch} {E : Ez} {L : List Nat} {f : Nat → va_E} {T : Nat → va_E → Prop} {a_0 : Nat} (hW : WT T L f) (k_0 : isTape T L E a_0) : CV l yX7_takeEnd cX7_takeEnd 1 2 0 0 E [.ref a_0] L f (fun L1 f1 => L = L1 ∧ WT T L f1 ∧ FR [7] f f1) := by
  refine cv_of (by decide) (Nat.le_of_ble_eq_true rfl) (fun z hz hnm hC hR => ?_)
  have hC : Cx z E cX7_takeEnd RX7 1 2 0 0 := hC
  subst hz
  show V z E 1 0 0 L f 0 [(0, .ref a_0)] []
  refine v_aload_n hC dX7_takeEnd_0 rfl ?_
  obtain ⟨m_1, q_3, t_2, k_4⟩ := id k_0
  obtain ⟨v_6, v_8, v_9, v_11, v_13, v_14, e_5, b_7, b_10, b_12⟩ := hW.at m_1 t_2
  refine v_get hC fl_X7_35 m_1 e_5 rfl dX7_takeEnd_1 ?_
  refine v_if_eq hC dX7_takeEnd_4 (tgt := 12) (by decide) (fun h_15 => ?_) (fun h_15 => ?_)
  · simp only [Int32.lt_iff_toInt_lt, Int32.le_iff_toInt_le, Int32.reduceToInt, ← Int32.toInt_inj] at h_15
    exact hR _ _ _ _ _ _ dX7_takeEnd_12 (Nat.le_of_ble_eq_true rfl) (Nat.le_of_ble_eq_true rfl) ⟨rfl, hW, FR.rf⟩
  · simp only [Int32.lt_iff_toInt_lt, Int32.le_iff_toInt_le, Int32.reduceToInt, ← Int32.toInt_inj] at h_15
    refine v_aload_n hC dX7_takeEnd_7 rfl ?_
    refine v_iconst hC dX7_takeEnd_8 (v := 1) (by decide) ?_
    refine v_vv hC (rest := []) m_1 e_5 rfl mi_X7_complain ms_X7_complain (p_X7_complain hW k_0) mx_X7_complain ml_X7_81 (by decide) rfl (cells1 := 0) (slots1 := 0) (by decide) (by decide) (Nat.le_of_ble_eq_true rfl) (Nat.le_of_ble_eq_true rfl) rfl (Nat.le_of_ble_eq_true rfl) dX7_takeEnd_9 (fun L_17 f_18 h_19 => ?_)
    obtain ⟨rfl, hW_20, hF_21⟩ := h_19
    exact hR _ _ _ _ _ _ dX7_takeEnd_12 (Nat.le_of_ble_eq_true rfl) (Nat.le_of_ble_eq_true rfl) ⟨rfl, hW_20, (hF_21.mono rfl)⟩
set_option maxRecDepth 100000 in
set_option maxHeartbeats 8000000 in
theorem p_X7_isWords {l : Launch} {E : Ez} {L : List Nat} {f : Nat → va_E} {T : Nat → va_E → Prop} {a_0 : Nat} (hW : WT T L f) (k_0 : isTape T L E a_0) : CI l yX7_isWords cX7_isWords 1 .boolean 2 0 0 E [.ref a_0] L f (fun r L1 f1 => L = L1 ∧ WT T L f1 ∧ FR [7] f f1 ∧ (0 ≤ r.toInt ∧ r.toInt ≤ 1)) := by
  refine ci_of (by decide) (Nat.le_of_ble_eq_true rfl) (fun z hz hnm hC hR => ?_)
  have hC : Cx z E cX7_isWords RX7 1 2 0 0 := hC
  subst hz
  show V z E 1 0 0 L f 0 [(0, .ref a_0)] []
  refine v_aload_n hC dX7_isWords_0 rfl ?_
  refine v_iconst hC dX7_isWords_1 (v := 0) (by decide) ?_
  obtain ⟨m_1, q_3, t_2, k_4⟩ := id k_0
  obtain ⟨v_6, v_8, v_9, v_11, v_13, v_14, e_5, b_7, b_10, b_12⟩ := hW.at m_1 t_2
  refine v_put hC fl_X7_22 m_1 e_5 rfl rfl (Nat.le_of_ble_eq_true rfl) (fs' := [.ref q_3, .int v_6, .int v_8, .int v_9, .int v_11, .int 0, .int v_14]) rfl dX7_isWords_2 (fun f_15 hf_16 hk_17 => ?_)
  have hW_18 := hW.up hf_16 hk_17 t_2 ⟨v_6, v_8, v_9, v_11, 0, v_14, rfl, (by first | omega | (simp only [Int32.lt_iff_toInt_lt, Int32.le_iff_toInt_le, Int32.reduceToInt, ← Int32.toInt_inj, true_and, and_true, or_true, true_or, false_or, or_false, false_and, and_false, not_true_eq_false, not_false_eq_true] <;> omega)), (by first | omega | (simp only [Int32.lt_iff_toInt_lt, Int32.le_iff_toInt_le, Int32.reduceToInt, ← Int32.toInt_inj, true_and, and_true, or_true, true_or, false_or, or_false, false_and, and_false, not_true_eq_false, not_false_eq_true] <;> omega)), (by first | omega | (simp only [Int32.lt_iff_toInt_lt, Int32.le_iff_toInt_le, Int32.reduceToInt, ← Int32.toInt_inj, true_and, and_true, or_true, true_or, false_or, or_false, false_and, and_false, not_true_eq_false, not_false_eq_true] <;> omega))⟩
  have fr_19 := FR.w hk_17 e_5 (k := 7) rfl
  refine v_aload_n hC dX7_isWords_5 rfl ?_
  refine v_iconst hC dX7_isWords_6 (v := (-1)) (by decide) ?_
  refine v_put hC fl_X7_15 m_1 hf_16 rfl rfl (Nat.le_of_ble_eq_true rfl) (fs' := [.ref q_3, .int v_6, .int v_8, .int v_9, .int v_11, .int 0, .int (-1)]) rfl dX7_isWords_7 (fun f_20 hf_21 hk_22 => ?_)
  have hW_23 := hW_18.up hf_21 hk_22 t_2 ⟨v_6, v_8, v_9, v_11, 0, (-1), rfl, (by first | omega | (simp only [Int32.lt_iff_toInt_lt, Int32.le_iff_toInt_le, Int32.reduceToInt, ← Int32.toInt_inj, true_and, and_true, or_true, true_or, false_or, or_false, false_and, and_false, not_true_eq_false, not_false_eq_true] <;> omega)), (by first | omega | (simp only [Int32.lt_iff_toInt_lt, Int32.le_iff_toInt_le, Int32.reduceToInt, ← Int32.toInt_inj, true_and, and_true, or_true, true_or, false_or, or_false, false_and, and_false, not_true_eq_false, not_false_eq_true] <;> omega)), (by first | omega | (simp only [Int32.lt_iff_toInt_lt, Int32.le_iff_toInt_le, Int32.reduceToInt, ← Int32.toInt_inj, true_and, and_true, or_true, true_or, false_or, or_false, false_and, and_false, not_true_eq_false, not_false_eq_true] <;> omega))⟩
  have fr_24 := FR.w hk_22 hf_16 (k := 7) rfl
  refine v_aload_n hC dX7_isWords_10 rfl ?_
  refine v_iconst hC dX7_isWords_11 (v := 0) (by decide) ?_
  refine v_put hC fl_X7_38 m_1 hf_21 rfl rfl (Nat.le_of_ble_eq_true rfl) (fs' := [.ref q_3, .int v_6, .int v_8, .int 0, .int v_11, .int 0, .int (-1)]) rfl dX7_isWords_12 (fun f_25 hf_26 hk_27 => ?_)
  have hW_28 := hW_23.up hf_26 hk_27 t_2 ⟨v_6, v_8, 0, v_11, 0, (-1), rfl, (by first | omega | (simp only [Int32.lt_iff_toInt_lt, Int32.le_iff_toInt_le, Int32.reduceToInt, ← Int32.toInt_inj, true_and, and_true, or_true, true_or, false_or, or_false, false_and, and_false, not_true_eq_false, not_false_eq_true] <;> omega)), (by decide), (by first | omega | (simp only [Int32.lt_iff_toInt_lt, Int32.le_iff_toInt_le, Int32.reduceToInt, ← Int32.toInt_inj, true_and, and_true, or_true, true_or, false_or, or_false, false_and, and_false, not_true_eq_false, not_false_eq_true] <;> omega))⟩
  have fr_29 := FR.w hk_27 hf_21 (k := 7) rfl
  have lp_454 : ∀ (n_455 : Nat) (f_451 : Nat → va_E) (hW_452 : WT T L f_451) (hF_453 : FR [7] f_25 f_451)  (hm_457 : 600 - fld (f_451 a_0) 3 < (n_455 : Int)), V z E 1 0 0 L f_451 15 [(0, .ref a_0)] [] := by
    intro n_455
    induction n_455 with
    | zero =>
      intro f_451 hW_452 hF_453 hm_457
      obtain ⟨v_459, v_461, v_462, v_464, v_466, v_467, e_458, b_460, b_463, b_465⟩ := hW_452.at m_1 t_2
      have h_468 : fld (f_451 a_0) 3 = (v_462 : Int32).toInt := by rw [e_458]; rfl
      rw [h_468] at hm_457
      exfalso; omega
    | succ n_455 ih_456 =>
      intro f_451 hW_452 hF_453 hm_457
      obtain ⟨v_459, v_461, v_462, v_464, v_466, v_467, e_458, b_460, b_463, b_465⟩ := hW_452.at m_1 t_2
      have h_468 : fld (f_451 a_0) 3 = (v_462 : Int32).toInt := by rw [e_458]; rfl
      rw [h_468] at hm_457
      refine v_aload_n hC dX7_isWords_15 rfl ?_
      refine v_get hC fl_X7_38 m_1 e_458 rfl dX7_isWords_16 ?_
      refine v_aload_n hC dX7_isWords_19 rfl ?_
      refine v_get hC fl_X7_19 m_1 e_458 rfl dX7_isWords_20 ?_
      have jn_512 : V z E 1 0 0 L f_451 67 [(0, .ref a_0)] [] := by
        refine v_aload_n hC dX7_isWords_67 rfl ?_
        refine v_get hC fl_X7_38 m_1 e_458 rfl dX7_isWords_68 ?_
        refine v_aload_n hC dX7_isWords_71 rfl ?_
        refine v_get hC fl_X7_19 m_1 e_458 rfl dX7_isWords_72 ?_
        refine v_icmp_lt hC dX7_isWords_75 (tgt := 85) (by decide) (fun h_513 => ?_) (fun h_513 => ?_)
        · simp only [Int32.lt_iff_toInt_lt, Int32.le_iff_toInt_le, Int32.reduceToInt, ← Int32.toInt_inj] at h_513
          refine v_aload_n hC dX7_isWords_85 rfl ?_
          refine v_iconst hC dX7_isWords_86 (v := 1) (by decide) ?_
          refine v_vv hC (rest := []) m_1 e_458 rfl mi_X7_complain ms_X7_complain (p_X7_complain hW_452 k_0) mx_X7_complain ml_X7_81 (by decide) rfl (cells1 := 0) (slots1 := 0) (by decide) (by decide) (Nat.le_of_ble_eq_true rfl) (Nat.le_of_ble_eq_true rfl) rfl (Nat.le_of_ble_eq_true rfl) dX7_isWords_87 (fun L_515 f_516 h_517 => ?_)
          obtain ⟨rfl, hW_518, hF_519⟩ := h_517
          refine v_aload_n hC dX7_isWords_90 rfl ?_
          obtain ⟨v_521, v_523, v_524, v_526, v_528, v_529, e_520, b_522, b_525, b_527⟩ := hW_518.at m_1 t_2
          refine v_vi hC (rest := []) m_1 e_520 rfl mi_X7_isFine ms_X7_isFine (p_X7_isFine hW_518 k_0) mx_X7_isFine ml_X7_31 (by decide) rfl (cells1 := 0) (slots1 := 0) (by decide) (by decide) (Nat.le_of_ble_eq_true rfl) (Nat.le_of_ble_eq_true rfl) rfl (Nat.le_of_ble_eq_true rfl) dX7_isWords_91 (fun r_530 L_531 f_532 h_533 => ?_)
          obtain ⟨rfl, rfl, b_534⟩ := h_533
          exact hR _ _ _ _ _ _ _ dX7_isWords_94 (nar01 (by first | omega | (simp only [Int32.lt_iff_toInt_lt, Int32.le_iff_toInt_le, Int32.reduceToInt, ← Int32.toInt_inj, true_and, and_true, or_true, true_or, false_or, or_false, false_and, and_false, not_true_eq_false, not_false_eq_true] <;> omega))) (Nat.le_of_ble_eq_true rfl) (Nat.le_of_ble_eq_true rfl) ⟨rfl, hW_518, (((((fr_19.tr fr_24).tr fr_29).tr hF_453).tr hF_519).mono rfl), (by first | omega | (simp only [Int32.lt_iff_toInt_lt, Int32.le_iff_toInt_le, Int32.reduceToInt, ← Int32.toInt_inj, true_and, and_true, or_true, true_or, false_or, or_false, false_and, and_false, not_true_eq_false, not_false_eq_true] <;> omega))⟩
        · simp only [Int32.lt_iff_toInt_lt, Int32.le_iff_toInt_le, Int32.reduceToInt, ← Int32.toInt_inj] at h_513
          refine v_aload_n hC dX7_isWords_78 rfl ?_
          refine v_get hC fl_X7_19 m_1 e_458 rfl dX7_isWords_79 ?_
          refine v_if_ne hC dX7_isWords_82 (tgt := 90) (by decide) (fun h_537 => ?_) (fun h_537 => ?_)
          · simp only [Int32.lt_iff_toInt_lt, Int32.le_iff_toInt_le, Int32.reduceToInt, ← Int32.toInt_inj] at h_537
            refine v_aload_n hC dX7_isWords_90 rfl ?_
            refine v_vi hC (rest := []) m_1 e_458 rfl mi_X7_isFine ms_X7_isFine (p_X7_isFine hW_452 k_0) mx_X7_isFine ml_X7_31 (by decide) rfl (cells1 := 0) (slots1 := 0) (by decide) (by decide) (Nat.le_of_ble_eq_true rfl) (Nat.le_of_ble_eq_true rfl) rfl (Nat.le_of_ble_eq_true rfl) dX7_isWords_91 (fun r_538 L_539 f_540 h_541 => ?_)
            obtain ⟨rfl, rfl, b_542⟩ := h_541
            exact hR _ _ _ _ _ _ _ dX7_isWords_94 (nar01 (by first | omega | (simp only [Int32.lt_iff_toInt_lt, Int32.le_iff_toInt_le, Int32.reduceToInt, ← Int32.toInt_inj, true_and, and_true, or_true, true_or, false_or, or_false, false_and, and_false, not_true_eq_false, not_false_eq_true] <;> omega))) (Nat.le_of_ble_eq_true rfl) (Nat.le_of_ble_eq_true rfl) ⟨rfl, hW_452, ((((fr_19.tr fr_24).tr fr_29).tr hF_453).mono rfl), (by first | omega | (simp only [Int32.lt_iff_toInt_lt, Int32.le_iff_toInt_le, Int32.reduceToInt, ← Int32.toInt_inj, true_and, and_true, or_true, true_or, false_or, or_false, false_and, and_false, not_true_eq_false, not_false_eq_true] <;> omega))⟩
          · simp only [Int32.lt_iff_toInt_lt, Int32.le_iff_toInt_le, Int32.reduceToInt, ← Int32.toInt_inj] at h_537
            refine v_aload_n hC dX7_isWords_85 rfl ?_
            refine v_iconst hC dX7_isWords_86 (v := 1) (by decide) ?_
            refine v_vv hC (rest := []) m_1 e_458 rfl mi_X7_complain ms_X7_complain (p_X7_complain hW_452 k_0) mx_X7_complain ml_X7_81 (by decide) rfl (cells1 := 0) (slots1 := 0) (by decide) (by decide) (Nat.le_of_ble_eq_true rfl) (Nat.le_of_ble_eq_true rfl) rfl (Nat.le_of_ble_eq_true rfl) dX7_isWords_87 (fun L_546 f_547 h_548 => ?_)
            obtain ⟨rfl, hW_549, hF_550⟩ := h_548
            refine v_aload_n hC dX7_isWords_90 rfl ?_
            obtain ⟨v_552, v_554, v_555, v_557, v_559, v_560, e_551, b_553, b_556, b_558⟩ := hW_549.at m_1 t_2
            refine v_vi hC (rest := []) m_1 e_551 rfl mi_X7_isFine ms_X7_isFine (p_X7_isFine hW_549 k_0) mx_X7_isFine ml_X7_31 (by decide) rfl (cells1 := 0) (slots1 := 0) (by decide) (by decide) (Nat.le_of_ble_eq_true rfl) (Nat.le_of_ble_eq_true rfl) rfl (Nat.le_of_ble_eq_true rfl) dX7_isWords_91 (fun r_561 L_562 f_563 h_564 => ?_)
            obtain ⟨rfl, rfl, b_565⟩ := h_564
            exact hR _ _ _ _ _ _ _ dX7_isWords_94 (nar01 (by first | omega | (simp only [Int32.lt_iff_toInt_lt, Int32.le_iff_toInt_le, Int32.reduceToInt, ← Int32.toInt_inj, true_and, and_true, or_true, true_or, false_or, or_false, false_and, and_false, not_true_eq_false, not_false_eq_true] <;> omega))) (Nat.le_of_ble_eq_true rfl) (Nat.le_of_ble_eq_true rfl) ⟨rfl, hW_549, (((((fr_19.tr fr_24).tr fr_29).tr hF_453).tr hF_550).mono rfl), (by first | omega | (simp only [Int32.lt_iff_toInt_lt, Int32.le_iff_toInt_le, Int32.reduceToInt, ← Int32.toInt_inj, true_and, and_true, or_true, true_or, false_or, or_false, false_and, and_false, not_true_eq_false, not_false_eq_true] <;> omega))⟩
      refine v_icmp_ge hC dX7_isWords_23 (tgt := 67) (by decide) (fun h_469 => ?_) (fun h_469 => ?_)
      · simp only [Int32.lt_iff_toInt_lt, Int32.le_iff_toInt_le, Int32.reduceToInt, ← Int32.toInt_inj] at h_469
        refine v_pick [0] rfl ?_
        exact jn_512 
      · simp only [Int32.lt_iff_toInt_lt, Int32.le_iff_toInt_le, Int32.reduceToInt, ← Int32.toInt_inj] at h_469
        refine v_aload_n hC dX7_isWords_26 rfl ?_
        refine v_aload_n hC dX7_isWords_27 rfl ?_
        refine v_get hC fl_X7_38 m_1 e_458 rfl dX7_isWords_28 ?_
        refine v_vi hC (rest := []) m_1 e_458 rfl mi_X7_byteAt ms_X7_byteAt (p_X7_byteAt hW_452 k_0) mx_X7_byteAt ml_X7_41 (by decide) rfl (cells1 := 0) (slots1 := 0) (by decide) (by decide) (Nat.le_of_ble_eq_true rfl) (Nat.le_of_ble_eq_true rfl) rfl (Nat.le_of_ble_eq_true rfl) dX7_isWords_31 (fun r_568 L_569 f_570 h_571 => ?_)
        obtain ⟨rfl, rfl, h_572⟩ := h_571
        refine v_bipush hC dX7_isWords_34 (v := 32) (by decide) ?_
        refine v_icmp_eq hC dX7_isWords_36 (tgt := 54) (by decide) (fun h_575 => ?_) (fun h_575 => ?_)
        · simp only [Int32.lt_iff_toInt_lt, Int32.le_iff_toInt_le, Int32.reduceToInt, ← Int32.toInt_inj] at h_575
          refine v_aload_n hC dX7_isWords_54 rfl ?_
          refine v_dup hC dX7_isWords_55 rfl ?_
          refine v_get hC fl_X7_38 m_1 e_458 rfl dX7_isWords_56 ?_
          refine v_iconst hC dX7_isWords_59 (v := 1) (by decide) ?_
          obtain ⟨v_576, h_577⟩ : ∃ v9 : Int32, v_462 + 1 = v9 := ⟨_, rfl⟩
          refine v_iadd hC dX7_isWords_60 h_577 ?_
          have h_578 := add_v h_577 (by first | omega | (simp only [Int32.lt_iff_toInt_lt, Int32.le_iff_toInt_le, Int32.reduceToInt, ← Int32.toInt_inj, true_and, and_true, or_true, true_or, false_or, or_false, false_and, and_false, not_true_eq_false, not_false_eq_true] <;> omega)) (by first | omega | (simp only [Int32.lt_iff_toInt_lt, Int32.le_iff_toInt_le, Int32.reduceToInt, ← Int32.toInt_inj, true_and, and_true, or_true, true_or, false_or, or_false, false_and, and_false, not_true_eq_false, not_false_eq_true] <;> omega))
          try simp only [Int32.reduceToInt] at h_578
          refine v_put hC fl_X7_38 m_1 e_458 rfl rfl (Nat.le_of_ble_eq_true rfl) (fs' := [.ref q_3, .int v_459, .int v_461, .int v_576, .int v_464, .int v_466, .int v_467]) rfl dX7_isWords_61 (fun f_579 hf_580 hk_581 => ?_)
          have hW_582 := hW_452.up hf_580 hk_581 t_2 ⟨v_459, v_461, v_576, v_464, v_466, v_467, rfl, (by first | omega | (simp only [Int32.lt_iff_toInt_lt, Int32.le_iff_toInt_le, Int32.reduceToInt, ← Int32.toInt_inj, true_and, and_true, or_true, true_or, false_or, or_false, false_and, and_false, not_true_eq_false, not_false_eq_true] <;> omega)), (by first | omega | (simp only [Int32.lt_iff_toInt_lt, Int32.le_iff_toInt_le, Int32.reduceToInt, ← Int32.toInt_inj, true_and, and_true, or_true, true_or, false_or, or_false, false_and, and_false, not_true_eq_false, not_false_eq_true] <;> omega)), (by first | omega | (simp only [Int32.lt_iff_toInt_lt, Int32.le_iff_toInt_le, Int32.reduceToInt, ← Int32.toInt_inj, true_and, and_true, or_true, true_or, false_or, or_false, false_and, and_false, not_true_eq_false, not_false_eq_true] <;> omega))⟩
          have fr_583 := FR.w hk_581 e_458 (k := 7) rfl
          refine v_goto hC dX7_isWords_64 (tgt := 15) (by decide) ?_
          refine v_pick [0] rfl ?_
          have h_584 : fld (f_579 a_0) 3 = (v_576 : Int32).toInt := by rw [hf_580]; rfl
          exact ih_456 f_579 hW_582 ((hF_453.tr fr_583).mono rfl) (by rw [h_584]; omega)
        · simp only [Int32.lt_iff_toInt_lt, Int32.le_iff_toInt_le, Int32.reduceToInt, ← Int32.toInt_inj] at h_575
          refine v_aload_n hC dX7_isWords_39 rfl ?_
          refine v_aload_n hC dX7_isWords_40 rfl ?_
          refine v_get hC fl_X7_38 m_1 e_458 rfl dX7_isWords_41 ?_
          refine v_vi hC (rest := []) m_1 e_458 rfl mi_X7_byteAt ms_X7_byteAt (p_X7_byteAt hW_452 k_0) mx_X7_byteAt ml_X7_41 (by decide) rfl (cells1 := 0) (slots1 := 0) (by decide) (by decide) (Nat.le_of_ble_eq_true rfl) (Nat.le_of_ble_eq_true rfl) rfl (Nat.le_of_ble_eq_true rfl) dX7_isWords_44 (fun r_585 L_586 f_587 h_588 => ?_)
          obtain ⟨rfl, rfl, h_589⟩ := h_588
          refine v_si hC (rest := []) mt_X7_kindOf (p_X7_kindOf hW_452) mx_X7_kindOf ml_X7_49 (by decide) rfl (cells1 := 0) (slots1 := 0) (by decide) (by decide) (Nat.le_of_ble_eq_true rfl) (Nat.le_of_ble_eq_true rfl) rfl (Nat.le_of_ble_eq_true rfl) dX7_isWords_47 (fun r_592 L_593 f_594 h_595 => ?_)
          obtain ⟨rfl, rfl, b_596, h_597⟩ := h_595
          refine v_iconst hC dX7_isWords_50 (v := 1) (by decide) ?_
          refine v_icmp_ne hC dX7_isWords_51 (tgt := 67) (by decide) (fun h_600 => ?_) (fun h_600 => ?_)
          · simp only [Int32.lt_iff_toInt_lt, Int32.le_iff_toInt_le, Int32.reduceToInt, ← Int32.toInt_inj] at h_600
            refine v_pick [0] rfl ?_
            exact jn_512 
          · simp only [Int32.lt_iff_toInt_lt, Int32.le_iff_toInt_le, Int32.reduceToInt, ← Int32.toInt_inj] at h_600
            refine v_aload_n hC dX7_isWords_54 rfl ?_
            refine v_dup hC dX7_isWords_55 rfl ?_
            refine v_get hC fl_X7_38 m_1 e_458 rfl dX7_isWords_56 ?_
            refine v_iconst hC dX7_isWords_59 (v := 1) (by decide) ?_
            obtain ⟨v_601, h_602⟩ : ∃ v9 : Int32, v_462 + 1 = v9 := ⟨_, rfl⟩
            refine v_iadd hC dX7_isWords_60 h_602 ?_
            have h_603 := add_v h_602 (by first | omega | (simp only [Int32.lt_iff_toInt_lt, Int32.le_iff_toInt_le, Int32.reduceToInt, ← Int32.toInt_inj, true_and, and_true, or_true, true_or, false_or, or_false, false_and, and_false, not_true_eq_false, not_false_eq_true] <;> omega)) (by first | omega | (simp only [Int32.lt_iff_toInt_lt, Int32.le_iff_toInt_le, Int32.reduceToInt, ← Int32.toInt_inj, true_and, and_true, or_true, true_or, false_or, or_false, false_and, and_false, not_true_eq_false, not_false_eq_true] <;> omega))
            try simp only [Int32.reduceToInt] at h_603
            refine v_put hC fl_X7_38 m_1 e_458 rfl rfl (Nat.le_of_ble_eq_true rfl) (fs' := [.ref q_3, .int v_459, .int v_461, .int v_601, .int v_464, .int v_466, .int v_467]) rfl dX7_isWords_61 (fun f_604 hf_605 hk_606 => ?_)
            have hW_607 := hW_452.up hf_605 hk_606 t_2 ⟨v_459, v_461, v_601, v_464, v_466, v_467, rfl, (by first | omega | (simp only [Int32.lt_iff_toInt_lt, Int32.le_iff_toInt_le, Int32.reduceToInt, ← Int32.toInt_inj, true_and, and_true, or_true, true_or, false_or, or_false, false_and, and_false, not_true_eq_false, not_false_eq_true] <;> omega)), (by first | omega | (simp only [Int32.lt_iff_toInt_lt, Int32.le_iff_toInt_le, Int32.reduceToInt, ← Int32.toInt_inj, true_and, and_true, or_true, true_or, false_or, or_false, false_and, and_false, not_true_eq_false, not_false_eq_true] <;> omega)), (by first | omega | (simp only [Int32.lt_iff_toInt_lt, Int32.le_iff_toInt_le, Int32.reduceToInt, ← Int32.toInt_inj, true_and, and_true, or_true, true_or, false_or, or_false, false_and, and_false, not_true_eq_false, not_false_eq_true] <;> omega))⟩
            have fr_608 := FR.w hk_606 e_458 (k := 7) rfl
            refine v_goto hC dX7_isWords_64 (tgt := 15) (by decide) ?_
            refine v_pick [0] rfl ?_
            have h_609 : fld (f_604 a_0) 3 = (v_601 : Int32).toInt := by rw [hf_605]; rfl
            exact ih_456 f_604 hW_607 ((hF_453.tr fr_608).mono rfl) (by rw [h_609]; omega)
  refine v_pick [0] rfl ?_
  have h_610 : fld (f_25 a_0) 3 = (0 : Int32).toInt := by rw [hf_26]; rfl
  exact lp_454 602 f_25 hW_28 FR.rf (by rw [h_610]; decide)
set_option maxRecDepth 100000 in
set_option maxHeartbeats 8000000 in
theorem p_X4_isThere {l : Launch} {E : Ez} {L : List Nat} {f : Nat → va_E} {T : Nat → va_E → Prop} {a_0 : Nat} (hW : WT T L f) (k_0 : isPat T L E a_0) : CI l yX4_isThere cX4_isThere 1 .boolean 0 0 0 E [.ref a_0] L f (fun r L1 f1 => L = L1 ∧ f = f1 ∧ (0 ≤ r.toInt ∧ r.toInt ≤ 1)) := by
  refine ci_of (by decide) (Nat.le_of_ble_eq_true rfl) (fun z hz hnm hC hR => ?_)
  have hC : Cx z E cX4_isThere RX4 1 0 0 0 := hC
  subst hz
  show V z E 1 0 0 L f 0 [(0, .ref a_0)] []
  refine v_aload_n hC dX4_isThere_0 rfl ?_
  obtain ⟨m_1, q_3, q_4, t_2, k_5, k_6⟩ := id k_0
  obtain ⟨v_8, v_10, v_12, e_7, b_9, b_11, b_13⟩ := hW.at m_1 t_2
  refine v_get hC fl_X4_18 m_1 e_7 rfl dX4_isThere_1 ?_
  refine v_if_le hC dX4_isThere_4 (tgt := 11) (by decide) (fun h_14 => ?_) (fun h_14 => ?_)
  · simp only [Int32.lt_iff_toInt_lt, Int32.le_iff_toInt_le, Int32.reduceToInt, ← Int32.toInt_inj] at h_14
    refine v_iconst hC dX4_isThere_11 (v := 0) (by decide) ?_
    exact hR _ _ _ _ _ _ _ dX4_isThere_12 rfl (Nat.le_of_ble_eq_true rfl) (Nat.le_of_ble_eq_true rfl) ⟨rfl, rfl, (by decide)⟩
  · simp only [Int32.lt_iff_toInt_lt, Int32.le_iff_toInt_le, Int32.reduceToInt, ← Int32.toInt_inj] at h_14
    refine v_iconst hC dX4_isThere_7 (v := 1) (by decide) ?_
    refine v_goto hC dX4_isThere_8 (tgt := 12) (by decide) ?_
    exact hR _ _ _ _ _ _ _ dX4_isThere_12 rfl (Nat.le_of_ble_eq_true rfl) (Nat.le_of_ble_eq_true rfl) ⟨rfl, rfl, (by decide)⟩
set_option maxRecDepth 100000 in
set_option maxHeartbeats 8000000 in
theorem p_X4_places {l : Launch} {E : Ez} {L : List Nat} {f : Nat → va_E} {T : Nat → va_E → Prop} {a_0 : Nat} (hW : WT T L f) (k_0 : isPat T L E a_0) : CI l yX4_places cX4_places 1 .int 0 0 0 E [.ref a_0] L f (fun r L1 f1 => L = L1 ∧ f = f1 ∧ (0 ≤ r.toInt ∧ r.toInt ≤ 256)) := by
  refine ci_of (by decide) (Nat.le_of_ble_eq_true rfl) (fun z hz hnm hC hR => ?_)
  have hC : Cx z E cX4_places RX4 1 0 0 0 := hC
  subst hz
  show V z E 1 0 0 L f 0 [(0, .ref a_0)] []
  refine v_aload_n hC dX4_places_0 rfl ?_
  obtain ⟨m_1, q_3, q_4, t_2, k_5, k_6⟩ := id k_0
  obtain ⟨v_8, v_10, v_12, e_7, b_9, b_11, b_13⟩ := hW.at m_1 t_2
  refine v_get hC fl_X4_22 m_1 e_7 rfl dX4_places_1 ?_
  refine v_aload_n hC dX4_places_4 rfl ?_
  refine v_get hC fl_X4_18 m_1 e_7 rfl dX4_places_5 ?_
  obtain ⟨v_14, h_15⟩ : ∃ v9 : Int32, v_8 * v_10 = v9 := ⟨_, rfl⟩
  refine v_imul hC dX4_places_8 h_15 ?_
  have h_16 := mul_v 16 16 256 h_15 (by first | omega | (simp only [Int32.lt_iff_toInt_lt, Int32.le_iff_toInt_le, Int32.reduceToInt, ← Int32.toInt_inj, true_and, and_true, or_true, true_or, false_or, or_false, false_and, and_false, not_true_eq_false, not_false_eq_true] <;> omega)) (by first | omega | (simp only [Int32.lt_iff_toInt_lt, Int32.le_iff_toInt_le, Int32.reduceToInt, ← Int32.toInt_inj, true_and, and_true, or_true, true_or, false_or, or_false, false_and, and_false, not_true_eq_false, not_false_eq_true] <;> omega)) (by decide) (by decide)
  exact hR _ _ _ _ _ _ _ dX4_places_9 rfl (Nat.le_of_ble_eq_true rfl) (Nat.le_of_ble_eq_true rfl) ⟨rfl, rfl, (by first | omega | (simp only [Int32.lt_iff_toInt_lt, Int32.le_iff_toInt_le, Int32.reduceToInt, ← Int32.toInt_inj, true_and, and_true, or_true, true_or, false_or, or_false, false_and, and_false, not_true_eq_false, not_false_eq_true] <;> omega))⟩
set_option maxRecDepth 100000 in
set_option maxHeartbeats 8000000 in
theorem p_X4_placeOf {l : Launch} {E : Ez} {L : List Nat} {f : Nat → va_E} {T : Nat → va_E → Prop} {a_0 : Nat} {a_1 : Int32} {a_2 : Int32} (hW : WT T L f) (k_0 : isPat T L E a_0) : CI l yX4_placeOf cX4_placeOf 3 .int 0 0 0 E [.ref a_0, .int a_1, .int a_2] L f (fun r L1 f1 => L = L1 ∧ f = f1 ∧ ((-1) ≤ r.toInt ∧ r.toInt ≤ 255) ∧ (¬ r.toInt = 0 ∨ (0 ≤ a_1.toInt ∧ a_1.toInt ≤ 15)) ∧ (¬ r.toInt = 0 ∨ (0 ≤ a_2.toInt ∧ a_2.toInt ≤ 15))) := by
  refine ci_of (by decide) (Nat.le_of_ble_eq_true rfl) (fun z hz hnm hC hR => ?_)
  have hC : Cx z E cX4_placeOf RX4 3 0 0 0 := hC
  subst hz
  show V z E 3 0 0 L f 0 [(0, .ref a_0), (1, .int a_1), (2, .int a_2)] []
  refine v_iload_n hC dX4_placeOf_0 rfl ?_
  refine v_if_lt hC dX4_placeOf_1 (tgt := 24) (by decide) (fun h_1 => ?_) (fun h_1 => ?_)
  · simp only [Int32.lt_iff_toInt_lt, Int32.le_iff_toInt_le, Int32.reduceToInt, ← Int32.toInt_inj] at h_1
    refine v_iconst hC dX4_placeOf_24 (v := (-1)) (by decide) ?_
    exact hR _ _ _ _ _ _ _ dX4_placeOf_25 rfl (Nat.le_of_ble_eq_true rfl) (Nat.le_of_ble_eq_true rfl) ⟨rfl, rfl, (by decide), (.inl (by decide)), (.inl (by decide))⟩
  · simp only [Int32.lt_iff_toInt_lt, Int32.le_iff_toInt_le, Int32.reduceToInt, ← Int32.toInt_inj] at h_1
    refine v_iload_n hC dX4_placeOf_4 rfl ?_
    refine v_aload_n hC dX4_placeOf_5 rfl ?_
    obtain ⟨m_2, q_4, q_5, t_3, k_6, k_7⟩ := id k_0
    obtain ⟨v_9, v_11, v_13, e_8, b_10, b_12, b_14⟩ := hW.at m_2 t_3
    refine v_get hC fl_X4_18 m_2 e_8 rfl dX4_placeOf_6 ?_
    refine v_icmp_ge hC dX4_placeOf_9 (tgt := 24) (by decide) (fun h_15 => ?_) (fun h_15 => ?_)
    · simp only [Int32.lt_iff_toInt_lt, Int32.le_iff_toInt_le, Int32.reduceToInt, ← Int32.toInt_inj] at h_15
      refine v_iconst hC dX4_placeOf_24 (v := (-1)) (by decide) ?_
      exact hR _ _ _ _ _ _ _ dX4_placeOf_25 rfl (Nat.le_of_ble_eq_true rfl) (Nat.le_of_ble_eq_true rfl) ⟨rfl, rfl, (by decide), (.inl (by decide)), (.inl (by decide))⟩
    · simp only [Int32.lt_iff_toInt_lt, Int32.le_iff_toInt_le, Int32.reduceToInt, ← Int32.toInt_inj] at h_15
      refine v_iload_n hC dX4_placeOf_12 rfl ?_
      refine v_if_lt hC dX4_placeOf_13 (tgt := 24) (by decide) (fun h_16 => ?_) (fun h_16 => ?_)
      · simp only [Int32.lt_iff_toInt_lt, Int32.le_iff_toInt_le, Int32.reduceToInt, ← Int32.toInt_inj] at h_16
        refine v_iconst hC dX4_placeOf_24 (v := (-1)) (by decide) ?_
        exact hR _ _ _ _ _ _ _ dX4_placeOf_25 rfl (Nat.le_of_ble_eq_true rfl) (Nat.le_of_ble_eq_true rfl) ⟨rfl, rfl, (by decide), (.inl (by decide)), (.inl (by decide))⟩
      · simp only [Int32.lt_iff_toInt_lt, Int32.le_iff_toInt_le, Int32.reduceToInt, ← Int32.toInt_inj] at h_16
        refine v_iload_n hC dX4_placeOf_16 rfl ?_
        refine v_aload_n hC dX4_placeOf_17 rfl ?_
        refine v_get hC fl_X4_22 m_2 e_8 rfl dX4_placeOf_18 ?_
        refine v_icmp_lt hC dX4_placeOf_21 (tgt := 26) (by decide) (fun h_17 => ?_) (fun h_17 => ?_)
        · simp only [Int32.lt_iff_toInt_lt, Int32.le_iff_toInt_le, Int32.reduceToInt, ← Int32.toInt_inj] at h_17
          refine v_iload_n hC dX4_placeOf_26 rfl ?_
          refine v_aload_n hC dX4_placeOf_27 rfl ?_
          refine v_get hC fl_X4_22 m_2 e_8 rfl dX4_placeOf_28 ?_
          obtain ⟨v_18, h_19⟩ : ∃ v9 : Int32, a_1 * v_9 = v9 := ⟨_, rfl⟩
          refine v_imul hC dX4_placeOf_31 h_19 ?_
          have h_20 := mul_v 15 16 240 h_19 (by first | omega | (simp only [Int32.lt_iff_toInt_lt, Int32.le_iff_toInt_le, Int32.reduceToInt, ← Int32.toInt_inj, true_and, and_true, or_true, true_or, false_or, or_false, false_and, and_false, not_true_eq_false, not_false_eq_true] <;> omega)) (by first | omega | (simp only [Int32.lt_iff_toInt_lt, Int32.le_iff_toInt_le, Int32.reduceToInt, ← Int32.toInt_inj, true_and, and_true, or_true, true_or, false_or, or_false, false_and, and_false, not_true_eq_false, not_false_eq_true] <;> omega)) (by decide) (by decide)
          refine v_iload_n hC dX4_placeOf_32 rfl ?_
          obtain ⟨v_21, h_22⟩ : ∃ v9 : Int32, v_18 + a_2 = v9 := ⟨_, rfl⟩
          refine v_iadd hC dX4_placeOf_33 h_22 ?_
          have h_23 := add_v h_22 (by first | omega | (simp only [Int32.lt_iff_toInt_lt, Int32.le_iff_toInt_le, Int32.reduceToInt, ← Int32.toInt_inj, true_and, and_true, or_true, true_or, false_or, or_false, false_and, and_false, not_true_eq_false, not_false_eq_true] <;> omega)) (by first | omega | (simp only [Int32.lt_iff_toInt_lt, Int32.le_iff_toInt_le, Int32.reduceToInt, ← Int32.toInt_inj, true_and, and_true, or_true, true_or, false_or, or_false, false_and, and_false, not_true_eq_false, not_false_eq_true] <;> omega))
          exact hR _ _ _ _ _ _ _ dX4_placeOf_34 rfl (Nat.le_of_ble_eq_true rfl) (Nat.le_of_ble_eq_true rfl) ⟨rfl, rfl, (by first | omega | (simp only [Int32.lt_iff_toInt_lt, Int32.le_iff_toInt_le, Int32.reduceToInt, ← Int32.toInt_inj, true_and, and_true, or_true, true_or, false_or, or_false, false_and, and_false, not_true_eq_false, not_false_eq_true] <;> omega)), (.inr (by first | omega | (simp only [Int32.lt_iff_toInt_lt, Int32.le_iff_toInt_le, Int32.reduceToInt, ← Int32.toInt_inj, true_and, and_true, or_true, true_or, false_or, or_false, false_and, and_false, not_true_eq_false, not_false_eq_true] <;> omega))), (.inr (by first | omega | (simp only [Int32.lt_iff_toInt_lt, Int32.le_iff_toInt_le, Int32.reduceToInt, ← Int32.toInt_inj, true_and, and_true, or_true, true_or, false_or, or_false, false_and, and_false, not_true_eq_false, not_false_eq_true] <;> omega)))⟩
        · simp only [Int32.lt_iff_toInt_lt, Int32.le_iff_toInt_le, Int32.reduceToInt, ← Int32.toInt_inj] at h_17
          refine v_iconst hC dX4_placeOf_24 (v := (-1)) (by decide) ?_
          exact hR _ _ _ _ _ _ _ dX4_placeOf_25 rfl (Nat.le_of_ble_eq_true rfl) (Nat.le_of_ble_eq_true rfl) ⟨rfl, rfl, (by decide), (.inl (by decide)), (.inl (by decide))⟩
set_option maxRecDepth 100000 in
set_option maxHeartbeats 8000000 in
theorem p_X4_rowOf {l : Launch} {E : Ez} {L : List Nat} {f : Nat → va_E} {T : Nat → va_E → Prop} {a_0 : Nat} {a_1 : Int32} (hW : WT T L f) (k_0 : isPat T L E a_0) : CI l yX4_rowOf cX4_rowOf 2 .int 0 0 0 E [.ref a_0, .int a_1] L f (fun r L1 f1 => L = L1 ∧ f = f1) := by
  refine ci_of (by decide) (Nat.le_of_ble_eq_true rfl) (fun z hz hnm hC hR => ?_)
  have hC : Cx z E cX4_rowOf RX4 2 0 0 0 := hC
  subst hz
  show V z E 2 0 0 L f 0 [(0, .ref a_0), (1, .int a_1)] []
  refine v_aload_n hC dX4_rowOf_0 rfl ?_
  obtain ⟨m_1, q_3, q_4, t_2, k_5, k_6⟩ := id k_0
  obtain ⟨v_8, v_10, v_12, e_7, b_9, b_11, b_13⟩ := hW.at m_1 t_2
  refine v_get hC fl_X4_22 m_1 e_7 rfl dX4_rowOf_1 ?_
  refine v_if_le hC dX4_rowOf_4 (tgt := 16) (by decide) (fun h_14 => ?_) (fun h_14 => ?_)
  · simp only [Int32.lt_iff_toInt_lt, Int32.le_iff_toInt_le, Int32.reduceToInt, ← Int32.toInt_inj] at h_14
    refine v_iconst hC dX4_rowOf_16 (v := 0) (by decide) ?_
    exact hR _ _ _ _ _ _ _ dX4_rowOf_17 rfl (Nat.le_of_ble_eq_true rfl) (Nat.le_of_ble_eq_true rfl) ⟨rfl, rfl⟩
  · simp only [Int32.lt_iff_toInt_lt, Int32.le_iff_toInt_le, Int32.reduceToInt, ← Int32.toInt_inj] at h_14
    refine v_iload_n hC dX4_rowOf_7 rfl ?_
    refine v_aload_n hC dX4_rowOf_8 rfl ?_
    refine v_get hC fl_X4_22 m_1 e_7 rfl dX4_rowOf_9 ?_
    obtain ⟨v_15, h_16⟩ : ∃ v9 : Int32, a_1 / v_8 = v9 := ⟨_, rfl⟩
    refine v_idiv hC dX4_rowOf_12 (by first | omega | (simp only [Int32.lt_iff_toInt_lt, Int32.le_iff_toInt_le, Int32.reduceToInt, ← Int32.toInt_inj, true_and, and_true, or_true, true_or, false_or, or_false, false_and, and_false, not_true_eq_false, not_false_eq_true] <;> omega)) h_16 ?_
    refine v_goto hC dX4_rowOf_13 (tgt := 17) (by decide) ?_
    exact hR _ _ _ _ _ _ _ dX4_rowOf_17 rfl (Nat.le_of_ble_eq_true rfl) (Nat.le_of_ble_eq_true rfl) ⟨rfl, rfl⟩
set_option maxRecDepth 100000 in
set_option maxHeartbeats 8000000 in
theorem p_X4_columnOf {l : Launch} {E : Ez} {L : List Nat} {f : Nat → va_E} {T : Nat → va_E → Prop} {a_0 : Nat} {a_1 : Int32} (hW : WT T L f) (k_0 : isPat T L E a_0) : CI l yX4_columnOf cX4_columnOf 2 .int 0 0 0 E [.ref a_0, .int a_1] L f (fun r L1 f1 => L = L1 ∧ f = f1) := by
  refine ci_of (by decide) (Nat.le_of_ble_eq_true rfl) (fun z hz hnm hC hR => ?_)
  have hC : Cx z E cX4_columnOf RX4 2 0 0 0 := hC
  subst hz
  show V z E 2 0 0 L f 0 [(0, .ref a_0), (1, .int a_1)] []
  refine v_aload_n hC dX4_columnOf_0 rfl ?_
  obtain ⟨m_1, q_3, q_4, t_2, k_5, k_6⟩ := id k_0
  obtain ⟨v_8, v_10, v_12, e_7, b_9, b_11, b_13⟩ := hW.at m_1 t_2
  refine v_get hC fl_X4_22 m_1 e_7 rfl dX4_columnOf_1 ?_
  refine v_if_le hC dX4_columnOf_4 (tgt := 16) (by decide) (fun h_14 => ?_) (fun h_14 => ?_)
  · simp only [Int32.lt_iff_toInt_lt, Int32.le_iff_toInt_le, Int32.reduceToInt, ← Int32.toInt_inj] at h_14
    refine v_iconst hC dX4_columnOf_16 (v := 0) (by decide) ?_
    exact hR _ _ _ _ _ _ _ dX4_columnOf_17 rfl (Nat.le_of_ble_eq_true rfl) (Nat.le_of_ble_eq_true rfl) ⟨rfl, rfl⟩
  · simp only [Int32.lt_iff_toInt_lt, Int32.le_iff_toInt_le, Int32.reduceToInt, ← Int32.toInt_inj] at h_14
    refine v_iload_n hC dX4_columnOf_7 rfl ?_
    refine v_aload_n hC dX4_columnOf_8 rfl ?_
    refine v_get hC fl_X4_22 m_1 e_7 rfl dX4_columnOf_9 ?_
    obtain ⟨v_15, h_16⟩ : ∃ v9 : Int32, a_1 - a_1 / v_8 * v_8 = v9 := ⟨_, rfl⟩
    refine v_irem hC dX4_columnOf_12 (by first | omega | (simp only [Int32.lt_iff_toInt_lt, Int32.le_iff_toInt_le, Int32.reduceToInt, ← Int32.toInt_inj, true_and, and_true, or_true, true_or, false_or, or_false, false_and, and_false, not_true_eq_false, not_false_eq_true] <;> omega)) h_16 ?_
    refine v_goto hC dX4_columnOf_13 (tgt := 17) (by decide) ?_
    exact hR _ _ _ _ _ _ _ dX4_columnOf_17 rfl (Nat.le_of_ble_eq_true rfl) (Nat.le_of_ble_eq_true rfl) ⟨rfl, rfl⟩
set_option maxRecDepth 100000 in
set_option maxHeartbeats 8000000 in
theorem p_X4_sortAt {l : Launch} {E : Ez} {L : List Nat} {f : Nat → va_E} {T : Nat → va_E → Prop} {a_0 : Nat} {a_1 : Int32} (hW : WT T L f) (k_0 : isPat T L E a_0) : CI l yX4_sortAt cX4_sortAt 2 .int 0 0 0 E [.ref a_0, .int a_1] L f (fun r L1 f1 => L = L1 ∧ f = f1 ∧ (¬ r.toInt = 0 ∨ (0 ≤ a_1.toInt ∧ a_1.toInt ≤ 255))) := by
  refine ci_of (by decide) (Nat.le_of_ble_eq_true rfl) (fun z hz hnm hC hR => ?_)
  have hC : Cx z E cX4_sortAt RX4 2 0 0 0 := hC
  subst hz
  show V z E 2 0 0 L f 0 [(0, .ref a_0), (1, .int a_1)] []
  refine v_iload_n hC dX4_sortAt_0 rfl ?_
  refine v_if_lt hC dX4_sortAt_1 (tgt := 33) (by decide) (fun h_1 => ?_) (fun h_1 => ?_)
  · simp only [Int32.lt_iff_toInt_lt, Int32.le_iff_toInt_le, Int32.reduceToInt, ← Int32.toInt_inj] at h_1
    refine v_iconst hC dX4_sortAt_33 (v := (-1)) (by decide) ?_
    exact hR _ _ _ _ _ _ _ dX4_sortAt_34 rfl (Nat.le_of_ble_eq_true rfl) (Nat.le_of_ble_eq_true rfl) ⟨rfl, rfl, (.inl (by decide))⟩
  · simp only [Int32.lt_iff_toInt_lt, Int32.le_iff_toInt_le, Int32.reduceToInt, ← Int32.toInt_inj] at h_1
    refine v_iload_n hC dX4_sortAt_4 rfl ?_
    refine v_aload_n hC dX4_sortAt_5 rfl ?_
    obtain ⟨m_2, q_4, q_5, t_3, k_6, k_7⟩ := id k_0
    obtain ⟨v_9, v_11, v_13, e_8, b_10, b_12, b_14⟩ := hW.at m_2 t_3
    refine v_get hC fl_X4_22 m_2 e_8 rfl dX4_sortAt_6 ?_
    refine v_aload_n hC dX4_sortAt_9 rfl ?_
    refine v_get hC fl_X4_18 m_2 e_8 rfl dX4_sortAt_10 ?_
    obtain ⟨v_15, h_16⟩ : ∃ v9 : Int32, v_9 * v_11 = v9 := ⟨_, rfl⟩
    refine v_imul hC dX4_sortAt_13 h_16 ?_
    have h_17 := mul_v 16 16 256 h_16 (by first | omega | (simp only [Int32.lt_iff_toInt_lt, Int32.le_iff_toInt_le, Int32.reduceToInt, ← Int32.toInt_inj, true_and, and_true, or_true, true_or, false_or, or_false, false_and, and_false, not_true_eq_false, not_false_eq_true] <;> omega)) (by first | omega | (simp only [Int32.lt_iff_toInt_lt, Int32.le_iff_toInt_le, Int32.reduceToInt, ← Int32.toInt_inj, true_and, and_true, or_true, true_or, false_or, or_false, false_and, and_false, not_true_eq_false, not_false_eq_true] <;> omega)) (by decide) (by decide)
    refine v_icmp_ge hC dX4_sortAt_14 (tgt := 33) (by decide) (fun h_18 => ?_) (fun h_18 => ?_)
    · simp only [Int32.lt_iff_toInt_lt, Int32.le_iff_toInt_le, Int32.reduceToInt, ← Int32.toInt_inj] at h_18
      refine v_iconst hC dX4_sortAt_33 (v := (-1)) (by decide) ?_
      exact hR _ _ _ _ _ _ _ dX4_sortAt_34 rfl (Nat.le_of_ble_eq_true rfl) (Nat.le_of_ble_eq_true rfl) ⟨rfl, rfl, (.inl (by decide))⟩
    · simp only [Int32.lt_iff_toInt_lt, Int32.le_iff_toInt_le, Int32.reduceToInt, ← Int32.toInt_inj] at h_18
      refine v_iload_n hC dX4_sortAt_17 rfl ?_
      refine v_sipush hC dX4_sortAt_18 (v := 256) (by decide) ?_
      refine v_icmp_ge_f hC dX4_sortAt_21 (tgt := 33) (by decide) (by first | omega | (simp only [Int32.lt_iff_toInt_lt, Int32.le_iff_toInt_le, Int32.reduceToInt, ← Int32.toInt_inj, true_and, and_true, or_true, true_or, false_or, or_false, false_and, and_false, not_true_eq_false, not_false_eq_true] <;> omega)) ?_
      refine v_aload_n hC dX4_sortAt_24 rfl ?_
      refine v_get hC fl_X4_9 m_2 e_8 rfl dX4_sortAt_25 ?_
      refine v_iload_n hC dX4_sortAt_28 rfl ?_
      obtain ⟨m_19, t_20⟩ := id k_6
      obtain ⟨g_22, e_21⟩ := hW.at m_19 t_20
      obtain ⟨v_23, h_24⟩ : ∃ v9 : Int32, g_22 (a_1 : Int32).toNatClampNeg = v9 := ⟨_, rfl⟩
      refine v_iald hC m_19 e_21 (vp_in_iff.mpr (by first | omega | (simp only [Int32.lt_iff_toInt_lt, Int32.le_iff_toInt_le, Int32.reduceToInt, ← Int32.toInt_inj, true_and, and_true, or_true, true_or, false_or, or_false, false_and, and_false, not_true_eq_false, not_false_eq_true] <;> omega))) h_24 dX4_sortAt_29 ?_
      refine v_goto hC dX4_sortAt_30 (tgt := 34) (by decide) ?_
      exact hR _ _ _ _ _ _ _ dX4_sortAt_34 rfl (Nat.le_of_ble_eq_true rfl) (Nat.le_of_ble_eq_true rfl) ⟨rfl, rfl, (.inr (by first | omega | (simp only [Int32.lt_iff_toInt_lt, Int32.le_iff_toInt_le, Int32.reduceToInt, ← Int32.toInt_inj, true_and, and_true, or_true, true_or, false_or, or_false, false_and, and_false, not_true_eq_false, not_false_eq_true] <;> omega)))⟩
set_option maxRecDepth 100000 in
set_option maxHeartbeats 8000000 in
theorem p_X4_freePlace {l : Launch} {E : Ez} {L : List Nat} {f : Nat → va_E} {T : Nat → va_E → Prop} {a_0 : Nat} {a_1 : Int32} (hW : WT T L f) (k_0 : isPat T L E a_0) : CI l yX4_freePlace cX4_freePlace 2 .int 0 0 0 E [.ref a_0, .int a_1] L f (fun r L1 f1 => L = L1 ∧ f = f1 ∧ (¬ r.toInt = 0 ∨ (0 ≤ a_1.toInt ∧ a_1.toInt ≤ 255))) := by
  refine ci_of (by decide) (Nat.le_of_ble_eq_true rfl) (fun z hz hnm hC hR => ?_)
  have hC : Cx z E cX4_freePlace RX4 2 0 0 0 := hC
  subst hz
  show V z E 2 0 0 L f 0 [(0, .ref a_0), (1, .int a_1)] []
  refine v_iload_n hC dX4_freePlace_0 rfl ?_
  refine v_if_lt hC dX4_freePlace_1 (tgt := 28) (by decide) (fun h_1 => ?_) (fun h_1 => ?_)
  · simp only [Int32.lt_iff_toInt_lt, Int32.le_iff_toInt_le, Int32.reduceToInt, ← Int32.toInt_inj] at h_1
    refine v_iconst hC dX4_freePlace_28 (v := (-1)) (by decide) ?_
    exact hR _ _ _ _ _ _ _ dX4_freePlace_29 rfl (Nat.le_of_ble_eq_true rfl) (Nat.le_of_ble_eq_true rfl) ⟨rfl, rfl, (.inl (by decide))⟩
  · simp only [Int32.lt_iff_toInt_lt, Int32.le_iff_toInt_le, Int32.reduceToInt, ← Int32.toInt_inj] at h_1
    refine v_iload_n hC dX4_freePlace_4 rfl ?_
    refine v_aload_n hC dX4_freePlace_5 rfl ?_
    obtain ⟨m_2, q_4, q_5, t_3, k_6, k_7⟩ := id k_0
    obtain ⟨v_9, v_11, v_13, e_8, b_10, b_12, b_14⟩ := hW.at m_2 t_3
    refine v_get hC fl_X4_25 m_2 e_8 rfl dX4_freePlace_6 ?_
    refine v_icmp_ge hC dX4_freePlace_9 (tgt := 28) (by decide) (fun h_15 => ?_) (fun h_15 => ?_)
    · simp only [Int32.lt_iff_toInt_lt, Int32.le_iff_toInt_le, Int32.reduceToInt, ← Int32.toInt_inj] at h_15
      refine v_iconst hC dX4_freePlace_28 (v := (-1)) (by decide) ?_
      exact hR _ _ _ _ _ _ _ dX4_freePlace_29 rfl (Nat.le_of_ble_eq_true rfl) (Nat.le_of_ble_eq_true rfl) ⟨rfl, rfl, (.inl (by decide))⟩
    · simp only [Int32.lt_iff_toInt_lt, Int32.le_iff_toInt_le, Int32.reduceToInt, ← Int32.toInt_inj] at h_15
      refine v_iload_n hC dX4_freePlace_12 rfl ?_
      refine v_sipush hC dX4_freePlace_13 (v := 256) (by decide) ?_
      refine v_icmp_ge_f hC dX4_freePlace_16 (tgt := 28) (by decide) (by first | omega | (simp only [Int32.lt_iff_toInt_lt, Int32.le_iff_toInt_le, Int32.reduceToInt, ← Int32.toInt_inj, true_and, and_true, or_true, true_or, false_or, or_false, false_and, and_false, not_true_eq_false, not_false_eq_true] <;> omega)) ?_
      refine v_aload_n hC dX4_freePlace_19 rfl ?_
      refine v_get hC fl_X4_15 m_2 e_8 rfl dX4_freePlace_20 ?_
      refine v_iload_n hC dX4_freePlace_23 rfl ?_
      obtain ⟨m_16, t_17⟩ := id k_7
      obtain ⟨g_19, e_18⟩ := hW.at m_16 t_17
      obtain ⟨v_20, h_21⟩ : ∃ v9 : Int32, g_19 (a_1 : Int32).toNatClampNeg = v9 := ⟨_, rfl⟩
      refine v_iald hC m_16 e_18 (vp_in_iff.mpr (by first | omega | (simp only [Int32.lt_iff_toInt_lt, Int32.le_iff_toInt_le, Int32.reduceToInt, ← Int32.toInt_inj, true_and, and_true, or_true, true_or, false_or, or_false, false_and, and_false, not_true_eq_false, not_false_eq_true] <;> omega))) h_21 dX4_freePlace_24 ?_
      refine v_goto hC dX4_freePlace_25 (tgt := 29) (by decide) ?_
      exact hR _ _ _ _ _ _ _ dX4_freePlace_29 rfl (Nat.le_of_ble_eq_true rfl) (Nat.le_of_ble_eq_true rfl) ⟨rfl, rfl, (.inr (by first | omega | (simp only [Int32.lt_iff_toInt_lt, Int32.le_iff_toInt_le, Int32.reduceToInt, ← Int32.toInt_inj, true_and, and_true, or_true, true_or, false_or, or_false, false_and, and_false, not_true_eq_false, not_false_eq_true] <;> omega)))⟩
set_option maxRecDepth 100000 in
set_option maxHeartbeats 8000000 in
theorem p_X4_notPlainAt {l : Launch} {E : Ez} {L : List Nat} {f : Nat → va_E} {T : Nat → va_E → Prop} {a_0 : Nat} {a_1 : Int32} (hW : WT T L f) (k_0 : isPat T L E a_0) : CI l yX4_notPlainAt cX4_notPlainAt 2 .int 1 0 0 E [.ref a_0, .int a_1] L f (fun r L1 f1 => L = L1 ∧ f = f1 ∧ (0 ≤ r.toInt ∧ r.toInt ≤ 3)) := by
  refine ci_of (by decide) (Nat.le_of_ble_eq_true rfl) (fun z hz hnm hC hR => ?_)
  have hC : Cx z E cX4_notPlainAt RX4 2 1 0 0 := hC
  subst hz
  show V z E 2 0 0 L f 0 [(0, .ref a_0), (1, .int a_1)] []
  refine v_aload_n hC dX4_notPlainAt_0 rfl ?_
  refine v_iload_n hC dX4_notPlainAt_1 rfl ?_
  obtain ⟨m_1, q_3, q_4, t_2, k_5, k_6⟩ := id k_0
  obtain ⟨v_8, v_10, v_12, e_7, b_9, b_11, b_13⟩ := hW.at m_1 t_2
  refine v_vi hC (rest := []) m_1 e_7 rfl mi_X4_sortAt ms_X4_sortAt (p_X4_sortAt hW k_0) mx_X4_sortAt ml_X4_28 (by decide) rfl (cells1 := 0) (slots1 := 0) (by decide) (by decide) (Nat.le_of_ble_eq_true rfl) (Nat.le_of_ble_eq_true rfl) rfl (Nat.le_of_ble_eq_true rfl) dX4_notPlainAt_2 (fun r_14 L_15 f_16 h_17 => ?_)
  obtain ⟨rfl, rfl, h_18⟩ := h_17
  by_cases h_21 : r_14 = 2
  · refine v_tableIn hC dX4_notPlainAt_5 (off := 27) (tgt := 32) (by rw [h_21]; decide) (by rw [h_21]; decide) (by rw [h_21]; rfl) (by decide) ?_
    simp only [Int32.lt_iff_toInt_lt, Int32.le_iff_toInt_le, Int32.reduceToInt, ← Int32.toInt_inj] at h_21
    refine v_iconst hC dX4_notPlainAt_32 (v := 1) (by decide) ?_
    exact hR _ _ _ _ _ _ _ dX4_notPlainAt_33 rfl (Nat.le_of_ble_eq_true rfl) (Nat.le_of_ble_eq_true rfl) ⟨rfl, rfl, (by decide)⟩
  by_cases h_22 : r_14 = 3
  · refine v_tableIn hC dX4_notPlainAt_5 (off := 29) (tgt := 34) (by rw [h_22]; decide) (by rw [h_22]; decide) (by rw [h_22]; rfl) (by decide) ?_
    simp only [Int32.lt_iff_toInt_lt, Int32.le_iff_toInt_le, Int32.reduceToInt, ← Int32.toInt_inj] at h_22
    refine v_iconst hC dX4_notPlainAt_34 (v := 2) (by decide) ?_
    exact hR _ _ _ _ _ _ _ dX4_notPlainAt_35 rfl (Nat.le_of_ble_eq_true rfl) (Nat.le_of_ble_eq_true rfl) ⟨rfl, rfl, (by decide)⟩
  by_cases h_23 : r_14 = 4
  · refine v_tableIn hC dX4_notPlainAt_5 (off := 31) (tgt := 36) (by rw [h_23]; decide) (by rw [h_23]; decide) (by rw [h_23]; rfl) (by decide) ?_
    simp only [Int32.lt_iff_toInt_lt, Int32.le_iff_toInt_le, Int32.reduceToInt, ← Int32.toInt_inj] at h_23
    refine v_iconst hC dX4_notPlainAt_36 (v := 3) (by decide) ?_
    exact hR _ _ _ _ _ _ _ dX4_notPlainAt_37 rfl (Nat.le_of_ble_eq_true rfl) (Nat.le_of_ble_eq_true rfl) ⟨rfl, rfl, (by decide)⟩
  simp only [Int32.lt_iff_toInt_lt, Int32.le_iff_toInt_le, Int32.reduceToInt, ← Int32.toInt_inj] at h_21 h_22 h_23
  refine v_tableOut hC dX4_notPlainAt_5 (tgt := 38) (by omega) (by decide) ?_
  refine v_iconst hC dX4_notPlainAt_38 (v := 0) (by decide) ?_
  exact hR _ _ _ _ _ _ _ dX4_notPlainAt_39 rfl (Nat.le_of_ble_eq_true rfl) (Nat.le_of_ble_eq_true rfl) ⟨rfl, rfl, (by decide)⟩
set_option maxRecDepth 100000 in
set_option maxHeartbeats 8000000 in
theorem p_X4_turnedOver {l : Launch} {E : Ez} {L : List Nat} {f : Nat → va_E} {T : Nat → va_E → Prop} {a_0 : Nat} {a_1 : Int32} {a_2 : Int32} (hW : WT T L f) (k_0 : isPat T L E a_0) : CI l yX4_turnedOver cX4_turnedOver 3 .int 2 0 0 E [.ref a_0, .int a_1, .int a_2] L f (fun r L1 f1 => L = L1 ∧ f = f1 ∧ (0 ≤ r.toInt ∧ r.toInt ≤ 3) ∧ (r.toInt = 0 ∨ (0 ≤ a_2.toInt ∧ a_2.toInt ≤ 0))) := by
  refine ci_of (by decide) (Nat.le_of_ble_eq_true rfl) (fun z hz hnm hC hR => ?_)
  have hC : Cx z E cX4_turnedOver RX4 3 2 0 0 := hC
  subst hz
  show V z E 3 0 0 L f 0 [(0, .ref a_0), (1, .int a_1), (2, .int a_2)] []
  refine v_iload_n hC dX4_turnedOver_0 rfl ?_
  refine v_if_ne hC dX4_turnedOver_1 (tgt := 12) (by decide) (fun h_1 => ?_) (fun h_1 => ?_)
  · simp only [Int32.lt_iff_toInt_lt, Int32.le_iff_toInt_le, Int32.reduceToInt, ← Int32.toInt_inj] at h_1
    refine v_iconst hC dX4_turnedOver_12 (v := 0) (by decide) ?_
    exact hR _ _ _ _ _ _ _ dX4_turnedOver_13 rfl (Nat.le_of_ble_eq_true rfl) (Nat.le_of_ble_eq_true rfl) ⟨rfl, rfl, (by decide), (.inl (by decide))⟩
  · simp only [Int32.lt_iff_toInt_lt, Int32.le_iff_toInt_le, Int32.reduceToInt, ← Int32.toInt_inj] at h_1
    refine v_aload_n hC dX4_turnedOver_4 rfl ?_
    refine v_iload_n hC dX4_turnedOver_5 rfl ?_
    obtain ⟨m_2, q_4, q_5, t_3, k_6, k_7⟩ := id k_0
    obtain ⟨v_9, v_11, v_13, e_8, b_10, b_12, b_14⟩ := hW.at m_2 t_3
    refine v_vi hC (rest := []) m_2 e_8 rfl mi_X4_notPlainAt ms_X4_notPlainAt (p_X4_notPlainAt hW k_0) mx_X4_notPlainAt ml_X4_32 (by decide) rfl (cells1 := 0) (slots1 := 0) (by decide) (by decide) (Nat.le_of_ble_eq_true rfl) (Nat.le_of_ble_eq_true rfl) rfl (Nat.le_of_ble_eq_true rfl) dX4_turnedOver_6 (fun r_15 L_16 f_17 h_18 => ?_)
    obtain ⟨rfl, rfl, b_19⟩ := h_18
    refine v_goto hC dX4_turnedOver_9 (tgt := 13) (by decide) ?_
    exact hR _ _ _ _ _ _ _ dX4_turnedOver_13 rfl (Nat.le_of_ble_eq_true rfl) (Nat.le_of_ble_eq_true rfl) ⟨rfl, rfl, (by first | omega | (simp only [Int32.lt_iff_toInt_lt, Int32.le_iff_toInt_le, Int32.reduceToInt, ← Int32.toInt_inj, true_and, and_true, or_true, true_or, false_or, or_false, false_and, and_false, not_true_eq_false, not_false_eq_true] <;> omega)), (.inr (by first | omega | (simp only [Int32.lt_iff_toInt_lt, Int32.le_iff_toInt_le, Int32.reduceToInt, ← Int32.toInt_inj, true_and, and_true, or_true, true_or, false_or, or_false, false_and, and_false, not_true_eq_false, not_false_eq_true] <;> omega)))⟩
set_option maxRecDepth 100000 in
set_option maxHeartbeats 8000000 in
theorem p_X4_knittedAs {l : Launch} {E : Ez} {L : List Nat} {f : Nat → va_E} {T : Nat → va_E → Prop} {a_0 : Nat} {a_1 : Int32} (hW : WT T L f) (k_0 : isPat T L E a_0) : CI l yX4_knittedAs cX4_knittedAs 4 .int 1 0 0 E [.ref a_0, .int a_1] L f (fun r L1 f1 => L = L1 ∧ f = f1 ∧ ((-1) ≤ r.toInt ∧ r.toInt ≤ 255)) := by
  refine ci_of (by decide) (Nat.le_of_ble_eq_true rfl) (fun z hz hnm hC hR => ?_)
  have hC : Cx z E cX4_knittedAs RX4 4 1 0 0 := hC
  subst hz
  show V z E 4 0 0 L f 0 [(0, .ref a_0), (1, .int a_1)] []
  refine v_aload_n hC dX4_knittedAs_0 rfl ?_
  refine v_iload_n hC dX4_knittedAs_1 rfl ?_
  obtain ⟨m_1, q_3, q_4, t_2, k_5, k_6⟩ := id k_0
  obtain ⟨v_8, v_10, v_12, e_7, b_9, b_11, b_13⟩ := hW.at m_1 t_2
  refine v_vi hC (rest := []) m_1 e_7 rfl mi_X4_rowOf ms_X4_rowOf (p_X4_rowOf hW k_0) mx_X4_rowOf ml_X4_35 (by decide) rfl (cells1 := 0) (slots1 := 0) (by decide) (by decide) (Nat.le_of_ble_eq_true rfl) (Nat.le_of_ble_eq_true rfl) rfl (Nat.le_of_ble_eq_true rfl) dX4_knittedAs_2 (fun r_14 L_15 f_16 h_17 => ?_)
  obtain ⟨rfl, rfl⟩ := h_17
  refine v_istore_n hC dX4_knittedAs_5 (by decide) (lv' := [(2, .int r_14), (0, .ref a_0), (1, .int a_1)]) rfl ?_
  refine v_aload_n hC dX4_knittedAs_6 rfl ?_
  refine v_iload_n hC dX4_knittedAs_7 rfl ?_
  refine v_vi hC (rest := []) m_1 e_7 rfl mi_X4_columnOf ms_X4_columnOf (p_X4_columnOf hW k_0) mx_X4_columnOf ml_X4_38 (by decide) rfl (cells1 := 0) (slots1 := 0) (by decide) (by decide) (Nat.le_of_ble_eq_true rfl) (Nat.le_of_ble_eq_true rfl) rfl (Nat.le_of_ble_eq_true rfl) dX4_knittedAs_8 (fun r_20 L_21 f_22 h_23 => ?_)
  obtain ⟨rfl, rfl⟩ := h_23
  refine v_istore_n hC dX4_knittedAs_11 (by decide) (lv' := [(3, .int r_20), (2, .int r_14), (0, .ref a_0), (1, .int a_1)]) rfl ?_
  refine v_aload_n hC dX4_knittedAs_12 rfl ?_
  refine v_iload_n hC dX4_knittedAs_13 rfl ?_
  refine v_iload_n hC dX4_knittedAs_14 rfl ?_
  refine v_iconst hC dX4_knittedAs_15 (v := 2) (by decide) ?_
  obtain ⟨v_26, h_27⟩ : ∃ v9 : Int32, r_14 - r_14 / 2 * 2 = v9 := ⟨_, rfl⟩
  refine v_irem hC dX4_knittedAs_16 (by decide) h_27 ?_
  refine v_if_ne hC dX4_knittedAs_17 (tgt := 24) (by decide) (fun h_29 => ?_) (fun h_29 => ?_)
  · simp only [Int32.lt_iff_toInt_lt, Int32.le_iff_toInt_le, Int32.reduceToInt, ← Int32.toInt_inj] at h_29
    refine v_aload_n hC dX4_knittedAs_24 rfl ?_
    refine v_get hC fl_X4_22 m_1 e_7 rfl dX4_knittedAs_25 ?_
    refine v_iconst hC dX4_knittedAs_28 (v := 1) (by decide) ?_
    obtain ⟨v_30, h_31⟩ : ∃ v9 : Int32, v_8 - 1 = v9 := ⟨_, rfl⟩
    refine v_isub hC dX4_knittedAs_29 h_31 ?_
    have h_32 := sub_v h_31 (by first | omega | (simp only [Int32.lt_iff_toInt_lt, Int32.le_iff_toInt_le, Int32.reduceToInt, ← Int32.toInt_inj, true_and, and_true, or_true, true_or, false_or, or_false, false_and, and_false, not_true_eq_false, not_false_eq_true] <;> omega)) (by first | omega | (simp only [Int32.lt_iff_toInt_lt, Int32.le_iff_toInt_le, Int32.reduceToInt, ← Int32.toInt_inj, true_and, and_true, or_true, true_or, false_or, or_false, false_and, and_false, not_true_eq_false, not_false_eq_true] <;> omega))
    try simp only [Int32.reduceToInt] at h_32
    refine v_iload_n hC dX4_knittedAs_30 rfl ?_
    obtain ⟨v_33, h_34⟩ : ∃ v9 : Int32, v_30 - r_20 = v9 := ⟨_, rfl⟩
    refine v_isub hC dX4_knittedAs_31 h_34 ?_
    refine v_vi hC (rest := []) m_1 e_7 rfl mi_X4_placeOf ms_X4_placeOf (p_X4_placeOf hW k_0) mx_X4_placeOf ml_X4_41 (by decide) rfl (cells1 := 0) (slots1 := 0) (by decide) (by decide) (Nat.le_of_ble_eq_true rfl) (Nat.le_of_ble_eq_true rfl) rfl (Nat.le_of_ble_eq_true rfl) dX4_knittedAs_32 (fun r_36 L_37 f_38 h_39 => ?_)
    obtain ⟨rfl, rfl, b_40, h_41, h_42⟩ := h_39
    exact hR _ _ _ _ _ _ _ dX4_knittedAs_35 rfl (Nat.le_of_ble_eq_true rfl) (Nat.le_of_ble_eq_true rfl) ⟨rfl, rfl, (by first | omega | (simp only [Int32.lt_iff_toInt_lt, Int32.le_iff_toInt_le, Int32.reduceToInt, ← Int32.toInt_inj, true_and, and_true, or_true, true_or, false_or, or_false, false_and, and_false, not_true_eq_false, not_false_eq_true] <;> omega))⟩
  · simp only [Int32.lt_iff_toInt_lt, Int32.le_iff_toInt_le, Int32.reduceToInt, ← Int32.toInt_inj] at h_29
    refine v_iload_n hC dX4_knittedAs_20 rfl ?_
    refine v_goto hC dX4_knittedAs_21 (tgt := 32) (by decide) ?_
    refine v_vi hC (rest := []) m_1 e_7 rfl mi_X4_placeOf ms_X4_placeOf (p_X4_placeOf hW k_0) mx_X4_placeOf ml_X4_41 (by decide) rfl (cells1 := 0) (slots1 := 0) (by decide) (by decide) (Nat.le_of_ble_eq_true rfl) (Nat.le_of_ble_eq_true rfl) rfl (Nat.le_of_ble_eq_true rfl) dX4_knittedAs_32 (fun r_45 L_46 f_47 h_48 => ?_)
    obtain ⟨rfl, rfl, b_49, h_50, h_51⟩ := h_48
    exact hR _ _ _ _ _ _ _ dX4_knittedAs_35 rfl (Nat.le_of_ble_eq_true rfl) (Nat.le_of_ble_eq_true rfl) ⟨rfl, rfl, (by first | omega | (simp only [Int32.lt_iff_toInt_lt, Int32.le_iff_toInt_le, Int32.reduceToInt, ← Int32.toInt_inj, true_and, and_true, or_true, true_or, false_or, or_false, false_and, and_false, not_true_eq_false, not_false_eq_true] <;> omega))⟩
set_option maxRecDepth 100000 in
set_option maxHeartbeats 8000000 in
theorem p_X4_takeFrom {l : Launch} {E : Ez} {L : List Nat} {f : Nat → va_E} {T : Nat → va_E → Prop} {a_0 : Nat} {a_1 : Nat} (hW : WT T L f) (k_0 : isPat T L E a_0) (k_1 : isPat T L E a_1) : CV l yX4_takeFrom cX4_takeFrom 2 1 0 0 E [.ref a_0, .ref a_1] L f (fun L1 f1 => L = L1 ∧ WT T L f1 ∧ FR [4, 356] f f1) := by
  refine cv_of (by decide) (Nat.le_of_ble_eq_true rfl) (fun z hz hnm hC hR => ?_)
  have hC : Cx z E cX4_takeFrom RX4 2 1 0 0 := hC
  subst hz
  show V z E 2 0 0 L f 0 [(0, .ref a_0), (1, .ref a_1)] []
  refine v_aload_n hC dX4_takeFrom_0 rfl ?_
  obtain ⟨m_1, q_3, q_4, t_2, k_5, k_6⟩ := id k_1
  obtain ⟨v_8, v_10, v_12, e_7, b_9, b_11, b_13⟩ := hW.at m_1 t_2
  refine v_get hC fl_X4_9 m_1 e_7 rfl dX4_takeFrom_1 ?_
  refine v_iconst hC dX4_takeFrom_4 (v := 0) (by decide) ?_
  refine v_aload_n hC dX4_takeFrom_5 rfl ?_
  obtain ⟨m_14, q_16, q_17, t_15, k_18, k_19⟩ := id k_0
  obtain ⟨v_21, v_23, v_25, e_20, b_22, b_24, b_26⟩ := hW.at m_14 t_15
  refine v_get hC fl_X4_9 m_14 e_20 rfl dX4_takeFrom_6 ?_
  refine v_iconst hC dX4_takeFrom_9 (v := 0) (by decide) ?_
  refine v_sipush hC dX4_takeFrom_10 (v := 256) (by decide) ?_
  obtain ⟨m_27, t_28⟩ := id k_5
  obtain ⟨g_30, e_29⟩ := hW.at m_27 t_28
  obtain ⟨m_31, t_32⟩ := id k_18
  obtain ⟨g_34, e_33⟩ := hW.at m_31 t_32
  refine v_copyi hC mo_X4_45 cp_n_ cp_s_ cp_i_ m_27 e_29 m_31 e_33 (by decide) (by decide) (by decide) (by decide) (by decide) (by decide) (Nat.le_of_ble_eq_true rfl) dX4_takeFrom_13 (fun f_35 hf_36 hk_37 => ?_)
  have hW_38 := hW.up hf_36 hk_37 t_32 ⟨_, rfl⟩
  obtain ⟨g_39, hf_36⟩ : ∃ g9, f_35 q_16 = aI E 256 g9 := ⟨_, hf_36⟩
  have hf_40 := (hk_37 a_1 (ne_kd e_7 e_33 rfl)).trans e_7
  have hf_41 := (hk_37 a_0 (ne_kd e_20 e_33 rfl)).trans e_20
  have fr_42 := FR.w hk_37 e_33 (k := 356) rfl
  refine v_aload_n hC dX4_takeFrom_16 rfl ?_
  refine v_get hC fl_X4_15 m_1 hf_40 rfl dX4_takeFrom_17 ?_
  refine v_iconst hC dX4_takeFrom_20 (v := 0) (by decide) ?_
  refine v_aload_n hC dX4_takeFrom_21 rfl ?_
  refine v_get hC fl_X4_15 m_14 hf_41 rfl dX4_takeFrom_22 ?_
  refine v_iconst hC dX4_takeFrom_25 (v := 0) (by decide) ?_
  refine v_sipush hC dX4_takeFrom_26 (v := 256) (by decide) ?_
  obtain ⟨m_43, t_44⟩ := id k_6
  obtain ⟨g_46, e_45⟩ := hW_38.at m_43 t_44
  obtain ⟨m_47, t_48⟩ := id k_19
  obtain ⟨g_50, e_49⟩ := hW_38.at m_47 t_48
  refine v_copyi hC mo_X4_45 cp_n_ cp_s_ cp_i_ m_43 e_45 m_47 e_49 (by decide) (by decide) (by decide) (by decide) (by decide) (by decide) (Nat.le_of_ble_eq_true rfl) dX4_takeFrom_29 (fun f_51 hf_52 hk_53 => ?_)
  have hW_54 := hW_38.up hf_52 hk_53 t_48 ⟨_, rfl⟩
  obtain ⟨g_55, hf_52⟩ : ∃ g9, f_51 q_17 = aI E 256 g9 := ⟨_, hf_52⟩
  have hf_56 := (hk_53 a_1 (ne_kd hf_40 e_49 rfl)).trans hf_40
  have hf_57 := (hk_53 a_0 (ne_kd hf_41 e_49 rfl)).trans hf_41
  have fr_58 := FR.w hk_53 e_49 (k := 356) rfl
  refine v_aload_n hC dX4_takeFrom_32 rfl ?_
  refine v_aload_n hC dX4_takeFrom_33 rfl ?_
  refine v_get hC fl_X4_22 m_1 hf_56 rfl dX4_takeFrom_34 ?_
  refine v_put hC fl_X4_22 m_14 hf_57 rfl rfl (Nat.le_of_ble_eq_true rfl) (fs' := [.ref q_16, .ref q_17, .int v_8, .int v_23, .int v_25]) rfl dX4_takeFrom_37 (fun f_59 hf_60 hk_61 => ?_)
  have hW_62 := hW_54.up hf_60 hk_61 t_15 ⟨v_8, v_23, v_25, rfl, (by first | omega | (simp only [Int32.lt_iff_toInt_lt, Int32.le_iff_toInt_le, Int32.reduceToInt, ← Int32.toInt_inj, true_and, and_true, or_true, true_or, false_or, or_false, false_and, and_false, not_true_eq_false, not_false_eq_true] <;> omega)), (by first | omega | (simp only [Int32.lt_iff_toInt_lt, Int32.le_iff_toInt_le, Int32.reduceToInt, ← Int32.toInt_inj, true_and, and_true, or_true, true_or, false_or, or_false, false_and, and_false, not_true_eq_false, not_false_eq_true] <;> omega)), (by first | omega | (simp only [Int32.lt_iff_toInt_lt, Int32.le_iff_toInt_le, Int32.reduceToInt, ← Int32.toInt_inj, true_and, and_true, or_true, true_or, false_or, or_false, false_and, and_false, not_true_eq_false, not_false_eq_true] <;> omega))⟩
  have hf_63 := (hk_61 q_17 (ne_kd hf_52 hf_57 rfl)).trans hf_52
  have fr_64 := FR.w hk_61 hf_57 (k := 4) rfl
  refine v_aload_n hC dX4_takeFrom_40 rfl ?_
  refine v_aload_n hC dX4_takeFrom_41 rfl ?_
  obtain ⟨v_66, v_68, v_70, e_65, b_67, b_69, b_71⟩ := hW_62.at m_1 t_2
  refine v_get hC fl_X4_18 m_1 e_65 rfl dX4_takeFrom_42 ?_
  refine v_put hC fl_X4_18 m_14 hf_60 rfl rfl (Nat.le_of_ble_eq_true rfl) (fs' := [.ref q_16, .ref q_17, .int v_8, .int v_68, .int v_25]) rfl dX4_takeFrom_45 (fun f_72 hf_73 hk_74 => ?_)
  have hW_75 := hW_62.up hf_73 hk_74 t_15 ⟨v_8, v_68, v_25, rfl, (by first | omega | (simp only [Int32.lt_iff_toInt_lt, Int32.le_iff_toInt_le, Int32.reduceToInt, ← Int32.toInt_inj, true_and, and_true, or_true, true_or, false_or, or_false, false_and, and_false, not_true_eq_false, not_false_eq_true] <;> omega)), (by first | omega | (simp only [Int32.lt_iff_toInt_lt, Int32.le_iff_toInt_le, Int32.reduceToInt, ← Int32.toInt_inj, true_and, and_true, or_true, true_or, false_or, or_false, false_and, and_false, not_true_eq_false, not_false_eq_true] <;> omega)), (by first | omega | (simp only [Int32.lt_iff_toInt_lt, Int32.le_iff_toInt_le, Int32.reduceToInt, ← Int32.toInt_inj, true_and, and_true, or_true, true_or, false_or, or_false, false_and, and_false, not_true_eq_false, not_false_eq_true] <;> omega))⟩
  have hf_76 := (hk_74 q_17 (ne_kd hf_63 hf_60 rfl)).trans hf_63
  have fr_77 := FR.w hk_74 hf_60 (k := 4) rfl
  refine v_aload_n hC dX4_takeFrom_48 rfl ?_
  refine v_aload_n hC dX4_takeFrom_49 rfl ?_
  obtain ⟨v_79, v_81, v_83, e_78, b_80, b_82, b_84⟩ := hW_75.at m_1 t_2
  refine v_get hC fl_X4_25 m_1 e_78 rfl dX4_takeFrom_50 ?_
  refine v_put hC fl_X4_25 m_14 hf_73 rfl rfl (Nat.le_of_ble_eq_true rfl) (fs' := [.ref q_16, .ref q_17, .int v_8, .int v_68, .int v_83]) rfl dX4_takeFrom_53 (fun f_85 hf_86 hk_87 => ?_)
  have hW_88 := hW_75.up hf_86 hk_87 t_15 ⟨v_8, v_68, v_83, rfl, (by first | omega | (simp only [Int32.lt_iff_toInt_lt, Int32.le_iff_toInt_le, Int32.reduceToInt, ← Int32.toInt_inj, true_and, and_true, or_true, true_or, false_or, or_false, false_and, and_false, not_true_eq_false, not_false_eq_true] <;> omega)), (by first | omega | (simp only [Int32.lt_iff_toInt_lt, Int32.le_iff_toInt_le, Int32.reduceToInt, ← Int32.toInt_inj, true_and, and_true, or_true, true_or, false_or, or_false, false_and, and_false, not_true_eq_false, not_false_eq_true] <;> omega)), (by first | omega | (simp only [Int32.lt_iff_toInt_lt, Int32.le_iff_toInt_le, Int32.reduceToInt, ← Int32.toInt_inj, true_and, and_true, or_true, true_or, false_or, or_false, false_and, and_false, not_true_eq_false, not_false_eq_true] <;> omega))⟩
  have hf_89 := (hk_87 q_17 (ne_kd hf_76 hf_73 rfl)).trans hf_76
  have fr_90 := FR.w hk_87 hf_73 (k := 4) rfl
  exact hR _ _ _ _ _ _ dX4_takeFrom_56 (Nat.le_of_ble_eq_true rfl) (Nat.le_of_ble_eq_true rfl) ⟨rfl, hW_88, (((((fr_42.tr fr_58).tr fr_64).tr fr_77).tr fr_90).mono rfl)⟩
set_option maxRecDepth 100000 in
set_option maxHeartbeats 8000000 in
theorem p_X4_setSort {l : Launch} {E : Ez} {L : List Nat} {f : Nat → va_E} {T : Nat → va_E → Prop} {a_0 : Nat} {a_1 : Int32} {a_2 : Int32} (hW : WT T L f) (k_0 : isPat T L E a_0) : CV l yX4_setSort cX4_setSort 3 0 0 0 E [.ref a_0, .int a_1, .int a_2] L f (fun L1 f1 => L = L1 ∧ WT T L f1 ∧ FR [356] f f1) := by
  refine cv_of (by decide) (Nat.le_of_ble_eq_true rfl) (fun z hz hnm hC hR => ?_)
  have hC : Cx z E cX4_setSort RX4 3 0 0 0 := hC
  subst hz
  show V z E 3 0 0 L f 0 [(0, .ref a_0), (1, .int a_1), (2, .int a_2)] []
  refine v_iload_n hC dX4_setSort_0 rfl ?_
  refine v_if_lt hC dX4_setSort_1 (tgt := 18) (by decide) (fun h_1 => ?_) (fun h_1 => ?_)
  · simp only [Int32.lt_iff_toInt_lt, Int32.le_iff_toInt_le, Int32.reduceToInt, ← Int32.toInt_inj] at h_1
    exact hR _ _ _ _ _ _ dX4_setSort_18 (Nat.le_of_ble_eq_true rfl) (Nat.le_of_ble_eq_true rfl) ⟨rfl, hW, FR.rf⟩
  · simp only [Int32.lt_iff_toInt_lt, Int32.le_iff_toInt_le, Int32.reduceToInt, ← Int32.toInt_inj] at h_1
    refine v_iload_n hC dX4_setSort_4 rfl ?_
    refine v_sipush hC dX4_setSort_5 (v := 256) (by decide) ?_
    refine v_icmp_ge hC dX4_setSort_8 (tgt := 18) (by decide) (fun h_2 => ?_) (fun h_2 => ?_)
    · simp only [Int32.lt_iff_toInt_lt, Int32.le_iff_toInt_le, Int32.reduceToInt, ← Int32.toInt_inj] at h_2
      exact hR _ _ _ _ _ _ dX4_setSort_18 (Nat.le_of_ble_eq_true rfl) (Nat.le_of_ble_eq_true rfl) ⟨rfl, hW, FR.rf⟩
    · simp only [Int32.lt_iff_toInt_lt, Int32.le_iff_toInt_le, Int32.reduceToInt, ← Int32.toInt_inj] at h_2
      refine v_aload_n hC dX4_setSort_11 rfl ?_
      obtain ⟨m_3, q_5, q_6, t_4, k_7, k_8⟩ := id k_0
      obtain ⟨v_10, v_12, v_14, e_9, b_11, b_13, b_15⟩ := hW.at m_3 t_4
      refine v_get hC fl_X4_9 m_3 e_9 rfl dX4_setSort_12 ?_
      refine v_iload_n hC dX4_setSort_15 rfl ?_
      refine v_iload_n hC dX4_setSort_16 rfl ?_
      obtain ⟨m_16, t_17⟩ := id k_7
      obtain ⟨g_19, e_18⟩ := hW.at m_16 t_17
      refine v_iast hC m_16 e_18 (vp_in_iff.mpr (by first | omega | (simp only [Int32.lt_iff_toInt_lt, Int32.le_iff_toInt_le, Int32.reduceToInt, ← Int32.toInt_inj, true_and, and_true, or_true, true_or, false_or, or_false, false_and, and_false, not_true_eq_false, not_false_eq_true] <;> omega))) dX4_setSort_17 (fun f_20 hf_21 hk_22 => ?_)
      have hW_24 := hW.up hf_21 hk_22 t_17 ⟨_, rfl⟩
      obtain ⟨g_23, hf_21⟩ : ∃ g9, f_20 q_5 = aI E 256 g9 := ⟨_, hf_21⟩
      have hf_25 := (hk_22 a_0 (ne_kd e_9 e_18 rfl)).trans e_9
      have fr_26 := FR.w hk_22 e_18 (k := 356) rfl
      exact hR _ _ _ _ _ _ dX4_setSort_18 (Nat.le_of_ble_eq_true rfl) (Nat.le_of_ble_eq_true rfl) ⟨rfl, hW_24, (fr_26.mono rfl)⟩
set_option maxRecDepth 100000 in
set_option maxHeartbeats 8000000 in
theorem p_X4_fillRow {l : Launch} {E : Ez} {L : List Nat} {f : Nat → va_E} {T : Nat → va_E → Prop} {a_0 : Nat} {a_1 : Nat} {a_2 : Int32} (hW : WT T L f) (k_0 : isPat T L E a_0) (k_1 : isTape T L E a_1) : CV l yX4_fillRow cX4_fillRow 5 5 0 0 E [.ref a_0, .ref a_1, .int a_2] L f (fun L1 f1 => L = L1 ∧ WT T L f1 ∧ FR [356] f f1) := by
  refine cv_of (by decide) (Nat.le_of_ble_eq_true rfl) (fun z hz hnm hC hR => ?_)
  have hC : Cx z E cX4_fillRow RX4 5 5 0 0 := hC
  subst hz
  show V z E 5 0 0 L f 0 [(0, .ref a_0), (1, .ref a_1), (2, .int a_2)] []
  refine v_aload_n hC dX4_fillRow_0 rfl ?_
  obtain ⟨m_1, q_3, t_2, k_4⟩ := id k_1
  obtain ⟨v_6, v_8, v_9, v_11, v_13, v_14, e_5, b_7, b_10, b_12⟩ := hW.at m_1 t_2
  refine v_vi hC (rest := []) m_1 e_5 rfl mi_X7_wordLength ms_X7_wordLength (p_X7_wordLength hW k_1) mx_X7_wordLength ml_X4_101 (by decide) rfl (cells1 := 0) (slots1 := 0) (by decide) (by decide) (Nat.le_of_ble_eq_true rfl) (Nat.le_of_ble_eq_true rfl) rfl (Nat.le_of_ble_eq_true rfl) dX4_fillRow_1 (fun r_15 L_16 f_17 h_18 => ?_)
  obtain ⟨rfl, rfl, b_19⟩ := h_18
  refine v_istore_n hC dX4_fillRow_4 (by decide) (lv' := [(3, .int r_15), (0, .ref a_0), (1, .ref a_1), (2, .int a_2)]) rfl ?_
  refine v_iconst hC dX4_fillRow_5 (v := 0) (by decide) ?_
  refine v_istore hC dX4_fillRow_6 (by decide) (lv' := [(4, .int 0), (3, .int r_15), (0, .ref a_0), (1, .ref a_1), (2, .int a_2)]) rfl ?_
  have lp_230 : ∀ (n_231 : Nat) (f_225 : Nat → va_E) (hW_226 : WT T L f_225) (hF_227 : FR [356] f f_225) (i_224 : Int32) (b_229 : (0 ≤ i_224.toInt ∧ i_224.toInt ≤ 16)) (hm_233 : 16 - i_224.toInt < (n_231 : Int)), V z E 5 0 0 L f_225 8 [(4, .int i_224), (3, .int r_15), (0, .ref a_0), (1, .ref a_1), (2, .int a_2)] [] := by
    intro n_231
    induction n_231 with
    | zero =>
      intro f_225 hW_226 hF_227 i_224 b_229 hm_233
      have hf_228 := hF_227.at e_5 rfl
      exfalso; omega
    | succ n_231 ih_232 =>
      intro f_225 hW_226 hF_227 i_224 b_229 hm_233
      have hf_228 := hF_227.at e_5 rfl
      refine v_iload hC dX4_fillRow_8 rfl ?_
      refine v_aload_n hC dX4_fillRow_10 rfl ?_
      obtain ⟨m_234, q_236, q_237, t_235, k_238, k_239⟩ := id k_0
      obtain ⟨v_241, v_243, v_245, e_240, b_242, b_244, b_246⟩ := hW_226.at m_234 t_235
      refine v_get hC fl_X4_22 m_234 e_240 rfl dX4_fillRow_11 ?_
      refine v_icmp_ge hC dX4_fillRow_14 (tgt := 48) (by decide) (fun h_247 => ?_) (fun h_247 => ?_)
      · simp only [Int32.lt_iff_toInt_lt, Int32.le_iff_toInt_le, Int32.reduceToInt, ← Int32.toInt_inj] at h_247
        exact hR _ _ _ _ _ _ dX4_fillRow_48 (Nat.le_of_ble_eq_true rfl) (Nat.le_of_ble_eq_true rfl) ⟨rfl, hW_226, (hF_227.mono rfl)⟩
      · simp only [Int32.lt_iff_toInt_lt, Int32.le_iff_toInt_le, Int32.reduceToInt, ← Int32.toInt_inj] at h_247
        refine v_iload_n hC dX4_fillRow_17 rfl ?_
        refine v_if_le hC dX4_fillRow_18 (tgt := 48) (by decide) (fun h_248 => ?_) (fun h_248 => ?_)
        · simp only [Int32.lt_iff_toInt_lt, Int32.le_iff_toInt_le, Int32.reduceToInt, ← Int32.toInt_inj] at h_248
          exact hR _ _ _ _ _ _ dX4_fillRow_48 (Nat.le_of_ble_eq_true rfl) (Nat.le_of_ble_eq_true rfl) ⟨rfl, hW_226, (hF_227.mono rfl)⟩
        · simp only [Int32.lt_iff_toInt_lt, Int32.le_iff_toInt_le, Int32.reduceToInt, ← Int32.toInt_inj] at h_248
          refine v_aload_n hC dX4_fillRow_21 rfl ?_
          refine v_aload_n hC dX4_fillRow_22 rfl ?_
          refine v_iload_n hC dX4_fillRow_23 rfl ?_
          refine v_iload hC dX4_fillRow_24 rfl ?_
          refine v_vi hC (rest := [.ref a_0]) m_234 e_240 rfl mi_X4_placeOf ms_X4_placeOf (p_X4_placeOf hW_226 k_0) mx_X4_placeOf ml_X4_41 (by decide) rfl (cells1 := 0) (slots1 := 0) (by decide) (by decide) (Nat.le_of_ble_eq_true rfl) (Nat.le_of_ble_eq_true rfl) rfl (Nat.le_of_ble_eq_true rfl) dX4_fillRow_26 (fun r_249 L_250 f_251 h_252 => ?_)
          obtain ⟨rfl, rfl, b_253, h_254, h_255⟩ := h_252
          refine v_aload_n hC dX4_fillRow_29 rfl ?_
          refine v_iload hC dX4_fillRow_30 rfl ?_
          refine v_iload_n hC dX4_fillRow_32 rfl ?_
          obtain ⟨v_258, h_259⟩ : ∃ v9 : Int32, i_224 - i_224 / r_15 * r_15 = v9 := ⟨_, rfl⟩
          refine v_irem hC dX4_fillRow_33 (by first | omega | (simp only [Int32.lt_iff_toInt_lt, Int32.le_iff_toInt_le, Int32.reduceToInt, ← Int32.toInt_inj, true_and, and_true, or_true, true_or, false_or, or_false, false_and, and_false, not_true_eq_false, not_false_eq_true] <;> omega)) h_259 ?_
          have h_260 := rem_v h_259 (by first | omega | (simp only [Int32.lt_iff_toInt_lt, Int32.le_iff_toInt_le, Int32.reduceToInt, ← Int32.toInt_inj, true_and, and_true, or_true, true_or, false_or, or_false, false_and, and_false, not_true_eq_false, not_false_eq_true] <;> omega)) (by first | omega | (simp only [Int32.lt_iff_toInt_lt, Int32.le_iff_toInt_le, Int32.reduceToInt, ← Int32.toInt_inj, true_and, and_true, or_true, true_or, false_or, or_false, false_and, and_false, not_true_eq_false, not_false_eq_true] <;> omega))
          refine v_ldcS hC sr_X4_96 dX4_fillRow_34 ?_
          refine v_vi hC (rest := [.int r_249, .ref a_0]) m_1 hf_228 rfl mi_X7_signOfWord ms_X7_signOfWord (p_X7_signOfWord hW_226 k_1 (by decide)) mx_X7_signOfWord ml_X4_111 (by decide) rfl (cells1 := 0) (slots1 := 0) (by decide) (by decide) (Nat.le_of_ble_eq_true rfl) (Nat.le_of_ble_eq_true rfl) rfl (Nat.le_of_ble_eq_true rfl) dX4_fillRow_36 (fun r_261 L_262 f_263 h_264 => ?_)
          obtain ⟨rfl, rfl, b_265⟩ := h_264
          refine v_vv hC (rest := []) m_234 e_240 rfl mi_X4_setSort ms_X4_setSort (p_X4_setSort hW_226 k_0) mx_X4_setSort ml_X4_115 (by decide) rfl (cells1 := 0) (slots1 := 0) (by decide) (by decide) (Nat.le_of_ble_eq_true rfl) (Nat.le_of_ble_eq_true rfl) rfl (Nat.le_of_ble_eq_true rfl) dX4_fillRow_39 (fun L_269 f_270 h_271 => ?_)
          obtain ⟨rfl, hW_272, hF_273⟩ := h_271
          have hf_274 := hF_273.at hf_228 rfl
          have hf_275 := hF_273.at e_240 rfl
          obtain ⟨v_276, h_277⟩ : ∃ v9 : Int32, i_224 + Int32.ofInt 1 = v9 := ⟨_, rfl⟩
          have h_278 := add_v (b := 1) h_277 (by first | omega | (simp only [Int32.lt_iff_toInt_lt, Int32.le_iff_toInt_le, Int32.reduceToInt, ← Int32.toInt_inj, true_and, and_true, or_true, true_or, false_or, or_false, false_and, and_false, not_true_eq_false, not_false_eq_true] <;> omega)) (by first | omega | (simp only [Int32.lt_iff_toInt_lt, Int32.le_iff_toInt_le, Int32.reduceToInt, ← Int32.toInt_inj, true_and, and_true, or_true, true_or, false_or, or_false, false_and, and_false, not_true_eq_false, not_false_eq_true] <;> omega))
          simp only [Int32.reduceToInt] at h_278
          refine v_iinc hC dX4_fillRow_42 (k := 0) rfl (v := v_276) h_277 (by decide) (lv' := [(4, .int v_276), (3, .int r_15), (0, .ref a_0), (1, .ref a_1), (2, .int a_2)]) rfl ?_
          refine v_goto hC dX4_fillRow_45 (tgt := 8) (by decide) ?_
          refine v_pick [0, 1, 2, 3, 4] rfl ?_
          exact ih_232 f_270 hW_272 ((hF_227.tr hF_273).mono rfl) v_276 (by first | omega | (simp only [Int32.lt_iff_toInt_lt, Int32.le_iff_toInt_le, Int32.reduceToInt, ← Int32.toInt_inj, true_and, and_true, or_true, true_or, false_or, or_false, false_and, and_false, not_true_eq_false, not_false_eq_true] <;> omega)) (by first | omega | (simp only [Int32.lt_iff_toInt_lt, Int32.le_iff_toInt_le, Int32.reduceToInt, ← Int32.toInt_inj, true_and, and_true, or_true, true_or, false_or, or_false, false_and, and_false, not_true_eq_false, not_false_eq_true] <;> omega))
  refine v_pick [0, 1, 2, 3, 4] rfl ?_
  exact lp_230 18 f hW FR.rf 0 (by decide) (by decide)
set_option maxRecDepth 100000 in
set_option maxHeartbeats 8000000 in
theorem p_X4_tellRow {l : Launch} {E : Ez} {L : List Nat} {f : Nat → va_E} {T : Nat → va_E → Prop} {a_0 : Nat} {a_1 : Nat} {a_2 : Int32} (hW : WT T L f) (k_0 : isPat T L E a_0) (k_1 : isTape T L E a_1) : CV l yX4_tellRow cX4_tellRow 3 6 0 0 E [.ref a_0, .ref a_1, .int a_2] L f (fun L1 f1 => L = L1 ∧ WT T L f1 ∧ FR [7, 356] f f1) := by
  refine cv_of (by decide) (Nat.le_of_ble_eq_true rfl) (fun z hz hnm hC hR => ?_)
  have hC : Cx z E cX4_tellRow RX4 3 6 0 0 := hC
  subst hz
  show V z E 3 0 0 L f 0 [(0, .ref a_0), (1, .ref a_1), (2, .int a_2)] []
  refine v_iload_n hC dX4_tellRow_0 rfl ?_
  refine v_bipush hC dX4_tellRow_1 (v := 8) (by decide) ?_
  have jn_30 : ∀ (f_31 : Nat → va_E) (hW_32 : WT T L f_31) (hF_33 : FR [7] f f_31) , V z E 3 0 0 L f_31 20 [(0, .ref a_0), (1, .ref a_1), (2, .int a_2)] [] := by
    intro f_31 hW_32 hF_33
    refine v_aload_n hC dX4_tellRow_20 rfl ?_
    refine v_ldcS hC sr_X4_87 dX4_tellRow_21 ?_
    obtain ⟨m_34, q_36, t_35, k_37⟩ := id k_1
    obtain ⟨v_39, v_41, v_42, v_44, v_46, v_47, e_38, b_40, b_43, b_45⟩ := hW_32.at m_34 t_35
    refine v_vv hC (rest := []) m_34 e_38 rfl mi_X7_takeWord ms_X7_takeWord (p_X7_takeWord hW_32 k_1 (by decide)) mx_X7_takeWord ml_X4_57 (by decide) rfl (cells1 := 0) (slots1 := 0) (by decide) (by decide) (Nat.le_of_ble_eq_true rfl) (Nat.le_of_ble_eq_true rfl) rfl (Nat.le_of_ble_eq_true rfl) dX4_tellRow_23 (fun L_49 f_50 h_51 => ?_)
    obtain ⟨rfl, hW_52, hF_53⟩ := h_51
    refine v_aload_n hC dX4_tellRow_26 rfl ?_
    refine v_ldcS hC sr_X4_96 dX4_tellRow_27 ?_
    obtain ⟨v_55, v_57, v_58, v_60, v_62, v_63, e_54, b_56, b_59, b_61⟩ := hW_52.at m_34 t_35
    refine v_vi hC (rest := []) m_34 e_54 rfl mi_X7_isWordOf ms_X7_isWordOf (p_X7_isWordOf hW_52 k_1 (by decide)) mx_X7_isWordOf ml_X4_98 (by decide) rfl (cells1 := 0) (slots1 := 0) (by decide) (by decide) (Nat.le_of_ble_eq_true rfl) (Nat.le_of_ble_eq_true rfl) rfl (Nat.le_of_ble_eq_true rfl) dX4_tellRow_29 (fun r_64 L_65 f_66 h_67 => ?_)
    obtain ⟨rfl, rfl, b_68⟩ := h_67
    refine v_if_eq hC dX4_tellRow_32 (tgt := 57) (by decide) (fun h_71 => ?_) (fun h_71 => ?_)
    · simp only [Int32.lt_iff_toInt_lt, Int32.le_iff_toInt_le, Int32.reduceToInt, ← Int32.toInt_inj] at h_71
      refine v_aload_n hC dX4_tellRow_57 rfl ?_
      refine v_iconst hC dX4_tellRow_58 (v := 1) (by decide) ?_
      refine v_vv hC (rest := []) m_34 e_54 rfl mi_X7_complain ms_X7_complain (p_X7_complain hW_52 k_1) mx_X7_complain ml_X4_93 (by decide) rfl (cells1 := 0) (slots1 := 0) (by decide) (by decide) (Nat.le_of_ble_eq_true rfl) (Nat.le_of_ble_eq_true rfl) rfl (Nat.le_of_ble_eq_true rfl) dX4_tellRow_59 (fun L_73 f_74 h_75 => ?_)
      obtain ⟨rfl, hW_76, hF_77⟩ := h_75
      refine v_aload_n hC dX4_tellRow_62 rfl ?_
      obtain ⟨v_79, v_81, v_82, v_84, v_86, v_87, e_78, b_80, b_83, b_85⟩ := hW_76.at m_34 t_35
      refine v_vv hC (rest := []) m_34 e_78 rfl mi_X7_takeSemicolon ms_X7_takeSemicolon (p_X7_takeSemicolon hW_76 k_1) mx_X7_takeSemicolon ml_X4_66 (by decide) rfl (cells1 := 0) (slots1 := 0) (by decide) (by decide) (Nat.le_of_ble_eq_true rfl) (Nat.le_of_ble_eq_true rfl) rfl (Nat.le_of_ble_eq_true rfl) dX4_tellRow_63 (fun L_89 f_90 h_91 => ?_)
      obtain ⟨rfl, hW_92, hF_93⟩ := h_91
      exact hR _ _ _ _ _ _ dX4_tellRow_66 (Nat.le_of_ble_eq_true rfl) (Nat.le_of_ble_eq_true rfl) ⟨rfl, hW_92, ((((hF_33.tr hF_53).tr hF_77).tr hF_93).mono rfl)⟩
    · simp only [Int32.lt_iff_toInt_lt, Int32.le_iff_toInt_le, Int32.reduceToInt, ← Int32.toInt_inj] at h_71
      refine v_aload_n hC dX4_tellRow_35 rfl ?_
      refine v_vi hC (rest := []) m_34 e_54 rfl mi_X7_wordLength ms_X7_wordLength (p_X7_wordLength hW_52 k_1) mx_X7_wordLength ml_X4_101 (by decide) rfl (cells1 := 0) (slots1 := 0) (by decide) (by decide) (Nat.le_of_ble_eq_true rfl) (Nat.le_of_ble_eq_true rfl) rfl (Nat.le_of_ble_eq_true rfl) dX4_tellRow_36 (fun r_94 L_95 f_96 h_97 => ?_)
      obtain ⟨rfl, rfl, b_98⟩ := h_97
      refine v_bipush hC dX4_tellRow_39 (v := 12) (by decide) ?_
      refine v_icmp_gt hC dX4_tellRow_41 (tgt := 57) (by decide) (fun h_101 => ?_) (fun h_101 => ?_)
      · simp only [Int32.lt_iff_toInt_lt, Int32.le_iff_toInt_le, Int32.reduceToInt, ← Int32.toInt_inj] at h_101
        refine v_aload_n hC dX4_tellRow_57 rfl ?_
        refine v_iconst hC dX4_tellRow_58 (v := 1) (by decide) ?_
        refine v_vv hC (rest := []) m_34 e_54 rfl mi_X7_complain ms_X7_complain (p_X7_complain hW_52 k_1) mx_X7_complain ml_X4_93 (by decide) rfl (cells1 := 0) (slots1 := 0) (by decide) (by decide) (Nat.le_of_ble_eq_true rfl) (Nat.le_of_ble_eq_true rfl) rfl (Nat.le_of_ble_eq_true rfl) dX4_tellRow_59 (fun L_103 f_104 h_105 => ?_)
        obtain ⟨rfl, hW_106, hF_107⟩ := h_105
        refine v_aload_n hC dX4_tellRow_62 rfl ?_
        obtain ⟨v_109, v_111, v_112, v_114, v_116, v_117, e_108, b_110, b_113, b_115⟩ := hW_106.at m_34 t_35
        refine v_vv hC (rest := []) m_34 e_108 rfl mi_X7_takeSemicolon ms_X7_takeSemicolon (p_X7_takeSemicolon hW_106 k_1) mx_X7_takeSemicolon ml_X4_66 (by decide) rfl (cells1 := 0) (slots1 := 0) (by decide) (by decide) (Nat.le_of_ble_eq_true rfl) (Nat.le_of_ble_eq_true rfl) rfl (Nat.le_of_ble_eq_true rfl) dX4_tellRow_63 (fun L_119 f_120 h_121 => ?_)
        obtain ⟨rfl, hW_122, hF_123⟩ := h_121
        exact hR _ _ _ _ _ _ dX4_tellRow_66 (Nat.le_of_ble_eq_true rfl) (Nat.le_of_ble_eq_true rfl) ⟨rfl, hW_122, ((((hF_33.tr hF_53).tr hF_107).tr hF_123).mono rfl)⟩
      · simp only [Int32.lt_iff_toInt_lt, Int32.le_iff_toInt_le, Int32.reduceToInt, ← Int32.toInt_inj] at h_101
        refine v_aload_n hC dX4_tellRow_44 rfl ?_
        refine v_aload_n hC dX4_tellRow_45 rfl ?_
        refine v_iload_n hC dX4_tellRow_46 rfl ?_
        obtain ⟨m_124, q_126, q_127, t_125, k_128, k_129⟩ := id k_0
        obtain ⟨v_131, v_133, v_135, e_130, b_132, b_134, b_136⟩ := hW_52.at m_124 t_125
        refine v_vv hC (rest := []) m_124 e_130 rfl mi_X4_fillRow ms_X4_fillRow (p_X4_fillRow hW_52 k_0 k_1) mx_X4_fillRow ml_X4_105 (by decide) rfl (cells1 := 0) (slots1 := 0) (by decide) (by decide) (Nat.le_of_ble_eq_true rfl) (Nat.le_of_ble_eq_true rfl) rfl (Nat.le_of_ble_eq_true rfl) dX4_tellRow_47 (fun L_138 f_139 h_140 => ?_)
        obtain ⟨rfl, hW_141, hF_142⟩ := h_140
        have hf_143 := hF_142.at e_54 rfl
        have hf_144 := hF_142.at e_130 rfl
        refine v_aload_n hC dX4_tellRow_50 rfl ?_
        refine v_vv hC (rest := []) m_34 hf_143 rfl mi_X7_advance ms_X7_advance (p_X7_advance hW_141 k_1) mx_X7_advance ml_X4_108 (by decide) rfl (cells1 := 0) (slots1 := 0) (by decide) (by decide) (Nat.le_of_ble_eq_true rfl) (Nat.le_of_ble_eq_true rfl) rfl (Nat.le_of_ble_eq_true rfl) dX4_tellRow_51 (fun L_146 f_147 h_148 => ?_)
        obtain ⟨rfl, hW_149, hF_150⟩ := h_148
        have hf_151 := hF_150.at hf_144 rfl
        refine v_goto hC dX4_tellRow_54 (tgt := 62) (by decide) ?_
        refine v_aload_n hC dX4_tellRow_62 rfl ?_
        obtain ⟨v_153, v_155, v_156, v_158, v_160, v_161, e_152, b_154, b_157, b_159⟩ := hW_149.at m_34 t_35
        refine v_vv hC (rest := []) m_34 e_152 rfl mi_X7_takeSemicolon ms_X7_takeSemicolon (p_X7_takeSemicolon hW_149 k_1) mx_X7_takeSemicolon ml_X4_66 (by decide) rfl (cells1 := 0) (slots1 := 0) (by decide) (by decide) (Nat.le_of_ble_eq_true rfl) (Nat.le_of_ble_eq_true rfl) rfl (Nat.le_of_ble_eq_true rfl) dX4_tellRow_63 (fun L_163 f_164 h_165 => ?_)
        obtain ⟨rfl, hW_166, hF_167⟩ := h_165
        have hf_168 := hF_167.at hf_151 rfl
        exact hR _ _ _ _ _ _ dX4_tellRow_66 (Nat.le_of_ble_eq_true rfl) (Nat.le_of_ble_eq_true rfl) ⟨rfl, hW_166, (((((hF_33.tr hF_53).tr hF_142).tr hF_150).tr hF_167).mono rfl)⟩
  refine v_icmp_ne hC dX4_tellRow_3 (tgt := 20) (by decide) (fun h_1 => ?_) (fun h_1 => ?_)
  · simp only [Int32.lt_iff_toInt_lt, Int32.le_iff_toInt_le, Int32.reduceToInt, ← Int32.toInt_inj] at h_1
    refine v_pick [0, 1, 2] rfl ?_
    exact jn_30 f hW FR.rf
  · simp only [Int32.lt_iff_toInt_lt, Int32.le_iff_toInt_le, Int32.reduceToInt, ← Int32.toInt_inj] at h_1
    refine v_aload_n hC dX4_tellRow_6 rfl ?_
    refine v_ldcS hC sr_X4_87 dX4_tellRow_7 ?_
    obtain ⟨m_169, q_171, t_170, k_172⟩ := id k_1
    obtain ⟨v_174, v_176, v_177, v_179, v_181, v_182, e_173, b_175, b_178, b_180⟩ := hW.at m_169 t_170
    refine v_vi hC (rest := []) m_169 e_173 rfl mi_X7_isWord ms_X7_isWord (p_X7_isWord hW k_1 (by decide)) mx_X7_isWord ml_X4_89 (by decide) rfl (cells1 := 0) (slots1 := 0) (by decide) (by decide) (Nat.le_of_ble_eq_true rfl) (Nat.le_of_ble_eq_true rfl) rfl (Nat.le_of_ble_eq_true rfl) dX4_tellRow_9 (fun r_183 L_184 f_185 h_186 => ?_)
    obtain ⟨rfl, rfl, b_187⟩ := h_186
    refine v_if_eq hC dX4_tellRow_12 (tgt := 20) (by decide) (fun h_190 => ?_) (fun h_190 => ?_)
    · simp only [Int32.lt_iff_toInt_lt, Int32.le_iff_toInt_le, Int32.reduceToInt, ← Int32.toInt_inj] at h_190
      refine v_pick [0, 1, 2] rfl ?_
      exact jn_30 f hW FR.rf
    · simp only [Int32.lt_iff_toInt_lt, Int32.le_iff_toInt_le, Int32.reduceToInt, ← Int32.toInt_inj] at h_190
      refine v_aload_n hC dX4_tellRow_15 rfl ?_
      refine v_iconst hC dX4_tellRow_16 (v := 3) (by decide) ?_
      refine v_vv hC (rest := []) m_169 e_173 rfl mi_X7_complain ms_X7_complain (p_X7_complain hW k_1) mx_X7_complain ml_X4_93 (by decide) rfl (cells1 := 0) (slots1 := 0) (by decide) (by decide) (Nat.le_of_ble_eq_true rfl) (Nat.le_of_ble_eq_true rfl) rfl (Nat.le_of_ble_eq_true rfl) dX4_tellRow_17 (fun L_192 f_193 h_194 => ?_)
      obtain ⟨rfl, hW_195, hF_196⟩ := h_194
      refine v_pick [0, 1, 2] rfl ?_
      exact jn_30 f_193 hW_195 (hF_196.mono rfl)
set_option maxRecDepth 100000 in
set_option maxHeartbeats 8000000 in
theorem p_X4_repeatRows {l : Launch} {E : Ez} {L : List Nat} {f : Nat → va_E} {T : Nat → va_E → Prop} {a_0 : Nat} {a_1 : Int32} (hW : WT T L f) (k_0 : isPat T L E a_0) (g_1 : (0 ≤ a_1.toInt ∧ a_1.toInt ≤ 9)) : CV l yX4_repeatRows cX4_repeatRows 4 1 0 0 E [.ref a_0, .int a_1] L f (fun L1 f1 => L = L1 ∧ WT T L f1 ∧ FR [356] f f1) := by
  refine cv_of (by decide) (Nat.le_of_ble_eq_true rfl) (fun z hz hnm hC hR => ?_)
  have hC : Cx z E cX4_repeatRows RX4 4 1 0 0 := hC
  subst hz
  show V z E 4 0 0 L f 0 [(0, .ref a_0), (1, .int a_1)] []
  refine v_iload_n hC dX4_repeatRows_0 rfl ?_
  refine v_istore_n hC dX4_repeatRows_1 (by decide) (lv' := [(2, .int a_1), (0, .ref a_0), (1, .int a_1)]) rfl ?_
  have lp_1048 : ∀ (n_1049 : Nat) (f_1044 : Nat → va_E) (hW_1045 : WT T L f_1044) (hF_1046 : FR [356] f f_1044) (i_1043 : Int32) (b_1047 : (0 ≤ i_1043.toInt ∧ i_1043.toInt ≤ 16)) (hm_1051 : 16 - i_1043.toInt < (n_1049 : Int)), V z E 4 0 0 L f_1044 2 [(2, .int i_1043), (0, .ref a_0), (1, .int a_1)] [] := by
    intro n_1049
    induction n_1049 with
    | zero =>
      intro f_1044 hW_1045 hF_1046 i_1043 b_1047 hm_1051
      exfalso; omega
    | succ n_1049 ih_1050 =>
      intro f_1044 hW_1045 hF_1046 i_1043 b_1047 hm_1051
      refine v_iload_n hC dX4_repeatRows_2 rfl ?_
      refine v_aload_n hC dX4_repeatRows_3 rfl ?_
      obtain ⟨m_1052, q_1054, q_1055, t_1053, k_1056, k_1057⟩ := id k_0
      obtain ⟨v_1059, v_1061, v_1063, e_1058, b_1060, b_1062, b_1064⟩ := hW_1045.at m_1052 t_1053
      refine v_get hC fl_X4_18 m_1052 e_1058 rfl dX4_repeatRows_4 ?_
      refine v_icmp_ge hC dX4_repeatRows_7 (tgt := 54) (by decide) (fun h_1065 => ?_) (fun h_1065 => ?_)
      · simp only [Int32.lt_iff_toInt_lt, Int32.le_iff_toInt_le, Int32.reduceToInt, ← Int32.toInt_inj] at h_1065
        exact hR _ _ _ _ _ _ dX4_repeatRows_54 (Nat.le_of_ble_eq_true rfl) (Nat.le_of_ble_eq_true rfl) ⟨rfl, hW_1045, (hF_1046.mono rfl)⟩
      · simp only [Int32.lt_iff_toInt_lt, Int32.le_iff_toInt_le, Int32.reduceToInt, ← Int32.toInt_inj] at h_1065
        refine v_iconst hC dX4_repeatRows_10 (v := 0) (by decide) ?_
        refine v_istore_n hC dX4_repeatRows_11 (by decide) (lv' := [(3, .int 0), (2, .int i_1043), (0, .ref a_0), (1, .int a_1)]) rfl ?_
        have lp_1262 : ∀ (n_1263 : Nat) (f_1257 : Nat → va_E) (hW_1258 : WT T L f_1257) (hF_1259 : FR [356] f_1044 f_1257) (i_1256 : Int32) (b_1261 : (0 ≤ i_1256.toInt ∧ i_1256.toInt ≤ 16)) (hm_1265 : 16 - i_1256.toInt < (n_1263 : Int)), V z E 4 0 0 L f_1257 12 [(3, .int i_1256), (2, .int i_1043), (0, .ref a_0), (1, .int a_1)] [] := by
          intro n_1263
          induction n_1263 with
          | zero =>
            intro f_1257 hW_1258 hF_1259 i_1256 b_1261 hm_1265
            have hf_1260 := hF_1259.at e_1058 rfl
            exfalso; omega
          | succ n_1263 ih_1264 =>
            intro f_1257 hW_1258 hF_1259 i_1256 b_1261 hm_1265
            have hf_1260 := hF_1259.at e_1058 rfl
            refine v_iload_n hC dX4_repeatRows_12 rfl ?_
            refine v_aload_n hC dX4_repeatRows_13 rfl ?_
            refine v_get hC fl_X4_22 m_1052 hf_1260 rfl dX4_repeatRows_14 ?_
            refine v_icmp_ge hC dX4_repeatRows_17 (tgt := 48) (by decide) (fun h_1266 => ?_) (fun h_1266 => ?_)
            · simp only [Int32.lt_iff_toInt_lt, Int32.le_iff_toInt_le, Int32.reduceToInt, ← Int32.toInt_inj] at h_1266
              obtain ⟨v_1267, h_1268⟩ : ∃ v9 : Int32, i_1043 + Int32.ofInt 1 = v9 := ⟨_, rfl⟩
              have h_1269 := add_v (b := 1) h_1268 (by first | omega | (simp only [Int32.lt_iff_toInt_lt, Int32.le_iff_toInt_le, Int32.reduceToInt, ← Int32.toInt_inj, true_and, and_true, or_true, true_or, false_or, or_false, false_and, and_false, not_true_eq_false, not_false_eq_true] <;> omega)) (by first | omega | (simp only [Int32.lt_iff_toInt_lt, Int32.le_iff_toInt_le, Int32.reduceToInt, ← Int32.toInt_inj, true_and, and_true, or_true, true_or, false_or, or_false, false_and, and_false, not_true_eq_false, not_false_eq_true] <;> omega))
              simp only [Int32.reduceToInt] at h_1269
              refine v_iinc hC dX4_repeatRows_48 (k := 1) rfl (v := v_1267) h_1268 (by decide) (lv' := [(2, .int v_1267), (3, .int i_1256), (0, .ref a_0), (1, .int a_1)]) rfl ?_
              refine v_goto hC dX4_repeatRows_51 (tgt := 2) (by decide) ?_
              refine v_pick [0, 2, 3] rfl ?_
              exact ih_1050 f_1257 hW_1258 ((hF_1046.tr hF_1259).mono rfl) v_1267 (by first | omega | (simp only [Int32.lt_iff_toInt_lt, Int32.le_iff_toInt_le, Int32.reduceToInt, ← Int32.toInt_inj, true_and, and_true, or_true, true_or, false_or, or_false, false_and, and_false, not_true_eq_false, not_false_eq_true] <;> omega)) (by first | omega | (simp only [Int32.lt_iff_toInt_lt, Int32.le_iff_toInt_le, Int32.reduceToInt, ← Int32.toInt_inj, true_and, and_true, or_true, true_or, false_or, or_false, false_and, and_false, not_true_eq_false, not_false_eq_true] <;> omega))
            · simp only [Int32.lt_iff_toInt_lt, Int32.le_iff_toInt_le, Int32.reduceToInt, ← Int32.toInt_inj] at h_1266
              refine v_aload_n hC dX4_repeatRows_20 rfl ?_
              refine v_aload_n hC dX4_repeatRows_21 rfl ?_
              refine v_iload_n hC dX4_repeatRows_22 rfl ?_
              refine v_iload_n hC dX4_repeatRows_23 rfl ?_
              refine v_vi hC (rest := [.ref a_0]) m_1052 hf_1260 rfl mi_X4_placeOf ms_X4_placeOf (p_X4_placeOf hW_1258 k_0) mx_X4_placeOf ml_X4_41 (by decide) rfl (cells1 := 0) (slots1 := 0) (by decide) (by decide) (Nat.le_of_ble_eq_true rfl) (Nat.le_of_ble_eq_true rfl) rfl (Nat.le_of_ble_eq_true rfl) dX4_repeatRows_24 (fun r_1270 L_1271 f_1272 h_1273 => ?_)
              obtain ⟨rfl, rfl, b_1274, h_1275, h_1276⟩ := h_1273
              refine v_aload_n hC dX4_repeatRows_27 rfl ?_
              refine v_aload_n hC dX4_repeatRows_28 rfl ?_
              refine v_iload_n hC dX4_repeatRows_29 rfl ?_
              refine v_iload_n hC dX4_repeatRows_30 rfl ?_
              obtain ⟨v_1279, h_1280⟩ : ∃ v9 : Int32, i_1043 - a_1 = v9 := ⟨_, rfl⟩
              refine v_isub hC dX4_repeatRows_31 h_1280 ?_
              have h_1281 := sub_v h_1280 (by first | omega | (simp only [Int32.lt_iff_toInt_lt, Int32.le_iff_toInt_le, Int32.reduceToInt, ← Int32.toInt_inj, true_and, and_true, or_true, true_or, false_or, or_false, false_and, and_false, not_true_eq_false, not_false_eq_true] <;> omega)) (by first | omega | (simp only [Int32.lt_iff_toInt_lt, Int32.le_iff_toInt_le, Int32.reduceToInt, ← Int32.toInt_inj, true_and, and_true, or_true, true_or, false_or, or_false, false_and, and_false, not_true_eq_false, not_false_eq_true] <;> omega))
              refine v_iload_n hC dX4_repeatRows_32 rfl ?_
              refine v_vi hC (rest := [.ref a_0, .int r_1270, .ref a_0]) m_1052 hf_1260 rfl mi_X4_placeOf ms_X4_placeOf (p_X4_placeOf hW_1258 k_0) mx_X4_placeOf ml_X4_41 (by decide) rfl (cells1 := 0) (slots1 := 0) (by decide) (by decide) (Nat.le_of_ble_eq_true rfl) (Nat.le_of_ble_eq_true rfl) rfl (Nat.le_of_ble_eq_true rfl) dX4_repeatRows_33 (fun r_1282 L_1283 f_1284 h_1285 => ?_)
              obtain ⟨rfl, rfl, b_1286, h_1287, h_1288⟩ := h_1285
              refine v_vi hC (rest := [.int r_1270, .ref a_0]) m_1052 hf_1260 rfl mi_X4_sortAt ms_X4_sortAt (p_X4_sortAt hW_1258 k_0) mx_X4_sortAt ml_X4_28 (by decide) rfl (cells1 := 0) (slots1 := 0) (by decide) (by decide) (Nat.le_of_ble_eq_true rfl) (Nat.le_of_ble_eq_true rfl) rfl (Nat.le_of_ble_eq_true rfl) dX4_repeatRows_36 (fun r_1291 L_1292 f_1293 h_1294 => ?_)
              obtain ⟨rfl, rfl, h_1295⟩ := h_1294
              refine v_vv hC (rest := []) m_1052 hf_1260 rfl mi_X4_setSort ms_X4_setSort (p_X4_setSort hW_1258 k_0) mx_X4_setSort ml_X4_115 (by decide) rfl (cells1 := 0) (slots1 := 0) (by decide) (by decide) (Nat.le_of_ble_eq_true rfl) (Nat.le_of_ble_eq_true rfl) rfl (Nat.le_of_ble_eq_true rfl) dX4_repeatRows_39 (fun L_1299 f_1300 h_1301 => ?_)
              obtain ⟨rfl, hW_1302, hF_1303⟩ := h_1301
              have hf_1304 := hF_1303.at hf_1260 rfl
              obtain ⟨v_1305, h_1306⟩ : ∃ v9 : Int32, i_1256 + Int32.ofInt 1 = v9 := ⟨_, rfl⟩
              have h_1307 := add_v (b := 1) h_1306 (by first | omega | (simp only [Int32.lt_iff_toInt_lt, Int32.le_iff_toInt_le, Int32.reduceToInt, ← Int32.toInt_inj, true_and, and_true, or_true, true_or, false_or, or_false, false_and, and_false, not_true_eq_false, not_false_eq_true] <;> omega)) (by first | omega | (simp only [Int32.lt_iff_toInt_lt, Int32.le_iff_toInt_le, Int32.reduceToInt, ← Int32.toInt_inj, true_and, and_true, or_true, true_or, false_or, or_false, false_and, and_false, not_true_eq_false, not_false_eq_true] <;> omega))
              simp only [Int32.reduceToInt] at h_1307
              refine v_iinc hC dX4_repeatRows_42 (k := 0) rfl (v := v_1305) h_1306 (by decide) (lv' := [(3, .int v_1305), (2, .int i_1043), (0, .ref a_0), (1, .int a_1)]) rfl ?_
              refine v_goto hC dX4_repeatRows_45 (tgt := 12) (by decide) ?_
              refine v_pick [0, 1, 2, 3] rfl ?_
              exact ih_1264 f_1300 hW_1302 ((hF_1259.tr hF_1303).mono rfl) v_1305 (by first | omega | (simp only [Int32.lt_iff_toInt_lt, Int32.le_iff_toInt_le, Int32.reduceToInt, ← Int32.toInt_inj, true_and, and_true, or_true, true_or, false_or, or_false, false_and, and_false, not_true_eq_false, not_false_eq_true] <;> omega)) (by first | omega | (simp only [Int32.lt_iff_toInt_lt, Int32.le_iff_toInt_le, Int32.reduceToInt, ← Int32.toInt_inj, true_and, and_true, or_true, true_or, false_or, or_false, false_and, and_false, not_true_eq_false, not_false_eq_true] <;> omega))
        refine v_pick [0, 1, 2, 3] rfl ?_
        exact lp_1262 18 f_1044 hW_1045 FR.rf 0 (by decide) (by decide)
  refine v_pick [0, 1, 2] rfl ?_
  exact lp_1048 18 f hW FR.rf a_1 (by first | omega | (simp only [Int32.lt_iff_toInt_lt, Int32.le_iff_toInt_le, Int32.reduceToInt, ← Int32.toInt_inj, true_and, and_true, or_true, true_or, false_or, or_false, false_and, and_false, not_true_eq_false, not_false_eq_true] <;> omega)) (by first | omega | (simp only [Int32.lt_iff_toInt_lt, Int32.le_iff_toInt_le, Int32.reduceToInt, ← Int32.toInt_inj, true_and, and_true, or_true, true_or, false_or, or_false, false_and, and_false, not_true_eq_false, not_false_eq_true] <;> omega))
set_option maxRecDepth 100000 in
set_option maxHeartbeats 8000000 in
theorem p_X4_listFreePlaces {l : Launch} {E : Ez} {L : List Nat} {f : Nat → va_E} {T : Nat → va_E → Prop} {a_0 : Nat} (hW : WT T L f) (k_0 : isPat T L E a_0) : CV l yX4_listFreePlaces cX4_listFreePlaces 2 1 0 0 E [.ref a_0] L f (fun L1 f1 => L = L1 ∧ WT T L f1 ∧ FR [4, 356] f f1) := by
  refine cv_of (by decide) (Nat.le_of_ble_eq_true rfl) (fun z hz hnm hC hR => ?_)
  have hC : Cx z E cX4_listFreePlaces RX4 2 1 0 0 := hC
  subst hz
  show V z E 2 0 0 L f 0 [(0, .ref a_0)] []
  refine v_aload_n hC dX4_listFreePlaces_0 rfl ?_
  refine v_iconst hC dX4_listFreePlaces_1 (v := 0) (by decide) ?_
  obtain ⟨m_1, q_3, q_4, t_2, k_5, k_6⟩ := id k_0
  obtain ⟨v_8, v_10, v_12, e_7, b_9, b_11, b_13⟩ := hW.at m_1 t_2
  refine v_put hC fl_X4_25 m_1 e_7 rfl rfl (Nat.le_of_ble_eq_true rfl) (fs' := [.ref q_3, .ref q_4, .int v_8, .int v_10, .int 0]) rfl dX4_listFreePlaces_2 (fun f_14 hf_15 hk_16 => ?_)
  have hW_17 := hW.up hf_15 hk_16 t_2 ⟨v_8, v_10, 0, rfl, (by first | omega | (simp only [Int32.lt_iff_toInt_lt, Int32.le_iff_toInt_le, Int32.reduceToInt, ← Int32.toInt_inj, true_and, and_true, or_true, true_or, false_or, or_false, false_and, and_false, not_true_eq_false, not_false_eq_true] <;> omega)), (by first | omega | (simp only [Int32.lt_iff_toInt_lt, Int32.le_iff_toInt_le, Int32.reduceToInt, ← Int32.toInt_inj, true_and, and_true, or_true, true_or, false_or, or_false, false_and, and_false, not_true_eq_false, not_false_eq_true] <;> omega)), (by decide)⟩
  have fr_18 := FR.w hk_16 e_7 (k := 4) rfl
  refine v_iconst hC dX4_listFreePlaces_5 (v := 0) (by decide) ?_
  refine v_istore_n hC dX4_listFreePlaces_6 (by decide) (lv' := [(1, .int 0), (0, .ref a_0)]) rfl ?_
  have lp_241 : ∀ (n_242 : Nat) (f_237 : Nat → va_E) (hW_238 : WT T L f_237) (hF_239 : FR [4, 356] f_14 f_237) (i_236 : Int32) (b_240 : (0 ≤ i_236.toInt ∧ i_236.toInt ≤ 256)) (hm_244 : 256 - i_236.toInt < (n_242 : Int)), V z E 2 0 0 L f_237 7 [(1, .int i_236), (0, .ref a_0)] [] := by
    intro n_242
    induction n_242 with
    | zero =>
      intro f_237 hW_238 hF_239 i_236 b_240 hm_244
      exfalso; omega
    | succ n_242 ih_243 =>
      intro f_237 hW_238 hF_239 i_236 b_240 hm_244
      refine v_iload_n hC dX4_listFreePlaces_7 rfl ?_
      refine v_aload_n hC dX4_listFreePlaces_8 rfl ?_
      obtain ⟨v_246, v_248, v_250, e_245, b_247, b_249, b_251⟩ := hW_238.at m_1 t_2
      refine v_vi hC (rest := [.int i_236]) m_1 e_245 rfl mi_X4_places ms_X4_places (p_X4_places hW_238 k_0) mx_X4_places ml_X4_119 (by decide) rfl (cells1 := 0) (slots1 := 0) (by decide) (by decide) (Nat.le_of_ble_eq_true rfl) (Nat.le_of_ble_eq_true rfl) rfl (Nat.le_of_ble_eq_true rfl) dX4_listFreePlaces_9 (fun r_252 L_253 f_254 h_255 => ?_)
      obtain ⟨rfl, rfl, b_256⟩ := h_255
      refine v_icmp_ge hC dX4_listFreePlaces_12 (tgt := 60) (by decide) (fun h_259 => ?_) (fun h_259 => ?_)
      · simp only [Int32.lt_iff_toInt_lt, Int32.le_iff_toInt_le, Int32.reduceToInt, ← Int32.toInt_inj] at h_259
        exact hR _ _ _ _ _ _ dX4_listFreePlaces_60 (Nat.le_of_ble_eq_true rfl) (Nat.le_of_ble_eq_true rfl) ⟨rfl, hW_238, ((fr_18.tr hF_239).mono rfl)⟩
      · simp only [Int32.lt_iff_toInt_lt, Int32.le_iff_toInt_le, Int32.reduceToInt, ← Int32.toInt_inj] at h_259
        refine v_aload_n hC dX4_listFreePlaces_15 rfl ?_
        refine v_iload_n hC dX4_listFreePlaces_16 rfl ?_
        refine v_vi hC (rest := []) m_1 e_245 rfl mi_X4_sortAt ms_X4_sortAt (p_X4_sortAt hW_238 k_0) mx_X4_sortAt ml_X4_28 (by decide) rfl (cells1 := 0) (slots1 := 0) (by decide) (by decide) (Nat.le_of_ble_eq_true rfl) (Nat.le_of_ble_eq_true rfl) rfl (Nat.le_of_ble_eq_true rfl) dX4_listFreePlaces_17 (fun r_260 L_261 f_262 h_263 => ?_)
        obtain ⟨rfl, rfl, h_264⟩ := h_263
        refine v_iconst hC dX4_listFreePlaces_20 (v := 2) (by decide) ?_
        refine v_icmp_lt hC dX4_listFreePlaces_21 (tgt := 54) (by decide) (fun h_267 => ?_) (fun h_267 => ?_)
        · simp only [Int32.lt_iff_toInt_lt, Int32.le_iff_toInt_le, Int32.reduceToInt, ← Int32.toInt_inj] at h_267
          obtain ⟨v_268, h_269⟩ : ∃ v9 : Int32, i_236 + Int32.ofInt 1 = v9 := ⟨_, rfl⟩
          have h_270 := add_v (b := 1) h_269 (by first | omega | (simp only [Int32.lt_iff_toInt_lt, Int32.le_iff_toInt_le, Int32.reduceToInt, ← Int32.toInt_inj, true_and, and_true, or_true, true_or, false_or, or_false, false_and, and_false, not_true_eq_false, not_false_eq_true] <;> omega)) (by first | omega | (simp only [Int32.lt_iff_toInt_lt, Int32.le_iff_toInt_le, Int32.reduceToInt, ← Int32.toInt_inj, true_and, and_true, or_true, true_or, false_or, or_false, false_and, and_false, not_true_eq_false, not_false_eq_true] <;> omega))
          simp only [Int32.reduceToInt] at h_270
          refine v_iinc hC dX4_listFreePlaces_54 (k := 0) rfl (v := v_268) h_269 (by decide) (lv' := [(1, .int v_268), (0, .ref a_0)]) rfl ?_
          refine v_goto hC dX4_listFreePlaces_57 (tgt := 7) (by decide) ?_
          refine v_pick [0, 1] rfl ?_
          exact ih_243 f_237 hW_238 (hF_239.mono rfl) v_268 (by first | omega | (simp only [Int32.lt_iff_toInt_lt, Int32.le_iff_toInt_le, Int32.reduceToInt, ← Int32.toInt_inj, true_and, and_true, or_true, true_or, false_or, or_false, false_and, and_false, not_true_eq_false, not_false_eq_true] <;> omega)) (by first | omega | (simp only [Int32.lt_iff_toInt_lt, Int32.le_iff_toInt_le, Int32.reduceToInt, ← Int32.toInt_inj, true_and, and_true, or_true, true_or, false_or, or_false, false_and, and_false, not_true_eq_false, not_false_eq_true] <;> omega))
        · simp only [Int32.lt_iff_toInt_lt, Int32.le_iff_toInt_le, Int32.reduceToInt, ← Int32.toInt_inj] at h_267
          refine v_aload_n hC dX4_listFreePlaces_24 rfl ?_
          refine v_get hC fl_X4_25 m_1 e_245 rfl dX4_listFreePlaces_25 ?_
          refine v_sipush hC dX4_listFreePlaces_28 (v := 256) (by decide) ?_
          refine v_icmp_ge hC dX4_listFreePlaces_31 (tgt := 54) (by decide) (fun h_271 => ?_) (fun h_271 => ?_)
          · simp only [Int32.lt_iff_toInt_lt, Int32.le_iff_toInt_le, Int32.reduceToInt, ← Int32.toInt_inj] at h_271
            obtain ⟨v_272, h_273⟩ : ∃ v9 : Int32, i_236 + Int32.ofInt 1 = v9 := ⟨_, rfl⟩
            have h_274 := add_v (b := 1) h_273 (by first | omega | (simp only [Int32.lt_iff_toInt_lt, Int32.le_iff_toInt_le, Int32.reduceToInt, ← Int32.toInt_inj, true_and, and_true, or_true, true_or, false_or, or_false, false_and, and_false, not_true_eq_false, not_false_eq_true] <;> omega)) (by first | omega | (simp only [Int32.lt_iff_toInt_lt, Int32.le_iff_toInt_le, Int32.reduceToInt, ← Int32.toInt_inj, true_and, and_true, or_true, true_or, false_or, or_false, false_and, and_false, not_true_eq_false, not_false_eq_true] <;> omega))
            simp only [Int32.reduceToInt] at h_274
            refine v_iinc hC dX4_listFreePlaces_54 (k := 0) rfl (v := v_272) h_273 (by decide) (lv' := [(1, .int v_272), (0, .ref a_0)]) rfl ?_
            refine v_goto hC dX4_listFreePlaces_57 (tgt := 7) (by decide) ?_
            refine v_pick [0, 1] rfl ?_
            exact ih_243 f_237 hW_238 (hF_239.mono rfl) v_272 (by first | omega | (simp only [Int32.lt_iff_toInt_lt, Int32.le_iff_toInt_le, Int32.reduceToInt, ← Int32.toInt_inj, true_and, and_true, or_true, true_or, false_or, or_false, false_and, and_false, not_true_eq_false, not_false_eq_true] <;> omega)) (by first | omega | (simp only [Int32.lt_iff_toInt_lt, Int32.le_iff_toInt_le, Int32.reduceToInt, ← Int32.toInt_inj, true_and, and_true, or_true, true_or, false_or, or_false, false_and, and_false, not_true_eq_false, not_false_eq_true] <;> omega))
          · simp only [Int32.lt_iff_toInt_lt, Int32.le_iff_toInt_le, Int32.reduceToInt, ← Int32.toInt_inj] at h_271
            refine v_aload_n hC dX4_listFreePlaces_34 rfl ?_
            refine v_get hC fl_X4_15 m_1 e_245 rfl dX4_listFreePlaces_35 ?_
            refine v_aload_n hC dX4_listFreePlaces_38 rfl ?_
            refine v_get hC fl_X4_25 m_1 e_245 rfl dX4_listFreePlaces_39 ?_
            refine v_iload_n hC dX4_listFreePlaces_42 rfl ?_
            obtain ⟨m_275, t_276⟩ := id k_6
            obtain ⟨g_278, e_277⟩ := hW_238.at m_275 t_276
            refine v_iast hC m_275 e_277 (vp_in_iff.mpr (by first | omega | (simp only [Int32.lt_iff_toInt_lt, Int32.le_iff_toInt_le, Int32.reduceToInt, ← Int32.toInt_inj, true_and, and_true, or_true, true_or, false_or, or_false, false_and, and_false, not_true_eq_false, not_false_eq_true] <;> omega))) dX4_listFreePlaces_43 (fun f_279 hf_280 hk_281 => ?_)
            have hW_283 := hW_238.up hf_280 hk_281 t_276 ⟨_, rfl⟩
            obtain ⟨g_282, hf_280⟩ : ∃ g9, f_279 q_4 = aI E 256 g9 := ⟨_, hf_280⟩
            have hf_284 := (hk_281 a_0 (ne_kd e_245 e_277 rfl)).trans e_245
            have fr_285 := FR.w hk_281 e_277 (k := 356) rfl
            refine v_aload_n hC dX4_listFreePlaces_44 rfl ?_
            refine v_dup hC dX4_listFreePlaces_45 rfl ?_
            refine v_get hC fl_X4_25 m_1 hf_284 rfl dX4_listFreePlaces_46 ?_
            refine v_iconst hC dX4_listFreePlaces_49 (v := 1) (by decide) ?_
            obtain ⟨v_286, h_287⟩ : ∃ v9 : Int32, v_250 + 1 = v9 := ⟨_, rfl⟩
            refine v_iadd hC dX4_listFreePlaces_50 h_287 ?_
            have h_288 := add_v h_287 (by first | omega | (simp only [Int32.lt_iff_toInt_lt, Int32.le_iff_toInt_le, Int32.reduceToInt, ← Int32.toInt_inj, true_and, and_true, or_true, true_or, false_or, or_false, false_and, and_false, not_true_eq_false, not_false_eq_true] <;> omega)) (by first | omega | (simp only [Int32.lt_iff_toInt_lt, Int32.le_iff_toInt_le, Int32.reduceToInt, ← Int32.toInt_inj, true_and, and_true, or_true, true_or, false_or, or_false, false_and, and_false, not_true_eq_false, not_false_eq_true] <;> omega))
            try simp only [Int32.reduceToInt] at h_288
            refine v_put hC fl_X4_25 m_1 hf_284 rfl rfl (Nat.le_of_ble_eq_true rfl) (fs' := [.ref q_3, .ref q_4, .int v_246, .int v_248, .int v_286]) rfl dX4_listFreePlaces_51 (fun f_289 hf_290 hk_291 => ?_)
            have hW_292 := hW_283.up hf_290 hk_291 t_2 ⟨v_246, v_248, v_286, rfl, (by first | omega | (simp only [Int32.lt_iff_toInt_lt, Int32.le_iff_toInt_le, Int32.reduceToInt, ← Int32.toInt_inj, true_and, and_true, or_true, true_or, false_or, or_false, false_and, and_false, not_true_eq_false, not_false_eq_true] <;> omega)), (by first | omega | (simp only [Int32.lt_iff_toInt_lt, Int32.le_iff_toInt_le, Int32.reduceToInt, ← Int32.toInt_inj, true_and, and_true, or_true, true_or, false_or, or_false, false_and, and_false, not_true_eq_false, not_false_eq_true] <;> omega)), (by first | omega | (simp only [Int32.lt_iff_toInt_lt, Int32.le_iff_toInt_le, Int32.reduceToInt, ← Int32.toInt_inj, true_and, and_true, or_true, true_or, false_or, or_false, false_and, and_false, not_true_eq_false, not_false_eq_true] <;> omega))⟩
            have hf_293 := (hk_291 q_4 (ne_kd hf_280 hf_284 rfl)).trans hf_280
            have fr_294 := FR.w hk_291 hf_284 (k := 4) rfl
            obtain ⟨v_295, h_296⟩ : ∃ v9 : Int32, i_236 + Int32.ofInt 1 = v9 := ⟨_, rfl⟩
            have h_297 := add_v (b := 1) h_296 (by first | omega | (simp only [Int32.lt_iff_toInt_lt, Int32.le_iff_toInt_le, Int32.reduceToInt, ← Int32.toInt_inj, true_and, and_true, or_true, true_or, false_or, or_false, false_and, and_false, not_true_eq_false, not_false_eq_true] <;> omega)) (by first | omega | (simp only [Int32.lt_iff_toInt_lt, Int32.le_iff_toInt_le, Int32.reduceToInt, ← Int32.toInt_inj, true_and, and_true, or_true, true_or, false_or, or_false, false_and, and_false, not_true_eq_false, not_false_eq_true] <;> omega))
            simp only [Int32.reduceToInt] at h_297
            refine v_iinc hC dX4_listFreePlaces_54 (k := 0) rfl (v := v_295) h_296 (by decide) (lv' := [(1, .int v_295), (0, .ref a_0)]) rfl ?_
            refine v_goto hC dX4_listFreePlaces_57 (tgt := 7) (by decide) ?_
            refine v_pick [0, 1] rfl ?_
            exact ih_243 f_289 hW_292 (((hF_239.tr fr_285).tr fr_294).mono rfl) v_295 (by first | omega | (simp only [Int32.lt_iff_toInt_lt, Int32.le_iff_toInt_le, Int32.reduceToInt, ← Int32.toInt_inj, true_and, and_true, or_true, true_or, false_or, or_false, false_and, and_false, not_true_eq_false, not_false_eq_true] <;> omega)) (by first | omega | (simp only [Int32.lt_iff_toInt_lt, Int32.le_iff_toInt_le, Int32.reduceToInt, ← Int32.toInt_inj, true_and, and_true, or_true, true_or, false_or, or_false, false_and, and_false, not_true_eq_false, not_false_eq_true] <;> omega))
  refine v_pick [0, 1] rfl ?_
  exact lp_241 258 f_14 hW_17 FR.rf 0 (by decide) (by decide)
set_option maxRecDepth 100000 in
set_option maxHeartbeats 8000000 in
theorem p_X4_tell {l : Launch} {E : Ez} {L : List Nat} {f : Nat → va_E} {T : Nat → va_E → Prop} {a_0 : Nat} {a_1 : Nat} (hW : WT T L f) (k_0 : isPat T L E a_0) (k_1 : isTape T L E a_1) : CI l yX4_tell cX4_tell 3 .boolean 7 0 0 E [.ref a_0, .ref a_1] L f (fun r L1 f1 => L = L1 ∧ WT T L f1 ∧ FR [4, 7, 356] f f1 ∧ (0 ≤ r.toInt ∧ r.toInt ≤ 1)) := by
  refine ci_of (by decide) (Nat.le_of_ble_eq_true rfl) (fun z hz hnm hC hR => ?_)
  have hC : Cx z E cX4_tell RX4 3 7 0 0 := hC
  subst hz
  show V z E 3 0 0 L f 0 [(0, .ref a_0), (1, .ref a_1)] []
  refine v_aload_n hC dX4_tell_0 rfl ?_
  obtain ⟨m_1, q_3, t_2, k_4⟩ := id k_1
  obtain ⟨v_6, v_8, v_9, v_11, v_13, v_14, e_5, b_7, b_10, b_12⟩ := hW.at m_1 t_2
  refine v_vv hC (rest := []) m_1 e_5 rfl mi_X7_start ms_X7_start (p_X7_start hW k_1) mx_X7_start ml_X4_51 (by decide) rfl (cells1 := 0) (slots1 := 0) (by decide) (by decide) (Nat.le_of_ble_eq_true rfl) (Nat.le_of_ble_eq_true rfl) rfl (Nat.le_of_ble_eq_true rfl) dX4_tell_1 (fun L_16 f_17 h_18 => ?_)
  obtain ⟨rfl, hW_19, hF_20⟩ := h_18
  refine v_aload_n hC dX4_tell_4 rfl ?_
  refine v_ldcS hC sr_X4_56 dX4_tell_5 ?_
  obtain ⟨v_22, v_24, v_25, v_27, v_29, v_30, e_21, b_23, b_26, b_28⟩ := hW_19.at m_1 t_2
  refine v_vv hC (rest := []) m_1 e_21 rfl mi_X7_takeWord ms_X7_takeWord (p_X7_takeWord hW_19 k_1 (by decide)) mx_X7_takeWord ml_X4_57 (by decide) rfl (cells1 := 0) (slots1 := 0) (by decide) (by decide) (Nat.le_of_ble_eq_true rfl) (Nat.le_of_ble_eq_true rfl) rfl (Nat.le_of_ble_eq_true rfl) dX4_tell_7 (fun L_32 f_33 h_34 => ?_)
  obtain ⟨rfl, hW_35, hF_36⟩ := h_34
  refine v_aload_n hC dX4_tell_10 rfl ?_
  refine v_aload_n hC dX4_tell_11 rfl ?_
  refine v_iconst hC dX4_tell_12 (v := 1) (by decide) ?_
  refine v_bipush hC dX4_tell_13 (v := 16) (by decide) ?_
  obtain ⟨v_38, v_40, v_41, v_43, v_45, v_46, e_37, b_39, b_42, b_44⟩ := hW_35.at m_1 t_2
  refine v_vi hC (rest := [.ref a_0]) m_1 e_37 rfl mi_X7_takeNumber ms_X7_takeNumber (p_X7_takeNumber hW_35 k_1) mx_X7_takeNumber ml_X4_61 (by decide) rfl (cells1 := 0) (slots1 := 0) (by decide) (by decide) (Nat.le_of_ble_eq_true rfl) (Nat.le_of_ble_eq_true rfl) rfl (Nat.le_of_ble_eq_true rfl) dX4_tell_15 (fun r_47 L_48 f_49 h_50 => ?_)
  obtain ⟨rfl, hW_52, hF_53, x_51⟩ := h_50
  try simp only [Int32.reduceToInt, Int64.reduceToInt] at x_51
  obtain ⟨m_54, q_56, q_57, t_55, k_58, k_59⟩ := id k_0
  obtain ⟨v_61, v_63, v_65, e_60, b_62, b_64, b_66⟩ := hW_52.at m_54 t_55
  refine v_put hC fl_X4_22 m_54 e_60 rfl rfl (Nat.le_of_ble_eq_true rfl) (fs' := [.ref q_56, .ref q_57, .int r_47, .int v_63, .int v_65]) rfl dX4_tell_18 (fun f_67 hf_68 hk_69 => ?_)
  have hW_70 := hW_52.up hf_68 hk_69 t_55 ⟨r_47, v_63, v_65, rfl, (by first | omega | (simp only [Int32.lt_iff_toInt_lt, Int32.le_iff_toInt_le, Int32.reduceToInt, ← Int32.toInt_inj, true_and, and_true, or_true, true_or, false_or, or_false, false_and, and_false, not_true_eq_false, not_false_eq_true] <;> omega)), (by first | omega | (simp only [Int32.lt_iff_toInt_lt, Int32.le_iff_toInt_le, Int32.reduceToInt, ← Int32.toInt_inj, true_and, and_true, or_true, true_or, false_or, or_false, false_and, and_false, not_true_eq_false, not_false_eq_true] <;> omega)), (by first | omega | (simp only [Int32.lt_iff_toInt_lt, Int32.le_iff_toInt_le, Int32.reduceToInt, ← Int32.toInt_inj, true_and, and_true, or_true, true_or, false_or, or_false, false_and, and_false, not_true_eq_false, not_false_eq_true] <;> omega))⟩
  have fr_71 := FR.w hk_69 e_60 (k := 4) rfl
  refine v_aload_n hC dX4_tell_21 rfl ?_
  refine v_ldcS hC sr_X4_64 dX4_tell_22 ?_
  obtain ⟨v_73, v_75, v_76, v_78, v_80, v_81, e_72, b_74, b_77, b_79⟩ := hW_70.at m_1 t_2
  refine v_vv hC (rest := []) m_1 e_72 rfl mi_X7_takeWord ms_X7_takeWord (p_X7_takeWord hW_70 k_1 (by decide)) mx_X7_takeWord ml_X4_57 (by decide) rfl (cells1 := 0) (slots1 := 0) (by decide) (by decide) (Nat.le_of_ble_eq_true rfl) (Nat.le_of_ble_eq_true rfl) rfl (Nat.le_of_ble_eq_true rfl) dX4_tell_24 (fun L_83 f_84 h_85 => ?_)
  obtain ⟨rfl, hW_86, hF_87⟩ := h_85
  have hf_88 := hF_87.at hf_68 rfl
  refine v_aload_n hC dX4_tell_27 rfl ?_
  refine v_aload_n hC dX4_tell_28 rfl ?_
  refine v_iconst hC dX4_tell_29 (v := 1) (by decide) ?_
  refine v_bipush hC dX4_tell_30 (v := 16) (by decide) ?_
  obtain ⟨v_90, v_92, v_93, v_95, v_97, v_98, e_89, b_91, b_94, b_96⟩ := hW_86.at m_1 t_2
  refine v_vi hC (rest := [.ref a_0]) m_1 e_89 rfl mi_X7_takeNumber ms_X7_takeNumber (p_X7_takeNumber hW_86 k_1) mx_X7_takeNumber ml_X4_61 (by decide) rfl (cells1 := 0) (slots1 := 0) (by decide) (by decide) (Nat.le_of_ble_eq_true rfl) (Nat.le_of_ble_eq_true rfl) rfl (Nat.le_of_ble_eq_true rfl) dX4_tell_32 (fun r_99 L_100 f_101 h_102 => ?_)
  obtain ⟨rfl, hW_104, hF_105, x_103⟩ := h_102
  have hf_106 := hF_105.at hf_88 rfl
  try simp only [Int32.reduceToInt, Int64.reduceToInt] at x_103
  refine v_put hC fl_X4_18 m_54 hf_106 rfl rfl (Nat.le_of_ble_eq_true rfl) (fs' := [.ref q_56, .ref q_57, .int r_47, .int r_99, .int v_65]) rfl dX4_tell_35 (fun f_107 hf_108 hk_109 => ?_)
  have hW_110 := hW_104.up hf_108 hk_109 t_55 ⟨r_47, r_99, v_65, rfl, (by first | omega | (simp only [Int32.lt_iff_toInt_lt, Int32.le_iff_toInt_le, Int32.reduceToInt, ← Int32.toInt_inj, true_and, and_true, or_true, true_or, false_or, or_false, false_and, and_false, not_true_eq_false, not_false_eq_true] <;> omega)), (by first | omega | (simp only [Int32.lt_iff_toInt_lt, Int32.le_iff_toInt_le, Int32.reduceToInt, ← Int32.toInt_inj, true_and, and_true, or_true, true_or, false_or, or_false, false_and, and_false, not_true_eq_false, not_false_eq_true] <;> omega)), (by first | omega | (simp only [Int32.lt_iff_toInt_lt, Int32.le_iff_toInt_le, Int32.reduceToInt, ← Int32.toInt_inj, true_and, and_true, or_true, true_or, false_or, or_false, false_and, and_false, not_true_eq_false, not_false_eq_true] <;> omega))⟩
  have fr_111 := FR.w hk_109 hf_106 (k := 4) rfl
  refine v_aload_n hC dX4_tell_38 rfl ?_
  obtain ⟨v_113, v_115, v_116, v_118, v_120, v_121, e_112, b_114, b_117, b_119⟩ := hW_110.at m_1 t_2
  refine v_vv hC (rest := []) m_1 e_112 rfl mi_X7_takeSemicolon ms_X7_takeSemicolon (p_X7_takeSemicolon hW_110 k_1) mx_X7_takeSemicolon ml_X4_66 (by decide) rfl (cells1 := 0) (slots1 := 0) (by decide) (by decide) (Nat.le_of_ble_eq_true rfl) (Nat.le_of_ble_eq_true rfl) rfl (Nat.le_of_ble_eq_true rfl) dX4_tell_39 (fun L_123 f_124 h_125 => ?_)
  obtain ⟨rfl, hW_126, hF_127⟩ := h_125
  have hf_128 := hF_127.at hf_108 rfl
  refine v_aload_n hC dX4_tell_42 rfl ?_
  refine v_aload_n hC dX4_tell_43 rfl ?_
  refine v_iconst hC dX4_tell_44 (v := 0) (by decide) ?_
  refine v_vv hC (rest := []) m_54 hf_128 rfl mi_X4_tellRow ms_X4_tellRow (p_X4_tellRow hW_126 k_0 k_1) mx_X4_tellRow ml_X4_69 (by decide) rfl (cells1 := 0) (slots1 := 0) (by decide) (by decide) (Nat.le_of_ble_eq_true rfl) (Nat.le_of_ble_eq_true rfl) rfl (Nat.le_of_ble_eq_true rfl) dX4_tell_45 (fun L_130 f_131 h_132 => ?_)
  obtain ⟨rfl, hW_133, hF_134⟩ := h_132
  have hf_135 := hF_134.at hf_128 rfl
  refine v_iconst hC dX4_tell_48 (v := 1) (by decide) ?_
  refine v_istore_n hC dX4_tell_49 (by decide) (lv' := [(2, .int 1), (0, .ref a_0), (1, .ref a_1)]) rfl ?_
  have lp_584 : ∀ (n_585 : Nat) (f_579 : Nat → va_E) (hW_580 : WT T L f_579) (hF_581 : FR [7, 356] f_131 f_579) (i_578 : Int32) (b_583 : (1 ≤ i_578.toInt ∧ i_578.toInt ≤ 9)) (hm_587 : 9 - i_578.toInt < (n_585 : Int)), V z E 3 0 0 L f_579 50 [(2, .int i_578), (0, .ref a_0), (1, .ref a_1)] [] := by
    intro n_585
    induction n_585 with
    | zero =>
      intro f_579 hW_580 hF_581 i_578 b_583 hm_587
      have hf_582 := hF_581.at hf_135 rfl
      exfalso; omega
    | succ n_585 ih_586 =>
      intro f_579 hW_580 hF_581 i_578 b_583 hm_587
      have hf_582 := hF_581.at hf_135 rfl
      refine v_iload_n hC dX4_tell_50 rfl ?_
      refine v_bipush hC dX4_tell_51 (v := 8) (by decide) ?_
      have jn_617 : V z E 3 0 0 L f_579 75 [(2, .int i_578), (0, .ref a_0), (1, .ref a_1)] [] := by
        refine v_aload_n hC dX4_tell_75 rfl ?_
        obtain ⟨v_619, v_621, v_622, v_624, v_626, v_627, e_618, b_620, b_623, b_625⟩ := hW_580.at m_1 t_2
        refine v_vi hC (rest := []) m_1 e_618 rfl mi_X7_isFine ms_X7_isFine (p_X7_isFine hW_580 k_1) mx_X7_isFine ml_X4_77 (by decide) rfl (cells1 := 0) (slots1 := 0) (by decide) (by decide) (Nat.le_of_ble_eq_true rfl) (Nat.le_of_ble_eq_true rfl) rfl (Nat.le_of_ble_eq_true rfl) dX4_tell_76 (fun r_628 L_629 f_630 h_631 => ?_)
        obtain ⟨rfl, rfl, b_632⟩ := h_631
        refine v_if_eq hC dX4_tell_79 (tgt := 91) (by decide) (fun h_635 => ?_) (fun h_635 => ?_)
        · simp only [Int32.lt_iff_toInt_lt, Int32.le_iff_toInt_le, Int32.reduceToInt, ← Int32.toInt_inj] at h_635
          refine v_aload_n hC dX4_tell_91 rfl ?_
          refine v_vi hC (rest := []) m_1 e_618 rfl mi_X7_isFine ms_X7_isFine (p_X7_isFine hW_580 k_1) mx_X7_isFine ml_X4_77 (by decide) rfl (cells1 := 0) (slots1 := 0) (by decide) (by decide) (Nat.le_of_ble_eq_true rfl) (Nat.le_of_ble_eq_true rfl) rfl (Nat.le_of_ble_eq_true rfl) dX4_tell_92 (fun r_636 L_637 f_638 h_639 => ?_)
          obtain ⟨rfl, rfl, b_640⟩ := h_639
          exact hR _ _ _ _ _ _ _ dX4_tell_95 (nar01 (by first | omega | (simp only [Int32.lt_iff_toInt_lt, Int32.le_iff_toInt_le, Int32.reduceToInt, ← Int32.toInt_inj, true_and, and_true, or_true, true_or, false_or, or_false, false_and, and_false, not_true_eq_false, not_false_eq_true] <;> omega))) (Nat.le_of_ble_eq_true rfl) (Nat.le_of_ble_eq_true rfl) ⟨rfl, hW_580, ((((((((((hF_20.tr hF_36).tr hF_53).tr fr_71).tr hF_87).tr hF_105).tr fr_111).tr hF_127).tr hF_134).tr hF_581).mono rfl), (by first | omega | (simp only [Int32.lt_iff_toInt_lt, Int32.le_iff_toInt_le, Int32.reduceToInt, ← Int32.toInt_inj, true_and, and_true, or_true, true_or, false_or, or_false, false_and, and_false, not_true_eq_false, not_false_eq_true] <;> omega))⟩
        · simp only [Int32.lt_iff_toInt_lt, Int32.le_iff_toInt_le, Int32.reduceToInt, ← Int32.toInt_inj] at h_635
          refine v_aload_n hC dX4_tell_82 rfl ?_
          refine v_iload_n hC dX4_tell_83 rfl ?_
          refine v_vv hC (rest := []) m_54 hf_582 rfl mi_X4_repeatRows ms_X4_repeatRows (p_X4_repeatRows hW_580 k_0 (by first | omega | (simp only [Int32.lt_iff_toInt_lt, Int32.le_iff_toInt_le, Int32.reduceToInt, ← Int32.toInt_inj, true_and, and_true, or_true, true_or, false_or, or_false, false_and, and_false, not_true_eq_false, not_false_eq_true] <;> omega))) mx_X4_repeatRows ml_X4_80 (by decide) rfl (cells1 := 0) (slots1 := 0) (by decide) (by decide) (Nat.le_of_ble_eq_true rfl) (Nat.le_of_ble_eq_true rfl) rfl (Nat.le_of_ble_eq_true rfl) dX4_tell_84 (fun L_644 f_645 h_646 => ?_)
          obtain ⟨rfl, hW_647, hF_648⟩ := h_646
          have hf_649 := hF_648.at hf_582 rfl
          have hf_650 := hF_648.at e_618 rfl
          refine v_aload_n hC dX4_tell_87 rfl ?_
          refine v_vv hC (rest := []) m_54 hf_649 rfl mi_X4_listFreePlaces ms_X4_listFreePlaces (p_X4_listFreePlaces hW_647 k_0) mx_X4_listFreePlaces ml_X4_84 (by decide) rfl (cells1 := 0) (slots1 := 0) (by decide) (by decide) (Nat.le_of_ble_eq_true rfl) (Nat.le_of_ble_eq_true rfl) rfl (Nat.le_of_ble_eq_true rfl) dX4_tell_88 (fun L_652 f_653 h_654 => ?_)
          obtain ⟨rfl, hW_655, hF_656⟩ := h_654
          have hf_657 := hF_656.at hf_650 rfl
          refine v_aload_n hC dX4_tell_91 rfl ?_
          refine v_vi hC (rest := []) m_1 hf_657 rfl mi_X7_isFine ms_X7_isFine (p_X7_isFine hW_655 k_1) mx_X7_isFine ml_X4_77 (by decide) rfl (cells1 := 0) (slots1 := 0) (by decide) (by decide) (Nat.le_of_ble_eq_true rfl) (Nat.le_of_ble_eq_true rfl) rfl (Nat.le_of_ble_eq_true rfl) dX4_tell_92 (fun r_658 L_659 f_660 h_661 => ?_)
          obtain ⟨rfl, rfl, b_662⟩ := h_661
          exact hR _ _ _ _ _ _ _ dX4_tell_95 (nar01 (by first | omega | (simp only [Int32.lt_iff_toInt_lt, Int32.le_iff_toInt_le, Int32.reduceToInt, ← Int32.toInt_inj, true_and, and_true, or_true, true_or, false_or, or_false, false_and, and_false, not_true_eq_false, not_false_eq_true] <;> omega))) (Nat.le_of_ble_eq_true rfl) (Nat.le_of_ble_eq_true rfl) ⟨rfl, hW_655, ((((((((((((hF_20.tr hF_36).tr hF_53).tr fr_71).tr hF_87).tr hF_105).tr fr_111).tr hF_127).tr hF_134).tr hF_581).tr hF_648).tr hF_656).mono rfl), (by first | omega | (simp only [Int32.lt_iff_toInt_lt, Int32.le_iff_toInt_le, Int32.reduceToInt, ← Int32.toInt_inj, true_and, and_true, or_true, true_or, false_or, or_false, false_and, and_false, not_true_eq_false, not_false_eq_true] <;> omega))⟩
      refine v_icmp_gt hC dX4_tell_53 (tgt := 75) (by decide) (fun h_588 => ?_) (fun h_588 => ?_)
      · simp only [Int32.lt_iff_toInt_lt, Int32.le_iff_toInt_le, Int32.reduceToInt, ← Int32.toInt_inj] at h_588
        refine v_pick [0, 1, 2] rfl ?_
        exact jn_617 
      · simp only [Int32.lt_iff_toInt_lt, Int32.le_iff_toInt_le, Int32.reduceToInt, ← Int32.toInt_inj] at h_588
        refine v_aload_n hC dX4_tell_56 rfl ?_
        obtain ⟨v_666, v_668, v_669, v_671, v_673, v_674, e_665, b_667, b_670, b_672⟩ := hW_580.at m_1 t_2
        refine v_vi hC (rest := []) m_1 e_665 rfl mi_X7_goesOn ms_X7_goesOn (p_X7_goesOn hW_580 k_1) mx_X7_goesOn ml_X4_73 (by decide) rfl (cells1 := 0) (slots1 := 0) (by decide) (by decide) (Nat.le_of_ble_eq_true rfl) (Nat.le_of_ble_eq_true rfl) rfl (Nat.le_of_ble_eq_true rfl) dX4_tell_57 (fun r_675 L_676 f_677 h_678 => ?_)
        obtain ⟨rfl, rfl, b_679⟩ := h_678
        refine v_if_eq hC dX4_tell_60 (tgt := 75) (by decide) (fun h_682 => ?_) (fun h_682 => ?_)
        · simp only [Int32.lt_iff_toInt_lt, Int32.le_iff_toInt_le, Int32.reduceToInt, ← Int32.toInt_inj] at h_682
          refine v_pick [0, 1, 2] rfl ?_
          exact jn_617 
        · simp only [Int32.lt_iff_toInt_lt, Int32.le_iff_toInt_le, Int32.reduceToInt, ← Int32.toInt_inj] at h_682
          refine v_aload_n hC dX4_tell_63 rfl ?_
          refine v_aload_n hC dX4_tell_64 rfl ?_
          refine v_iload_n hC dX4_tell_65 rfl ?_
          refine v_vv hC (rest := []) m_54 hf_582 rfl mi_X4_tellRow ms_X4_tellRow (p_X4_tellRow hW_580 k_0 k_1) mx_X4_tellRow ml_X4_69 (by decide) rfl (cells1 := 0) (slots1 := 0) (by decide) (by decide) (Nat.le_of_ble_eq_true rfl) (Nat.le_of_ble_eq_true rfl) rfl (Nat.le_of_ble_eq_true rfl) dX4_tell_66 (fun L_684 f_685 h_686 => ?_)
          obtain ⟨rfl, hW_687, hF_688⟩ := h_686
          have hf_689 := hF_688.at hf_582 rfl
          obtain ⟨v_690, h_691⟩ : ∃ v9 : Int32, i_578 + Int32.ofInt 1 = v9 := ⟨_, rfl⟩
          have h_692 := add_v (b := 1) h_691 (by first | omega | (simp only [Int32.lt_iff_toInt_lt, Int32.le_iff_toInt_le, Int32.reduceToInt, ← Int32.toInt_inj, true_and, and_true, or_true, true_or, false_or, or_false, false_and, and_false, not_true_eq_false, not_false_eq_true] <;> omega)) (by first | omega | (simp only [Int32.lt_iff_toInt_lt, Int32.le_iff_toInt_le, Int32.reduceToInt, ← Int32.toInt_inj, true_and, and_true, or_true, true_or, false_or, or_false, false_and, and_false, not_true_eq_false, not_false_eq_true] <;> omega))
          simp only [Int32.reduceToInt] at h_692
          refine v_iinc hC dX4_tell_69 (k := 0) rfl (v := v_690) h_691 (by decide) (lv' := [(2, .int v_690), (0, .ref a_0), (1, .ref a_1)]) rfl ?_
          refine v_goto hC dX4_tell_72 (tgt := 50) (by decide) ?_
          refine v_pick [0, 1, 2] rfl ?_
          exact ih_586 f_685 hW_687 ((hF_581.tr hF_688).mono rfl) v_690 (by first | omega | (simp only [Int32.lt_iff_toInt_lt, Int32.le_iff_toInt_le, Int32.reduceToInt, ← Int32.toInt_inj, true_and, and_true, or_true, true_or, false_or, or_false, false_and, and_false, not_true_eq_false, not_false_eq_true] <;> omega)) (by first | omega | (simp only [Int32.lt_iff_toInt_lt, Int32.le_iff_toInt_le, Int32.reduceToInt, ← Int32.toInt_inj, true_and, and_true, or_true, true_or, false_or, or_false, false_and, and_false, not_true_eq_false, not_false_eq_true] <;> omega))
  refine v_pick [0, 1, 2] rfl ?_
  exact lp_584 10 f_131 hW_133 FR.rf 1 (by decide) (by decide)
set_option maxRecDepth 100000 in
set_option maxHeartbeats 8000000 in
theorem p_X10_takeFrom {l : Launch} {E : Ez} {L : List Nat} {f : Nat → va_E} {T : Nat → va_E → Prop} {a_0 : Nat} {a_1 : Nat} (hW : WT T L f) (k_0 : isWay T L E a_0) (k_1 : isWay T L E a_1) : CV l yX10_takeFrom cX10_takeFrom 2 0 0 0 E [.ref a_0, .ref a_1] L f (fun L1 f1 => L = L1 ∧ WT T L f1 ∧ FR [10] f f1) := by
  refine cv_of (by decide) (Nat.le_of_ble_eq_true rfl) (fun z hz hnm hC hR => ?_)
  have hC : Cx z E cX10_takeFrom RX10 2 0 0 0 := hC
  subst hz
  show V z E 2 0 0 L f 0 [(0, .ref a_0), (1, .ref a_1)] []
  refine v_aload_n hC dX10_takeFrom_0 rfl ?_
  refine v_aload_n hC dX10_takeFrom_1 rfl ?_
  obtain ⟨m_1, t_2⟩ := id k_1
  obtain ⟨v_4, v_6, v_7, v_8, v_10, v_12, v_14, e_3, b_5, b_9, b_11, b_13, b_15⟩ := hW.at m_1 t_2
  refine v_get hC fl_X10_21 m_1 e_3 rfl dX10_takeFrom_2 ?_
  obtain ⟨m_16, t_17⟩ := id k_0
  obtain ⟨v_19, v_21, v_22, v_23, v_25, v_27, v_29, e_18, b_20, b_24, b_26, b_28, b_30⟩ := hW.at m_16 t_17
  refine v_put hC fl_X10_21 m_16 e_18 (nar01 (by first | omega | (simp only [Int32.lt_iff_toInt_lt, Int32.le_iff_toInt_le, Int32.reduceToInt, ← Int32.toInt_inj, true_and, and_true, or_true, true_or, false_or, or_false, false_and, and_false, not_true_eq_false, not_false_eq_true] <;> omega))) (fit01 (by first | omega | (simp only [Int32.lt_iff_toInt_lt, Int32.le_iff_toInt_le, Int32.reduceToInt, ← Int32.toInt_inj, true_and, and_true, or_true, true_or, false_or, or_false, false_and, and_false, not_true_eq_false, not_false_eq_true] <;> omega))) (Nat.le_of_ble_eq_true rfl) (fs' := [.int v_4, .int v_21, .int v_22, .int v_23, .int v_25, .int v_27, .int v_29]) rfl dX10_takeFrom_5 (fun f_31 hf_32 hk_33 => ?_)
  have hW_34 := hW.up hf_32 hk_33 t_17 ⟨v_4, v_21, v_22, v_23, v_25, v_27, v_29, rfl, (by first | omega | (simp only [Int32.lt_iff_toInt_lt, Int32.le_iff_toInt_le, Int32.reduceToInt, ← Int32.toInt_inj, true_and, and_true, or_true, true_or, false_or, or_false, false_and, and_false, not_true_eq_false, not_false_eq_true] <;> omega)), (by first | omega | (simp only [Int32.lt_iff_toInt_lt, Int32.le_iff_toInt_le, Int32.reduceToInt, ← Int32.toInt_inj, true_and, and_true, or_true, true_or, false_or, or_false, false_and, and_false, not_true_eq_false, not_false_eq_true] <;> omega)), (by first | omega | (simp only [Int32.lt_iff_toInt_lt, Int32.le_iff_toInt_le, Int32.reduceToInt, ← Int32.toInt_inj, true_and, and_true, or_true, true_or, false_or, or_false, false_and, and_false, not_true_eq_false, not_false_eq_true] <;> omega)), (by first | omega | (simp only [Int32.lt_iff_toInt_lt, Int32.le_iff_toInt_le, Int32.reduceToInt, ← Int32.toInt_inj, true_and, and_true, or_true, true_or, false_or, or_false, false_and, and_false, not_true_eq_false, not_false_eq_true] <;> omega)), (by first | omega | (simp only [Int32.lt_iff_toInt_lt, Int32.le_iff_toInt_le, Int32.reduceToInt, ← Int32.toInt_inj, true_and, and_true, or_true, true_or, false_or, or_false, false_and, and_false, not_true_eq_false, not_false_eq_true] <;> omega))⟩
  have fr_35 := FR.w hk_33 e_18 (k := 10) rfl
  refine v_aload_n hC dX10_takeFrom_8 rfl ?_
  refine v_aload_n hC dX10_takeFrom_9 rfl ?_
  obtain ⟨v_37, v_39, v_40, v_41, v_43, v_45, v_47, e_36, b_38, b_42, b_44, b_46, b_48⟩ := hW_34.at m_1 t_2
  refine v_get hC fl_X10_25 m_1 e_36 rfl dX10_takeFrom_10 ?_
  refine v_put hC fl_X10_25 m_16 hf_32 rfl rfl (Nat.le_of_ble_eq_true rfl) (fs' := [.int v_4, .int v_39, .int v_22, .int v_23, .int v_25, .int v_27, .int v_29]) rfl dX10_takeFrom_13 (fun f_49 hf_50 hk_51 => ?_)
  have hW_52 := hW_34.up hf_50 hk_51 t_17 ⟨v_4, v_39, v_22, v_23, v_25, v_27, v_29, rfl, (by first | omega | (simp only [Int32.lt_iff_toInt_lt, Int32.le_iff_toInt_le, Int32.reduceToInt, ← Int32.toInt_inj, true_and, and_true, or_true, true_or, false_or, or_false, false_and, and_false, not_true_eq_false, not_false_eq_true] <;> omega)), (by first | omega | (simp only [Int32.lt_iff_toInt_lt, Int32.le_iff_toInt_le, Int32.reduceToInt, ← Int32.toInt_inj, true_and, and_true, or_true, true_or, false_or, or_false, false_and, and_false, not_true_eq_false, not_false_eq_true] <;> omega)), (by first | omega | (simp only [Int32.lt_iff_toInt_lt, Int32.le_iff_toInt_le, Int32.reduceToInt, ← Int32.toInt_inj, true_and, and_true, or_true, true_or, false_or, or_false, false_and, and_false, not_true_eq_false, not_false_eq_true] <;> omega)), (by first | omega | (simp only [Int32.lt_iff_toInt_lt, Int32.le_iff_toInt_le, Int32.reduceToInt, ← Int32.toInt_inj, true_and, and_true, or_true, true_or, false_or, or_false, false_and, and_false, not_true_eq_false, not_false_eq_true] <;> omega)), (by first | omega | (simp only [Int32.lt_iff_toInt_lt, Int32.le_iff_toInt_le, Int32.reduceToInt, ← Int32.toInt_inj, true_and, and_true, or_true, true_or, false_or, or_false, false_and, and_false, not_true_eq_false, not_false_eq_true] <;> omega))⟩
  have fr_53 := FR.w hk_51 hf_32 (k := 10) rfl
  refine v_aload_n hC dX10_takeFrom_16 rfl ?_
  refine v_aload_n hC dX10_takeFrom_17 rfl ?_
  obtain ⟨v_55, v_57, v_58, v_59, v_61, v_63, v_65, e_54, b_56, b_60, b_62, b_64, b_66⟩ := hW_52.at m_1 t_2
  refine v_get hC fl_X10_9 m_1 e_54 rfl dX10_takeFrom_18 ?_
  refine v_put hC fl_X10_9 m_16 hf_50 rfl rfl (Nat.le_of_ble_eq_true rfl) (fs' := [.int v_4, .int v_39, .int v_58, .int v_23, .int v_25, .int v_27, .int v_29]) rfl dX10_takeFrom_21 (fun f_67 hf_68 hk_69 => ?_)
  have hW_70 := hW_52.up hf_68 hk_69 t_17 ⟨v_4, v_39, v_58, v_23, v_25, v_27, v_29, rfl, (by first | omega | (simp only [Int32.lt_iff_toInt_lt, Int32.le_iff_toInt_le, Int32.reduceToInt, ← Int32.toInt_inj, true_and, and_true, or_true, true_or, false_or, or_false, false_and, and_false, not_true_eq_false, not_false_eq_true] <;> omega)), (by first | omega | (simp only [Int32.lt_iff_toInt_lt, Int32.le_iff_toInt_le, Int32.reduceToInt, ← Int32.toInt_inj, true_and, and_true, or_true, true_or, false_or, or_false, false_and, and_false, not_true_eq_false, not_false_eq_true] <;> omega)), (by first | omega | (simp only [Int32.lt_iff_toInt_lt, Int32.le_iff_toInt_le, Int32.reduceToInt, ← Int32.toInt_inj, true_and, and_true, or_true, true_or, false_or, or_false, false_and, and_false, not_true_eq_false, not_false_eq_true] <;> omega)), (by first | omega | (simp only [Int32.lt_iff_toInt_lt, Int32.le_iff_toInt_le, Int32.reduceToInt, ← Int32.toInt_inj, true_and, and_true, or_true, true_or, false_or, or_false, false_and, and_false, not_true_eq_false, not_false_eq_true] <;> omega)), (by first | omega | (simp only [Int32.lt_iff_toInt_lt, Int32.le_iff_toInt_le, Int32.reduceToInt, ← Int32.toInt_inj, true_and, and_true, or_true, true_or, false_or, or_false, false_and, and_false, not_true_eq_false, not_false_eq_true] <;> omega))⟩
  have fr_71 := FR.w hk_69 hf_50 (k := 10) rfl
  refine v_aload_n hC dX10_takeFrom_24 rfl ?_
  refine v_aload_n hC dX10_takeFrom_25 rfl ?_
  obtain ⟨v_73, v_75, v_76, v_77, v_79, v_81, v_83, e_72, b_74, b_78, b_80, b_82, b_84⟩ := hW_70.at m_1 t_2
  refine v_get hC fl_X10_15 m_1 e_72 rfl dX10_takeFrom_26 ?_
  refine v_put hC fl_X10_15 m_16 hf_68 rfl rfl (Nat.le_of_ble_eq_true rfl) (fs' := [.int v_4, .int v_39, .int v_58, .int v_77, .int v_25, .int v_27, .int v_29]) rfl dX10_takeFrom_29 (fun f_85 hf_86 hk_87 => ?_)
  have hW_88 := hW_70.up hf_86 hk_87 t_17 ⟨v_4, v_39, v_58, v_77, v_25, v_27, v_29, rfl, (by first | omega | (simp only [Int32.lt_iff_toInt_lt, Int32.le_iff_toInt_le, Int32.reduceToInt, ← Int32.toInt_inj, true_and, and_true, or_true, true_or, false_or, or_false, false_and, and_false, not_true_eq_false, not_false_eq_true] <;> omega)), (by first | omega | (simp only [Int32.lt_iff_toInt_lt, Int32.le_iff_toInt_le, Int32.reduceToInt, ← Int32.toInt_inj, true_and, and_true, or_true, true_or, false_or, or_false, false_and, and_false, not_true_eq_false, not_false_eq_true] <;> omega)), (by first | omega | (simp only [Int32.lt_iff_toInt_lt, Int32.le_iff_toInt_le, Int32.reduceToInt, ← Int32.toInt_inj, true_and, and_true, or_true, true_or, false_or, or_false, false_and, and_false, not_true_eq_false, not_false_eq_true] <;> omega)), (by first | omega | (simp only [Int32.lt_iff_toInt_lt, Int32.le_iff_toInt_le, Int32.reduceToInt, ← Int32.toInt_inj, true_and, and_true, or_true, true_or, false_or, or_false, false_and, and_false, not_true_eq_false, not_false_eq_true] <;> omega)), (by first | omega | (simp only [Int32.lt_iff_toInt_lt, Int32.le_iff_toInt_le, Int32.reduceToInt, ← Int32.toInt_inj, true_and, and_true, or_true, true_or, false_or, or_false, false_and, and_false, not_true_eq_false, not_false_eq_true] <;> omega))⟩
  have fr_89 := FR.w hk_87 hf_68 (k := 10) rfl
  refine v_aload_n hC dX10_takeFrom_32 rfl ?_
  refine v_aload_n hC dX10_takeFrom_33 rfl ?_
  obtain ⟨v_91, v_93, v_94, v_95, v_97, v_99, v_101, e_90, b_92, b_96, b_98, b_100, b_102⟩ := hW_88.at m_1 t_2
  refine v_get hC fl_X10_18 m_1 e_90 rfl dX10_takeFrom_34 ?_
  refine v_put hC fl_X10_18 m_16 hf_86 rfl rfl (Nat.le_of_ble_eq_true rfl) (fs' := [.int v_4, .int v_39, .int v_58, .int v_77, .int v_97, .int v_27, .int v_29]) rfl dX10_takeFrom_37 (fun f_103 hf_104 hk_105 => ?_)
  have hW_106 := hW_88.up hf_104 hk_105 t_17 ⟨v_4, v_39, v_58, v_77, v_97, v_27, v_29, rfl, (by first | omega | (simp only [Int32.lt_iff_toInt_lt, Int32.le_iff_toInt_le, Int32.reduceToInt, ← Int32.toInt_inj, true_and, and_true, or_true, true_or, false_or, or_false, false_and, and_false, not_true_eq_false, not_false_eq_true] <;> omega)), (by first | omega | (simp only [Int32.lt_iff_toInt_lt, Int32.le_iff_toInt_le, Int32.reduceToInt, ← Int32.toInt_inj, true_and, and_true, or_true, true_or, false_or, or_false, false_and, and_false, not_true_eq_false, not_false_eq_true] <;> omega)), (by first | omega | (simp only [Int32.lt_iff_toInt_lt, Int32.le_iff_toInt_le, Int32.reduceToInt, ← Int32.toInt_inj, true_and, and_true, or_true, true_or, false_or, or_false, false_and, and_false, not_true_eq_false, not_false_eq_true] <;> omega)), (by first | omega | (simp only [Int32.lt_iff_toInt_lt, Int32.le_iff_toInt_le, Int32.reduceToInt, ← Int32.toInt_inj, true_and, and_true, or_true, true_or, false_or, or_false, false_and, and_false, not_true_eq_false, not_false_eq_true] <;> omega)), (by first | omega | (simp only [Int32.lt_iff_toInt_lt, Int32.le_iff_toInt_le, Int32.reduceToInt, ← Int32.toInt_inj, true_and, and_true, or_true, true_or, false_or, or_false, false_and, and_false, not_true_eq_false, not_false_eq_true] <;> omega))⟩
  have fr_107 := FR.w hk_105 hf_86 (k := 10) rfl
  refine v_aload_n hC dX10_takeFrom_40 rfl ?_
  refine v_aload_n hC dX10_takeFrom_41 rfl ?_
  obtain ⟨v_109, v_111, v_112, v_113, v_115, v_117, v_119, e_108, b_110, b_114, b_116, b_118, b_120⟩ := hW_106.at m_1 t_2
  refine v_get hC fl_X10_28 m_1 e_108 rfl dX10_takeFrom_42 ?_
  refine v_put hC fl_X10_28 m_16 hf_104 (nar01 (by first | omega | (simp only [Int32.lt_iff_toInt_lt, Int32.le_iff_toInt_le, Int32.reduceToInt, ← Int32.toInt_inj, true_and, and_true, or_true, true_or, false_or, or_false, false_and, and_false, not_true_eq_false, not_false_eq_true] <;> omega))) (fit01 (by first | omega | (simp only [Int32.lt_iff_toInt_lt, Int32.le_iff_toInt_le, Int32.reduceToInt, ← Int32.toInt_inj, true_and, and_true, or_true, true_or, false_or, or_false, false_and, and_false, not_true_eq_false, not_false_eq_true] <;> omega))) (Nat.le_of_ble_eq_true rfl) (fs' := [.int v_4, .int v_39, .int v_58, .int v_77, .int v_97, .int v_117, .int v_29]) rfl dX10_takeFrom_45 (fun f_121 hf_122 hk_123 => ?_)
  have hW_124 := hW_106.up hf_122 hk_123 t_17 ⟨v_4, v_39, v_58, v_77, v_97, v_117, v_29, rfl, (by first | omega | (simp only [Int32.lt_iff_toInt_lt, Int32.le_iff_toInt_le, Int32.reduceToInt, ← Int32.toInt_inj, true_and, and_true, or_true, true_or, false_or, or_false, false_and, and_false, not_true_eq_false, not_false_eq_true] <;> omega)), (by first | omega | (simp only [Int32.lt_iff_toInt_lt, Int32.le_iff_toInt_le, Int32.reduceToInt, ← Int32.toInt_inj, true_and, and_true, or_true, true_or, false_or, or_false, false_and, and_false, not_true_eq_false, not_false_eq_true] <;> omega)), (by first | omega | (simp only [Int32.lt_iff_toInt_lt, Int32.le_iff_toInt_le, Int32.reduceToInt, ← Int32.toInt_inj, true_and, and_true, or_true, true_or, false_or, or_false, false_and, and_false, not_true_eq_false, not_false_eq_true] <;> omega)), (by first | omega | (simp only [Int32.lt_iff_toInt_lt, Int32.le_iff_toInt_le, Int32.reduceToInt, ← Int32.toInt_inj, true_and, and_true, or_true, true_or, false_or, or_false, false_and, and_false, not_true_eq_false, not_false_eq_true] <;> omega)), (by first | omega | (simp only [Int32.lt_iff_toInt_lt, Int32.le_iff_toInt_le, Int32.reduceToInt, ← Int32.toInt_inj, true_and, and_true, or_true, true_or, false_or, or_false, false_and, and_false, not_true_eq_false, not_false_eq_true] <;> omega))⟩
  have fr_125 := FR.w hk_123 hf_104 (k := 10) rfl
  refine v_aload_n hC dX10_takeFrom_48 rfl ?_
  refine v_aload_n hC dX10_takeFrom_49 rfl ?_
  obtain ⟨v_127, v_129, v_130, v_131, v_133, v_135, v_137, e_126, b_128, b_132, b_134, b_136, b_138⟩ := hW_124.at m_1 t_2
  refine v_get hC fl_X10_31 m_1 e_126 rfl dX10_takeFrom_50 ?_
  refine v_put hC fl_X10_31 m_16 hf_122 (nar01 (by first | omega | (simp only [Int32.lt_iff_toInt_lt, Int32.le_iff_toInt_le, Int32.reduceToInt, ← Int32.toInt_inj, true_and, and_true, or_true, true_or, false_or, or_false, false_and, and_false, not_true_eq_false, not_false_eq_true] <;> omega))) (fit01 (by first | omega | (simp only [Int32.lt_iff_toInt_lt, Int32.le_iff_toInt_le, Int32.reduceToInt, ← Int32.toInt_inj, true_and, and_true, or_true, true_or, false_or, or_false, false_and, and_false, not_true_eq_false, not_false_eq_true] <;> omega))) (Nat.le_of_ble_eq_true rfl) (fs' := [.int v_4, .int v_39, .int v_58, .int v_77, .int v_97, .int v_117, .int v_137]) rfl dX10_takeFrom_53 (fun f_139 hf_140 hk_141 => ?_)
  have hW_142 := hW_124.up hf_140 hk_141 t_17 ⟨v_4, v_39, v_58, v_77, v_97, v_117, v_137, rfl, (by first | omega | (simp only [Int32.lt_iff_toInt_lt, Int32.le_iff_toInt_le, Int32.reduceToInt, ← Int32.toInt_inj, true_and, and_true, or_true, true_or, false_or, or_false, false_and, and_false, not_true_eq_false, not_false_eq_true] <;> omega)), (by first | omega | (simp only [Int32.lt_iff_toInt_lt, Int32.le_iff_toInt_le, Int32.reduceToInt, ← Int32.toInt_inj, true_and, and_true, or_true, true_or, false_or, or_false, false_and, and_false, not_true_eq_false, not_false_eq_true] <;> omega)), (by first | omega | (simp only [Int32.lt_iff_toInt_lt, Int32.le_iff_toInt_le, Int32.reduceToInt, ← Int32.toInt_inj, true_and, and_true, or_true, true_or, false_or, or_false, false_and, and_false, not_true_eq_false, not_false_eq_true] <;> omega)), (by first | omega | (simp only [Int32.lt_iff_toInt_lt, Int32.le_iff_toInt_le, Int32.reduceToInt, ← Int32.toInt_inj, true_and, and_true, or_true, true_or, false_or, or_false, false_and, and_false, not_true_eq_false, not_false_eq_true] <;> omega)), (by first | omega | (simp only [Int32.lt_iff_toInt_lt, Int32.le_iff_toInt_le, Int32.reduceToInt, ← Int32.toInt_inj, true_and, and_true, or_true, true_or, false_or, or_false, false_and, and_false, not_true_eq_false, not_false_eq_true] <;> omega))⟩
  have fr_143 := FR.w hk_141 hf_122 (k := 10) rfl
  exact hR _ _ _ _ _ _ dX10_takeFrom_56 (Nat.le_of_ble_eq_true rfl) (Nat.le_of_ble_eq_true rfl) ⟨rfl, hW_142, (((((((fr_35.tr fr_53).tr fr_71).tr fr_89).tr fr_107).tr fr_125).tr fr_143).mono rfl)⟩
set_option maxRecDepth 100000 in
set_option maxHeartbeats 8000000 in
theorem p_X10_wants {l : Launch} {E : Ez} {L : List Nat} {f : Nat → va_E} {T : Nat → va_E → Prop} {a_0 : Nat} {a_1 : Int32} (hW : WT T L f) (k_0 : isWay T L E a_0) : CI l yX10_wants cX10_wants 2 .boolean 0 0 0 E [.ref a_0, .int a_1] L f (fun r L1 f1 => L = L1 ∧ f = f1 ∧ (0 ≤ r.toInt ∧ r.toInt ≤ 1) ∧ (r.toInt = 0 ∨ (2 ≤ a_1.toInt))) := by
  refine ci_of (by decide) (Nat.le_of_ble_eq_true rfl) (fun z hz hnm hC hR => ?_)
  have hC : Cx z E cX10_wants RX10 2 0 0 0 := hC
  subst hz
  show V z E 2 0 0 L f 0 [(0, .ref a_0), (1, .int a_1)] []
  refine v_iload_n hC dX10_wants_0 rfl ?_
  refine v_iconst hC dX10_wants_1 (v := 2) (by decide) ?_
  refine v_icmp_lt hC dX10_wants_2 (tgt := 23) (by decide) (fun h_1 => ?_) (fun h_1 => ?_)
  · simp only [Int32.lt_iff_toInt_lt, Int32.le_iff_toInt_le, Int32.reduceToInt, ← Int32.toInt_inj] at h_1
    refine v_iconst hC dX10_wants_23 (v := 0) (by decide) ?_
    exact hR _ _ _ _ _ _ _ dX10_wants_24 rfl (Nat.le_of_ble_eq_true rfl) (Nat.le_of_ble_eq_true rfl) ⟨rfl, rfl, (by decide), (.inl (by decide))⟩
  · simp only [Int32.lt_iff_toInt_lt, Int32.le_iff_toInt_le, Int32.reduceToInt, ← Int32.toInt_inj] at h_1
    refine v_aload_n hC dX10_wants_5 rfl ?_
    obtain ⟨m_2, t_3⟩ := id k_0
    obtain ⟨v_5, v_7, v_8, v_9, v_11, v_13, v_15, e_4, b_6, b_10, b_12, b_14, b_16⟩ := hW.at m_2 t_3
    refine v_get hC fl_X10_25 m_2 e_4 rfl dX10_wants_6 ?_
    refine v_iload_n hC dX10_wants_9 rfl ?_
    refine v_iconst hC dX10_wants_10 (v := 2) (by decide) ?_
    obtain ⟨v_17, h_18⟩ : ∃ v9 : Int32, a_1 - 2 = v9 := ⟨_, rfl⟩
    refine v_isub hC dX10_wants_11 h_18 ?_
    have rg_20 := Int32.toInt_lt a_1
    have rg_21 := Int32.le_toInt a_1
    have h_19 := sub_v h_18 (by first | omega | (simp only [Int32.lt_iff_toInt_lt, Int32.le_iff_toInt_le, Int32.reduceToInt, ← Int32.toInt_inj, true_and, and_true, or_true, true_or, false_or, or_false, false_and, and_false, not_true_eq_false, not_false_eq_true] <;> omega)) (by first | omega | (simp only [Int32.lt_iff_toInt_lt, Int32.le_iff_toInt_le, Int32.reduceToInt, ← Int32.toInt_inj, true_and, and_true, or_true, true_or, false_or, or_false, false_and, and_false, not_true_eq_false, not_false_eq_true] <;> omega))
    try simp only [Int32.reduceToInt] at h_19
    obtain ⟨v_22, h_23⟩ : ∃ v9 : Int32, v_7 >>> (v_17 &&& 31) = v9 := ⟨_, rfl⟩
    refine v_ishr hC dX10_wants_12 h_23 ?_
    refine v_iconst hC dX10_wants_13 (v := 1) (by decide) ?_
    obtain ⟨v_25, h_26⟩ : ∃ v9 : Int32, v_22 &&& 1 = v9 := ⟨_, rfl⟩
    refine v_iand hC dX10_wants_14 h_26 ?_
    have h_27 := and_v h_26 (by decide)
    try simp only [Int32.reduceToInt] at h_27
    refine v_iconst hC dX10_wants_15 (v := 1) (by decide) ?_
    refine v_icmp_ne hC dX10_wants_16 (tgt := 23) (by decide) (fun h_28 => ?_) (fun h_28 => ?_)
    · simp only [Int32.lt_iff_toInt_lt, Int32.le_iff_toInt_le, Int32.reduceToInt, ← Int32.toInt_inj] at h_28
      refine v_iconst hC dX10_wants_23 (v := 0) (by decide) ?_
      exact hR _ _ _ _ _ _ _ dX10_wants_24 rfl (Nat.le_of_ble_eq_true rfl) (Nat.le_of_ble_eq_true rfl) ⟨rfl, rfl, (by decide), (.inl (by decide))⟩
    · simp only [Int32.lt_iff_toInt_lt, Int32.le_iff_toInt_le, Int32.reduceToInt, ← Int32.toInt_inj] at h_28
      refine v_iconst hC dX10_wants_19 (v := 1) (by decide) ?_
      refine v_goto hC dX10_wants_20 (tgt := 24) (by decide) ?_
      exact hR _ _ _ _ _ _ _ dX10_wants_24 rfl (Nat.le_of_ble_eq_true rfl) (Nat.le_of_ble_eq_true rfl) ⟨rfl, rfl, (by decide), (.inr (by first | omega | (simp only [Int32.lt_iff_toInt_lt, Int32.le_iff_toInt_le, Int32.reduceToInt, ← Int32.toInt_inj, true_and, and_true, or_true, true_or, false_or, or_false, false_and, and_false, not_true_eq_false, not_false_eq_true] <;> omega)))⟩
set_option maxRecDepth 100000 in
set_option maxHeartbeats 8000000 in
theorem p_X10_tellSorts {l : Launch} {E : Ez} {L : List Nat} {f : Nat → va_E} {T : Nat → va_E → Prop} {a_0 : Nat} {a_1 : Nat} (hW : WT T L f) (k_0 : isWay T L E a_0) (k_1 : isTape T L E a_1) : CV l yX10_tellSorts cX10_tellSorts 5 5 0 0 E [.ref a_0, .ref a_1] L f (fun L1 f1 => L = L1 ∧ WT T L f1 ∧ FR [7, 10] f f1) := by
  refine cv_of (by decide) (Nat.le_of_ble_eq_true rfl) (fun z hz hnm hC hR => ?_)
  have hC : Cx z E cX10_tellSorts RX10 5 5 0 0 := hC
  subst hz
  show V z E 5 0 0 L f 0 [(0, .ref a_0), (1, .ref a_1)] []
  refine v_aload_n hC dX10_tellSorts_0 rfl ?_
  refine v_iconst hC dX10_tellSorts_1 (v := 0) (by decide) ?_
  obtain ⟨m_1, t_2⟩ := id k_0
  obtain ⟨v_4, v_6, v_7, v_8, v_10, v_12, v_14, e_3, b_5, b_9, b_11, b_13, b_15⟩ := hW.at m_1 t_2
  refine v_put hC fl_X10_25 m_1 e_3 rfl rfl (Nat.le_of_ble_eq_true rfl) (fs' := [.int v_4, .int 0, .int v_7, .int v_8, .int v_10, .int v_12, .int v_14]) rfl dX10_tellSorts_2 (fun f_16 hf_17 hk_18 => ?_)
  have hW_19 := hW.up hf_17 hk_18 t_2 ⟨v_4, 0, v_7, v_8, v_10, v_12, v_14, rfl, (by first | omega | (simp only [Int32.lt_iff_toInt_lt, Int32.le_iff_toInt_le, Int32.reduceToInt, ← Int32.toInt_inj, true_and, and_true, or_true, true_or, false_or, or_false, false_and, and_false, not_true_eq_false, not_false_eq_true] <;> omega)), (by first | omega | (simp only [Int32.lt_iff_toInt_lt, Int32.le_iff_toInt_le, Int32.reduceToInt, ← Int32.toInt_inj, true_and, and_true, or_true, true_or, false_or, or_false, false_and, and_false, not_true_eq_false, not_false_eq_true] <;> omega)), (by first | omega | (simp only [Int32.lt_iff_toInt_lt, Int32.le_iff_toInt_le, Int32.reduceToInt, ← Int32.toInt_inj, true_and, and_true, or_true, true_or, false_or, or_false, false_and, and_false, not_true_eq_false, not_false_eq_true] <;> omega)), (by first | omega | (simp only [Int32.lt_iff_toInt_lt, Int32.le_iff_toInt_le, Int32.reduceToInt, ← Int32.toInt_inj, true_and, and_true, or_true, true_or, false_or, or_false, false_and, and_false, not_true_eq_false, not_false_eq_true] <;> omega)), (by first | omega | (simp only [Int32.lt_iff_toInt_lt, Int32.le_iff_toInt_le, Int32.reduceToInt, ← Int32.toInt_inj, true_and, and_true, or_true, true_or, false_or, or_false, false_and, and_false, not_true_eq_false, not_false_eq_true] <;> omega))⟩
  have fr_20 := FR.w hk_18 e_3 (k := 10) rfl
  refine v_aload_n hC dX10_tellSorts_5 rfl ?_
  refine v_ldcS hC sr_X10_80 dX10_tellSorts_6 ?_
  obtain ⟨m_21, q_23, t_22, k_24⟩ := id k_1
  obtain ⟨v_26, v_28, v_29, v_31, v_33, v_34, e_25, b_27, b_30, b_32⟩ := hW_19.at m_21 t_22
  refine v_vi hC (rest := []) m_21 e_25 rfl mi_X7_isWordOf ms_X7_isWordOf (p_X7_isWordOf hW_19 k_1 (by decide)) mx_X7_isWordOf ml_X10_82 (by decide) rfl (cells1 := 0) (slots1 := 0) (by decide) (by decide) (Nat.le_of_ble_eq_true rfl) (Nat.le_of_ble_eq_true rfl) rfl (Nat.le_of_ble_eq_true rfl) dX10_tellSorts_8 (fun r_35 L_36 f_37 h_38 => ?_)
  obtain ⟨rfl, rfl, b_39⟩ := h_38
  refine v_istore_n hC dX10_tellSorts_11 (by decide) (lv' := [(2, .int r_35), (0, .ref a_0), (1, .ref a_1)]) rfl ?_
  refine v_iconst hC dX10_tellSorts_12 (v := 0) (by decide) ?_
  refine v_istore_n hC dX10_tellSorts_13 (by decide) (lv' := [(3, .int 0), (2, .int r_35), (0, .ref a_0), (1, .ref a_1)]) rfl ?_
  have lp_385 : ∀ (n_386 : Nat) (f_379 : Nat → va_E) (hW_380 : WT T L f_379) (hF_381 : FR [10] f_16 f_379) (i_377 : Int32) (b_383 : (0 ≤ i_377.toInt ∧ i_377.toInt ≤ 600)) (i_378 : Int32) (b_384 : (0 ≤ i_378.toInt ∧ i_378.toInt ≤ 1)) (hm_388 : 600 - i_377.toInt < (n_386 : Int)), V z E 5 0 0 L f_379 14 [(3, .int i_377), (2, .int i_378), (0, .ref a_0), (1, .ref a_1)] [] := by
    intro n_386
    induction n_386 with
    | zero =>
      intro f_379 hW_380 hF_381 i_377 b_383 i_378 b_384 hm_388
      have hf_382 := hF_381.at e_25 rfl
      exfalso; omega
    | succ n_386 ih_387 =>
      intro f_379 hW_380 hF_381 i_377 b_383 i_378 b_384 hm_388
      have hf_382 := hF_381.at e_25 rfl
      refine v_iload_n hC dX10_tellSorts_14 rfl ?_
      refine v_aload_n hC dX10_tellSorts_15 rfl ?_
      refine v_vi hC (rest := [.int i_377]) m_21 hf_382 rfl mi_X7_wordLength ms_X7_wordLength (p_X7_wordLength hW_380 k_1) mx_X7_wordLength ml_X10_85 (by decide) rfl (cells1 := 0) (slots1 := 0) (by decide) (by decide) (Nat.le_of_ble_eq_true rfl) (Nat.le_of_ble_eq_true rfl) rfl (Nat.le_of_ble_eq_true rfl) dX10_tellSorts_16 (fun r_389 L_390 f_391 h_392 => ?_)
      obtain ⟨rfl, rfl, b_393⟩ := h_392
      refine v_icmp_ge hC dX10_tellSorts_19 (tgt := 70) (by decide) (fun h_396 => ?_) (fun h_396 => ?_)
      · simp only [Int32.lt_iff_toInt_lt, Int32.le_iff_toInt_le, Int32.reduceToInt, ← Int32.toInt_inj] at h_396
        refine v_iload_n hC dX10_tellSorts_70 rfl ?_
        refine v_if_eq hC dX10_tellSorts_71 (tgt := 81) (by decide) (fun h_397 => ?_) (fun h_397 => ?_)
        · simp only [Int32.lt_iff_toInt_lt, Int32.le_iff_toInt_le, Int32.reduceToInt, ← Int32.toInt_inj] at h_397
          refine v_aload_n hC dX10_tellSorts_81 rfl ?_
          refine v_iconst hC dX10_tellSorts_82 (v := 1) (by decide) ?_
          refine v_vv hC (rest := []) m_21 hf_382 rfl mi_X7_complain ms_X7_complain (p_X7_complain hW_380 k_1) mx_X7_complain ml_X10_96 (by decide) rfl (cells1 := 0) (slots1 := 0) (by decide) (by decide) (Nat.le_of_ble_eq_true rfl) (Nat.le_of_ble_eq_true rfl) rfl (Nat.le_of_ble_eq_true rfl) dX10_tellSorts_83 (fun L_399 f_400 h_401 => ?_)
          obtain ⟨rfl, hW_402, hF_403⟩ := h_401
          exact hR _ _ _ _ _ _ dX10_tellSorts_86 (Nat.le_of_ble_eq_true rfl) (Nat.le_of_ble_eq_true rfl) ⟨rfl, hW_402, (((fr_20.tr hF_381).tr hF_403).mono rfl)⟩
        · simp only [Int32.lt_iff_toInt_lt, Int32.le_iff_toInt_le, Int32.reduceToInt, ← Int32.toInt_inj] at h_397
          refine v_aload_n hC dX10_tellSorts_74 rfl ?_
          refine v_vv hC (rest := []) m_21 hf_382 rfl mi_X7_advance ms_X7_advance (p_X7_advance hW_380 k_1) mx_X7_advance ml_X10_93 (by decide) rfl (cells1 := 0) (slots1 := 0) (by decide) (by decide) (Nat.le_of_ble_eq_true rfl) (Nat.le_of_ble_eq_true rfl) rfl (Nat.le_of_ble_eq_true rfl) dX10_tellSorts_75 (fun L_405 f_406 h_407 => ?_)
          obtain ⟨rfl, hW_408, hF_409⟩ := h_407
          refine v_goto hC dX10_tellSorts_78 (tgt := 86) (by decide) ?_
          exact hR _ _ _ _ _ _ dX10_tellSorts_86 (Nat.le_of_ble_eq_true rfl) (Nat.le_of_ble_eq_true rfl) ⟨rfl, hW_408, (((fr_20.tr hF_381).tr hF_409).mono rfl)⟩
      · simp only [Int32.lt_iff_toInt_lt, Int32.le_iff_toInt_le, Int32.reduceToInt, ← Int32.toInt_inj] at h_396
        refine v_iload_n hC dX10_tellSorts_22 rfl ?_
        refine v_if_eq hC dX10_tellSorts_23 (tgt := 70) (by decide) (fun h_410 => ?_) (fun h_410 => ?_)
        · simp only [Int32.lt_iff_toInt_lt, Int32.le_iff_toInt_le, Int32.reduceToInt, ← Int32.toInt_inj] at h_410
          refine v_iload_n hC dX10_tellSorts_70 rfl ?_
          refine v_if_eq_t hC dX10_tellSorts_71 (tgt := 81) (by decide) (by first | omega | (simp only [Int32.lt_iff_toInt_lt, Int32.le_iff_toInt_le, Int32.reduceToInt, ← Int32.toInt_inj, true_and, and_true, or_true, true_or, false_or, or_false, false_and, and_false, not_true_eq_false, not_false_eq_true] <;> omega)) ?_
          refine v_aload_n hC dX10_tellSorts_81 rfl ?_
          refine v_iconst hC dX10_tellSorts_82 (v := 1) (by decide) ?_
          refine v_vv hC (rest := []) m_21 hf_382 rfl mi_X7_complain ms_X7_complain (p_X7_complain hW_380 k_1) mx_X7_complain ml_X10_96 (by decide) rfl (cells1 := 0) (slots1 := 0) (by decide) (by decide) (Nat.le_of_ble_eq_true rfl) (Nat.le_of_ble_eq_true rfl) rfl (Nat.le_of_ble_eq_true rfl) dX10_tellSorts_83 (fun L_412 f_413 h_414 => ?_)
          obtain ⟨rfl, hW_415, hF_416⟩ := h_414
          exact hR _ _ _ _ _ _ dX10_tellSorts_86 (Nat.le_of_ble_eq_true rfl) (Nat.le_of_ble_eq_true rfl) ⟨rfl, hW_415, (((fr_20.tr hF_381).tr hF_416).mono rfl)⟩
        · simp only [Int32.lt_iff_toInt_lt, Int32.le_iff_toInt_le, Int32.reduceToInt, ← Int32.toInt_inj] at h_410
          refine v_iconst hC dX10_tellSorts_26 (v := 1) (by decide) ?_
          refine v_aload_n hC dX10_tellSorts_27 rfl ?_
          refine v_iload_n hC dX10_tellSorts_28 rfl ?_
          refine v_ldcS hC sr_X10_80 dX10_tellSorts_29 ?_
          refine v_vi hC (rest := [.int 1]) m_21 hf_382 rfl mi_X7_signOfWord ms_X7_signOfWord (p_X7_signOfWord hW_380 k_1 (by decide)) mx_X7_signOfWord ml_X10_89 (by decide) rfl (cells1 := 0) (slots1 := 0) (by decide) (by decide) (Nat.le_of_ble_eq_true rfl) (Nat.le_of_ble_eq_true rfl) rfl (Nat.le_of_ble_eq_true rfl) dX10_tellSorts_31 (fun r_417 L_418 f_419 h_420 => ?_)
          obtain ⟨rfl, rfl, b_421⟩ := h_420
          obtain ⟨v_424, h_425⟩ : ∃ v9 : Int32, (1 : Int32) <<< (r_417 &&& 31) = v9 := ⟨_, rfl⟩
          refine v_ishl hC dX10_tellSorts_34 h_425 ?_
          refine v_istore hC dX10_tellSorts_35 (by decide) (lv' := [(4, .int v_424), (3, .int i_377), (2, .int i_378), (0, .ref a_0), (1, .ref a_1)]) rfl ?_
          refine v_aload_n hC dX10_tellSorts_37 rfl ?_
          obtain ⟨v_428, v_430, v_431, v_432, v_434, v_436, v_438, e_427, b_429, b_433, b_435, b_437, b_439⟩ := hW_380.at m_1 t_2
          refine v_get hC fl_X10_25 m_1 e_427 rfl dX10_tellSorts_38 ?_
          refine v_iload hC dX10_tellSorts_41 rfl ?_
          obtain ⟨v_440, h_441⟩ : ∃ v9 : Int32, v_430 &&& v_424 = v9 := ⟨_, rfl⟩
          refine v_iand hC dX10_tellSorts_43 h_441 ?_
          refine v_if_ne hC dX10_tellSorts_44 (tgt := 51) (by decide) (fun h_443 => ?_) (fun h_443 => ?_)
          · simp only [Int32.lt_iff_toInt_lt, Int32.le_iff_toInt_le, Int32.reduceToInt, ← Int32.toInt_inj] at h_443
            refine v_iconst hC dX10_tellSorts_51 (v := 0) (by decide) ?_
            refine v_istore_n hC dX10_tellSorts_52 (by decide) (lv' := [(2, .int 0), (4, .int v_424), (3, .int i_377), (0, .ref a_0), (1, .ref a_1)]) rfl ?_
            refine v_aload_n hC dX10_tellSorts_53 rfl ?_
            refine v_dup hC dX10_tellSorts_54 rfl ?_
            refine v_get hC fl_X10_25 m_1 e_427 rfl dX10_tellSorts_55 ?_
            refine v_iload hC dX10_tellSorts_58 rfl ?_
            obtain ⟨v_444, h_445⟩ : ∃ v9 : Int32, v_430 ||| v_424 = v9 := ⟨_, rfl⟩
            refine v_ior hC dX10_tellSorts_60 h_445 ?_
            refine v_put hC fl_X10_25 m_1 e_427 rfl rfl (Nat.le_of_ble_eq_true rfl) (fs' := [.int v_428, .int v_444, .int v_431, .int v_432, .int v_434, .int v_436, .int v_438]) rfl dX10_tellSorts_61 (fun f_447 hf_448 hk_449 => ?_)
            have hW_450 := hW_380.up hf_448 hk_449 t_2 ⟨v_428, v_444, v_431, v_432, v_434, v_436, v_438, rfl, (by first | omega | (simp only [Int32.lt_iff_toInt_lt, Int32.le_iff_toInt_le, Int32.reduceToInt, ← Int32.toInt_inj, true_and, and_true, or_true, true_or, false_or, or_false, false_and, and_false, not_true_eq_false, not_false_eq_true] <;> omega)), (by first | omega | (simp only [Int32.lt_iff_toInt_lt, Int32.le_iff_toInt_le, Int32.reduceToInt, ← Int32.toInt_inj, true_and, and_true, or_true, true_or, false_or, or_false, false_and, and_false, not_true_eq_false, not_false_eq_true] <;> omega)), (by first | omega | (simp only [Int32.lt_iff_toInt_lt, Int32.le_iff_toInt_le, Int32.reduceToInt, ← Int32.toInt_inj, true_and, and_true, or_true, true_or, false_or, or_false, false_and, and_false, not_true_eq_false, not_false_eq_true] <;> omega)), (by first | omega | (simp only [Int32.lt_iff_toInt_lt, Int32.le_iff_toInt_le, Int32.reduceToInt, ← Int32.toInt_inj, true_and, and_true, or_true, true_or, false_or, or_false, false_and, and_false, not_true_eq_false, not_false_eq_true] <;> omega)), (by first | omega | (simp only [Int32.lt_iff_toInt_lt, Int32.le_iff_toInt_le, Int32.reduceToInt, ← Int32.toInt_inj, true_and, and_true, or_true, true_or, false_or, or_false, false_and, and_false, not_true_eq_false, not_false_eq_true] <;> omega))⟩
            have hf_451 := (hk_449 a_1 (ne_kd hf_382 e_427 rfl)).trans hf_382
            have fr_452 := FR.w hk_449 e_427 (k := 10) rfl
            obtain ⟨v_453, h_454⟩ : ∃ v9 : Int32, i_377 + Int32.ofInt 1 = v9 := ⟨_, rfl⟩
            have h_455 := add_v (b := 1) h_454 (by first | omega | (simp only [Int32.lt_iff_toInt_lt, Int32.le_iff_toInt_le, Int32.reduceToInt, ← Int32.toInt_inj, true_and, and_true, or_true, true_or, false_or, or_false, false_and, and_false, not_true_eq_false, not_false_eq_true] <;> omega)) (by first | omega | (simp only [Int32.lt_iff_toInt_lt, Int32.le_iff_toInt_le, Int32.reduceToInt, ← Int32.toInt_inj, true_and, and_true, or_true, true_or, false_or, or_false, false_and, and_false, not_true_eq_false, not_false_eq_true] <;> omega))
            simp only [Int32.reduceToInt] at h_455
            refine v_iinc hC dX10_tellSorts_64 (k := 2) rfl (v := v_453) h_454 (by decide) (lv' := [(3, .int v_453), (2, .int 0), (4, .int v_424), (0, .ref a_0), (1, .ref a_1)]) rfl ?_
            refine v_goto hC dX10_tellSorts_67 (tgt := 14) (by decide) ?_
            refine v_pick [0, 1, 3, 4] rfl ?_
            exact ih_387 f_447 hW_450 ((hF_381.tr fr_452).mono rfl) v_453 (by first | omega | (simp only [Int32.lt_iff_toInt_lt, Int32.le_iff_toInt_le, Int32.reduceToInt, ← Int32.toInt_inj, true_and, and_true, or_true, true_or, false_or, or_false, false_and, and_false, not_true_eq_false, not_false_eq_true] <;> omega)) 0 (by decide) (by first | omega | (simp only [Int32.lt_iff_toInt_lt, Int32.le_iff_toInt_le, Int32.reduceToInt, ← Int32.toInt_inj, true_and, and_true, or_true, true_or, false_or, or_false, false_and, and_false, not_true_eq_false, not_false_eq_true] <;> omega))
          · simp only [Int32.lt_iff_toInt_lt, Int32.le_iff_toInt_le, Int32.reduceToInt, ← Int32.toInt_inj] at h_443
            refine v_iconst hC dX10_tellSorts_47 (v := 1) (by decide) ?_
            refine v_goto hC dX10_tellSorts_48 (tgt := 52) (by decide) ?_
            refine v_istore_n hC dX10_tellSorts_52 (by decide) (lv' := [(2, .int 1), (4, .int v_424), (3, .int i_377), (0, .ref a_0), (1, .ref a_1)]) rfl ?_
            refine v_aload_n hC dX10_tellSorts_53 rfl ?_
            refine v_dup hC dX10_tellSorts_54 rfl ?_
            refine v_get hC fl_X10_25 m_1 e_427 rfl dX10_tellSorts_55 ?_
            refine v_iload hC dX10_tellSorts_58 rfl ?_
            obtain ⟨v_456, h_457⟩ : ∃ v9 : Int32, v_430 ||| v_424 = v9 := ⟨_, rfl⟩
            refine v_ior hC dX10_tellSorts_60 h_457 ?_
            refine v_put hC fl_X10_25 m_1 e_427 rfl rfl (Nat.le_of_ble_eq_true rfl) (fs' := [.int v_428, .int v_456, .int v_431, .int v_432, .int v_434, .int v_436, .int v_438]) rfl dX10_tellSorts_61 (fun f_459 hf_460 hk_461 => ?_)
            have hW_462 := hW_380.up hf_460 hk_461 t_2 ⟨v_428, v_456, v_431, v_432, v_434, v_436, v_438, rfl, (by first | omega | (simp only [Int32.lt_iff_toInt_lt, Int32.le_iff_toInt_le, Int32.reduceToInt, ← Int32.toInt_inj, true_and, and_true, or_true, true_or, false_or, or_false, false_and, and_false, not_true_eq_false, not_false_eq_true] <;> omega)), (by first | omega | (simp only [Int32.lt_iff_toInt_lt, Int32.le_iff_toInt_le, Int32.reduceToInt, ← Int32.toInt_inj, true_and, and_true, or_true, true_or, false_or, or_false, false_and, and_false, not_true_eq_false, not_false_eq_true] <;> omega)), (by first | omega | (simp only [Int32.lt_iff_toInt_lt, Int32.le_iff_toInt_le, Int32.reduceToInt, ← Int32.toInt_inj, true_and, and_true, or_true, true_or, false_or, or_false, false_and, and_false, not_true_eq_false, not_false_eq_true] <;> omega)), (by first | omega | (simp only [Int32.lt_iff_toInt_lt, Int32.le_iff_toInt_le, Int32.reduceToInt, ← Int32.toInt_inj, true_and, and_true, or_true, true_or, false_or, or_false, false_and, and_false, not_true_eq_false, not_false_eq_true] <;> omega)), (by first | omega | (simp only [Int32.lt_iff_toInt_lt, Int32.le_iff_toInt_le, Int32.reduceToInt, ← Int32.toInt_inj, true_and, and_true, or_true, true_or, false_or, or_false, false_and, and_false, not_true_eq_false, not_false_eq_true] <;> omega))⟩
            have hf_463 := (hk_461 a_1 (ne_kd hf_382 e_427 rfl)).trans hf_382
            have fr_464 := FR.w hk_461 e_427 (k := 10) rfl
            obtain ⟨v_465, h_466⟩ : ∃ v9 : Int32, i_377 + Int32.ofInt 1 = v9 := ⟨_, rfl⟩
            have h_467 := add_v (b := 1) h_466 (by first | omega | (simp only [Int32.lt_iff_toInt_lt, Int32.le_iff_toInt_le, Int32.reduceToInt, ← Int32.toInt_inj, true_and, and_true, or_true, true_or, false_or, or_false, false_and, and_false, not_true_eq_false, not_false_eq_true] <;> omega)) (by first | omega | (simp only [Int32.lt_iff_toInt_lt, Int32.le_iff_toInt_le, Int32.reduceToInt, ← Int32.toInt_inj, true_and, and_true, or_true, true_or, false_or, or_false, false_and, and_false, not_true_eq_false, not_false_eq_true] <;> omega))
            simp only [Int32.reduceToInt] at h_467
            refine v_iinc hC dX10_tellSorts_64 (k := 2) rfl (v := v_465) h_466 (by decide) (lv' := [(3, .int v_465), (2, .int 1), (4, .int v_424), (0, .ref a_0), (1, .ref a_1)]) rfl ?_
            refine v_goto hC dX10_tellSorts_67 (tgt := 14) (by decide) ?_
            refine v_pick [0, 1, 3, 4] rfl ?_
            exact ih_387 f_459 hW_462 ((hF_381.tr fr_464).mono rfl) v_465 (by first | omega | (simp only [Int32.lt_iff_toInt_lt, Int32.le_iff_toInt_le, Int32.reduceToInt, ← Int32.toInt_inj, true_and, and_true, or_true, true_or, false_or, or_false, false_and, and_false, not_true_eq_false, not_false_eq_true] <;> omega)) 1 (by decide) (by first | omega | (simp only [Int32.lt_iff_toInt_lt, Int32.le_iff_toInt_le, Int32.reduceToInt, ← Int32.toInt_inj, true_and, and_true, or_true, true_or, false_or, or_false, false_and, and_false, not_true_eq_false, not_false_eq_true] <;> omega))
  refine v_pick [0, 1, 2, 3] rfl ?_
  exact lp_385 602 f_16 hW_19 FR.rf 0 (by decide) r_35 (by first | omega | (simp only [Int32.lt_iff_toInt_lt, Int32.le_iff_toInt_le, Int32.reduceToInt, ← Int32.toInt_inj, true_and, and_true, or_true, true_or, false_or, or_false, false_and, and_false, not_true_eq_false, not_false_eq_true] <;> omega)) (by decide)
