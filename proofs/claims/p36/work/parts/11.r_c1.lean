set_option maxRecDepth 100000 in
set_option maxHeartbeats 4000000 in
theorem p_X12_ofWay {l : Launch} {E : Ez} {L : List Nat} {f : Nat → va_E} {T : Nat → va_E → Prop} {a_0 : Nat} {a_1 : Int32} {a_2 : Int32} {q : Nat → Nat} {g_w : Nat → Int32} (hW : WT T L f) (k_0 : isM T L E a_0 q) (g_1 : (0 ≤ a_1.toInt ∧ a_1.toInt ≤ 5)) (g_2 : (0 ≤ a_2.toInt ∧ a_2.toInt ≤ 6)) (e_w : f (q 1) = aI E 2076 g_w) (o_w : WOK g_w) : CI l yX12_ofWay cX12_ofWay 3 .int 0 0 0 E [.ref a_0, .int a_1, .int a_2] L f (fun r L1 f1 => L = L1 ∧ f = f1 ∧ r = (wv g_w a_1 a_2)) := by
  refine ci_of (by decide) (Nat.le_of_ble_eq_true rfl) (fun z hz hnm hC hR => ?_)
  have hC : Cx z E cX12_ofWay RX12 3 0 0 0 := hC
  subst hz
  show V z E 3 0 0 L f 0 [(0, .ref a_0), (1, .int a_1), (2, .int a_2)] []
  obtain ⟨m_1, t_2, k_3, k_4, k_5, k_6, k_7, k_8, k_9, k_10, k_11, k_12, k_13, k_14, k_15, k_16, k_17, k_18, k_19, k_20⟩ := id k_0
  obtain ⟨m_21, t_22⟩ := id k_3
  have b_23 := o_w.r0
  have b_24 := o_w.w0
  refine v_aload_n hC dX12_ofWay_0 rfl ?_
  obtain ⟨v_26, v_27, v_29, v_31, v_33, v_35, v_37, v_38, v_39, v_40, v_42, e_25, b_28, b_30, b_32, b_34, b_36, b_41, b_43⟩ := hW.at m_1 t_2
  refine v_get hC fl_X12_13 m_1 e_25 rfl dX12_ofWay_1 ?_
  refine v_bipush hC dX12_ofWay_4 (v := 120) (by decide) ?_
  refine v_bipush hC dX12_ofWay_6 (v := 7) (by decide) ?_
  refine v_iload_n hC dX12_ofWay_8 rfl ?_
  obtain ⟨v_44, h_45⟩ : ∃ v9 : Int32, (7 : Int32) * a_1 = v9 := ⟨_, rfl⟩
  refine v_imul hC dX12_ofWay_9 h_45 ?_
  have h_46 := mul_v 7 5 35 h_45 (by decide) (by first | omega | (simp only [Int32.lt_iff_toInt_lt, Int32.le_iff_toInt_le, Int32.reduceToInt, ← Int32.toInt_inj, true_and, and_true, or_true, true_or, false_or, or_false, false_and, and_false, not_true_eq_false, not_false_eq_true] <;> omega)) (by decide) (by decide)
  try simp only [Int32.reduceToInt] at h_46
  obtain ⟨v_47, h_48⟩ : ∃ v9 : Int32, (120 : Int32) + v_44 = v9 := ⟨_, rfl⟩
  refine v_iadd hC dX12_ofWay_10 h_48 ?_
  have h_49 := add_v h_48 (by first | omega | (simp only [Int32.lt_iff_toInt_lt, Int32.le_iff_toInt_le, Int32.reduceToInt, ← Int32.toInt_inj, true_and, and_true, or_true, true_or, false_or, or_false, false_and, and_false, not_true_eq_false, not_false_eq_true] <;> omega)) (by first | omega | (simp only [Int32.lt_iff_toInt_lt, Int32.le_iff_toInt_le, Int32.reduceToInt, ← Int32.toInt_inj, true_and, and_true, or_true, true_or, false_or, or_false, false_and, and_false, not_true_eq_false, not_false_eq_true] <;> omega))
  try simp only [Int32.reduceToInt] at h_49
  refine v_iload_n hC dX12_ofWay_11 rfl ?_
  obtain ⟨v_50, h_51⟩ : ∃ v9 : Int32, v_47 + a_2 = v9 := ⟨_, rfl⟩
  refine v_iadd hC dX12_ofWay_12 h_51 ?_
  have h_52 := add_v h_51 (by first | omega | (simp only [Int32.lt_iff_toInt_lt, Int32.le_iff_toInt_le, Int32.reduceToInt, ← Int32.toInt_inj, true_and, and_true, or_true, true_or, false_or, or_false, false_and, and_false, not_true_eq_false, not_false_eq_true] <;> omega)) (by first | omega | (simp only [Int32.lt_iff_toInt_lt, Int32.le_iff_toInt_le, Int32.reduceToInt, ← Int32.toInt_inj, true_and, and_true, or_true, true_or, false_or, or_false, false_and, and_false, not_true_eq_false, not_false_eq_true] <;> omega))
  obtain ⟨v_53, h_54⟩ : ∃ v9 : Int32, g_w (v_50 : Int32).toNatClampNeg = v9 := ⟨_, rfl⟩
  refine v_iald hC m_21 e_w (vp_in_iff.mpr (by first | omega | (simp only [Int32.lt_iff_toInt_lt, Int32.le_iff_toInt_le, Int32.reduceToInt, ← Int32.toInt_inj, true_and, and_true, or_true, true_or, false_or, or_false, false_and, and_false, not_true_eq_false, not_false_eq_true] <;> omega))) h_54 dX12_ofWay_13 ?_
  exact hR _ _ _ _ _ _ _ dX12_ofWay_14 rfl (Nat.le_of_ble_eq_true rfl) (Nat.le_of_ble_eq_true rfl) ⟨rfl, rfl, (h_54.symm.trans (wv_eq (by omega) (by omega) (by omega)))⟩
set_option maxRecDepth 100000 in
set_option maxHeartbeats 4000000 in
theorem p_X12_isTold {l : Launch} {E : Ez} {L : List Nat} {f : Nat → va_E} {T : Nat → va_E → Prop} {a_0 : Nat} {a_1 : Int32} {q : Nat → Nat} {g_w : Nat → Int32} (hW : WT T L f) (k_0 : isM T L E a_0 q) (g_1 : (0 ≤ a_1.toInt ∧ a_1.toInt ≤ 5)) (e_w : f (q 1) = aI E 2076 g_w) (o_w : WOK g_w) : CI l yX12_isTold cX12_isTold 2 .boolean 1 0 0 E [.ref a_0, .int a_1] L f (fun r L1 f1 => L = L1 ∧ f = f1 ∧ (0 ≤ r.toInt ∧ r.toInt ≤ 1) ∧ (r.toInt = 0 ∨ (wv g_w a_1 0).toInt = 1)) := by
  refine ci_of (by decide) (Nat.le_of_ble_eq_true rfl) (fun z hz hnm hC hR => ?_)
  have hC : Cx z E cX12_isTold RX12 2 1 0 0 := hC
  subst hz
  show V z E 2 0 0 L f 0 [(0, .ref a_0), (1, .int a_1)] []
  obtain ⟨m_1, t_2, k_3, k_4, k_5, k_6, k_7, k_8, k_9, k_10, k_11, k_12, k_13, k_14, k_15, k_16, k_17, k_18, k_19, k_20⟩ := id k_0
  obtain ⟨m_21, t_22⟩ := id k_3
  have b_23 := o_w.r0
  have b_24 := o_w.w0
  refine v_aload_n hC dX12_isTold_0 rfl ?_
  refine v_iload_n hC dX12_isTold_1 rfl ?_
  refine v_iconst hC dX12_isTold_2 (v := 0) (by decide) ?_
  obtain ⟨v_26, v_27, v_29, v_31, v_33, v_35, v_37, v_38, v_39, v_40, v_42, e_25, b_28, b_30, b_32, b_34, b_36, b_41, b_43⟩ := hW.at m_1 t_2
  refine v_vi hC (rest := []) m_1 e_25 rfl mi_X12_ofWay ms_X12_ofWay (p_X12_ofWay hW k_0 (by first | omega | (simp only [Int32.lt_iff_toInt_lt, Int32.le_iff_toInt_le, Int32.reduceToInt, ← Int32.toInt_inj, true_and, and_true, or_true, true_or, false_or, or_false, false_and, and_false, not_true_eq_false, not_false_eq_true] <;> omega)) (by decide) e_w o_w) mx_X12_ofWay ml_X12_94 (by decide) rfl (cells1 := 0) (slots1 := 0) (by decide) (by decide) (Nat.le_of_ble_eq_true rfl) (Nat.le_of_ble_eq_true rfl) rfl (Nat.le_of_ble_eq_true rfl) dX12_isTold_3 (fun r_44 L_45 f_46 h_47 => ?_)
  obtain ⟨rfl, rfl, rfl⟩ := h_47
  refine v_iconst hC dX12_isTold_6 (v := 1) (by decide) ?_
  refine v_icmp_ne hC dX12_isTold_7 (tgt := 14) (by decide) (fun h_50 => ?_) (fun h_50 => ?_)
  · simp only [Int32.lt_iff_toInt_lt, Int32.le_iff_toInt_le, Int32.reduceToInt, ← Int32.toInt_inj] at h_50
    refine v_iconst hC dX12_isTold_14 (v := 0) (by decide) ?_
    exact hR _ _ _ _ _ _ _ dX12_isTold_15 rfl (Nat.le_of_ble_eq_true rfl) (Nat.le_of_ble_eq_true rfl) ⟨rfl, rfl, (by decide), (by first | omega | (simp only [Int32.lt_iff_toInt_lt, Int32.le_iff_toInt_le, Int32.reduceToInt, ← Int32.toInt_inj, true_and, and_true, or_true, true_or, false_or, or_false, false_and, and_false, not_true_eq_false, not_false_eq_true] <;> omega))⟩
  · simp only [Int32.lt_iff_toInt_lt, Int32.le_iff_toInt_le, Int32.reduceToInt, ← Int32.toInt_inj] at h_50
    refine v_iconst hC dX12_isTold_10 (v := 1) (by decide) ?_
    refine v_goto hC dX12_isTold_11 (tgt := 15) (by decide) ?_
    exact hR _ _ _ _ _ _ _ dX12_isTold_15 rfl (Nat.le_of_ble_eq_true rfl) (Nat.le_of_ble_eq_true rfl) ⟨rfl, rfl, (by decide), (by first | omega | (simp only [Int32.lt_iff_toInt_lt, Int32.le_iff_toInt_le, Int32.reduceToInt, ← Int32.toInt_inj, true_and, and_true, or_true, true_or, false_or, or_false, false_and, and_false, not_true_eq_false, not_false_eq_true] <;> omega))⟩
set_option maxRecDepth 100000 in
set_option maxHeartbeats 4000000 in
theorem p_X12_asks {l : Launch} {E : Ez} {L : List Nat} {f : Nat → va_E} {T : Nat → va_E → Prop} {a_0 : Nat} {a_1 : Int32} {a_2 : Int32} {q : Nat → Nat} {g_w : Nat → Int32} (hW : WT T L f) (k_0 : isM T L E a_0 q) (e_w : f (q 1) = aI E 2076 g_w) (o_w : WOK g_w) : CI l yX12_asks cX12_asks 3 .int 2 0 0 E [.ref a_0, .int a_1, .int a_2] L f (fun r L1 f1 => L = L1 ∧ f = f1 ∧ ((-6) ≤ r.toInt ∧ r.toInt ≤ 0) ∧ (¬ r.toInt = 0 ∨ (0 ≤ a_1.toInt ∧ a_1.toInt ≤ 3)) ∧ (¬ r.toInt = 0 ∨ (0 ≤ a_2.toInt ∧ a_2.toInt ≤ 5)) ∧ (¬ r.toInt = 0 ∨ (wv g_w a_2 0).toInt = 1)) := by
  refine ci_of (by decide) (Nat.le_of_ble_eq_true rfl) (fun z hz hnm hC hR => ?_)
  have hC : Cx z E cX12_asks RX12 3 2 0 0 := hC
  subst hz
  show V z E 3 0 0 L f 0 [(0, .ref a_0), (1, .int a_1), (2, .int a_2)] []
  obtain ⟨m_1, t_2, k_3, k_4, k_5, k_6, k_7, k_8, k_9, k_10, k_11, k_12, k_13, k_14, k_15, k_16, k_17, k_18, k_19, k_20⟩ := id k_0
  obtain ⟨m_21, t_22⟩ := id k_3
  have b_23 := o_w.r0
  have b_24 := o_w.w0
  refine v_iload_n hC dX12_asks_0 rfl ?_
  refine v_si hC (rest := []) mt_X12_isCloth (p_X12_isCloth hW) mx_X12_isCloth ml_X12_319 (by decide) rfl (cells1 := 0) (slots1 := 0) (by decide) (by decide) (Nat.le_of_ble_eq_true rfl) (Nat.le_of_ble_eq_true rfl) rfl (Nat.le_of_ble_eq_true rfl) dX12_asks_1 (fun r_25 L_26 f_27 h_28 => ?_)
  obtain ⟨rfl, rfl, b_29, h_30⟩ := h_28
  refine v_if_eq hC dX12_asks_4 (tgt := 14) (by decide) (fun h_33 => ?_) (fun h_33 => ?_)
  · simp only [Int32.lt_iff_toInt_lt, Int32.le_iff_toInt_le, Int32.reduceToInt, ← Int32.toInt_inj] at h_33
    refine v_bipush hC dX12_asks_14 (v := (-2)) (by decide) ?_
    refine v_goto hC dX12_asks_16 (tgt := 41) (by decide) ?_
    exact hR _ _ _ _ _ _ _ dX12_asks_41 rfl (Nat.le_of_ble_eq_true rfl) (Nat.le_of_ble_eq_true rfl) ⟨rfl, rfl, (by decide), (.inl (by decide)), (.inl (by decide)), (by first | omega | (simp only [Int32.lt_iff_toInt_lt, Int32.le_iff_toInt_le, Int32.reduceToInt, ← Int32.toInt_inj, true_and, and_true, or_true, true_or, false_or, or_false, false_and, and_false, not_true_eq_false, not_false_eq_true] <;> omega))⟩
  · simp only [Int32.lt_iff_toInt_lt, Int32.le_iff_toInt_le, Int32.reduceToInt, ← Int32.toInt_inj] at h_33
    refine v_iload_n hC dX12_asks_7 rfl ?_
    refine v_si hC (rest := []) mt_X12_isWay (p_X12_isWay hW) mx_X12_isWay ml_X12_221 (by decide) rfl (cells1 := 0) (slots1 := 0) (by decide) (by decide) (Nat.le_of_ble_eq_true rfl) (Nat.le_of_ble_eq_true rfl) rfl (Nat.le_of_ble_eq_true rfl) dX12_asks_8 (fun r_34 L_35 f_36 h_37 => ?_)
    obtain ⟨rfl, rfl, b_38, h_39⟩ := h_37
    refine v_if_ne hC dX12_asks_11 (tgt := 19) (by decide) (fun h_42 => ?_) (fun h_42 => ?_)
    · simp only [Int32.lt_iff_toInt_lt, Int32.le_iff_toInt_le, Int32.reduceToInt, ← Int32.toInt_inj] at h_42
      refine v_aload_n hC dX12_asks_19 rfl ?_
      refine v_iload_n hC dX12_asks_20 rfl ?_
      obtain ⟨v_44, v_45, v_47, v_49, v_51, v_53, v_55, v_56, v_57, v_58, v_60, e_43, b_46, b_48, b_50, b_52, b_54, b_59, b_61⟩ := hW.at m_1 t_2
      refine v_vi hC (rest := []) m_1 e_43 rfl mi_X12_isThere ms_X12_isThere (p_X12_isThere hW k_0 (by first | omega | (simp only [Int32.lt_iff_toInt_lt, Int32.le_iff_toInt_le, Int32.reduceToInt, ← Int32.toInt_inj, true_and, and_true, or_true, true_or, false_or, or_false, false_and, and_false, not_true_eq_false, not_false_eq_true] <;> omega)) e_w o_w) mx_X12_isThere ml_X12_351 (by decide) rfl (cells1 := 0) (slots1 := 0) (by decide) (by decide) (Nat.le_of_ble_eq_true rfl) (Nat.le_of_ble_eq_true rfl) rfl (Nat.le_of_ble_eq_true rfl) dX12_asks_21 (fun r_62 L_63 f_64 h_65 => ?_)
      obtain ⟨rfl, rfl, b_66⟩ := h_65
      refine v_if_eq hC dX12_asks_24 (tgt := 35) (by decide) (fun h_69 => ?_) (fun h_69 => ?_)
      · simp only [Int32.lt_iff_toInt_lt, Int32.le_iff_toInt_le, Int32.reduceToInt, ← Int32.toInt_inj] at h_69
        refine v_bipush hC dX12_asks_35 (v := (-6)) (by decide) ?_
        refine v_goto hC dX12_asks_37 (tgt := 41) (by decide) ?_
        exact hR _ _ _ _ _ _ _ dX12_asks_41 rfl (Nat.le_of_ble_eq_true rfl) (Nat.le_of_ble_eq_true rfl) ⟨rfl, rfl, (by decide), (.inl (by decide)), (.inl (by decide)), (by first | omega | (simp only [Int32.lt_iff_toInt_lt, Int32.le_iff_toInt_le, Int32.reduceToInt, ← Int32.toInt_inj, true_and, and_true, or_true, true_or, false_or, or_false, false_and, and_false, not_true_eq_false, not_false_eq_true] <;> omega))⟩
      · simp only [Int32.lt_iff_toInt_lt, Int32.le_iff_toInt_le, Int32.reduceToInt, ← Int32.toInt_inj] at h_69
        refine v_aload_n hC dX12_asks_27 rfl ?_
        refine v_iload_n hC dX12_asks_28 rfl ?_
        refine v_vi hC (rest := []) m_1 e_43 rfl mi_X12_isTold ms_X12_isTold (p_X12_isTold hW k_0 (by first | omega | (simp only [Int32.lt_iff_toInt_lt, Int32.le_iff_toInt_le, Int32.reduceToInt, ← Int32.toInt_inj, true_and, and_true, or_true, true_or, false_or, or_false, false_and, and_false, not_true_eq_false, not_false_eq_true] <;> omega)) e_w o_w) mx_X12_isTold ml_X12_354 (by decide) rfl (cells1 := 0) (slots1 := 0) (by decide) (by decide) (Nat.le_of_ble_eq_true rfl) (Nat.le_of_ble_eq_true rfl) rfl (Nat.le_of_ble_eq_true rfl) dX12_asks_29 (fun r_70 L_71 f_72 h_73 => ?_)
        obtain ⟨rfl, rfl, b_74, x_75⟩ := h_73
        try simp only [Int32.reduceToInt, Int64.reduceToInt] at x_75
        refine v_if_ne hC dX12_asks_32 (tgt := 40) (by decide) (fun h_78 => ?_) (fun h_78 => ?_)
        · simp only [Int32.lt_iff_toInt_lt, Int32.le_iff_toInt_le, Int32.reduceToInt, ← Int32.toInt_inj] at h_78
          refine v_iconst hC dX12_asks_40 (v := 0) (by decide) ?_
          exact hR _ _ _ _ _ _ _ dX12_asks_41 rfl (Nat.le_of_ble_eq_true rfl) (Nat.le_of_ble_eq_true rfl) ⟨rfl, rfl, (by decide), (.inr (by first | omega | (simp only [Int32.lt_iff_toInt_lt, Int32.le_iff_toInt_le, Int32.reduceToInt, ← Int32.toInt_inj, true_and, and_true, or_true, true_or, false_or, or_false, false_and, and_false, not_true_eq_false, not_false_eq_true] <;> omega))), (.inr (by first | omega | (simp only [Int32.lt_iff_toInt_lt, Int32.le_iff_toInt_le, Int32.reduceToInt, ← Int32.toInt_inj, true_and, and_true, or_true, true_or, false_or, or_false, false_and, and_false, not_true_eq_false, not_false_eq_true] <;> omega))), (by first | omega | (simp only [Int32.lt_iff_toInt_lt, Int32.le_iff_toInt_le, Int32.reduceToInt, ← Int32.toInt_inj, true_and, and_true, or_true, true_or, false_or, or_false, false_and, and_false, not_true_eq_false, not_false_eq_true] <;> omega))⟩
        · simp only [Int32.lt_iff_toInt_lt, Int32.le_iff_toInt_le, Int32.reduceToInt, ← Int32.toInt_inj] at h_78
          refine v_bipush hC dX12_asks_35 (v := (-6)) (by decide) ?_
          refine v_goto hC dX12_asks_37 (tgt := 41) (by decide) ?_
          exact hR _ _ _ _ _ _ _ dX12_asks_41 rfl (Nat.le_of_ble_eq_true rfl) (Nat.le_of_ble_eq_true rfl) ⟨rfl, rfl, (by decide), (.inl (by decide)), (.inl (by decide)), (by first | omega | (simp only [Int32.lt_iff_toInt_lt, Int32.le_iff_toInt_le, Int32.reduceToInt, ← Int32.toInt_inj, true_and, and_true, or_true, true_or, false_or, or_false, false_and, and_false, not_true_eq_false, not_false_eq_true] <;> omega))⟩
    · simp only [Int32.lt_iff_toInt_lt, Int32.le_iff_toInt_le, Int32.reduceToInt, ← Int32.toInt_inj] at h_42
      refine v_bipush hC dX12_asks_14 (v := (-2)) (by decide) ?_
      refine v_goto hC dX12_asks_16 (tgt := 41) (by decide) ?_
      exact hR _ _ _ _ _ _ _ dX12_asks_41 rfl (Nat.le_of_ble_eq_true rfl) (Nat.le_of_ble_eq_true rfl) ⟨rfl, rfl, (by decide), (.inl (by decide)), (.inl (by decide)), (by first | omega | (simp only [Int32.lt_iff_toInt_lt, Int32.le_iff_toInt_le, Int32.reduceToInt, ← Int32.toInt_inj, true_and, and_true, or_true, true_or, false_or, or_false, false_and, and_false, not_true_eq_false, not_false_eq_true] <;> omega))⟩
set_option maxRecDepth 100000 in
set_option maxHeartbeats 4000000 in
theorem p_X12_rows {l : Launch} {E : Ez} {L : List Nat} {f : Nat → va_E} {T : Nat → va_E → Prop} {a_0 : Nat} {q : Nat → Nat} {g_w : Nat → Int32} (hW : WT T L f) (k_0 : isM T L E a_0 q) (e_w : f (q 1) = aI E 2076 g_w) (o_w : WOK g_w) : CI l yX12_rows cX12_rows 1 .int 0 0 0 E [.ref a_0] L f (fun r L1 f1 => L = L1 ∧ f = f1 ∧ r = (g_w 0)) := by
  refine ci_of (by decide) (Nat.le_of_ble_eq_true rfl) (fun z hz hnm hC hR => ?_)
  have hC : Cx z E cX12_rows RX12 1 0 0 0 := hC
  subst hz
  show V z E 1 0 0 L f 0 [(0, .ref a_0)] []
  obtain ⟨m_1, t_2, k_3, k_4, k_5, k_6, k_7, k_8, k_9, k_10, k_11, k_12, k_13, k_14, k_15, k_16, k_17, k_18, k_19, k_20⟩ := id k_0
  obtain ⟨m_21, t_22⟩ := id k_3
  have b_23 := o_w.r0
  have b_24 := o_w.w0
  refine v_aload_n hC dX12_rows_0 rfl ?_
  obtain ⟨v_26, v_27, v_29, v_31, v_33, v_35, v_37, v_38, v_39, v_40, v_42, e_25, b_28, b_30, b_32, b_34, b_36, b_41, b_43⟩ := hW.at m_1 t_2
  refine v_get hC fl_X12_13 m_1 e_25 rfl dX12_rows_1 ?_
  refine v_iconst hC dX12_rows_4 (v := 0) (by decide) ?_
  refine v_iald hC m_21 e_w (vp_in_iff.mpr (by decide)) (v := g_w 0) rfl dX12_rows_5 ?_
  exact hR _ _ _ _ _ _ _ dX12_rows_6 rfl (Nat.le_of_ble_eq_true rfl) (Nat.le_of_ble_eq_true rfl) ⟨rfl, rfl, rfl⟩
set_option maxRecDepth 100000 in
set_option maxHeartbeats 4000000 in
theorem p_X12_wide {l : Launch} {E : Ez} {L : List Nat} {f : Nat → va_E} {T : Nat → va_E → Prop} {a_0 : Nat} {q : Nat → Nat} {g_w : Nat → Int32} (hW : WT T L f) (k_0 : isM T L E a_0 q) (e_w : f (q 1) = aI E 2076 g_w) (o_w : WOK g_w) : CI l yX12_wide cX12_wide 1 .int 0 0 0 E [.ref a_0] L f (fun r L1 f1 => L = L1 ∧ f = f1 ∧ r = (g_w 1)) := by
  refine ci_of (by decide) (Nat.le_of_ble_eq_true rfl) (fun z hz hnm hC hR => ?_)
  have hC : Cx z E cX12_wide RX12 1 0 0 0 := hC
  subst hz
  show V z E 1 0 0 L f 0 [(0, .ref a_0)] []
  obtain ⟨m_1, t_2, k_3, k_4, k_5, k_6, k_7, k_8, k_9, k_10, k_11, k_12, k_13, k_14, k_15, k_16, k_17, k_18, k_19, k_20⟩ := id k_0
  obtain ⟨m_21, t_22⟩ := id k_3
  have b_23 := o_w.r0
  have b_24 := o_w.w0
  refine v_aload_n hC dX12_wide_0 rfl ?_
  obtain ⟨v_26, v_27, v_29, v_31, v_33, v_35, v_37, v_38, v_39, v_40, v_42, e_25, b_28, b_30, b_32, b_34, b_36, b_41, b_43⟩ := hW.at m_1 t_2
  refine v_get hC fl_X12_13 m_1 e_25 rfl dX12_wide_1 ?_
  refine v_iconst hC dX12_wide_4 (v := 1) (by decide) ?_
  refine v_iald hC m_21 e_w (vp_in_iff.mpr (by decide)) (v := g_w 1) rfl dX12_wide_5 ?_
  exact hR _ _ _ _ _ _ _ dX12_wide_6 rfl (Nat.le_of_ble_eq_true rfl) (Nat.le_of_ble_eq_true rfl) ⟨rfl, rfl, rfl⟩
set_option maxRecDepth 100000 in
set_option maxHeartbeats 4000000 in
theorem p_X12_area {l : Launch} {E : Ez} {L : List Nat} {f : Nat → va_E} {T : Nat → va_E → Prop} {a_0 : Nat} {q : Nat → Nat} {g_w : Nat → Int32} (hW : WT T L f) (k_0 : isM T L E a_0 q) (e_w : f (q 1) = aI E 2076 g_w) (o_w : WOK g_w) : CI l yX12_area cX12_area 1 .int 1 0 0 E [.ref a_0] L f (fun r L1 f1 => L = L1 ∧ f = f1 ∧ r = (g_w 0 * g_w 1)) := by
  refine ci_of (by decide) (Nat.le_of_ble_eq_true rfl) (fun z hz hnm hC hR => ?_)
  have hC : Cx z E cX12_area RX12 1 1 0 0 := hC
  subst hz
  show V z E 1 0 0 L f 0 [(0, .ref a_0)] []
  obtain ⟨m_1, t_2, k_3, k_4, k_5, k_6, k_7, k_8, k_9, k_10, k_11, k_12, k_13, k_14, k_15, k_16, k_17, k_18, k_19, k_20⟩ := id k_0
  obtain ⟨m_21, t_22⟩ := id k_3
  have b_23 := o_w.r0
  have b_24 := o_w.w0
  refine v_aload_n hC dX12_area_0 rfl ?_
  obtain ⟨v_26, v_27, v_29, v_31, v_33, v_35, v_37, v_38, v_39, v_40, v_42, e_25, b_28, b_30, b_32, b_34, b_36, b_41, b_43⟩ := hW.at m_1 t_2
  refine v_vi hC (rest := []) m_1 e_25 rfl mi_X12_rows ms_X12_rows (p_X12_rows hW k_0 e_w o_w) mx_X12_rows ml_X12_83 (by decide) rfl (cells1 := 0) (slots1 := 0) (by decide) (by decide) (Nat.le_of_ble_eq_true rfl) (Nat.le_of_ble_eq_true rfl) rfl (Nat.le_of_ble_eq_true rfl) dX12_area_1 (fun r_44 L_45 f_46 h_47 => ?_)
  obtain ⟨rfl, rfl, rfl⟩ := h_47
  refine v_aload_n hC dX12_area_4 rfl ?_
  refine v_vi hC (rest := [.int (g_w 0)]) m_1 e_25 rfl mi_X12_wide ms_X12_wide (p_X12_wide hW k_0 e_w o_w) mx_X12_wide ml_X12_87 (by decide) rfl (cells1 := 0) (slots1 := 0) (by decide) (by decide) (Nat.le_of_ble_eq_true rfl) (Nat.le_of_ble_eq_true rfl) rfl (Nat.le_of_ble_eq_true rfl) dX12_area_5 (fun r_50 L_51 f_52 h_53 => ?_)
  obtain ⟨rfl, rfl, rfl⟩ := h_53
  obtain ⟨v_56, h_57⟩ : ∃ v9 : Int32, (g_w 0) * (g_w 1) = v9 := ⟨_, rfl⟩
  refine v_imul hC dX12_area_8 h_57 ?_
  have h_58 := mul_v 16 16 256 h_57 (by first | omega | (simp only [Int32.lt_iff_toInt_lt, Int32.le_iff_toInt_le, Int32.reduceToInt, ← Int32.toInt_inj, true_and, and_true, or_true, true_or, false_or, or_false, false_and, and_false, not_true_eq_false, not_false_eq_true] <;> omega)) (by first | omega | (simp only [Int32.lt_iff_toInt_lt, Int32.le_iff_toInt_le, Int32.reduceToInt, ← Int32.toInt_inj, true_and, and_true, or_true, true_or, false_or, or_false, false_and, and_false, not_true_eq_false, not_false_eq_true] <;> omega)) (by decide) (by decide)
  exact hR _ _ _ _ _ _ _ dX12_area_9 rfl (Nat.le_of_ble_eq_true rfl) (Nat.le_of_ble_eq_true rfl) ⟨rfl, rfl, h_57.symm⟩
set_option maxRecDepth 100000 in
set_option maxHeartbeats 4000000 in
theorem p_X12_sortOf {l : Launch} {E : Ez} {L : List Nat} {f : Nat → va_E} {T : Nat → va_E → Prop} {a_0 : Nat} {a_1 : Int32} {q : Nat → Nat} {g_w : Nat → Int32} (hW : WT T L f) (k_0 : isM T L E a_0 q) (g_1 : (0 ≤ a_1.toInt)) (e_w : f (q 1) = aI E 2076 g_w) (o_w : WOK g_w) (hpt : 1 ≤ (g_w 0).toInt) : CI l yX12_sortOf cX12_sortOf 4 .int 1 0 0 E [.ref a_0, .int a_1] L f (fun r L1 f1 => L = L1 ∧ f = f1 ∧ ((-1) ≤ r.toInt ∧ r.toInt ≤ 12)) := by
  refine ci_of (by decide) (Nat.le_of_ble_eq_true rfl) (fun z hz hnm hC hR => ?_)
  have hC : Cx z E cX12_sortOf RX12 4 1 0 0 := hC
  subst hz
  show V z E 4 0 0 L f 0 [(0, .ref a_0), (1, .int a_1)] []
  obtain ⟨m_1, t_2, k_3, k_4, k_5, k_6, k_7, k_8, k_9, k_10, k_11, k_12, k_13, k_14, k_15, k_16, k_17, k_18, k_19, k_20⟩ := id k_0
  obtain ⟨m_21, t_22⟩ := id k_3
  have b_23 := o_w.r0
  have b_24 := o_w.w0
  obtain ⟨pt_1, pt_2, pt_3⟩ := o_w.pt hpt
  refine v_iload_n hC dX12_sortOf_0 rfl ?_
  refine v_aload_n hC dX12_sortOf_1 rfl ?_
  obtain ⟨v_26, v_27, v_29, v_31, v_33, v_35, v_37, v_38, v_39, v_40, v_42, e_25, b_28, b_30, b_32, b_34, b_36, b_41, b_43⟩ := hW.at m_1 t_2
  refine v_vi hC (rest := [.int a_1]) m_1 e_25 rfl mi_X12_wide ms_X12_wide (p_X12_wide hW k_0 e_w o_w) mx_X12_wide ml_X12_87 (by decide) rfl (cells1 := 0) (slots1 := 0) (by decide) (by decide) (Nat.le_of_ble_eq_true rfl) (Nat.le_of_ble_eq_true rfl) rfl (Nat.le_of_ble_eq_true rfl) dX12_sortOf_2 (fun r_44 L_45 f_46 h_47 => ?_)
  obtain ⟨rfl, rfl, rfl⟩ := h_47
  obtain ⟨v_50, h_51⟩ : ∃ v9 : Int32, a_1 / (g_w 1) = v9 := ⟨_, rfl⟩
  refine v_idiv hC dX12_sortOf_5 (by first | omega | (simp only [Int32.lt_iff_toInt_lt, Int32.le_iff_toInt_le, Int32.reduceToInt, ← Int32.toInt_inj, true_and, and_true, or_true, true_or, false_or, or_false, false_and, and_false, not_true_eq_false, not_false_eq_true] <;> omega)) h_51 ?_
  have h_52 := div_v h_51 (by first | omega | (simp only [Int32.lt_iff_toInt_lt, Int32.le_iff_toInt_le, Int32.reduceToInt, ← Int32.toInt_inj, true_and, and_true, or_true, true_or, false_or, or_false, false_and, and_false, not_true_eq_false, not_false_eq_true] <;> omega)) (by first | omega | (simp only [Int32.lt_iff_toInt_lt, Int32.le_iff_toInt_le, Int32.reduceToInt, ← Int32.toInt_inj, true_and, and_true, or_true, true_or, false_or, or_false, false_and, and_false, not_true_eq_false, not_false_eq_true] <;> omega))
  refine v_aload_n hC dX12_sortOf_6 rfl ?_
  refine v_get hC fl_X12_13 m_1 e_25 rfl dX12_sortOf_7 ?_
  refine v_iconst hC dX12_sortOf_10 (v := 2) (by decide) ?_
  refine v_iald hC m_21 e_w (vp_in_iff.mpr (by decide)) (v := g_w 2) rfl dX12_sortOf_11 ?_
  obtain ⟨v_53, h_54⟩ : ∃ v9 : Int32, v_50 - v_50 / (g_w 2) * (g_w 2) = v9 := ⟨_, rfl⟩
  refine v_irem hC dX12_sortOf_12 (by first | omega | (simp only [Int32.lt_iff_toInt_lt, Int32.le_iff_toInt_le, Int32.reduceToInt, ← Int32.toInt_inj, true_and, and_true, or_true, true_or, false_or, or_false, false_and, and_false, not_true_eq_false, not_false_eq_true] <;> omega)) h_54 ?_
  have h_55 := rem_v h_54 (by first | omega | (simp only [Int32.lt_iff_toInt_lt, Int32.le_iff_toInt_le, Int32.reduceToInt, ← Int32.toInt_inj, true_and, and_true, or_true, true_or, false_or, or_false, false_and, and_false, not_true_eq_false, not_false_eq_true] <;> omega)) (by first | omega | (simp only [Int32.lt_iff_toInt_lt, Int32.le_iff_toInt_le, Int32.reduceToInt, ← Int32.toInt_inj, true_and, and_true, or_true, true_or, false_or, or_false, false_and, and_false, not_true_eq_false, not_false_eq_true] <;> omega))
  refine v_istore_n hC dX12_sortOf_13 (by decide) (lv' := [(2, .int v_53), (0, .ref a_0), (1, .int a_1)]) rfl ?_
  refine v_bipush hC dX12_sortOf_14 (v := 16) (by decide) ?_
  refine v_bipush hC dX12_sortOf_16 (v := 13) (by decide) ?_
  refine v_iload_n hC dX12_sortOf_18 rfl ?_
  obtain ⟨v_56, h_57⟩ : ∃ v9 : Int32, (13 : Int32) * v_53 = v9 := ⟨_, rfl⟩
  refine v_imul hC dX12_sortOf_19 h_57 ?_
  have h_58 := mul_v 13 7 91 h_57 (by decide) (by first | omega | (simp only [Int32.lt_iff_toInt_lt, Int32.le_iff_toInt_le, Int32.reduceToInt, ← Int32.toInt_inj, true_and, and_true, or_true, true_or, false_or, or_false, false_and, and_false, not_true_eq_false, not_false_eq_true] <;> omega)) (by decide) (by decide)
  try simp only [Int32.reduceToInt] at h_58
  obtain ⟨v_59, h_60⟩ : ∃ v9 : Int32, (16 : Int32) + v_56 = v9 := ⟨_, rfl⟩
  refine v_iadd hC dX12_sortOf_20 h_60 ?_
  have h_61 := add_v h_60 (by first | omega | (simp only [Int32.lt_iff_toInt_lt, Int32.le_iff_toInt_le, Int32.reduceToInt, ← Int32.toInt_inj, true_and, and_true, or_true, true_or, false_or, or_false, false_and, and_false, not_true_eq_false, not_false_eq_true] <;> omega)) (by first | omega | (simp only [Int32.lt_iff_toInt_lt, Int32.le_iff_toInt_le, Int32.reduceToInt, ← Int32.toInt_inj, true_and, and_true, or_true, true_or, false_or, or_false, false_and, and_false, not_true_eq_false, not_false_eq_true] <;> omega))
  try simp only [Int32.reduceToInt] at h_61
  refine v_istore_n hC dX12_sortOf_21 (by decide) (lv' := [(3, .int v_59), (2, .int v_53), (0, .ref a_0), (1, .int a_1)]) rfl ?_
  refine v_aload_n hC dX12_sortOf_22 rfl ?_
  refine v_get hC fl_X12_13 m_1 e_25 rfl dX12_sortOf_23 ?_
  refine v_iload_n hC dX12_sortOf_26 rfl ?_
  refine v_iconst hC dX12_sortOf_27 (v := 1) (by decide) ?_
  obtain ⟨v_62, h_63⟩ : ∃ v9 : Int32, v_59 + 1 = v9 := ⟨_, rfl⟩
  refine v_iadd hC dX12_sortOf_28 h_63 ?_
  have h_64 := add_v h_63 (by first | omega | (simp only [Int32.lt_iff_toInt_lt, Int32.le_iff_toInt_le, Int32.reduceToInt, ← Int32.toInt_inj, true_and, and_true, or_true, true_or, false_or, or_false, false_and, and_false, not_true_eq_false, not_false_eq_true] <;> omega)) (by first | omega | (simp only [Int32.lt_iff_toInt_lt, Int32.le_iff_toInt_le, Int32.reduceToInt, ← Int32.toInt_inj, true_and, and_true, or_true, true_or, false_or, or_false, false_and, and_false, not_true_eq_false, not_false_eq_true] <;> omega))
  try simp only [Int32.reduceToInt] at h_64
  refine v_iload_n hC dX12_sortOf_29 rfl ?_
  refine v_aload_n hC dX12_sortOf_30 rfl ?_
  refine v_vi hC (rest := [.int a_1, .int v_62, .ref (q 1)]) m_1 e_25 rfl mi_X12_wide ms_X12_wide (p_X12_wide hW k_0 e_w o_w) mx_X12_wide ml_X12_87 (by decide) rfl (cells1 := 0) (slots1 := 0) (by decide) (by decide) (Nat.le_of_ble_eq_true rfl) (Nat.le_of_ble_eq_true rfl) rfl (Nat.le_of_ble_eq_true rfl) dX12_sortOf_31 (fun r_65 L_66 f_67 h_68 => ?_)
  obtain ⟨rfl, rfl, rfl⟩ := h_68
  obtain ⟨v_71, h_72⟩ : ∃ v9 : Int32, a_1 - a_1 / (g_w 1) * (g_w 1) = v9 := ⟨_, rfl⟩
  refine v_irem hC dX12_sortOf_34 (by first | omega | (simp only [Int32.lt_iff_toInt_lt, Int32.le_iff_toInt_le, Int32.reduceToInt, ← Int32.toInt_inj, true_and, and_true, or_true, true_or, false_or, or_false, false_and, and_false, not_true_eq_false, not_false_eq_true] <;> omega)) h_72 ?_
  have h_73 := rem_v h_72 (by first | omega | (simp only [Int32.lt_iff_toInt_lt, Int32.le_iff_toInt_le, Int32.reduceToInt, ← Int32.toInt_inj, true_and, and_true, or_true, true_or, false_or, or_false, false_and, and_false, not_true_eq_false, not_false_eq_true] <;> omega)) (by first | omega | (simp only [Int32.lt_iff_toInt_lt, Int32.le_iff_toInt_le, Int32.reduceToInt, ← Int32.toInt_inj, true_and, and_true, or_true, true_or, false_or, or_false, false_and, and_false, not_true_eq_false, not_false_eq_true] <;> omega))
  refine v_aload_n hC dX12_sortOf_35 rfl ?_
  refine v_get hC fl_X12_13 m_1 e_25 rfl dX12_sortOf_36 ?_
  refine v_iload_n hC dX12_sortOf_39 rfl ?_
  obtain ⟨v_74, h_75⟩ : ∃ v9 : Int32, g_w (v_59 : Int32).toNatClampNeg = v9 := ⟨_, rfl⟩
  refine v_iald hC m_21 e_w (vp_in_iff.mpr (by first | omega | (simp only [Int32.lt_iff_toInt_lt, Int32.le_iff_toInt_le, Int32.reduceToInt, ← Int32.toInt_inj, true_and, and_true, or_true, true_or, false_or, or_false, false_and, and_false, not_true_eq_false, not_false_eq_true] <;> omega))) h_75 dX12_sortOf_40 ?_
  have b_76 := len_at o_w (i := v_59) (r := v_53) hpt (by omega) (by omega) (by omega)
  rw [h_75] at b_76
  obtain ⟨v_77, h_78⟩ : ∃ v9 : Int32, v_71 - v_71 / v_74 * v_74 = v9 := ⟨_, rfl⟩
  refine v_irem hC dX12_sortOf_41 (by first | omega | (simp only [Int32.lt_iff_toInt_lt, Int32.le_iff_toInt_le, Int32.reduceToInt, ← Int32.toInt_inj, true_and, and_true, or_true, true_or, false_or, or_false, false_and, and_false, not_true_eq_false, not_false_eq_true] <;> omega)) h_78 ?_
  have h_79 := rem_v h_78 (by first | omega | (simp only [Int32.lt_iff_toInt_lt, Int32.le_iff_toInt_le, Int32.reduceToInt, ← Int32.toInt_inj, true_and, and_true, or_true, true_or, false_or, or_false, false_and, and_false, not_true_eq_false, not_false_eq_true] <;> omega)) (by first | omega | (simp only [Int32.lt_iff_toInt_lt, Int32.le_iff_toInt_le, Int32.reduceToInt, ← Int32.toInt_inj, true_and, and_true, or_true, true_or, false_or, or_false, false_and, and_false, not_true_eq_false, not_false_eq_true] <;> omega))
  obtain ⟨v_80, h_81⟩ : ∃ v9 : Int32, v_62 + v_77 = v9 := ⟨_, rfl⟩
  refine v_iadd hC dX12_sortOf_42 h_81 ?_
  have h_82 := add_v h_81 (by first | omega | (simp only [Int32.lt_iff_toInt_lt, Int32.le_iff_toInt_le, Int32.reduceToInt, ← Int32.toInt_inj, true_and, and_true, or_true, true_or, false_or, or_false, false_and, and_false, not_true_eq_false, not_false_eq_true] <;> omega)) (by first | omega | (simp only [Int32.lt_iff_toInt_lt, Int32.le_iff_toInt_le, Int32.reduceToInt, ← Int32.toInt_inj, true_and, and_true, or_true, true_or, false_or, or_false, false_and, and_false, not_true_eq_false, not_false_eq_true] <;> omega))
  obtain ⟨v_83, h_84⟩ : ∃ v9 : Int32, g_w (v_80 : Int32).toNatClampNeg = v9 := ⟨_, rfl⟩
  refine v_iald hC m_21 e_w (vp_in_iff.mpr (by first | omega | (simp only [Int32.lt_iff_toInt_lt, Int32.le_iff_toInt_le, Int32.reduceToInt, ← Int32.toInt_inj, true_and, and_true, or_true, true_or, false_or, or_false, false_and, and_false, not_true_eq_false, not_false_eq_true] <;> omega))) h_84 dX12_sortOf_43 ?_
  have b_85 := sg_at o_w (i := v_80) (by omega) (by omega)
  rw [h_84] at b_85
  exact hR _ _ _ _ _ _ _ dX12_sortOf_44 rfl (Nat.le_of_ble_eq_true rfl) (Nat.le_of_ble_eq_true rfl) ⟨rfl, rfl, (by first | omega | (simp only [Int32.lt_iff_toInt_lt, Int32.le_iff_toInt_le, Int32.reduceToInt, ← Int32.toInt_inj, true_and, and_true, or_true, true_or, false_or, or_false, false_and, and_false, not_true_eq_false, not_false_eq_true] <;> omega))⟩
set_option maxRecDepth 100000 in
set_option maxHeartbeats 4000000 in
theorem p_X12_lists {l : Launch} {E : Ez} {L : List Nat} {f : Nat → va_E} {T : Nat → va_E → Prop} {a_0 : Nat} {a_1 : Int32} {q : Nat → Nat} {g_w : Nat → Int32} (hW : WT T L f) (k_0 : isM T L E a_0 q) (g_1 : (0 ≤ a_1.toInt ∧ a_1.toInt ≤ 5)) (e_w : f (q 1) = aI E 2076 g_w) (o_w : WOK g_w) (htold : (wv g_w a_1 0).toInt = 1) : CV l yX12_lists cX12_lists 7 2 0 0 E [.ref a_0, .int a_1] L f (fun L1 f1 => L = L1 ∧ WT T L f1 ∧ FR [12, 356] f f1 ∧ (fld (f1 a_0) 17 = 0 ∨ 1 ≤ (g_w 0).toInt) ∧ fld (f1 a_0) 20 = fld (f a_0) 20) := by
  refine cv_of (by decide) (Nat.le_of_ble_eq_true rfl) (fun z hz hnm hC hR => ?_)
  have hC : Cx z E cX12_lists RX12 7 2 0 0 := hC
  subst hz
  show V z E 7 0 0 L f 0 [(0, .ref a_0), (1, .int a_1)] []
  obtain ⟨m_1, t_2, k_3, k_4, k_5, k_6, k_7, k_8, k_9, k_10, k_11, k_12, k_13, k_14, k_15, k_16, k_17, k_18, k_19, k_20⟩ := id k_0
  obtain ⟨m_21, t_22⟩ := id k_3
  have b_23 := o_w.r0
  have b_24 := o_w.w0
  obtain ⟨v_26, v_27, v_29, v_31, v_33, v_35, v_37, v_38, v_39, v_40, v_42, e_25, b_28, b_30, b_32, b_34, b_36, b_41, b_43⟩ := hW.at m_1 t_2
  have mz_44 : fld (f a_0) 20 = v_42.toInt := by rw [e_25]; rfl
  obtain ⟨tl_2, tl_3, tl_4⟩ := o_w.told g_1 htold
  have ar_0 := area_v o_w
  refine v_aload_n hC dX12_lists_0 rfl ?_
  refine v_iconst hC dX12_lists_1 (v := 0) (by decide) ?_
  refine v_put hC fl_X12_335 m_1 e_25 rfl rfl (Nat.le_of_ble_eq_true rfl) (fs' := [.int v_26, .ref (q 1), .ref (q 2), .ref (q 3), .ref (q 4), .int v_27, .ref (q 6), .int v_29, .int v_31, .int v_33, .int v_35, .int v_37, .int v_38, .int v_39, .ref (q 14), .ref (q 15), .ref (q 16), .int 0, .ref (q 18), .ref (q 19), .int v_42, .ref (q 21), .ref (q 22), .ref (q 23), .ref (q 24), .ref (q 25), .ref (q 26), .ref (q 27), .ref (q 28)]) rfl dX12_lists_2 (fun f_45 hf_46 hk_47 => ?_)
  have hW_48 := hW.up hf_46 hk_47 t_2 ⟨v_26, v_27, v_29, v_31, v_33, v_35, v_37, v_38, v_39, 0, v_42, rfl, (by first | omega | (simp only [Int32.lt_iff_toInt_lt, Int32.le_iff_toInt_le, Int32.reduceToInt, ← Int32.toInt_inj, true_and, and_true, or_true, true_or, false_or, or_false, false_and, and_false, not_true_eq_false, not_false_eq_true] <;> omega)), (by first | omega | (simp only [Int32.lt_iff_toInt_lt, Int32.le_iff_toInt_le, Int32.reduceToInt, ← Int32.toInt_inj, true_and, and_true, or_true, true_or, false_or, or_false, false_and, and_false, not_true_eq_false, not_false_eq_true] <;> omega)), (by first | omega | (simp only [Int32.lt_iff_toInt_lt, Int32.le_iff_toInt_le, Int32.reduceToInt, ← Int32.toInt_inj, true_and, and_true, or_true, true_or, false_or, or_false, false_and, and_false, not_true_eq_false, not_false_eq_true] <;> omega)), (by first | omega | (simp only [Int32.lt_iff_toInt_lt, Int32.le_iff_toInt_le, Int32.reduceToInt, ← Int32.toInt_inj, true_and, and_true, or_true, true_or, false_or, or_false, false_and, and_false, not_true_eq_false, not_false_eq_true] <;> omega)), (by first | omega | (simp only [Int32.lt_iff_toInt_lt, Int32.le_iff_toInt_le, Int32.reduceToInt, ← Int32.toInt_inj, true_and, and_true, or_true, true_or, false_or, or_false, false_and, and_false, not_true_eq_false, not_false_eq_true] <;> omega)), (by decide), (by first | omega | (simp only [Int32.lt_iff_toInt_lt, Int32.le_iff_toInt_le, Int32.reduceToInt, ← Int32.toInt_inj, true_and, and_true, or_true, true_or, false_or, or_false, false_and, and_false, not_true_eq_false, not_false_eq_true] <;> omega))⟩
  have hf_49 := (hk_47 (q 1) (ne_kd e_w e_25 rfl)).trans e_w
  have fr_50 := FR.w hk_47 e_25 (k := 12) rfl
  refine v_iconst hC dX12_lists_5 (v := 0) (by decide) ?_
  refine v_istore_n hC dX12_lists_6 (by decide) (lv' := [(2, .int 0), (0, .ref a_0), (1, .int a_1)]) rfl ?_
  refine v_iconst hC dX12_lists_7 (v := 0) (by decide) ?_
  refine v_istore_n hC dX12_lists_8 (by decide) (lv' := [(3, .int 0), (2, .int 0), (0, .ref a_0), (1, .int a_1)]) rfl ?_
  have lp_2977 : ∀ (n_2978 : Nat) (f_2969 : Nat → va_E) (hW_2970 : WT T L f_2969) (hF_2971 : FR [12, 356] f_45 f_2969) (i_2967 : Int32) (b_2973 : (0 ≤ i_2967.toInt ∧ i_2967.toInt ≤ 256)) (i_2968 : Int32) (nv_2974 : fld (f_2969 a_0) 17 ≤ i_2967.toInt) (nv_2975 : i_2967.toInt ≤ (g_w 0 * g_w 1).toInt) (nv_2976 : fld (f_2969 a_0) 20 = v_42.toInt) (hm_2980 : 256 - i_2967.toInt < (n_2978 : Int)), V z E 7 0 0 L f_2969 9 [(3, .int i_2967), (2, .int i_2968), (0, .ref a_0), (1, .int a_1)] [] := by
    intro n_2978
    induction n_2978 with
    | zero =>
      intro f_2969 hW_2970 hF_2971 i_2967 b_2973 i_2968 nv_2974 nv_2975 nv_2976 hm_2980
      have hf_2972 := hF_2971.at hf_49 rfl
      obtain ⟨v_2982, v_2983, v_2985, v_2987, v_2989, v_2991, v_2993, v_2994, v_2995, v_2996, v_2998, e_2981, b_2984, b_2986, b_2988, b_2990, b_2992, b_2997, b_2999⟩ := hW_2970.at m_1 t_2
      have fe_3000 : fld (f_2969 a_0) 17 = (v_2996 : Int32).toInt := by rw [e_2981]; rfl
      rw [fe_3000] at nv_2974
      have fe_3001 : fld (f_2969 a_0) 20 = (v_2998 : Int32).toInt := by rw [e_2981]; rfl
      rw [fe_3001] at nv_2976
      exfalso; omega
    | succ n_2978 ih_2979 =>
      intro f_2969 hW_2970 hF_2971 i_2967 b_2973 i_2968 nv_2974 nv_2975 nv_2976 hm_2980
      have hf_2972 := hF_2971.at hf_49 rfl
      obtain ⟨v_2982, v_2983, v_2985, v_2987, v_2989, v_2991, v_2993, v_2994, v_2995, v_2996, v_2998, e_2981, b_2984, b_2986, b_2988, b_2990, b_2992, b_2997, b_2999⟩ := hW_2970.at m_1 t_2
      have fe_3000 : fld (f_2969 a_0) 17 = (v_2996 : Int32).toInt := by rw [e_2981]; rfl
      rw [fe_3000] at nv_2974
      have fe_3001 : fld (f_2969 a_0) 20 = (v_2998 : Int32).toInt := by rw [e_2981]; rfl
      rw [fe_3001] at nv_2976
      refine v_iload_n hC dX12_lists_9 rfl ?_
      refine v_aload_n hC dX12_lists_10 rfl ?_
      refine v_vi hC (rest := [.int i_2967]) m_1 e_2981 rfl mi_X12_area ms_X12_area (p_X12_area hW_2970 k_0 hf_2972 o_w) mx_X12_area ml_X12_203 (by decide) rfl (cells1 := 0) (slots1 := 0) (by decide) (by decide) (Nat.le_of_ble_eq_true rfl) (Nat.le_of_ble_eq_true rfl) rfl (Nat.le_of_ble_eq_true rfl) dX12_lists_11 (fun r_3002 L_3003 f_3004 h_3005 => ?_)
      obtain ⟨rfl, rfl, rfl⟩ := h_3005
      have ar_3008 := area_v o_w
      refine v_icmp_ge hC dX12_lists_14 (tgt := 171) (by decide) (fun h_3009 => ?_) (fun h_3009 => ?_)
      · simp only [Int32.lt_iff_toInt_lt, Int32.le_iff_toInt_le, Int32.reduceToInt, ← Int32.toInt_inj] at h_3009
        have fe_3010 : fld (f_2969 a_0) 17 = (v_2996 : Int32).toInt := by rw [e_2981]; rfl
        have fe_3011 : fld (f_2969 a_0) 20 = (v_2998 : Int32).toInt := by rw [e_2981]; rfl
        exact hR _ _ _ _ _ _ dX12_lists_171 (Nat.le_of_ble_eq_true rfl) (Nat.le_of_ble_eq_true rfl) ⟨rfl, hW_2970, ((fr_50.tr hF_2971).mono rfl), (by simp only [fe_3010, true_and, and_true, or_true, true_or, false_or, or_false, false_and, and_false, not_true_eq_false, not_false_eq_true] <;> first | omega | (simp only [Int32.lt_iff_toInt_lt, Int32.le_iff_toInt_le, Int32.reduceToInt, ← Int32.toInt_inj, true_and, and_true, or_true, true_or, false_or, or_false, false_and, and_false, not_true_eq_false, not_false_eq_true] <;> omega)), (by simp only [fe_3011, mz_44, true_and, and_true, or_true, true_or, false_or, or_false, false_and, and_false, not_true_eq_false, not_false_eq_true] <;> first | omega | (simp only [Int32.lt_iff_toInt_lt, Int32.le_iff_toInt_le, Int32.reduceToInt, ← Int32.toInt_inj, true_and, and_true, or_true, true_or, false_or, or_false, false_and, and_false, not_true_eq_false, not_false_eq_true] <;> omega))⟩
      · simp only [Int32.lt_iff_toInt_lt, Int32.le_iff_toInt_le, Int32.reduceToInt, ← Int32.toInt_inj] at h_3009
        have pq_3012 : 1 ≤ (g_w 0).toInt ∧ 1 ≤ (g_w 1).toInt := by omega
        have dl_3013 := div_lt_v (i := i_2967.toInt) (r := (g_w 0).toInt) (w := (g_w 1).toInt) (by omega) (by omega) (by omega)
        refine v_aload_n hC dX12_lists_17 rfl ?_
        refine v_iload_n hC dX12_lists_18 rfl ?_
        refine v_bipush hC dX12_lists_19 (v := 6) (by decide) ?_
        refine v_vi hC (rest := []) m_1 e_2981 rfl mi_X12_ofWay ms_X12_ofWay (p_X12_ofWay hW_2970 k_0 (by first | omega | (simp only [Int32.lt_iff_toInt_lt, Int32.le_iff_toInt_le, Int32.reduceToInt, ← Int32.toInt_inj, true_and, and_true, or_true, true_or, false_or, or_false, false_and, and_false, not_true_eq_false, not_false_eq_true] <;> omega)) (by decide) hf_2972 o_w) mx_X12_ofWay ml_X12_94 (by decide) rfl (cells1 := 0) (slots1 := 0) (by decide) (by decide) (Nat.le_of_ble_eq_true rfl) (Nat.le_of_ble_eq_true rfl) rfl (Nat.le_of_ble_eq_true rfl) dX12_lists_21 (fun r_3014 L_3015 f_3016 h_3017 => ?_)
        obtain ⟨rfl, rfl, rfl⟩ := h_3017
        refine v_iconst hC dX12_lists_24 (v := 1) (by decide) ?_
        have jn_3054 : ∀ (v_3055 : Int32) (b_3056 : (0 ≤ v_3055.toInt ∧ v_3055.toInt ≤ 15)), V z E 7 0 0 L f_2969 50 [(3, .int i_2967), (2, .int i_2968), (0, .ref a_0), (1, .int a_1)] [.int v_3055] := by
          intro v_3055 b_3056
          refine v_istore hC dX12_lists_50 (by decide) (lv' := [(4, .int v_3055), (3, .int i_2967), (2, .int i_2968), (0, .ref a_0), (1, .int a_1)]) rfl ?_
          refine v_aload_n hC dX12_lists_52 rfl ?_
          refine v_iload_n hC dX12_lists_53 rfl ?_
          refine v_iconst hC dX12_lists_54 (v := 5) (by decide) ?_
          refine v_vi hC (rest := []) m_1 e_2981 rfl mi_X12_ofWay ms_X12_ofWay (p_X12_ofWay hW_2970 k_0 (by first | omega | (simp only [Int32.lt_iff_toInt_lt, Int32.le_iff_toInt_le, Int32.reduceToInt, ← Int32.toInt_inj, true_and, and_true, or_true, true_or, false_or, or_false, false_and, and_false, not_true_eq_false, not_false_eq_true] <;> omega)) (by decide) hf_2972 o_w) mx_X12_ofWay ml_X12_94 (by decide) rfl (cells1 := 0) (slots1 := 0) (by decide) (by decide) (Nat.le_of_ble_eq_true rfl) (Nat.le_of_ble_eq_true rfl) rfl (Nat.le_of_ble_eq_true rfl) dX12_lists_55 (fun r_3057 L_3058 f_3059 h_3060 => ?_)
          obtain ⟨rfl, rfl, rfl⟩ := h_3060
          refine v_iconst hC dX12_lists_58 (v := 1) (by decide) ?_
          have jn_3108 : ∀ (v_3109 : Int32) (b_3110 : (0 ≤ v_3109.toInt ∧ v_3109.toInt ≤ 15)), V z E 7 0 0 L f_2969 92 [(4, .int v_3055), (3, .int i_2967), (2, .int i_2968), (0, .ref a_0), (1, .int a_1)] [.int v_3109] := by
            intro v_3109 b_3110
            refine v_istore hC dX12_lists_92 (by decide) (lv' := [(5, .int v_3109), (4, .int v_3055), (3, .int i_2967), (2, .int i_2968), (0, .ref a_0), (1, .int a_1)]) rfl ?_
            refine v_iload hC dX12_lists_94 rfl ?_
            refine v_aload_n hC dX12_lists_96 rfl ?_
            refine v_vi hC (rest := [.int v_3055]) m_1 e_2981 rfl mi_X12_wide ms_X12_wide (p_X12_wide hW_2970 k_0 hf_2972 o_w) mx_X12_wide ml_X12_87 (by decide) rfl (cells1 := 0) (slots1 := 0) (by decide) (by decide) (Nat.le_of_ble_eq_true rfl) (Nat.le_of_ble_eq_true rfl) rfl (Nat.le_of_ble_eq_true rfl) dX12_lists_97 (fun r_3111 L_3112 f_3113 h_3114 => ?_)
            obtain ⟨rfl, rfl, rfl⟩ := h_3114
            obtain ⟨v_3117, h_3118⟩ : ∃ v9 : Int32, v_3055 * (g_w 1) = v9 := ⟨_, rfl⟩
            refine v_imul hC dX12_lists_100 h_3118 ?_
            have h_3119 := mul_v 15 16 240 h_3118 (by first | omega | (simp only [Int32.lt_iff_toInt_lt, Int32.le_iff_toInt_le, Int32.reduceToInt, ← Int32.toInt_inj, true_and, and_true, or_true, true_or, false_or, or_false, false_and, and_false, not_true_eq_false, not_false_eq_true] <;> omega)) (by first | omega | (simp only [Int32.lt_iff_toInt_lt, Int32.le_iff_toInt_le, Int32.reduceToInt, ← Int32.toInt_inj, true_and, and_true, or_true, true_or, false_or, or_false, false_and, and_false, not_true_eq_false, not_false_eq_true] <;> omega)) (by decide) (by decide)
            refine v_iload hC dX12_lists_101 rfl ?_
            obtain ⟨v_3120, h_3121⟩ : ∃ v9 : Int32, v_3117 + v_3109 = v9 := ⟨_, rfl⟩
            refine v_iadd hC dX12_lists_103 h_3121 ?_
            have h_3122 := add_v h_3121 (by first | omega | (simp only [Int32.lt_iff_toInt_lt, Int32.le_iff_toInt_le, Int32.reduceToInt, ← Int32.toInt_inj, true_and, and_true, or_true, true_or, false_or, or_false, false_and, and_false, not_true_eq_false, not_false_eq_true] <;> omega)) (by first | omega | (simp only [Int32.lt_iff_toInt_lt, Int32.le_iff_toInt_le, Int32.reduceToInt, ← Int32.toInt_inj, true_and, and_true, or_true, true_or, false_or, or_false, false_and, and_false, not_true_eq_false, not_false_eq_true] <;> omega))
            refine v_istore hC dX12_lists_104 (by decide) (lv' := [(6, .int v_3120), (5, .int v_3109), (4, .int v_3055), (3, .int i_2967), (2, .int i_2968), (0, .ref a_0), (1, .int a_1)]) rfl ?_
            refine v_aload_n hC dX12_lists_106 rfl ?_
            refine v_iload_n hC dX12_lists_107 rfl ?_
            refine v_iconst hC dX12_lists_108 (v := 1) (by decide) ?_
            refine v_vi hC (rest := []) m_1 e_2981 rfl mi_X12_ofWay ms_X12_ofWay (p_X12_ofWay hW_2970 k_0 (by first | omega | (simp only [Int32.lt_iff_toInt_lt, Int32.le_iff_toInt_le, Int32.reduceToInt, ← Int32.toInt_inj, true_and, and_true, or_true, true_or, false_or, or_false, false_and, and_false, not_true_eq_false, not_false_eq_true] <;> omega)) (by decide) hf_2972 o_w) mx_X12_ofWay ml_X12_94 (by decide) rfl (cells1 := 0) (slots1 := 0) (by decide) (by decide) (Nat.le_of_ble_eq_true rfl) (Nat.le_of_ble_eq_true rfl) rfl (Nat.le_of_ble_eq_true rfl) dX12_lists_109 (fun r_3123 L_3124 f_3125 h_3126 => ?_)
            obtain ⟨rfl, rfl, rfl⟩ := h_3126
            refine v_aload_n hC dX12_lists_112 rfl ?_
            refine v_iload hC dX12_lists_113 rfl ?_
            refine v_vi hC (rest := [.int (wv g_w a_1 1)]) m_1 e_2981 rfl mi_X12_sortOf ms_X12_sortOf (p_X12_sortOf hW_2970 k_0 (by first | omega | (simp only [Int32.lt_iff_toInt_lt, Int32.le_iff_toInt_le, Int32.reduceToInt, ← Int32.toInt_inj, true_and, and_true, or_true, true_or, false_or, or_false, false_and, and_false, not_true_eq_false, not_false_eq_true] <;> omega)) hf_2972 o_w (by first | omega | (simp only [Int32.lt_iff_toInt_lt, Int32.le_iff_toInt_le, Int32.reduceToInt, ← Int32.toInt_inj, true_and, and_true, or_true, true_or, false_or, or_false, false_and, and_false, not_true_eq_false, not_false_eq_true] <;> omega))) mx_X12_sortOf ml_X12_98 (by decide) rfl (cells1 := 0) (slots1 := 0) (by decide) (by decide) (Nat.le_of_ble_eq_true rfl) (Nat.le_of_ble_eq_true rfl) rfl (Nat.le_of_ble_eq_true rfl) dX12_lists_115 (fun r_3129 L_3130 f_3131 h_3132 => ?_)
            obtain ⟨rfl, rfl, b_3133⟩ := h_3132
            obtain ⟨v_3136, h_3137⟩ : ∃ v9 : Int32, (wv g_w a_1 1) >>> (r_3129 &&& 31) = v9 := ⟨_, rfl⟩
            refine v_ishr hC dX12_lists_118 h_3137 ?_
            refine v_iconst hC dX12_lists_119 (v := 1) (by decide) ?_
            obtain ⟨v_3139, h_3140⟩ : ∃ v9 : Int32, v_3136 &&& 1 = v9 := ⟨_, rfl⟩
            refine v_iand hC dX12_lists_120 h_3140 ?_
            have h_3141 := and_v h_3140 (by decide)
            try simp only [Int32.reduceToInt] at h_3141
            refine v_if_ne hC dX12_lists_121 (tgt := 127) (by decide) (fun h_3142 => ?_) (fun h_3142 => ?_)
            · simp only [Int32.lt_iff_toInt_lt, Int32.le_iff_toInt_le, Int32.reduceToInt, ← Int32.toInt_inj] at h_3142
              obtain ⟨v_3143, h_3144⟩ : ∃ v9 : Int32, i_2968 + Int32.ofInt 1 = v9 := ⟨_, rfl⟩
              refine v_iinc hC dX12_lists_127 (k := 4) rfl (v := v_3143) h_3144 (by decide) (lv' := [(2, .int v_3143), (6, .int v_3120), (5, .int v_3109), (4, .int v_3055), (3, .int i_2967), (0, .ref a_0), (1, .int a_1)]) rfl ?_
              refine v_iload_n hC dX12_lists_130 rfl ?_
              refine v_aload_n hC dX12_lists_131 rfl ?_
              refine v_iload_n hC dX12_lists_132 rfl ?_
              refine v_iconst hC dX12_lists_133 (v := 2) (by decide) ?_
              refine v_vi hC (rest := [.int v_3143]) m_1 e_2981 rfl mi_X12_ofWay ms_X12_ofWay (p_X12_ofWay hW_2970 k_0 (by first | omega | (simp only [Int32.lt_iff_toInt_lt, Int32.le_iff_toInt_le, Int32.reduceToInt, ← Int32.toInt_inj, true_and, and_true, or_true, true_or, false_or, or_false, false_and, and_false, not_true_eq_false, not_false_eq_true] <;> omega)) (by decide) hf_2972 o_w) mx_X12_ofWay ml_X12_94 (by decide) rfl (cells1 := 0) (slots1 := 0) (by decide) (by decide) (Nat.le_of_ble_eq_true rfl) (Nat.le_of_ble_eq_true rfl) rfl (Nat.le_of_ble_eq_true rfl) dX12_lists_134 (fun r_3145 L_3146 f_3147 h_3148 => ?_)
              obtain ⟨rfl, rfl, rfl⟩ := h_3148
              obtain ⟨v_3151, h_3152⟩ : ∃ v9 : Int32, v_3143 - v_3143 / (wv g_w a_1 2) * (wv g_w a_1 2) = v9 := ⟨_, rfl⟩
              refine v_irem hC dX12_lists_137 (by first | omega | (simp only [Int32.lt_iff_toInt_lt, Int32.le_iff_toInt_le, Int32.reduceToInt, ← Int32.toInt_inj, true_and, and_true, or_true, true_or, false_or, or_false, false_and, and_false, not_true_eq_false, not_false_eq_true] <;> omega)) h_3152 ?_
              refine v_if_eq hC dX12_lists_138 (tgt := 144) (by decide) (fun h_3154 => ?_) (fun h_3154 => ?_)
              · simp only [Int32.lt_iff_toInt_lt, Int32.le_iff_toInt_le, Int32.reduceToInt, ← Int32.toInt_inj] at h_3154
                refine v_aload_n hC dX12_lists_144 rfl ?_
                refine v_get hC fl_X12_40 m_1 e_2981 rfl dX12_lists_145 ?_
                refine v_aload_n hC dX12_lists_148 rfl ?_
                refine v_get hC fl_X12_335 m_1 e_2981 rfl dX12_lists_149 ?_
                refine v_iload hC dX12_lists_152 rfl ?_
                obtain ⟨m_3155, t_3156⟩ := id k_10
                obtain ⟨g_3158, e_3157, ok_3159⟩ := hW_2970.at m_3155 t_3156
                refine v_iast hC m_3155 e_3157 (vp_in_iff.mpr (by first | omega | (simp only [Int32.lt_iff_toInt_lt, Int32.le_iff_toInt_le, Int32.reduceToInt, ← Int32.toInt_inj, true_and, and_true, or_true, true_or, false_or, or_false, false_and, and_false, not_true_eq_false, not_false_eq_true] <;> omega))) dX12_lists_154 (fun f_3160 hf_3161 hk_3162 => ?_)
                have hW_3164 := hW_2970.up hf_3161 hk_3162 t_3156 ⟨_, rfl, (ok_3159.up (by first | omega | (simp only [Int32.lt_iff_toInt_lt, Int32.le_iff_toInt_le, Int32.reduceToInt, ← Int32.toInt_inj, true_and, and_true, or_true, true_or, false_or, or_false, false_and, and_false, not_true_eq_false, not_false_eq_true] <;> omega)))⟩
                obtain ⟨g_3163, hf_3161, ok_3165, eg_3166⟩ : ∃ g9, f_3160 (q 16) = aI E 256 g9 ∧ POK g9 ∧ g9 = upd g_3158 (v_2996 : Int32).toNatClampNeg v_3120 := ⟨_, hf_3161, (ok_3159.up (by first | omega | (simp only [Int32.lt_iff_toInt_lt, Int32.le_iff_toInt_le, Int32.reduceToInt, ← Int32.toInt_inj, true_and, and_true, or_true, true_or, false_or, or_false, false_and, and_false, not_true_eq_false, not_false_eq_true] <;> omega))), rfl⟩
                have hf_3167 := (hk_3162 (q 1) (ne_kd hf_2972 e_3157 rfl)).trans hf_2972
                have hf_3168 := (hk_3162 a_0 (ne_kd e_2981 e_3157 rfl)).trans e_2981
                have fr_3169 := FR.w hk_3162 e_3157 (k := 356) rfl
                refine v_aload_n hC dX12_lists_155 rfl ?_
                refine v_dup hC dX12_lists_156 rfl ?_
                refine v_get hC fl_X12_335 m_1 hf_3168 rfl dX12_lists_157 ?_
                refine v_iconst hC dX12_lists_160 (v := 1) (by decide) ?_
                obtain ⟨v_3170, h_3171⟩ : ∃ v9 : Int32, v_2996 + 1 = v9 := ⟨_, rfl⟩
                refine v_iadd hC dX12_lists_161 h_3171 ?_
                have h_3172 := add_v h_3171 (by first | omega | (simp only [Int32.lt_iff_toInt_lt, Int32.le_iff_toInt_le, Int32.reduceToInt, ← Int32.toInt_inj, true_and, and_true, or_true, true_or, false_or, or_false, false_and, and_false, not_true_eq_false, not_false_eq_true] <;> omega)) (by first | omega | (simp only [Int32.lt_iff_toInt_lt, Int32.le_iff_toInt_le, Int32.reduceToInt, ← Int32.toInt_inj, true_and, and_true, or_true, true_or, false_or, or_false, false_and, and_false, not_true_eq_false, not_false_eq_true] <;> omega))
                try simp only [Int32.reduceToInt] at h_3172
                refine v_put hC fl_X12_335 m_1 hf_3168 rfl rfl (Nat.le_of_ble_eq_true rfl) (fs' := [.int v_2982, .ref (q 1), .ref (q 2), .ref (q 3), .ref (q 4), .int v_2983, .ref (q 6), .int v_2985, .int v_2987, .int v_2989, .int v_2991, .int v_2993, .int v_2994, .int v_2995, .ref (q 14), .ref (q 15), .ref (q 16), .int v_3170, .ref (q 18), .ref (q 19), .int v_2998, .ref (q 21), .ref (q 22), .ref (q 23), .ref (q 24), .ref (q 25), .ref (q 26), .ref (q 27), .ref (q 28)]) rfl dX12_lists_162 (fun f_3173 hf_3174 hk_3175 => ?_)
                have hW_3176 := hW_3164.up hf_3174 hk_3175 t_2 ⟨v_2982, v_2983, v_2985, v_2987, v_2989, v_2991, v_2993, v_2994, v_2995, v_3170, v_2998, rfl, (by first | omega | (simp only [Int32.lt_iff_toInt_lt, Int32.le_iff_toInt_le, Int32.reduceToInt, ← Int32.toInt_inj, true_and, and_true, or_true, true_or, false_or, or_false, false_and, and_false, not_true_eq_false, not_false_eq_true] <;> omega)), (by first | omega | (simp only [Int32.lt_iff_toInt_lt, Int32.le_iff_toInt_le, Int32.reduceToInt, ← Int32.toInt_inj, true_and, and_true, or_true, true_or, false_or, or_false, false_and, and_false, not_true_eq_false, not_false_eq_true] <;> omega)), (by first | omega | (simp only [Int32.lt_iff_toInt_lt, Int32.le_iff_toInt_le, Int32.reduceToInt, ← Int32.toInt_inj, true_and, and_true, or_true, true_or, false_or, or_false, false_and, and_false, not_true_eq_false, not_false_eq_true] <;> omega)), (by first | omega | (simp only [Int32.lt_iff_toInt_lt, Int32.le_iff_toInt_le, Int32.reduceToInt, ← Int32.toInt_inj, true_and, and_true, or_true, true_or, false_or, or_false, false_and, and_false, not_true_eq_false, not_false_eq_true] <;> omega)), (by first | omega | (simp only [Int32.lt_iff_toInt_lt, Int32.le_iff_toInt_le, Int32.reduceToInt, ← Int32.toInt_inj, true_and, and_true, or_true, true_or, false_or, or_false, false_and, and_false, not_true_eq_false, not_false_eq_true] <;> omega)), (by first | omega | (simp only [Int32.lt_iff_toInt_lt, Int32.le_iff_toInt_le, Int32.reduceToInt, ← Int32.toInt_inj, true_and, and_true, or_true, true_or, false_or, or_false, false_and, and_false, not_true_eq_false, not_false_eq_true] <;> omega)), (by first | omega | (simp only [Int32.lt_iff_toInt_lt, Int32.le_iff_toInt_le, Int32.reduceToInt, ← Int32.toInt_inj, true_and, and_true, or_true, true_or, false_or, or_false, false_and, and_false, not_true_eq_false, not_false_eq_true] <;> omega))⟩
                have hf_3177 := (hk_3175 (q 1) (ne_kd hf_3167 hf_3168 rfl)).trans hf_3167
                have hf_3178 := (hk_3175 (q 16) (ne_kd hf_3161 hf_3168 rfl)).trans hf_3161
                have fr_3179 := FR.w hk_3175 hf_3168 (k := 12) rfl
                obtain ⟨v_3180, h_3181⟩ : ∃ v9 : Int32, i_2967 + Int32.ofInt 1 = v9 := ⟨_, rfl⟩
                have h_3182 := add_v (b := 1) h_3181 (by first | omega | (simp only [Int32.lt_iff_toInt_lt, Int32.le_iff_toInt_le, Int32.reduceToInt, ← Int32.toInt_inj, true_and, and_true, or_true, true_or, false_or, or_false, false_and, and_false, not_true_eq_false, not_false_eq_true] <;> omega)) (by first | omega | (simp only [Int32.lt_iff_toInt_lt, Int32.le_iff_toInt_le, Int32.reduceToInt, ← Int32.toInt_inj, true_and, and_true, or_true, true_or, false_or, or_false, false_and, and_false, not_true_eq_false, not_false_eq_true] <;> omega))
                simp only [Int32.reduceToInt] at h_3182
                refine v_iinc hC dX12_lists_165 (k := 4) rfl (v := v_3180) h_3181 (by decide) (lv' := [(3, .int v_3180), (2, .int v_3143), (6, .int v_3120), (5, .int v_3109), (4, .int v_3055), (0, .ref a_0), (1, .int a_1)]) rfl ?_
                refine v_goto hC dX12_lists_168 (tgt := 9) (by decide) ?_
                refine v_pick [0, 1, 5, 6] rfl ?_
                have fe_3183 : fld (f_3173 a_0) 17 = (v_3170 : Int32).toInt := by rw [hf_3174]; rfl
                have fe_3184 : fld (f_3173 a_0) 20 = (v_2998 : Int32).toInt := by rw [hf_3174]; rfl
                exact ih_2979 f_3173 hW_3176 (((hF_2971.tr fr_3169).tr fr_3179).mono rfl) v_3180 (by first | omega | (simp only [Int32.lt_iff_toInt_lt, Int32.le_iff_toInt_le, Int32.reduceToInt, ← Int32.toInt_inj, true_and, and_true, or_true, true_or, false_or, or_false, false_and, and_false, not_true_eq_false, not_false_eq_true] <;> omega)) v_3143 (by rw [fe_3183] <;> first | omega | (simp only [Int32.lt_iff_toInt_lt, Int32.le_iff_toInt_le, Int32.reduceToInt, ← Int32.toInt_inj, true_and, and_true, or_true, true_or, false_or, or_false, false_and, and_false, not_true_eq_false, not_false_eq_true] <;> omega)) (by first | omega | (simp only [Int32.lt_iff_toInt_lt, Int32.le_iff_toInt_le, Int32.reduceToInt, ← Int32.toInt_inj, true_and, and_true, or_true, true_or, false_or, or_false, false_and, and_false, not_true_eq_false, not_false_eq_true] <;> omega)) (by rw [fe_3184] <;> first | omega | (simp only [Int32.lt_iff_toInt_lt, Int32.le_iff_toInt_le, Int32.reduceToInt, ← Int32.toInt_inj, true_and, and_true, or_true, true_or, false_or, or_false, false_and, and_false, not_true_eq_false, not_false_eq_true] <;> omega)) (by first | omega | (simp only [Int32.lt_iff_toInt_lt, Int32.le_iff_toInt_le, Int32.reduceToInt, ← Int32.toInt_inj, true_and, and_true, or_true, true_or, false_or, or_false, false_and, and_false, not_true_eq_false, not_false_eq_true] <;> omega))
              · simp only [Int32.lt_iff_toInt_lt, Int32.le_iff_toInt_le, Int32.reduceToInt, ← Int32.toInt_inj] at h_3154
                refine v_goto hC dX12_lists_141 (tgt := 165) (by decide) ?_
                obtain ⟨v_3185, h_3186⟩ : ∃ v9 : Int32, i_2967 + Int32.ofInt 1 = v9 := ⟨_, rfl⟩
                have h_3187 := add_v (b := 1) h_3186 (by first | omega | (simp only [Int32.lt_iff_toInt_lt, Int32.le_iff_toInt_le, Int32.reduceToInt, ← Int32.toInt_inj, true_and, and_true, or_true, true_or, false_or, or_false, false_and, and_false, not_true_eq_false, not_false_eq_true] <;> omega)) (by first | omega | (simp only [Int32.lt_iff_toInt_lt, Int32.le_iff_toInt_le, Int32.reduceToInt, ← Int32.toInt_inj, true_and, and_true, or_true, true_or, false_or, or_false, false_and, and_false, not_true_eq_false, not_false_eq_true] <;> omega))
                simp only [Int32.reduceToInt] at h_3187
                refine v_iinc hC dX12_lists_165 (k := 4) rfl (v := v_3185) h_3186 (by decide) (lv' := [(3, .int v_3185), (2, .int v_3143), (6, .int v_3120), (5, .int v_3109), (4, .int v_3055), (0, .ref a_0), (1, .int a_1)]) rfl ?_
                refine v_goto hC dX12_lists_168 (tgt := 9) (by decide) ?_
                refine v_pick [0, 1, 5, 6] rfl ?_
                have fe_3188 : fld (f_2969 a_0) 17 = (v_2996 : Int32).toInt := by rw [e_2981]; rfl
                have fe_3189 : fld (f_2969 a_0) 20 = (v_2998 : Int32).toInt := by rw [e_2981]; rfl
                exact ih_2979 f_2969 hW_2970 (hF_2971.mono rfl) v_3185 (by first | omega | (simp only [Int32.lt_iff_toInt_lt, Int32.le_iff_toInt_le, Int32.reduceToInt, ← Int32.toInt_inj, true_and, and_true, or_true, true_or, false_or, or_false, false_and, and_false, not_true_eq_false, not_false_eq_true] <;> omega)) v_3143 (by rw [fe_3188] <;> first | omega | (simp only [Int32.lt_iff_toInt_lt, Int32.le_iff_toInt_le, Int32.reduceToInt, ← Int32.toInt_inj, true_and, and_true, or_true, true_or, false_or, or_false, false_and, and_false, not_true_eq_false, not_false_eq_true] <;> omega)) (by first | omega | (simp only [Int32.lt_iff_toInt_lt, Int32.le_iff_toInt_le, Int32.reduceToInt, ← Int32.toInt_inj, true_and, and_true, or_true, true_or, false_or, or_false, false_and, and_false, not_true_eq_false, not_false_eq_true] <;> omega)) (by rw [fe_3189] <;> first | omega | (simp only [Int32.lt_iff_toInt_lt, Int32.le_iff_toInt_le, Int32.reduceToInt, ← Int32.toInt_inj, true_and, and_true, or_true, true_or, false_or, or_false, false_and, and_false, not_true_eq_false, not_false_eq_true] <;> omega)) (by first | omega | (simp only [Int32.lt_iff_toInt_lt, Int32.le_iff_toInt_le, Int32.reduceToInt, ← Int32.toInt_inj, true_and, and_true, or_true, true_or, false_or, or_false, false_and, and_false, not_true_eq_false, not_false_eq_true] <;> omega))
            · simp only [Int32.lt_iff_toInt_lt, Int32.le_iff_toInt_le, Int32.reduceToInt, ← Int32.toInt_inj] at h_3142
              refine v_goto hC dX12_lists_124 (tgt := 165) (by decide) ?_
              obtain ⟨v_3190, h_3191⟩ : ∃ v9 : Int32, i_2967 + Int32.ofInt 1 = v9 := ⟨_, rfl⟩
              have h_3192 := add_v (b := 1) h_3191 (by first | omega | (simp only [Int32.lt_iff_toInt_lt, Int32.le_iff_toInt_le, Int32.reduceToInt, ← Int32.toInt_inj, true_and, and_true, or_true, true_or, false_or, or_false, false_and, and_false, not_true_eq_false, not_false_eq_true] <;> omega)) (by first | omega | (simp only [Int32.lt_iff_toInt_lt, Int32.le_iff_toInt_le, Int32.reduceToInt, ← Int32.toInt_inj, true_and, and_true, or_true, true_or, false_or, or_false, false_and, and_false, not_true_eq_false, not_false_eq_true] <;> omega))
              simp only [Int32.reduceToInt] at h_3192
              refine v_iinc hC dX12_lists_165 (k := 3) rfl (v := v_3190) h_3191 (by decide) (lv' := [(3, .int v_3190), (6, .int v_3120), (5, .int v_3109), (4, .int v_3055), (2, .int i_2968), (0, .ref a_0), (1, .int a_1)]) rfl ?_
              refine v_goto hC dX12_lists_168 (tgt := 9) (by decide) ?_
              refine v_pick [0, 4, 5, 6] rfl ?_
              have fe_3193 : fld (f_2969 a_0) 17 = (v_2996 : Int32).toInt := by rw [e_2981]; rfl
              have fe_3194 : fld (f_2969 a_0) 20 = (v_2998 : Int32).toInt := by rw [e_2981]; rfl
              exact ih_2979 f_2969 hW_2970 (hF_2971.mono rfl) v_3190 (by first | omega | (simp only [Int32.lt_iff_toInt_lt, Int32.le_iff_toInt_le, Int32.reduceToInt, ← Int32.toInt_inj, true_and, and_true, or_true, true_or, false_or, or_false, false_and, and_false, not_true_eq_false, not_false_eq_true] <;> omega)) i_2968 (by rw [fe_3193] <;> first | omega | (simp only [Int32.lt_iff_toInt_lt, Int32.le_iff_toInt_le, Int32.reduceToInt, ← Int32.toInt_inj, true_and, and_true, or_true, true_or, false_or, or_false, false_and, and_false, not_true_eq_false, not_false_eq_true] <;> omega)) (by first | omega | (simp only [Int32.lt_iff_toInt_lt, Int32.le_iff_toInt_le, Int32.reduceToInt, ← Int32.toInt_inj, true_and, and_true, or_true, true_or, false_or, or_false, false_and, and_false, not_true_eq_false, not_false_eq_true] <;> omega)) (by rw [fe_3194] <;> first | omega | (simp only [Int32.lt_iff_toInt_lt, Int32.le_iff_toInt_le, Int32.reduceToInt, ← Int32.toInt_inj, true_and, and_true, or_true, true_or, false_or, or_false, false_and, and_false, not_true_eq_false, not_false_eq_true] <;> omega)) (by first | omega | (simp only [Int32.lt_iff_toInt_lt, Int32.le_iff_toInt_le, Int32.reduceToInt, ← Int32.toInt_inj, true_and, and_true, or_true, true_or, false_or, or_false, false_and, and_false, not_true_eq_false, not_false_eq_true] <;> omega))
          refine v_icmp_ne hC dX12_lists_59 (tgt := 86) (by decide) (fun h_3063 => ?_) (fun h_3063 => ?_)
          · simp only [Int32.lt_iff_toInt_lt, Int32.le_iff_toInt_le, Int32.reduceToInt, ← Int32.toInt_inj] at h_3063
            refine v_iload_n hC dX12_lists_86 rfl ?_
            refine v_aload_n hC dX12_lists_87 rfl ?_
            refine v_vi hC (rest := [.int i_2967]) m_1 e_2981 rfl mi_X12_wide ms_X12_wide (p_X12_wide hW_2970 k_0 hf_2972 o_w) mx_X12_wide ml_X12_87 (by decide) rfl (cells1 := 0) (slots1 := 0) (by decide) (by decide) (Nat.le_of_ble_eq_true rfl) (Nat.le_of_ble_eq_true rfl) rfl (Nat.le_of_ble_eq_true rfl) dX12_lists_88 (fun r_3195 L_3196 f_3197 h_3198 => ?_)
            obtain ⟨rfl, rfl, rfl⟩ := h_3198
            obtain ⟨v_3201, h_3202⟩ : ∃ v9 : Int32, i_2967 - i_2967 / (g_w 1) * (g_w 1) = v9 := ⟨_, rfl⟩
            refine v_irem hC dX12_lists_91 (by first | omega | (simp only [Int32.lt_iff_toInt_lt, Int32.le_iff_toInt_le, Int32.reduceToInt, ← Int32.toInt_inj, true_and, and_true, or_true, true_or, false_or, or_false, false_and, and_false, not_true_eq_false, not_false_eq_true] <;> omega)) h_3202 ?_
            have h_3203 := rem_v h_3202 (by first | omega | (simp only [Int32.lt_iff_toInt_lt, Int32.le_iff_toInt_le, Int32.reduceToInt, ← Int32.toInt_inj, true_and, and_true, or_true, true_or, false_or, or_false, false_and, and_false, not_true_eq_false, not_false_eq_true] <;> omega)) (by first | omega | (simp only [Int32.lt_iff_toInt_lt, Int32.le_iff_toInt_le, Int32.reduceToInt, ← Int32.toInt_inj, true_and, and_true, or_true, true_or, false_or, or_false, false_and, and_false, not_true_eq_false, not_false_eq_true] <;> omega))
            refine v_pick [0, 1, 2, 3, 4] rfl ?_
            exact jn_3108 v_3201 (by first | omega | (simp only [Int32.lt_iff_toInt_lt, Int32.le_iff_toInt_le, Int32.reduceToInt, ← Int32.toInt_inj, true_and, and_true, or_true, true_or, false_or, or_false, false_and, and_false, not_true_eq_false, not_false_eq_true] <;> omega))
          · simp only [Int32.lt_iff_toInt_lt, Int32.le_iff_toInt_le, Int32.reduceToInt, ← Int32.toInt_inj] at h_3063
            refine v_iload hC dX12_lists_62 rfl ?_
            refine v_iconst hC dX12_lists_64 (v := 2) (by decide) ?_
            obtain ⟨v_3204, h_3205⟩ : ∃ v9 : Int32, v_3055 - v_3055 / 2 * 2 = v9 := ⟨_, rfl⟩
            refine v_irem hC dX12_lists_65 (by decide) h_3205 ?_
            have h_3206 := rem_v h_3205 (by first | omega | (simp only [Int32.lt_iff_toInt_lt, Int32.le_iff_toInt_le, Int32.reduceToInt, ← Int32.toInt_inj, true_and, and_true, or_true, true_or, false_or, or_false, false_and, and_false, not_true_eq_false, not_false_eq_true] <;> omega)) (by decide)
            try simp only [Int32.reduceToInt] at h_3206
            refine v_iconst hC dX12_lists_66 (v := 1) (by decide) ?_
            refine v_icmp_ne hC dX12_lists_67 (tgt := 86) (by decide) (fun h_3207 => ?_) (fun h_3207 => ?_)
            · simp only [Int32.lt_iff_toInt_lt, Int32.le_iff_toInt_le, Int32.reduceToInt, ← Int32.toInt_inj] at h_3207
              refine v_iload_n hC dX12_lists_86 rfl ?_
              refine v_aload_n hC dX12_lists_87 rfl ?_
              refine v_vi hC (rest := [.int i_2967]) m_1 e_2981 rfl mi_X12_wide ms_X12_wide (p_X12_wide hW_2970 k_0 hf_2972 o_w) mx_X12_wide ml_X12_87 (by decide) rfl (cells1 := 0) (slots1 := 0) (by decide) (by decide) (Nat.le_of_ble_eq_true rfl) (Nat.le_of_ble_eq_true rfl) rfl (Nat.le_of_ble_eq_true rfl) dX12_lists_88 (fun r_3208 L_3209 f_3210 h_3211 => ?_)
              obtain ⟨rfl, rfl, rfl⟩ := h_3211
              obtain ⟨v_3214, h_3215⟩ : ∃ v9 : Int32, i_2967 - i_2967 / (g_w 1) * (g_w 1) = v9 := ⟨_, rfl⟩
              refine v_irem hC dX12_lists_91 (by first | omega | (simp only [Int32.lt_iff_toInt_lt, Int32.le_iff_toInt_le, Int32.reduceToInt, ← Int32.toInt_inj, true_and, and_true, or_true, true_or, false_or, or_false, false_and, and_false, not_true_eq_false, not_false_eq_true] <;> omega)) h_3215 ?_
              have h_3216 := rem_v h_3215 (by first | omega | (simp only [Int32.lt_iff_toInt_lt, Int32.le_iff_toInt_le, Int32.reduceToInt, ← Int32.toInt_inj, true_and, and_true, or_true, true_or, false_or, or_false, false_and, and_false, not_true_eq_false, not_false_eq_true] <;> omega)) (by first | omega | (simp only [Int32.lt_iff_toInt_lt, Int32.le_iff_toInt_le, Int32.reduceToInt, ← Int32.toInt_inj, true_and, and_true, or_true, true_or, false_or, or_false, false_and, and_false, not_true_eq_false, not_false_eq_true] <;> omega))
              refine v_pick [0, 1, 2, 3, 4] rfl ?_
              exact jn_3108 v_3214 (by first | omega | (simp only [Int32.lt_iff_toInt_lt, Int32.le_iff_toInt_le, Int32.reduceToInt, ← Int32.toInt_inj, true_and, and_true, or_true, true_or, false_or, or_false, false_and, and_false, not_true_eq_false, not_false_eq_true] <;> omega))
            · simp only [Int32.lt_iff_toInt_lt, Int32.le_iff_toInt_le, Int32.reduceToInt, ← Int32.toInt_inj] at h_3207
              refine v_aload_n hC dX12_lists_70 rfl ?_
              refine v_vi hC (rest := []) m_1 e_2981 rfl mi_X12_wide ms_X12_wide (p_X12_wide hW_2970 k_0 hf_2972 o_w) mx_X12_wide ml_X12_87 (by decide) rfl (cells1 := 0) (slots1 := 0) (by decide) (by decide) (Nat.le_of_ble_eq_true rfl) (Nat.le_of_ble_eq_true rfl) rfl (Nat.le_of_ble_eq_true rfl) dX12_lists_71 (fun r_3217 L_3218 f_3219 h_3220 => ?_)
              obtain ⟨rfl, rfl, rfl⟩ := h_3220
              refine v_iconst hC dX12_lists_74 (v := 1) (by decide) ?_
              obtain ⟨v_3223, h_3224⟩ : ∃ v9 : Int32, (g_w 1) - 1 = v9 := ⟨_, rfl⟩
              refine v_isub hC dX12_lists_75 h_3224 ?_
              have h_3225 := sub_v h_3224 (by first | omega | (simp only [Int32.lt_iff_toInt_lt, Int32.le_iff_toInt_le, Int32.reduceToInt, ← Int32.toInt_inj, true_and, and_true, or_true, true_or, false_or, or_false, false_and, and_false, not_true_eq_false, not_false_eq_true] <;> omega)) (by first | omega | (simp only [Int32.lt_iff_toInt_lt, Int32.le_iff_toInt_le, Int32.reduceToInt, ← Int32.toInt_inj, true_and, and_true, or_true, true_or, false_or, or_false, false_and, and_false, not_true_eq_false, not_false_eq_true] <;> omega))
              try simp only [Int32.reduceToInt] at h_3225
              refine v_iload_n hC dX12_lists_76 rfl ?_
              refine v_aload_n hC dX12_lists_77 rfl ?_
              refine v_vi hC (rest := [.int i_2967, .int v_3223]) m_1 e_2981 rfl mi_X12_wide ms_X12_wide (p_X12_wide hW_2970 k_0 hf_2972 o_w) mx_X12_wide ml_X12_87 (by decide) rfl (cells1 := 0) (slots1 := 0) (by decide) (by decide) (Nat.le_of_ble_eq_true rfl) (Nat.le_of_ble_eq_true rfl) rfl (Nat.le_of_ble_eq_true rfl) dX12_lists_78 (fun r_3226 L_3227 f_3228 h_3229 => ?_)
              obtain ⟨rfl, rfl, rfl⟩ := h_3229
              obtain ⟨v_3232, h_3233⟩ : ∃ v9 : Int32, i_2967 - i_2967 / (g_w 1) * (g_w 1) = v9 := ⟨_, rfl⟩
              refine v_irem hC dX12_lists_81 (by first | omega | (simp only [Int32.lt_iff_toInt_lt, Int32.le_iff_toInt_le, Int32.reduceToInt, ← Int32.toInt_inj, true_and, and_true, or_true, true_or, false_or, or_false, false_and, and_false, not_true_eq_false, not_false_eq_true] <;> omega)) h_3233 ?_
              have h_3234 := rem_v h_3233 (by first | omega | (simp only [Int32.lt_iff_toInt_lt, Int32.le_iff_toInt_le, Int32.reduceToInt, ← Int32.toInt_inj, true_and, and_true, or_true, true_or, false_or, or_false, false_and, and_false, not_true_eq_false, not_false_eq_true] <;> omega)) (by first | omega | (simp only [Int32.lt_iff_toInt_lt, Int32.le_iff_toInt_le, Int32.reduceToInt, ← Int32.toInt_inj, true_and, and_true, or_true, true_or, false_or, or_false, false_and, and_false, not_true_eq_false, not_false_eq_true] <;> omega))
              obtain ⟨v_3235, h_3236⟩ : ∃ v9 : Int32, v_3223 - v_3232 = v9 := ⟨_, rfl⟩
              refine v_isub hC dX12_lists_82 h_3236 ?_
              have h_3237 := sub_v h_3236 (by first | omega | (simp only [Int32.lt_iff_toInt_lt, Int32.le_iff_toInt_le, Int32.reduceToInt, ← Int32.toInt_inj, true_and, and_true, or_true, true_or, false_or, or_false, false_and, and_false, not_true_eq_false, not_false_eq_true] <;> omega)) (by first | omega | (simp only [Int32.lt_iff_toInt_lt, Int32.le_iff_toInt_le, Int32.reduceToInt, ← Int32.toInt_inj, true_and, and_true, or_true, true_or, false_or, or_false, false_and, and_false, not_true_eq_false, not_false_eq_true] <;> omega))
              have b_3238 : (0 ≤ v_3235.toInt ∧ v_3235.toInt ≤ 15) := (by first | omega | (simp only [Int32.lt_iff_toInt_lt, Int32.le_iff_toInt_le, Int32.reduceToInt, ← Int32.toInt_inj, true_and, and_true, or_true, true_or, false_or, or_false, false_and, and_false, not_true_eq_false, not_false_eq_true] <;> omega))
              refine v_goto hC dX12_lists_83 (tgt := 92) (by decide) ?_
              refine v_pick [0, 1, 2, 3, 4] rfl ?_
              exact jn_3108 v_3235 (by first | omega | (simp only [Int32.lt_iff_toInt_lt, Int32.le_iff_toInt_le, Int32.reduceToInt, ← Int32.toInt_inj, true_and, and_true, or_true, true_or, false_or, or_false, false_and, and_false, not_true_eq_false, not_false_eq_true] <;> omega))
        refine v_icmp_ne hC dX12_lists_25 (tgt := 44) (by decide) (fun h_3020 => ?_) (fun h_3020 => ?_)
        · simp only [Int32.lt_iff_toInt_lt, Int32.le_iff_toInt_le, Int32.reduceToInt, ← Int32.toInt_inj] at h_3020
          refine v_iload_n hC dX12_lists_44 rfl ?_
          refine v_aload_n hC dX12_lists_45 rfl ?_
          refine v_vi hC (rest := [.int i_2967]) m_1 e_2981 rfl mi_X12_wide ms_X12_wide (p_X12_wide hW_2970 k_0 hf_2972 o_w) mx_X12_wide ml_X12_87 (by decide) rfl (cells1 := 0) (slots1 := 0) (by decide) (by decide) (Nat.le_of_ble_eq_true rfl) (Nat.le_of_ble_eq_true rfl) rfl (Nat.le_of_ble_eq_true rfl) dX12_lists_46 (fun r_3239 L_3240 f_3241 h_3242 => ?_)
          obtain ⟨rfl, rfl, rfl⟩ := h_3242
          obtain ⟨v_3245, h_3246⟩ : ∃ v9 : Int32, i_2967 / (g_w 1) = v9 := ⟨_, rfl⟩
          refine v_idiv hC dX12_lists_49 (by first | omega | (simp only [Int32.lt_iff_toInt_lt, Int32.le_iff_toInt_le, Int32.reduceToInt, ← Int32.toInt_inj, true_and, and_true, or_true, true_or, false_or, or_false, false_and, and_false, not_true_eq_false, not_false_eq_true] <;> omega)) h_3246 ?_
          have h_3247 := div_v h_3246 (by first | omega | (simp only [Int32.lt_iff_toInt_lt, Int32.le_iff_toInt_le, Int32.reduceToInt, ← Int32.toInt_inj, true_and, and_true, or_true, true_or, false_or, or_false, false_and, and_false, not_true_eq_false, not_false_eq_true] <;> omega)) (by first | omega | (simp only [Int32.lt_iff_toInt_lt, Int32.le_iff_toInt_le, Int32.reduceToInt, ← Int32.toInt_inj, true_and, and_true, or_true, true_or, false_or, or_false, false_and, and_false, not_true_eq_false, not_false_eq_true] <;> omega))
          have b_3248 : (0 ≤ v_3245.toInt ∧ v_3245.toInt ≤ 15) := (by first | omega | (simp only [Int32.lt_iff_toInt_lt, Int32.le_iff_toInt_le, Int32.reduceToInt, ← Int32.toInt_inj, true_and, and_true, or_true, true_or, false_or, or_false, false_and, and_false, not_true_eq_false, not_false_eq_true] <;> omega))
          refine v_pick [0, 1, 2, 3] rfl ?_
          exact jn_3054 v_3245 (by first | omega | (simp only [Int32.lt_iff_toInt_lt, Int32.le_iff_toInt_le, Int32.reduceToInt, ← Int32.toInt_inj, true_and, and_true, or_true, true_or, false_or, or_false, false_and, and_false, not_true_eq_false, not_false_eq_true] <;> omega))
        · simp only [Int32.lt_iff_toInt_lt, Int32.le_iff_toInt_le, Int32.reduceToInt, ← Int32.toInt_inj] at h_3020
          refine v_aload_n hC dX12_lists_28 rfl ?_
          refine v_vi hC (rest := []) m_1 e_2981 rfl mi_X12_rows ms_X12_rows (p_X12_rows hW_2970 k_0 hf_2972 o_w) mx_X12_rows ml_X12_83 (by decide) rfl (cells1 := 0) (slots1 := 0) (by decide) (by decide) (Nat.le_of_ble_eq_true rfl) (Nat.le_of_ble_eq_true rfl) rfl (Nat.le_of_ble_eq_true rfl) dX12_lists_29 (fun r_3249 L_3250 f_3251 h_3252 => ?_)
          obtain ⟨rfl, rfl, rfl⟩ := h_3252
          refine v_iconst hC dX12_lists_32 (v := 1) (by decide) ?_
          obtain ⟨v_3255, h_3256⟩ : ∃ v9 : Int32, (g_w 0) - 1 = v9 := ⟨_, rfl⟩
          refine v_isub hC dX12_lists_33 h_3256 ?_
          have h_3257 := sub_v h_3256 (by first | omega | (simp only [Int32.lt_iff_toInt_lt, Int32.le_iff_toInt_le, Int32.reduceToInt, ← Int32.toInt_inj, true_and, and_true, or_true, true_or, false_or, or_false, false_and, and_false, not_true_eq_false, not_false_eq_true] <;> omega)) (by first | omega | (simp only [Int32.lt_iff_toInt_lt, Int32.le_iff_toInt_le, Int32.reduceToInt, ← Int32.toInt_inj, true_and, and_true, or_true, true_or, false_or, or_false, false_and, and_false, not_true_eq_false, not_false_eq_true] <;> omega))
          try simp only [Int32.reduceToInt] at h_3257
          refine v_iload_n hC dX12_lists_34 rfl ?_
          refine v_aload_n hC dX12_lists_35 rfl ?_
          refine v_vi hC (rest := [.int i_2967, .int v_3255]) m_1 e_2981 rfl mi_X12_wide ms_X12_wide (p_X12_wide hW_2970 k_0 hf_2972 o_w) mx_X12_wide ml_X12_87 (by decide) rfl (cells1 := 0) (slots1 := 0) (by decide) (by decide) (Nat.le_of_ble_eq_true rfl) (Nat.le_of_ble_eq_true rfl) rfl (Nat.le_of_ble_eq_true rfl) dX12_lists_36 (fun r_3258 L_3259 f_3260 h_3261 => ?_)
          obtain ⟨rfl, rfl, rfl⟩ := h_3261
          obtain ⟨v_3264, h_3265⟩ : ∃ v9 : Int32, i_2967 / (g_w 1) = v9 := ⟨_, rfl⟩
          refine v_idiv hC dX12_lists_39 (by first | omega | (simp only [Int32.lt_iff_toInt_lt, Int32.le_iff_toInt_le, Int32.reduceToInt, ← Int32.toInt_inj, true_and, and_true, or_true, true_or, false_or, or_false, false_and, and_false, not_true_eq_false, not_false_eq_true] <;> omega)) h_3265 ?_
          have h_3266 := div_v h_3265 (by first | omega | (simp only [Int32.lt_iff_toInt_lt, Int32.le_iff_toInt_le, Int32.reduceToInt, ← Int32.toInt_inj, true_and, and_true, or_true, true_or, false_or, or_false, false_and, and_false, not_true_eq_false, not_false_eq_true] <;> omega)) (by first | omega | (simp only [Int32.lt_iff_toInt_lt, Int32.le_iff_toInt_le, Int32.reduceToInt, ← Int32.toInt_inj, true_and, and_true, or_true, true_or, false_or, or_false, false_and, and_false, not_true_eq_false, not_false_eq_true] <;> omega))
          have b_3267 : (0 ≤ v_3264.toInt ∧ v_3264.toInt ≤ 15) := (by first | omega | (simp only [Int32.lt_iff_toInt_lt, Int32.le_iff_toInt_le, Int32.reduceToInt, ← Int32.toInt_inj, true_and, and_true, or_true, true_or, false_or, or_false, false_and, and_false, not_true_eq_false, not_false_eq_true] <;> omega))
          obtain ⟨v_3268, h_3269⟩ : ∃ v9 : Int32, v_3255 - v_3264 = v9 := ⟨_, rfl⟩
          refine v_isub hC dX12_lists_40 h_3269 ?_
          have h_3270 := sub_v h_3269 (by first | omega | (simp only [Int32.lt_iff_toInt_lt, Int32.le_iff_toInt_le, Int32.reduceToInt, ← Int32.toInt_inj, true_and, and_true, or_true, true_or, false_or, or_false, false_and, and_false, not_true_eq_false, not_false_eq_true] <;> omega)) (by first | omega | (simp only [Int32.lt_iff_toInt_lt, Int32.le_iff_toInt_le, Int32.reduceToInt, ← Int32.toInt_inj, true_and, and_true, or_true, true_or, false_or, or_false, false_and, and_false, not_true_eq_false, not_false_eq_true] <;> omega))
          have b_3271 : (0 ≤ v_3268.toInt ∧ v_3268.toInt ≤ 15) := (by first | omega | (simp only [Int32.lt_iff_toInt_lt, Int32.le_iff_toInt_le, Int32.reduceToInt, ← Int32.toInt_inj, true_and, and_true, or_true, true_or, false_or, or_false, false_and, and_false, not_true_eq_false, not_false_eq_true] <;> omega))
          refine v_goto hC dX12_lists_41 (tgt := 50) (by decide) ?_
          refine v_pick [0, 1, 2, 3] rfl ?_
          exact jn_3054 v_3268 (by first | omega | (simp only [Int32.lt_iff_toInt_lt, Int32.le_iff_toInt_le, Int32.reduceToInt, ← Int32.toInt_inj, true_and, and_true, or_true, true_or, false_or, or_false, false_and, and_false, not_true_eq_false, not_false_eq_true] <;> omega))
  refine v_pick [0, 1, 2, 3] rfl ?_
  have fe_3272 : fld (f_45 a_0) 17 = (0 : Int32).toInt := by rw [hf_46]; rfl
  simp only [Int32.reduceToInt] at fe_3272
  have fe_3273 : fld (f_45 a_0) 20 = (v_42 : Int32).toInt := by rw [hf_46]; rfl
  exact lp_2977 258 f_45 hW_48 FR.rf 0 (by decide) 0 (by rw [fe_3272] <;> first | omega | (simp only [Int32.lt_iff_toInt_lt, Int32.le_iff_toInt_le, Int32.reduceToInt, ← Int32.toInt_inj, true_and, and_true, or_true, true_or, false_or, or_false, false_and, and_false, not_true_eq_false, not_false_eq_true] <;> omega)) (by first | omega | (simp only [Int32.lt_iff_toInt_lt, Int32.le_iff_toInt_le, Int32.reduceToInt, ← Int32.toInt_inj, true_and, and_true, or_true, true_or, false_or, or_false, false_and, and_false, not_true_eq_false, not_false_eq_true] <;> omega)) (by rw [fe_3273] <;> first | omega | (simp only [Int32.lt_iff_toInt_lt, Int32.le_iff_toInt_le, Int32.reduceToInt, ← Int32.toInt_inj, true_and, and_true, or_true, true_or, false_or, or_false, false_and, and_false, not_true_eq_false, not_false_eq_true] <;> omega)) (by decide)
set_option maxRecDepth 100000 in
set_option maxHeartbeats 4000000 in
theorem p_X12_roomOf {l : Launch} {E : Ez} {L : List Nat} {f : Nat → va_E} {T : Nat → va_E → Prop} {a_0 : Nat} {a_1 : Int32} {q : Nat → Nat} {g_w : Nat → Int32} (hW : WT T L f) (k_0 : isM T L E a_0 q) (g_1 : (0 ≤ a_1.toInt ∧ a_1.toInt ≤ 5)) (e_w : f (q 1) = aI E 2076 g_w) (o_w : WOK g_w) (htold : (wv g_w a_1 0).toInt = 1) : CI l yX12_roomOf cX12_roomOf 2 .int 3 0 0 E [.ref a_0, .int a_1] L f (fun r L1 f1 => L = L1 ∧ WT T L f1 ∧ FR [12, 356] f f1 ∧ (0 ≤ r.toInt ∧ r.toInt ≤ 256) ∧ (∀ i : Int, 0 ≤ i → i < r.toInt → (i * (wv g_w a_1 4).toInt + (wv g_w a_1 4).toInt) * (wv g_w a_1 3).toInt ≤ 256) ∧ (r.toInt = 0 ∨ 1 ≤ (g_w 0).toInt) ∧ fld (f1 a_0) 20 = fld (f a_0) 20) := by
  refine ci_of (by decide) (Nat.le_of_ble_eq_true rfl) (fun z hz hnm hC hR => ?_)
  have hC : Cx z E cX12_roomOf RX12 2 3 0 0 := hC
  subst hz
  show V z E 2 0 0 L f 0 [(0, .ref a_0), (1, .int a_1)] []
  obtain ⟨m_1, t_2, k_3, k_4, k_5, k_6, k_7, k_8, k_9, k_10, k_11, k_12, k_13, k_14, k_15, k_16, k_17, k_18, k_19, k_20⟩ := id k_0
  obtain ⟨m_21, t_22⟩ := id k_3
  have b_23 := o_w.r0
  have b_24 := o_w.w0
  obtain ⟨v_26, v_27, v_29, v_31, v_33, v_35, v_37, v_38, v_39, v_40, v_42, e_25, b_28, b_30, b_32, b_34, b_36, b_41, b_43⟩ := hW.at m_1 t_2
  have mz_44 : fld (f a_0) 20 = v_42.toInt := by rw [e_25]; rfl
  obtain ⟨tl_2, tl_3, tl_4⟩ := o_w.told g_1 htold
  refine v_aload_n hC dX12_roomOf_0 rfl ?_
  refine v_iload_n hC dX12_roomOf_1 rfl ?_
  refine v_vv hC (rest := []) m_1 e_25 rfl mi_X12_lists ms_X12_lists (p_X12_lists hW k_0 (by first | omega | (simp only [Int32.lt_iff_toInt_lt, Int32.le_iff_toInt_le, Int32.reduceToInt, ← Int32.toInt_inj, true_and, and_true, or_true, true_or, false_or, or_false, false_and, and_false, not_true_eq_false, not_false_eq_true] <;> omega)) e_w o_w (by first | omega | (simp only [Int32.lt_iff_toInt_lt, Int32.le_iff_toInt_le, Int32.reduceToInt, ← Int32.toInt_inj, true_and, and_true, or_true, true_or, false_or, or_false, false_and, and_false, not_true_eq_false, not_false_eq_true] <;> omega))) mx_X12_lists ml_X12_338 (by decide) rfl (cells1 := 0) (slots1 := 0) (by decide) (by decide) (Nat.le_of_ble_eq_true rfl) (Nat.le_of_ble_eq_true rfl) rfl (Nat.le_of_ble_eq_true rfl) dX12_roomOf_2 (fun L_46 f_47 h_48 => ?_)
  obtain ⟨rfl, hW_51, hF_52, x_49, x_50⟩ := h_48
  have fe_53 : fld (f a_0) 20 = (v_42 : Int32).toInt := by rw [e_25]; rfl
  have hf_54 := hF_52.at e_w rfl
  obtain ⟨v_56, v_57, v_59, v_61, v_63, v_65, v_67, v_68, v_69, v_70, v_72, e_55, b_58, b_60, b_62, b_64, b_66, b_71, b_73⟩ := hW_51.at m_1 t_2
  have fe_74 : fld (f_47 a_0) 17 = (v_70 : Int32).toInt := by rw [e_55]; rfl
  rw [fe_74] at x_49
  rw [fe_53] at x_50
  have fe_75 : fld (f_47 a_0) 20 = (v_72 : Int32).toInt := by rw [e_55]; rfl
  rw [fe_75] at x_50
  refine v_aload_n hC dX12_roomOf_5 rfl ?_
  refine v_get hC fl_X12_335 m_1 e_55 rfl dX12_roomOf_6 ?_
  refine v_aload_n hC dX12_roomOf_9 rfl ?_
  refine v_iload_n hC dX12_roomOf_10 rfl ?_
  refine v_iconst hC dX12_roomOf_11 (v := 3) (by decide) ?_
  refine v_vi hC (rest := [.int v_70]) m_1 e_55 rfl mi_X12_ofWay ms_X12_ofWay (p_X12_ofWay hW_51 k_0 (by first | omega | (simp only [Int32.lt_iff_toInt_lt, Int32.le_iff_toInt_le, Int32.reduceToInt, ← Int32.toInt_inj, true_and, and_true, or_true, true_or, false_or, or_false, false_and, and_false, not_true_eq_false, not_false_eq_true] <;> omega)) (by decide) hf_54 o_w) mx_X12_ofWay ml_X12_94 (by decide) rfl (cells1 := 0) (slots1 := 0) (by decide) (by decide) (Nat.le_of_ble_eq_true rfl) (Nat.le_of_ble_eq_true rfl) rfl (Nat.le_of_ble_eq_true rfl) dX12_roomOf_12 (fun r_76 L_77 f_78 h_79 => ?_)
  obtain ⟨rfl, rfl, rfl⟩ := h_79
  obtain ⟨v_82, h_83⟩ : ∃ v9 : Int32, v_70 / (wv g_w a_1 3) = v9 := ⟨_, rfl⟩
  refine v_idiv hC dX12_roomOf_15 (by first | omega | (simp only [Int32.lt_iff_toInt_lt, Int32.le_iff_toInt_le, Int32.reduceToInt, ← Int32.toInt_inj, true_and, and_true, or_true, true_or, false_or, or_false, false_and, and_false, not_true_eq_false, not_false_eq_true] <;> omega)) h_83 ?_
  have h_84 := div_v h_83 (by first | omega | (simp only [Int32.lt_iff_toInt_lt, Int32.le_iff_toInt_le, Int32.reduceToInt, ← Int32.toInt_inj, true_and, and_true, or_true, true_or, false_or, or_false, false_and, and_false, not_true_eq_false, not_false_eq_true] <;> omega)) (by first | omega | (simp only [Int32.lt_iff_toInt_lt, Int32.le_iff_toInt_le, Int32.reduceToInt, ← Int32.toInt_inj, true_and, and_true, or_true, true_or, false_or, or_false, false_and, and_false, not_true_eq_false, not_false_eq_true] <;> omega))
  refine v_aload_n hC dX12_roomOf_16 rfl ?_
  refine v_iload_n hC dX12_roomOf_17 rfl ?_
  refine v_iconst hC dX12_roomOf_18 (v := 4) (by decide) ?_
  refine v_vi hC (rest := [.int v_82]) m_1 e_55 rfl mi_X12_ofWay ms_X12_ofWay (p_X12_ofWay hW_51 k_0 (by first | omega | (simp only [Int32.lt_iff_toInt_lt, Int32.le_iff_toInt_le, Int32.reduceToInt, ← Int32.toInt_inj, true_and, and_true, or_true, true_or, false_or, or_false, false_and, and_false, not_true_eq_false, not_false_eq_true] <;> omega)) (by decide) hf_54 o_w) mx_X12_ofWay ml_X12_94 (by decide) rfl (cells1 := 0) (slots1 := 0) (by decide) (by decide) (Nat.le_of_ble_eq_true rfl) (Nat.le_of_ble_eq_true rfl) rfl (Nat.le_of_ble_eq_true rfl) dX12_roomOf_19 (fun r_85 L_86 f_87 h_88 => ?_)
  obtain ⟨rfl, rfl, rfl⟩ := h_88
  obtain ⟨v_91, h_92⟩ : ∃ v9 : Int32, v_82 / (wv g_w a_1 4) = v9 := ⟨_, rfl⟩
  refine v_idiv hC dX12_roomOf_22 (by first | omega | (simp only [Int32.lt_iff_toInt_lt, Int32.le_iff_toInt_le, Int32.reduceToInt, ← Int32.toInt_inj, true_and, and_true, or_true, true_or, false_or, or_false, false_and, and_false, not_true_eq_false, not_false_eq_true] <;> omega)) h_92 ?_
  have h_93 := div_v h_92 (by first | omega | (simp only [Int32.lt_iff_toInt_lt, Int32.le_iff_toInt_le, Int32.reduceToInt, ← Int32.toInt_inj, true_and, and_true, or_true, true_or, false_or, or_false, false_and, and_false, not_true_eq_false, not_false_eq_true] <;> omega)) (by first | omega | (simp only [Int32.lt_iff_toInt_lt, Int32.le_iff_toInt_le, Int32.reduceToInt, ← Int32.toInt_inj, true_and, and_true, or_true, true_or, false_or, or_false, false_and, and_false, not_true_eq_false, not_false_eq_true] <;> omega))
  have fe_94 : fld (f_47 a_0) 20 = (v_72 : Int32).toInt := by rw [e_55]; rfl
  exact hR _ _ _ _ _ _ _ dX12_roomOf_23 rfl (Nat.le_of_ble_eq_true rfl) (Nat.le_of_ble_eq_true rfl) ⟨rfl, hW_51, (hF_52.mono rfl), (by first | omega | (simp only [Int32.lt_iff_toInt_lt, Int32.le_iff_toInt_le, Int32.reduceToInt, ← Int32.toInt_inj, true_and, and_true, or_true, true_or, false_or, or_false, false_and, and_false, not_true_eq_false, not_false_eq_true] <;> omega)), (room_v (pm := v_70.toInt) (by rw [h_93.1, h_84.1]) (by omega) (by omega) (by omega)), (by first | omega | (simp only [Int32.lt_iff_toInt_lt, Int32.le_iff_toInt_le, Int32.reduceToInt, ← Int32.toInt_inj, true_and, and_true, or_true, true_or, false_or, or_false, false_and, and_false, not_true_eq_false, not_false_eq_true] <;> omega)), (by simp only [fe_94, mz_44, true_and, and_true, or_true, true_or, false_or, or_false, false_and, and_false, not_true_eq_false, not_false_eq_true] <;> first | omega | (simp only [Int32.lt_iff_toInt_lt, Int32.le_iff_toInt_le, Int32.reduceToInt, ← Int32.toInt_inj, true_and, and_true, or_true, true_or, false_or, or_false, false_and, and_false, not_true_eq_false, not_false_eq_true] <;> omega))⟩
set_option maxRecDepth 100000 in
set_option maxHeartbeats 4000000 in
theorem p_X12_stands {l : Launch} {E : Ez} {L : List Nat} {f : Nat → va_E} {T : Nat → va_E → Prop} {a_0 : Nat} {a_1 : Int32} {a_2 : Int32} {q : Nat → Nat} {g_w : Nat → Int32} (hW : WT T L f) (k_0 : isM T L E a_0 q) (g_1 : (0 ≤ a_1.toInt ∧ a_1.toInt ≤ 3)) (g_2 : (0 ≤ a_2.toInt ∧ a_2.toInt ≤ 255)) (e_w : f (q 1) = aI E 2076 g_w) (o_w : WOK g_w) : CI l yX12_stands cX12_stands 3 .int 0 0 0 E [.ref a_0, .int a_1, .int a_2] L f (fun r L1 f1 => L = L1 ∧ f = f1) := by
  refine ci_of (by decide) (Nat.le_of_ble_eq_true rfl) (fun z hz hnm hC hR => ?_)
  have hC : Cx z E cX12_stands RX12 3 0 0 0 := hC
  subst hz
  show V z E 3 0 0 L f 0 [(0, .ref a_0), (1, .int a_1), (2, .int a_2)] []
  obtain ⟨m_1, t_2, k_3, k_4, k_5, k_6, k_7, k_8, k_9, k_10, k_11, k_12, k_13, k_14, k_15, k_16, k_17, k_18, k_19, k_20⟩ := id k_0
  obtain ⟨m_21, t_22⟩ := id k_3
  have b_23 := o_w.r0
  have b_24 := o_w.w0
  refine v_aload_n hC dX12_stands_0 rfl ?_
  obtain ⟨v_26, v_27, v_29, v_31, v_33, v_35, v_37, v_38, v_39, v_40, v_42, e_25, b_28, b_30, b_32, b_34, b_36, b_41, b_43⟩ := hW.at m_1 t_2
  refine v_get hC fl_X12_13 m_1 e_25 rfl dX12_stands_1 ?_
  refine v_sipush hC dX12_stands_4 (v := 1048) (by decide) ?_
  refine v_sipush hC dX12_stands_7 (v := 257) (by decide) ?_
  refine v_iload_n hC dX12_stands_10 rfl ?_
  obtain ⟨v_44, h_45⟩ : ∃ v9 : Int32, (257 : Int32) * a_1 = v9 := ⟨_, rfl⟩
  refine v_imul hC dX12_stands_11 h_45 ?_
  have h_46 := mul_v 257 3 771 h_45 (by decide) (by first | omega | (simp only [Int32.lt_iff_toInt_lt, Int32.le_iff_toInt_le, Int32.reduceToInt, ← Int32.toInt_inj, true_and, and_true, or_true, true_or, false_or, or_false, false_and, and_false, not_true_eq_false, not_false_eq_true] <;> omega)) (by decide) (by decide)
  try simp only [Int32.reduceToInt] at h_46
  obtain ⟨v_47, h_48⟩ : ∃ v9 : Int32, (1048 : Int32) + v_44 = v9 := ⟨_, rfl⟩
  refine v_iadd hC dX12_stands_12 h_48 ?_
  have h_49 := add_v h_48 (by first | omega | (simp only [Int32.lt_iff_toInt_lt, Int32.le_iff_toInt_le, Int32.reduceToInt, ← Int32.toInt_inj, true_and, and_true, or_true, true_or, false_or, or_false, false_and, and_false, not_true_eq_false, not_false_eq_true] <;> omega)) (by first | omega | (simp only [Int32.lt_iff_toInt_lt, Int32.le_iff_toInt_le, Int32.reduceToInt, ← Int32.toInt_inj, true_and, and_true, or_true, true_or, false_or, or_false, false_and, and_false, not_true_eq_false, not_false_eq_true] <;> omega))
  try simp only [Int32.reduceToInt] at h_49
  refine v_iconst hC dX12_stands_13 (v := 1) (by decide) ?_
  obtain ⟨v_50, h_51⟩ : ∃ v9 : Int32, v_47 + 1 = v9 := ⟨_, rfl⟩
  refine v_iadd hC dX12_stands_14 h_51 ?_
  have h_52 := add_v h_51 (by first | omega | (simp only [Int32.lt_iff_toInt_lt, Int32.le_iff_toInt_le, Int32.reduceToInt, ← Int32.toInt_inj, true_and, and_true, or_true, true_or, false_or, or_false, false_and, and_false, not_true_eq_false, not_false_eq_true] <;> omega)) (by first | omega | (simp only [Int32.lt_iff_toInt_lt, Int32.le_iff_toInt_le, Int32.reduceToInt, ← Int32.toInt_inj, true_and, and_true, or_true, true_or, false_or, or_false, false_and, and_false, not_true_eq_false, not_false_eq_true] <;> omega))
  try simp only [Int32.reduceToInt] at h_52
  refine v_iload_n hC dX12_stands_15 rfl ?_
  obtain ⟨v_53, h_54⟩ : ∃ v9 : Int32, v_50 + a_2 = v9 := ⟨_, rfl⟩
  refine v_iadd hC dX12_stands_16 h_54 ?_
  have h_55 := add_v h_54 (by first | omega | (simp only [Int32.lt_iff_toInt_lt, Int32.le_iff_toInt_le, Int32.reduceToInt, ← Int32.toInt_inj, true_and, and_true, or_true, true_or, false_or, or_false, false_and, and_false, not_true_eq_false, not_false_eq_true] <;> omega)) (by first | omega | (simp only [Int32.lt_iff_toInt_lt, Int32.le_iff_toInt_le, Int32.reduceToInt, ← Int32.toInt_inj, true_and, and_true, or_true, true_or, false_or, or_false, false_and, and_false, not_true_eq_false, not_false_eq_true] <;> omega))
  obtain ⟨v_56, h_57⟩ : ∃ v9 : Int32, g_w (v_53 : Int32).toNatClampNeg = v9 := ⟨_, rfl⟩
  refine v_iald hC m_21 e_w (vp_in_iff.mpr (by first | omega | (simp only [Int32.lt_iff_toInt_lt, Int32.le_iff_toInt_le, Int32.reduceToInt, ← Int32.toInt_inj, true_and, and_true, or_true, true_or, false_or, or_false, false_and, and_false, not_true_eq_false, not_false_eq_true] <;> omega))) h_57 dX12_stands_17 ?_
  exact hR _ _ _ _ _ _ _ dX12_stands_18 rfl (Nat.le_of_ble_eq_true rfl) (Nat.le_of_ble_eq_true rfl) ⟨rfl, rfl⟩
set_option maxRecDepth 100000 in
set_option maxHeartbeats 4000000 in
theorem p_X12_takes0 {l : Launch} {E : Ez} {L : List Nat} {f : Nat → va_E} {T : Nat → va_E → Prop} {a_0 : Nat} {a_1 : Int32} {q : Nat → Nat} {g_w : Nat → Int32} (hW : WT T L f) (k_0 : isM T L E a_0 q) (g_1 : (0 ≤ a_1.toInt ∧ a_1.toInt ≤ 3)) (e_w : f (q 1) = aI E 2076 g_w) (o_w : WOK g_w) : CV l yX12_takes0 cX12_takes0 3 1 0 0 E [.ref a_0, .int a_1] L f (fun L1 f1 => L = L1 ∧ WT T L f1 ∧ FR [356] f f1) := by
  refine cv_of (by decide) (Nat.le_of_ble_eq_true rfl) (fun z hz hnm hC hR => ?_)
  have hC : Cx z E cX12_takes0 RX12 3 1 0 0 := hC
  subst hz
  show V z E 3 0 0 L f 0 [(0, .ref a_0), (1, .int a_1)] []
  obtain ⟨m_1, t_2, k_3, k_4, k_5, k_6, k_7, k_8, k_9, k_10, k_11, k_12, k_13, k_14, k_15, k_16, k_17, k_18, k_19, k_20⟩ := id k_0
  obtain ⟨m_21, t_22⟩ := id k_3
  have b_23 := o_w.r0
  have b_24 := o_w.w0
  refine v_iconst hC dX12_takes0_0 (v := 0) (by decide) ?_
  refine v_istore_n hC dX12_takes0_1 (by decide) (lv' := [(2, .int 0), (0, .ref a_0), (1, .int a_1)]) rfl ?_
  have lp_217 : ∀ (n_218 : Nat) (f_212 : Nat → va_E) (hW_213 : WT T L f_212) (hF_214 : FR [356] f f_212) (i_211 : Int32) (b_216 : (0 ≤ i_211.toInt ∧ i_211.toInt ≤ 256)) (hm_220 : 256 - i_211.toInt < (n_218 : Int)), V z E 3 0 0 L f_212 2 [(2, .int i_211), (0, .ref a_0), (1, .int a_1)] [] := by
    intro n_218
    induction n_218 with
    | zero =>
      intro f_212 hW_213 hF_214 i_211 b_216 hm_220
      have hf_215 := hF_214.at e_w rfl
      exfalso; omega
    | succ n_218 ih_219 =>
      intro f_212 hW_213 hF_214 i_211 b_216 hm_220
      have hf_215 := hF_214.at e_w rfl
      refine v_iload_n hC dX12_takes0_2 rfl ?_
      refine v_sipush hC dX12_takes0_3 (v := 256) (by decide) ?_
      refine v_icmp_ge hC dX12_takes0_6 (tgt := 27) (by decide) (fun h_221 => ?_) (fun h_221 => ?_)
      · simp only [Int32.lt_iff_toInt_lt, Int32.le_iff_toInt_le, Int32.reduceToInt, ← Int32.toInt_inj] at h_221
        exact hR _ _ _ _ _ _ dX12_takes0_27 (Nat.le_of_ble_eq_true rfl) (Nat.le_of_ble_eq_true rfl) ⟨rfl, hW_213, (hF_214.mono rfl)⟩
      · simp only [Int32.lt_iff_toInt_lt, Int32.le_iff_toInt_le, Int32.reduceToInt, ← Int32.toInt_inj] at h_221
        refine v_aload_n hC dX12_takes0_9 rfl ?_
        obtain ⟨v_223, v_224, v_226, v_228, v_230, v_232, v_234, v_235, v_236, v_237, v_239, e_222, b_225, b_227, b_229, b_231, b_233, b_238, b_240⟩ := hW_213.at m_1 t_2
        refine v_get hC fl_X12_37 m_1 e_222 rfl dX12_takes0_10 ?_
        refine v_iload_n hC dX12_takes0_13 rfl ?_
        refine v_aload_n hC dX12_takes0_14 rfl ?_
        refine v_iload_n hC dX12_takes0_15 rfl ?_
        refine v_iload_n hC dX12_takes0_16 rfl ?_
        refine v_vi hC (rest := [.int i_211, .ref (q 15)]) m_1 e_222 rfl mi_X12_stands ms_X12_stands (p_X12_stands hW_213 k_0 (by first | omega | (simp only [Int32.lt_iff_toInt_lt, Int32.le_iff_toInt_le, Int32.reduceToInt, ← Int32.toInt_inj, true_and, and_true, or_true, true_or, false_or, or_false, false_and, and_false, not_true_eq_false, not_false_eq_true] <;> omega)) (by first | omega | (simp only [Int32.lt_iff_toInt_lt, Int32.le_iff_toInt_le, Int32.reduceToInt, ← Int32.toInt_inj, true_and, and_true, or_true, true_or, false_or, or_false, false_and, and_false, not_true_eq_false, not_false_eq_true] <;> omega)) hf_215 o_w) mx_X12_stands ml_X12_301 (by decide) rfl (cells1 := 0) (slots1 := 0) (by decide) (by decide) (Nat.le_of_ble_eq_true rfl) (Nat.le_of_ble_eq_true rfl) rfl (Nat.le_of_ble_eq_true rfl) dX12_takes0_17 (fun r_241 L_242 f_243 h_244 => ?_)
        obtain ⟨rfl, rfl⟩ := h_244
        obtain ⟨m_247, t_248⟩ := id k_9
        obtain ⟨g_250, e_249⟩ := hW_213.at m_247 t_248
        refine v_iast hC m_247 e_249 (vp_in_iff.mpr (by first | omega | (simp only [Int32.lt_iff_toInt_lt, Int32.le_iff_toInt_le, Int32.reduceToInt, ← Int32.toInt_inj, true_and, and_true, or_true, true_or, false_or, or_false, false_and, and_false, not_true_eq_false, not_false_eq_true] <;> omega))) dX12_takes0_20 (fun f_251 hf_252 hk_253 => ?_)
        have hW_255 := hW_213.up hf_252 hk_253 t_248 ⟨_, rfl⟩
        obtain ⟨g_254, hf_252⟩ : ∃ g9, f_251 (q 15) = aI E 256 g9 := ⟨_, hf_252⟩
        have hf_256 := (hk_253 (q 1) (ne_kd hf_215 e_249 rfl)).trans hf_215
        have hf_257 := (hk_253 a_0 (ne_kd e_222 e_249 rfl)).trans e_222
        have fr_258 := FR.w hk_253 e_249 (k := 356) rfl
        obtain ⟨v_259, h_260⟩ : ∃ v9 : Int32, i_211 + Int32.ofInt 1 = v9 := ⟨_, rfl⟩
        have h_261 := add_v (b := 1) h_260 (by first | omega | (simp only [Int32.lt_iff_toInt_lt, Int32.le_iff_toInt_le, Int32.reduceToInt, ← Int32.toInt_inj, true_and, and_true, or_true, true_or, false_or, or_false, false_and, and_false, not_true_eq_false, not_false_eq_true] <;> omega)) (by first | omega | (simp only [Int32.lt_iff_toInt_lt, Int32.le_iff_toInt_le, Int32.reduceToInt, ← Int32.toInt_inj, true_and, and_true, or_true, true_or, false_or, or_false, false_and, and_false, not_true_eq_false, not_false_eq_true] <;> omega))
        simp only [Int32.reduceToInt] at h_261
        refine v_iinc hC dX12_takes0_21 (k := 0) rfl (v := v_259) h_260 (by decide) (lv' := [(2, .int v_259), (0, .ref a_0), (1, .int a_1)]) rfl ?_
        refine v_goto hC dX12_takes0_24 (tgt := 2) (by decide) ?_
        refine v_pick [0, 1, 2] rfl ?_
        exact ih_219 f_251 hW_255 ((hF_214.tr fr_258).mono rfl) v_259 (by first | omega | (simp only [Int32.lt_iff_toInt_lt, Int32.le_iff_toInt_le, Int32.reduceToInt, ← Int32.toInt_inj, true_and, and_true, or_true, true_or, false_or, or_false, false_and, and_false, not_true_eq_false, not_false_eq_true] <;> omega)) (by first | omega | (simp only [Int32.lt_iff_toInt_lt, Int32.le_iff_toInt_le, Int32.reduceToInt, ← Int32.toInt_inj, true_and, and_true, or_true, true_or, false_or, or_false, false_and, and_false, not_true_eq_false, not_false_eq_true] <;> omega))
  refine v_pick [0, 1, 2] rfl ?_
  exact lp_217 258 f hW FR.rf 0 (by decide) (by decide)
set_option maxRecDepth 100000 in
set_option maxHeartbeats 4000000 in
theorem p_X12_tells {l : Launch} {E : Ez} {L : List Nat} {f : Nat → va_E} {T : Nat → va_E → Prop} {a_0 : Nat} {a_1 : Int32} {a_2 : Int32} {q : Nat → Nat} {g_w : Nat → Int32} (hW : WT T L f) (k_0 : isM T L E a_0 q) (g_1 : (0 ≤ a_1.toInt ∧ a_1.toInt ≤ 5)) (g_2 : (0 ≤ a_2.toInt ∧ a_2.toInt ≤ 255)) (e_w : f (q 1) = aI E 2076 g_w) (o_w : WOK g_w) (htold : (wv g_w a_1 0).toInt = 1) (hG : a_2.toInt * (wv g_w a_1 3).toInt + (wv g_w a_1 3).toInt ≤ 256) : CI l yX12_tells cX12_tells 6 .int 1 0 0 E [.ref a_0, .int a_1, .int a_2] L f (fun r L1 f1 => L = L1 ∧ f = f1) := by
  refine ci_of (by decide) (Nat.le_of_ble_eq_true rfl) (fun z hz hnm hC hR => ?_)
  have hC : Cx z E cX12_tells RX12 6 1 0 0 := hC
  subst hz
  show V z E 6 0 0 L f 0 [(0, .ref a_0), (1, .int a_1), (2, .int a_2)] []
  obtain ⟨m_1, t_2, k_3, k_4, k_5, k_6, k_7, k_8, k_9, k_10, k_11, k_12, k_13, k_14, k_15, k_16, k_17, k_18, k_19, k_20⟩ := id k_0
  obtain ⟨m_21, t_22⟩ := id k_3
  have b_23 := o_w.r0
  have b_24 := o_w.w0
  obtain ⟨tl_2, tl_3, tl_4⟩ := o_w.told g_1 htold
  refine v_iconst hC dX12_tells_0 (v := 0) (by decide) ?_
  refine v_istore_n hC dX12_tells_1 (by decide) (lv' := [(3, .int 0), (0, .ref a_0), (1, .int a_1), (2, .int a_2)]) rfl ?_
  refine v_iconst hC dX12_tells_2 (v := 0) (by decide) ?_
  refine v_istore hC dX12_tells_3 (by decide) (lv' := [(4, .int 0), (3, .int 0), (0, .ref a_0), (1, .int a_1), (2, .int a_2)]) rfl ?_
  have lp_699 : ∀ (n_700 : Nat) (i_696 : Int32) (b_698 : (0 ≤ i_696.toInt ∧ i_696.toInt ≤ 5)) (i_697 : Int32) (hm_702 : 5 - i_696.toInt < (n_700 : Int)), V z E 6 0 0 L f 5 [(4, .int i_696), (3, .int i_697), (0, .ref a_0), (1, .int a_1), (2, .int a_2)] [] := by
    intro n_700
    induction n_700 with
    | zero =>
      intro i_696 b_698 i_697 hm_702
      exfalso; omega
    | succ n_700 ih_701 =>
      intro i_696 b_698 i_697 hm_702
      refine v_iload hC dX12_tells_5 rfl ?_
      refine v_aload_n hC dX12_tells_7 rfl ?_
      refine v_iload_n hC dX12_tells_8 rfl ?_
      refine v_iconst hC dX12_tells_9 (v := 3) (by decide) ?_
      obtain ⟨v_704, v_705, v_707, v_709, v_711, v_713, v_715, v_716, v_717, v_718, v_720, e_703, b_706, b_708, b_710, b_712, b_714, b_719, b_721⟩ := hW.at m_1 t_2
      refine v_vi hC (rest := [.int i_696]) m_1 e_703 rfl mi_X12_ofWay ms_X12_ofWay (p_X12_ofWay hW k_0 (by first | omega | (simp only [Int32.lt_iff_toInt_lt, Int32.le_iff_toInt_le, Int32.reduceToInt, ← Int32.toInt_inj, true_and, and_true, or_true, true_or, false_or, or_false, false_and, and_false, not_true_eq_false, not_false_eq_true] <;> omega)) (by decide) e_w o_w) mx_X12_ofWay ml_X12_94 (by decide) rfl (cells1 := 0) (slots1 := 0) (by decide) (by decide) (Nat.le_of_ble_eq_true rfl) (Nat.le_of_ble_eq_true rfl) rfl (Nat.le_of_ble_eq_true rfl) dX12_tells_10 (fun r_722 L_723 f_724 h_725 => ?_)
      obtain ⟨rfl, rfl, rfl⟩ := h_725
      refine v_icmp_ge hC dX12_tells_13 (tgt := 66) (by decide) (fun h_728 => ?_) (fun h_728 => ?_)
      · simp only [Int32.lt_iff_toInt_lt, Int32.le_iff_toInt_le, Int32.reduceToInt, ← Int32.toInt_inj] at h_728
        refine v_iload_n hC dX12_tells_66 rfl ?_
        refine v_iconst hC dX12_tells_67 (v := 2) (by decide) ?_
        obtain ⟨v_729, h_730⟩ : ∃ v9 : Int32, i_697 - i_697 / 2 * 2 = v9 := ⟨_, rfl⟩
        refine v_irem hC dX12_tells_68 (by decide) h_730 ?_
        exact hR _ _ _ _ _ _ _ dX12_tells_69 rfl (Nat.le_of_ble_eq_true rfl) (Nat.le_of_ble_eq_true rfl) ⟨rfl, rfl⟩
      · simp only [Int32.lt_iff_toInt_lt, Int32.le_iff_toInt_le, Int32.reduceToInt, ← Int32.toInt_inj] at h_728
        refine v_aload_n hC dX12_tells_16 rfl ?_
        refine v_get hC fl_X12_37 m_1 e_703 rfl dX12_tells_17 ?_
        refine v_aload_n hC dX12_tells_20 rfl ?_
        refine v_get hC fl_X12_40 m_1 e_703 rfl dX12_tells_21 ?_
        refine v_iload_n hC dX12_tells_24 rfl ?_
        refine v_aload_n hC dX12_tells_25 rfl ?_
        refine v_iload_n hC dX12_tells_26 rfl ?_
        refine v_iconst hC dX12_tells_27 (v := 3) (by decide) ?_
        refine v_vi hC (rest := [.int a_2, .ref (q 16), .ref (q 15)]) m_1 e_703 rfl mi_X12_ofWay ms_X12_ofWay (p_X12_ofWay hW k_0 (by first | omega | (simp only [Int32.lt_iff_toInt_lt, Int32.le_iff_toInt_le, Int32.reduceToInt, ← Int32.toInt_inj, true_and, and_true, or_true, true_or, false_or, or_false, false_and, and_false, not_true_eq_false, not_false_eq_true] <;> omega)) (by decide) e_w o_w) mx_X12_ofWay ml_X12_94 (by decide) rfl (cells1 := 0) (slots1 := 0) (by decide) (by decide) (Nat.le_of_ble_eq_true rfl) (Nat.le_of_ble_eq_true rfl) rfl (Nat.le_of_ble_eq_true rfl) dX12_tells_28 (fun r_732 L_733 f_734 h_735 => ?_)
        obtain ⟨rfl, rfl, rfl⟩ := h_735
        obtain ⟨v_738, h_739⟩ : ∃ v9 : Int32, a_2 * (wv g_w a_1 3) = v9 := ⟨_, rfl⟩
        refine v_imul hC dX12_tells_31 h_739 ?_
        have h_740 := mul_v 255 5 1275 h_739 (by first | omega | (simp only [Int32.lt_iff_toInt_lt, Int32.le_iff_toInt_le, Int32.reduceToInt, ← Int32.toInt_inj, true_and, and_true, or_true, true_or, false_or, or_false, false_and, and_false, not_true_eq_false, not_false_eq_true] <;> omega)) (by first | omega | (simp only [Int32.lt_iff_toInt_lt, Int32.le_iff_toInt_le, Int32.reduceToInt, ← Int32.toInt_inj, true_and, and_true, or_true, true_or, false_or, or_false, false_and, and_false, not_true_eq_false, not_false_eq_true] <;> omega)) (by decide) (by decide)
        refine v_iload hC dX12_tells_32 rfl ?_
        obtain ⟨v_741, h_742⟩ : ∃ v9 : Int32, v_738 + i_696 = v9 := ⟨_, rfl⟩
        refine v_iadd hC dX12_tells_34 h_742 ?_
        have h_743 := add_v h_742 (by first | omega | (simp only [Int32.lt_iff_toInt_lt, Int32.le_iff_toInt_le, Int32.reduceToInt, ← Int32.toInt_inj, true_and, and_true, or_true, true_or, false_or, or_false, false_and, and_false, not_true_eq_false, not_false_eq_true] <;> omega)) (by first | omega | (simp only [Int32.lt_iff_toInt_lt, Int32.le_iff_toInt_le, Int32.reduceToInt, ← Int32.toInt_inj, true_and, and_true, or_true, true_or, false_or, or_false, false_and, and_false, not_true_eq_false, not_false_eq_true] <;> omega))
        obtain ⟨m_744, t_745⟩ := id k_10
        obtain ⟨g_747, e_746, ok_748⟩ := hW.at m_744 t_745
        obtain ⟨v_749, h_750⟩ : ∃ v9 : Int32, g_747 (v_741 : Int32).toNatClampNeg = v9 := ⟨_, rfl⟩
        have b_751 := ok_748 (v_741 : Int32).toNatClampNeg
        rw [h_750] at b_751
        refine v_iald hC m_744 e_746 (vp_in_iff.mpr (by first | omega | (simp only [Int32.lt_iff_toInt_lt, Int32.le_iff_toInt_le, Int32.reduceToInt, ← Int32.toInt_inj, true_and, and_true, or_true, true_or, false_or, or_false, false_and, and_false, not_true_eq_false, not_false_eq_true] <;> omega))) h_750 dX12_tells_35 ?_
        obtain ⟨m_752, t_753⟩ := id k_9
        obtain ⟨g_755, e_754⟩ := hW.at m_752 t_753
        obtain ⟨v_756, h_757⟩ : ∃ v9 : Int32, g_755 (v_749 : Int32).toNatClampNeg = v9 := ⟨_, rfl⟩
        refine v_iald hC m_752 e_754 (vp_in_iff.mpr (by first | omega | (simp only [Int32.lt_iff_toInt_lt, Int32.le_iff_toInt_le, Int32.reduceToInt, ← Int32.toInt_inj, true_and, and_true, or_true, true_or, false_or, or_false, false_and, and_false, not_true_eq_false, not_false_eq_true] <;> omega))) h_757 dX12_tells_36 ?_
        refine v_istore hC dX12_tells_37 (by decide) (lv' := [(5, .int v_756), (4, .int i_696), (3, .int i_697), (0, .ref a_0), (1, .int a_1), (2, .int a_2)]) rfl ?_
        refine v_iload hC dX12_tells_39 rfl ?_
        refine v_iconst hC dX12_tells_41 (v := 4) (by decide) ?_
        refine v_icmp_ne hC dX12_tells_42 (tgt := 47) (by decide) (fun h_758 => ?_) (fun h_758 => ?_)
        · simp only [Int32.lt_iff_toInt_lt, Int32.le_iff_toInt_le, Int32.reduceToInt, ← Int32.toInt_inj] at h_758
          refine v_iload_n hC dX12_tells_47 rfl ?_
          refine v_iload hC dX12_tells_48 rfl ?_
          refine v_if_ne hC dX12_tells_50 (tgt := 57) (by decide) (fun h_759 => ?_) (fun h_759 => ?_)
          · simp only [Int32.lt_iff_toInt_lt, Int32.le_iff_toInt_le, Int32.reduceToInt, ← Int32.toInt_inj] at h_759
            refine v_iconst hC dX12_tells_57 (v := 1) (by decide) ?_
            obtain ⟨v_760, h_761⟩ : ∃ v9 : Int32, i_697 + 1 = v9 := ⟨_, rfl⟩
            refine v_iadd hC dX12_tells_58 h_761 ?_
            refine v_istore_n hC dX12_tells_59 (by decide) (lv' := [(3, .int v_760), (5, .int v_756), (4, .int i_696), (0, .ref a_0), (1, .int a_1), (2, .int a_2)]) rfl ?_
            obtain ⟨v_763, h_764⟩ : ∃ v9 : Int32, i_696 + Int32.ofInt 1 = v9 := ⟨_, rfl⟩
            have h_765 := add_v (b := 1) h_764 (by first | omega | (simp only [Int32.lt_iff_toInt_lt, Int32.le_iff_toInt_le, Int32.reduceToInt, ← Int32.toInt_inj, true_and, and_true, or_true, true_or, false_or, or_false, false_and, and_false, not_true_eq_false, not_false_eq_true] <;> omega)) (by first | omega | (simp only [Int32.lt_iff_toInt_lt, Int32.le_iff_toInt_le, Int32.reduceToInt, ← Int32.toInt_inj, true_and, and_true, or_true, true_or, false_or, or_false, false_and, and_false, not_true_eq_false, not_false_eq_true] <;> omega))
            simp only [Int32.reduceToInt] at h_765
            refine v_iinc hC dX12_tells_60 (k := 2) rfl (v := v_763) h_764 (by decide) (lv' := [(4, .int v_763), (3, .int v_760), (5, .int v_756), (0, .ref a_0), (1, .int a_1), (2, .int a_2)]) rfl ?_
            refine v_goto hC dX12_tells_63 (tgt := 5) (by decide) ?_
            refine v_pick [0, 1, 3, 4, 5] rfl ?_
            exact ih_701 v_763 (by first | omega | (simp only [Int32.lt_iff_toInt_lt, Int32.le_iff_toInt_le, Int32.reduceToInt, ← Int32.toInt_inj, true_and, and_true, or_true, true_or, false_or, or_false, false_and, and_false, not_true_eq_false, not_false_eq_true] <;> omega)) v_760 (by first | omega | (simp only [Int32.lt_iff_toInt_lt, Int32.le_iff_toInt_le, Int32.reduceToInt, ← Int32.toInt_inj, true_and, and_true, or_true, true_or, false_or, or_false, false_and, and_false, not_true_eq_false, not_false_eq_true] <;> omega))
          · simp only [Int32.lt_iff_toInt_lt, Int32.le_iff_toInt_le, Int32.reduceToInt, ← Int32.toInt_inj] at h_759
            refine v_iconst hC dX12_tells_53 (v := 0) (by decide) ?_
            refine v_goto hC dX12_tells_54 (tgt := 58) (by decide) ?_
            obtain ⟨v_766, h_767⟩ : ∃ v9 : Int32, i_697 + 0 = v9 := ⟨_, rfl⟩
            refine v_iadd hC dX12_tells_58 h_767 ?_
            have rg_769 := Int32.toInt_lt i_697
            have rg_770 := Int32.le_toInt i_697
            have h_768 := add_v h_767 (by first | omega | (simp only [Int32.lt_iff_toInt_lt, Int32.le_iff_toInt_le, Int32.reduceToInt, ← Int32.toInt_inj, true_and, and_true, or_true, true_or, false_or, or_false, false_and, and_false, not_true_eq_false, not_false_eq_true] <;> omega)) (by first | omega | (simp only [Int32.lt_iff_toInt_lt, Int32.le_iff_toInt_le, Int32.reduceToInt, ← Int32.toInt_inj, true_and, and_true, or_true, true_or, false_or, or_false, false_and, and_false, not_true_eq_false, not_false_eq_true] <;> omega))
            try simp only [Int32.reduceToInt] at h_768
            refine v_istore_n hC dX12_tells_59 (by decide) (lv' := [(3, .int v_766), (5, .int v_756), (4, .int i_696), (0, .ref a_0), (1, .int a_1), (2, .int a_2)]) rfl ?_
            obtain ⟨v_771, h_772⟩ : ∃ v9 : Int32, i_696 + Int32.ofInt 1 = v9 := ⟨_, rfl⟩
            have h_773 := add_v (b := 1) h_772 (by first | omega | (simp only [Int32.lt_iff_toInt_lt, Int32.le_iff_toInt_le, Int32.reduceToInt, ← Int32.toInt_inj, true_and, and_true, or_true, true_or, false_or, or_false, false_and, and_false, not_true_eq_false, not_false_eq_true] <;> omega)) (by first | omega | (simp only [Int32.lt_iff_toInt_lt, Int32.le_iff_toInt_le, Int32.reduceToInt, ← Int32.toInt_inj, true_and, and_true, or_true, true_or, false_or, or_false, false_and, and_false, not_true_eq_false, not_false_eq_true] <;> omega))
            simp only [Int32.reduceToInt] at h_773
            refine v_iinc hC dX12_tells_60 (k := 2) rfl (v := v_771) h_772 (by decide) (lv' := [(4, .int v_771), (3, .int v_766), (5, .int v_756), (0, .ref a_0), (1, .int a_1), (2, .int a_2)]) rfl ?_
            refine v_goto hC dX12_tells_63 (tgt := 5) (by decide) ?_
            refine v_pick [0, 1, 3, 4, 5] rfl ?_
            exact ih_701 v_771 (by first | omega | (simp only [Int32.lt_iff_toInt_lt, Int32.le_iff_toInt_le, Int32.reduceToInt, ← Int32.toInt_inj, true_and, and_true, or_true, true_or, false_or, or_false, false_and, and_false, not_true_eq_false, not_false_eq_true] <;> omega)) v_766 (by first | omega | (simp only [Int32.lt_iff_toInt_lt, Int32.le_iff_toInt_le, Int32.reduceToInt, ← Int32.toInt_inj, true_and, and_true, or_true, true_or, false_or, or_false, false_and, and_false, not_true_eq_false, not_false_eq_true] <;> omega))
        · simp only [Int32.lt_iff_toInt_lt, Int32.le_iff_toInt_le, Int32.reduceToInt, ← Int32.toInt_inj] at h_758
          refine v_iconst hC dX12_tells_45 (v := 2) (by decide) ?_
          exact hR _ _ _ _ _ _ _ dX12_tells_46 rfl (Nat.le_of_ble_eq_true rfl) (Nat.le_of_ble_eq_true rfl) ⟨rfl, rfl⟩
  refine v_pick [0, 1, 2, 3, 4] rfl ?_
  exact lp_699 7 0 (by decide) 0 (by decide)
set_option maxRecDepth 100000 in
set_option maxHeartbeats 4000000 in
theorem p_X12_turnedOf {l : Launch} {E : Ez} {L : List Nat} {f : Nat → va_E} {T : Nat → va_E → Prop} {a_0 : Nat} {a_1 : Int32} {q : Nat → Nat} {g_w : Nat → Int32} (hW : WT T L f) (k_0 : isM T L E a_0 q) (g_1 : (0 ≤ a_1.toInt)) (e_w : f (q 1) = aI E 2076 g_w) (o_w : WOK g_w) (hpt : 1 ≤ (g_w 0).toInt) : CI l yX12_turnedOf cX12_turnedOf 2 .int 2 0 0 E [.ref a_0, .int a_1] L f (fun r L1 f1 => L = L1 ∧ f = f1 ∧ ((-2) ≤ r.toInt ∧ r.toInt ≤ 11)) := by
  refine ci_of (by decide) (Nat.le_of_ble_eq_true rfl) (fun z hz hnm hC hR => ?_)
  have hC : Cx z E cX12_turnedOf RX12 2 2 0 0 := hC
  subst hz
  show V z E 2 0 0 L f 0 [(0, .ref a_0), (1, .int a_1)] []
  obtain ⟨m_1, t_2, k_3, k_4, k_5, k_6, k_7, k_8, k_9, k_10, k_11, k_12, k_13, k_14, k_15, k_16, k_17, k_18, k_19, k_20⟩ := id k_0
  obtain ⟨m_21, t_22⟩ := id k_3
  have b_23 := o_w.r0
  have b_24 := o_w.w0
  refine v_aload_n hC dX12_turnedOf_0 rfl ?_
  refine v_iload_n hC dX12_turnedOf_1 rfl ?_
  obtain ⟨v_26, v_27, v_29, v_31, v_33, v_35, v_37, v_38, v_39, v_40, v_42, e_25, b_28, b_30, b_32, b_34, b_36, b_41, b_43⟩ := hW.at m_1 t_2
  refine v_vi hC (rest := []) m_1 e_25 rfl mi_X12_sortOf ms_X12_sortOf (p_X12_sortOf hW k_0 (by first | omega | (simp only [Int32.lt_iff_toInt_lt, Int32.le_iff_toInt_le, Int32.reduceToInt, ← Int32.toInt_inj, true_and, and_true, or_true, true_or, false_or, or_false, false_and, and_false, not_true_eq_false, not_false_eq_true] <;> omega)) e_w o_w (by first | omega | (simp only [Int32.lt_iff_toInt_lt, Int32.le_iff_toInt_le, Int32.reduceToInt, ← Int32.toInt_inj, true_and, and_true, or_true, true_or, false_or, or_false, false_and, and_false, not_true_eq_false, not_false_eq_true] <;> omega))) mx_X12_sortOf ml_X12_98 (by decide) rfl (cells1 := 0) (slots1 := 0) (by decide) (by decide) (Nat.le_of_ble_eq_true rfl) (Nat.le_of_ble_eq_true rfl) rfl (Nat.le_of_ble_eq_true rfl) dX12_turnedOf_2 (fun r_44 L_45 f_46 h_47 => ?_)
  obtain ⟨rfl, rfl, b_48⟩ := h_47
  refine v_iconst hC dX12_turnedOf_5 (v := 1) (by decide) ?_
  obtain ⟨v_51, h_52⟩ : ∃ v9 : Int32, r_44 - 1 = v9 := ⟨_, rfl⟩
  refine v_isub hC dX12_turnedOf_6 h_52 ?_
  have h_53 := sub_v h_52 (by first | omega | (simp only [Int32.lt_iff_toInt_lt, Int32.le_iff_toInt_le, Int32.reduceToInt, ← Int32.toInt_inj, true_and, and_true, or_true, true_or, false_or, or_false, false_and, and_false, not_true_eq_false, not_false_eq_true] <;> omega)) (by first | omega | (simp only [Int32.lt_iff_toInt_lt, Int32.le_iff_toInt_le, Int32.reduceToInt, ← Int32.toInt_inj, true_and, and_true, or_true, true_or, false_or, or_false, false_and, and_false, not_true_eq_false, not_false_eq_true] <;> omega))
  try simp only [Int32.reduceToInt] at h_53
  exact hR _ _ _ _ _ _ _ dX12_turnedOf_7 rfl (Nat.le_of_ble_eq_true rfl) (Nat.le_of_ble_eq_true rfl) ⟨rfl, rfl, (by first | omega | (simp only [Int32.lt_iff_toInt_lt, Int32.le_iff_toInt_le, Int32.reduceToInt, ← Int32.toInt_inj, true_and, and_true, or_true, true_or, false_or, or_false, false_and, and_false, not_true_eq_false, not_false_eq_true] <;> omega))⟩
set_option maxRecDepth 100000 in
set_option maxHeartbeats 4000000 in
theorem p_X12_turnOver {l : Launch} {E : Ez} {L : List Nat} {f : Nat → va_E} {T : Nat → va_E → Prop} {a_0 : Nat} {a_1 : Int32} {q : Nat → Nat} {g_w : Nat → Int32} (hW : WT T L f) (k_0 : isM T L E a_0 q) (g_1 : (0 ≤ a_1.toInt ∧ a_1.toInt ≤ 255)) (e_w : f (q 1) = aI E 2076 g_w) (o_w : WOK g_w) (hpt : 1 ≤ (g_w 0).toInt) : CI l yX12_turnOver cX12_turnOver 2 .int 3 0 0 E [.ref a_0, .int a_1] L f (fun r L1 f1 => L = L1 ∧ f = f1 ∧ ((-2) ≤ r.toInt ∧ r.toInt ≤ 11)) := by
  refine ci_of (by decide) (Nat.le_of_ble_eq_true rfl) (fun z hz hnm hC hR => ?_)
  have hC : Cx z E cX12_turnOver RX12 2 3 0 0 := hC
  subst hz
  show V z E 2 0 0 L f 0 [(0, .ref a_0), (1, .int a_1)] []
  obtain ⟨m_1, t_2, k_3, k_4, k_5, k_6, k_7, k_8, k_9, k_10, k_11, k_12, k_13, k_14, k_15, k_16, k_17, k_18, k_19, k_20⟩ := id k_0
  obtain ⟨m_21, t_22⟩ := id k_3
  have b_23 := o_w.r0
  have b_24 := o_w.w0
  refine v_aload_n hC dX12_turnOver_0 rfl ?_
  obtain ⟨v_26, v_27, v_29, v_31, v_33, v_35, v_37, v_38, v_39, v_40, v_42, e_25, b_28, b_30, b_32, b_34, b_36, b_41, b_43⟩ := hW.at m_1 t_2
  refine v_get hC fl_X12_37 m_1 e_25 rfl dX12_turnOver_1 ?_
  refine v_iload_n hC dX12_turnOver_4 rfl ?_
  obtain ⟨m_44, t_45⟩ := id k_9
  obtain ⟨g_47, e_46⟩ := hW.at m_44 t_45
  obtain ⟨v_48, h_49⟩ : ∃ v9 : Int32, g_47 (a_1 : Int32).toNatClampNeg = v9 := ⟨_, rfl⟩
  refine v_iald hC m_44 e_46 (vp_in_iff.mpr (by first | omega | (simp only [Int32.lt_iff_toInt_lt, Int32.le_iff_toInt_le, Int32.reduceToInt, ← Int32.toInt_inj, true_and, and_true, or_true, true_or, false_or, or_false, false_and, and_false, not_true_eq_false, not_false_eq_true] <;> omega))) h_49 dX12_turnOver_5 ?_
  refine v_if_ne hC dX12_turnOver_6 (tgt := 17) (by decide) (fun h_50 => ?_) (fun h_50 => ?_)
  · simp only [Int32.lt_iff_toInt_lt, Int32.le_iff_toInt_le, Int32.reduceToInt, ← Int32.toInt_inj] at h_50
    refine v_iconst hC dX12_turnOver_17 (v := 0) (by decide) ?_
    exact hR _ _ _ _ _ _ _ dX12_turnOver_18 rfl (Nat.le_of_ble_eq_true rfl) (Nat.le_of_ble_eq_true rfl) ⟨rfl, rfl, (by decide)⟩
  · simp only [Int32.lt_iff_toInt_lt, Int32.le_iff_toInt_le, Int32.reduceToInt, ← Int32.toInt_inj] at h_50
    refine v_aload_n hC dX12_turnOver_9 rfl ?_
    refine v_iload_n hC dX12_turnOver_10 rfl ?_
    refine v_vi hC (rest := []) m_1 e_25 rfl mi_X12_turnedOf ms_X12_turnedOf (p_X12_turnedOf hW k_0 (by first | omega | (simp only [Int32.lt_iff_toInt_lt, Int32.le_iff_toInt_le, Int32.reduceToInt, ← Int32.toInt_inj, true_and, and_true, or_true, true_or, false_or, or_false, false_and, and_false, not_true_eq_false, not_false_eq_true] <;> omega)) e_w o_w (by first | omega | (simp only [Int32.lt_iff_toInt_lt, Int32.le_iff_toInt_le, Int32.reduceToInt, ← Int32.toInt_inj, true_and, and_true, or_true, true_or, false_or, or_false, false_and, and_false, not_true_eq_false, not_false_eq_true] <;> omega))) mx_X12_turnedOf ml_X12_314 (by decide) rfl (cells1 := 0) (slots1 := 0) (by decide) (by decide) (Nat.le_of_ble_eq_true rfl) (Nat.le_of_ble_eq_true rfl) rfl (Nat.le_of_ble_eq_true rfl) dX12_turnOver_11 (fun r_51 L_52 f_53 h_54 => ?_)
    obtain ⟨rfl, rfl, b_55⟩ := h_54
    refine v_goto hC dX12_turnOver_14 (tgt := 18) (by decide) ?_
    exact hR _ _ _ _ _ _ _ dX12_turnOver_18 rfl (Nat.le_of_ble_eq_true rfl) (Nat.le_of_ble_eq_true rfl) ⟨rfl, rfl, (by first | omega | (simp only [Int32.lt_iff_toInt_lt, Int32.le_iff_toInt_le, Int32.reduceToInt, ← Int32.toInt_inj, true_and, and_true, or_true, true_or, false_or, or_false, false_and, and_false, not_true_eq_false, not_false_eq_true] <;> omega))⟩
set_option maxRecDepth 100000 in
set_option maxHeartbeats 4000000 in
theorem p_X12_putBit {l : Launch} {E : Ez} {L : List Nat} {f : Nat → va_E} {T : Nat → va_E → Prop} {a_0 : Nat} {a_1 : Int32} {a_2 : Int32} {a_3 : Int32} {q : Nat → Nat} {g_w : Nat → Int32} (hW : WT T L f) (k_0 : isM T L E a_0 q) (g_1 : (0 ≤ a_1.toInt ∧ a_1.toInt ≤ 5)) (g_2 : (0 ≤ a_2.toInt ∧ a_2.toInt ≤ 255)) (e_w : f (q 1) = aI E 2076 g_w) (o_w : WOK g_w) (htold : (wv g_w a_1 0).toInt = 1) (hB : (a_2.toInt * (wv g_w a_1 4).toInt + (wv g_w a_1 4).toInt) * (wv g_w a_1 3).toInt ≤ 256) (hpt : 1 ≤ (g_w 0).toInt) : CI l yX12_putBit cX12_putBit 8 .int 4 0 0 E [.ref a_0, .int a_1, .int a_2, .int a_3] L f (fun r L1 f1 => L = L1 ∧ WT T L f1 ∧ FR [356] f f1) := by
  refine ci_of (by decide) (Nat.le_of_ble_eq_true rfl) (fun z hz hnm hC hR => ?_)
  have hC : Cx z E cX12_putBit RX12 8 4 0 0 := hC
  subst hz
  show V z E 8 0 0 L f 0 [(0, .ref a_0), (1, .int a_1), (2, .int a_2), (3, .int a_3)] []
  obtain ⟨m_1, t_2, k_3, k_4, k_5, k_6, k_7, k_8, k_9, k_10, k_11, k_12, k_13, k_14, k_15, k_16, k_17, k_18, k_19, k_20⟩ := id k_0
  obtain ⟨m_21, t_22⟩ := id k_3
  have b_23 := o_w.r0
  have b_24 := o_w.w0
  obtain ⟨tl_2, tl_3, tl_4⟩ := o_w.told g_1 htold
  refine v_iconst hC dX12_putBit_0 (v := 0) (by decide) ?_
  refine v_istore hC dX12_putBit_1 (by decide) (lv' := [(4, .int 0), (0, .ref a_0), (1, .int a_1), (2, .int a_2), (3, .int a_3)]) rfl ?_
  refine v_iload_n hC dX12_putBit_3 rfl ?_
  refine v_aload_n hC dX12_putBit_4 rfl ?_
  refine v_iload_n hC dX12_putBit_5 rfl ?_
  refine v_iconst hC dX12_putBit_6 (v := 4) (by decide) ?_
  obtain ⟨v_26, v_27, v_29, v_31, v_33, v_35, v_37, v_38, v_39, v_40, v_42, e_25, b_28, b_30, b_32, b_34, b_36, b_41, b_43⟩ := hW.at m_1 t_2
  refine v_vi hC (rest := [.int a_2]) m_1 e_25 rfl mi_X12_ofWay ms_X12_ofWay (p_X12_ofWay hW k_0 (by first | omega | (simp only [Int32.lt_iff_toInt_lt, Int32.le_iff_toInt_le, Int32.reduceToInt, ← Int32.toInt_inj, true_and, and_true, or_true, true_or, false_or, or_false, false_and, and_false, not_true_eq_false, not_false_eq_true] <;> omega)) (by decide) e_w o_w) mx_X12_ofWay ml_X12_94 (by decide) rfl (cells1 := 0) (slots1 := 0) (by decide) (by decide) (Nat.le_of_ble_eq_true rfl) (Nat.le_of_ble_eq_true rfl) rfl (Nat.le_of_ble_eq_true rfl) dX12_putBit_7 (fun r_44 L_45 f_46 h_47 => ?_)
  obtain ⟨rfl, rfl, rfl⟩ := h_47
  obtain ⟨v_50, h_51⟩ : ∃ v9 : Int32, a_2 * (wv g_w a_1 4) = v9 := ⟨_, rfl⟩
  refine v_imul hC dX12_putBit_10 h_51 ?_
  have h_52 := mul_v 255 5 1275 h_51 (by first | omega | (simp only [Int32.lt_iff_toInt_lt, Int32.le_iff_toInt_le, Int32.reduceToInt, ← Int32.toInt_inj, true_and, and_true, or_true, true_or, false_or, or_false, false_and, and_false, not_true_eq_false, not_false_eq_true] <;> omega)) (by first | omega | (simp only [Int32.lt_iff_toInt_lt, Int32.le_iff_toInt_le, Int32.reduceToInt, ← Int32.toInt_inj, true_and, and_true, or_true, true_or, false_or, or_false, false_and, and_false, not_true_eq_false, not_false_eq_true] <;> omega)) (by decide) (by decide)
  refine v_istore hC dX12_putBit_11 (by decide) (lv' := [(5, .int v_50), (4, .int 0), (0, .ref a_0), (1, .int a_1), (2, .int a_2), (3, .int a_3)]) rfl ?_
  have lp_8430 : ∀ (n_8431 : Nat) (f_8424 : Nat → va_E) (hW_8425 : WT T L f_8424) (hF_8426 : FR [356] f f_8424) (i_8422 : Int32) (b_8429 : (0 ≤ i_8422.toInt ∧ i_8422.toInt ≤ 1275)) (i_8423 : Int32) (hm_8433 : 1275 - i_8422.toInt < (n_8431 : Int)), V z E 8 0 0 L f_8424 13 [(5, .int i_8422), (4, .int i_8423), (0, .ref a_0), (1, .int a_1), (2, .int a_2), (3, .int a_3)] [] := by
    intro n_8431
    induction n_8431 with
    | zero =>
      intro f_8424 hW_8425 hF_8426 i_8422 b_8429 i_8423 hm_8433
      have hf_8427 := hF_8426.at e_w rfl
      have hf_8428 := hF_8426.at e_25 rfl
      exfalso; omega
    | succ n_8431 ih_8432 =>
      intro f_8424 hW_8425 hF_8426 i_8422 b_8429 i_8423 hm_8433
      have hf_8427 := hF_8426.at e_w rfl
      have hf_8428 := hF_8426.at e_25 rfl
      refine v_iload hC dX12_putBit_13 rfl ?_
      refine v_iload_n hC dX12_putBit_15 rfl ?_
      refine v_iconst hC dX12_putBit_16 (v := 1) (by decide) ?_
      obtain ⟨v_8434, h_8435⟩ : ∃ v9 : Int32, a_2 + 1 = v9 := ⟨_, rfl⟩
      refine v_iadd hC dX12_putBit_17 h_8435 ?_
      have h_8436 := add_v h_8435 (by first | omega | (simp only [Int32.lt_iff_toInt_lt, Int32.le_iff_toInt_le, Int32.reduceToInt, ← Int32.toInt_inj, true_and, and_true, or_true, true_or, false_or, or_false, false_and, and_false, not_true_eq_false, not_false_eq_true] <;> omega)) (by first | omega | (simp only [Int32.lt_iff_toInt_lt, Int32.le_iff_toInt_le, Int32.reduceToInt, ← Int32.toInt_inj, true_and, and_true, or_true, true_or, false_or, or_false, false_and, and_false, not_true_eq_false, not_false_eq_true] <;> omega))
      try simp only [Int32.reduceToInt] at h_8436
      refine v_aload_n hC dX12_putBit_18 rfl ?_
      refine v_iload_n hC dX12_putBit_19 rfl ?_
      refine v_iconst hC dX12_putBit_20 (v := 4) (by decide) ?_
      refine v_vi hC (rest := [.int v_8434, .int i_8422]) m_1 hf_8428 rfl mi_X12_ofWay ms_X12_ofWay (p_X12_ofWay hW_8425 k_0 (by first | omega | (simp only [Int32.lt_iff_toInt_lt, Int32.le_iff_toInt_le, Int32.reduceToInt, ← Int32.toInt_inj, true_and, and_true, or_true, true_or, false_or, or_false, false_and, and_false, not_true_eq_false, not_false_eq_true] <;> omega)) (by decide) hf_8427 o_w) mx_X12_ofWay ml_X12_94 (by decide) rfl (cells1 := 0) (slots1 := 0) (by decide) (by decide) (Nat.le_of_ble_eq_true rfl) (Nat.le_of_ble_eq_true rfl) rfl (Nat.le_of_ble_eq_true rfl) dX12_putBit_21 (fun r_8437 L_8438 f_8439 h_8440 => ?_)
      obtain ⟨rfl, rfl, rfl⟩ := h_8440
      obtain ⟨v_8443, h_8444⟩ : ∃ v9 : Int32, v_8434 * (wv g_w a_1 4) = v9 := ⟨_, rfl⟩
      refine v_imul hC dX12_putBit_24 h_8444 ?_
      have h_8445 := mul_v 256 5 1280 h_8444 (by first | omega | (simp only [Int32.lt_iff_toInt_lt, Int32.le_iff_toInt_le, Int32.reduceToInt, ← Int32.toInt_inj, true_and, and_true, or_true, true_or, false_or, or_false, false_and, and_false, not_true_eq_false, not_false_eq_true] <;> omega)) (by first | omega | (simp only [Int32.lt_iff_toInt_lt, Int32.le_iff_toInt_le, Int32.reduceToInt, ← Int32.toInt_inj, true_and, and_true, or_true, true_or, false_or, or_false, false_and, and_false, not_true_eq_false, not_false_eq_true] <;> omega)) (by decide) (by decide)
      have h_8446 : 1 ≤ v_8443.toInt := by rw [h_8445.1]; exact Int.mul_le_mul (a := 1) (b := 1) (by first | omega | (simp only [Int32.lt_iff_toInt_lt, Int32.le_iff_toInt_le, Int32.reduceToInt, ← Int32.toInt_inj, true_and, and_true, or_true, true_or, false_or, or_false, false_and, and_false, not_true_eq_false, not_false_eq_true] <;> omega)) (by first | omega | (simp only [Int32.lt_iff_toInt_lt, Int32.le_iff_toInt_le, Int32.reduceToInt, ← Int32.toInt_inj, true_and, and_true, or_true, true_or, false_or, or_false, false_and, and_false, not_true_eq_false, not_false_eq_true] <;> omega)) (by decide) (by first | omega | (simp only [Int32.lt_iff_toInt_lt, Int32.le_iff_toInt_le, Int32.reduceToInt, ← Int32.toInt_inj, true_and, and_true, or_true, true_or, false_or, or_false, false_and, and_false, not_true_eq_false, not_false_eq_true] <;> omega))
      have pe_8447 : v_8443.toInt = a_2.toInt * (wv g_w a_1 4).toInt + (wv g_w a_1 4).toInt := by rw [h_8445.1, h_8436, Int.add_mul, Int.one_mul]
      refine v_icmp_ge hC dX12_putBit_25 (tgt := 141) (by decide) (fun h_8448 => ?_) (fun h_8448 => ?_)
      · simp only [Int32.lt_iff_toInt_lt, Int32.le_iff_toInt_le, Int32.reduceToInt, ← Int32.toInt_inj] at h_8448
        refine v_iload hC dX12_putBit_141 rfl ?_
        exact hR _ _ _ _ _ _ _ dX12_putBit_143 rfl (Nat.le_of_ble_eq_true rfl) (Nat.le_of_ble_eq_true rfl) ⟨rfl, hW_8425, (hF_8426.mono rfl)⟩
      · simp only [Int32.lt_iff_toInt_lt, Int32.le_iff_toInt_le, Int32.reduceToInt, ← Int32.toInt_inj] at h_8448
        have tp_8449 := tl_pre (G := i_8422.toInt) (X := a_2.toInt * (wv g_w a_1 4).toInt + (wv g_w a_1 4).toInt) (gr := (wv g_w a_1 3).toInt) (by omega) hB (by omega)
        refine v_aload_n hC dX12_putBit_28 rfl ?_
        refine v_iload_n hC dX12_putBit_29 rfl ?_
        refine v_iload hC dX12_putBit_30 rfl ?_
        refine v_vi hC (rest := []) m_1 hf_8428 rfl mi_X12_tells ms_X12_tells (p_X12_tells hW_8425 k_0 (by first | omega | (simp only [Int32.lt_iff_toInt_lt, Int32.le_iff_toInt_le, Int32.reduceToInt, ← Int32.toInt_inj, true_and, and_true, or_true, true_or, false_or, or_false, false_and, and_false, not_true_eq_false, not_false_eq_true] <;> omega)) (by first | omega | (simp only [Int32.lt_iff_toInt_lt, Int32.le_iff_toInt_le, Int32.reduceToInt, ← Int32.toInt_inj, true_and, and_true, or_true, true_or, false_or, or_false, false_and, and_false, not_true_eq_false, not_false_eq_true] <;> omega)) hf_8427 o_w (by first | omega | (simp only [Int32.lt_iff_toInt_lt, Int32.le_iff_toInt_le, Int32.reduceToInt, ← Int32.toInt_inj, true_and, and_true, or_true, true_or, false_or, or_false, false_and, and_false, not_true_eq_false, not_false_eq_true] <;> omega)) (by first | omega | (simp only [Int32.lt_iff_toInt_lt, Int32.le_iff_toInt_le, Int32.reduceToInt, ← Int32.toInt_inj, true_and, and_true, or_true, true_or, false_or, or_false, false_and, and_false, not_true_eq_false, not_false_eq_true] <;> omega))) mx_X12_tells ml_X12_341 (by decide) rfl (cells1 := 0) (slots1 := 0) (by decide) (by decide) (Nat.le_of_ble_eq_true rfl) (Nat.le_of_ble_eq_true rfl) rfl (Nat.le_of_ble_eq_true rfl) dX12_putBit_32 (fun r_8450 L_8451 f_8452 h_8453 => ?_)
        obtain ⟨rfl, rfl⟩ := h_8453
        refine v_iload_n hC dX12_putBit_35 rfl ?_
        refine v_icmp_ne hC dX12_putBit_36 (tgt := 42) (by decide) (fun h_8456 => ?_) (fun h_8456 => ?_)
        · simp only [Int32.lt_iff_toInt_lt, Int32.le_iff_toInt_le, Int32.reduceToInt, ← Int32.toInt_inj] at h_8456
          refine v_iconst hC dX12_putBit_42 (v := (-1)) (by decide) ?_
          refine v_istore hC dX12_putBit_43 (by decide) (lv' := [(6, .int (-1)), (5, .int i_8422), (4, .int i_8423), (0, .ref a_0), (1, .int a_1), (2, .int a_2), (3, .int a_3)]) rfl ?_
          refine v_iconst hC dX12_putBit_45 (v := 0) (by decide) ?_
          refine v_istore hC dX12_putBit_46 (by decide) (lv' := [(7, .int 0), (6, .int (-1)), (5, .int i_8422), (4, .int i_8423), (0, .ref a_0), (1, .int a_1), (2, .int a_2), (3, .int a_3)]) rfl ?_
          have lp_9122 : ∀ (n_9123 : Nat) (i_9118 : Int32) (b_9120 : (0 ≤ i_9118.toInt ∧ i_9118.toInt ≤ 5)) (i_9119 : Int32) (b_9121 : ((-1) ≤ i_9119.toInt ∧ i_9119.toInt ≤ 255)) (hm_9125 : 5 - i_9118.toInt < (n_9123 : Int)), V z E 8 0 0 L f_8424 48 [(7, .int i_9118), (6, .int i_9119), (5, .int i_8422), (4, .int i_8423), (0, .ref a_0), (1, .int a_1), (2, .int a_2), (3, .int a_3)] [] := by
            intro n_9123
            induction n_9123 with
            | zero =>
              intro i_9118 b_9120 i_9119 b_9121 hm_9125
              exfalso; omega
            | succ n_9123 ih_9124 =>
              intro i_9118 b_9120 i_9119 b_9121 hm_9125
              refine v_iload hC dX12_putBit_48 rfl ?_
              refine v_aload_n hC dX12_putBit_50 rfl ?_
              refine v_iload_n hC dX12_putBit_51 rfl ?_
              refine v_iconst hC dX12_putBit_52 (v := 3) (by decide) ?_
              refine v_vi hC (rest := [.int i_9118]) m_1 hf_8428 rfl mi_X12_ofWay ms_X12_ofWay (p_X12_ofWay hW_8425 k_0 (by first | omega | (simp only [Int32.lt_iff_toInt_lt, Int32.le_iff_toInt_le, Int32.reduceToInt, ← Int32.toInt_inj, true_and, and_true, or_true, true_or, false_or, or_false, false_and, and_false, not_true_eq_false, not_false_eq_true] <;> omega)) (by decide) hf_8427 o_w) mx_X12_ofWay ml_X12_94 (by decide) rfl (cells1 := 0) (slots1 := 0) (by decide) (by decide) (Nat.le_of_ble_eq_true rfl) (Nat.le_of_ble_eq_true rfl) rfl (Nat.le_of_ble_eq_true rfl) dX12_putBit_53 (fun r_9126 L_9127 f_9128 h_9129 => ?_)
              obtain ⟨rfl, rfl, rfl⟩ := h_9129
              refine v_icmp_ge hC dX12_putBit_56 (tgt := 110) (by decide) (fun h_9132 => ?_) (fun h_9132 => ?_)
              · simp only [Int32.lt_iff_toInt_lt, Int32.le_iff_toInt_le, Int32.reduceToInt, ← Int32.toInt_inj] at h_9132
                refine v_iload hC dX12_putBit_110 rfl ?_
                refine v_iconst hC dX12_putBit_112 (v := (-1)) (by decide) ?_
                refine v_icmp_ne hC dX12_putBit_113 (tgt := 119) (by decide) (fun h_9181 => ?_) (fun h_9181 => ?_)
                · simp only [Int32.lt_iff_toInt_lt, Int32.le_iff_toInt_le, Int32.reduceToInt, ← Int32.toInt_inj] at h_9181
                  refine v_aload_n hC dX12_putBit_119 rfl ?_
                  refine v_get hC fl_X12_37 m_1 hf_8428 rfl dX12_putBit_120 ?_
                  refine v_iload hC dX12_putBit_123 rfl ?_
                  refine v_aload_n hC dX12_putBit_125 rfl ?_
                  refine v_iload hC dX12_putBit_126 rfl ?_
                  refine v_vi hC (rest := [.int i_9119, .ref (q 15)]) m_1 hf_8428 rfl mi_X12_turnOver ms_X12_turnOver (p_X12_turnOver hW_8425 k_0 (by first | omega | (simp only [Int32.lt_iff_toInt_lt, Int32.le_iff_toInt_le, Int32.reduceToInt, ← Int32.toInt_inj, true_and, and_true, or_true, true_or, false_or, or_false, false_and, and_false, not_true_eq_false, not_false_eq_true] <;> omega)) hf_8427 o_w (by first | omega | (simp only [Int32.lt_iff_toInt_lt, Int32.le_iff_toInt_le, Int32.reduceToInt, ← Int32.toInt_inj, true_and, and_true, or_true, true_or, false_or, or_false, false_and, and_false, not_true_eq_false, not_false_eq_true] <;> omega))) mx_X12_turnOver ml_X12_344 (by decide) rfl (cells1 := 0) (slots1 := 0) (by decide) (by decide) (Nat.le_of_ble_eq_true rfl) (Nat.le_of_ble_eq_true rfl) rfl (Nat.le_of_ble_eq_true rfl) dX12_putBit_128 (fun r_9182 L_9183 f_9184 h_9185 => ?_)
                  obtain ⟨rfl, rfl, b_9186⟩ := h_9185
                  obtain ⟨m_9189, t_9190⟩ := id k_9
                  obtain ⟨g_9192, e_9191⟩ := hW_8425.at m_9189 t_9190
                  refine v_iast hC m_9189 e_9191 (vp_in_iff.mpr (by first | omega | (simp only [Int32.lt_iff_toInt_lt, Int32.le_iff_toInt_le, Int32.reduceToInt, ← Int32.toInt_inj, true_and, and_true, or_true, true_or, false_or, or_false, false_and, and_false, not_true_eq_false, not_false_eq_true] <;> omega))) dX12_putBit_131 (fun f_9193 hf_9194 hk_9195 => ?_)
                  have hW_9197 := hW_8425.up hf_9194 hk_9195 t_9190 ⟨_, rfl⟩
                  obtain ⟨g_9196, hf_9194⟩ : ∃ g9, f_9193 (q 15) = aI E 256 g9 := ⟨_, hf_9194⟩
                  have hf_9198 := (hk_9195 (q 1) (ne_kd hf_8427 e_9191 rfl)).trans hf_8427
                  have hf_9199 := (hk_9195 a_0 (ne_kd hf_8428 e_9191 rfl)).trans hf_8428
                  have fr_9200 := FR.w hk_9195 e_9191 (k := 356) rfl
                  obtain ⟨v_9201, h_9202⟩ : ∃ v9 : Int32, i_8423 + Int32.ofInt 1 = v9 := ⟨_, rfl⟩
                  refine v_iinc hC dX12_putBit_132 (k := 3) rfl (v := v_9201) h_9202 (by decide) (lv' := [(4, .int v_9201), (7, .int i_9118), (6, .int i_9119), (5, .int i_8422), (0, .ref a_0), (1, .int a_1), (2, .int a_2), (3, .int a_3)]) rfl ?_
                  obtain ⟨v_9203, h_9204⟩ : ∃ v9 : Int32, i_8422 + Int32.ofInt 1 = v9 := ⟨_, rfl⟩
                  have h_9205 := add_v (b := 1) h_9204 (by first | omega | (simp only [Int32.lt_iff_toInt_lt, Int32.le_iff_toInt_le, Int32.reduceToInt, ← Int32.toInt_inj, true_and, and_true, or_true, true_or, false_or, or_false, false_and, and_false, not_true_eq_false, not_false_eq_true] <;> omega)) (by first | omega | (simp only [Int32.lt_iff_toInt_lt, Int32.le_iff_toInt_le, Int32.reduceToInt, ← Int32.toInt_inj, true_and, and_true, or_true, true_or, false_or, or_false, false_and, and_false, not_true_eq_false, not_false_eq_true] <;> omega))
                  simp only [Int32.reduceToInt] at h_9205
                  refine v_iinc hC dX12_putBit_135 (k := 3) rfl (v := v_9203) h_9204 (by decide) (lv' := [(5, .int v_9203), (4, .int v_9201), (7, .int i_9118), (6, .int i_9119), (0, .ref a_0), (1, .int a_1), (2, .int a_2), (3, .int a_3)]) rfl ?_
                  refine v_goto hC dX12_putBit_138 (tgt := 13) (by decide) ?_
                  refine v_pick [0, 1, 4, 5, 6, 7] rfl ?_
                  exact ih_8432 f_9193 hW_9197 ((hF_8426.tr fr_9200).mono rfl) v_9203 (by first | omega | (simp only [Int32.lt_iff_toInt_lt, Int32.le_iff_toInt_le, Int32.reduceToInt, ← Int32.toInt_inj, true_and, and_true, or_true, true_or, false_or, or_false, false_and, and_false, not_true_eq_false, not_false_eq_true] <;> omega)) v_9201 (by first | omega | (simp only [Int32.lt_iff_toInt_lt, Int32.le_iff_toInt_le, Int32.reduceToInt, ← Int32.toInt_inj, true_and, and_true, or_true, true_or, false_or, or_false, false_and, and_false, not_true_eq_false, not_false_eq_true] <;> omega))
                · simp only [Int32.lt_iff_toInt_lt, Int32.le_iff_toInt_le, Int32.reduceToInt, ← Int32.toInt_inj] at h_9181
                  refine v_goto hC dX12_putBit_116 (tgt := 135) (by decide) ?_
                  obtain ⟨v_9206, h_9207⟩ : ∃ v9 : Int32, i_8422 + Int32.ofInt 1 = v9 := ⟨_, rfl⟩
                  have h_9208 := add_v (b := 1) h_9207 (by first | omega | (simp only [Int32.lt_iff_toInt_lt, Int32.le_iff_toInt_le, Int32.reduceToInt, ← Int32.toInt_inj, true_and, and_true, or_true, true_or, false_or, or_false, false_and, and_false, not_true_eq_false, not_false_eq_true] <;> omega)) (by first | omega | (simp only [Int32.lt_iff_toInt_lt, Int32.le_iff_toInt_le, Int32.reduceToInt, ← Int32.toInt_inj, true_and, and_true, or_true, true_or, false_or, or_false, false_and, and_false, not_true_eq_false, not_false_eq_true] <;> omega))
                  simp only [Int32.reduceToInt] at h_9208
                  refine v_iinc hC dX12_putBit_135 (k := 2) rfl (v := v_9206) h_9207 (by decide) (lv' := [(5, .int v_9206), (7, .int i_9118), (6, .int i_9119), (4, .int i_8423), (0, .ref a_0), (1, .int a_1), (2, .int a_2), (3, .int a_3)]) rfl ?_
                  refine v_goto hC dX12_putBit_138 (tgt := 13) (by decide) ?_
                  refine v_pick [0, 3, 4, 5, 6, 7] rfl ?_
                  exact ih_8432 f_8424 hW_8425 (hF_8426.mono rfl) v_9206 (by first | omega | (simp only [Int32.lt_iff_toInt_lt, Int32.le_iff_toInt_le, Int32.reduceToInt, ← Int32.toInt_inj, true_and, and_true, or_true, true_or, false_or, or_false, false_and, and_false, not_true_eq_false, not_false_eq_true] <;> omega)) i_8423 (by first | omega | (simp only [Int32.lt_iff_toInt_lt, Int32.le_iff_toInt_le, Int32.reduceToInt, ← Int32.toInt_inj, true_and, and_true, or_true, true_or, false_or, or_false, false_and, and_false, not_true_eq_false, not_false_eq_true] <;> omega))
              · simp only [Int32.lt_iff_toInt_lt, Int32.le_iff_toInt_le, Int32.reduceToInt, ← Int32.toInt_inj] at h_9132
                refine v_aload_n hC dX12_putBit_59 rfl ?_
                refine v_get hC fl_X12_37 m_1 hf_8428 rfl dX12_putBit_60 ?_
                refine v_aload_n hC dX12_putBit_63 rfl ?_
                refine v_get hC fl_X12_40 m_1 hf_8428 rfl dX12_putBit_64 ?_
                refine v_iload hC dX12_putBit_67 rfl ?_
                refine v_aload_n hC dX12_putBit_69 rfl ?_
                refine v_iload_n hC dX12_putBit_70 rfl ?_
                refine v_iconst hC dX12_putBit_71 (v := 3) (by decide) ?_
                refine v_vi hC (rest := [.int i_8422, .ref (q 16), .ref (q 15)]) m_1 hf_8428 rfl mi_X12_ofWay ms_X12_ofWay (p_X12_ofWay hW_8425 k_0 (by first | omega | (simp only [Int32.lt_iff_toInt_lt, Int32.le_iff_toInt_le, Int32.reduceToInt, ← Int32.toInt_inj, true_and, and_true, or_true, true_or, false_or, or_false, false_and, and_false, not_true_eq_false, not_false_eq_true] <;> omega)) (by decide) hf_8427 o_w) mx_X12_ofWay ml_X12_94 (by decide) rfl (cells1 := 0) (slots1 := 0) (by decide) (by decide) (Nat.le_of_ble_eq_true rfl) (Nat.le_of_ble_eq_true rfl) rfl (Nat.le_of_ble_eq_true rfl) dX12_putBit_72 (fun r_9209 L_9210 f_9211 h_9212 => ?_)
                obtain ⟨rfl, rfl, rfl⟩ := h_9212
                obtain ⟨v_9215, h_9216⟩ : ∃ v9 : Int32, i_8422 * (wv g_w a_1 3) = v9 := ⟨_, rfl⟩
                refine v_imul hC dX12_putBit_75 h_9216 ?_
                have h_9217 := mul_v 255 5 1275 h_9216 (by first | omega | (simp only [Int32.lt_iff_toInt_lt, Int32.le_iff_toInt_le, Int32.reduceToInt, ← Int32.toInt_inj, true_and, and_true, or_true, true_or, false_or, or_false, false_and, and_false, not_true_eq_false, not_false_eq_true] <;> omega)) (by first | omega | (simp only [Int32.lt_iff_toInt_lt, Int32.le_iff_toInt_le, Int32.reduceToInt, ← Int32.toInt_inj, true_and, and_true, or_true, true_or, false_or, or_false, false_and, and_false, not_true_eq_false, not_false_eq_true] <;> omega)) (by decide) (by decide)
                refine v_iload hC dX12_putBit_76 rfl ?_
                obtain ⟨v_9218, h_9219⟩ : ∃ v9 : Int32, v_9215 + i_9118 = v9 := ⟨_, rfl⟩
                refine v_iadd hC dX12_putBit_78 h_9219 ?_
                have h_9220 := add_v h_9219 (by first | omega | (simp only [Int32.lt_iff_toInt_lt, Int32.le_iff_toInt_le, Int32.reduceToInt, ← Int32.toInt_inj, true_and, and_true, or_true, true_or, false_or, or_false, false_and, and_false, not_true_eq_false, not_false_eq_true] <;> omega)) (by first | omega | (simp only [Int32.lt_iff_toInt_lt, Int32.le_iff_toInt_le, Int32.reduceToInt, ← Int32.toInt_inj, true_and, and_true, or_true, true_or, false_or, or_false, false_and, and_false, not_true_eq_false, not_false_eq_true] <;> omega))
                obtain ⟨m_9221, t_9222⟩ := id k_10
                obtain ⟨g_9224, e_9223, ok_9225⟩ := hW_8425.at m_9221 t_9222
                obtain ⟨v_9226, h_9227⟩ : ∃ v9 : Int32, g_9224 (v_9218 : Int32).toNatClampNeg = v9 := ⟨_, rfl⟩
                have b_9228 := ok_9225 (v_9218 : Int32).toNatClampNeg
                rw [h_9227] at b_9228
                refine v_iald hC m_9221 e_9223 (vp_in_iff.mpr (by first | omega | (simp only [Int32.lt_iff_toInt_lt, Int32.le_iff_toInt_le, Int32.reduceToInt, ← Int32.toInt_inj, true_and, and_true, or_true, true_or, false_or, or_false, false_and, and_false, not_true_eq_false, not_false_eq_true] <;> omega))) h_9227 dX12_putBit_79 ?_
                obtain ⟨m_9229, t_9230⟩ := id k_9
                obtain ⟨g_9232, e_9231⟩ := hW_8425.at m_9229 t_9230
                obtain ⟨v_9233, h_9234⟩ : ∃ v9 : Int32, g_9232 (v_9226 : Int32).toNatClampNeg = v9 := ⟨_, rfl⟩
                refine v_iald hC m_9229 e_9231 (vp_in_iff.mpr (by first | omega | (simp only [Int32.lt_iff_toInt_lt, Int32.le_iff_toInt_le, Int32.reduceToInt, ← Int32.toInt_inj, true_and, and_true, or_true, true_or, false_or, or_false, false_and, and_false, not_true_eq_false, not_false_eq_true] <;> omega))) h_9234 dX12_putBit_80 ?_
                refine v_iconst hC dX12_putBit_81 (v := 4) (by decide) ?_
                refine v_icmp_eq hC dX12_putBit_82 (tgt := 104) (by decide) (fun h_9235 => ?_) (fun h_9235 => ?_)
                · simp only [Int32.lt_iff_toInt_lt, Int32.le_iff_toInt_le, Int32.reduceToInt, ← Int32.toInt_inj] at h_9235
                  obtain ⟨v_9236, h_9237⟩ : ∃ v9 : Int32, i_9118 + Int32.ofInt 1 = v9 := ⟨_, rfl⟩
                  have h_9238 := add_v (b := 1) h_9237 (by first | omega | (simp only [Int32.lt_iff_toInt_lt, Int32.le_iff_toInt_le, Int32.reduceToInt, ← Int32.toInt_inj, true_and, and_true, or_true, true_or, false_or, or_false, false_and, and_false, not_true_eq_false, not_false_eq_true] <;> omega)) (by first | omega | (simp only [Int32.lt_iff_toInt_lt, Int32.le_iff_toInt_le, Int32.reduceToInt, ← Int32.toInt_inj, true_and, and_true, or_true, true_or, false_or, or_false, false_and, and_false, not_true_eq_false, not_false_eq_true] <;> omega))
                  simp only [Int32.reduceToInt] at h_9238
                  refine v_iinc hC dX12_putBit_104 (k := 0) rfl (v := v_9236) h_9237 (by decide) (lv' := [(7, .int v_9236), (6, .int i_9119), (5, .int i_8422), (4, .int i_8423), (0, .ref a_0), (1, .int a_1), (2, .int a_2), (3, .int a_3)]) rfl ?_
                  refine v_goto hC dX12_putBit_107 (tgt := 48) (by decide) ?_
                  refine v_pick [0, 1, 2, 3, 4, 5, 6, 7] rfl ?_
                  exact ih_9124 v_9236 (by first | omega | (simp only [Int32.lt_iff_toInt_lt, Int32.le_iff_toInt_le, Int32.reduceToInt, ← Int32.toInt_inj, true_and, and_true, or_true, true_or, false_or, or_false, false_and, and_false, not_true_eq_false, not_false_eq_true] <;> omega)) i_9119 (by first | omega | (simp only [Int32.lt_iff_toInt_lt, Int32.le_iff_toInt_le, Int32.reduceToInt, ← Int32.toInt_inj, true_and, and_true, or_true, true_or, false_or, or_false, false_and, and_false, not_true_eq_false, not_false_eq_true] <;> omega)) (by first | omega | (simp only [Int32.lt_iff_toInt_lt, Int32.le_iff_toInt_le, Int32.reduceToInt, ← Int32.toInt_inj, true_and, and_true, or_true, true_or, false_or, or_false, false_and, and_false, not_true_eq_false, not_false_eq_true] <;> omega))
                · simp only [Int32.lt_iff_toInt_lt, Int32.le_iff_toInt_le, Int32.reduceToInt, ← Int32.toInt_inj] at h_9235
                  refine v_aload_n hC dX12_putBit_85 rfl ?_
                  refine v_get hC fl_X12_40 m_1 hf_8428 rfl dX12_putBit_86 ?_
                  refine v_iload hC dX12_putBit_89 rfl ?_
                  refine v_aload_n hC dX12_putBit_91 rfl ?_
                  refine v_iload_n hC dX12_putBit_92 rfl ?_
                  refine v_iconst hC dX12_putBit_93 (v := 3) (by decide) ?_
                  refine v_vi hC (rest := [.int i_8422, .ref (q 16)]) m_1 hf_8428 rfl mi_X12_ofWay ms_X12_ofWay (p_X12_ofWay hW_8425 k_0 (by first | omega | (simp only [Int32.lt_iff_toInt_lt, Int32.le_iff_toInt_le, Int32.reduceToInt, ← Int32.toInt_inj, true_and, and_true, or_true, true_or, false_or, or_false, false_and, and_false, not_true_eq_false, not_false_eq_true] <;> omega)) (by decide) hf_8427 o_w) mx_X12_ofWay ml_X12_94 (by decide) rfl (cells1 := 0) (slots1 := 0) (by decide) (by decide) (Nat.le_of_ble_eq_true rfl) (Nat.le_of_ble_eq_true rfl) rfl (Nat.le_of_ble_eq_true rfl) dX12_putBit_94 (fun r_9239 L_9240 f_9241 h_9242 => ?_)
                  obtain ⟨rfl, rfl, rfl⟩ := h_9242
                  obtain ⟨v_9245, h_9246⟩ : ∃ v9 : Int32, i_8422 * (wv g_w a_1 3) = v9 := ⟨_, rfl⟩
                  refine v_imul hC dX12_putBit_97 h_9246 ?_
                  have h_9247 := mul_v 255 5 1275 h_9246 (by first | omega | (simp only [Int32.lt_iff_toInt_lt, Int32.le_iff_toInt_le, Int32.reduceToInt, ← Int32.toInt_inj, true_and, and_true, or_true, true_or, false_or, or_false, false_and, and_false, not_true_eq_false, not_false_eq_true] <;> omega)) (by first | omega | (simp only [Int32.lt_iff_toInt_lt, Int32.le_iff_toInt_le, Int32.reduceToInt, ← Int32.toInt_inj, true_and, and_true, or_true, true_or, false_or, or_false, false_and, and_false, not_true_eq_false, not_false_eq_true] <;> omega)) (by decide) (by decide)
                  refine v_iload hC dX12_putBit_98 rfl ?_
                  obtain ⟨v_9248, h_9249⟩ : ∃ v9 : Int32, v_9245 + i_9118 = v9 := ⟨_, rfl⟩
                  refine v_iadd hC dX12_putBit_100 h_9249 ?_
                  have h_9250 := add_v h_9249 (by first | omega | (simp only [Int32.lt_iff_toInt_lt, Int32.le_iff_toInt_le, Int32.reduceToInt, ← Int32.toInt_inj, true_and, and_true, or_true, true_or, false_or, or_false, false_and, and_false, not_true_eq_false, not_false_eq_true] <;> omega)) (by first | omega | (simp only [Int32.lt_iff_toInt_lt, Int32.le_iff_toInt_le, Int32.reduceToInt, ← Int32.toInt_inj, true_and, and_true, or_true, true_or, false_or, or_false, false_and, and_false, not_true_eq_false, not_false_eq_true] <;> omega))
                  obtain ⟨v_9251, h_9252⟩ : ∃ v9 : Int32, g_9224 (v_9248 : Int32).toNatClampNeg = v9 := ⟨_, rfl⟩
                  have b_9253 := ok_9225 (v_9248 : Int32).toNatClampNeg
                  rw [h_9252] at b_9253
                  refine v_iald hC m_9221 e_9223 (vp_in_iff.mpr (by first | omega | (simp only [Int32.lt_iff_toInt_lt, Int32.le_iff_toInt_le, Int32.reduceToInt, ← Int32.toInt_inj, true_and, and_true, or_true, true_or, false_or, or_false, false_and, and_false, not_true_eq_false, not_false_eq_true] <;> omega))) h_9252 dX12_putBit_101 ?_
                  refine v_istore hC dX12_putBit_102 (by decide) (lv' := [(6, .int v_9251), (7, .int i_9118), (5, .int i_8422), (4, .int i_8423), (0, .ref a_0), (1, .int a_1), (2, .int a_2), (3, .int a_3)]) rfl ?_
                  obtain ⟨v_9254, h_9255⟩ : ∃ v9 : Int32, i_9118 + Int32.ofInt 1 = v9 := ⟨_, rfl⟩
                  have h_9256 := add_v (b := 1) h_9255 (by first | omega | (simp only [Int32.lt_iff_toInt_lt, Int32.le_iff_toInt_le, Int32.reduceToInt, ← Int32.toInt_inj, true_and, and_true, or_true, true_or, false_or, or_false, false_and, and_false, not_true_eq_false, not_false_eq_true] <;> omega)) (by first | omega | (simp only [Int32.lt_iff_toInt_lt, Int32.le_iff_toInt_le, Int32.reduceToInt, ← Int32.toInt_inj, true_and, and_true, or_true, true_or, false_or, or_false, false_and, and_false, not_true_eq_false, not_false_eq_true] <;> omega))
                  simp only [Int32.reduceToInt] at h_9256
                  refine v_iinc hC dX12_putBit_104 (k := 1) rfl (v := v_9254) h_9255 (by decide) (lv' := [(7, .int v_9254), (6, .int v_9251), (5, .int i_8422), (4, .int i_8423), (0, .ref a_0), (1, .int a_1), (2, .int a_2), (3, .int a_3)]) rfl ?_
                  refine v_goto hC dX12_putBit_107 (tgt := 48) (by decide) ?_
                  refine v_pick [0, 1, 2, 3, 4, 5, 6, 7] rfl ?_
                  exact ih_9124 v_9254 (by first | omega | (simp only [Int32.lt_iff_toInt_lt, Int32.le_iff_toInt_le, Int32.reduceToInt, ← Int32.toInt_inj, true_and, and_true, or_true, true_or, false_or, or_false, false_and, and_false, not_true_eq_false, not_false_eq_true] <;> omega)) v_9251 (by first | omega | (simp only [Int32.lt_iff_toInt_lt, Int32.le_iff_toInt_le, Int32.reduceToInt, ← Int32.toInt_inj, true_and, and_true, or_true, true_or, false_or, or_false, false_and, and_false, not_true_eq_false, not_false_eq_true] <;> omega)) (by first | omega | (simp only [Int32.lt_iff_toInt_lt, Int32.le_iff_toInt_le, Int32.reduceToInt, ← Int32.toInt_inj, true_and, and_true, or_true, true_or, false_or, or_false, false_and, and_false, not_true_eq_false, not_false_eq_true] <;> omega))
          refine v_pick [0, 1, 2, 3, 4, 5, 6, 7] rfl ?_
          exact lp_9122 7 0 (by decide) (-1) (by decide) (by decide)
        · simp only [Int32.lt_iff_toInt_lt, Int32.le_iff_toInt_le, Int32.reduceToInt, ← Int32.toInt_inj] at h_8456
          refine v_goto hC dX12_putBit_39 (tgt := 135) (by decide) ?_
          obtain ⟨v_9257, h_9258⟩ : ∃ v9 : Int32, i_8422 + Int32.ofInt 1 = v9 := ⟨_, rfl⟩
          have h_9259 := add_v (b := 1) h_9258 (by first | omega | (simp only [Int32.lt_iff_toInt_lt, Int32.le_iff_toInt_le, Int32.reduceToInt, ← Int32.toInt_inj, true_and, and_true, or_true, true_or, false_or, or_false, false_and, and_false, not_true_eq_false, not_false_eq_true] <;> omega)) (by first | omega | (simp only [Int32.lt_iff_toInt_lt, Int32.le_iff_toInt_le, Int32.reduceToInt, ← Int32.toInt_inj, true_and, and_true, or_true, true_or, false_or, or_false, false_and, and_false, not_true_eq_false, not_false_eq_true] <;> omega))
          simp only [Int32.reduceToInt] at h_9259
          refine v_iinc hC dX12_putBit_135 (k := 0) rfl (v := v_9257) h_9258 (by decide) (lv' := [(5, .int v_9257), (4, .int i_8423), (0, .ref a_0), (1, .int a_1), (2, .int a_2), (3, .int a_3)]) rfl ?_
          refine v_goto hC dX12_putBit_138 (tgt := 13) (by decide) ?_
          refine v_pick [0, 1, 2, 3, 4, 5] rfl ?_
          exact ih_8432 f_8424 hW_8425 (hF_8426.mono rfl) v_9257 (by first | omega | (simp only [Int32.lt_iff_toInt_lt, Int32.le_iff_toInt_le, Int32.reduceToInt, ← Int32.toInt_inj, true_and, and_true, or_true, true_or, false_or, or_false, false_and, and_false, not_true_eq_false, not_false_eq_true] <;> omega)) i_8423 (by first | omega | (simp only [Int32.lt_iff_toInt_lt, Int32.le_iff_toInt_le, Int32.reduceToInt, ← Int32.toInt_inj, true_and, and_true, or_true, true_or, false_or, or_false, false_and, and_false, not_true_eq_false, not_false_eq_true] <;> omega))
  refine v_pick [0, 1, 2, 3, 4, 5] rfl ?_
  exact lp_8430 1277 f hW FR.rf v_50 (by first | omega | (simp only [Int32.lt_iff_toInt_lt, Int32.le_iff_toInt_le, Int32.reduceToInt, ← Int32.toInt_inj, true_and, and_true, or_true, true_or, false_or, or_false, false_and, and_false, not_true_eq_false, not_false_eq_true] <;> omega)) 0 (by first | omega | (simp only [Int32.lt_iff_toInt_lt, Int32.le_iff_toInt_le, Int32.reduceToInt, ← Int32.toInt_inj, true_and, and_true, or_true, true_or, false_or, or_false, false_and, and_false, not_true_eq_false, not_false_eq_true] <;> omega))
set_option maxRecDepth 100000 in
set_option maxHeartbeats 4000000 in
theorem p_X12_puts {l : Launch} {E : Ez} {L : List Nat} {f : Nat → va_E} {T : Nat → va_E → Prop} {a_0 : Nat} {a_1 : Int32} {a_2 : Nat} {a_3 : Int32} {q : Nat → Nat} {g_w : Nat → Int32} (hW : WT T L f) (k_0 : isM T L E a_0 q) (g_1 : (0 ≤ a_1.toInt ∧ a_1.toInt ≤ 5)) (k_2 : isI T L E 600 a_2) (g_3 : (0 ≤ a_3.toInt ∧ a_3.toInt ≤ 50)) (e_w : f (q 1) = aI E 2076 g_w) (o_w : WOK g_w) (htold : (wv g_w a_1 0).toInt = 1) (hP : ∀ i : Int, 0 ≤ i → i < 5 * (a_3.toInt + 1) → (i * (wv g_w a_1 4).toInt + (wv g_w a_1 4).toInt) * (wv g_w a_1 3).toInt ≤ 256) (hpt : 1 ≤ (g_w 0).toInt) : CI l yX12_puts cX12_puts 7 .int 5 0 0 E [.ref a_0, .int a_1, .ref a_2, .int a_3] L f (fun r L1 f1 => L = L1 ∧ WT T L f1 ∧ FR [356] f f1) := by
  refine ci_of (by decide) (Nat.le_of_ble_eq_true rfl) (fun z hz hnm hC hR => ?_)
  have hC : Cx z E cX12_puts RX12 7 5 0 0 := hC
  subst hz
  show V z E 7 0 0 L f 0 [(0, .ref a_0), (1, .int a_1), (2, .ref a_2), (3, .int a_3)] []
  obtain ⟨m_1, t_2, k_3, k_4, k_5, k_6, k_7, k_8, k_9, k_10, k_11, k_12, k_13, k_14, k_15, k_16, k_17, k_18, k_19, k_20⟩ := id k_0
  obtain ⟨m_21, t_22⟩ := id k_3
  have b_23 := o_w.r0
  have b_24 := o_w.w0
  obtain ⟨tl_2, tl_3, tl_4⟩ := o_w.told g_1 htold
  refine v_iconst hC dX12_puts_0 (v := 0) (by decide) ?_
  refine v_istore hC dX12_puts_1 (by decide) (lv' := [(4, .int 0), (0, .ref a_0), (1, .int a_1), (2, .ref a_2), (3, .int a_3)]) rfl ?_
  refine v_iconst hC dX12_puts_3 (v := 0) (by decide) ?_
  refine v_istore hC dX12_puts_4 (by decide) (lv' := [(5, .int 0), (4, .int 0), (0, .ref a_0), (1, .int a_1), (2, .ref a_2), (3, .int a_3)]) rfl ?_
  have lp_623 : ∀ (n_624 : Nat) (f_618 : Nat → va_E) (hW_619 : WT T L f_618) (hF_620 : FR [356] f f_618) (i_616 : Int32) (b_622 : (0 ≤ i_616.toInt ∧ i_616.toInt ≤ 255)) (i_617 : Int32) (hm_626 : 255 - i_616.toInt < (n_624 : Int)), V z E 7 0 0 L f_618 6 [(5, .int i_616), (4, .int i_617), (0, .ref a_0), (1, .int a_1), (2, .ref a_2), (3, .int a_3)] [] := by
    intro n_624
    induction n_624 with
    | zero =>
      intro f_618 hW_619 hF_620 i_616 b_622 i_617 hm_626
      have hf_621 := hF_620.at e_w rfl
      exfalso; omega
    | succ n_624 ih_625 =>
      intro f_618 hW_619 hF_620 i_616 b_622 i_617 hm_626
      have hf_621 := hF_620.at e_w rfl
      refine v_iload hC dX12_puts_6 rfl ?_
      refine v_iconst hC dX12_puts_8 (v := 5) (by decide) ?_
      refine v_iload_n hC dX12_puts_9 rfl ?_
      refine v_iconst hC dX12_puts_10 (v := 1) (by decide) ?_
      obtain ⟨v_627, h_628⟩ : ∃ v9 : Int32, a_3 + 1 = v9 := ⟨_, rfl⟩
      refine v_iadd hC dX12_puts_11 h_628 ?_
      have h_629 := add_v h_628 (by first | omega | (simp only [Int32.lt_iff_toInt_lt, Int32.le_iff_toInt_le, Int32.reduceToInt, ← Int32.toInt_inj, true_and, and_true, or_true, true_or, false_or, or_false, false_and, and_false, not_true_eq_false, not_false_eq_true] <;> omega)) (by first | omega | (simp only [Int32.lt_iff_toInt_lt, Int32.le_iff_toInt_le, Int32.reduceToInt, ← Int32.toInt_inj, true_and, and_true, or_true, true_or, false_or, or_false, false_and, and_false, not_true_eq_false, not_false_eq_true] <;> omega))
      try simp only [Int32.reduceToInt] at h_629
      obtain ⟨v_630, h_631⟩ : ∃ v9 : Int32, (5 : Int32) * v_627 = v9 := ⟨_, rfl⟩
      refine v_imul hC dX12_puts_12 h_631 ?_
      have h_632 := mul_v 5 51 255 h_631 (by decide) (by first | omega | (simp only [Int32.lt_iff_toInt_lt, Int32.le_iff_toInt_le, Int32.reduceToInt, ← Int32.toInt_inj, true_and, and_true, or_true, true_or, false_or, or_false, false_and, and_false, not_true_eq_false, not_false_eq_true] <;> omega)) (by decide) (by decide)
      try simp only [Int32.reduceToInt] at h_632
      have h_633 : 1 ≤ v_630.toInt := by rw [h_632.1]; exact Int.mul_le_mul (a := 1) (b := 1) (by first | omega | (simp only [Int32.lt_iff_toInt_lt, Int32.le_iff_toInt_le, Int32.reduceToInt, ← Int32.toInt_inj, true_and, and_true, or_true, true_or, false_or, or_false, false_and, and_false, not_true_eq_false, not_false_eq_true] <;> omega)) (by first | omega | (simp only [Int32.lt_iff_toInt_lt, Int32.le_iff_toInt_le, Int32.reduceToInt, ← Int32.toInt_inj, true_and, and_true, or_true, true_or, false_or, or_false, false_and, and_false, not_true_eq_false, not_false_eq_true] <;> omega)) (by decide) (by first | omega | (simp only [Int32.lt_iff_toInt_lt, Int32.le_iff_toInt_le, Int32.reduceToInt, ← Int32.toInt_inj, true_and, and_true, or_true, true_or, false_or, or_false, false_and, and_false, not_true_eq_false, not_false_eq_true] <;> omega))
      refine v_icmp_ge hC dX12_puts_13 (tgt := 66) (by decide) (fun h_634 => ?_) (fun h_634 => ?_)
      · simp only [Int32.lt_iff_toInt_lt, Int32.le_iff_toInt_le, Int32.reduceToInt, ← Int32.toInt_inj] at h_634
        refine v_iload hC dX12_puts_66 rfl ?_
        exact hR _ _ _ _ _ _ _ dX12_puts_68 rfl (Nat.le_of_ble_eq_true rfl) (Nat.le_of_ble_eq_true rfl) ⟨rfl, hW_619, (hF_620.mono rfl)⟩
      · simp only [Int32.lt_iff_toInt_lt, Int32.le_iff_toInt_le, Int32.reduceToInt, ← Int32.toInt_inj] at h_634
        refine v_iload hC dX12_puts_16 rfl ?_
        refine v_iconst hC dX12_puts_18 (v := 5) (by decide) ?_
        obtain ⟨v_635, h_636⟩ : ∃ v9 : Int32, i_616 / 5 = v9 := ⟨_, rfl⟩
        refine v_idiv hC dX12_puts_19 (by decide) h_636 ?_
        have h_637 := div_v h_636 (by first | omega | (simp only [Int32.lt_iff_toInt_lt, Int32.le_iff_toInt_le, Int32.reduceToInt, ← Int32.toInt_inj, true_and, and_true, or_true, true_or, false_or, or_false, false_and, and_false, not_true_eq_false, not_false_eq_true] <;> omega)) (by decide)
        try simp only [Int32.reduceToInt] at h_637
        refine v_iload_n hC dX12_puts_20 rfl ?_
        have jn_648 : ∀ (v_649 : Int32), V z E 7 0 0 L f_618 35 [(5, .int i_616), (4, .int i_617), (0, .ref a_0), (1, .int a_1), (2, .ref a_2), (3, .int a_3)] [.int v_649] := by
          intro v_649
          refine v_istore hC dX12_puts_35 (by decide) (lv' := [(6, .int v_649), (5, .int i_616), (4, .int i_617), (0, .ref a_0), (1, .int a_1), (2, .ref a_2), (3, .int a_3)]) rfl ?_
          refine v_iload hC dX12_puts_37 rfl ?_
          refine v_aload_n hC dX12_puts_39 rfl ?_
          refine v_iload_n hC dX12_puts_40 rfl ?_
          refine v_iload hC dX12_puts_41 rfl ?_
          refine v_iload hC dX12_puts_43 rfl ?_
          refine v_iconst hC dX12_puts_45 (v := 4) (by decide) ?_
          refine v_iload hC dX12_puts_46 rfl ?_
          refine v_iconst hC dX12_puts_48 (v := 5) (by decide) ?_
          obtain ⟨v_650, h_651⟩ : ∃ v9 : Int32, i_616 - i_616 / 5 * 5 = v9 := ⟨_, rfl⟩
          refine v_irem hC dX12_puts_49 (by decide) h_651 ?_
          have h_652 := rem_v h_651 (by first | omega | (simp only [Int32.lt_iff_toInt_lt, Int32.le_iff_toInt_le, Int32.reduceToInt, ← Int32.toInt_inj, true_and, and_true, or_true, true_or, false_or, or_false, false_and, and_false, not_true_eq_false, not_false_eq_true] <;> omega)) (by decide)
          try simp only [Int32.reduceToInt] at h_652
          obtain ⟨v_653, h_654⟩ : ∃ v9 : Int32, (4 : Int32) - v_650 = v9 := ⟨_, rfl⟩
          refine v_isub hC dX12_puts_50 h_654 ?_
          have h_655 := sub_v h_654 (by first | omega | (simp only [Int32.lt_iff_toInt_lt, Int32.le_iff_toInt_le, Int32.reduceToInt, ← Int32.toInt_inj, true_and, and_true, or_true, true_or, false_or, or_false, false_and, and_false, not_true_eq_false, not_false_eq_true] <;> omega)) (by first | omega | (simp only [Int32.lt_iff_toInt_lt, Int32.le_iff_toInt_le, Int32.reduceToInt, ← Int32.toInt_inj, true_and, and_true, or_true, true_or, false_or, or_false, false_and, and_false, not_true_eq_false, not_false_eq_true] <;> omega))
          try simp only [Int32.reduceToInt] at h_655
          obtain ⟨v_656, h_657⟩ : ∃ v9 : Int32, v_649 >>> (v_653 &&& 31) = v9 := ⟨_, rfl⟩
          refine v_ishr hC dX12_puts_51 h_657 ?_
          refine v_iconst hC dX12_puts_52 (v := 1) (by decide) ?_
          obtain ⟨v_659, h_660⟩ : ∃ v9 : Int32, v_656 &&& 1 = v9 := ⟨_, rfl⟩
          refine v_iand hC dX12_puts_53 h_660 ?_
          have h_661 := and_v h_660 (by decide)
          try simp only [Int32.reduceToInt] at h_661
          obtain ⟨v_663, v_664, v_666, v_668, v_670, v_672, v_674, v_675, v_676, v_677, v_679, e_662, b_665, b_667, b_669, b_671, b_673, b_678, b_680⟩ := hW_619.at m_1 t_2
          refine v_vi hC (rest := [.int i_617]) m_1 e_662 rfl mi_X12_putBit ms_X12_putBit (p_X12_putBit hW_619 k_0 (by first | omega | (simp only [Int32.lt_iff_toInt_lt, Int32.le_iff_toInt_le, Int32.reduceToInt, ← Int32.toInt_inj, true_and, and_true, or_true, true_or, false_or, or_false, false_and, and_false, not_true_eq_false, not_false_eq_true] <;> omega)) (by first | omega | (simp only [Int32.lt_iff_toInt_lt, Int32.le_iff_toInt_le, Int32.reduceToInt, ← Int32.toInt_inj, true_and, and_true, or_true, true_or, false_or, or_false, false_and, and_false, not_true_eq_false, not_false_eq_true] <;> omega)) hf_621 o_w (by first | omega | (simp only [Int32.lt_iff_toInt_lt, Int32.le_iff_toInt_le, Int32.reduceToInt, ← Int32.toInt_inj, true_and, and_true, or_true, true_or, false_or, or_false, false_and, and_false, not_true_eq_false, not_false_eq_true] <;> omega)) (hP _ (by omega) (by omega)) (by first | omega | (simp only [Int32.lt_iff_toInt_lt, Int32.le_iff_toInt_le, Int32.reduceToInt, ← Int32.toInt_inj, true_and, and_true, or_true, true_or, false_or, or_false, false_and, and_false, not_true_eq_false, not_false_eq_true] <;> omega))) mx_X12_putBit ml_X12_347 (by decide) rfl (cells1 := 0) (slots1 := 0) (by decide) (by decide) (Nat.le_of_ble_eq_true rfl) (Nat.le_of_ble_eq_true rfl) rfl (Nat.le_of_ble_eq_true rfl) dX12_puts_54 (fun r_681 L_682 f_683 h_684 => ?_)
          obtain ⟨rfl, hW_685, hF_686⟩ := h_684
          have hf_687 := hF_686.at hf_621 rfl
          have hf_688 := hF_686.at e_662 rfl
          obtain ⟨v_689, h_690⟩ : ∃ v9 : Int32, i_617 + r_681 = v9 := ⟨_, rfl⟩
          refine v_iadd hC dX12_puts_57 h_690 ?_
          refine v_istore hC dX12_puts_58 (by decide) (lv' := [(4, .int v_689), (6, .int v_649), (5, .int i_616), (0, .ref a_0), (1, .int a_1), (2, .ref a_2), (3, .int a_3)]) rfl ?_
          obtain ⟨v_692, h_693⟩ : ∃ v9 : Int32, i_616 + Int32.ofInt 1 = v9 := ⟨_, rfl⟩
          have h_694 := add_v (b := 1) h_693 (by first | omega | (simp only [Int32.lt_iff_toInt_lt, Int32.le_iff_toInt_le, Int32.reduceToInt, ← Int32.toInt_inj, true_and, and_true, or_true, true_or, false_or, or_false, false_and, and_false, not_true_eq_false, not_false_eq_true] <;> omega)) (by first | omega | (simp only [Int32.lt_iff_toInt_lt, Int32.le_iff_toInt_le, Int32.reduceToInt, ← Int32.toInt_inj, true_and, and_true, or_true, true_or, false_or, or_false, false_and, and_false, not_true_eq_false, not_false_eq_true] <;> omega))
          simp only [Int32.reduceToInt] at h_694
          refine v_iinc hC dX12_puts_60 (k := 2) rfl (v := v_692) h_693 (by decide) (lv' := [(5, .int v_692), (4, .int v_689), (6, .int v_649), (0, .ref a_0), (1, .int a_1), (2, .ref a_2), (3, .int a_3)]) rfl ?_
          refine v_goto hC dX12_puts_63 (tgt := 6) (by decide) ?_
          refine v_pick [0, 1, 3, 4, 5, 6] rfl ?_
          exact ih_625 f_683 hW_685 ((hF_620.tr hF_686).mono rfl) v_692 (by first | omega | (simp only [Int32.lt_iff_toInt_lt, Int32.le_iff_toInt_le, Int32.reduceToInt, ← Int32.toInt_inj, true_and, and_true, or_true, true_or, false_or, or_false, false_and, and_false, not_true_eq_false, not_false_eq_true] <;> omega)) v_689 (by first | omega | (simp only [Int32.lt_iff_toInt_lt, Int32.le_iff_toInt_le, Int32.reduceToInt, ← Int32.toInt_inj, true_and, and_true, or_true, true_or, false_or, or_false, false_and, and_false, not_true_eq_false, not_false_eq_true] <;> omega))
        refine v_icmp_ge hC dX12_puts_21 (tgt := 33) (by decide) (fun h_638 => ?_) (fun h_638 => ?_)
        · simp only [Int32.lt_iff_toInt_lt, Int32.le_iff_toInt_le, Int32.reduceToInt, ← Int32.toInt_inj] at h_638
          refine v_bipush hC dX12_puts_33 (v := 31) (by decide) ?_
          refine v_pick [0, 1, 2, 3, 4, 5] rfl ?_
          exact jn_648 31
        · simp only [Int32.lt_iff_toInt_lt, Int32.le_iff_toInt_le, Int32.reduceToInt, ← Int32.toInt_inj] at h_638
          refine v_aload_n hC dX12_puts_24 rfl ?_
          refine v_iload hC dX12_puts_25 rfl ?_
          refine v_iconst hC dX12_puts_27 (v := 5) (by decide) ?_
          obtain ⟨v_695, h_696⟩ : ∃ v9 : Int32, i_616 / 5 = v9 := ⟨_, rfl⟩
          refine v_idiv hC dX12_puts_28 (by decide) h_696 ?_
          have h_697 := div_v h_696 (by first | omega | (simp only [Int32.lt_iff_toInt_lt, Int32.le_iff_toInt_le, Int32.reduceToInt, ← Int32.toInt_inj, true_and, and_true, or_true, true_or, false_or, or_false, false_and, and_false, not_true_eq_false, not_false_eq_true] <;> omega)) (by decide)
          try simp only [Int32.reduceToInt] at h_697
          obtain ⟨m_698, t_699⟩ := id k_2
          obtain ⟨g_701, e_700⟩ := hW_619.at m_698 t_699
          obtain ⟨v_702, h_703⟩ : ∃ v9 : Int32, g_701 (v_695 : Int32).toNatClampNeg = v9 := ⟨_, rfl⟩
          refine v_iald hC m_698 e_700 (vp_in_iff.mpr (by first | omega | (simp only [Int32.lt_iff_toInt_lt, Int32.le_iff_toInt_le, Int32.reduceToInt, ← Int32.toInt_inj, true_and, and_true, or_true, true_or, false_or, or_false, false_and, and_false, not_true_eq_false, not_false_eq_true] <;> omega))) h_703 dX12_puts_29 ?_
          refine v_goto hC dX12_puts_30 (tgt := 35) (by decide) ?_
          refine v_pick [0, 1, 2, 3, 4, 5] rfl ?_
          exact jn_648 v_702
  refine v_pick [0, 1, 2, 3, 4, 5] rfl ?_
  exact lp_623 257 f hW FR.rf 0 (by decide) 0 (by decide)
set_option maxRecDepth 100000 in
set_option maxHeartbeats 4000000 in
theorem p_X12_gives {l : Launch} {E : Ez} {L : List Nat} {f : Nat → va_E} {T : Nat → va_E → Prop} {a_0 : Nat} {a_1 : Int32} {q : Nat → Nat} {g_w : Nat → Int32} (hW : WT T L f) (k_0 : isM T L E a_0 q) (g_1 : (0 ≤ a_1.toInt ∧ a_1.toInt ≤ 3)) (e_w : f (q 1) = aI E 2076 g_w) (o_w : WOK g_w) : CV l yX12_gives cX12_gives 3 0 0 0 E [.ref a_0, .int a_1] L f (fun L1 f1 => L = L1 ∧ WT T L f1 ∧ FR [2176] f f1) := by
  refine cv_of (by decide) (Nat.le_of_ble_eq_true rfl) (fun z hz hnm hC hR => ?_)
  have hC : Cx z E cX12_gives RX12 3 0 0 0 := hC
  subst hz
  show V z E 3 0 0 L f 0 [(0, .ref a_0), (1, .int a_1)] []
  obtain ⟨m_1, t_2, k_3, k_4, k_5, k_6, k_7, k_8, k_9, k_10, k_11, k_12, k_13, k_14, k_15, k_16, k_17, k_18, k_19, k_20⟩ := id k_0
  obtain ⟨m_21, t_22⟩ := id k_3
  have b_23 := o_w.r0
  have b_24 := o_w.w0
  refine v_aload_n hC dX12_gives_0 rfl ?_
  obtain ⟨v_26, v_27, v_29, v_31, v_33, v_35, v_37, v_38, v_39, v_40, v_42, e_25, b_28, b_30, b_32, b_34, b_36, b_41, b_43⟩ := hW.at m_1 t_2
  refine v_get hC fl_X12_13 m_1 e_25 rfl dX12_gives_1 ?_
  refine v_sipush hC dX12_gives_4 (v := 1048) (by decide) ?_
  refine v_sipush hC dX12_gives_7 (v := 257) (by decide) ?_
  refine v_iload_n hC dX12_gives_10 rfl ?_
  obtain ⟨v_44, h_45⟩ : ∃ v9 : Int32, (257 : Int32) * a_1 = v9 := ⟨_, rfl⟩
  refine v_imul hC dX12_gives_11 h_45 ?_
  have h_46 := mul_v 257 3 771 h_45 (by decide) (by first | omega | (simp only [Int32.lt_iff_toInt_lt, Int32.le_iff_toInt_le, Int32.reduceToInt, ← Int32.toInt_inj, true_and, and_true, or_true, true_or, false_or, or_false, false_and, and_false, not_true_eq_false, not_false_eq_true] <;> omega)) (by decide) (by decide)
  try simp only [Int32.reduceToInt] at h_46
  obtain ⟨v_47, h_48⟩ : ∃ v9 : Int32, (1048 : Int32) + v_44 = v9 := ⟨_, rfl⟩
  refine v_iadd hC dX12_gives_12 h_48 ?_
  have h_49 := add_v h_48 (by first | omega | (simp only [Int32.lt_iff_toInt_lt, Int32.le_iff_toInt_le, Int32.reduceToInt, ← Int32.toInt_inj, true_and, and_true, or_true, true_or, false_or, or_false, false_and, and_false, not_true_eq_false, not_false_eq_true] <;> omega)) (by first | omega | (simp only [Int32.lt_iff_toInt_lt, Int32.le_iff_toInt_le, Int32.reduceToInt, ← Int32.toInt_inj, true_and, and_true, or_true, true_or, false_or, or_false, false_and, and_false, not_true_eq_false, not_false_eq_true] <;> omega))
  try simp only [Int32.reduceToInt] at h_49
  refine v_iconst hC dX12_gives_13 (v := 1) (by decide) ?_
  refine v_iast hC m_21 e_w (vp_in_iff.mpr (by first | omega | (simp only [Int32.lt_iff_toInt_lt, Int32.le_iff_toInt_le, Int32.reduceToInt, ← Int32.toInt_inj, true_and, and_true, or_true, true_or, false_or, or_false, false_and, and_false, not_true_eq_false, not_false_eq_true] <;> omega))) dX12_gives_14 (fun f_50 hf_51 hk_52 => ?_)
  have hW_54 := hW.up hf_51 hk_52 t_22 ⟨_, rfl, (o_w.hi (by first | omega | (simp only [Int32.lt_iff_toInt_lt, Int32.le_iff_toInt_le, Int32.reduceToInt, ← Int32.toInt_inj, true_and, and_true, or_true, true_or, false_or, or_false, false_and, and_false, not_true_eq_false, not_false_eq_true] <;> omega)))⟩
  obtain ⟨g_53, hf_51, ok_55, eg_56⟩ : ∃ g9, f_50 (q 1) = aI E 2076 g9 ∧ WOK g9 ∧ g9 = upd g_w (v_47 : Int32).toNatClampNeg 1 := ⟨_, hf_51, (o_w.hi (by first | omega | (simp only [Int32.lt_iff_toInt_lt, Int32.le_iff_toInt_le, Int32.reduceToInt, ← Int32.toInt_inj, true_and, and_true, or_true, true_or, false_or, or_false, false_and, and_false, not_true_eq_false, not_false_eq_true] <;> omega))), rfl⟩
  have b_57 := ok_55.r0
  have b_58 := ok_55.w0
  have hf_59 := (hk_52 a_0 (ne_kd e_25 e_w rfl)).trans e_25
  have fr_60 := FR.w hk_52 e_w (k := 2176) rfl
  refine v_iconst hC dX12_gives_15 (v := 0) (by decide) ?_
  refine v_istore_n hC dX12_gives_16 (by decide) (lv' := [(2, .int 0), (0, .ref a_0), (1, .int a_1)]) rfl ?_
  have lp_245 : ∀ (n_246 : Nat) (f_240 : Nat → va_E) (hW_241 : WT T L f_240) (hF_242 : FR [2176] f_50 f_240) (i_239 : Int32) (b_244 : (0 ≤ i_239.toInt ∧ i_239.toInt ≤ 256)) (hm_248 : 256 - i_239.toInt < (n_246 : Int)), V z E 3 0 0 L f_240 17 [(2, .int i_239), (0, .ref a_0), (1, .int a_1)] [] := by
    intro n_246
    induction n_246 with
    | zero =>
      intro f_240 hW_241 hF_242 i_239 b_244 hm_248
      have hf_243 := hF_242.at hf_59 rfl
      exfalso; omega
    | succ n_246 ih_247 =>
      intro f_240 hW_241 hF_242 i_239 b_244 hm_248
      have hf_243 := hF_242.at hf_59 rfl
      refine v_iload_n hC dX12_gives_17 rfl ?_
      refine v_sipush hC dX12_gives_18 (v := 256) (by decide) ?_
      refine v_icmp_ge hC dX12_gives_21 (tgt := 54) (by decide) (fun h_249 => ?_) (fun h_249 => ?_)
      · simp only [Int32.lt_iff_toInt_lt, Int32.le_iff_toInt_le, Int32.reduceToInt, ← Int32.toInt_inj] at h_249
        exact hR _ _ _ _ _ _ dX12_gives_54 (Nat.le_of_ble_eq_true rfl) (Nat.le_of_ble_eq_true rfl) ⟨rfl, hW_241, ((fr_60.tr hF_242).mono rfl)⟩
      · simp only [Int32.lt_iff_toInt_lt, Int32.le_iff_toInt_le, Int32.reduceToInt, ← Int32.toInt_inj] at h_249
        refine v_aload_n hC dX12_gives_24 rfl ?_
        refine v_get hC fl_X12_13 m_1 hf_243 rfl dX12_gives_25 ?_
        refine v_sipush hC dX12_gives_28 (v := 1048) (by decide) ?_
        refine v_sipush hC dX12_gives_31 (v := 257) (by decide) ?_
        refine v_iload_n hC dX12_gives_34 rfl ?_
        obtain ⟨v_250, h_251⟩ : ∃ v9 : Int32, (257 : Int32) * a_1 = v9 := ⟨_, rfl⟩
        refine v_imul hC dX12_gives_35 h_251 ?_
        have h_252 := mul_v 257 3 771 h_251 (by decide) (by first | omega | (simp only [Int32.lt_iff_toInt_lt, Int32.le_iff_toInt_le, Int32.reduceToInt, ← Int32.toInt_inj, true_and, and_true, or_true, true_or, false_or, or_false, false_and, and_false, not_true_eq_false, not_false_eq_true] <;> omega)) (by decide) (by decide)
        try simp only [Int32.reduceToInt] at h_252
        obtain ⟨v_253, h_254⟩ : ∃ v9 : Int32, (1048 : Int32) + v_250 = v9 := ⟨_, rfl⟩
        refine v_iadd hC dX12_gives_36 h_254 ?_
        have h_255 := add_v h_254 (by first | omega | (simp only [Int32.lt_iff_toInt_lt, Int32.le_iff_toInt_le, Int32.reduceToInt, ← Int32.toInt_inj, true_and, and_true, or_true, true_or, false_or, or_false, false_and, and_false, not_true_eq_false, not_false_eq_true] <;> omega)) (by first | omega | (simp only [Int32.lt_iff_toInt_lt, Int32.le_iff_toInt_le, Int32.reduceToInt, ← Int32.toInt_inj, true_and, and_true, or_true, true_or, false_or, or_false, false_and, and_false, not_true_eq_false, not_false_eq_true] <;> omega))
        try simp only [Int32.reduceToInt] at h_255
        refine v_iconst hC dX12_gives_37 (v := 1) (by decide) ?_
        obtain ⟨v_256, h_257⟩ : ∃ v9 : Int32, v_253 + 1 = v9 := ⟨_, rfl⟩
        refine v_iadd hC dX12_gives_38 h_257 ?_
        have h_258 := add_v h_257 (by first | omega | (simp only [Int32.lt_iff_toInt_lt, Int32.le_iff_toInt_le, Int32.reduceToInt, ← Int32.toInt_inj, true_and, and_true, or_true, true_or, false_or, or_false, false_and, and_false, not_true_eq_false, not_false_eq_true] <;> omega)) (by first | omega | (simp only [Int32.lt_iff_toInt_lt, Int32.le_iff_toInt_le, Int32.reduceToInt, ← Int32.toInt_inj, true_and, and_true, or_true, true_or, false_or, or_false, false_and, and_false, not_true_eq_false, not_false_eq_true] <;> omega))
        try simp only [Int32.reduceToInt] at h_258
        refine v_iload_n hC dX12_gives_39 rfl ?_
        obtain ⟨v_259, h_260⟩ : ∃ v9 : Int32, v_256 + i_239 = v9 := ⟨_, rfl⟩
        refine v_iadd hC dX12_gives_40 h_260 ?_
        have h_261 := add_v h_260 (by first | omega | (simp only [Int32.lt_iff_toInt_lt, Int32.le_iff_toInt_le, Int32.reduceToInt, ← Int32.toInt_inj, true_and, and_true, or_true, true_or, false_or, or_false, false_and, and_false, not_true_eq_false, not_false_eq_true] <;> omega)) (by first | omega | (simp only [Int32.lt_iff_toInt_lt, Int32.le_iff_toInt_le, Int32.reduceToInt, ← Int32.toInt_inj, true_and, and_true, or_true, true_or, false_or, or_false, false_and, and_false, not_true_eq_false, not_false_eq_true] <;> omega))
        refine v_aload_n hC dX12_gives_41 rfl ?_
        refine v_get hC fl_X12_37 m_1 hf_243 rfl dX12_gives_42 ?_
        refine v_iload_n hC dX12_gives_45 rfl ?_
        obtain ⟨m_262, t_263⟩ := id k_9
        obtain ⟨g_265, e_264⟩ := hW_241.at m_262 t_263
        obtain ⟨v_266, h_267⟩ : ∃ v9 : Int32, g_265 (i_239 : Int32).toNatClampNeg = v9 := ⟨_, rfl⟩
        refine v_iald hC m_262 e_264 (vp_in_iff.mpr (by first | omega | (simp only [Int32.lt_iff_toInt_lt, Int32.le_iff_toInt_le, Int32.reduceToInt, ← Int32.toInt_inj, true_and, and_true, or_true, true_or, false_or, or_false, false_and, and_false, not_true_eq_false, not_false_eq_true] <;> omega))) h_267 dX12_gives_46 ?_
        obtain ⟨g_269, e_268, ok_270⟩ := hW_241.at m_21 t_22
        have b_271 := ok_270.r0
        have b_272 := ok_270.w0
        refine v_iast hC m_21 e_268 (vp_in_iff.mpr (by first | omega | (simp only [Int32.lt_iff_toInt_lt, Int32.le_iff_toInt_le, Int32.reduceToInt, ← Int32.toInt_inj, true_and, and_true, or_true, true_or, false_or, or_false, false_and, and_false, not_true_eq_false, not_false_eq_true] <;> omega))) dX12_gives_47 (fun f_273 hf_274 hk_275 => ?_)
        have hW_277 := hW_241.up hf_274 hk_275 t_22 ⟨_, rfl, (ok_270.hi (by first | omega | (simp only [Int32.lt_iff_toInt_lt, Int32.le_iff_toInt_le, Int32.reduceToInt, ← Int32.toInt_inj, true_and, and_true, or_true, true_or, false_or, or_false, false_and, and_false, not_true_eq_false, not_false_eq_true] <;> omega)))⟩
        obtain ⟨g_276, hf_274, ok_278, eg_279⟩ : ∃ g9, f_273 (q 1) = aI E 2076 g9 ∧ WOK g9 ∧ g9 = upd g_269 (v_259 : Int32).toNatClampNeg v_266 := ⟨_, hf_274, (ok_270.hi (by first | omega | (simp only [Int32.lt_iff_toInt_lt, Int32.le_iff_toInt_le, Int32.reduceToInt, ← Int32.toInt_inj, true_and, and_true, or_true, true_or, false_or, or_false, false_and, and_false, not_true_eq_false, not_false_eq_true] <;> omega))), rfl⟩
        have b_280 := ok_278.r0
        have b_281 := ok_278.w0
        have hf_282 := (hk_275 a_0 (ne_kd hf_243 e_268 rfl)).trans hf_243
        have hf_283 := (hk_275 (q 15) (ne_kd e_264 e_268 rfl)).trans e_264
        have fr_284 := FR.w hk_275 e_268 (k := 2176) rfl
        obtain ⟨v_285, h_286⟩ : ∃ v9 : Int32, i_239 + Int32.ofInt 1 = v9 := ⟨_, rfl⟩
        have h_287 := add_v (b := 1) h_286 (by first | omega | (simp only [Int32.lt_iff_toInt_lt, Int32.le_iff_toInt_le, Int32.reduceToInt, ← Int32.toInt_inj, true_and, and_true, or_true, true_or, false_or, or_false, false_and, and_false, not_true_eq_false, not_false_eq_true] <;> omega)) (by first | omega | (simp only [Int32.lt_iff_toInt_lt, Int32.le_iff_toInt_le, Int32.reduceToInt, ← Int32.toInt_inj, true_and, and_true, or_true, true_or, false_or, or_false, false_and, and_false, not_true_eq_false, not_false_eq_true] <;> omega))
        simp only [Int32.reduceToInt] at h_287
        refine v_iinc hC dX12_gives_48 (k := 0) rfl (v := v_285) h_286 (by decide) (lv' := [(2, .int v_285), (0, .ref a_0), (1, .int a_1)]) rfl ?_
        refine v_goto hC dX12_gives_51 (tgt := 17) (by decide) ?_
        refine v_pick [0, 1, 2] rfl ?_
        exact ih_247 f_273 hW_277 ((hF_242.tr fr_284).mono rfl) v_285 (by first | omega | (simp only [Int32.lt_iff_toInt_lt, Int32.le_iff_toInt_le, Int32.reduceToInt, ← Int32.toInt_inj, true_and, and_true, or_true, true_or, false_or, or_false, false_and, and_false, not_true_eq_false, not_false_eq_true] <;> omega)) (by first | omega | (simp only [Int32.lt_iff_toInt_lt, Int32.le_iff_toInt_le, Int32.reduceToInt, ← Int32.toInt_inj, true_and, and_true, or_true, true_or, false_or, or_false, false_and, and_false, not_true_eq_false, not_false_eq_true] <;> omega))
  refine v_pick [0, 1, 2] rfl ?_
  exact lp_245 258 f_50 hW_54 FR.rf 0 (by decide) (by decide)
set_option maxRecDepth 100000 in
set_option maxHeartbeats 4000000 in
theorem p_X12_put {l : Launch} {E : Ez} {L : List Nat} {f : Nat → va_E} {T : Nat → va_E → Prop} {a_0 : Nat} {a_1 : Int32} {a_2 : Int32} {q : Nat → Nat} {g_w : Nat → Int32} (hW : WT T L f) (k_0 : isM T L E a_0 q) (e_w : f (q 1) = aI E 2076 g_w) (o_w : WOK g_w) : CI l yX12_put cX12_put 6 .int 6 0 0 E [.ref a_0, .int a_1, .int a_2] L f (fun r L1 f1 => L = L1 ∧ WT T L f1 ∧ FR [12, 356, 700, 2176] f f1 ∧ (¬ r.toInt = 0 ∨ (0 ≤ a_1.toInt ∧ a_1.toInt ≤ 3)) ∧ (¬ r.toInt = 0 ∨ (0 ≤ a_2.toInt ∧ a_2.toInt ≤ 5))) := by
  refine ci_of (by decide) (Nat.le_of_ble_eq_true rfl) (fun z hz hnm hC hR => ?_)
  have hC : Cx z E cX12_put RX12 6 6 0 0 := hC
  subst hz
  show V z E 6 0 0 L f 0 [(0, .ref a_0), (1, .int a_1), (2, .int a_2)] []
  obtain ⟨m_1, t_2, k_3, k_4, k_5, k_6, k_7, k_8, k_9, k_10, k_11, k_12, k_13, k_14, k_15, k_16, k_17, k_18, k_19, k_20⟩ := id k_0
  obtain ⟨m_21, t_22⟩ := id k_3
  have b_23 := o_w.r0
  have b_24 := o_w.w0
  refine v_aload_n hC dX12_put_0 rfl ?_
  refine v_iload_n hC dX12_put_1 rfl ?_
  refine v_iload_n hC dX12_put_2 rfl ?_
  obtain ⟨v_26, v_27, v_29, v_31, v_33, v_35, v_37, v_38, v_39, v_40, v_42, e_25, b_28, b_30, b_32, b_34, b_36, b_41, b_43⟩ := hW.at m_1 t_2
  refine v_vi hC (rest := []) m_1 e_25 rfl mi_X12_asks ms_X12_asks (p_X12_asks hW k_0 e_w o_w) mx_X12_asks ml_X12_357 (by decide) rfl (cells1 := 0) (slots1 := 0) (by decide) (by decide) (Nat.le_of_ble_eq_true rfl) (Nat.le_of_ble_eq_true rfl) rfl (Nat.le_of_ble_eq_true rfl) dX12_put_3 (fun r_44 L_45 f_46 h_47 => ?_)
  obtain ⟨rfl, rfl, b_48, h_49, h_50, x_51⟩ := h_47
  try simp only [Int32.reduceToInt, Int64.reduceToInt] at x_51
  refine v_istore_n hC dX12_put_6 (by decide) (lv' := [(3, .int r_44), (0, .ref a_0), (1, .int a_1), (2, .int a_2)]) rfl ?_
  refine v_iload_n hC dX12_put_7 rfl ?_
  refine v_if_ge hC dX12_put_8 (tgt := 13) (by decide) (fun h_54 => ?_) (fun h_54 => ?_)
  · simp only [Int32.lt_iff_toInt_lt, Int32.le_iff_toInt_le, Int32.reduceToInt, ← Int32.toInt_inj] at h_54
    refine v_aload_n hC dX12_put_13 rfl ?_
    refine v_vi hC (rest := []) m_1 e_25 rfl mi_X12_readWords ms_X12_readWords (p_X12_readWords hW k_0) mx_X12_readWords ml_X12_360 (by decide) rfl (cells1 := 0) (slots1 := 0) (by decide) (by decide) (Nat.le_of_ble_eq_true rfl) (Nat.le_of_ble_eq_true rfl) rfl (Nat.le_of_ble_eq_true rfl) dX12_put_14 (fun r_55 L_56 f_57 h_58 => ?_)
    obtain ⟨rfl, hW_60, hF_61, b_59⟩ := h_58
    have hf_62 := hF_61.at e_w rfl
    refine v_istore hC dX12_put_17 (by decide) (lv' := [(4, .int r_55), (3, .int r_44), (0, .ref a_0), (1, .int a_1), (2, .int a_2)]) rfl ?_
    refine v_iload hC dX12_put_19 rfl ?_
    refine v_iconst hC dX12_put_21 (v := (-1)) (by decide) ?_
    refine v_icmp_ne hC dX12_put_22 (tgt := 28) (by decide) (fun h_63 => ?_) (fun h_63 => ?_)
    · simp only [Int32.lt_iff_toInt_lt, Int32.le_iff_toInt_le, Int32.reduceToInt, ← Int32.toInt_inj] at h_63
      refine v_iconst hC dX12_put_28 (v := 5) (by decide) ?_
      refine v_iload hC dX12_put_29 rfl ?_
      refine v_iconst hC dX12_put_31 (v := 1) (by decide) ?_
      obtain ⟨v_64, h_65⟩ : ∃ v9 : Int32, r_55 + 1 = v9 := ⟨_, rfl⟩
      refine v_iadd hC dX12_put_32 h_65 ?_
      have h_66 := add_v h_65 (by first | omega | (simp only [Int32.lt_iff_toInt_lt, Int32.le_iff_toInt_le, Int32.reduceToInt, ← Int32.toInt_inj, true_and, and_true, or_true, true_or, false_or, or_false, false_and, and_false, not_true_eq_false, not_false_eq_true] <;> omega)) (by first | omega | (simp only [Int32.lt_iff_toInt_lt, Int32.le_iff_toInt_le, Int32.reduceToInt, ← Int32.toInt_inj, true_and, and_true, or_true, true_or, false_or, or_false, false_and, and_false, not_true_eq_false, not_false_eq_true] <;> omega))
      try simp only [Int32.reduceToInt] at h_66
      obtain ⟨v_67, h_68⟩ : ∃ v9 : Int32, (5 : Int32) * v_64 = v9 := ⟨_, rfl⟩
      refine v_imul hC dX12_put_33 h_68 ?_
      have h_69 := mul_v 5 601 3005 h_68 (by decide) (by first | omega | (simp only [Int32.lt_iff_toInt_lt, Int32.le_iff_toInt_le, Int32.reduceToInt, ← Int32.toInt_inj, true_and, and_true, or_true, true_or, false_or, or_false, false_and, and_false, not_true_eq_false, not_false_eq_true] <;> omega)) (by decide) (by decide)
      try simp only [Int32.reduceToInt] at h_69
      have h_70 : 1 ≤ v_67.toInt := by rw [h_69.1]; exact Int.mul_le_mul (a := 1) (b := 1) (by first | omega | (simp only [Int32.lt_iff_toInt_lt, Int32.le_iff_toInt_le, Int32.reduceToInt, ← Int32.toInt_inj, true_and, and_true, or_true, true_or, false_or, or_false, false_and, and_false, not_true_eq_false, not_false_eq_true] <;> omega)) (by first | omega | (simp only [Int32.lt_iff_toInt_lt, Int32.le_iff_toInt_le, Int32.reduceToInt, ← Int32.toInt_inj, true_and, and_true, or_true, true_or, false_or, or_false, false_and, and_false, not_true_eq_false, not_false_eq_true] <;> omega)) (by decide) (by first | omega | (simp only [Int32.lt_iff_toInt_lt, Int32.le_iff_toInt_le, Int32.reduceToInt, ← Int32.toInt_inj, true_and, and_true, or_true, true_or, false_or, or_false, false_and, and_false, not_true_eq_false, not_false_eq_true] <;> omega))
      refine v_aload_n hC dX12_put_34 rfl ?_
      refine v_iload_n hC dX12_put_35 rfl ?_
      obtain ⟨v_72, v_73, v_75, v_77, v_79, v_81, v_83, v_84, v_85, v_86, v_88, e_71, b_74, b_76, b_78, b_80, b_82, b_87, b_89⟩ := hW_60.at m_1 t_2
      refine v_vi hC (rest := [.int v_67]) m_1 e_71 rfl mi_X12_roomOf ms_X12_roomOf (p_X12_roomOf hW_60 k_0 (by first | omega | (simp only [Int32.lt_iff_toInt_lt, Int32.le_iff_toInt_le, Int32.reduceToInt, ← Int32.toInt_inj, true_and, and_true, or_true, true_or, false_or, or_false, false_and, and_false, not_true_eq_false, not_false_eq_true] <;> omega)) hf_62 o_w (by first | omega | (simp only [Int32.lt_iff_toInt_lt, Int32.le_iff_toInt_le, Int32.reduceToInt, ← Int32.toInt_inj, true_and, and_true, or_true, true_or, false_or, or_false, false_and, and_false, not_true_eq_false, not_false_eq_true] <;> omega))) mx_X12_roomOf ml_X12_241 (by decide) rfl (cells1 := 0) (slots1 := 0) (by decide) (by decide) (Nat.le_of_ble_eq_true rfl) (Nat.le_of_ble_eq_true rfl) rfl (Nat.le_of_ble_eq_true rfl) dX12_put_36 (fun r_90 L_91 f_92 h_93 => ?_)
      obtain ⟨rfl, hW_98, hF_99, b_94, x_95, x_96, x_97⟩ := h_93
      have fe_100 : fld (f_57 a_0) 20 = (v_88 : Int32).toInt := by rw [e_71]; rfl
      have hf_101 := hF_99.at hf_62 rfl
      rw [fe_100] at x_97
      obtain ⟨v_103, v_104, v_106, v_108, v_110, v_112, v_114, v_115, v_116, v_117, v_119, e_102, b_105, b_107, b_109, b_111, b_113, b_118, b_120⟩ := hW_98.at m_1 t_2
      have fe_121 : fld (f_92 a_0) 20 = (v_119 : Int32).toInt := by rw [e_102]; rfl
      rw [fe_121] at x_97
      try simp only [Int32.reduceToInt, Int64.reduceToInt] at x_95
      try simp only [Int32.reduceToInt, Int64.reduceToInt] at x_96
      try simp only [Int32.reduceToInt, Int64.reduceToInt] at x_97
      refine v_icmp_le hC dX12_put_39 (tgt := 45) (by decide) (fun h_122 => ?_) (fun h_122 => ?_)
      · simp only [Int32.lt_iff_toInt_lt, Int32.le_iff_toInt_le, Int32.reduceToInt, ← Int32.toInt_inj] at h_122
        refine v_aload_n hC dX12_put_45 rfl ?_
        refine v_iload_n hC dX12_put_46 rfl ?_
        refine v_vv hC (rest := []) m_1 e_102 rfl mi_X12_takes0 ms_X12_takes0 (p_X12_takes0 hW_98 k_0 (by first | omega | (simp only [Int32.lt_iff_toInt_lt, Int32.le_iff_toInt_le, Int32.reduceToInt, ← Int32.toInt_inj, true_and, and_true, or_true, true_or, false_or, or_false, false_and, and_false, not_true_eq_false, not_false_eq_true] <;> omega)) hf_101 o_w) mx_X12_takes0 ml_X12_363 (by decide) rfl (cells1 := 0) (slots1 := 0) (by decide) (by decide) (Nat.le_of_ble_eq_true rfl) (Nat.le_of_ble_eq_true rfl) rfl (Nat.le_of_ble_eq_true rfl) dX12_put_47 (fun L_124 f_125 h_126 => ?_)
        obtain ⟨rfl, hW_127, hF_128⟩ := h_126
        have hf_129 := hF_128.at hf_101 rfl
        have hf_130 := hF_128.at e_102 rfl
        refine v_aload_n hC dX12_put_50 rfl ?_
        refine v_iload_n hC dX12_put_51 rfl ?_
        refine v_aload_n hC dX12_put_52 rfl ?_
        refine v_get hC fl_X12_43 m_1 hf_130 rfl dX12_put_53 ?_
        refine v_iload hC dX12_put_56 rfl ?_
        refine v_vi hC (rest := []) m_1 hf_130 rfl mi_X12_puts ms_X12_puts (p_X12_puts hW_127 k_0 (by first | omega | (simp only [Int32.lt_iff_toInt_lt, Int32.le_iff_toInt_le, Int32.reduceToInt, ← Int32.toInt_inj, true_and, and_true, or_true, true_or, false_or, or_false, false_and, and_false, not_true_eq_false, not_false_eq_true] <;> omega)) k_11 (by first | omega | (simp only [Int32.lt_iff_toInt_lt, Int32.le_iff_toInt_le, Int32.reduceToInt, ← Int32.toInt_inj, true_and, and_true, or_true, true_or, false_or, or_false, false_and, and_false, not_true_eq_false, not_false_eq_true] <;> omega)) hf_129 o_w (by first | omega | (simp only [Int32.lt_iff_toInt_lt, Int32.le_iff_toInt_le, Int32.reduceToInt, ← Int32.toInt_inj, true_and, and_true, or_true, true_or, false_or, or_false, false_and, and_false, not_true_eq_false, not_false_eq_true] <;> omega)) (fun i9 p9 q9 => x_95 i9 p9 (by omega)) (by first | omega | (simp only [Int32.lt_iff_toInt_lt, Int32.le_iff_toInt_le, Int32.reduceToInt, ← Int32.toInt_inj, true_and, and_true, or_true, true_or, false_or, or_false, false_and, and_false, not_true_eq_false, not_false_eq_true] <;> omega))) mx_X12_puts ml_X12_366 (by decide) rfl (cells1 := 0) (slots1 := 0) (by decide) (by decide) (Nat.le_of_ble_eq_true rfl) (Nat.le_of_ble_eq_true rfl) rfl (Nat.le_of_ble_eq_true rfl) dX12_put_58 (fun r_131 L_132 f_133 h_134 => ?_)
        obtain ⟨rfl, hW_135, hF_136⟩ := h_134
        have hf_137 := hF_136.at hf_129 rfl
        have hf_138 := hF_136.at hf_130 rfl
        refine v_istore hC dX12_put_61 (by decide) (lv' := [(5, .int r_131), (4, .int r_55), (3, .int r_44), (0, .ref a_0), (1, .int a_1), (2, .int a_2)]) rfl ?_
        refine v_aload_n hC dX12_put_63 rfl ?_
        refine v_iload_n hC dX12_put_64 rfl ?_
        refine v_vv hC (rest := []) m_1 hf_138 rfl mi_X12_gives ms_X12_gives (p_X12_gives hW_135 k_0 (by first | omega | (simp only [Int32.lt_iff_toInt_lt, Int32.le_iff_toInt_le, Int32.reduceToInt, ← Int32.toInt_inj, true_and, and_true, or_true, true_or, false_or, or_false, false_and, and_false, not_true_eq_false, not_false_eq_true] <;> omega)) hf_137 o_w) mx_X12_gives ml_X12_332 (by decide) rfl (cells1 := 0) (slots1 := 0) (by decide) (by decide) (Nat.le_of_ble_eq_true rfl) (Nat.le_of_ble_eq_true rfl) rfl (Nat.le_of_ble_eq_true rfl) dX12_put_65 (fun L_140 f_141 h_142 => ?_)
        obtain ⟨rfl, hW_143, hF_144⟩ := h_142
        have hf_145 := hF_144.at hf_138 rfl
        refine v_iload hC dX12_put_68 rfl ?_
        exact hR _ _ _ _ _ _ _ dX12_put_70 rfl (Nat.le_of_ble_eq_true rfl) (Nat.le_of_ble_eq_true rfl) ⟨rfl, hW_143, (((((hF_61.tr hF_99).tr hF_128).tr hF_136).tr hF_144).mono rfl), (.inr (by first | omega | (simp only [Int32.lt_iff_toInt_lt, Int32.le_iff_toInt_le, Int32.reduceToInt, ← Int32.toInt_inj, true_and, and_true, or_true, true_or, false_or, or_false, false_and, and_false, not_true_eq_false, not_false_eq_true] <;> omega))), (.inr (by first | omega | (simp only [Int32.lt_iff_toInt_lt, Int32.le_iff_toInt_le, Int32.reduceToInt, ← Int32.toInt_inj, true_and, and_true, or_true, true_or, false_or, or_false, false_and, and_false, not_true_eq_false, not_false_eq_true] <;> omega)))⟩
      · simp only [Int32.lt_iff_toInt_lt, Int32.le_iff_toInt_le, Int32.reduceToInt, ← Int32.toInt_inj] at h_122
        refine v_bipush hC dX12_put_42 (v := (-3)) (by decide) ?_
        exact hR _ _ _ _ _ _ _ dX12_put_44 rfl (Nat.le_of_ble_eq_true rfl) (Nat.le_of_ble_eq_true rfl) ⟨rfl, hW_98, ((hF_61.tr hF_99).mono rfl), (.inl (by decide)), (.inl (by decide))⟩
    · simp only [Int32.lt_iff_toInt_lt, Int32.le_iff_toInt_le, Int32.reduceToInt, ← Int32.toInt_inj] at h_63
      refine v_bipush hC dX12_put_25 (v := (-4)) (by decide) ?_
      exact hR _ _ _ _ _ _ _ dX12_put_27 rfl (Nat.le_of_ble_eq_true rfl) (Nat.le_of_ble_eq_true rfl) ⟨rfl, hW_60, (hF_61.mono rfl), (.inl (by decide)), (.inl (by decide))⟩
  · simp only [Int32.lt_iff_toInt_lt, Int32.le_iff_toInt_le, Int32.reduceToInt, ← Int32.toInt_inj] at h_54
    refine v_iload_n hC dX12_put_11 rfl ?_
    exact hR _ _ _ _ _ _ _ dX12_put_12 rfl (Nat.le_of_ble_eq_true rfl) (Nat.le_of_ble_eq_true rfl) ⟨rfl, hW, FR.rf, (by first | omega | (simp only [Int32.lt_iff_toInt_lt, Int32.le_iff_toInt_le, Int32.reduceToInt, ← Int32.toInt_inj, true_and, and_true, or_true, true_or, false_or, or_false, false_and, and_false, not_true_eq_false, not_false_eq_true] <;> omega)), (by first | omega | (simp only [Int32.lt_iff_toInt_lt, Int32.le_iff_toInt_le, Int32.reduceToInt, ← Int32.toInt_inj, true_and, and_true, or_true, true_or, false_or, or_false, false_and, and_false, not_true_eq_false, not_false_eq_true] <;> omega))⟩
