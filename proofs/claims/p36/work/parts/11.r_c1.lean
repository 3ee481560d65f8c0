set_option maxRecDepth 100000 in
set_option maxHeartbeats 1500000 in
theorem p_X12_wide {l : Launch} {E : Ez} {L : List Nat} {f : Nat → va_E} {T : Nat → va_E → Prop} {a_0 : Nat} {q : Nat → Nat} {g_w : Nat → Int32} (hW : WT T L f) (k_0 : isM T L E a_0 q) (e_w : f (q 1) = aI E 2076 g_w) (o_w : WOK g_w) : CI l yX12_wide cX12_wide 1 .int 0 0 0 E [.ref a_0] L f (fun r L1 f1 => L = L1 ∧ f = f1 ∧ r = (g_w 1)) := by
  refine ci_of (by decide) (Nat.le_of_ble_eq_true rfl) (fun z hz hnm hC hR => ?_)
  have hC : Cx z E cX12_wide RX12 1 0 0 0 := hC
  subst hz
  show V z E 1 0 0 L f 0 [(0, .ref a_0)] []
  obtain ⟨m_1, t_2, nq_21, k_3, k_4, k_5, k_6, k_7, k_8, k_9, k_10, k_11, k_12, k_13, k_14, k_15, k_16, k_17, k_18, k_19, k_20⟩ := id k_0
  obtain ⟨m_22, t_23⟩ := id k_3
  have b_24 := o_w.r0
  have b_25 := o_w.w0
  refine v_aload_n hC dX12_wide_0 rfl ?_
  obtain ⟨v_27, v_28, v_30, v_32, v_34, v_36, v_38, v_39, v_40, v_41, v_43, e_26, b_29, b_31, b_33, b_35, b_37, b_42, b_44⟩ := hW.at m_1 t_2
  refine v_get hC fl_X12_13 m_1 e_26 rfl dX12_wide_1 ?_
  refine v_iconst hC dX12_wide_4 (v := 1) (by decide) ?_
  refine v_iald hC m_22 e_w (vp_in_iff.mpr (by decide)) (v := g_w 1) rfl dX12_wide_5 ?_
  exact hR _ _ _ _ _ _ _ dX12_wide_6 rfl (Nat.le_of_ble_eq_true rfl) (Nat.le_of_ble_eq_true rfl) ⟨rfl, rfl, rfl⟩
set_option maxRecDepth 100000 in
set_option maxHeartbeats 1500000 in
theorem p_X12_area {l : Launch} {E : Ez} {L : List Nat} {f : Nat → va_E} {T : Nat → va_E → Prop} {a_0 : Nat} {q : Nat → Nat} {g_w : Nat → Int32} (hW : WT T L f) (k_0 : isM T L E a_0 q) (e_w : f (q 1) = aI E 2076 g_w) (o_w : WOK g_w) : CI l yX12_area cX12_area 1 .int 1 0 0 E [.ref a_0] L f (fun r L1 f1 => L = L1 ∧ f = f1 ∧ r = (g_w 0 * g_w 1)) := by
  refine ci_of (by decide) (Nat.le_of_ble_eq_true rfl) (fun z hz hnm hC hR => ?_)
  have hC : Cx z E cX12_area RX12 1 1 0 0 := hC
  subst hz
  show V z E 1 0 0 L f 0 [(0, .ref a_0)] []
  obtain ⟨m_1, t_2, nq_21, k_3, k_4, k_5, k_6, k_7, k_8, k_9, k_10, k_11, k_12, k_13, k_14, k_15, k_16, k_17, k_18, k_19, k_20⟩ := id k_0
  obtain ⟨m_22, t_23⟩ := id k_3
  have b_24 := o_w.r0
  have b_25 := o_w.w0
  refine v_aload_n hC dX12_area_0 rfl ?_
  obtain ⟨v_27, v_28, v_30, v_32, v_34, v_36, v_38, v_39, v_40, v_41, v_43, e_26, b_29, b_31, b_33, b_35, b_37, b_42, b_44⟩ := hW.at m_1 t_2
  refine v_vi hC (rest := []) m_1 e_26 rfl mi_X12_rows ms_X12_rows (p_X12_rows hW k_0 e_w o_w) mx_X12_rows ml_X12_83 (by decide) rfl (cells1 := 0) (slots1 := 0) (by decide) (by decide) (Nat.le_of_ble_eq_true rfl) (Nat.le_of_ble_eq_true rfl) rfl (Nat.le_of_ble_eq_true rfl) dX12_area_1 (fun r_45 L_46 f_47 h_48 => ?_)
  obtain ⟨rfl, rfl, rfl⟩ := h_48
  refine v_aload_n hC dX12_area_4 rfl ?_
  refine v_vi hC (rest := [.int (g_w 0)]) m_1 e_26 rfl mi_X12_wide ms_X12_wide (p_X12_wide hW k_0 e_w o_w) mx_X12_wide ml_X12_87 (by decide) rfl (cells1 := 0) (slots1 := 0) (by decide) (by decide) (Nat.le_of_ble_eq_true rfl) (Nat.le_of_ble_eq_true rfl) rfl (Nat.le_of_ble_eq_true rfl) dX12_area_5 (fun r_51 L_52 f_53 h_54 => ?_)
  obtain ⟨rfl, rfl, rfl⟩ := h_54
  obtain ⟨v_57, h_58⟩ : ∃ v9 : Int32, (g_w 0) * (g_w 1) = v9 := ⟨_, rfl⟩
  refine v_imul hC dX12_area_8 h_58 ?_
  have h_59 := mul_v 16 16 256 h_58 (by first | omega | (simp only [Int32.lt_iff_toInt_lt, Int32.le_iff_toInt_le, Int32.reduceToInt, ← Int32.toInt_inj, true_and, and_true, or_true, true_or, false_or, or_false, false_and, and_false, not_true_eq_false, not_false_eq_true] <;> omega)) (by first | omega | (simp only [Int32.lt_iff_toInt_lt, Int32.le_iff_toInt_le, Int32.reduceToInt, ← Int32.toInt_inj, true_and, and_true, or_true, true_or, false_or, or_false, false_and, and_false, not_true_eq_false, not_false_eq_true] <;> omega)) (by decide) (by decide)
  exact hR _ _ _ _ _ _ _ dX12_area_9 rfl (Nat.le_of_ble_eq_true rfl) (Nat.le_of_ble_eq_true rfl) ⟨rfl, rfl, h_58.symm⟩
set_option maxRecDepth 100000 in
set_option maxHeartbeats 1500000 in
theorem p_X12_ofWay {l : Launch} {E : Ez} {L : List Nat} {f : Nat → va_E} {T : Nat → va_E → Prop} {a_0 : Nat} {a_1 : Int32} {a_2 : Int32} {q : Nat → Nat} {g_w : Nat → Int32} (hW : WT T L f) (k_0 : isM T L E a_0 q) (g_1 : (0 ≤ a_1.toInt ∧ a_1.toInt ≤ 5)) (g_2 : (0 ≤ a_2.toInt ∧ a_2.toInt ≤ 6)) (e_w : f (q 1) = aI E 2076 g_w) (o_w : WOK g_w) : CI l yX12_ofWay cX12_ofWay 3 .int 0 0 0 E [.ref a_0, .int a_1, .int a_2] L f (fun r L1 f1 => L = L1 ∧ f = f1 ∧ r = (wv g_w a_1 a_2)) := by
  refine ci_of (by decide) (Nat.le_of_ble_eq_true rfl) (fun z hz hnm hC hR => ?_)
  have hC : Cx z E cX12_ofWay RX12 3 0 0 0 := hC
  subst hz
  show V z E 3 0 0 L f 0 [(0, .ref a_0), (1, .int a_1), (2, .int a_2)] []
  obtain ⟨m_1, t_2, nq_21, k_3, k_4, k_5, k_6, k_7, k_8, k_9, k_10, k_11, k_12, k_13, k_14, k_15, k_16, k_17, k_18, k_19, k_20⟩ := id k_0
  obtain ⟨m_22, t_23⟩ := id k_3
  have b_24 := o_w.r0
  have b_25 := o_w.w0
  refine v_aload_n hC dX12_ofWay_0 rfl ?_
  obtain ⟨v_27, v_28, v_30, v_32, v_34, v_36, v_38, v_39, v_40, v_41, v_43, e_26, b_29, b_31, b_33, b_35, b_37, b_42, b_44⟩ := hW.at m_1 t_2
  refine v_get hC fl_X12_13 m_1 e_26 rfl dX12_ofWay_1 ?_
  refine v_bipush hC dX12_ofWay_4 (v := 120) (by decide) ?_
  refine v_bipush hC dX12_ofWay_6 (v := 7) (by decide) ?_
  refine v_iload_n hC dX12_ofWay_8 rfl ?_
  obtain ⟨v_45, h_46⟩ : ∃ v9 : Int32, (7 : Int32) * a_1 = v9 := ⟨_, rfl⟩
  refine v_imul hC dX12_ofWay_9 h_46 ?_
  have h_47 := mul_v 7 5 35 h_46 (by decide) (by first | omega | (simp only [Int32.lt_iff_toInt_lt, Int32.le_iff_toInt_le, Int32.reduceToInt, ← Int32.toInt_inj, true_and, and_true, or_true, true_or, false_or, or_false, false_and, and_false, not_true_eq_false, not_false_eq_true] <;> omega)) (by decide) (by decide)
  try simp only [Int32.reduceToInt] at h_47
  obtain ⟨v_48, h_49⟩ : ∃ v9 : Int32, (120 : Int32) + v_45 = v9 := ⟨_, rfl⟩
  refine v_iadd hC dX12_ofWay_10 h_49 ?_
  have h_50 := add_v h_49 (by first | omega | (simp only [Int32.lt_iff_toInt_lt, Int32.le_iff_toInt_le, Int32.reduceToInt, ← Int32.toInt_inj, true_and, and_true, or_true, true_or, false_or, or_false, false_and, and_false, not_true_eq_false, not_false_eq_true] <;> omega)) (by first | omega | (simp only [Int32.lt_iff_toInt_lt, Int32.le_iff_toInt_le, Int32.reduceToInt, ← Int32.toInt_inj, true_and, and_true, or_true, true_or, false_or, or_false, false_and, and_false, not_true_eq_false, not_false_eq_true] <;> omega))
  try simp only [Int32.reduceToInt] at h_50
  refine v_iload_n hC dX12_ofWay_11 rfl ?_
  obtain ⟨v_51, h_52⟩ : ∃ v9 : Int32, v_48 + a_2 = v9 := ⟨_, rfl⟩
  refine v_iadd hC dX12_ofWay_12 h_52 ?_
  have h_53 := add_v h_52 (by first | omega | (simp only [Int32.lt_iff_toInt_lt, Int32.le_iff_toInt_le, Int32.reduceToInt, ← Int32.toInt_inj, true_and, and_true, or_true, true_or, false_or, or_false, false_and, and_false, not_true_eq_false, not_false_eq_true] <;> omega)) (by first | omega | (simp only [Int32.lt_iff_toInt_lt, Int32.le_iff_toInt_le, Int32.reduceToInt, ← Int32.toInt_inj, true_and, and_true, or_true, true_or, false_or, or_false, false_and, and_false, not_true_eq_false, not_false_eq_true] <;> omega))
  obtain ⟨v_54, h_55⟩ : ∃ v9 : Int32, g_w (v_51 : Int32).toNatClampNeg = v9 := ⟨_, rfl⟩
  refine v_iald hC m_22 e_w (vp_in_iff.mpr (by first | omega | (simp only [Int32.lt_iff_toInt_lt, Int32.le_iff_toInt_le, Int32.reduceToInt, ← Int32.toInt_inj, true_and, and_true, or_true, true_or, false_or, or_false, false_and, and_false, not_true_eq_false, not_false_eq_true] <;> omega))) h_55 dX12_ofWay_13 ?_
  exact hR _ _ _ _ _ _ _ dX12_ofWay_14 rfl (Nat.le_of_ble_eq_true rfl) (Nat.le_of_ble_eq_true rfl) ⟨rfl, rfl, (h_55.symm.trans (wv_eq (by omega) (by omega) (by omega)))⟩
set_option maxRecDepth 100000 in
set_option maxHeartbeats 1500000 in
theorem p_X12_sortOf {l : Launch} {E : Ez} {L : List Nat} {f : Nat → va_E} {T : Nat → va_E → Prop} {a_0 : Nat} {a_1 : Int32} {q : Nat → Nat} {g_w : Nat → Int32} (hW : WT T L f) (k_0 : isM T L E a_0 q) (g_1 : (0 ≤ a_1.toInt)) (e_w : f (q 1) = aI E 2076 g_w) (o_w : WOK g_w) (hpt : 1 ≤ (g_w 0).toInt) : CI l yX12_sortOf cX12_sortOf 4 .int 1 0 0 E [.ref a_0, .int a_1] L f (fun r L1 f1 => L = L1 ∧ f = f1 ∧ ((-1) ≤ r.toInt ∧ r.toInt ≤ 12)) := by
  refine ci_of (by decide) (Nat.le_of_ble_eq_true rfl) (fun z hz hnm hC hR => ?_)
  have hC : Cx z E cX12_sortOf RX12 4 1 0 0 := hC
  subst hz
  show V z E 4 0 0 L f 0 [(0, .ref a_0), (1, .int a_1)] []
  obtain ⟨m_1, t_2, nq_21, k_3, k_4, k_5, k_6, k_7, k_8, k_9, k_10, k_11, k_12, k_13, k_14, k_15, k_16, k_17, k_18, k_19, k_20⟩ := id k_0
  obtain ⟨m_22, t_23⟩ := id k_3
  have b_24 := o_w.r0
  have b_25 := o_w.w0
  obtain ⟨pt_1, pt_2, pt_3⟩ := o_w.pt hpt
  refine v_iload_n hC dX12_sortOf_0 rfl ?_
  refine v_aload_n hC dX12_sortOf_1 rfl ?_
  obtain ⟨v_27, v_28, v_30, v_32, v_34, v_36, v_38, v_39, v_40, v_41, v_43, e_26, b_29, b_31, b_33, b_35, b_37, b_42, b_44⟩ := hW.at m_1 t_2
  refine v_vi hC (rest := [.int a_1]) m_1 e_26 rfl mi_X12_wide ms_X12_wide (p_X12_wide hW k_0 e_w o_w) mx_X12_wide ml_X12_87 (by decide) rfl (cells1 := 0) (slots1 := 0) (by decide) (by decide) (Nat.le_of_ble_eq_true rfl) (Nat.le_of_ble_eq_true rfl) rfl (Nat.le_of_ble_eq_true rfl) dX12_sortOf_2 (fun r_45 L_46 f_47 h_48 => ?_)
  obtain ⟨rfl, rfl, rfl⟩ := h_48
  obtain ⟨v_51, h_52⟩ : ∃ v9 : Int32, a_1 / (g_w 1) = v9 := ⟨_, rfl⟩
  refine v_idiv hC dX12_sortOf_5 (by first | omega | (simp only [Int32.lt_iff_toInt_lt, Int32.le_iff_toInt_le, Int32.reduceToInt, ← Int32.toInt_inj, true_and, and_true, or_true, true_or, false_or, or_false, false_and, and_false, not_true_eq_false, not_false_eq_true] <;> omega)) h_52 ?_
  have h_53 := div_v h_52 (by first | omega | (simp only [Int32.lt_iff_toInt_lt, Int32.le_iff_toInt_le, Int32.reduceToInt, ← Int32.toInt_inj, true_and, and_true, or_true, true_or, false_or, or_false, false_and, and_false, not_true_eq_false, not_false_eq_true] <;> omega)) (by first | omega | (simp only [Int32.lt_iff_toInt_lt, Int32.le_iff_toInt_le, Int32.reduceToInt, ← Int32.toInt_inj, true_and, and_true, or_true, true_or, false_or, or_false, false_and, and_false, not_true_eq_false, not_false_eq_true] <;> omega))
  refine v_aload_n hC dX12_sortOf_6 rfl ?_
  refine v_get hC fl_X12_13 m_1 e_26 rfl dX12_sortOf_7 ?_
  refine v_iconst hC dX12_sortOf_10 (v := 2) (by decide) ?_
  refine v_iald hC m_22 e_w (vp_in_iff.mpr (by decide)) (v := g_w 2) rfl dX12_sortOf_11 ?_
  obtain ⟨v_54, h_55⟩ : ∃ v9 : Int32, v_51 - v_51 / (g_w 2) * (g_w 2) = v9 := ⟨_, rfl⟩
  refine v_irem hC dX12_sortOf_12 (by first | omega | (simp only [Int32.lt_iff_toInt_lt, Int32.le_iff_toInt_le, Int32.reduceToInt, ← Int32.toInt_inj, true_and, and_true, or_true, true_or, false_or, or_false, false_and, and_false, not_true_eq_false, not_false_eq_true] <;> omega)) h_55 ?_
  have h_56 := rem_v h_55 (by first | omega | (simp only [Int32.lt_iff_toInt_lt, Int32.le_iff_toInt_le, Int32.reduceToInt, ← Int32.toInt_inj, true_and, and_true, or_true, true_or, false_or, or_false, false_and, and_false, not_true_eq_false, not_false_eq_true] <;> omega)) (by first | omega | (simp only [Int32.lt_iff_toInt_lt, Int32.le_iff_toInt_le, Int32.reduceToInt, ← Int32.toInt_inj, true_and, and_true, or_true, true_or, false_or, or_false, false_and, and_false, not_true_eq_false, not_false_eq_true] <;> omega))
  refine v_istore_n hC dX12_sortOf_13 (by decide) (lv' := [(2, .int v_54), (0, .ref a_0), (1, .int a_1)]) rfl ?_
  refine v_bipush hC dX12_sortOf_14 (v := 16) (by decide) ?_
  refine v_bipush hC dX12_sortOf_16 (v := 13) (by decide) ?_
  refine v_iload_n hC dX12_sortOf_18 rfl ?_
  obtain ⟨v_57, h_58⟩ : ∃ v9 : Int32, (13 : Int32) * v_54 = v9 := ⟨_, rfl⟩
  refine v_imul hC dX12_sortOf_19 h_58 ?_
  have h_59 := mul_v 13 7 91 h_58 (by decide) (by first | omega | (simp only [Int32.lt_iff_toInt_lt, Int32.le_iff_toInt_le, Int32.reduceToInt, ← Int32.toInt_inj, true_and, and_true, or_true, true_or, false_or, or_false, false_and, and_false, not_true_eq_false, not_false_eq_true] <;> omega)) (by decide) (by decide)
  try simp only [Int32.reduceToInt] at h_59
  obtain ⟨v_60, h_61⟩ : ∃ v9 : Int32, (16 : Int32) + v_57 = v9 := ⟨_, rfl⟩
  refine v_iadd hC dX12_sortOf_20 h_61 ?_
  have h_62 := add_v h_61 (by first | omega | (simp only [Int32.lt_iff_toInt_lt, Int32.le_iff_toInt_le, Int32.reduceToInt, ← Int32.toInt_inj, true_and, and_true, or_true, true_or, false_or, or_false, false_and, and_false, not_true_eq_false, not_false_eq_true] <;> omega)) (by first | omega | (simp only [Int32.lt_iff_toInt_lt, Int32.le_iff_toInt_le, Int32.reduceToInt, ← Int32.toInt_inj, true_and, and_true, or_true, true_or, false_or, or_false, false_and, and_false, not_true_eq_false, not_false_eq_true] <;> omega))
  try simp only [Int32.reduceToInt] at h_62
  refine v_istore_n hC dX12_sortOf_21 (by decide) (lv' := [(3, .int v_60), (2, .int v_54), (0, .ref a_0), (1, .int a_1)]) rfl ?_
  refine v_aload_n hC dX12_sortOf_22 rfl ?_
  refine v_get hC fl_X12_13 m_1 e_26 rfl dX12_sortOf_23 ?_
  refine v_iload_n hC dX12_sortOf_26 rfl ?_
  refine v_iconst hC dX12_sortOf_27 (v := 1) (by decide) ?_
  obtain ⟨v_63, h_64⟩ : ∃ v9 : Int32, v_60 + 1 = v9 := ⟨_, rfl⟩
  refine v_iadd hC dX12_sortOf_28 h_64 ?_
  have h_65 := add_v h_64 (by first | omega | (simp only [Int32.lt_iff_toInt_lt, Int32.le_iff_toInt_le, Int32.reduceToInt, ← Int32.toInt_inj, true_and, and_true, or_true, true_or, false_or, or_false, false_and, and_false, not_true_eq_false, not_false_eq_true] <;> omega)) (by first | omega | (simp only [Int32.lt_iff_toInt_lt, Int32.le_iff_toInt_le, Int32.reduceToInt, ← Int32.toInt_inj, true_and, and_true, or_true, true_or, false_or, or_false, false_and, and_false, not_true_eq_false, not_false_eq_true] <;> omega))
  try simp only [Int32.reduceToInt] at h_65
  refine v_iload_n hC dX12_sortOf_29 rfl ?_
  refine v_aload_n hC dX12_sortOf_30 rfl ?_
  refine v_vi hC (rest := [.int a_1, .int v_63, .ref (q 1)]) m_1 e_26 rfl mi_X12_wide ms_X12_wide (p_X12_wide hW k_0 e_w o_w) mx_X12_wide ml_X12_87 (by decide) rfl (cells1 := 0) (slots1 := 0) (by decide) (by decide) (Nat.le_of_ble_eq_true rfl) (Nat.le_of_ble_eq_true rfl) rfl (Nat.le_of_ble_eq_true rfl) dX12_sortOf_31 (fun r_66 L_67 f_68 h_69 => ?_)
  obtain ⟨rfl, rfl, rfl⟩ := h_69
  obtain ⟨v_72, h_73⟩ : ∃ v9 : Int32, a_1 - a_1 / (g_w 1) * (g_w 1) = v9 := ⟨_, rfl⟩
  refine v_irem hC dX12_sortOf_34 (by first | omega | (simp only [Int32.lt_iff_toInt_lt, Int32.le_iff_toInt_le, Int32.reduceToInt, ← Int32.toInt_inj, true_and, and_true, or_true, true_or, false_or, or_false, false_and, and_false, not_true_eq_false, not_false_eq_true] <;> omega)) h_73 ?_
  have h_74 := rem_v h_73 (by first | omega | (simp only [Int32.lt_iff_toInt_lt, Int32.le_iff_toInt_le, Int32.reduceToInt, ← Int32.toInt_inj, true_and, and_true, or_true, true_or, false_or, or_false, false_and, and_false, not_true_eq_false, not_false_eq_true] <;> omega)) (by first | omega | (simp only [Int32.lt_iff_toInt_lt, Int32.le_iff_toInt_le, Int32.reduceToInt, ← Int32.toInt_inj, true_and, and_true, or_true, true_or, false_or, or_false, false_and, and_false, not_true_eq_false, not_false_eq_true] <;> omega))
  refine v_aload_n hC dX12_sortOf_35 rfl ?_
  refine v_get hC fl_X12_13 m_1 e_26 rfl dX12_sortOf_36 ?_
  refine v_iload_n hC dX12_sortOf_39 rfl ?_
  obtain ⟨v_75, h_76⟩ : ∃ v9 : Int32, g_w (v_60 : Int32).toNatClampNeg = v9 := ⟨_, rfl⟩
  refine v_iald hC m_22 e_w (vp_in_iff.mpr (by first | omega | (simp only [Int32.lt_iff_toInt_lt, Int32.le_iff_toInt_le, Int32.reduceToInt, ← Int32.toInt_inj, true_and, and_true, or_true, true_or, false_or, or_false, false_and, and_false, not_true_eq_false, not_false_eq_true] <;> omega))) h_76 dX12_sortOf_40 ?_
  have b_77 := len_at o_w (i := v_60) (r := v_54) hpt (by omega) (by omega) (by omega)
  rw [h_76] at b_77
  obtain ⟨v_78, h_79⟩ : ∃ v9 : Int32, v_72 - v_72 / v_75 * v_75 = v9 := ⟨_, rfl⟩
  refine v_irem hC dX12_sortOf_41 (by first | omega | (simp only [Int32.lt_iff_toInt_lt, Int32.le_iff_toInt_le, Int32.reduceToInt, ← Int32.toInt_inj, true_and, and_true, or_true, true_or, false_or, or_false, false_and, and_false, not_true_eq_false, not_false_eq_true] <;> omega)) h_79 ?_
  have h_80 := rem_v h_79 (by first | omega | (simp only [Int32.lt_iff_toInt_lt, Int32.le_iff_toInt_le, Int32.reduceToInt, ← Int32.toInt_inj, true_and, and_true, or_true, true_or, false_or, or_false, false_and, and_false, not_true_eq_false, not_false_eq_true] <;> omega)) (by first | omega | (simp only [Int32.lt_iff_toInt_lt, Int32.le_iff_toInt_le, Int32.reduceToInt, ← Int32.toInt_inj, true_and, and_true, or_true, true_or, false_or, or_false, false_and, and_false, not_true_eq_false, not_false_eq_true] <;> omega))
  obtain ⟨v_81, h_82⟩ : ∃ v9 : Int32, v_63 + v_78 = v9 := ⟨_, rfl⟩
  refine v_iadd hC dX12_sortOf_42 h_82 ?_
  have h_83 := add_v h_82 (by first | omega | (simp only [Int32.lt_iff_toInt_lt, Int32.le_iff_toInt_le, Int32.reduceToInt, ← Int32.toInt_inj, true_and, and_true, or_true, true_or, false_or, or_false, false_and, and_false, not_true_eq_false, not_false_eq_true] <;> omega)) (by first | omega | (simp only [Int32.lt_iff_toInt_lt, Int32.le_iff_toInt_le, Int32.reduceToInt, ← Int32.toInt_inj, true_and, and_true, or_true, true_or, false_or, or_false, false_and, and_false, not_true_eq_false, not_false_eq_true] <;> omega))
  obtain ⟨v_84, h_85⟩ : ∃ v9 : Int32, g_w (v_81 : Int32).toNatClampNeg = v9 := ⟨_, rfl⟩
  refine v_iald hC m_22 e_w (vp_in_iff.mpr (by first | omega | (simp only [Int32.lt_iff_toInt_lt, Int32.le_iff_toInt_le, Int32.reduceToInt, ← Int32.toInt_inj, true_and, and_true, or_true, true_or, false_or, or_false, false_and, and_false, not_true_eq_false, not_false_eq_true] <;> omega))) h_85 dX12_sortOf_43 ?_
  have b_86 := sg_at o_w (i := v_81) (by omega) (by omega)
  rw [h_85] at b_86
  exact hR _ _ _ _ _ _ _ dX12_sortOf_44 rfl (Nat.le_of_ble_eq_true rfl) (Nat.le_of_ble_eq_true rfl) ⟨rfl, rfl, (by first | omega | (simp only [Int32.lt_iff_toInt_lt, Int32.le_iff_toInt_le, Int32.reduceToInt, ← Int32.toInt_inj, true_and, and_true, or_true, true_or, false_or, or_false, false_and, and_false, not_true_eq_false, not_false_eq_true] <;> omega))⟩
set_option maxRecDepth 100000 in
set_option maxHeartbeats 1500000 in
theorem p_X12_lists {l : Launch} {E : Ez} {L : List Nat} {f : Nat → va_E} {T : Nat → va_E → Prop} {a_0 : Nat} {a_1 : Int32} {q : Nat → Nat} {g_w : Nat → Int32} (hW : WT T L f) (k_0 : isM T L E a_0 q) (g_1 : (0 ≤ a_1.toInt ∧ a_1.toInt ≤ 5)) (e_w : f (q 1) = aI E 2076 g_w) (o_w : WOK g_w) (htold : (wv g_w a_1 0).toInt = 1) : CV l yX12_lists cX12_lists 7 2 0 0 E [.ref a_0, .int a_1] L f (fun L1 f1 => L = L1 ∧ WT T L f1 ∧ FR [12, 356] f f1 ∧ (fld (f1 a_0) 17 = 0 ∨ 1 ≤ (g_w 0).toInt) ∧ fld (f1 a_0) 20 = fld (f a_0) 20) := by
  refine cv_of (by decide) (Nat.le_of_ble_eq_true rfl) (fun z hz hnm hC hR => ?_)
  have hC : Cx z E cX12_lists RX12 7 2 0 0 := hC
  subst hz
  show V z E 7 0 0 L f 0 [(0, .ref a_0), (1, .int a_1)] []
  obtain ⟨m_1, t_2, nq_21, k_3, k_4, k_5, k_6, k_7, k_8, k_9, k_10, k_11, k_12, k_13, k_14, k_15, k_16, k_17, k_18, k_19, k_20⟩ := id k_0
  obtain ⟨m_22, t_23⟩ := id k_3
  have b_24 := o_w.r0
  have b_25 := o_w.w0
  obtain ⟨v_27, v_28, v_30, v_32, v_34, v_36, v_38, v_39, v_40, v_41, v_43, e_26, b_29, b_31, b_33, b_35, b_37, b_42, b_44⟩ := hW.at m_1 t_2
  have mz_45 : fld (f a_0) 20 = v_43.toInt := by rw [e_26]; rfl
  obtain ⟨tl_2, tl_3, tl_4⟩ := o_w.told g_1 htold
  have ar_0 := area_v o_w
  refine v_aload_n hC dX12_lists_0 rfl ?_
  refine v_iconst hC dX12_lists_1 (v := 0) (by decide) ?_
  refine v_put hC fl_X12_335 m_1 e_26 rfl rfl (Nat.le_of_ble_eq_true rfl) (fs' := [.int v_27, .ref (q 1), .ref (q 2), .ref (q 3), .ref (q 4), .int v_28, .ref (q 6), .int v_30, .int v_32, .int v_34, .int v_36, .int v_38, .int v_39, .int v_40, .ref (q 14), .ref (q 15), .ref (q 16), .int 0, .ref (q 18), .ref (q 19), .int v_43, .ref (q 21), .ref (q 22), .ref (q 23), .ref (q 24), .ref (q 25), .ref (q 26), .ref (q 27), .ref (q 28)]) rfl dX12_lists_2 (fun f_46 hf_47 hk_48 => ?_)
  have hW_49 := hW.up hf_47 hk_48 t_2 ⟨v_27, v_28, v_30, v_32, v_34, v_36, v_38, v_39, v_40, 0, v_43, rfl, (by first | omega | (simp only [Int32.lt_iff_toInt_lt, Int32.le_iff_toInt_le, Int32.reduceToInt, ← Int32.toInt_inj, true_and, and_true, or_true, true_or, false_or, or_false, false_and, and_false, not_true_eq_false, not_false_eq_true] <;> omega)), (by first | omega | (simp only [Int32.lt_iff_toInt_lt, Int32.le_iff_toInt_le, Int32.reduceToInt, ← Int32.toInt_inj, true_and, and_true, or_true, true_or, false_or, or_false, false_and, and_false, not_true_eq_false, not_false_eq_true] <;> omega)), (by first | omega | (simp only [Int32.lt_iff_toInt_lt, Int32.le_iff_toInt_le, Int32.reduceToInt, ← Int32.toInt_inj, true_and, and_true, or_true, true_or, false_or, or_false, false_and, and_false, not_true_eq_false, not_false_eq_true] <;> omega)), (by first | omega | (simp only [Int32.lt_iff_toInt_lt, Int32.le_iff_toInt_le, Int32.reduceToInt, ← Int32.toInt_inj, true_and, and_true, or_true, true_or, false_or, or_false, false_and, and_false, not_true_eq_false, not_false_eq_true] <;> omega)), (by first | omega | (simp only [Int32.lt_iff_toInt_lt, Int32.le_iff_toInt_le, Int32.reduceToInt, ← Int32.toInt_inj, true_and, and_true, or_true, true_or, false_or, or_false, false_and, and_false, not_true_eq_false, not_false_eq_true] <;> omega)), (by decide), (by first | omega | (simp only [Int32.lt_iff_toInt_lt, Int32.le_iff_toInt_le, Int32.reduceToInt, ← Int32.toInt_inj, true_and, and_true, or_true, true_or, false_or, or_false, false_and, and_false, not_true_eq_false, not_false_eq_true] <;> omega))⟩
  have hf_50 := (hk_48 (q 1) (ne_kd e_w e_26 rfl)).trans e_w
  have fr_51 := FR.w hk_48 e_26 (k := 12) rfl
  refine v_iconst hC dX12_lists_5 (v := 0) (by decide) ?_
  refine v_istore_n hC dX12_lists_6 (by decide) (lv' := [(2, .int 0), (0, .ref a_0), (1, .int a_1)]) rfl ?_
  refine v_iconst hC dX12_lists_7 (v := 0) (by decide) ?_
  refine v_istore_n hC dX12_lists_8 (by decide) (lv' := [(3, .int 0), (2, .int 0), (0, .ref a_0), (1, .int a_1)]) rfl ?_
  have lp_2978 : ∀ (n_2979 : Nat) (f_2970 : Nat → va_E) (hW_2971 : WT T L f_2970) (hF_2972 : FR [12, 356] f_46 f_2970) (i_2968 : Int32) (b_2974 : (0 ≤ i_2968.toInt ∧ i_2968.toInt ≤ 256)) (i_2969 : Int32) (nv_2975 : fld (f_2970 a_0) 17 ≤ i_2968.toInt) (nv_2976 : i_2968.toInt ≤ (g_w 0 * g_w 1).toInt) (nv_2977 : fld (f_2970 a_0) 20 = v_43.toInt) (hm_2981 : 256 - i_2968.toInt < (n_2979 : Int)), V z E 7 0 0 L f_2970 9 [(3, .int i_2968), (2, .int i_2969), (0, .ref a_0), (1, .int a_1)] [] := by
    intro n_2979
    induction n_2979 with
    | zero =>
      intro f_2970 hW_2971 hF_2972 i_2968 b_2974 i_2969 nv_2975 nv_2976 nv_2977 hm_2981
      have hf_2973 := hF_2972.at hf_50 rfl
      obtain ⟨v_2983, v_2984, v_2986, v_2988, v_2990, v_2992, v_2994, v_2995, v_2996, v_2997, v_2999, e_2982, b_2985, b_2987, b_2989, b_2991, b_2993, b_2998, b_3000⟩ := hW_2971.at m_1 t_2
      have fe_3001 : fld (f_2970 a_0) 17 = (v_2997 : Int32).toInt := by rw [e_2982]; rfl
      rw [fe_3001] at nv_2975
      have fe_3002 : fld (f_2970 a_0) 20 = (v_2999 : Int32).toInt := by rw [e_2982]; rfl
      rw [fe_3002] at nv_2977
      exfalso; omega
    | succ n_2979 ih_2980 =>
      intro f_2970 hW_2971 hF_2972 i_2968 b_2974 i_2969 nv_2975 nv_2976 nv_2977 hm_2981
      have hf_2973 := hF_2972.at hf_50 rfl
      obtain ⟨v_2983, v_2984, v_2986, v_2988, v_2990, v_2992, v_2994, v_2995, v_2996, v_2997, v_2999, e_2982, b_2985, b_2987, b_2989, b_2991, b_2993, b_2998, b_3000⟩ := hW_2971.at m_1 t_2
      have fe_3001 : fld (f_2970 a_0) 17 = (v_2997 : Int32).toInt := by rw [e_2982]; rfl
      rw [fe_3001] at nv_2975
      have fe_3002 : fld (f_2970 a_0) 20 = (v_2999 : Int32).toInt := by rw [e_2982]; rfl
      rw [fe_3002] at nv_2977
      refine v_iload_n hC dX12_lists_9 rfl ?_
      refine v_aload_n hC dX12_lists_10 rfl ?_
      refine v_vi hC (rest := [.int i_2968]) m_1 e_2982 rfl mi_X12_area ms_X12_area (p_X12_area hW_2971 k_0 hf_2973 o_w) mx_X12_area ml_X12_203 (by decide) rfl (cells1 := 0) (slots1 := 0) (by decide) (by decide) (Nat.le_of_ble_eq_true rfl) (Nat.le_of_ble_eq_true rfl) rfl (Nat.le_of_ble_eq_true rfl) dX12_lists_11 (fun r_3003 L_3004 f_3005 h_3006 => ?_)
      obtain ⟨rfl, rfl, rfl⟩ := h_3006
      have ar_3009 := area_v o_w
      refine v_icmp_ge hC dX12_lists_14 (tgt := 171) (by decide) (fun h_3010 => ?_) (fun h_3010 => ?_)
      · simp only [Int32.lt_iff_toInt_lt, Int32.le_iff_toInt_le, Int32.reduceToInt, ← Int32.toInt_inj] at h_3010
        have fe_3011 : fld (f_2970 a_0) 17 = (v_2997 : Int32).toInt := by rw [e_2982]; rfl
        have fe_3012 : fld (f_2970 a_0) 20 = (v_2999 : Int32).toInt := by rw [e_2982]; rfl
        exact hR _ _ _ _ _ _ dX12_lists_171 (Nat.le_of_ble_eq_true rfl) (Nat.le_of_ble_eq_true rfl) ⟨rfl, hW_2971, ((fr_51.tr hF_2972).mono rfl), (by simp only [fe_3011, true_and, and_true, or_true, true_or, false_or, or_false, false_and, and_false, not_true_eq_false, not_false_eq_true] <;> first | omega | (simp only [Int32.lt_iff_toInt_lt, Int32.le_iff_toInt_le, Int32.reduceToInt, ← Int32.toInt_inj, true_and, and_true, or_true, true_or, false_or, or_false, false_and, and_false, not_true_eq_false, not_false_eq_true] <;> omega)), (by simp only [fe_3012, mz_45, true_and, and_true, or_true, true_or, false_or, or_false, false_and, and_false, not_true_eq_false, not_false_eq_true] <;> first | omega | (simp only [Int32.lt_iff_toInt_lt, Int32.le_iff_toInt_le, Int32.reduceToInt, ← Int32.toInt_inj, true_and, and_true, or_true, true_or, false_or, or_false, false_and, and_false, not_true_eq_false, not_false_eq_true] <;> omega))⟩
      · simp only [Int32.lt_iff_toInt_lt, Int32.le_iff_toInt_le, Int32.reduceToInt, ← Int32.toInt_inj] at h_3010
        have pq_3013 : 1 ≤ (g_w 0).toInt ∧ 1 ≤ (g_w 1).toInt := by omega
        have dl_3014 := div_lt_v (i := i_2968.toInt) (r := (g_w 0).toInt) (w := (g_w 1).toInt) (by omega) (by omega) (by omega)
        refine v_aload_n hC dX12_lists_17 rfl ?_
        refine v_iload_n hC dX12_lists_18 rfl ?_
        refine v_bipush hC dX12_lists_19 (v := 6) (by decide) ?_
        refine v_vi hC (rest := []) m_1 e_2982 rfl mi_X12_ofWay ms_X12_ofWay (p_X12_ofWay hW_2971 k_0 (by first | omega | (simp only [Int32.lt_iff_toInt_lt, Int32.le_iff_toInt_le, Int32.reduceToInt, ← Int32.toInt_inj, true_and, and_true, or_true, true_or, false_or, or_false, false_and, and_false, not_true_eq_false, not_false_eq_true] <;> omega)) (by decide) hf_2973 o_w) mx_X12_ofWay ml_X12_94 (by decide) rfl (cells1 := 0) (slots1 := 0) (by decide) (by decide) (Nat.le_of_ble_eq_true rfl) (Nat.le_of_ble_eq_true rfl) rfl (Nat.le_of_ble_eq_true rfl) dX12_lists_21 (fun r_3015 L_3016 f_3017 h_3018 => ?_)
        obtain ⟨rfl, rfl, rfl⟩ := h_3018
        refine v_iconst hC dX12_lists_24 (v := 1) (by decide) ?_
        have jn_3055 : ∀ (v_3056 : Int32) (b_3057 : (0 ≤ v_3056.toInt ∧ v_3056.toInt ≤ 15)), V z E 7 0 0 L f_2970 50 [(3, .int i_2968), (2, .int i_2969), (0, .ref a_0), (1, .int a_1)] [.int v_3056] := by
          intro v_3056 b_3057
          refine v_istore hC dX12_lists_50 (by decide) (lv' := [(4, .int v_3056), (3, .int i_2968), (2, .int i_2969), (0, .ref a_0), (1, .int a_1)]) rfl ?_
          refine v_aload_n hC dX12_lists_52 rfl ?_
          refine v_iload_n hC dX12_lists_53 rfl ?_
          refine v_iconst hC dX12_lists_54 (v := 5) (by decide) ?_
          refine v_vi hC (rest := []) m_1 e_2982 rfl mi_X12_ofWay ms_X12_ofWay (p_X12_ofWay hW_2971 k_0 (by first | omega | (simp only [Int32.lt_iff_toInt_lt, Int32.le_iff_toInt_le, Int32.reduceToInt, ← Int32.toInt_inj, true_and, and_true, or_true, true_or, false_or, or_false, false_and, and_false, not_true_eq_false, not_false_eq_true] <;> omega)) (by decide) hf_2973 o_w) mx_X12_ofWay ml_X12_94 (by decide) rfl (cells1 := 0) (slots1 := 0) (by decide) (by decide) (Nat.le_of_ble_eq_true rfl) (Nat.le_of_ble_eq_true rfl) rfl (Nat.le_of_ble_eq_true rfl) dX12_lists_55 (fun r_3058 L_3059 f_3060 h_3061 => ?_)
          obtain ⟨rfl, rfl, rfl⟩ := h_3061
          refine v_iconst hC dX12_lists_58 (v := 1) (by decide) ?_
          have jn_3109 : ∀ (v_3110 : Int32) (b_3111 : (0 ≤ v_3110.toInt ∧ v_3110.toInt ≤ 15)), V z E 7 0 0 L f_2970 92 [(4, .int v_3056), (3, .int i_2968), (2, .int i_2969), (0, .ref a_0), (1, .int a_1)] [.int v_3110] := by
            intro v_3110 b_3111
            refine v_istore hC dX12_lists_92 (by decide) (lv' := [(5, .int v_3110), (4, .int v_3056), (3, .int i_2968), (2, .int i_2969), (0, .ref a_0), (1, .int a_1)]) rfl ?_
            refine v_iload hC dX12_lists_94 rfl ?_
            refine v_aload_n hC dX12_lists_96 rfl ?_
            refine v_vi hC (rest := [.int v_3056]) m_1 e_2982 rfl mi_X12_wide ms_X12_wide (p_X12_wide hW_2971 k_0 hf_2973 o_w) mx_X12_wide ml_X12_87 (by decide) rfl (cells1 := 0) (slots1 := 0) (by decide) (by decide) (Nat.le_of_ble_eq_true rfl) (Nat.le_of_ble_eq_true rfl) rfl (Nat.le_of_ble_eq_true rfl) dX12_lists_97 (fun r_3112 L_3113 f_3114 h_3115 => ?_)
            obtain ⟨rfl, rfl, rfl⟩ := h_3115
            obtain ⟨v_3118, h_3119⟩ : ∃ v9 : Int32, v_3056 * (g_w 1) = v9 := ⟨_, rfl⟩
            refine v_imul hC dX12_lists_100 h_3119 ?_
            have h_3120 := mul_v 15 16 240 h_3119 (by first | omega | (simp only [Int32.lt_iff_toInt_lt, Int32.le_iff_toInt_le, Int32.reduceToInt, ← Int32.toInt_inj, true_and, and_true, or_true, true_or, false_or, or_false, false_and, and_false, not_true_eq_false, not_false_eq_true] <;> omega)) (by first | omega | (simp only [Int32.lt_iff_toInt_lt, Int32.le_iff_toInt_le, Int32.reduceToInt, ← Int32.toInt_inj, true_and, and_true, or_true, true_or, false_or, or_false, false_and, and_false, not_true_eq_false, not_false_eq_true] <;> omega)) (by decide) (by decide)
            refine v_iload hC dX12_lists_101 rfl ?_
            obtain ⟨v_3121, h_3122⟩ : ∃ v9 : Int32, v_3118 + v_3110 = v9 := ⟨_, rfl⟩
            refine v_iadd hC dX12_lists_103 h_3122 ?_
            have h_3123 := add_v h_3122 (by first | omega | (simp only [Int32.lt_iff_toInt_lt, Int32.le_iff_toInt_le, Int32.reduceToInt, ← Int32.toInt_inj, true_and, and_true, or_true, true_or, false_or, or_false, false_and, and_false, not_true_eq_false, not_false_eq_true] <;> omega)) (by first | omega | (simp only [Int32.lt_iff_toInt_lt, Int32.le_iff_toInt_le, Int32.reduceToInt, ← Int32.toInt_inj, true_and, and_true, or_true, true_or, false_or, or_false, false_and, and_false, not_true_eq_false, not_false_eq_true] <;> omega))
            refine v_istore hC dX12_lists_104 (by decide) (lv' := [(6, .int v_3121), (5, .int v_3110), (4, .int v_3056), (3, .int i_2968), (2, .int i_2969), (0, .ref a_0), (1, .int a_1)]) rfl ?_
            refine v_aload_n hC dX12_lists_106 rfl ?_
            refine v_iload_n hC dX12_lists_107 rfl ?_
            refine v_iconst hC dX12_lists_108 (v := 1) (by decide) ?_
            refine v_vi hC (rest := []) m_1 e_2982 rfl mi_X12_ofWay ms_X12_ofWay (p_X12_ofWay hW_2971 k_0 (by first | omega | (simp only [Int32.lt_iff_toInt_lt, Int32.le_iff_toInt_le, Int32.reduceToInt, ← Int32.toInt_inj, true_and, and_true, or_true, true_or, false_or, or_false, false_and, and_false, not_true_eq_false, not_false_eq_true] <;> omega)) (by decide) hf_2973 o_w) mx_X12_ofWay ml_X12_94 (by decide) rfl (cells1 := 0) (slots1 := 0) (by decide) (by decide) (Nat.le_of_ble_eq_true rfl) (Nat.le_of_ble_eq_true rfl) rfl (Nat.le_of_ble_eq_true rfl) dX12_lists_109 (fun r_3124 L_3125 f_3126 h_3127 => ?_)
            obtain ⟨rfl, rfl, rfl⟩ := h_3127
            refine v_aload_n hC dX12_lists_112 rfl ?_
            refine v_iload hC dX12_lists_113 rfl ?_
            refine v_vi hC (rest := [.int (wv g_w a_1 1)]) m_1 e_2982 rfl mi_X12_sortOf ms_X12_sortOf (p_X12_sortOf hW_2971 k_0 (by first | omega | (simp only [Int32.lt_iff_toInt_lt, Int32.le_iff_toInt_le, Int32.reduceToInt, ← Int32.toInt_inj, true_and, and_true, or_true, true_or, false_or, or_false, false_and, and_false, not_true_eq_false, not_false_eq_true] <;> omega)) hf_2973 o_w (by first | omega | (simp only [Int32.lt_iff_toInt_lt, Int32.le_iff_toInt_le, Int32.reduceToInt, ← Int32.toInt_inj, true_and, and_true, or_true, true_or, false_or, or_false, false_and, and_false, not_true_eq_false, not_false_eq_true] <;> omega))) mx_X12_sortOf ml_X12_98 (by decide) rfl (cells1 := 0) (slots1 := 0) (by decide) (by decide) (Nat.le_of_ble_eq_true rfl) (Nat.le_of_ble_eq_true rfl) rfl (Nat.le_of_ble_eq_true rfl) dX12_lists_115 (fun r_3130 L_3131 f_3132 h_3133 => ?_)
            obtain ⟨rfl, rfl, b_3134⟩ := h_3133
            obtain ⟨v_3137, h_3138⟩ : ∃ v9 : Int32, (wv g_w a_1 1) >>> (r_3130 &&& 31) = v9 := ⟨_, rfl⟩
            refine v_ishr hC dX12_lists_118 h_3138 ?_
            refine v_iconst hC dX12_lists_119 (v := 1) (by decide) ?_
            obtain ⟨v_3140, h_3141⟩ : ∃ v9 : Int32, v_3137 &&& 1 = v9 := ⟨_, rfl⟩
            refine v_iand hC dX12_lists_120 h_3141 ?_
            have h_3142 := and_v h_3141 (by decide)
            try simp only [Int32.reduceToInt] at h_3142
            refine v_if_ne hC dX12_lists_121 (tgt := 127) (by decide) (fun h_3143 => ?_) (fun h_3143 => ?_)
            · simp only [Int32.lt_iff_toInt_lt, Int32.le_iff_toInt_le, Int32.reduceToInt, ← Int32.toInt_inj] at h_3143
              obtain ⟨v_3144, h_3145⟩ : ∃ v9 : Int32, i_2969 + Int32.ofInt 1 = v9 := ⟨_, rfl⟩
              refine v_iinc hC dX12_lists_127 (k := 4) rfl (v := v_3144) h_3145 (by decide) (lv' := [(2, .int v_3144), (6, .int v_3121), (5, .int v_3110), (4, .int v_3056), (3, .int i_2968), (0, .ref a_0), (1, .int a_1)]) rfl ?_
              refine v_iload_n hC dX12_lists_130 rfl ?_
              refine v_aload_n hC dX12_lists_131 rfl ?_
              refine v_iload_n hC dX12_lists_132 rfl ?_
              refine v_iconst hC dX12_lists_133 (v := 2) (by decide) ?_
              refine v_vi hC (rest := [.int v_3144]) m_1 e_2982 rfl mi_X12_ofWay ms_X12_ofWay (p_X12_ofWay hW_2971 k_0 (by first | omega | (simp only [Int32.lt_iff_toInt_lt, Int32.le_iff_toInt_le, Int32.reduceToInt, ← Int32.toInt_inj, true_and, and_true, or_true, true_or, false_or, or_false, false_and, and_false, not_true_eq_false, not_false_eq_true] <;> omega)) (by decide) hf_2973 o_w) mx_X12_ofWay ml_X12_94 (by decide) rfl (cells1 := 0) (slots1 := 0) (by decide) (by decide) (Nat.le_of_ble_eq_true rfl) (Nat.le_of_ble_eq_true rfl) rfl (Nat.le_of_ble_eq_true rfl) dX12_lists_134 (fun r_3146 L_3147 f_3148 h_3149 => ?_)
              obtain ⟨rfl, rfl, rfl⟩ := h_3149
              obtain ⟨v_3152, h_3153⟩ : ∃ v9 : Int32, v_3144 - v_3144 / (wv g_w a_1 2) * (wv g_w a_1 2) = v9 := ⟨_, rfl⟩
              refine v_irem hC dX12_lists_137 (by first | omega | (simp only [Int32.lt_iff_toInt_lt, Int32.le_iff_toInt_le, Int32.reduceToInt, ← Int32.toInt_inj, true_and, and_true, or_true, true_or, false_or, or_false, false_and, and_false, not_true_eq_false, not_false_eq_true] <;> omega)) h_3153 ?_
              refine v_if_eq hC dX12_lists_138 (tgt := 144) (by decide) (fun h_3155 => ?_) (fun h_3155 => ?_)
              · simp only [Int32.lt_iff_toInt_lt, Int32.le_iff_toInt_le, Int32.reduceToInt, ← Int32.toInt_inj] at h_3155
                refine v_aload_n hC dX12_lists_144 rfl ?_
                refine v_get hC fl_X12_40 m_1 e_2982 rfl dX12_lists_145 ?_
                refine v_aload_n hC dX12_lists_148 rfl ?_
                refine v_get hC fl_X12_335 m_1 e_2982 rfl dX12_lists_149 ?_
                refine v_iload hC dX12_lists_152 rfl ?_
                obtain ⟨m_3156, t_3157⟩ := id k_10
                obtain ⟨g_3159, e_3158, ok_3160⟩ := hW_2971.at m_3156 t_3157
                refine v_iast hC m_3156 e_3158 (vp_in_iff.mpr (by first | omega | (simp only [Int32.lt_iff_toInt_lt, Int32.le_iff_toInt_le, Int32.reduceToInt, ← Int32.toInt_inj, true_and, and_true, or_true, true_or, false_or, or_false, false_and, and_false, not_true_eq_false, not_false_eq_true] <;> omega))) dX12_lists_154 (fun f_3161 hf_3162 hk_3163 => ?_)
                have hW_3165 := hW_2971.up hf_3162 hk_3163 t_3157 ⟨_, rfl, (ok_3160.up (by first | omega | (simp only [Int32.lt_iff_toInt_lt, Int32.le_iff_toInt_le, Int32.reduceToInt, ← Int32.toInt_inj, true_and, and_true, or_true, true_or, false_or, or_false, false_and, and_false, not_true_eq_false, not_false_eq_true] <;> omega)))⟩
                obtain ⟨g_3164, hf_3162, ok_3166, eg_3167⟩ : ∃ g9, f_3161 (q 16) = aI E 256 g9 ∧ POK g9 ∧ g9 = upd g_3159 (v_2997 : Int32).toNatClampNeg v_3121 := ⟨_, hf_3162, (ok_3160.up (by first | omega | (simp only [Int32.lt_iff_toInt_lt, Int32.le_iff_toInt_le, Int32.reduceToInt, ← Int32.toInt_inj, true_and, and_true, or_true, true_or, false_or, or_false, false_and, and_false, not_true_eq_false, not_false_eq_true] <;> omega))), rfl⟩
                have hf_3168 := (hk_3163 (q 1) (ne_kd hf_2973 e_3158 rfl)).trans hf_2973
                have hf_3169 := (hk_3163 a_0 (ne_kd e_2982 e_3158 rfl)).trans e_2982
                have fr_3170 := FR.w hk_3163 e_3158 (k := 356) rfl
                refine v_aload_n hC dX12_lists_155 rfl ?_
                refine v_dup hC dX12_lists_156 rfl ?_
                refine v_get hC fl_X12_335 m_1 hf_3169 rfl dX12_lists_157 ?_
                refine v_iconst hC dX12_lists_160 (v := 1) (by decide) ?_
                obtain ⟨v_3171, h_3172⟩ : ∃ v9 : Int32, v_2997 + 1 = v9 := ⟨_, rfl⟩
                refine v_iadd hC dX12_lists_161 h_3172 ?_
                have h_3173 := add_v h_3172 (by first | omega | (simp only [Int32.lt_iff_toInt_lt, Int32.le_iff_toInt_le, Int32.reduceToInt, ← Int32.toInt_inj, true_and, and_true, or_true, true_or, false_or, or_false, false_and, and_false, not_true_eq_false, not_false_eq_true] <;> omega)) (by first | omega | (simp only [Int32.lt_iff_toInt_lt, Int32.le_iff_toInt_le, Int32.reduceToInt, ← Int32.toInt_inj, true_and, and_true, or_true, true_or, false_or, or_false, false_and, and_false, not_true_eq_false, not_false_eq_true] <;> omega))
                try simp only [Int32.reduceToInt] at h_3173
                refine v_put hC fl_X12_335 m_1 hf_3169 rfl rfl (Nat.le_of_ble_eq_true rfl) (fs' := [.int v_2983, .ref (q 1), .ref (q 2), .ref (q 3), .ref (q 4), .int v_2984, .ref (q 6), .int v_2986, .int v_2988, .int v_2990, .int v_2992, .int v_2994, .int v_2995, .int v_2996, .ref (q 14), .ref (q 15), .ref (q 16), .int v_3171, .ref (q 18), .ref (q 19), .int v_2999, .ref (q 21), .ref (q 22), .ref (q 23), .ref (q 24), .ref (q 25), .ref (q 26), .ref (q 27), .ref (q 28)]) rfl dX12_lists_162 (fun f_3174 hf_3175 hk_3176 => ?_)
                have hW_3177 := hW_3165.up hf_3175 hk_3176 t_2 ⟨v_2983, v_2984, v_2986, v_2988, v_2990, v_2992, v_2994, v_2995, v_2996, v_3171, v_2999, rfl, (by first | omega | (simp only [Int32.lt_iff_toInt_lt, Int32.le_iff_toInt_le, Int32.reduceToInt, ← Int32.toInt_inj, true_and, and_true, or_true, true_or, false_or, or_false, false_and, and_false, not_true_eq_false, not_false_eq_true] <;> omega)), (by first | omega | (simp only [Int32.lt_iff_toInt_lt, Int32.le_iff_toInt_le, Int32.reduceToInt, ← Int32.toInt_inj, true_and, and_true, or_true, true_or, false_or, or_false, false_and, and_false, not_true_eq_false, not_false_eq_true] <;> omega)), (by first | omega | (simp only [Int32.lt_iff_toInt_lt, Int32.le_iff_toInt_le, Int32.reduceToInt, ← Int32.toInt_inj, true_and, and_true, or_true, true_or, false_or, or_false, false_and, and_false, not_true_eq_false, not_false_eq_true] <;> omega)), (by first | omega | (simp only [Int32.lt_iff_toInt_lt, Int32.le_iff_toInt_le, Int32.reduceToInt, ← Int32.toInt_inj, true_and, and_true, or_true, true_or, false_or, or_false, false_and, and_false, not_true_eq_false, not_false_eq_true] <;> omega)), (by first | omega | (simp only [Int32.lt_iff_toInt_lt, Int32.le_iff_toInt_le, Int32.reduceToInt, ← Int32.toInt_inj, true_and, and_true, or_true, true_or, false_or, or_false, false_and, and_false, not_true_eq_false, not_false_eq_true] <;> omega)), (by first | omega | (simp only [Int32.lt_iff_toInt_lt, Int32.le_iff_toInt_le, Int32.reduceToInt, ← Int32.toInt_inj, true_and, and_true, or_true, true_or, false_or, or_false, false_and, and_false, not_true_eq_false, not_false_eq_true] <;> omega)), (by first | omega | (simp only [Int32.lt_iff_toInt_lt, Int32.le_iff_toInt_le, Int32.reduceToInt, ← Int32.toInt_inj, true_and, and_true, or_true, true_or, false_or, or_false, false_and, and_false, not_true_eq_false, not_false_eq_true] <;> omega))⟩
                have hf_3178 := (hk_3176 (q 1) (ne_kd hf_3168 hf_3169 rfl)).trans hf_3168
                have hf_3179 := (hk_3176 (q 16) (ne_kd hf_3162 hf_3169 rfl)).trans hf_3162
                have fr_3180 := FR.w hk_3176 hf_3169 (k := 12) rfl
                obtain ⟨v_3181, h_3182⟩ : ∃ v9 : Int32, i_2968 + Int32.ofInt 1 = v9 := ⟨_, rfl⟩
                have h_3183 := add_v (b := 1) h_3182 (by first | omega | (simp only [Int32.lt_iff_toInt_lt, Int32.le_iff_toInt_le, Int32.reduceToInt, ← Int32.toInt_inj, true_and, and_true, or_true, true_or, false_or, or_false, false_and, and_false, not_true_eq_false, not_false_eq_true] <;> omega)) (by first | omega | (simp only [Int32.lt_iff_toInt_lt, Int32.le_iff_toInt_le, Int32.reduceToInt, ← Int32.toInt_inj, true_and, and_true, or_true, true_or, false_or, or_false, false_and, and_false, not_true_eq_false, not_false_eq_true] <;> omega))
                simp only [Int32.reduceToInt] at h_3183
                refine v_iinc hC dX12_lists_165 (k := 4) rfl (v := v_3181) h_3182 (by decide) (lv' := [(3, .int v_3181), (2, .int v_3144), (6, .int v_3121), (5, .int v_3110), (4, .int v_3056), (0, .ref a_0), (1, .int a_1)]) rfl ?_
                refine v_goto hC dX12_lists_168 (tgt := 9) (by decide) ?_
                refine v_pick [0, 1, 5, 6] rfl ?_
                have fe_3184 : fld (f_3174 a_0) 17 = (v_3171 : Int32).toInt := by rw [hf_3175]; rfl
                have fe_3185 : fld (f_3174 a_0) 20 = (v_2999 : Int32).toInt := by rw [hf_3175]; rfl
                exact ih_2980 f_3174 hW_3177 (((hF_2972.tr fr_3170).tr fr_3180).mono rfl) v_3181 (by first | omega | (simp only [Int32.lt_iff_toInt_lt, Int32.le_iff_toInt_le, Int32.reduceToInt, ← Int32.toInt_inj, true_and, and_true, or_true, true_or, false_or, or_false, false_and, and_false, not_true_eq_false, not_false_eq_true] <;> omega)) v_3144 (by rw [fe_3184] <;> first | omega | (simp only [Int32.lt_iff_toInt_lt, Int32.le_iff_toInt_le, Int32.reduceToInt, ← Int32.toInt_inj, true_and, and_true, or_true, true_or, false_or, or_false, false_and, and_false, not_true_eq_false, not_false_eq_true] <;> omega)) (by first | omega | (simp only [Int32.lt_iff_toInt_lt, Int32.le_iff_toInt_le, Int32.reduceToInt, ← Int32.toInt_inj, true_and, and_true, or_true, true_or, false_or, or_false, false_and, and_false, not_true_eq_false, not_false_eq_true] <;> omega)) (by rw [fe_3185] <;> first | omega | (simp only [Int32.lt_iff_toInt_lt, Int32.le_iff_toInt_le, Int32.reduceToInt, ← Int32.toInt_inj, true_and, and_true, or_true, true_or, false_or, or_false, false_and, and_false, not_true_eq_false, not_false_eq_true] <;> omega)) (by first | omega | (simp only [Int32.lt_iff_toInt_lt, Int32.le_iff_toInt_le, Int32.reduceToInt, ← Int32.toInt_inj, true_and, and_true, or_true, true_or, false_or, or_false, false_and, and_false, not_true_eq_false, not_false_eq_true] <;> omega))
              · simp only [Int32.lt_iff_toInt_lt, Int32.le_iff_toInt_le, Int32.reduceToInt, ← Int32.toInt_inj] at h_3155
                refine v_goto hC dX12_lists_141 (tgt := 165) (by decide) ?_
                obtain ⟨v_3186, h_3187⟩ : ∃ v9 : Int32, i_2968 + Int32.ofInt 1 = v9 := ⟨_, rfl⟩
                have h_3188 := add_v (b := 1) h_3187 (by first | omega | (simp only [Int32.lt_iff_toInt_lt, Int32.le_iff_toInt_le, Int32.reduceToInt, ← Int32.toInt_inj, true_and, and_true, or_true, true_or, false_or, or_false, false_and, and_false, not_true_eq_false, not_false_eq_true] <;> omega)) (by first | omega | (simp only [Int32.lt_iff_toInt_lt, Int32.le_iff_toInt_le, Int32.reduceToInt, ← Int32.toInt_inj, true_and, and_true, or_true, true_or, false_or, or_false, false_and, and_false, not_true_eq_false, not_false_eq_true] <;> omega))
                simp only [Int32.reduceToInt] at h_3188
                refine v_iinc hC dX12_lists_165 (k := 4) rfl (v := v_3186) h_3187 (by decide) (lv' := [(3, .int v_3186), (2, .int v_3144), (6, .int v_3121), (5, .int v_3110), (4, .int v_3056), (0, .ref a_0), (1, .int a_1)]) rfl ?_
                refine v_goto hC dX12_lists_168 (tgt := 9) (by decide) ?_
                refine v_pick [0, 1, 5, 6] rfl ?_
                have fe_3189 : fld (f_2970 a_0) 17 = (v_2997 : Int32).toInt := by rw [e_2982]; rfl
                have fe_3190 : fld (f_2970 a_0) 20 = (v_2999 : Int32).toInt := by rw [e_2982]; rfl
                exact ih_2980 f_2970 hW_2971 (hF_2972.mono rfl) v_3186 (by first | omega | (simp only [Int32.lt_iff_toInt_lt, Int32.le_iff_toInt_le, Int32.reduceToInt, ← Int32.toInt_inj, true_and, and_true, or_true, true_or, false_or, or_false, false_and, and_false, not_true_eq_false, not_false_eq_true] <;> omega)) v_3144 (by rw [fe_3189] <;> first | omega | (simp only [Int32.lt_iff_toInt_lt, Int32.le_iff_toInt_le, Int32.reduceToInt, ← Int32.toInt_inj, true_and, and_true, or_true, true_or, false_or, or_false, false_and, and_false, not_true_eq_false, not_false_eq_true] <;> omega)) (by first | omega | (simp only [Int32.lt_iff_toInt_lt, Int32.le_iff_toInt_le, Int32.reduceToInt, ← Int32.toInt_inj, true_and, and_true, or_true, true_or, false_or, or_false, false_and, and_false, not_true_eq_false, not_false_eq_true] <;> omega)) (by rw [fe_3190] <;> first | omega | (simp only [Int32.lt_iff_toInt_lt, Int32.le_iff_toInt_le, Int32.reduceToInt, ← Int32.toInt_inj, true_and, and_true, or_true, true_or, false_or, or_false, false_and, and_false, not_true_eq_false, not_false_eq_true] <;> omega)) (by first | omega | (simp only [Int32.lt_iff_toInt_lt, Int32.le_iff_toInt_le, Int32.reduceToInt, ← Int32.toInt_inj, true_and, and_true, or_true, true_or, false_or, or_false, false_and, and_false, not_true_eq_false, not_false_eq_true] <;> omega))
            · simp only [Int32.lt_iff_toInt_lt, Int32.le_iff_toInt_le, Int32.reduceToInt, ← Int32.toInt_inj] at h_3143
              refine v_goto hC dX12_lists_124 (tgt := 165) (by decide) ?_
              obtain ⟨v_3191, h_3192⟩ : ∃ v9 : Int32, i_2968 + Int32.ofInt 1 = v9 := ⟨_, rfl⟩
              have h_3193 := add_v (b := 1) h_3192 (by first | omega | (simp only [Int32.lt_iff_toInt_lt, Int32.le_iff_toInt_le, Int32.reduceToInt, ← Int32.toInt_inj, true_and, and_true, or_true, true_or, false_or, or_false, false_and, and_false, not_true_eq_false, not_false_eq_true] <;> omega)) (by first | omega | (simp only [Int32.lt_iff_toInt_lt, Int32.le_iff_toInt_le, Int32.reduceToInt, ← Int32.toInt_inj, true_and, and_true, or_true, true_or, false_or, or_false, false_and, and_false, not_true_eq_false, not_false_eq_true] <;> omega))
              simp only [Int32.reduceToInt] at h_3193
              refine v_iinc hC dX12_lists_165 (k := 3) rfl (v := v_3191) h_3192 (by decide) (lv' := [(3, .int v_3191), (6, .int v_3121), (5, .int v_3110), (4, .int v_3056), (2, .int i_2969), (0, .ref a_0), (1, .int a_1)]) rfl ?_
              refine v_goto hC dX12_lists_168 (tgt := 9) (by decide) ?_
              refine v_pick [0, 4, 5, 6] rfl ?_
              have fe_3194 : fld (f_2970 a_0) 17 = (v_2997 : Int32).toInt := by rw [e_2982]; rfl
              have fe_3195 : fld (f_2970 a_0) 20 = (v_2999 : Int32).toInt := by rw [e_2982]; rfl
              exact ih_2980 f_2970 hW_2971 (hF_2972.mono rfl) v_3191 (by first | omega | (simp only [Int32.lt_iff_toInt_lt, Int32.le_iff_toInt_le, Int32.reduceToInt, ← Int32.toInt_inj, true_and, and_true, or_true, true_or, false_or, or_false, false_and, and_false, not_true_eq_false, not_false_eq_true] <;> omega)) i_2969 (by rw [fe_3194] <;> first | omega | (simp only [Int32.lt_iff_toInt_lt, Int32.le_iff_toInt_le, Int32.reduceToInt, ← Int32.toInt_inj, true_and, and_true, or_true, true_or, false_or, or_false, false_and, and_false, not_true_eq_false, not_false_eq_true] <;> omega)) (by first | omega | (simp only [Int32.lt_iff_toInt_lt, Int32.le_iff_toInt_le, Int32.reduceToInt, ← Int32.toInt_inj, true_and, and_true, or_true, true_or, false_or, or_false, false_and, and_false, not_true_eq_false, not_false_eq_true] <;> omega)) (by rw [fe_3195] <;> first | omega | (simp only [Int32.lt_iff_toInt_lt, Int32.le_iff_toInt_le, Int32.reduceToInt, ← Int32.toInt_inj, true_and, and_true, or_true, true_or, false_or, or_false, false_and, and_false, not_true_eq_false, not_false_eq_true] <;> omega)) (by first | omega | (simp only [Int32.lt_iff_toInt_lt, Int32.le_iff_toInt_le, Int32.reduceToInt, ← Int32.toInt_inj, true_and, and_true, or_true, true_or, false_or, or_false, false_and, and_false, not_true_eq_false, not_false_eq_true] <;> omega))
          refine v_icmp_ne hC dX12_lists_59 (tgt := 86) (by decide) (fun h_3064 => ?_) (fun h_3064 => ?_)
          · simp only [Int32.lt_iff_toInt_lt, Int32.le_iff_toInt_le, Int32.reduceToInt, ← Int32.toInt_inj] at h_3064
            refine v_iload_n hC dX12_lists_86 rfl ?_
            refine v_aload_n hC dX12_lists_87 rfl ?_
            refine v_vi hC (rest := [.int i_2968]) m_1 e_2982 rfl mi_X12_wide ms_X12_wide (p_X12_wide hW_2971 k_0 hf_2973 o_w) mx_X12_wide ml_X12_87 (by decide) rfl (cells1 := 0) (slots1 := 0) (by decide) (by decide) (Nat.le_of_ble_eq_true rfl) (Nat.le_of_ble_eq_true rfl) rfl (Nat.le_of_ble_eq_true rfl) dX12_lists_88 (fun r_3196 L_3197 f_3198 h_3199 => ?_)
            obtain ⟨rfl, rfl, rfl⟩ := h_3199
            obtain ⟨v_3202, h_3203⟩ : ∃ v9 : Int32, i_2968 - i_2968 / (g_w 1) * (g_w 1) = v9 := ⟨_, rfl⟩
            refine v_irem hC dX12_lists_91 (by first | omega | (simp only [Int32.lt_iff_toInt_lt, Int32.le_iff_toInt_le, Int32.reduceToInt, ← Int32.toInt_inj, true_and, and_true, or_true, true_or, false_or, or_false, false_and, and_false, not_true_eq_false, not_false_eq_true] <;> omega)) h_3203 ?_
            have h_3204 := rem_v h_3203 (by first | omega | (simp only [Int32.lt_iff_toInt_lt, Int32.le_iff_toInt_le, Int32.reduceToInt, ← Int32.toInt_inj, true_and, and_true, or_true, true_or, false_or, or_false, false_and, and_false, not_true_eq_false, not_false_eq_true] <;> omega)) (by first | omega | (simp only [Int32.lt_iff_toInt_lt, Int32.le_iff_toInt_le, Int32.reduceToInt, ← Int32.toInt_inj, true_and, and_true, or_true, true_or, false_or, or_false, false_and, and_false, not_true_eq_false, not_false_eq_true] <;> omega))
            refine v_pick [0, 1, 2, 3, 4] rfl ?_
            exact jn_3109 v_3202 (by first | omega | (simp only [Int32.lt_iff_toInt_lt, Int32.le_iff_toInt_le, Int32.reduceToInt, ← Int32.toInt_inj, true_and, and_true, or_true, true_or, false_or, or_false, false_and, and_false, not_true_eq_false, not_false_eq_true] <;> omega))
          · simp only [Int32.lt_iff_toInt_lt, Int32.le_iff_toInt_le, Int32.reduceToInt, ← Int32.toInt_inj] at h_3064
            refine v_iload hC dX12_lists_62 rfl ?_
            refine v_iconst hC dX12_lists_64 (v := 2) (by decide) ?_
            obtain ⟨v_3205, h_3206⟩ : ∃ v9 : Int32, v_3056 - v_3056 / 2 * 2 = v9 := ⟨_, rfl⟩
            refine v_irem hC dX12_lists_65 (by decide) h_3206 ?_
            have h_3207 := rem_v h_3206 (by first | omega | (simp only [Int32.lt_iff_toInt_lt, Int32.le_iff_toInt_le, Int32.reduceToInt, ← Int32.toInt_inj, true_and, and_true, or_true, true_or, false_or, or_false, false_and, and_false, not_true_eq_false, not_false_eq_true] <;> omega)) (by decide)
            try simp only [Int32.reduceToInt] at h_3207
            refine v_iconst hC dX12_lists_66 (v := 1) (by decide) ?_
            refine v_icmp_ne hC dX12_lists_67 (tgt := 86) (by decide) (fun h_3208 => ?_) (fun h_3208 => ?_)
            · simp only [Int32.lt_iff_toInt_lt, Int32.le_iff_toInt_le, Int32.reduceToInt, ← Int32.toInt_inj] at h_3208
              refine v_iload_n hC dX12_lists_86 rfl ?_
              refine v_aload_n hC dX12_lists_87 rfl ?_
              refine v_vi hC (rest := [.int i_2968]) m_1 e_2982 rfl mi_X12_wide ms_X12_wide (p_X12_wide hW_2971 k_0 hf_2973 o_w) mx_X12_wide ml_X12_87 (by decide) rfl (cells1 := 0) (slots1 := 0) (by decide) (by decide) (Nat.le_of_ble_eq_true rfl) (Nat.le_of_ble_eq_true rfl) rfl (Nat.le_of_ble_eq_true rfl) dX12_lists_88 (fun r_3209 L_3210 f_3211 h_3212 => ?_)
              obtain ⟨rfl, rfl, rfl⟩ := h_3212
              obtain ⟨v_3215, h_3216⟩ : ∃ v9 : Int32, i_2968 - i_2968 / (g_w 1) * (g_w 1) = v9 := ⟨_, rfl⟩
              refine v_irem hC dX12_lists_91 (by first | omega | (simp only [Int32.lt_iff_toInt_lt, Int32.le_iff_toInt_le, Int32.reduceToInt, ← Int32.toInt_inj, true_and, and_true, or_true, true_or, false_or, or_false, false_and, and_false, not_true_eq_false, not_false_eq_true] <;> omega)) h_3216 ?_
              have h_3217 := rem_v h_3216 (by first | omega | (simp only [Int32.lt_iff_toInt_lt, Int32.le_iff_toInt_le, Int32.reduceToInt, ← Int32.toInt_inj, true_and, and_true, or_true, true_or, false_or, or_false, false_and, and_false, not_true_eq_false, not_false_eq_true] <;> omega)) (by first | omega | (simp only [Int32.lt_iff_toInt_lt, Int32.le_iff_toInt_le, Int32.reduceToInt, ← Int32.toInt_inj, true_and, and_true, or_true, true_or, false_or, or_false, false_and, and_false, not_true_eq_false, not_false_eq_true] <;> omega))
              refine v_pick [0, 1, 2, 3, 4] rfl ?_
              exact jn_3109 v_3215 (by first | omega | (simp only [Int32.lt_iff_toInt_lt, Int32.le_iff_toInt_le, Int32.reduceToInt, ← Int32.toInt_inj, true_and, and_true, or_true, true_or, false_or, or_false, false_and, and_false, not_true_eq_false, not_false_eq_true] <;> omega))
            · simp only [Int32.lt_iff_toInt_lt, Int32.le_iff_toInt_le, Int32.reduceToInt, ← Int32.toInt_inj] at h_3208
              refine v_aload_n hC dX12_lists_70 rfl ?_
              refine v_vi hC (rest := []) m_1 e_2982 rfl mi_X12_wide ms_X12_wide (p_X12_wide hW_2971 k_0 hf_2973 o_w) mx_X12_wide ml_X12_87 (by decide) rfl (cells1 := 0) (slots1 := 0) (by decide) (by decide) (Nat.le_of_ble_eq_true rfl) (Nat.le_of_ble_eq_true rfl) rfl (Nat.le_of_ble_eq_true rfl) dX12_lists_71 (fun r_3218 L_3219 f_3220 h_3221 => ?_)
              obtain ⟨rfl, rfl, rfl⟩ := h_3221
              refine v_iconst hC dX12_lists_74 (v := 1) (by decide) ?_
              obtain ⟨v_3224, h_3225⟩ : ∃ v9 : Int32, (g_w 1) - 1 = v9 := ⟨_, rfl⟩
              refine v_isub hC dX12_lists_75 h_3225 ?_
              have h_3226 := sub_v h_3225 (by first | omega | (simp only [Int32.lt_iff_toInt_lt, Int32.le_iff_toInt_le, Int32.reduceToInt, ← Int32.toInt_inj, true_and, and_true, or_true, true_or, false_or, or_false, false_and, and_false, not_true_eq_false, not_false_eq_true] <;> omega)) (by first | omega | (simp only [Int32.lt_iff_toInt_lt, Int32.le_iff_toInt_le, Int32.reduceToInt, ← Int32.toInt_inj, true_and, and_true, or_true, true_or, false_or, or_false, false_and, and_false, not_true_eq_false, not_false_eq_true] <;> omega))
              try simp only [Int32.reduceToInt] at h_3226
              refine v_iload_n hC dX12_lists_76 rfl ?_
              refine v_aload_n hC dX12_lists_77 rfl ?_
              refine v_vi hC (rest := [.int i_2968, .int v_3224]) m_1 e_2982 rfl mi_X12_wide ms_X12_wide (p_X12_wide hW_2971 k_0 hf_2973 o_w) mx_X12_wide ml_X12_87 (by decide) rfl (cells1 := 0) (slots1 := 0) (by decide) (by decide) (Nat.le_of_ble_eq_true rfl) (Nat.le_of_ble_eq_true rfl) rfl (Nat.le_of_ble_eq_true rfl) dX12_lists_78 (fun r_3227 L_3228 f_3229 h_3230 => ?_)
              obtain ⟨rfl, rfl, rfl⟩ := h_3230
              obtain ⟨v_3233, h_3234⟩ : ∃ v9 : Int32, i_2968 - i_2968 / (g_w 1) * (g_w 1) = v9 := ⟨_, rfl⟩
              refine v_irem hC dX12_lists_81 (by first | omega | (simp only [Int32.lt_iff_toInt_lt, Int32.le_iff_toInt_le, Int32.reduceToInt, ← Int32.toInt_inj, true_and, and_true, or_true, true_or, false_or, or_false, false_and, and_false, not_true_eq_false, not_false_eq_true] <;> omega)) h_3234 ?_
              have h_3235 := rem_v h_3234 (by first | omega | (simp only [Int32.lt_iff_toInt_lt, Int32.le_iff_toInt_le, Int32.reduceToInt, ← Int32.toInt_inj, true_and, and_true, or_true, true_or, false_or, or_false, false_and, and_false, not_true_eq_false, not_false_eq_true] <;> omega)) (by first | omega | (simp only [Int32.lt_iff_toInt_lt, Int32.le_iff_toInt_le, Int32.reduceToInt, ← Int32.toInt_inj, true_and, and_true, or_true, true_or, false_or, or_false, false_and, and_false, not_true_eq_false, not_false_eq_true] <;> omega))
              obtain ⟨v_3236, h_3237⟩ : ∃ v9 : Int32, v_3224 - v_3233 = v9 := ⟨_, rfl⟩
              refine v_isub hC dX12_lists_82 h_3237 ?_
              have h_3238 := sub_v h_3237 (by first | omega | (simp only [Int32.lt_iff_toInt_lt, Int32.le_iff_toInt_le, Int32.reduceToInt, ← Int32.toInt_inj, true_and, and_true, or_true, true_or, false_or, or_false, false_and, and_false, not_true_eq_false, not_false_eq_true] <;> omega)) (by first | omega | (simp only [Int32.lt_iff_toInt_lt, Int32.le_iff_toInt_le, Int32.reduceToInt, ← Int32.toInt_inj, true_and, and_true, or_true, true_or, false_or, or_false, false_and, and_false, not_true_eq_false, not_false_eq_true] <;> omega))
              have b_3239 : (0 ≤ v_3236.toInt ∧ v_3236.toInt ≤ 15) := (by first | omega | (simp only [Int32.lt_iff_toInt_lt, Int32.le_iff_toInt_le, Int32.reduceToInt, ← Int32.toInt_inj, true_and, and_true, or_true, true_or, false_or, or_false, false_and, and_false, not_true_eq_false, not_false_eq_true] <;> omega))
              refine v_goto hC dX12_lists_83 (tgt := 92) (by decide) ?_
              refine v_pick [0, 1, 2, 3, 4] rfl ?_
              exact jn_3109 v_3236 (by first | omega | (simp only [Int32.lt_iff_toInt_lt, Int32.le_iff_toInt_le, Int32.reduceToInt, ← Int32.toInt_inj, true_and, and_true, or_true, true_or, false_or, or_false, false_and, and_false, not_true_eq_false, not_false_eq_true] <;> omega))
        refine v_icmp_ne hC dX12_lists_25 (tgt := 44) (by decide) (fun h_3021 => ?_) (fun h_3021 => ?_)
        · simp only [Int32.lt_iff_toInt_lt, Int32.le_iff_toInt_le, Int32.reduceToInt, ← Int32.toInt_inj] at h_3021
          refine v_iload_n hC dX12_lists_44 rfl ?_
          refine v_aload_n hC dX12_lists_45 rfl ?_
          refine v_vi hC (rest := [.int i_2968]) m_1 e_2982 rfl mi_X12_wide ms_X12_wide (p_X12_wide hW_2971 k_0 hf_2973 o_w) mx_X12_wide ml_X12_87 (by decide) rfl (cells1 := 0) (slots1 := 0) (by decide) (by decide) (Nat.le_of_ble_eq_true rfl) (Nat.le_of_ble_eq_true rfl) rfl (Nat.le_of_ble_eq_true rfl) dX12_lists_46 (fun r_3240 L_3241 f_3242 h_3243 => ?_)
          obtain ⟨rfl, rfl, rfl⟩ := h_3243
          obtain ⟨v_3246, h_3247⟩ : ∃ v9 : Int32, i_2968 / (g_w 1) = v9 := ⟨_, rfl⟩
          refine v_idiv hC dX12_lists_49 (by first | omega | (simp only [Int32.lt_iff_toInt_lt, Int32.le_iff_toInt_le, Int32.reduceToInt, ← Int32.toInt_inj, true_and, and_true, or_true, true_or, false_or, or_false, false_and, and_false, not_true_eq_false, not_false_eq_true] <;> omega)) h_3247 ?_
          have h_3248 := div_v h_3247 (by first | omega | (simp only [Int32.lt_iff_toInt_lt, Int32.le_iff_toInt_le, Int32.reduceToInt, ← Int32.toInt_inj, true_and, and_true, or_true, true_or, false_or, or_false, false_and, and_false, not_true_eq_false, not_false_eq_true] <;> omega)) (by first | omega | (simp only [Int32.lt_iff_toInt_lt, Int32.le_iff_toInt_le, Int32.reduceToInt, ← Int32.toInt_inj, true_and, and_true, or_true, true_or, false_or, or_false, false_and, and_false, not_true_eq_false, not_false_eq_true] <;> omega))
          have b_3249 : (0 ≤ v_3246.toInt ∧ v_3246.toInt ≤ 15) := (by first | omega | (simp only [Int32.lt_iff_toInt_lt, Int32.le_iff_toInt_le, Int32.reduceToInt, ← Int32.toInt_inj, true_and, and_true, or_true, true_or, false_or, or_false, false_and, and_false, not_true_eq_false, not_false_eq_true] <;> omega))
          refine v_pick [0, 1, 2, 3] rfl ?_
          exact jn_3055 v_3246 (by first | omega | (simp only [Int32.lt_iff_toInt_lt, Int32.le_iff_toInt_le, Int32.reduceToInt, ← Int32.toInt_inj, true_and, and_true, or_true, true_or, false_or, or_false, false_and, and_false, not_true_eq_false, not_false_eq_true] <;> omega))
        · simp only [Int32.lt_iff_toInt_lt, Int32.le_iff_toInt_le, Int32.reduceToInt, ← Int32.toInt_inj] at h_3021
          refine v_aload_n hC dX12_lists_28 rfl ?_
          refine v_vi hC (rest := []) m_1 e_2982 rfl mi_X12_rows ms_X12_rows (p_X12_rows hW_2971 k_0 hf_2973 o_w) mx_X12_rows ml_X12_83 (by decide) rfl (cells1 := 0) (slots1 := 0) (by decide) (by decide) (Nat.le_of_ble_eq_true rfl) (Nat.le_of_ble_eq_true rfl) rfl (Nat.le_of_ble_eq_true rfl) dX12_lists_29 (fun r_3250 L_3251 f_3252 h_3253 => ?_)
          obtain ⟨rfl, rfl, rfl⟩ := h_3253
          refine v_iconst hC dX12_lists_32 (v := 1) (by decide) ?_
          obtain ⟨v_3256, h_3257⟩ : ∃ v9 : Int32, (g_w 0) - 1 = v9 := ⟨_, rfl⟩
          refine v_isub hC dX12_lists_33 h_3257 ?_
          have h_3258 := sub_v h_3257 (by first | omega | (simp only [Int32.lt_iff_toInt_lt, Int32.le_iff_toInt_le, Int32.reduceToInt, ← Int32.toInt_inj, true_and, and_true, or_true, true_or, false_or, or_false, false_and, and_false, not_true_eq_false, not_false_eq_true] <;> omega)) (by first | omega | (simp only [Int32.lt_iff_toInt_lt, Int32.le_iff_toInt_le, Int32.reduceToInt, ← Int32.toInt_inj, true_and, and_true, or_true, true_or, false_or, or_false, false_and, and_false, not_true_eq_false, not_false_eq_true] <;> omega))
          try simp only [Int32.reduceToInt] at h_3258
          refine v_iload_n hC dX12_lists_34 rfl ?_
          refine v_aload_n hC dX12_lists_35 rfl ?_
          refine v_vi hC (rest := [.int i_2968, .int v_3256]) m_1 e_2982 rfl mi_X12_wide ms_X12_wide (p_X12_wide hW_2971 k_0 hf_2973 o_w) mx_X12_wide ml_X12_87 (by decide) rfl (cells1 := 0) (slots1 := 0) (by decide) (by decide) (Nat.le_of_ble_eq_true rfl) (Nat.le_of_ble_eq_true rfl) rfl (Nat.le_of_ble_eq_true rfl) dX12_lists_36 (fun r_3259 L_3260 f_3261 h_3262 => ?_)
          obtain ⟨rfl, rfl, rfl⟩ := h_3262
          obtain ⟨v_3265, h_3266⟩ : ∃ v9 : Int32, i_2968 / (g_w 1) = v9 := ⟨_, rfl⟩
          refine v_idiv hC dX12_lists_39 (by first | omega | (simp only [Int32.lt_iff_toInt_lt, Int32.le_iff_toInt_le, Int32.reduceToInt, ← Int32.toInt_inj, true_and, and_true, or_true, true_or, false_or, or_false, false_and, and_false, not_true_eq_false, not_false_eq_true] <;> omega)) h_3266 ?_
          have h_3267 := div_v h_3266 (by first | omega | (simp only [Int32.lt_iff_toInt_lt, Int32.le_iff_toInt_le, Int32.reduceToInt, ← Int32.toInt_inj, true_and, and_true, or_true, true_or, false_or, or_false, false_and, and_false, not_true_eq_false, not_false_eq_true] <;> omega)) (by first | omega | (simp only [Int32.lt_iff_toInt_lt, Int32.le_iff_toInt_le, Int32.reduceToInt, ← Int32.toInt_inj, true_and, and_true, or_true, true_or, false_or, or_false, false_and, and_false, not_true_eq_false, not_false_eq_true] <;> omega))
          have b_3268 : (0 ≤ v_3265.toInt ∧ v_3265.toInt ≤ 15) := (by first | omega | (simp only [Int32.lt_iff_toInt_lt, Int32.le_iff_toInt_le, Int32.reduceToInt, ← Int32.toInt_inj, true_and, and_true, or_true, true_or, false_or, or_false, false_and, and_false, not_true_eq_false, not_false_eq_true] <;> omega))
          obtain ⟨v_3269, h_3270⟩ : ∃ v9 : Int32, v_3256 - v_3265 = v9 := ⟨_, rfl⟩
          refine v_isub hC dX12_lists_40 h_3270 ?_
          have h_3271 := sub_v h_3270 (by first | omega | (simp only [Int32.lt_iff_toInt_lt, Int32.le_iff_toInt_le, Int32.reduceToInt, ← Int32.toInt_inj, true_and, and_true, or_true, true_or, false_or, or_false, false_and, and_false, not_true_eq_false, not_false_eq_true] <;> omega)) (by first | omega | (simp only [Int32.lt_iff_toInt_lt, Int32.le_iff_toInt_le, Int32.reduceToInt, ← Int32.toInt_inj, true_and, and_true, or_true, true_or, false_or, or_false, false_and, and_false, not_true_eq_false, not_false_eq_true] <;> omega))
          have b_3272 : (0 ≤ v_3269.toInt ∧ v_3269.toInt ≤ 15) := (by first | omega | (simp only [Int32.lt_iff_toInt_lt, Int32.le_iff_toInt_le, Int32.reduceToInt, ← Int32.toInt_inj, true_and, and_true, or_true, true_or, false_or, or_false, false_and, and_false, not_true_eq_false, not_false_eq_true] <;> omega))
          refine v_goto hC dX12_lists_41 (tgt := 50) (by decide) ?_
          refine v_pick [0, 1, 2, 3] rfl ?_
          exact jn_3055 v_3269 (by first | omega | (simp only [Int32.lt_iff_toInt_lt, Int32.le_iff_toInt_le, Int32.reduceToInt, ← Int32.toInt_inj, true_and, and_true, or_true, true_or, false_or, or_false, false_and, and_false, not_true_eq_false, not_false_eq_true] <;> omega))
  refine v_pick [0, 1, 2, 3] rfl ?_
  have fe_3273 : fld (f_46 a_0) 17 = (0 : Int32).toInt := by rw [hf_47]; rfl
  simp only [Int32.reduceToInt] at fe_3273
  have fe_3274 : fld (f_46 a_0) 20 = (v_43 : Int32).toInt := by rw [hf_47]; rfl
  exact lp_2978 258 f_46 hW_49 FR.rf 0 (by decide) 0 (by rw [fe_3273] <;> first | omega | (simp only [Int32.lt_iff_toInt_lt, Int32.le_iff_toInt_le, Int32.reduceToInt, ← Int32.toInt_inj, true_and, and_true, or_true, true_or, false_or, or_false, false_and, and_false, not_true_eq_false, not_false_eq_true] <;> omega)) (by first | omega | (simp only [Int32.lt_iff_toInt_lt, Int32.le_iff_toInt_le, Int32.reduceToInt, ← Int32.toInt_inj, true_and, and_true, or_true, true_or, false_or, or_false, false_and, and_false, not_true_eq_false, not_false_eq_true] <;> omega)) (by rw [fe_3274] <;> first | omega | (simp only [Int32.lt_iff_toInt_lt, Int32.le_iff_toInt_le, Int32.reduceToInt, ← Int32.toInt_inj, true_and, and_true, or_true, true_or, false_or, or_false, false_and, and_false, not_true_eq_false, not_false_eq_true] <;> omega)) (by decide)
set_option maxRecDepth 100000 in
set_option maxHeartbeats 1500000 in
theorem p_X12_roomOf {l : Launch} {E : Ez} {L : List Nat} {f : Nat → va_E} {T : Nat → va_E → Prop} {a_0 : Nat} {a_1 : Int32} {q : Nat → Nat} {g_w : Nat → Int32} (hW : WT T L f) (k_0 : isM T L E a_0 q) (g_1 : (0 ≤ a_1.toInt ∧ a_1.toInt ≤ 5)) (e_w : f (q 1) = aI E 2076 g_w) (o_w : WOK g_w) (htold : (wv g_w a_1 0).toInt = 1) : CI l yX12_roomOf cX12_roomOf 2 .int 3 0 0 E [.ref a_0, .int a_1] L f (fun r L1 f1 => L = L1 ∧ WT T L f1 ∧ FR [12, 356] f f1 ∧ (0 ≤ r.toInt ∧ r.toInt ≤ 256) ∧ (∀ i : Int, 0 ≤ i → i < r.toInt → (i * (wv g_w a_1 4).toInt + (wv g_w a_1 4).toInt) * (wv g_w a_1 3).toInt ≤ 256) ∧ (r.toInt = 0 ∨ 1 ≤ (g_w 0).toInt) ∧ fld (f1 a_0) 20 = fld (f a_0) 20) := by
  refine ci_of (by decide) (Nat.le_of_ble_eq_true rfl) (fun z hz hnm hC hR => ?_)
  have hC : Cx z E cX12_roomOf RX12 2 3 0 0 := hC
  subst hz
  show V z E 2 0 0 L f 0 [(0, .ref a_0), (1, .int a_1)] []
  obtain ⟨m_1, t_2, nq_21, k_3, k_4, k_5, k_6, k_7, k_8, k_9, k_10, k_11, k_12, k_13, k_14, k_15, k_16, k_17, k_18, k_19, k_20⟩ := id k_0
  obtain ⟨m_22, t_23⟩ := id k_3
  have b_24 := o_w.r0
  have b_25 := o_w.w0
  obtain ⟨v_27, v_28, v_30, v_32, v_34, v_36, v_38, v_39, v_40, v_41, v_43, e_26, b_29, b_31, b_33, b_35, b_37, b_42, b_44⟩ := hW.at m_1 t_2
  have mz_45 : fld (f a_0) 20 = v_43.toInt := by rw [e_26]; rfl
  obtain ⟨tl_2, tl_3, tl_4⟩ := o_w.told g_1 htold
  refine v_aload_n hC dX12_roomOf_0 rfl ?_
  refine v_iload_n hC dX12_roomOf_1 rfl ?_
  refine v_vv hC (rest := []) m_1 e_26 rfl mi_X12_lists ms_X12_lists (p_X12_lists hW k_0 (by first | omega | (simp only [Int32.lt_iff_toInt_lt, Int32.le_iff_toInt_le, Int32.reduceToInt, ← Int32.toInt_inj, true_and, and_true, or_true, true_or, false_or, or_false, false_and, and_false, not_true_eq_false, not_false_eq_true] <;> omega)) e_w o_w (by first | omega | (simp only [Int32.lt_iff_toInt_lt, Int32.le_iff_toInt_le, Int32.reduceToInt, ← Int32.toInt_inj, true_and, and_true, or_true, true_or, false_or, or_false, false_and, and_false, not_true_eq_false, not_false_eq_true] <;> omega))) mx_X12_lists ml_X12_338 (by decide) rfl (cells1 := 0) (slots1 := 0) (by decide) (by decide) (Nat.le_of_ble_eq_true rfl) (Nat.le_of_ble_eq_true rfl) rfl (Nat.le_of_ble_eq_true rfl) dX12_roomOf_2 (fun L_47 f_48 h_49 => ?_)
  obtain ⟨rfl, hW_52, hF_53, x_50, x_51⟩ := h_49
  have fe_54 : fld (f a_0) 20 = (v_43 : Int32).toInt := by rw [e_26]; rfl
  have hf_55 := hF_53.at e_w rfl
  obtain ⟨v_57, v_58, v_60, v_62, v_64, v_66, v_68, v_69, v_70, v_71, v_73, e_56, b_59, b_61, b_63, b_65, b_67, b_72, b_74⟩ := hW_52.at m_1 t_2
  have fe_75 : fld (f_48 a_0) 17 = (v_71 : Int32).toInt := by rw [e_56]; rfl
  have fe_76 : fld (f_48 a_0) 20 = (v_73 : Int32).toInt := by rw [e_56]; rfl
  rw [fe_75] at x_50
  rw [fe_76, fe_54] at x_51
  clear fe_54 fe_75 fe_76
  refine v_aload_n hC dX12_roomOf_5 rfl ?_
  refine v_get hC fl_X12_335 m_1 e_56 rfl dX12_roomOf_6 ?_
  refine v_aload_n hC dX12_roomOf_9 rfl ?_
  refine v_iload_n hC dX12_roomOf_10 rfl ?_
  refine v_iconst hC dX12_roomOf_11 (v := 3) (by decide) ?_
  refine v_vi hC (rest := [.int v_71]) m_1 e_56 rfl mi_X12_ofWay ms_X12_ofWay (p_X12_ofWay hW_52 k_0 (by first | omega | (simp only [Int32.lt_iff_toInt_lt, Int32.le_iff_toInt_le, Int32.reduceToInt, ← Int32.toInt_inj, true_and, and_true, or_true, true_or, false_or, or_false, false_and, and_false, not_true_eq_false, not_false_eq_true] <;> omega)) (by decide) hf_55 o_w) mx_X12_ofWay ml_X12_94 (by decide) rfl (cells1 := 0) (slots1 := 0) (by decide) (by decide) (Nat.le_of_ble_eq_true rfl) (Nat.le_of_ble_eq_true rfl) rfl (Nat.le_of_ble_eq_true rfl) dX12_roomOf_12 (fun r_77 L_78 f_79 h_80 => ?_)
  obtain ⟨rfl, rfl, rfl⟩ := h_80
  obtain ⟨v_83, h_84⟩ : ∃ v9 : Int32, v_71 / (wv g_w a_1 3) = v9 := ⟨_, rfl⟩
  refine v_idiv hC dX12_roomOf_15 (by first | omega | (simp only [Int32.lt_iff_toInt_lt, Int32.le_iff_toInt_le, Int32.reduceToInt, ← Int32.toInt_inj, true_and, and_true, or_true, true_or, false_or, or_false, false_and, and_false, not_true_eq_false, not_false_eq_true] <;> omega)) h_84 ?_
  have h_85 := div_v h_84 (by first | omega | (simp only [Int32.lt_iff_toInt_lt, Int32.le_iff_toInt_le, Int32.reduceToInt, ← Int32.toInt_inj, true_and, and_true, or_true, true_or, false_or, or_false, false_and, and_false, not_true_eq_false, not_false_eq_true] <;> omega)) (by first | omega | (simp only [Int32.lt_iff_toInt_lt, Int32.le_iff_toInt_le, Int32.reduceToInt, ← Int32.toInt_inj, true_and, and_true, or_true, true_or, false_or, or_false, false_and, and_false, not_true_eq_false, not_false_eq_true] <;> omega))
  refine v_aload_n hC dX12_roomOf_16 rfl ?_
  refine v_iload_n hC dX12_roomOf_17 rfl ?_
  refine v_iconst hC dX12_roomOf_18 (v := 4) (by decide) ?_
  refine v_vi hC (rest := [.int v_83]) m_1 e_56 rfl mi_X12_ofWay ms_X12_ofWay (p_X12_ofWay hW_52 k_0 (by first | omega | (simp only [Int32.lt_iff_toInt_lt, Int32.le_iff_toInt_le, Int32.reduceToInt, ← Int32.toInt_inj, true_and, and_true, or_true, true_or, false_or, or_false, false_and, and_false, not_true_eq_false, not_false_eq_true] <;> omega)) (by decide) hf_55 o_w) mx_X12_ofWay ml_X12_94 (by decide) rfl (cells1 := 0) (slots1 := 0) (by decide) (by decide) (Nat.le_of_ble_eq_true rfl) (Nat.le_of_ble_eq_true rfl) rfl (Nat.le_of_ble_eq_true rfl) dX12_roomOf_19 (fun r_86 L_87 f_88 h_89 => ?_)
  obtain ⟨rfl, rfl, rfl⟩ := h_89
  obtain ⟨v_92, h_93⟩ : ∃ v9 : Int32, v_83 / (wv g_w a_1 4) = v9 := ⟨_, rfl⟩
  refine v_idiv hC dX12_roomOf_22 (by first | omega | (simp only [Int32.lt_iff_toInt_lt, Int32.le_iff_toInt_le, Int32.reduceToInt, ← Int32.toInt_inj, true_and, and_true, or_true, true_or, false_or, or_false, false_and, and_false, not_true_eq_false, not_false_eq_true] <;> omega)) h_93 ?_
  have h_94 := div_v h_93 (by first | omega | (simp only [Int32.lt_iff_toInt_lt, Int32.le_iff_toInt_le, Int32.reduceToInt, ← Int32.toInt_inj, true_and, and_true, or_true, true_or, false_or, or_false, false_and, and_false, not_true_eq_false, not_false_eq_true] <;> omega)) (by first | omega | (simp only [Int32.lt_iff_toInt_lt, Int32.le_iff_toInt_le, Int32.reduceToInt, ← Int32.toInt_inj, true_and, and_true, or_true, true_or, false_or, or_false, false_and, and_false, not_true_eq_false, not_false_eq_true] <;> omega))
  have fe_95 : fld (f_48 a_0) 20 = (v_73 : Int32).toInt := by rw [e_56]; rfl
  exact hR _ _ _ _ _ _ _ dX12_roomOf_23 rfl (Nat.le_of_ble_eq_true rfl) (Nat.le_of_ble_eq_true rfl) ⟨rfl, hW_52, (hF_53.mono rfl), (by first | omega | (simp only [Int32.lt_iff_toInt_lt, Int32.le_iff_toInt_le, Int32.reduceToInt, ← Int32.toInt_inj, true_and, and_true, or_true, true_or, false_or, or_false, false_and, and_false, not_true_eq_false, not_false_eq_true] <;> omega)), (room_v (pm := v_71.toInt) (by rw [h_94.1, h_85.1]) (by omega) (by omega) (by omega)), (by first | omega | (simp only [Int32.lt_iff_toInt_lt, Int32.le_iff_toInt_le, Int32.reduceToInt, ← Int32.toInt_inj, true_and, and_true, or_true, true_or, false_or, or_false, false_and, and_false, not_true_eq_false, not_false_eq_true] <;> omega)), (by simp only [fe_95, mz_45, true_and, and_true, or_true, true_or, false_or, or_false, false_and, and_false, not_true_eq_false, not_false_eq_true] <;> first | omega | (simp only [Int32.lt_iff_toInt_lt, Int32.le_iff_toInt_le, Int32.reduceToInt, ← Int32.toInt_inj, true_and, and_true, or_true, true_or, false_or, or_false, false_and, and_false, not_true_eq_false, not_false_eq_true] <;> omega))⟩
set_option maxRecDepth 100000 in
set_option maxHeartbeats 1500000 in
theorem p_X12_way {l : Launch} {E : Ez} {L : List Nat} {f : Nat → va_E} {T : Nat → va_E → Prop} {a_0 : Nat} {a_1 : Int32} {q : Nat → Nat} (hW : WT T L f) (k_0 : isM T L E a_0 q) : CI l yX12_way cX12_way 4 .int 7 0 0 E [.ref a_0, .int a_1] L f (fun r L1 f1 => L = L1 ∧ WT T L f1 ∧ FR [12, 356, 2176] f f1 ∧ ((-4) ≤ r.toInt ∧ r.toInt ≤ 256) ∧ (¬ r.toInt = 0 ∨ (0 ≤ a_1.toInt ∧ a_1.toInt ≤ 5))) := by
  refine ci_of (by decide) (Nat.le_of_ble_eq_true rfl) (fun z hz hnm hC hR => ?_)
  have hC : Cx z E cX12_way RX12 4 7 0 0 := hC
  subst hz
  show V z E 4 0 0 L f 0 [(0, .ref a_0), (1, .int a_1)] []
  obtain ⟨m_1, t_2, nq_21, k_3, k_4, k_5, k_6, k_7, k_8, k_9, k_10, k_11, k_12, k_13, k_14, k_15, k_16, k_17, k_18, k_19, k_20⟩ := id k_0
  refine v_iload_n hC dX12_way_0 rfl ?_
  refine v_si hC (rest := []) mt_X12_isWay (p_X12_isWay hW) mx_X12_isWay ml_X12_221 (by decide) rfl (cells1 := 0) (slots1 := 0) (by decide) (by decide) (Nat.le_of_ble_eq_true rfl) (Nat.le_of_ble_eq_true rfl) rfl (Nat.le_of_ble_eq_true rfl) dX12_way_1 (fun r_22 L_23 f_24 h_25 => ?_)
  obtain ⟨rfl, rfl, b_26, h_27⟩ := h_25
  refine v_if_ne hC dX12_way_4 (tgt := 10) (by decide) (fun h_30 => ?_) (fun h_30 => ?_)
  · simp only [Int32.lt_iff_toInt_lt, Int32.le_iff_toInt_le, Int32.reduceToInt, ← Int32.toInt_inj] at h_30
    refine v_aload_n hC dX12_way_10 rfl ?_
    obtain ⟨v_32, v_33, v_35, v_37, v_39, v_41, v_43, v_44, v_45, v_46, v_48, e_31, b_34, b_36, b_38, b_40, b_42, b_47, b_49⟩ := hW.at m_1 t_2
    refine v_vv hC (rest := []) m_1 e_31 rfl mi_X12_begin ms_X12_begin (p_X12_begin hW k_0) mx_X12_begin ml_X12_181 (by decide) rfl (cells1 := 0) (slots1 := 0) (by decide) (by decide) (Nat.le_of_ble_eq_true rfl) (Nat.le_of_ble_eq_true rfl) rfl (Nat.le_of_ble_eq_true rfl) dX12_way_11 (fun L_51 f_52 h_53 => ?_)
    obtain ⟨rfl, hW_55, hF_56, x_54, -, -⟩ := h_53
    obtain ⟨v_58, v_59, v_61, v_63, v_65, v_67, v_69, v_70, v_71, v_72, v_74, e_57, b_60, b_62, b_64, b_66, b_68, b_73, b_75⟩ := hW_55.at m_1 t_2
    have fe_76 : fld (f_52 a_0) 12 = (v_70 : Int32).toInt := by rw [e_57]; rfl
    rw [fe_76] at x_54
    clear fe_76
    refine v_aload_n hC dX12_way_14 rfl ?_
    refine v_vv hC (rest := []) m_1 e_57 rfl mi_X12_advance ms_X12_advance (p_X12_advance hW_55 k_0) mx_X12_advance ml_X12_156 (by decide) rfl (cells1 := 0) (slots1 := 0) (by decide) (by decide) (Nat.le_of_ble_eq_true rfl) (Nat.le_of_ble_eq_true rfl) rfl (Nat.le_of_ble_eq_true rfl) dX12_way_15 (fun L_78 f_79 h_80 => ?_)
    obtain ⟨rfl, hW_82, hF_83, -, -, x_81, -⟩ := h_80
    have fe_84 : fld (f_52 a_0) 12 = (v_70 : Int32).toInt := by rw [e_57]; rfl
    obtain ⟨v_86, v_87, v_89, v_91, v_93, v_95, v_97, v_98, v_99, v_100, v_102, e_85, b_88, b_90, b_92, b_94, b_96, b_101, b_103⟩ := hW_82.at m_1 t_2
    have fe_104 : fld (f_79 a_0) 12 = (v_98 : Int32).toInt := by rw [e_85]; rfl
    rw [fe_104, fe_84] at x_81
    clear fe_84 fe_104
    refine v_aload_n hC dX12_way_18 rfl ?_
    refine v_ldcS hC sr_X12_224 dX12_way_19 ?_
    refine v_vv hC (rest := []) m_1 e_85 rfl mi_X12_needs ms_X12_needs (p_X12_needs hW_82 k_0 (by decide)) mx_X12_needs ml_X12_166 (by decide) rfl (cells1 := 0) (slots1 := 0) (by decide) (by decide) (Nat.le_of_ble_eq_true rfl) (Nat.le_of_ble_eq_true rfl) rfl (Nat.le_of_ble_eq_true rfl) dX12_way_21 (fun L_106 f_107 h_108 => ?_)
    obtain ⟨rfl, hW_110, hF_111, -, -, x_109, -⟩ := h_108
    have fe_112 : fld (f_79 a_0) 12 = (v_98 : Int32).toInt := by rw [e_85]; rfl
    obtain ⟨v_114, v_115, v_117, v_119, v_121, v_123, v_125, v_126, v_127, v_128, v_130, e_113, b_116, b_118, b_120, b_122, b_124, b_129, b_131⟩ := hW_110.at m_1 t_2
    have fe_132 : fld (f_107 a_0) 12 = (v_126 : Int32).toInt := by rw [e_113]; rfl
    rw [fe_132, fe_112] at x_109
    clear fe_112 fe_132
    refine v_aload_n hC dX12_way_24 rfl ?_
    refine v_ldcS hC sr_X12_226 dX12_way_25 ?_
    refine v_vv hC (rest := []) m_1 e_113 rfl mi_X12_needs ms_X12_needs (p_X12_needs hW_110 k_0 (by decide)) mx_X12_needs ml_X12_166 (by decide) rfl (cells1 := 0) (slots1 := 0) (by decide) (by decide) (Nat.le_of_ble_eq_true rfl) (Nat.le_of_ble_eq_true rfl) rfl (Nat.le_of_ble_eq_true rfl) dX12_way_27 (fun L_134 f_135 h_136 => ?_)
    obtain ⟨rfl, hW_138, hF_139, -, -, x_137, -⟩ := h_136
    have fe_140 : fld (f_107 a_0) 12 = (v_126 : Int32).toInt := by rw [e_113]; rfl
    obtain ⟨v_142, v_143, v_145, v_147, v_149, v_151, v_153, v_154, v_155, v_156, v_158, e_141, b_144, b_146, b_148, b_150, b_152, b_157, b_159⟩ := hW_138.at m_1 t_2
    have fe_160 : fld (f_135 a_0) 12 = (v_154 : Int32).toInt := by rw [e_141]; rfl
    rw [fe_160, fe_140] at x_137
    clear fe_140 fe_160
    refine v_bipush hC dX12_way_30 (v := 120) (by decide) ?_
    refine v_bipush hC dX12_way_32 (v := 7) (by decide) ?_
    refine v_iload_n hC dX12_way_34 rfl ?_
    obtain ⟨v_161, h_162⟩ : ∃ v9 : Int32, (7 : Int32) * a_1 = v9 := ⟨_, rfl⟩
    refine v_imul hC dX12_way_35 h_162 ?_
    have h_163 := mul_v 7 5 35 h_162 (by decide) (by first | omega | (simp only [Int32.lt_iff_toInt_lt, Int32.le_iff_toInt_le, Int32.reduceToInt, ← Int32.toInt_inj, true_and, and_true, or_true, true_or, false_or, or_false, false_and, and_false, not_true_eq_false, not_false_eq_true] <;> omega)) (by decide) (by decide)
    try simp only [Int32.reduceToInt] at h_163
    obtain ⟨v_164, h_165⟩ : ∃ v9 : Int32, (120 : Int32) + v_161 = v9 := ⟨_, rfl⟩
    refine v_iadd hC dX12_way_36 h_165 ?_
    have h_166 := add_v h_165 (by first | omega | (simp only [Int32.lt_iff_toInt_lt, Int32.le_iff_toInt_le, Int32.reduceToInt, ← Int32.toInt_inj, true_and, and_true, or_true, true_or, false_or, or_false, false_and, and_false, not_true_eq_false, not_false_eq_true] <;> omega)) (by first | omega | (simp only [Int32.lt_iff_toInt_lt, Int32.le_iff_toInt_le, Int32.reduceToInt, ← Int32.toInt_inj, true_and, and_true, or_true, true_or, false_or, or_false, false_and, and_false, not_true_eq_false, not_false_eq_true] <;> omega))
    try simp only [Int32.reduceToInt] at h_166
    have aq_1 : 0 ≤ a_1.toInt ∧ a_1.toInt ≤ 5 := by omega
    have aq_2 : v_164.toInt = 120 + 7 * a_1.toInt := by omega
    refine v_istore_n hC dX12_way_37 (by decide) (lv' := [(2, .int v_164), (0, .ref a_0), (1, .int a_1)]) rfl ?_
    refine v_aload_n hC dX12_way_38 rfl ?_
    obtain ⟨m_167, t_168⟩ := id k_3
    obtain ⟨g_170, e_169, ok_171⟩ := hW_138.at m_167 t_168
    have b_172 := ok_171.r0
    have b_173 := ok_171.w0
    refine v_vi hC (rest := []) m_1 e_141 rfl mi_X12_sortsHere ms_X12_sortsHere (p_X12_sortsHere hW_138 k_0 e_169 ok_171) mx_X12_sortsHere ml_X12_228 (by decide) rfl (cells1 := 0) (slots1 := 0) (by decide) (by decide) (Nat.le_of_ble_eq_true rfl) (Nat.le_of_ble_eq_true rfl) rfl (Nat.le_of_ble_eq_true rfl) dX12_way_39 (fun r_174 L_175 f_176 h_177 => ?_)
    obtain ⟨rfl, rfl⟩ := h_177
    refine v_istore_n hC dX12_way_42 (by decide) (lv' := [(3, .int r_174), (2, .int v_164), (0, .ref a_0), (1, .int a_1)]) rfl ?_
    refine v_iload_n hC dX12_way_43 rfl ?_
    refine v_iconst hC dX12_way_44 (v := (-1)) (by decide) ?_
    have jn_209 : ∀ (f_210 : Nat → va_E) (hW_211 : WT T L f_210) (hF_212 : FR [12] f_135 f_210) , V z E 4 0 0 L f_210 53 [(3, .int r_174), (2, .int v_164), (0, .ref a_0), (1, .int a_1)] [] := by
      intro f_210 hW_211 hF_212
      have hf_213 := hF_212.at e_169 rfl
      clear b_26 h_27 h_30 b_34 b_36 b_38 b_40 b_42 b_47 b_49 b_60 b_62 b_64 b_66 b_68 b_73 b_75 x_54 b_88 b_90 b_92 b_94 b_96 b_101 b_103 x_81 b_116 b_118 b_120 b_122 b_124 b_129 b_131 x_109 b_144 b_146 b_148 b_150 b_152 b_157
      clear b_159 x_137 h_163 h_166
      refine v_aload_n hC dX12_way_53 rfl ?_
      obtain ⟨v_215, v_216, v_218, v_220, v_222, v_224, v_226, v_227, v_228, v_229, v_231, e_214, b_217, b_219, b_221, b_223, b_225, b_230, b_232⟩ := hW_211.at m_1 t_2
      refine v_vi hC (rest := []) m_1 e_214 rfl mi_X12_good ms_X12_good (p_X12_good hW_211 k_0) mx_X12_good ml_X12_139 (by decide) rfl (cells1 := 0) (slots1 := 0) (by decide) (by decide) (Nat.le_of_ble_eq_true rfl) (Nat.le_of_ble_eq_true rfl) rfl (Nat.le_of_ble_eq_true rfl) dX12_way_54 (fun r_233 L_234 f_235 h_236 => ?_)
      obtain ⟨rfl, rfl, b_237, x_238⟩ := h_236
      have fe_241 : fld (f_210 a_0) 12 = (v_227 : Int32).toInt := by rw [e_214]; rfl
      rw [fe_241] at x_238
      clear fe_241
      try simp only [Int32.reduceToInt, Int64.reduceToInt] at x_238
      have jn_272 : ∀ (f_273 : Nat → va_E) (hW_274 : WT T L f_273) (hF_275 : FR [12] f_210 f_273) , V z E 4 0 0 L f_273 64 [(3, .int r_174), (2, .int v_164), (0, .ref a_0), (1, .int a_1)] [] := by
        intro f_273 hW_274 hF_275
        have hf_276 := hF_275.at hf_213 rfl
        clear b_217 b_219 b_221 b_223 b_225 b_230 b_232 x_238 b_237
        refine v_aload_n hC dX12_way_64 rfl ?_
        obtain ⟨v_278, v_279, v_281, v_283, v_285, v_287, v_289, v_290, v_291, v_292, v_294, e_277, b_280, b_282, b_284, b_286, b_288, b_293, b_295⟩ := hW_274.at m_1 t_2
        refine v_get hC fl_X12_34 m_1 e_277 rfl dX12_way_65 ?_
        refine v_iload_n hC dX12_way_68 rfl ?_
        refine v_iconst hC dX12_way_69 (v := 1) (by decide) ?_
        obtain ⟨m_296, t_297⟩ := id k_8
        obtain ⟨g_299, e_298, ok_300⟩ := hW_274.at m_296 t_297
        refine v_iast hC m_296 e_298 (vp_in_iff.mpr (by first | omega | (simp only [Int32.lt_iff_toInt_lt, Int32.le_iff_toInt_le, Int32.reduceToInt, ← Int32.toInt_inj, true_and, and_true, or_true, true_or, false_or, or_false, false_and, and_false, not_true_eq_false, not_false_eq_true] <;> omega))) dX12_way_70 (fun f_301 hf_302 hk_303 => ?_)
        have hW_305 := hW_274.up hf_302 hk_303 t_297 ⟨_, rfl, (ok_300.up (by first | omega | (simp only [Int32.lt_iff_toInt_lt, Int32.le_iff_toInt_le, Int32.reduceToInt, ← Int32.toInt_inj, true_and, and_true, or_true, true_or, false_or, or_false, false_and, and_false, not_true_eq_false, not_false_eq_true] <;> omega)) (fun q1 q2 => (by first | omega | (simp only [Int32.lt_iff_toInt_lt, Int32.le_iff_toInt_le, Int32.reduceToInt, ← Int32.toInt_inj] at *; omega))) (fun k9 q1 q2 q3 => (by first | omega | (simp only [Int32.lt_iff_toInt_lt, Int32.le_iff_toInt_le, Int32.reduceToInt, ← Int32.toInt_inj] at *; omega))))⟩
        obtain ⟨g_304, hf_302, ok_306, eg_307⟩ : ∃ g9, f_301 (q 14) = aI E 2076 g9 ∧ FOK g9 ∧ g9 = upd g_299 (v_164 : Int32).toNatClampNeg 1 := ⟨_, hf_302, (ok_300.up (by first | omega | (simp only [Int32.lt_iff_toInt_lt, Int32.le_iff_toInt_le, Int32.reduceToInt, ← Int32.toInt_inj, true_and, and_true, or_true, true_or, false_or, or_false, false_and, and_false, not_true_eq_false, not_false_eq_true] <;> omega)) (fun q1 q2 => (by first | omega | (simp only [Int32.lt_iff_toInt_lt, Int32.le_iff_toInt_le, Int32.reduceToInt, ← Int32.toInt_inj] at *; omega))) (fun k9 q1 q2 q3 => (by first | omega | (simp only [Int32.lt_iff_toInt_lt, Int32.le_iff_toInt_le, Int32.reduceToInt, ← Int32.toInt_inj] at *; omega)))), rfl⟩
        have hf_308 := (hk_303 a_0 (ne_kd e_277 e_298 rfl)).trans e_277
        have fr_309 := FR.w hk_303 e_298 (k := 2176) rfl
        have wt_310 := wv_upd_eq (k := a_1) (j := 0) eg_307 (by omega) (by decide) (by simp only [Int32.reduceToInt]; omega)
        simp only [Int32.reduceToInt] at wt_310
        have wt_311 := wv_upd_ne (k := a_1) (j := 2) eg_307 (by omega) (by decide) (by omega) (by simp only [Int32.reduceToInt]; omega)
        have wt_312 := wv_upd_ne (k := a_1) (j := 3) eg_307 (by omega) (by decide) (by omega) (by simp only [Int32.reduceToInt]; omega)
        have wt_313 := wv_upd_ne (k := a_1) (j := 4) eg_307 (by omega) (by decide) (by omega) (by simp only [Int32.reduceToInt]; omega)
        refine v_aload_n hC dX12_way_71 rfl ?_
        refine v_get hC fl_X12_34 m_1 hf_308 rfl dX12_way_72 ?_
        refine v_iload_n hC dX12_way_75 rfl ?_
        refine v_iconst hC dX12_way_76 (v := 1) (by decide) ?_
        obtain ⟨v_314, h_315⟩ : ∃ v9 : Int32, v_164 + 1 = v9 := ⟨_, rfl⟩
        refine v_iadd hC dX12_way_77 h_315 ?_
        have h_316 := add_v h_315 (by first | omega | (simp only [Int32.lt_iff_toInt_lt, Int32.le_iff_toInt_le, Int32.reduceToInt, ← Int32.toInt_inj, true_and, and_true, or_true, true_or, false_or, or_false, false_and, and_false, not_true_eq_false, not_false_eq_true] <;> omega)) (by first | omega | (simp only [Int32.lt_iff_toInt_lt, Int32.le_iff_toInt_le, Int32.reduceToInt, ← Int32.toInt_inj, true_and, and_true, or_true, true_or, false_or, or_false, false_and, and_false, not_true_eq_false, not_false_eq_true] <;> omega))
        try simp only [Int32.reduceToInt] at h_316
        refine v_iload_n hC dX12_way_78 rfl ?_
        refine v_iast hC m_296 hf_302 (vp_in_iff.mpr (by first | omega | (simp only [Int32.lt_iff_toInt_lt, Int32.le_iff_toInt_le, Int32.reduceToInt, ← Int32.toInt_inj, true_and, and_true, or_true, true_or, false_or, or_false, false_and, and_false, not_true_eq_false, not_false_eq_true] <;> omega))) dX12_way_79 (fun f_317 hf_318 hk_319 => ?_)
        have hW_321 := hW_305.up hf_318 hk_319 t_297 ⟨_, rfl, (ok_306.up (by first | omega | (simp only [Int32.lt_iff_toInt_lt, Int32.le_iff_toInt_le, Int32.reduceToInt, ← Int32.toInt_inj, true_and, and_true, or_true, true_or, false_or, or_false, false_and, and_false, not_true_eq_false, not_false_eq_true] <;> omega)) (fun q1 q2 => (by first | omega | (simp only [Int32.lt_iff_toInt_lt, Int32.le_iff_toInt_le, Int32.reduceToInt, ← Int32.toInt_inj] at *; omega))) (fun k9 q1 q2 q3 => (by first | omega | (simp only [Int32.lt_iff_toInt_lt, Int32.le_iff_toInt_le, Int32.reduceToInt, ← Int32.toInt_inj] at *; omega))))⟩
        obtain ⟨g_320, hf_318, ok_322, eg_323⟩ : ∃ g9, f_317 (q 14) = aI E 2076 g9 ∧ FOK g9 ∧ g9 = upd g_304 (v_314 : Int32).toNatClampNeg r_174 := ⟨_, hf_318, (ok_306.up (by first | omega | (simp only [Int32.lt_iff_toInt_lt, Int32.le_iff_toInt_le, Int32.reduceToInt, ← Int32.toInt_inj, true_and, and_true, or_true, true_or, false_or, or_false, false_and, and_false, not_true_eq_false, not_false_eq_true] <;> omega)) (fun q1 q2 => (by first | omega | (simp only [Int32.lt_iff_toInt_lt, Int32.le_iff_toInt_le, Int32.reduceToInt, ← Int32.toInt_inj] at *; omega))) (fun k9 q1 q2 q3 => (by first | omega | (simp only [Int32.lt_iff_toInt_lt, Int32.le_iff_toInt_le, Int32.reduceToInt, ← Int32.toInt_inj] at *; omega)))), rfl⟩
        have hf_324 := (hk_319 a_0 (ne_kd hf_308 hf_302 rfl)).trans hf_308
        have fr_325 := FR.w hk_319 hf_302 (k := 2176) rfl
        have wt_326 := wv_upd_ne (k := a_1) (j := 0) eg_323 (by omega) (by decide) (by omega) (by simp only [Int32.reduceToInt]; omega)
        have wt_327 := wv_upd_ne (k := a_1) (j := 2) eg_323 (by omega) (by decide) (by omega) (by simp only [Int32.reduceToInt]; omega)
        have wt_328 := wv_upd_ne (k := a_1) (j := 3) eg_323 (by omega) (by decide) (by omega) (by simp only [Int32.reduceToInt]; omega)
        have wt_329 := wv_upd_ne (k := a_1) (j := 4) eg_323 (by omega) (by decide) (by omega) (by simp only [Int32.reduceToInt]; omega)
        refine v_aload_n hC dX12_way_80 rfl ?_
        refine v_get hC fl_X12_34 m_1 hf_324 rfl dX12_way_81 ?_
        refine v_iload_n hC dX12_way_84 rfl ?_
        refine v_iconst hC dX12_way_85 (v := 2) (by decide) ?_
        obtain ⟨v_330, h_331⟩ : ∃ v9 : Int32, v_164 + 2 = v9 := ⟨_, rfl⟩
        refine v_iadd hC dX12_way_86 h_331 ?_
        have h_332 := add_v h_331 (by first | omega | (simp only [Int32.lt_iff_toInt_lt, Int32.le_iff_toInt_le, Int32.reduceToInt, ← Int32.toInt_inj, true_and, and_true, or_true, true_or, false_or, or_false, false_and, and_false, not_true_eq_false, not_false_eq_true] <;> omega)) (by first | omega | (simp only [Int32.lt_iff_toInt_lt, Int32.le_iff_toInt_le, Int32.reduceToInt, ← Int32.toInt_inj, true_and, and_true, or_true, true_or, false_or, or_false, false_and, and_false, not_true_eq_false, not_false_eq_true] <;> omega))
        try simp only [Int32.reduceToInt] at h_332
        refine v_aload_n hC dX12_way_87 rfl ?_
        refine v_ldcS hC sr_X12_231 dX12_way_88 ?_
        refine v_vi hC (rest := [.int v_330, .ref (q 14)]) m_1 hf_324 rfl mi_X12_takes ms_X12_takes (p_X12_takes hW_321 k_0 (by decide)) mx_X12_takes ml_X12_159 (by decide) rfl (cells1 := 0) (slots1 := 0) (by decide) (by decide) (Nat.le_of_ble_eq_true rfl) (Nat.le_of_ble_eq_true rfl) rfl (Nat.le_of_ble_eq_true rfl) dX12_way_90 (fun r_333 L_334 f_335 h_336 => ?_)
        obtain ⟨rfl, hW_338, hF_339, rfl, -, -, x_337, -⟩ := h_336
        have fe_340 : fld (f_317 a_0) 12 = (v_290 : Int32).toInt := by rw [hf_324]; rfl
        have hf_341 := hF_339.at hf_318 rfl
        obtain ⟨v_343, v_344, v_346, v_348, v_350, v_352, v_354, v_355, v_356, v_357, v_359, e_342, b_345, b_347, b_349, b_351, b_353, b_358, b_360⟩ := hW_338.at m_1 t_2
        have fe_361 : fld (f_335 a_0) 12 = (v_355 : Int32).toInt := by rw [e_342]; rfl
        rw [fe_361, fe_340] at x_337
        clear fe_340 fe_361
        try simp only [Int32.reduceToInt, Int64.reduceToInt] at x_337
        have jn_392 : ∀ (f_394 : Nat → va_E) (hW_395 : WT T L f_394) (hF_396 : FR [12] f_335 f_394) (v_393 : Int32) (jv_398 : wvf (f_394 (q 14)) a_1 0 = 1) (jv_400 : (¬ fld (f_394 a_0) 12 = 0 ∨ (1 ≤ (v_393 : Int32).toInt ∧ (v_393 : Int32).toInt ≤ 9))), V z E 4 0 0 L f_394 107 [(2, .int v_164), (0, .ref a_0), (1, .int a_1)] [.int v_393, .int v_330, .ref (q 14)] := by
          intro f_394 hW_395 hF_396 v_393 jv_398 jv_400
          have hf_397 := hF_396.at hf_341 rfl
          clear b_280 b_282 b_284 b_286 b_288 b_293 b_295 wt_310 wt_311 wt_312 wt_313 h_316 wt_326 wt_327 wt_328 wt_329 b_345 b_347 b_349 b_351 b_353 b_358 b_360 x_337
          have we_399 : wvf (f_394 (q 14)) a_1 0 = (wv g_320 a_1 0).toInt := by rw [hf_397]; rfl
          rw [we_399] at jv_398
          obtain ⟨v_402, v_403, v_405, v_407, v_409, v_411, v_413, v_414, v_415, v_416, v_418, e_401, b_404, b_406, b_408, b_410, b_412, b_417, b_419⟩ := hW_395.at m_1 t_2
          have fe_420 : fld (f_394 a_0) 12 = (v_414 : Int32).toInt := by rw [e_401]; rfl
          rw [fe_420] at jv_400
          refine v_iast hC m_296 hf_397 (vp_in_iff.mpr (by first | omega | (simp only [Int32.lt_iff_toInt_lt, Int32.le_iff_toInt_le, Int32.reduceToInt, ← Int32.toInt_inj, true_and, and_true, or_true, true_or, false_or, or_false, false_and, and_false, not_true_eq_false, not_false_eq_true] <;> omega))) dX12_way_107 (fun f_421 hf_422 hk_423 => ?_)
          have hW_425 := hW_395.up hf_422 hk_423 t_297 ⟨_, rfl, (ok_322.up (by first | omega | (simp only [Int32.lt_iff_toInt_lt, Int32.le_iff_toInt_le, Int32.reduceToInt, ← Int32.toInt_inj, true_and, and_true, or_true, true_or, false_or, or_false, false_and, and_false, not_true_eq_false, not_false_eq_true] <;> omega)) (fun q1 q2 => (by first | omega | (simp only [Int32.lt_iff_toInt_lt, Int32.le_iff_toInt_le, Int32.reduceToInt, ← Int32.toInt_inj] at *; omega))) (fun k9 q1 q2 q3 => (by first | omega | (simp only [Int32.lt_iff_toInt_lt, Int32.le_iff_toInt_le, Int32.reduceToInt, ← Int32.toInt_inj] at *; omega))))⟩
          obtain ⟨g_424, hf_422, ok_426, eg_427⟩ : ∃ g9, f_421 (q 14) = aI E 2076 g9 ∧ FOK g9 ∧ g9 = upd g_320 (v_330 : Int32).toNatClampNeg v_393 := ⟨_, hf_422, (ok_322.up (by first | omega | (simp only [Int32.lt_iff_toInt_lt, Int32.le_iff_toInt_le, Int32.reduceToInt, ← Int32.toInt_inj, true_and, and_true, or_true, true_or, false_or, or_false, false_and, and_false, not_true_eq_false, not_false_eq_true] <;> omega)) (fun q1 q2 => (by first | omega | (simp only [Int32.lt_iff_toInt_lt, Int32.le_iff_toInt_le, Int32.reduceToInt, ← Int32.toInt_inj] at *; omega))) (fun k9 q1 q2 q3 => (by first | omega | (simp only [Int32.lt_iff_toInt_lt, Int32.le_iff_toInt_le, Int32.reduceToInt, ← Int32.toInt_inj] at *; omega)))), rfl⟩
          have hf_428 := (hk_423 a_0 (ne_kd e_401 hf_397 rfl)).trans e_401
          have fr_429 := FR.w hk_423 hf_397 (k := 2176) rfl
          have wt_430 := wv_upd_ne (k := a_1) (j := 0) eg_427 (by omega) (by decide) (by omega) (by simp only [Int32.reduceToInt]; omega)
          have wt_431 := wv_upd_eq (k := a_1) (j := 2) eg_427 (by omega) (by decide) (by simp only [Int32.reduceToInt]; omega)
          have wt_432 := wv_upd_ne (k := a_1) (j := 3) eg_427 (by omega) (by decide) (by omega) (by simp only [Int32.reduceToInt]; omega)
          have wt_433 := wv_upd_ne (k := a_1) (j := 4) eg_427 (by omega) (by decide) (by omega) (by simp only [Int32.reduceToInt]; omega)
          refine v_aload_n hC dX12_way_108 rfl ?_
          refine v_get hC fl_X12_34 m_1 hf_428 rfl dX12_way_109 ?_
          refine v_iload_n hC dX12_way_112 rfl ?_
          refine v_iconst hC dX12_way_113 (v := 3) (by decide) ?_
          obtain ⟨v_434, h_435⟩ : ∃ v9 : Int32, v_164 + 3 = v9 := ⟨_, rfl⟩
          refine v_iadd hC dX12_way_114 h_435 ?_
          have h_436 := add_v h_435 (by first | omega | (simp only [Int32.lt_iff_toInt_lt, Int32.le_iff_toInt_le, Int32.reduceToInt, ← Int32.toInt_inj, true_and, and_true, or_true, true_or, false_or, or_false, false_and, and_false, not_true_eq_false, not_false_eq_true] <;> omega)) (by first | omega | (simp only [Int32.lt_iff_toInt_lt, Int32.le_iff_toInt_le, Int32.reduceToInt, ← Int32.toInt_inj, true_and, and_true, or_true, true_or, false_or, or_false, false_and, and_false, not_true_eq_false, not_false_eq_true] <;> omega))
          try simp only [Int32.reduceToInt] at h_436
          refine v_aload_n hC dX12_way_115 rfl ?_
          refine v_ldcS hC sr_X12_233 dX12_way_116 ?_
          refine v_vi hC (rest := [.int v_434, .ref (q 14)]) m_1 hf_428 rfl mi_X12_takes ms_X12_takes (p_X12_takes hW_425 k_0 (by decide)) mx_X12_takes ml_X12_159 (by decide) rfl (cells1 := 0) (slots1 := 0) (by decide) (by decide) (Nat.le_of_ble_eq_true rfl) (Nat.le_of_ble_eq_true rfl) rfl (Nat.le_of_ble_eq_true rfl) dX12_way_118 (fun r_437 L_438 f_439 h_440 => ?_)
          obtain ⟨rfl, hW_442, hF_443, rfl, -, -, x_441, -⟩ := h_440
          have fe_444 : fld (f_421 a_0) 12 = (v_414 : Int32).toInt := by rw [hf_428]; rfl
          have hf_445 := hF_443.at hf_422 rfl
          obtain ⟨v_447, v_448, v_450, v_452, v_454, v_456, v_458, v_459, v_460, v_461, v_463, e_446, b_449, b_451, b_453, b_455, b_457, b_462, b_464⟩ := hW_442.at m_1 t_2
          have fe_465 : fld (f_439 a_0) 12 = (v_459 : Int32).toInt := by rw [e_446]; rfl
          rw [fe_465, fe_444] at x_441
          clear fe_444 fe_465
          try simp only [Int32.reduceToInt, Int64.reduceToInt] at x_441
          have jn_496 : ∀ (f_498 : Nat → va_E) (hW_499 : WT T L f_498) (hF_500 : FR [12] f_439 f_498) (v_497 : Int32) (jv_502 : wvf (f_498 (q 14)) a_1 0 = 1) (jv_504 : (¬ fld (f_498 a_0) 12 = 0 ∨ (1 ≤ wvf (f_498 (q 14)) a_1 2 ∧ wvf (f_498 (q 14)) a_1 2 ≤ 9))) (jv_526 : (¬ fld (f_498 a_0) 12 = 0 ∨ (1 ≤ (v_497 : Int32).toInt ∧ (v_497 : Int32).toInt ≤ 5))), V z E 4 0 0 L f_498 134 [(2, .int v_164), (0, .ref a_0), (1, .int a_1)] [.int v_497, .int v_434, .ref (q 14)] := by
            intro f_498 hW_499 hF_500 v_497 jv_502 jv_504 jv_526
            have hf_501 := hF_500.at hf_445 rfl
            clear h_332 b_404 b_406 b_408 b_410 b_412 b_417 b_419 wt_430 wt_431 wt_432 wt_433 b_449 b_451 b_453 b_455 b_457 b_462 b_464 x_441
            have we_503 : wvf (f_498 (q 14)) a_1 0 = (wv g_424 a_1 0).toInt := by rw [hf_501]; rfl
            rw [we_503] at jv_502
            obtain ⟨v_506, v_507, v_509, v_511, v_513, v_515, v_517, v_518, v_519, v_520, v_522, e_505, b_508, b_510, b_512, b_514, b_516, b_521, b_523⟩ := hW_499.at m_1 t_2
            have fe_524 : fld (f_498 a_0) 12 = (v_518 : Int32).toInt := by rw [e_505]; rfl
            have we_525 : wvf (f_498 (q 14)) a_1 2 = (wv g_424 a_1 2).toInt := by rw [hf_501]; rfl
            rw [fe_524, we_525] at jv_504
            have fe_527 : fld (f_498 a_0) 12 = (v_518 : Int32).toInt := by rw [e_505]; rfl
            rw [fe_527] at jv_526
            refine v_iast hC m_296 hf_501 (vp_in_iff.mpr (by first | omega | (simp only [Int32.lt_iff_toInt_lt, Int32.le_iff_toInt_le, Int32.reduceToInt, ← Int32.toInt_inj, true_and, and_true, or_true, true_or, false_or, or_false, false_and, and_false, not_true_eq_false, not_false_eq_true] <;> omega))) dX12_way_134 (fun f_528 hf_529 hk_530 => ?_)
            have hW_532 := hW_499.up hf_529 hk_530 t_297 ⟨_, rfl, (ok_426.up (by first | omega | (simp only [Int32.lt_iff_toInt_lt, Int32.le_iff_toInt_le, Int32.reduceToInt, ← Int32.toInt_inj, true_and, and_true, or_true, true_or, false_or, or_false, false_and, and_false, not_true_eq_false, not_false_eq_true] <;> omega)) (fun q1 q2 => (by first | omega | (simp only [Int32.lt_iff_toInt_lt, Int32.le_iff_toInt_le, Int32.reduceToInt, ← Int32.toInt_inj] at *; omega))) (fun k9 q1 q2 q3 => (by first | omega | (simp only [Int32.lt_iff_toInt_lt, Int32.le_iff_toInt_le, Int32.reduceToInt, ← Int32.toInt_inj] at *; omega))))⟩
            obtain ⟨g_531, hf_529, ok_533, eg_534⟩ : ∃ g9, f_528 (q 14) = aI E 2076 g9 ∧ FOK g9 ∧ g9 = upd g_424 (v_434 : Int32).toNatClampNeg v_497 := ⟨_, hf_529, (ok_426.up (by first | omega | (simp only [Int32.lt_iff_toInt_lt, Int32.le_iff_toInt_le, Int32.reduceToInt, ← Int32.toInt_inj, true_and, and_true, or_true, true_or, false_or, or_false, false_and, and_false, not_true_eq_false, not_false_eq_true] <;> omega)) (fun q1 q2 => (by first | omega | (simp only [Int32.lt_iff_toInt_lt, Int32.le_iff_toInt_le, Int32.reduceToInt, ← Int32.toInt_inj] at *; omega))) (fun k9 q1 q2 q3 => (by first | omega | (simp only [Int32.lt_iff_toInt_lt, Int32.le_iff_toInt_le, Int32.reduceToInt, ← Int32.toInt_inj] at *; omega)))), rfl⟩
            have hf_535 := (hk_530 a_0 (ne_kd e_505 hf_501 rfl)).trans e_505
            have fr_536 := FR.w hk_530 hf_501 (k := 2176) rfl
            have wt_537 := wv_upd_ne (k := a_1) (j := 0) eg_534 (by omega) (by decide) (by omega) (by simp only [Int32.reduceToInt]; omega)
            have wt_538 := wv_upd_ne (k := a_1) (j := 2) eg_534 (by omega) (by decide) (by omega) (by simp only [Int32.reduceToInt]; omega)
            have wt_539 := wv_upd_eq (k := a_1) (j := 3) eg_534 (by omega) (by decide) (by simp only [Int32.reduceToInt]; omega)
            have wt_540 := wv_upd_ne (k := a_1) (j := 4) eg_534 (by omega) (by decide) (by omega) (by simp only [Int32.reduceToInt]; omega)
            refine v_aload_n hC dX12_way_135 rfl ?_
            refine v_get hC fl_X12_34 m_1 hf_535 rfl dX12_way_136 ?_
            refine v_iload_n hC dX12_way_139 rfl ?_
            refine v_iconst hC dX12_way_140 (v := 4) (by decide) ?_
            obtain ⟨v_541, h_542⟩ : ∃ v9 : Int32, v_164 + 4 = v9 := ⟨_, rfl⟩
            refine v_iadd hC dX12_way_141 h_542 ?_
            have h_543 := add_v h_542 (by first | omega | (simp only [Int32.lt_iff_toInt_lt, Int32.le_iff_toInt_le, Int32.reduceToInt, ← Int32.toInt_inj, true_and, and_true, or_true, true_or, false_or, or_false, false_and, and_false, not_true_eq_false, not_false_eq_true] <;> omega)) (by first | omega | (simp only [Int32.lt_iff_toInt_lt, Int32.le_iff_toInt_le, Int32.reduceToInt, ← Int32.toInt_inj, true_and, and_true, or_true, true_or, false_or, or_false, false_and, and_false, not_true_eq_false, not_false_eq_true] <;> omega))
            try simp only [Int32.reduceToInt] at h_543
            refine v_iconst hC dX12_way_142 (v := 1) (by decide) ?_
            refine v_iast hC m_296 hf_529 (vp_in_iff.mpr (by first | omega | (simp only [Int32.lt_iff_toInt_lt, Int32.le_iff_toInt_le, Int32.reduceToInt, ← Int32.toInt_inj, true_and, and_true, or_true, true_or, false_or, or_false, false_and, and_false, not_true_eq_false, not_false_eq_true] <;> omega))) dX12_way_143 (fun f_544 hf_545 hk_546 => ?_)
            have hW_548 := hW_532.up hf_545 hk_546 t_297 ⟨_, rfl, (ok_533.up (by first | omega | (simp only [Int32.lt_iff_toInt_lt, Int32.le_iff_toInt_le, Int32.reduceToInt, ← Int32.toInt_inj, true_and, and_true, or_true, true_or, false_or, or_false, false_and, and_false, not_true_eq_false, not_false_eq_true] <;> omega)) (fun q1 q2 => (by first | omega | (simp only [Int32.lt_iff_toInt_lt, Int32.le_iff_toInt_le, Int32.reduceToInt, ← Int32.toInt_inj] at *; omega))) (fun k9 q1 q2 q3 => (by first | omega | (simp only [Int32.lt_iff_toInt_lt, Int32.le_iff_toInt_le, Int32.reduceToInt, ← Int32.toInt_inj] at *; omega))))⟩
            obtain ⟨g_547, hf_545, ok_549, eg_550⟩ : ∃ g9, f_544 (q 14) = aI E 2076 g9 ∧ FOK g9 ∧ g9 = upd g_531 (v_541 : Int32).toNatClampNeg 1 := ⟨_, hf_545, (ok_533.up (by first | omega | (simp only [Int32.lt_iff_toInt_lt, Int32.le_iff_toInt_le, Int32.reduceToInt, ← Int32.toInt_inj, true_and, and_true, or_true, true_or, false_or, or_false, false_and, and_false, not_true_eq_false, not_false_eq_true] <;> omega)) (fun q1 q2 => (by first | omega | (simp only [Int32.lt_iff_toInt_lt, Int32.le_iff_toInt_le, Int32.reduceToInt, ← Int32.toInt_inj] at *; omega))) (fun k9 q1 q2 q3 => (by first | omega | (simp only [Int32.lt_iff_toInt_lt, Int32.le_iff_toInt_le, Int32.reduceToInt, ← Int32.toInt_inj] at *; omega)))), rfl⟩
            have hf_551 := (hk_546 a_0 (ne_kd hf_535 hf_529 rfl)).trans hf_535
            have fr_552 := FR.w hk_546 hf_529 (k := 2176) rfl
            have wt_553 := wv_upd_ne (k := a_1) (j := 0) eg_550 (by omega) (by decide) (by omega) (by simp only [Int32.reduceToInt]; omega)
            have wt_554 := wv_upd_ne (k := a_1) (j := 2) eg_550 (by omega) (by decide) (by omega) (by simp only [Int32.reduceToInt]; omega)
            have wt_555 := wv_upd_ne (k := a_1) (j := 3) eg_550 (by omega) (by decide) (by omega) (by simp only [Int32.reduceToInt]; omega)
            have wt_556 := wv_upd_eq (k := a_1) (j := 4) eg_550 (by omega) (by decide) (by simp only [Int32.reduceToInt]; omega)
            simp only [Int32.reduceToInt] at wt_556
            refine v_aload_n hC dX12_way_144 rfl ?_
            refine v_ldcS hC sr_X12_235 dX12_way_145 ?_
            refine v_vi hC (rest := []) m_1 hf_551 rfl mi_X12_takes ms_X12_takes (p_X12_takes hW_548 k_0 (by decide)) mx_X12_takes ml_X12_159 (by decide) rfl (cells1 := 0) (slots1 := 0) (by decide) (by decide) (Nat.le_of_ble_eq_true rfl) (Nat.le_of_ble_eq_true rfl) rfl (Nat.le_of_ble_eq_true rfl) dX12_way_147 (fun r_557 L_558 f_559 h_560 => ?_)
            obtain ⟨rfl, hW_562, hF_563, rfl, -, -, x_561, -⟩ := h_560
            have fe_564 : fld (f_544 a_0) 12 = (v_518 : Int32).toInt := by rw [hf_551]; rfl
            have hf_565 := hF_563.at hf_545 rfl
            obtain ⟨v_567, v_568, v_570, v_572, v_574, v_576, v_578, v_579, v_580, v_581, v_583, e_566, b_569, b_571, b_573, b_575, b_577, b_582, b_584⟩ := hW_562.at m_1 t_2
            have fe_585 : fld (f_559 a_0) 12 = (v_579 : Int32).toInt := by rw [e_566]; rfl
            rw [fe_585, fe_564] at x_561
            clear fe_564 fe_585
            try simp only [Int32.reduceToInt, Int64.reduceToInt] at x_561
            have jn_810 : ∀ (f_811 : Nat → va_E) (hW_812 : WT T L f_811) (hF_813 : FR [12, 2176] f_559 f_811)  (jv_814 : wvf (f_811 (q 14)) a_1 0 = 1) (jv_819 : (¬ fld (f_811 a_0) 12 = 0 ∨ (1 ≤ wvf (f_811 (q 14)) a_1 2 ∧ wvf (f_811 (q 14)) a_1 2 ≤ 9))) (jv_841 : (¬ fld (f_811 a_0) 12 = 0 ∨ (1 ≤ wvf (f_811 (q 14)) a_1 3 ∧ wvf (f_811 (q 14)) a_1 3 ≤ 5))) (jv_844 : (¬ fld (f_811 a_0) 12 = 0 ∨ (1 ≤ wvf (f_811 (q 14)) a_1 4 ∧ wvf (f_811 (q 14)) a_1 4 ≤ 5))), V z E 4 0 0 L f_811 196 [(2, .int v_164), (0, .ref a_0), (1, .int a_1)] [] := by
              intro f_811 hW_812 hF_813 jv_814 jv_819 jv_841 jv_844
              clear h_436 b_508 b_510 b_512 b_514 b_516 b_521 b_523 wt_537 wt_538 wt_539 wt_540 h_543 wt_553 wt_554 wt_555 wt_556 b_569 b_571 b_573 b_575 b_577 b_582 b_584 x_561
              obtain ⟨g_816, e_815, ok_817⟩ := hW_812.at m_296 t_297
              have we_818 : wvf (f_811 (q 14)) a_1 0 = (wv g_816 a_1 0).toInt := by rw [e_815]; rfl
              rw [we_818] at jv_814
              obtain ⟨v_821, v_822, v_824, v_826, v_828, v_830, v_832, v_833, v_834, v_835, v_837, e_820, b_823, b_825, b_827, b_829, b_831, b_836, b_838⟩ := hW_812.at m_1 t_2
              have fe_839 : fld (f_811 a_0) 12 = (v_833 : Int32).toInt := by rw [e_820]; rfl
              have we_840 : wvf (f_811 (q 14)) a_1 2 = (wv g_816 a_1 2).toInt := by rw [e_815]; rfl
              rw [fe_839, we_840] at jv_819
              have fe_842 : fld (f_811 a_0) 12 = (v_833 : Int32).toInt := by rw [e_820]; rfl
              have we_843 : wvf (f_811 (q 14)) a_1 3 = (wv g_816 a_1 3).toInt := by rw [e_815]; rfl
              rw [fe_842, we_843] at jv_841
              have fe_845 : fld (f_811 a_0) 12 = (v_833 : Int32).toInt := by rw [e_820]; rfl
              have we_846 : wvf (f_811 (q 14)) a_1 4 = (wv g_816 a_1 4).toInt := by rw [e_815]; rfl
              rw [fe_845, we_846] at jv_844
              refine v_aload_n hC dX12_way_196 rfl ?_
              refine v_get hC fl_X12_34 m_1 e_820 rfl dX12_way_197 ?_
              refine v_iload_n hC dX12_way_200 rfl ?_
              refine v_iconst hC dX12_way_201 (v := 5) (by decide) ?_
              obtain ⟨v_847, h_848⟩ : ∃ v9 : Int32, v_164 + 5 = v9 := ⟨_, rfl⟩
              refine v_iadd hC dX12_way_202 h_848 ?_
              have h_849 := add_v h_848 (by first | omega | (simp only [Int32.lt_iff_toInt_lt, Int32.le_iff_toInt_le, Int32.reduceToInt, ← Int32.toInt_inj, true_and, and_true, or_true, true_or, false_or, or_false, false_and, and_false, not_true_eq_false, not_false_eq_true] <;> omega)) (by first | omega | (simp only [Int32.lt_iff_toInt_lt, Int32.le_iff_toInt_le, Int32.reduceToInt, ← Int32.toInt_inj, true_and, and_true, or_true, true_or, false_or, or_false, false_and, and_false, not_true_eq_false, not_false_eq_true] <;> omega))
              try simp only [Int32.reduceToInt] at h_849
              refine v_aload_n hC dX12_way_203 rfl ?_
              refine v_ldcS hC sr_X12_237 dX12_way_204 ?_
              refine v_vi hC (rest := [.int v_847, .ref (q 14)]) m_1 e_820 rfl mi_X12_takes ms_X12_takes (p_X12_takes hW_812 k_0 (by decide)) mx_X12_takes ml_X12_159 (by decide) rfl (cells1 := 0) (slots1 := 0) (by decide) (by decide) (Nat.le_of_ble_eq_true rfl) (Nat.le_of_ble_eq_true rfl) rfl (Nat.le_of_ble_eq_true rfl) dX12_way_206 (fun r_850 L_851 f_852 h_853 => ?_)
              obtain ⟨rfl, hW_855, hF_856, rfl, -, -, x_854, -⟩ := h_853
              have fe_857 : fld (f_811 a_0) 12 = (v_833 : Int32).toInt := by rw [e_820]; rfl
              have hf_858 := hF_856.at e_815 rfl
              obtain ⟨v_860, v_861, v_863, v_865, v_867, v_869, v_871, v_872, v_873, v_874, v_876, e_859, b_862, b_864, b_866, b_868, b_870, b_875, b_877⟩ := hW_855.at m_1 t_2
              have fe_878 : fld (f_852 a_0) 12 = (v_872 : Int32).toInt := by rw [e_859]; rfl
              rw [fe_878, fe_857] at x_854
              clear fe_857 fe_878
              try simp only [Int32.reduceToInt, Int64.reduceToInt] at x_854
              have jn_880 : ∀ (v_881 : Int32) (b_882 : (0 ≤ v_881.toInt ∧ v_881.toInt ≤ 1)) (jv_883 : wvf (f_852 (q 14)) a_1 0 = 1) (jv_885 : (¬ fld (f_852 a_0) 12 = 0 ∨ (1 ≤ wvf (f_852 (q 14)) a_1 2 ∧ wvf (f_852 (q 14)) a_1 2 ≤ 9))) (jv_888 : (¬ fld (f_852 a_0) 12 = 0 ∨ (1 ≤ wvf (f_852 (q 14)) a_1 3 ∧ wvf (f_852 (q 14)) a_1 3 ≤ 5))) (jv_891 : (¬ fld (f_852 a_0) 12 = 0 ∨ (1 ≤ wvf (f_852 (q 14)) a_1 4 ∧ wvf (f_852 (q 14)) a_1 4 ≤ 5))), V z E 4 0 0 L f_852 217 [(2, .int v_164), (0, .ref a_0), (1, .int a_1)] [.int v_881, .int v_847, .ref (q 14)] := by
                intro v_881 b_882 jv_883 jv_885 jv_888 jv_891
                have we_884 : wvf (f_852 (q 14)) a_1 0 = (wv g_816 a_1 0).toInt := by rw [hf_858]; rfl
                rw [we_884] at jv_883
                have fe_886 : fld (f_852 a_0) 12 = (v_872 : Int32).toInt := by rw [e_859]; rfl
                have we_887 : wvf (f_852 (q 14)) a_1 2 = (wv g_816 a_1 2).toInt := by rw [hf_858]; rfl
                rw [fe_886, we_887] at jv_885
                have fe_889 : fld (f_852 a_0) 12 = (v_872 : Int32).toInt := by rw [e_859]; rfl
                have we_890 : wvf (f_852 (q 14)) a_1 3 = (wv g_816 a_1 3).toInt := by rw [hf_858]; rfl
                rw [fe_889, we_890] at jv_888
                have fe_892 : fld (f_852 a_0) 12 = (v_872 : Int32).toInt := by rw [e_859]; rfl
                have we_893 : wvf (f_852 (q 14)) a_1 4 = (wv g_816 a_1 4).toInt := by rw [hf_858]; rfl
                rw [fe_892, we_893] at jv_891
                refine v_iast hC m_296 hf_858 (vp_in_iff.mpr (by first | omega | (simp only [Int32.lt_iff_toInt_lt, Int32.le_iff_toInt_le, Int32.reduceToInt, ← Int32.toInt_inj, true_and, and_true, or_true, true_or, false_or, or_false, false_and, and_false, not_true_eq_false, not_false_eq_true] <;> omega))) dX12_way_217 (fun f_894 hf_895 hk_896 => ?_)
                have hW_898 := hW_855.up hf_895 hk_896 t_297 ⟨_, rfl, (ok_817.up (by first | omega | (simp only [Int32.lt_iff_toInt_lt, Int32.le_iff_toInt_le, Int32.reduceToInt, ← Int32.toInt_inj, true_and, and_true, or_true, true_or, false_or, or_false, false_and, and_false, not_true_eq_false, not_false_eq_true] <;> omega)) (fun q1 q2 => (by first | omega | (simp only [Int32.lt_iff_toInt_lt, Int32.le_iff_toInt_le, Int32.reduceToInt, ← Int32.toInt_inj] at *; omega))) (fun k9 q1 q2 q3 => (by first | omega | (simp only [Int32.lt_iff_toInt_lt, Int32.le_iff_toInt_le, Int32.reduceToInt, ← Int32.toInt_inj] at *; omega))))⟩
                obtain ⟨g_897, hf_895, ok_899, eg_900⟩ : ∃ g9, f_894 (q 14) = aI E 2076 g9 ∧ FOK g9 ∧ g9 = upd g_816 (v_847 : Int32).toNatClampNeg v_881 := ⟨_, hf_895, (ok_817.up (by first | omega | (simp only [Int32.lt_iff_toInt_lt, Int32.le_iff_toInt_le, Int32.reduceToInt, ← Int32.toInt_inj, true_and, and_true, or_true, true_or, false_or, or_false, false_and, and_false, not_true_eq_false, not_false_eq_true] <;> omega)) (fun q1 q2 => (by first | omega | (simp only [Int32.lt_iff_toInt_lt, Int32.le_iff_toInt_le, Int32.reduceToInt, ← Int32.toInt_inj] at *; omega))) (fun k9 q1 q2 q3 => (by first | omega | (simp only [Int32.lt_iff_toInt_lt, Int32.le_iff_toInt_le, Int32.reduceToInt, ← Int32.toInt_inj] at *; omega)))), rfl⟩
                have hf_901 := (hk_896 a_0 (ne_kd e_859 hf_858 rfl)).trans e_859
                have fr_902 := FR.w hk_896 hf_858 (k := 2176) rfl
                have wt_903 := wv_upd_ne (k := a_1) (j := 0) eg_900 (by omega) (by decide) (by omega) (by simp only [Int32.reduceToInt]; omega)
                have wt_904 := wv_upd_ne (k := a_1) (j := 2) eg_900 (by omega) (by decide) (by omega) (by simp only [Int32.reduceToInt]; omega)
                have wt_905 := wv_upd_ne (k := a_1) (j := 3) eg_900 (by omega) (by decide) (by omega) (by simp only [Int32.reduceToInt]; omega)
                have wt_906 := wv_upd_ne (k := a_1) (j := 4) eg_900 (by omega) (by decide) (by omega) (by simp only [Int32.reduceToInt]; omega)
                refine v_aload_n hC dX12_way_218 rfl ?_
                refine v_get hC fl_X12_34 m_1 hf_901 rfl dX12_way_219 ?_
                refine v_iload_n hC dX12_way_222 rfl ?_
                refine v_bipush hC dX12_way_223 (v := 6) (by decide) ?_
                obtain ⟨v_907, h_908⟩ : ∃ v9 : Int32, v_164 + 6 = v9 := ⟨_, rfl⟩
                refine v_iadd hC dX12_way_225 h_908 ?_
                have h_909 := add_v h_908 (by first | omega | (simp only [Int32.lt_iff_toInt_lt, Int32.le_iff_toInt_le, Int32.reduceToInt, ← Int32.toInt_inj, true_and, and_true, or_true, true_or, false_or, or_false, false_and, and_false, not_true_eq_false, not_false_eq_true] <;> omega)) (by first | omega | (simp only [Int32.lt_iff_toInt_lt, Int32.le_iff_toInt_le, Int32.reduceToInt, ← Int32.toInt_inj, true_and, and_true, or_true, true_or, false_or, or_false, false_and, and_false, not_true_eq_false, not_false_eq_true] <;> omega))
                try simp only [Int32.reduceToInt] at h_909
                refine v_aload_n hC dX12_way_226 rfl ?_
                refine v_ldcS hC sr_X12_239 dX12_way_227 ?_
                refine v_vi hC (rest := [.int v_907, .ref (q 14)]) m_1 hf_901 rfl mi_X12_takes ms_X12_takes (p_X12_takes hW_898 k_0 (by decide)) mx_X12_takes ml_X12_159 (by decide) rfl (cells1 := 0) (slots1 := 0) (by decide) (by decide) (Nat.le_of_ble_eq_true rfl) (Nat.le_of_ble_eq_true rfl) rfl (Nat.le_of_ble_eq_true rfl) dX12_way_229 (fun r_910 L_911 f_912 h_913 => ?_)
                obtain ⟨rfl, hW_915, hF_916, rfl, -, -, x_914, -⟩ := h_913
                have fe_917 : fld (f_894 a_0) 12 = (v_872 : Int32).toInt := by rw [hf_901]; rfl
                have hf_918 := hF_916.at hf_895 rfl
                obtain ⟨v_920, v_921, v_923, v_925, v_927, v_929, v_931, v_932, v_933, v_934, v_936, e_919, b_922, b_924, b_926, b_928, b_930, b_935, b_937⟩ := hW_915.at m_1 t_2
                have fe_938 : fld (f_912 a_0) 12 = (v_932 : Int32).toInt := by rw [e_919]; rfl
                rw [fe_938, fe_917] at x_914
                clear fe_917 fe_938
                try simp only [Int32.reduceToInt, Int64.reduceToInt] at x_914
                have jn_940 : ∀ (v_941 : Int32) (b_942 : (0 ≤ v_941.toInt ∧ v_941.toInt ≤ 1)) (jv_943 : wvf (f_912 (q 14)) a_1 0 = 1) (jv_945 : (¬ fld (f_912 a_0) 12 = 0 ∨ (1 ≤ wvf (f_912 (q 14)) a_1 2 ∧ wvf (f_912 (q 14)) a_1 2 ≤ 9))) (jv_948 : (¬ fld (f_912 a_0) 12 = 0 ∨ (1 ≤ wvf (f_912 (q 14)) a_1 3 ∧ wvf (f_912 (q 14)) a_1 3 ≤ 5))) (jv_951 : (¬ fld (f_912 a_0) 12 = 0 ∨ (1 ≤ wvf (f_912 (q 14)) a_1 4 ∧ wvf (f_912 (q 14)) a_1 4 ≤ 5))), V z E 4 0 0 L f_912 240 [(2, .int v_164), (0, .ref a_0), (1, .int a_1)] [.int v_941, .int v_907, .ref (q 14)] := by
                  intro v_941 b_942 jv_943 jv_945 jv_948 jv_951
                  have we_944 : wvf (f_912 (q 14)) a_1 0 = (wv g_897 a_1 0).toInt := by rw [hf_918]; rfl
                  rw [we_944] at jv_943
                  have fe_946 : fld (f_912 a_0) 12 = (v_932 : Int32).toInt := by rw [e_919]; rfl
                  have we_947 : wvf (f_912 (q 14)) a_1 2 = (wv g_897 a_1 2).toInt := by rw [hf_918]; rfl
                  rw [fe_946, we_947] at jv_945
                  have fe_949 : fld (f_912 a_0) 12 = (v_932 : Int32).toInt := by rw [e_919]; rfl
                  have we_950 : wvf (f_912 (q 14)) a_1 3 = (wv g_897 a_1 3).toInt := by rw [hf_918]; rfl
                  rw [fe_949, we_950] at jv_948
                  have fe_952 : fld (f_912 a_0) 12 = (v_932 : Int32).toInt := by rw [e_919]; rfl
                  have we_953 : wvf (f_912 (q 14)) a_1 4 = (wv g_897 a_1 4).toInt := by rw [hf_918]; rfl
                  rw [fe_952, we_953] at jv_951
                  refine v_iast hC m_296 hf_918 (vp_in_iff.mpr (by first | omega | (simp only [Int32.lt_iff_toInt_lt, Int32.le_iff_toInt_le, Int32.reduceToInt, ← Int32.toInt_inj, true_and, and_true, or_true, true_or, false_or, or_false, false_and, and_false, not_true_eq_false, not_false_eq_true] <;> omega))) dX12_way_240 (fun f_954 hf_955 hk_956 => ?_)
                  have hW_958 := hW_915.up hf_955 hk_956 t_297 ⟨_, rfl, (ok_899.up (by first | omega | (simp only [Int32.lt_iff_toInt_lt, Int32.le_iff_toInt_le, Int32.reduceToInt, ← Int32.toInt_inj, true_and, and_true, or_true, true_or, false_or, or_false, false_and, and_false, not_true_eq_false, not_false_eq_true] <;> omega)) (fun q1 q2 => (by first | omega | (simp only [Int32.lt_iff_toInt_lt, Int32.le_iff_toInt_le, Int32.reduceToInt, ← Int32.toInt_inj] at *; omega))) (fun k9 q1 q2 q3 => (by first | omega | (simp only [Int32.lt_iff_toInt_lt, Int32.le_iff_toInt_le, Int32.reduceToInt, ← Int32.toInt_inj] at *; omega))))⟩
                  obtain ⟨g_957, hf_955, ok_959, eg_960⟩ : ∃ g9, f_954 (q 14) = aI E 2076 g9 ∧ FOK g9 ∧ g9 = upd g_897 (v_907 : Int32).toNatClampNeg v_941 := ⟨_, hf_955, (ok_899.up (by first | omega | (simp only [Int32.lt_iff_toInt_lt, Int32.le_iff_toInt_le, Int32.reduceToInt, ← Int32.toInt_inj, true_and, and_true, or_true, true_or, false_or, or_false, false_and, and_false, not_true_eq_false, not_false_eq_true] <;> omega)) (fun q1 q2 => (by first | omega | (simp only [Int32.lt_iff_toInt_lt, Int32.le_iff_toInt_le, Int32.reduceToInt, ← Int32.toInt_inj] at *; omega))) (fun k9 q1 q2 q3 => (by first | omega | (simp only [Int32.lt_iff_toInt_lt, Int32.le_iff_toInt_le, Int32.reduceToInt, ← Int32.toInt_inj] at *; omega)))), rfl⟩
                  have hf_961 := (hk_956 a_0 (ne_kd e_919 hf_918 rfl)).trans e_919
                  have fr_962 := FR.w hk_956 hf_918 (k := 2176) rfl
                  have wt_963 := wv_upd_ne (k := a_1) (j := 0) eg_960 (by omega) (by decide) (by omega) (by simp only [Int32.reduceToInt]; omega)
                  have wt_964 := wv_upd_ne (k := a_1) (j := 2) eg_960 (by omega) (by decide) (by omega) (by simp only [Int32.reduceToInt]; omega)
                  have wt_965 := wv_upd_ne (k := a_1) (j := 3) eg_960 (by omega) (by decide) (by omega) (by simp only [Int32.reduceToInt]; omega)
                  have wt_966 := wv_upd_ne (k := a_1) (j := 4) eg_960 (by omega) (by decide) (by omega) (by simp only [Int32.reduceToInt]; omega)
                  refine v_aload_n hC dX12_way_241 rfl ?_
                  refine v_vv hC (rest := []) m_1 hf_961 rfl mi_X12_ends ms_X12_ends (p_X12_ends hW_958 k_0) mx_X12_ends ml_X12_178 (by decide) rfl (cells1 := 0) (slots1 := 0) (by decide) (by decide) (Nat.le_of_ble_eq_true rfl) (Nat.le_of_ble_eq_true rfl) rfl (Nat.le_of_ble_eq_true rfl) dX12_way_242 (fun L_968 f_969 h_970 => ?_)
                  obtain ⟨rfl, hW_972, hF_973, x_971, -, -, -⟩ := h_970
                  have fe_974 : fld (f_954 a_0) 12 = (v_932 : Int32).toInt := by rw [hf_961]; rfl
                  have hf_975 := hF_973.at hf_955 rfl
                  obtain ⟨v_977, v_978, v_980, v_982, v_984, v_986, v_988, v_989, v_990, v_991, v_993, e_976, b_979, b_981, b_983, b_985, b_987, b_992, b_994⟩ := hW_972.at m_1 t_2
                  have fe_995 : fld (f_969 a_0) 12 = (v_989 : Int32).toInt := by rw [e_976]; rfl
                  rw [fe_995, fe_974] at x_971
                  clear fe_974 fe_995
                  refine v_aload_n hC dX12_way_245 rfl ?_
                  refine v_vv hC (rest := []) m_1 e_976 rfl mi_X12_endsAll ms_X12_endsAll (p_X12_endsAll hW_972 k_0) mx_X12_endsAll ml_X12_218 (by decide) rfl (cells1 := 0) (slots1 := 0) (by decide) (by decide) (Nat.le_of_ble_eq_true rfl) (Nat.le_of_ble_eq_true rfl) rfl (Nat.le_of_ble_eq_true rfl) dX12_way_246 (fun L_997 f_998 h_999 => ?_)
                  obtain ⟨rfl, hW_1001, hF_1002, x_1000, -⟩ := h_999
                  have fe_1003 : fld (f_969 a_0) 12 = (v_989 : Int32).toInt := by rw [e_976]; rfl
                  have hf_1004 := hF_1002.at hf_975 rfl
                  obtain ⟨v_1006, v_1007, v_1009, v_1011, v_1013, v_1015, v_1017, v_1018, v_1019, v_1020, v_1022, e_1005, b_1008, b_1010, b_1012, b_1014, b_1016, b_1021, b_1023⟩ := hW_1001.at m_1 t_2
                  have fe_1024 : fld (f_998 a_0) 12 = (v_1018 : Int32).toInt := by rw [e_1005]; rfl
                  rw [fe_1024, fe_1003] at x_1000
                  clear fe_1003 fe_1024
                  refine v_aload_n hC dX12_way_249 rfl ?_
                  refine v_vi hC (rest := []) m_1 e_1005 rfl mi_X12_good ms_X12_good (p_X12_good hW_1001 k_0) mx_X12_good ml_X12_139 (by decide) rfl (cells1 := 0) (slots1 := 0) (by decide) (by decide) (Nat.le_of_ble_eq_true rfl) (Nat.le_of_ble_eq_true rfl) rfl (Nat.le_of_ble_eq_true rfl) dX12_way_250 (fun r_1025 L_1026 f_1027 h_1028 => ?_)
                  obtain ⟨rfl, rfl, b_1029, x_1030⟩ := h_1028
                  have fe_1033 : fld (f_998 a_0) 12 = (v_1018 : Int32).toInt := by rw [e_1005]; rfl
                  rw [fe_1033] at x_1030
                  clear fe_1033
                  try simp only [Int32.reduceToInt, Int64.reduceToInt] at x_1030
                  refine v_if_ne hC dX12_way_253 (tgt := 259) (by decide) (fun h_1034 => ?_) (fun h_1034 => ?_)
                  · simp only [Int32.lt_iff_toInt_lt, Int32.le_iff_toInt_le, Int32.reduceToInt, ← Int32.toInt_inj] at h_1034
                    refine v_aload_n hC dX12_way_259 rfl ?_
                    refine v_iload_n hC dX12_way_260 rfl ?_
                    refine v_iload_n hC dX12_way_261 rfl ?_
                    refine v_bipush hC dX12_way_262 (v := 7) (by decide) ?_
                    obtain ⟨v_1035, h_1036⟩ : ∃ v9 : Int32, v_164 + 7 = v9 := ⟨_, rfl⟩
                    refine v_iadd hC dX12_way_264 h_1036 ?_
                    have h_1037 := add_v h_1036 (by first | omega | (simp only [Int32.lt_iff_toInt_lt, Int32.le_iff_toInt_le, Int32.reduceToInt, ← Int32.toInt_inj, true_and, and_true, or_true, true_or, false_or, or_false, false_and, and_false, not_true_eq_false, not_false_eq_true] <;> omega)) (by first | omega | (simp only [Int32.lt_iff_toInt_lt, Int32.le_iff_toInt_le, Int32.reduceToInt, ← Int32.toInt_inj, true_and, and_true, or_true, true_or, false_or, or_false, false_and, and_false, not_true_eq_false, not_false_eq_true] <;> omega))
                    try simp only [Int32.reduceToInt] at h_1037
                    obtain ⟨g_1039, e_1038, ok_1040⟩ := hW_1001.at m_167 t_168
                    have b_1041 := ok_1040.r0
                    have b_1042 := ok_1040.w0
                    have wr_1043 : wvr g_957 a_1 := ⟨by omega, by omega, by omega, by omega⟩
                    refine v_vv hC (rest := []) m_1 e_1005 rfl mi_X12_keeps ms_X12_keeps (p_X12_keeps k_0 e_1005 e_1038 hf_1004 (by omega)) mx_X12_keeps ml_X12_197 (by decide) rfl (cells1 := 0) (slots1 := 0) (by decide) (by decide) (Nat.le_of_ble_eq_true rfl) (Nat.le_of_ble_eq_true rfl) rfl (Nat.le_of_ble_eq_true rfl) dX12_way_265 (fun L_1045 f_1046 h_1047 => ?_)
                    obtain ⟨rfl, hf_1048, hk_1049⟩ := h_1047
                    have hf_1050 := (hk_1049 (q 14) nq_21.symm).trans hf_1004
                    have hf_1051 := (hk_1049 a_0 (ne_kd e_1005 e_1038 rfl)).trans e_1005
                    obtain ⟨g_1054, e_1055, ok_1053, eg_1056⟩ : ∃ g9, f_1046 (q 1) = aI E 2076 g9 ∧ WOK g9 ∧ g9 = (va_cpy g_957 g_1039 (v_164 : Int32).toNatClampNeg (v_164 : Int32).toNatClampNeg ((v_1035 : Int32).toNatClampNeg - (v_164 : Int32).toNatClampNeg)) := ⟨_, hf_1048, (ok_1040.wayc (k := a_1) (by omega) wr_1043 (by rw [clamp_t]; omega) (by rw [clamp_t, clamp_t]; omega)), rfl⟩
                    have hW_1052 := hW_1001.up e_1055 hk_1049 t_168 ⟨_, rfl, ok_1053⟩
                    have fr_1057 := FR.w hk_1049 e_1038 (k := 2176) rfl
                    have b_1058 := ok_1053.r0
                    have b_1059 := ok_1053.w0
                    have wc_1060 : wv g_1054 a_1 0 = wv g_957 a_1 0 := by rw [eg_1056]; exact wv_cpy (by omega) (by decide) (by rw [clamp_t]; omega) (by rw [clamp_t, clamp_t]; omega)
                    have wc_1060_t := congrArg Int32.toInt wc_1060
                    refine v_aload_n hC dX12_way_268 rfl ?_
                    refine v_iload_n hC dX12_way_269 rfl ?_
                    refine v_vi hC (rest := []) m_1 hf_1051 rfl mi_X12_roomOf ms_X12_roomOf (p_X12_roomOf hW_1052 k_0 (by first | omega | (simp only [Int32.lt_iff_toInt_lt, Int32.le_iff_toInt_le, Int32.reduceToInt, ← Int32.toInt_inj, true_and, and_true, or_true, true_or, false_or, or_false, false_and, and_false, not_true_eq_false, not_false_eq_true] <;> omega)) e_1055 ok_1053 (by first | omega | (simp only [Int32.lt_iff_toInt_lt, Int32.le_iff_toInt_le, Int32.reduceToInt, ← Int32.toInt_inj, true_and, and_true, or_true, true_or, false_or, or_false, false_and, and_false, not_true_eq_false, not_false_eq_true] <;> omega))) mx_X12_roomOf ml_X12_241 (by decide) rfl (cells1 := 0) (slots1 := 0) (by decide) (by decide) (Nat.le_of_ble_eq_true rfl) (Nat.le_of_ble_eq_true rfl) rfl (Nat.le_of_ble_eq_true rfl) dX12_way_270 (fun r_1061 L_1062 f_1063 h_1064 => ?_)
                    obtain ⟨rfl, hW_1069, hF_1070, b_1065, x_1066, x_1067, x_1068⟩ := h_1064
                    have fe_1071 : fld (f_1046 a_0) 20 = (v_1022 : Int32).toInt := by rw [hf_1051]; rfl
                    have hf_1072 := hF_1070.at hf_1050 rfl
                    have hf_1073 := hF_1070.at e_1055 rfl
                    obtain ⟨v_1075, v_1076, v_1078, v_1080, v_1082, v_1084, v_1086, v_1087, v_1088, v_1089, v_1091, e_1074, b_1077, b_1079, b_1081, b_1083, b_1085, b_1090, b_1092⟩ := hW_1069.at m_1 t_2
                    have fe_1093 : fld (f_1063 a_0) 20 = (v_1091 : Int32).toInt := by rw [e_1074]; rfl
                    rw [fe_1093, fe_1071] at x_1068
                    clear fe_1071 fe_1093
                    try simp only [Int32.reduceToInt, Int64.reduceToInt] at x_1066
                    try simp only [Int32.reduceToInt, Int64.reduceToInt] at x_1067
                    try simp only [Int32.reduceToInt, Int64.reduceToInt] at x_1068
                    exact hR _ _ _ _ _ _ _ dX12_way_273 rfl (Nat.le_of_ble_eq_true rfl) (Nat.le_of_ble_eq_true rfl) ⟨rfl, hW_1069, (((((((((((((((((((((((((hF_56.tr hF_83).tr hF_111).tr hF_139).tr hF_212).tr hF_275).tr fr_309).tr fr_325).tr hF_339).tr hF_396).tr fr_429).tr hF_443).tr hF_500).tr fr_536).tr fr_552).tr hF_563).tr hF_813).tr hF_856).tr fr_902).tr hF_916).tr fr_962).tr hF_973).tr hF_1002).tr fr_1057).tr hF_1070).mono rfl), (by first | omega | (simp only [Int32.lt_iff_toInt_lt, Int32.le_iff_toInt_le, Int32.reduceToInt, ← Int32.toInt_inj, true_and, and_true, or_true, true_or, false_or, or_false, false_and, and_false, not_true_eq_false, not_false_eq_true] <;> omega)), (.inr (by first | omega | (simp only [Int32.lt_iff_toInt_lt, Int32.le_iff_toInt_le, Int32.reduceToInt, ← Int32.toInt_inj, true_and, and_true, or_true, true_or, false_or, or_false, false_and, and_false, not_true_eq_false, not_false_eq_true] <;> omega)))⟩
                  · simp only [Int32.lt_iff_toInt_lt, Int32.le_iff_toInt_le, Int32.reduceToInt, ← Int32.toInt_inj] at h_1034
                    refine v_bipush hC dX12_way_256 (v := (-4)) (by decide) ?_
                    exact hR _ _ _ _ _ _ _ dX12_way_258 rfl (Nat.le_of_ble_eq_true rfl) (Nat.le_of_ble_eq_true rfl) ⟨rfl, hW_1001, (((((((((((((((((((((((hF_56.tr hF_83).tr hF_111).tr hF_139).tr hF_212).tr hF_275).tr fr_309).tr fr_325).tr hF_339).tr hF_396).tr fr_429).tr hF_443).tr hF_500).tr fr_536).tr fr_552).tr hF_563).tr hF_813).tr hF_856).tr fr_902).tr hF_916).tr fr_962).tr hF_973).tr hF_1002).mono rfl), (by decide), (.inl (by decide))⟩
                refine v_if_eq hC dX12_way_232 (tgt := 239) (by decide) (fun h_939 => ?_) (fun h_939 => ?_)
                · simp only [Int32.lt_iff_toInt_lt, Int32.le_iff_toInt_le, Int32.reduceToInt, ← Int32.toInt_inj] at h_939
                  refine v_iconst hC dX12_way_239 (v := 0) (by decide) ?_
                  refine v_pick [0, 1, 2] rfl ?_
                  have we_1094 : wvf (f_912 (q 14)) a_1 0 = (wv g_897 a_1 0).toInt := by rw [hf_918]; rfl
                  have fe_1095 : fld (f_912 a_0) 12 = (v_932 : Int32).toInt := by rw [e_919]; rfl
                  have we_1096 : wvf (f_912 (q 14)) a_1 2 = (wv g_897 a_1 2).toInt := by rw [hf_918]; rfl
                  have fe_1097 : fld (f_912 a_0) 12 = (v_932 : Int32).toInt := by rw [e_919]; rfl
                  have we_1098 : wvf (f_912 (q 14)) a_1 3 = (wv g_897 a_1 3).toInt := by rw [hf_918]; rfl
                  have fe_1099 : fld (f_912 a_0) 12 = (v_932 : Int32).toInt := by rw [e_919]; rfl
                  have we_1100 : wvf (f_912 (q 14)) a_1 4 = (wv g_897 a_1 4).toInt := by rw [hf_918]; rfl
                  exact jn_940 0 (by decide) (by rw [we_1094] <;> first | omega | (simp only [Int32.lt_iff_toInt_lt, Int32.le_iff_toInt_le, Int32.reduceToInt, ← Int32.toInt_inj, true_and, and_true, or_true, true_or, false_or, or_false, false_and, and_false, not_true_eq_false, not_false_eq_true] <;> omega)) (by rw [fe_1095, we_1096] <;> first | omega | (simp only [Int32.lt_iff_toInt_lt, Int32.le_iff_toInt_le, Int32.reduceToInt, ← Int32.toInt_inj, true_and, and_true, or_true, true_or, false_or, or_false, false_and, and_false, not_true_eq_false, not_false_eq_true] <;> omega)) (by rw [fe_1097, we_1098] <;> first | omega | (simp only [Int32.lt_iff_toInt_lt, Int32.le_iff_toInt_le, Int32.reduceToInt, ← Int32.toInt_inj, true_and, and_true, or_true, true_or, false_or, or_false, false_and, and_false, not_true_eq_false, not_false_eq_true] <;> omega)) (by rw [fe_1099, we_1100] <;> first | omega | (simp only [Int32.lt_iff_toInt_lt, Int32.le_iff_toInt_le, Int32.reduceToInt, ← Int32.toInt_inj, true_and, and_true, or_true, true_or, false_or, or_false, false_and, and_false, not_true_eq_false, not_false_eq_true] <;> omega))
                · simp only [Int32.lt_iff_toInt_lt, Int32.le_iff_toInt_le, Int32.reduceToInt, ← Int32.toInt_inj] at h_939
                  refine v_iconst hC dX12_way_235 (v := 1) (by decide) ?_
                  refine v_goto hC dX12_way_236 (tgt := 240) (by decide) ?_
                  refine v_pick [0, 1, 2] rfl ?_
                  have we_1101 : wvf (f_912 (q 14)) a_1 0 = (wv g_897 a_1 0).toInt := by rw [hf_918]; rfl
                  have fe_1102 : fld (f_912 a_0) 12 = (v_932 : Int32).toInt := by rw [e_919]; rfl
                  have we_1103 : wvf (f_912 (q 14)) a_1 2 = (wv g_897 a_1 2).toInt := by rw [hf_918]; rfl
                  have fe_1104 : fld (f_912 a_0) 12 = (v_932 : Int32).toInt := by rw [e_919]; rfl
                  have we_1105 : wvf (f_912 (q 14)) a_1 3 = (wv g_897 a_1 3).toInt := by rw [hf_918]; rfl
                  have fe_1106 : fld (f_912 a_0) 12 = (v_932 : Int32).toInt := by rw [e_919]; rfl
                  have we_1107 : wvf (f_912 (q 14)) a_1 4 = (wv g_897 a_1 4).toInt := by rw [hf_918]; rfl
                  exact jn_940 1 (by decide) (by rw [we_1101] <;> first | omega | (simp only [Int32.lt_iff_toInt_lt, Int32.le_iff_toInt_le, Int32.reduceToInt, ← Int32.toInt_inj, true_and, and_true, or_true, true_or, false_or, or_false, false_and, and_false, not_true_eq_false, not_false_eq_true] <;> omega)) (by rw [fe_1102, we_1103] <;> first | omega | (simp only [Int32.lt_iff_toInt_lt, Int32.le_iff_toInt_le, Int32.reduceToInt, ← Int32.toInt_inj, true_and, and_true, or_true, true_or, false_or, or_false, false_and, and_false, not_true_eq_false, not_false_eq_true] <;> omega)) (by rw [fe_1104, we_1105] <;> first | omega | (simp only [Int32.lt_iff_toInt_lt, Int32.le_iff_toInt_le, Int32.reduceToInt, ← Int32.toInt_inj, true_and, and_true, or_true, true_or, false_or, or_false, false_and, and_false, not_true_eq_false, not_false_eq_true] <;> omega)) (by rw [fe_1106, we_1107] <;> first | omega | (simp only [Int32.lt_iff_toInt_lt, Int32.le_iff_toInt_le, Int32.reduceToInt, ← Int32.toInt_inj, true_and, and_true, or_true, true_or, false_or, or_false, false_and, and_false, not_true_eq_false, not_false_eq_true] <;> omega))
              refine v_if_eq hC dX12_way_209 (tgt := 216) (by decide) (fun h_879 => ?_) (fun h_879 => ?_)
              · simp only [Int32.lt_iff_toInt_lt, Int32.le_iff_toInt_le, Int32.reduceToInt, ← Int32.toInt_inj] at h_879
                refine v_iconst hC dX12_way_216 (v := 0) (by decide) ?_
                refine v_pick [0, 1, 2] rfl ?_
                have we_1108 : wvf (f_852 (q 14)) a_1 0 = (wv g_816 a_1 0).toInt := by rw [hf_858]; rfl
                have fe_1109 : fld (f_852 a_0) 12 = (v_872 : Int32).toInt := by rw [e_859]; rfl
                have we_1110 : wvf (f_852 (q 14)) a_1 2 = (wv g_816 a_1 2).toInt := by rw [hf_858]; rfl
                have fe_1111 : fld (f_852 a_0) 12 = (v_872 : Int32).toInt := by rw [e_859]; rfl
                have we_1112 : wvf (f_852 (q 14)) a_1 3 = (wv g_816 a_1 3).toInt := by rw [hf_858]; rfl
                have fe_1113 : fld (f_852 a_0) 12 = (v_872 : Int32).toInt := by rw [e_859]; rfl
                have we_1114 : wvf (f_852 (q 14)) a_1 4 = (wv g_816 a_1 4).toInt := by rw [hf_858]; rfl
                exact jn_880 0 (by decide) (by rw [we_1108] <;> first | omega | (simp only [Int32.lt_iff_toInt_lt, Int32.le_iff_toInt_le, Int32.reduceToInt, ← Int32.toInt_inj, true_and, and_true, or_true, true_or, false_or, or_false, false_and, and_false, not_true_eq_false, not_false_eq_true] <;> omega)) (by rw [fe_1109, we_1110] <;> first | omega | (simp only [Int32.lt_iff_toInt_lt, Int32.le_iff_toInt_le, Int32.reduceToInt, ← Int32.toInt_inj, true_and, and_true, or_true, true_or, false_or, or_false, false_and, and_false, not_true_eq_false, not_false_eq_true] <;> omega)) (by rw [fe_1111, we_1112] <;> first | omega | (simp only [Int32.lt_iff_toInt_lt, Int32.le_iff_toInt_le, Int32.reduceToInt, ← Int32.toInt_inj, true_and, and_true, or_true, true_or, false_or, or_false, false_and, and_false, not_true_eq_false, not_false_eq_true] <;> omega)) (by rw [fe_1113, we_1114] <;> first | omega | (simp only [Int32.lt_iff_toInt_lt, Int32.le_iff_toInt_le, Int32.reduceToInt, ← Int32.toInt_inj, true_and, and_true, or_true, true_or, false_or, or_false, false_and, and_false, not_true_eq_false, not_false_eq_true] <;> omega))
              · simp only [Int32.lt_iff_toInt_lt, Int32.le_iff_toInt_le, Int32.reduceToInt, ← Int32.toInt_inj] at h_879
                refine v_iconst hC dX12_way_212 (v := 1) (by decide) ?_
                refine v_goto hC dX12_way_213 (tgt := 217) (by decide) ?_
                refine v_pick [0, 1, 2] rfl ?_
                have we_1115 : wvf (f_852 (q 14)) a_1 0 = (wv g_816 a_1 0).toInt := by rw [hf_858]; rfl
                have fe_1116 : fld (f_852 a_0) 12 = (v_872 : Int32).toInt := by rw [e_859]; rfl
                have we_1117 : wvf (f_852 (q 14)) a_1 2 = (wv g_816 a_1 2).toInt := by rw [hf_858]; rfl
                have fe_1118 : fld (f_852 a_0) 12 = (v_872 : Int32).toInt := by rw [e_859]; rfl
                have we_1119 : wvf (f_852 (q 14)) a_1 3 = (wv g_816 a_1 3).toInt := by rw [hf_858]; rfl
                have fe_1120 : fld (f_852 a_0) 12 = (v_872 : Int32).toInt := by rw [e_859]; rfl
                have we_1121 : wvf (f_852 (q 14)) a_1 4 = (wv g_816 a_1 4).toInt := by rw [hf_858]; rfl
                exact jn_880 1 (by decide) (by rw [we_1115] <;> first | omega | (simp only [Int32.lt_iff_toInt_lt, Int32.le_iff_toInt_le, Int32.reduceToInt, ← Int32.toInt_inj, true_and, and_true, or_true, true_or, false_or, or_false, false_and, and_false, not_true_eq_false, not_false_eq_true] <;> omega)) (by rw [fe_1116, we_1117] <;> first | omega | (simp only [Int32.lt_iff_toInt_lt, Int32.le_iff_toInt_le, Int32.reduceToInt, ← Int32.toInt_inj, true_and, and_true, or_true, true_or, false_or, or_false, false_and, and_false, not_true_eq_false, not_false_eq_true] <;> omega)) (by rw [fe_1118, we_1119] <;> first | omega | (simp only [Int32.lt_iff_toInt_lt, Int32.le_iff_toInt_le, Int32.reduceToInt, ← Int32.toInt_inj, true_and, and_true, or_true, true_or, false_or, or_false, false_and, and_false, not_true_eq_false, not_false_eq_true] <;> omega)) (by rw [fe_1120, we_1121] <;> first | omega | (simp only [Int32.lt_iff_toInt_lt, Int32.le_iff_toInt_le, Int32.reduceToInt, ← Int32.toInt_inj, true_and, and_true, or_true, true_or, false_or, or_false, false_and, and_false, not_true_eq_false, not_false_eq_true] <;> omega))
            refine v_if_eq hC dX12_way_150 (tgt := 196) (by decide) (fun h_586 => ?_) (fun h_586 => ?_)
            · simp only [Int32.lt_iff_toInt_lt, Int32.le_iff_toInt_le, Int32.reduceToInt, ← Int32.toInt_inj] at h_586
              refine v_pick [0, 1, 2] rfl ?_
              have we_1122 : wvf (f_559 (q 14)) a_1 0 = (wv g_547 a_1 0).toInt := by rw [hf_565]; rfl
              have fe_1123 : fld (f_559 a_0) 12 = (v_579 : Int32).toInt := by rw [e_566]; rfl
              have we_1124 : wvf (f_559 (q 14)) a_1 2 = (wv g_547 a_1 2).toInt := by rw [hf_565]; rfl
              have fe_1125 : fld (f_559 a_0) 12 = (v_579 : Int32).toInt := by rw [e_566]; rfl
              have we_1126 : wvf (f_559 (q 14)) a_1 3 = (wv g_547 a_1 3).toInt := by rw [hf_565]; rfl
              have fe_1127 : fld (f_559 a_0) 12 = (v_579 : Int32).toInt := by rw [e_566]; rfl
              have we_1128 : wvf (f_559 (q 14)) a_1 4 = (wv g_547 a_1 4).toInt := by rw [hf_565]; rfl
              exact jn_810 f_559 hW_562 FR.rf (by rw [we_1122] <;> first | omega | (simp only [Int32.lt_iff_toInt_lt, Int32.le_iff_toInt_le, Int32.reduceToInt, ← Int32.toInt_inj, true_and, and_true, or_true, true_or, false_or, or_false, false_and, and_false, not_true_eq_false, not_false_eq_true] <;> omega)) (by rw [fe_1123, we_1124] <;> first | omega | (simp only [Int32.lt_iff_toInt_lt, Int32.le_iff_toInt_le, Int32.reduceToInt, ← Int32.toInt_inj, true_and, and_true, or_true, true_or, false_or, or_false, false_and, and_false, not_true_eq_false, not_false_eq_true] <;> omega)) (by rw [fe_1125, we_1126] <;> first | omega | (simp only [Int32.lt_iff_toInt_lt, Int32.le_iff_toInt_le, Int32.reduceToInt, ← Int32.toInt_inj, true_and, and_true, or_true, true_or, false_or, or_false, false_and, and_false, not_true_eq_false, not_false_eq_true] <;> omega)) (by rw [fe_1127, we_1128] <;> first | omega | (simp only [Int32.lt_iff_toInt_lt, Int32.le_iff_toInt_le, Int32.reduceToInt, ← Int32.toInt_inj, true_and, and_true, or_true, true_or, false_or, or_false, false_and, and_false, not_true_eq_false, not_false_eq_true] <;> omega))
            · simp only [Int32.lt_iff_toInt_lt, Int32.le_iff_toInt_le, Int32.reduceToInt, ← Int32.toInt_inj] at h_586
              refine v_aload_n hC dX12_way_153 rfl ?_
              refine v_vi hC (rest := []) m_1 e_566 rfl mi_X12_good ms_X12_good (p_X12_good hW_562 k_0) mx_X12_good ml_X12_139 (by decide) rfl (cells1 := 0) (slots1 := 0) (by decide) (by decide) (Nat.le_of_ble_eq_true rfl) (Nat.le_of_ble_eq_true rfl) rfl (Nat.le_of_ble_eq_true rfl) dX12_way_154 (fun r_1129 L_1130 f_1131 h_1132 => ?_)
              obtain ⟨rfl, rfl, b_1133, x_1134⟩ := h_1132
              have fe_1137 : fld (f_559 a_0) 12 = (v_579 : Int32).toInt := by rw [e_566]; rfl
              rw [fe_1137] at x_1134
              clear fe_1137
              try simp only [Int32.reduceToInt, Int64.reduceToInt] at x_1134
              refine v_if_eq hC dX12_way_157 (tgt := 182) (by decide) (fun h_1138 => ?_) (fun h_1138 => ?_)
              · simp only [Int32.lt_iff_toInt_lt, Int32.le_iff_toInt_le, Int32.reduceToInt, ← Int32.toInt_inj] at h_1138
                refine v_aload_n hC dX12_way_182 rfl ?_
                refine v_get hC fl_X12_34 m_1 e_566 rfl dX12_way_183 ?_
                refine v_iload_n hC dX12_way_186 rfl ?_
                refine v_iconst hC dX12_way_187 (v := 4) (by decide) ?_
                obtain ⟨v_1139, h_1140⟩ : ∃ v9 : Int32, v_164 + 4 = v9 := ⟨_, rfl⟩
                refine v_iadd hC dX12_way_188 h_1140 ?_
                have h_1141 := add_v h_1140 (by first | omega | (simp only [Int32.lt_iff_toInt_lt, Int32.le_iff_toInt_le, Int32.reduceToInt, ← Int32.toInt_inj, true_and, and_true, or_true, true_or, false_or, or_false, false_and, and_false, not_true_eq_false, not_false_eq_true] <;> omega)) (by first | omega | (simp only [Int32.lt_iff_toInt_lt, Int32.le_iff_toInt_le, Int32.reduceToInt, ← Int32.toInt_inj, true_and, and_true, or_true, true_or, false_or, or_false, false_and, and_false, not_true_eq_false, not_false_eq_true] <;> omega))
                try simp only [Int32.reduceToInt] at h_1141
                refine v_aload_n hC dX12_way_189 rfl ?_
                refine v_iconst hC dX12_way_190 (v := 1) (by decide) ?_
                refine v_iconst hC dX12_way_191 (v := 5) (by decide) ?_
                refine v_vi hC (rest := [.int v_1139, .ref (q 14)]) m_1 e_566 rfl mi_X12_number ms_X12_number (p_X12_number hW_562 k_0) mx_X12_number ml_X12_170 (by decide) rfl (cells1 := 0) (slots1 := 0) (by decide) (by decide) (Nat.le_of_ble_eq_true rfl) (Nat.le_of_ble_eq_true rfl) rfl (Nat.le_of_ble_eq_true rfl) dX12_way_192 (fun r_1142 L_1143 f_1144 h_1145 => ?_)
                obtain ⟨rfl, hW_1147, hF_1148, x_1146, -, -, -, -⟩ := h_1145
                have fe_1149 : fld (f_559 a_0) 12 = (v_579 : Int32).toInt := by rw [e_566]; rfl
                have hf_1150 := hF_1148.at hf_565 rfl
                obtain ⟨v_1152, v_1153, v_1155, v_1157, v_1159, v_1161, v_1163, v_1164, v_1165, v_1166, v_1168, e_1151, b_1154, b_1156, b_1158, b_1160, b_1162, b_1167, b_1169⟩ := hW_1147.at m_1 t_2
                have fe_1170 : fld (f_1144 a_0) 12 = (v_1164 : Int32).toInt := by rw [e_1151]; rfl
                rw [fe_1170, fe_1149] at x_1146
                clear fe_1149 fe_1170
                try simp only [Int32.reduceToInt, Int64.reduceToInt] at x_1146
                refine v_iast hC m_296 hf_1150 (vp_in_iff.mpr (by first | omega | (simp only [Int32.lt_iff_toInt_lt, Int32.le_iff_toInt_le, Int32.reduceToInt, ← Int32.toInt_inj, true_and, and_true, or_true, true_or, false_or, or_false, false_and, and_false, not_true_eq_false, not_false_eq_true] <;> omega))) dX12_way_195 (fun f_1171 hf_1172 hk_1173 => ?_)
                have hW_1175 := hW_1147.up hf_1172 hk_1173 t_297 ⟨_, rfl, (ok_549.up (by first | omega | (simp only [Int32.lt_iff_toInt_lt, Int32.le_iff_toInt_le, Int32.reduceToInt, ← Int32.toInt_inj, true_and, and_true, or_true, true_or, false_or, or_false, false_and, and_false, not_true_eq_false, not_false_eq_true] <;> omega)) (fun q1 q2 => (by first | omega | (simp only [Int32.lt_iff_toInt_lt, Int32.le_iff_toInt_le, Int32.reduceToInt, ← Int32.toInt_inj] at *; omega))) (fun k9 q1 q2 q3 => (by first | omega | (simp only [Int32.lt_iff_toInt_lt, Int32.le_iff_toInt_le, Int32.reduceToInt, ← Int32.toInt_inj] at *; omega))))⟩
                obtain ⟨g_1174, hf_1172, ok_1176, eg_1177⟩ : ∃ g9, f_1171 (q 14) = aI E 2076 g9 ∧ FOK g9 ∧ g9 = upd g_547 (v_1139 : Int32).toNatClampNeg r_1142 := ⟨_, hf_1172, (ok_549.up (by first | omega | (simp only [Int32.lt_iff_toInt_lt, Int32.le_iff_toInt_le, Int32.reduceToInt, ← Int32.toInt_inj, true_and, and_true, or_true, true_or, false_or, or_false, false_and, and_false, not_true_eq_false, not_false_eq_true] <;> omega)) (fun q1 q2 => (by first | omega | (simp only [Int32.lt_iff_toInt_lt, Int32.le_iff_toInt_le, Int32.reduceToInt, ← Int32.toInt_inj] at *; omega))) (fun k9 q1 q2 q3 => (by first | omega | (simp only [Int32.lt_iff_toInt_lt, Int32.le_iff_toInt_le, Int32.reduceToInt, ← Int32.toInt_inj] at *; omega)))), rfl⟩
                have hf_1178 := (hk_1173 a_0 (ne_kd e_1151 hf_1150 rfl)).trans e_1151
                have fr_1179 := FR.w hk_1173 hf_1150 (k := 2176) rfl
                have wt_1180 := wv_upd_ne (k := a_1) (j := 0) eg_1177 (by omega) (by decide) (by omega) (by simp only [Int32.reduceToInt]; omega)
                have wt_1181 := wv_upd_ne (k := a_1) (j := 2) eg_1177 (by omega) (by decide) (by omega) (by simp only [Int32.reduceToInt]; omega)
                have wt_1182 := wv_upd_ne (k := a_1) (j := 3) eg_1177 (by omega) (by decide) (by omega) (by simp only [Int32.reduceToInt]; omega)
                have wt_1183 := wv_upd_eq (k := a_1) (j := 4) eg_1177 (by omega) (by decide) (by simp only [Int32.reduceToInt]; omega)
                refine v_pick [0, 1, 2] rfl ?_
                have we_1184 : wvf (f_1171 (q 14)) a_1 0 = (wv g_1174 a_1 0).toInt := by rw [hf_1172]; rfl
                have fe_1185 : fld (f_1171 a_0) 12 = (v_1164 : Int32).toInt := by rw [hf_1178]; rfl
                have we_1186 : wvf (f_1171 (q 14)) a_1 2 = (wv g_1174 a_1 2).toInt := by rw [hf_1172]; rfl
                have fe_1187 : fld (f_1171 a_0) 12 = (v_1164 : Int32).toInt := by rw [hf_1178]; rfl
                have we_1188 : wvf (f_1171 (q 14)) a_1 3 = (wv g_1174 a_1 3).toInt := by rw [hf_1172]; rfl
                have fe_1189 : fld (f_1171 a_0) 12 = (v_1164 : Int32).toInt := by rw [hf_1178]; rfl
                have we_1190 : wvf (f_1171 (q 14)) a_1 4 = (wv g_1174 a_1 4).toInt := by rw [hf_1172]; rfl
                exact jn_810 f_1171 hW_1175 ((hF_1148.tr fr_1179).mono rfl) (by rw [we_1184] <;> first | omega | (simp only [Int32.lt_iff_toInt_lt, Int32.le_iff_toInt_le, Int32.reduceToInt, ← Int32.toInt_inj, true_and, and_true, or_true, true_or, false_or, or_false, false_and, and_false, not_true_eq_false, not_false_eq_true] <;> omega)) (by rw [fe_1185, we_1186] <;> first | omega | (simp only [Int32.lt_iff_toInt_lt, Int32.le_iff_toInt_le, Int32.reduceToInt, ← Int32.toInt_inj, true_and, and_true, or_true, true_or, false_or, or_false, false_and, and_false, not_true_eq_false, not_false_eq_true] <;> omega)) (by rw [fe_1187, we_1188] <;> first | omega | (simp only [Int32.lt_iff_toInt_lt, Int32.le_iff_toInt_le, Int32.reduceToInt, ← Int32.toInt_inj, true_and, and_true, or_true, true_or, false_or, or_false, false_and, and_false, not_true_eq_false, not_false_eq_true] <;> omega)) (by rw [fe_1189, we_1190] <;> first | omega | (simp only [Int32.lt_iff_toInt_lt, Int32.le_iff_toInt_le, Int32.reduceToInt, ← Int32.toInt_inj, true_and, and_true, or_true, true_or, false_or, or_false, false_and, and_false, not_true_eq_false, not_false_eq_true] <;> omega))
              · simp only [Int32.lt_iff_toInt_lt, Int32.le_iff_toInt_le, Int32.reduceToInt, ← Int32.toInt_inj] at h_1138
                refine v_aload_n hC dX12_way_160 rfl ?_
                refine v_get hC fl_X12_120 m_1 e_566 rfl dX12_way_161 ?_
                refine v_iconst hC dX12_way_164 (v := 2) (by decide) ?_
                refine v_icmp_ne hC dX12_way_165 (tgt := 182) (by decide) (fun h_1191 => ?_) (fun h_1191 => ?_)
                · simp only [Int32.lt_iff_toInt_lt, Int32.le_iff_toInt_le, Int32.reduceToInt, ← Int32.toInt_inj] at h_1191
                  refine v_aload_n hC dX12_way_182 rfl ?_
                  refine v_get hC fl_X12_34 m_1 e_566 rfl dX12_way_183 ?_
                  refine v_iload_n hC dX12_way_186 rfl ?_
                  refine v_iconst hC dX12_way_187 (v := 4) (by decide) ?_
                  obtain ⟨v_1192, h_1193⟩ : ∃ v9 : Int32, v_164 + 4 = v9 := ⟨_, rfl⟩
                  refine v_iadd hC dX12_way_188 h_1193 ?_
                  have h_1194 := add_v h_1193 (by first | omega | (simp only [Int32.lt_iff_toInt_lt, Int32.le_iff_toInt_le, Int32.reduceToInt, ← Int32.toInt_inj, true_and, and_true, or_true, true_or, false_or, or_false, false_and, and_false, not_true_eq_false, not_false_eq_true] <;> omega)) (by first | omega | (simp only [Int32.lt_iff_toInt_lt, Int32.le_iff_toInt_le, Int32.reduceToInt, ← Int32.toInt_inj, true_and, and_true, or_true, true_or, false_or, or_false, false_and, and_false, not_true_eq_false, not_false_eq_true] <;> omega))
                  try simp only [Int32.reduceToInt] at h_1194
                  refine v_aload_n hC dX12_way_189 rfl ?_
                  refine v_iconst hC dX12_way_190 (v := 1) (by decide) ?_
                  refine v_iconst hC dX12_way_191 (v := 5) (by decide) ?_
                  refine v_vi hC (rest := [.int v_1192, .ref (q 14)]) m_1 e_566 rfl mi_X12_number ms_X12_number (p_X12_number hW_562 k_0) mx_X12_number ml_X12_170 (by decide) rfl (cells1 := 0) (slots1 := 0) (by decide) (by decide) (Nat.le_of_ble_eq_true rfl) (Nat.le_of_ble_eq_true rfl) rfl (Nat.le_of_ble_eq_true rfl) dX12_way_192 (fun r_1195 L_1196 f_1197 h_1198 => ?_)
                  obtain ⟨rfl, hW_1200, hF_1201, x_1199, -, -, -, -⟩ := h_1198
                  have fe_1202 : fld (f_559 a_0) 12 = (v_579 : Int32).toInt := by rw [e_566]; rfl
                  have hf_1203 := hF_1201.at hf_565 rfl
                  obtain ⟨v_1205, v_1206, v_1208, v_1210, v_1212, v_1214, v_1216, v_1217, v_1218, v_1219, v_1221, e_1204, b_1207, b_1209, b_1211, b_1213, b_1215, b_1220, b_1222⟩ := hW_1200.at m_1 t_2
                  have fe_1223 : fld (f_1197 a_0) 12 = (v_1217 : Int32).toInt := by rw [e_1204]; rfl
                  rw [fe_1223, fe_1202] at x_1199
                  clear fe_1202 fe_1223
                  try simp only [Int32.reduceToInt, Int64.reduceToInt] at x_1199
                  refine v_iast hC m_296 hf_1203 (vp_in_iff.mpr (by first | omega | (simp only [Int32.lt_iff_toInt_lt, Int32.le_iff_toInt_le, Int32.reduceToInt, ← Int32.toInt_inj, true_and, and_true, or_true, true_or, false_or, or_false, false_and, and_false, not_true_eq_false, not_false_eq_true] <;> omega))) dX12_way_195 (fun f_1224 hf_1225 hk_1226 => ?_)
                  have hW_1228 := hW_1200.up hf_1225 hk_1226 t_297 ⟨_, rfl, (ok_549.up (by first | omega | (simp only [Int32.lt_iff_toInt_lt, Int32.le_iff_toInt_le, Int32.reduceToInt, ← Int32.toInt_inj, true_and, and_true, or_true, true_or, false_or, or_false, false_and, and_false, not_true_eq_false, not_false_eq_true] <;> omega)) (fun q1 q2 => (by first | omega | (simp only [Int32.lt_iff_toInt_lt, Int32.le_iff_toInt_le, Int32.reduceToInt, ← Int32.toInt_inj] at *; omega))) (fun k9 q1 q2 q3 => (by first | omega | (simp only [Int32.lt_iff_toInt_lt, Int32.le_iff_toInt_le, Int32.reduceToInt, ← Int32.toInt_inj] at *; omega))))⟩
                  obtain ⟨g_1227, hf_1225, ok_1229, eg_1230⟩ : ∃ g9, f_1224 (q 14) = aI E 2076 g9 ∧ FOK g9 ∧ g9 = upd g_547 (v_1192 : Int32).toNatClampNeg r_1195 := ⟨_, hf_1225, (ok_549.up (by first | omega | (simp only [Int32.lt_iff_toInt_lt, Int32.le_iff_toInt_le, Int32.reduceToInt, ← Int32.toInt_inj, true_and, and_true, or_true, true_or, false_or, or_false, false_and, and_false, not_true_eq_false, not_false_eq_true] <;> omega)) (fun q1 q2 => (by first | omega | (simp only [Int32.lt_iff_toInt_lt, Int32.le_iff_toInt_le, Int32.reduceToInt, ← Int32.toInt_inj] at *; omega))) (fun k9 q1 q2 q3 => (by first | omega | (simp only [Int32.lt_iff_toInt_lt, Int32.le_iff_toInt_le, Int32.reduceToInt, ← Int32.toInt_inj] at *; omega)))), rfl⟩
                  have hf_1231 := (hk_1226 a_0 (ne_kd e_1204 hf_1203 rfl)).trans e_1204
                  have fr_1232 := FR.w hk_1226 hf_1203 (k := 2176) rfl
                  have wt_1233 := wv_upd_ne (k := a_1) (j := 0) eg_1230 (by omega) (by decide) (by omega) (by simp only [Int32.reduceToInt]; omega)
                  have wt_1234 := wv_upd_ne (k := a_1) (j := 2) eg_1230 (by omega) (by decide) (by omega) (by simp only [Int32.reduceToInt]; omega)
                  have wt_1235 := wv_upd_ne (k := a_1) (j := 3) eg_1230 (by omega) (by decide) (by omega) (by simp only [Int32.reduceToInt]; omega)
                  have wt_1236 := wv_upd_eq (k := a_1) (j := 4) eg_1230 (by omega) (by decide) (by simp only [Int32.reduceToInt]; omega)
                  refine v_pick [0, 1, 2] rfl ?_
                  have we_1237 : wvf (f_1224 (q 14)) a_1 0 = (wv g_1227 a_1 0).toInt := by rw [hf_1225]; rfl
                  have fe_1238 : fld (f_1224 a_0) 12 = (v_1217 : Int32).toInt := by rw [hf_1231]; rfl
                  have we_1239 : wvf (f_1224 (q 14)) a_1 2 = (wv g_1227 a_1 2).toInt := by rw [hf_1225]; rfl
                  have fe_1240 : fld (f_1224 a_0) 12 = (v_1217 : Int32).toInt := by rw [hf_1231]; rfl
                  have we_1241 : wvf (f_1224 (q 14)) a_1 3 = (wv g_1227 a_1 3).toInt := by rw [hf_1225]; rfl
                  have fe_1242 : fld (f_1224 a_0) 12 = (v_1217 : Int32).toInt := by rw [hf_1231]; rfl
                  have we_1243 : wvf (f_1224 (q 14)) a_1 4 = (wv g_1227 a_1 4).toInt := by rw [hf_1225]; rfl
                  exact jn_810 f_1224 hW_1228 ((hF_1201.tr fr_1232).mono rfl) (by rw [we_1237] <;> first | omega | (simp only [Int32.lt_iff_toInt_lt, Int32.le_iff_toInt_le, Int32.reduceToInt, ← Int32.toInt_inj, true_and, and_true, or_true, true_or, false_or, or_false, false_and, and_false, not_true_eq_false, not_false_eq_true] <;> omega)) (by rw [fe_1238, we_1239] <;> first | omega | (simp only [Int32.lt_iff_toInt_lt, Int32.le_iff_toInt_le, Int32.reduceToInt, ← Int32.toInt_inj, true_and, and_true, or_true, true_or, false_or, or_false, false_and, and_false, not_true_eq_false, not_false_eq_true] <;> omega)) (by rw [fe_1240, we_1241] <;> first | omega | (simp only [Int32.lt_iff_toInt_lt, Int32.le_iff_toInt_le, Int32.reduceToInt, ← Int32.toInt_inj, true_and, and_true, or_true, true_or, false_or, or_false, false_and, and_false, not_true_eq_false, not_false_eq_true] <;> omega)) (by rw [fe_1242, we_1243] <;> first | omega | (simp only [Int32.lt_iff_toInt_lt, Int32.le_iff_toInt_le, Int32.reduceToInt, ← Int32.toInt_inj, true_and, and_true, or_true, true_or, false_or, or_false, false_and, and_false, not_true_eq_false, not_false_eq_true] <;> omega))
                · simp only [Int32.lt_iff_toInt_lt, Int32.le_iff_toInt_le, Int32.reduceToInt, ← Int32.toInt_inj] at h_1191
                  refine v_aload_n hC dX12_way_168 rfl ?_
                  refine v_get hC fl_X12_131 m_1 e_566 rfl dX12_way_169 ?_
                  refine v_iconst hC dX12_way_172 (v := 2) (by decide) ?_
                  obtain ⟨v_1244, h_1245⟩ : ∃ v9 : Int32, v_578 - v_578 / 2 * 2 = v9 := ⟨_, rfl⟩
                  refine v_irem hC dX12_way_173 (by decide) h_1245 ?_
                  refine v_if_ne hC dX12_way_174 (tgt := 182) (by decide) (fun h_1247 => ?_) (fun h_1247 => ?_)
                  · simp only [Int32.lt_iff_toInt_lt, Int32.le_iff_toInt_le, Int32.reduceToInt, ← Int32.toInt_inj] at h_1247
                    refine v_aload_n hC dX12_way_182 rfl ?_
                    refine v_get hC fl_X12_34 m_1 e_566 rfl dX12_way_183 ?_
                    refine v_iload_n hC dX12_way_186 rfl ?_
                    refine v_iconst hC dX12_way_187 (v := 4) (by decide) ?_
                    obtain ⟨v_1248, h_1249⟩ : ∃ v9 : Int32, v_164 + 4 = v9 := ⟨_, rfl⟩
                    refine v_iadd hC dX12_way_188 h_1249 ?_
                    have h_1250 := add_v h_1249 (by first | omega | (simp only [Int32.lt_iff_toInt_lt, Int32.le_iff_toInt_le, Int32.reduceToInt, ← Int32.toInt_inj, true_and, and_true, or_true, true_or, false_or, or_false, false_and, and_false, not_true_eq_false, not_false_eq_true] <;> omega)) (by first | omega | (simp only [Int32.lt_iff_toInt_lt, Int32.le_iff_toInt_le, Int32.reduceToInt, ← Int32.toInt_inj, true_and, and_true, or_true, true_or, false_or, or_false, false_and, and_false, not_true_eq_false, not_false_eq_true] <;> omega))
                    try simp only [Int32.reduceToInt] at h_1250
                    refine v_aload_n hC dX12_way_189 rfl ?_
                    refine v_iconst hC dX12_way_190 (v := 1) (by decide) ?_
                    refine v_iconst hC dX12_way_191 (v := 5) (by decide) ?_
                    refine v_vi hC (rest := [.int v_1248, .ref (q 14)]) m_1 e_566 rfl mi_X12_number ms_X12_number (p_X12_number hW_562 k_0) mx_X12_number ml_X12_170 (by decide) rfl (cells1 := 0) (slots1 := 0) (by decide) (by decide) (Nat.le_of_ble_eq_true rfl) (Nat.le_of_ble_eq_true rfl) rfl (Nat.le_of_ble_eq_true rfl) dX12_way_192 (fun r_1251 L_1252 f_1253 h_1254 => ?_)
                    obtain ⟨rfl, hW_1256, hF_1257, x_1255, -, -, -, -⟩ := h_1254
                    have fe_1258 : fld (f_559 a_0) 12 = (v_579 : Int32).toInt := by rw [e_566]; rfl
                    have hf_1259 := hF_1257.at hf_565 rfl
                    obtain ⟨v_1261, v_1262, v_1264, v_1266, v_1268, v_1270, v_1272, v_1273, v_1274, v_1275, v_1277, e_1260, b_1263, b_1265, b_1267, b_1269, b_1271, b_1276, b_1278⟩ := hW_1256.at m_1 t_2
                    have fe_1279 : fld (f_1253 a_0) 12 = (v_1273 : Int32).toInt := by rw [e_1260]; rfl
                    rw [fe_1279, fe_1258] at x_1255
                    clear fe_1258 fe_1279
                    try simp only [Int32.reduceToInt, Int64.reduceToInt] at x_1255
                    refine v_iast hC m_296 hf_1259 (vp_in_iff.mpr (by first | omega | (simp only [Int32.lt_iff_toInt_lt, Int32.le_iff_toInt_le, Int32.reduceToInt, ← Int32.toInt_inj, true_and, and_true, or_true, true_or, false_or, or_false, false_and, and_false, not_true_eq_false, not_false_eq_true] <;> omega))) dX12_way_195 (fun f_1280 hf_1281 hk_1282 => ?_)
                    have hW_1284 := hW_1256.up hf_1281 hk_1282 t_297 ⟨_, rfl, (ok_549.up (by first | omega | (simp only [Int32.lt_iff_toInt_lt, Int32.le_iff_toInt_le, Int32.reduceToInt, ← Int32.toInt_inj, true_and, and_true, or_true, true_or, false_or, or_false, false_and, and_false, not_true_eq_false, not_false_eq_true] <;> omega)) (fun q1 q2 => (by first | omega | (simp only [Int32.lt_iff_toInt_lt, Int32.le_iff_toInt_le, Int32.reduceToInt, ← Int32.toInt_inj] at *; omega))) (fun k9 q1 q2 q3 => (by first | omega | (simp only [Int32.lt_iff_toInt_lt, Int32.le_iff_toInt_le, Int32.reduceToInt, ← Int32.toInt_inj] at *; omega))))⟩
                    obtain ⟨g_1283, hf_1281, ok_1285, eg_1286⟩ : ∃ g9, f_1280 (q 14) = aI E 2076 g9 ∧ FOK g9 ∧ g9 = upd g_547 (v_1248 : Int32).toNatClampNeg r_1251 := ⟨_, hf_1281, (ok_549.up (by first | omega | (simp only [Int32.lt_iff_toInt_lt, Int32.le_iff_toInt_le, Int32.reduceToInt, ← Int32.toInt_inj, true_and, and_true, or_true, true_or, false_or, or_false, false_and, and_false, not_true_eq_false, not_false_eq_true] <;> omega)) (fun q1 q2 => (by first | omega | (simp only [Int32.lt_iff_toInt_lt, Int32.le_iff_toInt_le, Int32.reduceToInt, ← Int32.toInt_inj] at *; omega))) (fun k9 q1 q2 q3 => (by first | omega | (simp only [Int32.lt_iff_toInt_lt, Int32.le_iff_toInt_le, Int32.reduceToInt, ← Int32.toInt_inj] at *; omega)))), rfl⟩
                    have hf_1287 := (hk_1282 a_0 (ne_kd e_1260 hf_1259 rfl)).trans e_1260
                    have fr_1288 := FR.w hk_1282 hf_1259 (k := 2176) rfl
                    have wt_1289 := wv_upd_ne (k := a_1) (j := 0) eg_1286 (by omega) (by decide) (by omega) (by simp only [Int32.reduceToInt]; omega)
                    have wt_1290 := wv_upd_ne (k := a_1) (j := 2) eg_1286 (by omega) (by decide) (by omega) (by simp only [Int32.reduceToInt]; omega)
                    have wt_1291 := wv_upd_ne (k := a_1) (j := 3) eg_1286 (by omega) (by decide) (by omega) (by simp only [Int32.reduceToInt]; omega)
                    have wt_1292 := wv_upd_eq (k := a_1) (j := 4) eg_1286 (by omega) (by decide) (by simp only [Int32.reduceToInt]; omega)
                    refine v_pick [0, 1, 2] rfl ?_
                    have we_1293 : wvf (f_1280 (q 14)) a_1 0 = (wv g_1283 a_1 0).toInt := by rw [hf_1281]; rfl
                    have fe_1294 : fld (f_1280 a_0) 12 = (v_1273 : Int32).toInt := by rw [hf_1287]; rfl
                    have we_1295 : wvf (f_1280 (q 14)) a_1 2 = (wv g_1283 a_1 2).toInt := by rw [hf_1281]; rfl
                    have fe_1296 : fld (f_1280 a_0) 12 = (v_1273 : Int32).toInt := by rw [hf_1287]; rfl
                    have we_1297 : wvf (f_1280 (q 14)) a_1 3 = (wv g_1283 a_1 3).toInt := by rw [hf_1281]; rfl
                    have fe_1298 : fld (f_1280 a_0) 12 = (v_1273 : Int32).toInt := by rw [hf_1287]; rfl
                    have we_1299 : wvf (f_1280 (q 14)) a_1 4 = (wv g_1283 a_1 4).toInt := by rw [hf_1281]; rfl
                    exact jn_810 f_1280 hW_1284 ((hF_1257.tr fr_1288).mono rfl) (by rw [we_1293] <;> first | omega | (simp only [Int32.lt_iff_toInt_lt, Int32.le_iff_toInt_le, Int32.reduceToInt, ← Int32.toInt_inj, true_and, and_true, or_true, true_or, false_or, or_false, false_and, and_false, not_true_eq_false, not_false_eq_true] <;> omega)) (by rw [fe_1294, we_1295] <;> first | omega | (simp only [Int32.lt_iff_toInt_lt, Int32.le_iff_toInt_le, Int32.reduceToInt, ← Int32.toInt_inj, true_and, and_true, or_true, true_or, false_or, or_false, false_and, and_false, not_true_eq_false, not_false_eq_true] <;> omega)) (by rw [fe_1296, we_1297] <;> first | omega | (simp only [Int32.lt_iff_toInt_lt, Int32.le_iff_toInt_le, Int32.reduceToInt, ← Int32.toInt_inj, true_and, and_true, or_true, true_or, false_or, or_false, false_and, and_false, not_true_eq_false, not_false_eq_true] <;> omega)) (by rw [fe_1298, we_1299] <;> first | omega | (simp only [Int32.lt_iff_toInt_lt, Int32.le_iff_toInt_le, Int32.reduceToInt, ← Int32.toInt_inj, true_and, and_true, or_true, true_or, false_or, or_false, false_and, and_false, not_true_eq_false, not_false_eq_true] <;> omega))
                  · simp only [Int32.lt_iff_toInt_lt, Int32.le_iff_toInt_le, Int32.reduceToInt, ← Int32.toInt_inj] at h_1247
                    refine v_aload_n hC dX12_way_177 rfl ?_
                    refine v_iconst hC dX12_way_178 (v := 2) (by decide) ?_
                    refine v_vv hC (rest := []) m_1 e_566 rfl mi_X12_errs ms_X12_errs (p_X12_errs hW_562 k_0 (by decide)) mx_X12_errs ml_X12_162 (by decide) rfl (cells1 := 0) (slots1 := 0) (by decide) (by decide) (Nat.le_of_ble_eq_true rfl) (Nat.le_of_ble_eq_true rfl) rfl (Nat.le_of_ble_eq_true rfl) dX12_way_179 (fun L_1301 f_1302 h_1303 => ?_)
                    obtain ⟨rfl, hW_1305, hF_1306, x_1304, -, -, -, -⟩ := h_1303
                    have hf_1307 := hF_1306.at hf_565 rfl
                    obtain ⟨v_1309, v_1310, v_1312, v_1314, v_1316, v_1318, v_1320, v_1321, v_1322, v_1323, v_1325, e_1308, b_1311, b_1313, b_1315, b_1317, b_1319, b_1324, b_1326⟩ := hW_1305.at m_1 t_2
                    have fe_1327 : fld (f_1302 a_0) 12 = (v_1321 : Int32).toInt := by rw [e_1308]; rfl
                    rw [fe_1327] at x_1304
                    clear fe_1327
                    refine v_aload_n hC dX12_way_182 rfl ?_
                    refine v_get hC fl_X12_34 m_1 e_1308 rfl dX12_way_183 ?_
                    refine v_iload_n hC dX12_way_186 rfl ?_
                    refine v_iconst hC dX12_way_187 (v := 4) (by decide) ?_
                    obtain ⟨v_1328, h_1329⟩ : ∃ v9 : Int32, v_164 + 4 = v9 := ⟨_, rfl⟩
                    refine v_iadd hC dX12_way_188 h_1329 ?_
                    have h_1330 := add_v h_1329 (by first | omega | (simp only [Int32.lt_iff_toInt_lt, Int32.le_iff_toInt_le, Int32.reduceToInt, ← Int32.toInt_inj, true_and, and_true, or_true, true_or, false_or, or_false, false_and, and_false, not_true_eq_false, not_false_eq_true] <;> omega)) (by first | omega | (simp only [Int32.lt_iff_toInt_lt, Int32.le_iff_toInt_le, Int32.reduceToInt, ← Int32.toInt_inj, true_and, and_true, or_true, true_or, false_or, or_false, false_and, and_false, not_true_eq_false, not_false_eq_true] <;> omega))
                    try simp only [Int32.reduceToInt] at h_1330
                    refine v_aload_n hC dX12_way_189 rfl ?_
                    refine v_iconst hC dX12_way_190 (v := 1) (by decide) ?_
                    refine v_iconst hC dX12_way_191 (v := 5) (by decide) ?_
                    refine v_vi hC (rest := [.int v_1328, .ref (q 14)]) m_1 e_1308 rfl mi_X12_number ms_X12_number (p_X12_number hW_1305 k_0) mx_X12_number ml_X12_170 (by decide) rfl (cells1 := 0) (slots1 := 0) (by decide) (by decide) (Nat.le_of_ble_eq_true rfl) (Nat.le_of_ble_eq_true rfl) rfl (Nat.le_of_ble_eq_true rfl) dX12_way_192 (fun r_1331 L_1332 f_1333 h_1334 => ?_)
                    obtain ⟨rfl, hW_1336, hF_1337, x_1335, -, -, -, -⟩ := h_1334
                    have fe_1338 : fld (f_1302 a_0) 12 = (v_1321 : Int32).toInt := by rw [e_1308]; rfl
                    have hf_1339 := hF_1337.at hf_1307 rfl
                    obtain ⟨v_1341, v_1342, v_1344, v_1346, v_1348, v_1350, v_1352, v_1353, v_1354, v_1355, v_1357, e_1340, b_1343, b_1345, b_1347, b_1349, b_1351, b_1356, b_1358⟩ := hW_1336.at m_1 t_2
                    have fe_1359 : fld (f_1333 a_0) 12 = (v_1353 : Int32).toInt := by rw [e_1340]; rfl
                    rw [fe_1359, fe_1338] at x_1335
                    clear fe_1338 fe_1359
                    try simp only [Int32.reduceToInt, Int64.reduceToInt] at x_1335
                    refine v_iast hC m_296 hf_1339 (vp_in_iff.mpr (by first | omega | (simp only [Int32.lt_iff_toInt_lt, Int32.le_iff_toInt_le, Int32.reduceToInt, ← Int32.toInt_inj, true_and, and_true, or_true, true_or, false_or, or_false, false_and, and_false, not_true_eq_false, not_false_eq_true] <;> omega))) dX12_way_195 (fun f_1360 hf_1361 hk_1362 => ?_)
                    have hW_1364 := hW_1336.up hf_1361 hk_1362 t_297 ⟨_, rfl, (ok_549.up (by first | omega | (simp only [Int32.lt_iff_toInt_lt, Int32.le_iff_toInt_le, Int32.reduceToInt, ← Int32.toInt_inj, true_and, and_true, or_true, true_or, false_or, or_false, false_and, and_false, not_true_eq_false, not_false_eq_true] <;> omega)) (fun q1 q2 => (by first | omega | (simp only [Int32.lt_iff_toInt_lt, Int32.le_iff_toInt_le, Int32.reduceToInt, ← Int32.toInt_inj] at *; omega))) (fun k9 q1 q2 q3 => (by first | omega | (simp only [Int32.lt_iff_toInt_lt, Int32.le_iff_toInt_le, Int32.reduceToInt, ← Int32.toInt_inj] at *; omega))))⟩
                    obtain ⟨g_1363, hf_1361, ok_1365, eg_1366⟩ : ∃ g9, f_1360 (q 14) = aI E 2076 g9 ∧ FOK g9 ∧ g9 = upd g_547 (v_1328 : Int32).toNatClampNeg r_1331 := ⟨_, hf_1361, (ok_549.up (by first | omega | (simp only [Int32.lt_iff_toInt_lt, Int32.le_iff_toInt_le, Int32.reduceToInt, ← Int32.toInt_inj, true_and, and_true, or_true, true_or, false_or, or_false, false_and, and_false, not_true_eq_false, not_false_eq_true] <;> omega)) (fun q1 q2 => (by first | omega | (simp only [Int32.lt_iff_toInt_lt, Int32.le_iff_toInt_le, Int32.reduceToInt, ← Int32.toInt_inj] at *; omega))) (fun k9 q1 q2 q3 => (by first | omega | (simp only [Int32.lt_iff_toInt_lt, Int32.le_iff_toInt_le, Int32.reduceToInt, ← Int32.toInt_inj] at *; omega)))), rfl⟩
                    have hf_1367 := (hk_1362 a_0 (ne_kd e_1340 hf_1339 rfl)).trans e_1340
                    have fr_1368 := FR.w hk_1362 hf_1339 (k := 2176) rfl
                    have wt_1369 := wv_upd_ne (k := a_1) (j := 0) eg_1366 (by omega) (by decide) (by omega) (by simp only [Int32.reduceToInt]; omega)
                    have wt_1370 := wv_upd_ne (k := a_1) (j := 2) eg_1366 (by omega) (by decide) (by omega) (by simp only [Int32.reduceToInt]; omega)
                    have wt_1371 := wv_upd_ne (k := a_1) (j := 3) eg_1366 (by omega) (by decide) (by omega) (by simp only [Int32.reduceToInt]; omega)
                    have wt_1372 := wv_upd_eq (k := a_1) (j := 4) eg_1366 (by omega) (by decide) (by simp only [Int32.reduceToInt]; omega)
                    refine v_pick [0, 1, 2] rfl ?_
                    have we_1373 : wvf (f_1360 (q 14)) a_1 0 = (wv g_1363 a_1 0).toInt := by rw [hf_1361]; rfl
                    have fe_1374 : fld (f_1360 a_0) 12 = (v_1353 : Int32).toInt := by rw [hf_1367]; rfl
                    have we_1375 : wvf (f_1360 (q 14)) a_1 2 = (wv g_1363 a_1 2).toInt := by rw [hf_1361]; rfl
                    have fe_1376 : fld (f_1360 a_0) 12 = (v_1353 : Int32).toInt := by rw [hf_1367]; rfl
                    have we_1377 : wvf (f_1360 (q 14)) a_1 3 = (wv g_1363 a_1 3).toInt := by rw [hf_1361]; rfl
                    have fe_1378 : fld (f_1360 a_0) 12 = (v_1353 : Int32).toInt := by rw [hf_1367]; rfl
                    have we_1379 : wvf (f_1360 (q 14)) a_1 4 = (wv g_1363 a_1 4).toInt := by rw [hf_1361]; rfl
                    exact jn_810 f_1360 hW_1364 (((hF_1306.tr hF_1337).tr fr_1368).mono rfl) (by rw [we_1373] <;> first | omega | (simp only [Int32.lt_iff_toInt_lt, Int32.le_iff_toInt_le, Int32.reduceToInt, ← Int32.toInt_inj, true_and, and_true, or_true, true_or, false_or, or_false, false_and, and_false, not_true_eq_false, not_false_eq_true] <;> omega)) (by rw [fe_1374, we_1375] <;> first | omega | (simp only [Int32.lt_iff_toInt_lt, Int32.le_iff_toInt_le, Int32.reduceToInt, ← Int32.toInt_inj, true_and, and_true, or_true, true_or, false_or, or_false, false_and, and_false, not_true_eq_false, not_false_eq_true] <;> omega)) (by rw [fe_1376, we_1377] <;> first | omega | (simp only [Int32.lt_iff_toInt_lt, Int32.le_iff_toInt_le, Int32.reduceToInt, ← Int32.toInt_inj, true_and, and_true, or_true, true_or, false_or, or_false, false_and, and_false, not_true_eq_false, not_false_eq_true] <;> omega)) (by rw [fe_1378, we_1379] <;> first | omega | (simp only [Int32.lt_iff_toInt_lt, Int32.le_iff_toInt_le, Int32.reduceToInt, ← Int32.toInt_inj, true_and, and_true, or_true, true_or, false_or, or_false, false_and, and_false, not_true_eq_false, not_false_eq_true] <;> omega))
          refine v_if_eq hC dX12_way_121 (tgt := 133) (by decide) (fun h_466 => ?_) (fun h_466 => ?_)
          · simp only [Int32.lt_iff_toInt_lt, Int32.le_iff_toInt_le, Int32.reduceToInt, ← Int32.toInt_inj] at h_466
            refine v_iconst hC dX12_way_133 (v := 1) (by decide) ?_
            refine v_pick [0, 1, 2] rfl ?_
            have we_1380 : wvf (f_439 (q 14)) a_1 0 = (wv g_424 a_1 0).toInt := by rw [hf_445]; rfl
            have fe_1381 : fld (f_439 a_0) 12 = (v_459 : Int32).toInt := by rw [e_446]; rfl
            have we_1382 : wvf (f_439 (q 14)) a_1 2 = (wv g_424 a_1 2).toInt := by rw [hf_445]; rfl
            have fe_1383 : fld (f_439 a_0) 12 = (v_459 : Int32).toInt := by rw [e_446]; rfl
            exact jn_496 f_439 hW_442 FR.rf 1 (by rw [we_1380] <;> first | omega | (simp only [Int32.lt_iff_toInt_lt, Int32.le_iff_toInt_le, Int32.reduceToInt, ← Int32.toInt_inj, true_and, and_true, or_true, true_or, false_or, or_false, false_and, and_false, not_true_eq_false, not_false_eq_true] <;> omega)) (by rw [fe_1381, we_1382] <;> first | omega | (simp only [Int32.lt_iff_toInt_lt, Int32.le_iff_toInt_le, Int32.reduceToInt, ← Int32.toInt_inj, true_and, and_true, or_true, true_or, false_or, or_false, false_and, and_false, not_true_eq_false, not_false_eq_true] <;> omega)) (by rw [fe_1383] <;> first | omega | (simp only [Int32.lt_iff_toInt_lt, Int32.le_iff_toInt_le, Int32.reduceToInt, ← Int32.toInt_inj, true_and, and_true, or_true, true_or, false_or, or_false, false_and, and_false, not_true_eq_false, not_false_eq_true] <;> omega))
          · simp only [Int32.lt_iff_toInt_lt, Int32.le_iff_toInt_le, Int32.reduceToInt, ← Int32.toInt_inj] at h_466
            refine v_aload_n hC dX12_way_124 rfl ?_
            refine v_iconst hC dX12_way_125 (v := 1) (by decide) ?_
            refine v_iconst hC dX12_way_126 (v := 5) (by decide) ?_
            refine v_vi hC (rest := [.int v_434, .ref (q 14)]) m_1 e_446 rfl mi_X12_number ms_X12_number (p_X12_number hW_442 k_0) mx_X12_number ml_X12_170 (by decide) rfl (cells1 := 0) (slots1 := 0) (by decide) (by decide) (Nat.le_of_ble_eq_true rfl) (Nat.le_of_ble_eq_true rfl) rfl (Nat.le_of_ble_eq_true rfl) dX12_way_127 (fun r_1384 L_1385 f_1386 h_1387 => ?_)
            obtain ⟨rfl, hW_1389, hF_1390, x_1388, -, -, -, -⟩ := h_1387
            have fe_1391 : fld (f_439 a_0) 12 = (v_459 : Int32).toInt := by rw [e_446]; rfl
            have hf_1392 := hF_1390.at hf_445 rfl
            obtain ⟨v_1394, v_1395, v_1397, v_1399, v_1401, v_1403, v_1405, v_1406, v_1407, v_1408, v_1410, e_1393, b_1396, b_1398, b_1400, b_1402, b_1404, b_1409, b_1411⟩ := hW_1389.at m_1 t_2
            have fe_1412 : fld (f_1386 a_0) 12 = (v_1406 : Int32).toInt := by rw [e_1393]; rfl
            rw [fe_1412, fe_1391] at x_1388
            clear fe_1391 fe_1412
            try simp only [Int32.reduceToInt, Int64.reduceToInt] at x_1388
            refine v_goto hC dX12_way_130 (tgt := 134) (by decide) ?_
            refine v_pick [0, 1, 2] rfl ?_
            have we_1413 : wvf (f_1386 (q 14)) a_1 0 = (wv g_424 a_1 0).toInt := by rw [hf_1392]; rfl
            have fe_1414 : fld (f_1386 a_0) 12 = (v_1406 : Int32).toInt := by rw [e_1393]; rfl
            have we_1415 : wvf (f_1386 (q 14)) a_1 2 = (wv g_424 a_1 2).toInt := by rw [hf_1392]; rfl
            have fe_1416 : fld (f_1386 a_0) 12 = (v_1406 : Int32).toInt := by rw [e_1393]; rfl
            exact jn_496 f_1386 hW_1389 (hF_1390.mono rfl) r_1384 (by rw [we_1413] <;> first | omega | (simp only [Int32.lt_iff_toInt_lt, Int32.le_iff_toInt_le, Int32.reduceToInt, ← Int32.toInt_inj, true_and, and_true, or_true, true_or, false_or, or_false, false_and, and_false, not_true_eq_false, not_false_eq_true] <;> omega)) (by rw [fe_1414, we_1415] <;> first | omega | (simp only [Int32.lt_iff_toInt_lt, Int32.le_iff_toInt_le, Int32.reduceToInt, ← Int32.toInt_inj, true_and, and_true, or_true, true_or, false_or, or_false, false_and, and_false, not_true_eq_false, not_false_eq_true] <;> omega)) (by rw [fe_1416] <;> first | omega | (simp only [Int32.lt_iff_toInt_lt, Int32.le_iff_toInt_le, Int32.reduceToInt, ← Int32.toInt_inj, true_and, and_true, or_true, true_or, false_or, or_false, false_and, and_false, not_true_eq_false, not_false_eq_true] <;> omega))
        refine v_if_eq hC dX12_way_93 (tgt := 106) (by decide) (fun h_362 => ?_) (fun h_362 => ?_)
        · simp only [Int32.lt_iff_toInt_lt, Int32.le_iff_toInt_le, Int32.reduceToInt, ← Int32.toInt_inj] at h_362
          refine v_iconst hC dX12_way_106 (v := 1) (by decide) ?_
          refine v_pick [1, 2, 3] rfl ?_
          have we_1417 : wvf (f_335 (q 14)) a_1 0 = (wv g_320 a_1 0).toInt := by rw [hf_341]; rfl
          have fe_1418 : fld (f_335 a_0) 12 = (v_355 : Int32).toInt := by rw [e_342]; rfl
          exact jn_392 f_335 hW_338 FR.rf 1 (by rw [we_1417] <;> first | omega | (simp only [Int32.lt_iff_toInt_lt, Int32.le_iff_toInt_le, Int32.reduceToInt, ← Int32.toInt_inj, true_and, and_true, or_true, true_or, false_or, or_false, false_and, and_false, not_true_eq_false, not_false_eq_true] <;> omega)) (by rw [fe_1418] <;> first | omega | (simp only [Int32.lt_iff_toInt_lt, Int32.le_iff_toInt_le, Int32.reduceToInt, ← Int32.toInt_inj, true_and, and_true, or_true, true_or, false_or, or_false, false_and, and_false, not_true_eq_false, not_false_eq_true] <;> omega))
        · simp only [Int32.lt_iff_toInt_lt, Int32.le_iff_toInt_le, Int32.reduceToInt, ← Int32.toInt_inj] at h_362
          refine v_aload_n hC dX12_way_96 rfl ?_
          refine v_iconst hC dX12_way_97 (v := 1) (by decide) ?_
          refine v_bipush hC dX12_way_98 (v := 9) (by decide) ?_
          refine v_vi hC (rest := [.int v_330, .ref (q 14)]) m_1 e_342 rfl mi_X12_number ms_X12_number (p_X12_number hW_338 k_0) mx_X12_number ml_X12_170 (by decide) rfl (cells1 := 0) (slots1 := 0) (by decide) (by decide) (Nat.le_of_ble_eq_true rfl) (Nat.le_of_ble_eq_true rfl) rfl (Nat.le_of_ble_eq_true rfl) dX12_way_100 (fun r_1419 L_1420 f_1421 h_1422 => ?_)
          obtain ⟨rfl, hW_1424, hF_1425, x_1423, -, -, -, -⟩ := h_1422
          have fe_1426 : fld (f_335 a_0) 12 = (v_355 : Int32).toInt := by rw [e_342]; rfl
          have hf_1427 := hF_1425.at hf_341 rfl
          obtain ⟨v_1429, v_1430, v_1432, v_1434, v_1436, v_1438, v_1440, v_1441, v_1442, v_1443, v_1445, e_1428, b_1431, b_1433, b_1435, b_1437, b_1439, b_1444, b_1446⟩ := hW_1424.at m_1 t_2
          have fe_1447 : fld (f_1421 a_0) 12 = (v_1441 : Int32).toInt := by rw [e_1428]; rfl
          rw [fe_1447, fe_1426] at x_1423
          clear fe_1426 fe_1447
          try simp only [Int32.reduceToInt, Int64.reduceToInt] at x_1423
          refine v_goto hC dX12_way_103 (tgt := 107) (by decide) ?_
          refine v_pick [1, 2, 3] rfl ?_
          have we_1448 : wvf (f_1421 (q 14)) a_1 0 = (wv g_320 a_1 0).toInt := by rw [hf_1427]; rfl
          have fe_1449 : fld (f_1421 a_0) 12 = (v_1441 : Int32).toInt := by rw [e_1428]; rfl
          exact jn_392 f_1421 hW_1424 (hF_1425.mono rfl) r_1419 (by rw [we_1448] <;> first | omega | (simp only [Int32.lt_iff_toInt_lt, Int32.le_iff_toInt_le, Int32.reduceToInt, ← Int32.toInt_inj, true_and, and_true, or_true, true_or, false_or, or_false, false_and, and_false, not_true_eq_false, not_false_eq_true] <;> omega)) (by rw [fe_1449] <;> first | omega | (simp only [Int32.lt_iff_toInt_lt, Int32.le_iff_toInt_le, Int32.reduceToInt, ← Int32.toInt_inj, true_and, and_true, or_true, true_or, false_or, or_false, false_and, and_false, not_true_eq_false, not_false_eq_true] <;> omega))
      refine v_if_eq hC dX12_way_57 (tgt := 64) (by decide) (fun h_242 => ?_) (fun h_242 => ?_)
      · simp only [Int32.lt_iff_toInt_lt, Int32.le_iff_toInt_le, Int32.reduceToInt, ← Int32.toInt_inj] at h_242
        refine v_pick [0, 1, 2, 3] rfl ?_
        exact jn_272 f_210 hW_211 FR.rf
      · simp only [Int32.lt_iff_toInt_lt, Int32.le_iff_toInt_le, Int32.reduceToInt, ← Int32.toInt_inj] at h_242
        refine v_aload_n hC dX12_way_60 rfl ?_
        refine v_vv hC (rest := []) m_1 e_214 rfl mi_X12_advance ms_X12_advance (p_X12_advance hW_211 k_0) mx_X12_advance ml_X12_156 (by decide) rfl (cells1 := 0) (slots1 := 0) (by decide) (by decide) (Nat.le_of_ble_eq_true rfl) (Nat.le_of_ble_eq_true rfl) rfl (Nat.le_of_ble_eq_true rfl) dX12_way_61 (fun L_1451 f_1452 h_1453 => ?_)
        obtain ⟨rfl, hW_1455, hF_1456, -, -, x_1454, -⟩ := h_1453
        have fe_1457 : fld (f_210 a_0) 12 = (v_227 : Int32).toInt := by rw [e_214]; rfl
        have hf_1458 := hF_1456.at hf_213 rfl
        obtain ⟨v_1460, v_1461, v_1463, v_1465, v_1467, v_1469, v_1471, v_1472, v_1473, v_1474, v_1476, e_1459, b_1462, b_1464, b_1466, b_1468, b_1470, b_1475, b_1477⟩ := hW_1455.at m_1 t_2
        have fe_1478 : fld (f_1452 a_0) 12 = (v_1472 : Int32).toInt := by rw [e_1459]; rfl
        rw [fe_1478, fe_1457] at x_1454
        clear fe_1457 fe_1478
        refine v_pick [0, 1, 2, 3] rfl ?_
        exact jn_272 f_1452 hW_1455 (hF_1456.mono rfl)
    refine v_icmp_ne hC dX12_way_45 (tgt := 53) (by decide) (fun h_180 => ?_) (fun h_180 => ?_)
    · simp only [Int32.lt_iff_toInt_lt, Int32.le_iff_toInt_le, Int32.reduceToInt, ← Int32.toInt_inj] at h_180
      refine v_pick [0, 1, 2, 3] rfl ?_
      exact jn_209 f_135 hW_138 FR.rf
    · simp only [Int32.lt_iff_toInt_lt, Int32.le_iff_toInt_le, Int32.reduceToInt, ← Int32.toInt_inj] at h_180
      refine v_aload_n hC dX12_way_48 rfl ?_
      refine v_iconst hC dX12_way_49 (v := 1) (by decide) ?_
      refine v_vv hC (rest := []) m_1 e_141 rfl mi_X12_errs ms_X12_errs (p_X12_errs hW_138 k_0 (by decide)) mx_X12_errs ml_X12_162 (by decide) rfl (cells1 := 0) (slots1 := 0) (by decide) (by decide) (Nat.le_of_ble_eq_true rfl) (Nat.le_of_ble_eq_true rfl) rfl (Nat.le_of_ble_eq_true rfl) dX12_way_50 (fun L_1480 f_1481 h_1482 => ?_)
      obtain ⟨rfl, hW_1484, hF_1485, x_1483, -, -, -, -⟩ := h_1482
      have hf_1486 := hF_1485.at e_169 rfl
      obtain ⟨v_1488, v_1489, v_1491, v_1493, v_1495, v_1497, v_1499, v_1500, v_1501, v_1502, v_1504, e_1487, b_1490, b_1492, b_1494, b_1496, b_1498, b_1503, b_1505⟩ := hW_1484.at m_1 t_2
      have fe_1506 : fld (f_1481 a_0) 12 = (v_1500 : Int32).toInt := by rw [e_1487]; rfl
      rw [fe_1506] at x_1483
      clear fe_1506
      refine v_pick [0, 1, 2, 3] rfl ?_
      exact jn_209 f_1481 hW_1484 (hF_1485.mono rfl)
  · simp only [Int32.lt_iff_toInt_lt, Int32.le_iff_toInt_le, Int32.reduceToInt, ← Int32.toInt_inj] at h_30
    refine v_bipush hC dX12_way_7 (v := (-2)) (by decide) ?_
    exact hR _ _ _ _ _ _ _ dX12_way_9 rfl (Nat.le_of_ble_eq_true rfl) (Nat.le_of_ble_eq_true rfl) ⟨rfl, hW, FR.rf, (by decide), (.inl (by decide))⟩
