set_option maxRecDepth 100000 in
set_option maxHeartbeats 4000000 in
theorem p_X12_wide {l : Launch} {E : Ez} {L : List Nat} {f : Nat → va_E} {T : Nat → va_E → Prop} {a_0 : Nat} {q : Nat → Nat} {g_w : Nat → Int32} (hW : WT T L f) (k_0 : isM T L E a_0 q) (e_w : f (q 1) = aI E 2076 g_w) (o_w : WOK g_w) : CI l yX12_wide cX12_wide 1 .int 0 0 0 E [.ref a_0] L f (fun r L1 f1 => L = L1 ∧ f = f1 ∧ r = (g_w 1)) := by
  refine ci_of (by decide) (Nat.le_of_ble_eq_true rfl) (fun z hz hnm hC hR => ?_)
  have hC : Cx z E cX12_wide RX12 1 0 0 0 := hC
  subst hz
  show V z E 1 0 0 L f 0 [(0, .ref a_0)] []
  obtain ⟨m_1, t_2, nq_21, k_3, k_4, k_5, k_6, k_7, k_8, k_9, k_10, k_11, k_12, k_13, k_14, k_15, k_16, k_17, k_18, k_19, k_20⟩ := id k_0
  obtain ⟨m_22, t_23⟩ := id k_3
  have b_24 := o_w.r0
  have b_25 := o_w.w0
  refine v_aload_n hC dX12_wide_0 rfl ?_
  obtain ⟨v_27, v_28, v_30, v_32, v_34, v_36, v_38, v_39, v_40, v_41, v_43, e_26, b_29, b_31, b_33, b_35, b_37, b_42, b_44⟩ := hW.at m_1 t_2
  refine v_get hC fl_X12_13 m_1 e_26 rfl dX12_wide_1 ?_
  refine v_iconst hC dX12_wide_4 (v := 1) (by decide) ?_
  refine v_iald hC m_22 e_w (vp_in_iff.mpr (by decide)) (v := g_w 1) rfl dX12_wide_5 ?_
  exact hR _ _ _ _ _ _ _ dX12_wide_6 rfl (Nat.le_of_ble_eq_true rfl) (Nat.le_of_ble_eq_true rfl) ⟨rfl, rfl, rfl⟩
set_option maxRecDepth 100000 in
set_option maxHeartbeats 4000000 in
theorem p_X12_area {l : Launch} {E : Ez} {L : List Nat} {f : Nat → va_E} {T : Nat → va_E → Prop} {a_0 : Nat} {q : Nat → Nat} {g_w : Nat → Int32} (hW : WT T L f) (k_0 : isM T L E a_0 q) (e_w : f (q 1) = aI E 2076 g_w) (o_w : WOK g_w) : CI l yX12_area cX12_area 1 .int 1 0 0 E [.ref a_0] L f (fun r L1 f1 => L = L1 ∧ f = f1 ∧ r = (g_w 0 * g_w 1)) := by
  refine ci_of (by decide) (Nat.le_of_ble_eq_true rfl) (fun z hz hnm hC hR => ?_)
  have hC : Cx z E cX12_area RX12 1 1 0 0 := hC
  subst hz
  show V z E 1 0 0 L f 0 [(0, .ref a_0)] []
  obtain ⟨m_1, t_2, nq_21, k_3, k_4, k_5, k_6, k_7, k_8, k_9, k_10, k_11, k_12, k_13, k_14, k_15, k_16, k_17, k_18, k_19, k_20⟩ := id k_0
  obtain ⟨m_22, t_23⟩ := id k_3
  have b_24 := o_w.r0
  have b_25 := o_w.w0
  refine v_aload_n hC dX12_area_0 rfl ?_
  obtain ⟨v_27, v_28, v_30, v_32, v_34, v_36, v_38, v_39, v_40, v_41, v_43, e_26, b_29, b_31, b_33, b_35, b_37, b_42, b_44⟩ := hW.at m_1 t_2
  refine v_vi hC (rest := []) m_1 e_26 rfl mi_X12_rows ms_X12_rows (p_X12_rows hW k_0 e_w o_w) mx_X12_rows ml_X12_83 (by decide) rfl (cells1 := 0) (slots1 := 0) (by decide) (by decide) (Nat.le_of_ble_eq_true rfl) (Nat.le_of_ble_eq_true rfl) rfl (Nat.le_of_ble_eq_true rfl) dX12_area_1 (fun r_45 L_46 f_47 h_48 => ?_)
  obtain ⟨rfl, rfl, rfl⟩ := h_48
  refine v_aload_n hC dX12_area_4 rfl ?_
  refine v_vi hC (rest := [.int (g_w 0)]) m_1 e_26 rfl mi_X12_wide ms_X12_wide (p_X12_wide hW k_0 e_w o_w) mx_X12_wide ml_X12_87 (by decide) rfl (cells1 := 0) (slots1 := 0) (by decide) (by decide) (Nat.le_of_ble_eq_true rfl) (Nat.le_of_ble_eq_true rfl) rfl (Nat.le_of_ble_eq_true rfl) dX12_area_5 (fun r_51 L_52 f_53 h_54 => ?_)
  obtain ⟨rfl, rfl, rfl⟩ := h_54
  obtain ⟨v_57, h_58⟩ : ∃ v9 : Int32, (g_w 0) * (g_w 1) = v9 := ⟨_, rfl⟩
  refine v_imul hC dX12_area_8 h_58 ?_
  have h_59 := mul_v 16 16 256 h_58 (by first | omega | (simp only [Int32.lt_iff_toInt_lt, Int32.le_iff_toInt_le, Int32.reduceToInt, ← Int32.toInt_inj, true_and, and_true, or_true, true_or, false_or, or_false, false_and, and_false, not_true_eq_false, not_false_eq_true] <;> omega)) (by first | omega | (simp only [Int32.lt_iff_toInt_lt, Int32.le_iff_toInt_le, Int32.reduceToInt, ← Int32.toInt_inj, true_and, and_true, or_true, true_or, false_or, or_false, false_and, and_false, not_true_eq_false, not_false_eq_true] <;> omega)) (by decide) (by decide)
  exact hR _ _ _ _ _ _ _ dX12_area_9 rfl (Nat.le_of_ble_eq_true rfl) (Nat.le_of_ble_eq_true rfl) ⟨rfl, rfl, h_58.symm⟩
set_option maxRecDepth 100000 in
set_option maxHeartbeats 4000000 in
theorem p_X12_ofWay {l : Launch} {E : Ez} {L : List Nat} {f : Nat → va_E} {T : Nat → va_E → Prop} {a_0 : Nat} {a_1 : Int32} {a_2 : Int32} {q : Nat → Nat} {g_w : Nat → Int32} (hW : WT T L f) (k_0 : isM T L E a_0 q) (g_1 : (0 ≤ a_1.toInt ∧ a_1.toInt ≤ 5)) (g_2 : (0 ≤ a_2.toInt ∧ a_2.toInt ≤ 6)) (e_w : f (q 1) = aI E 2076 g_w) (o_w : WOK g_w) : CI l yX12_ofWay cX12_ofWay 3 .int 0 0 0 E [.ref a_0, .int a_1, .int a_2] L f (fun r L1 f1 => L = L1 ∧ f = f1 ∧ r = (wv g_w a_1 a_2)) := by
  refine ci_of (by decide) (Nat.le_of_ble_eq_true rfl) (fun z hz hnm hC hR => ?_)
  have hC : Cx z E cX12_ofWay RX12 3 0 0 0 := hC
  subst hz
  show V z E 3 0 0 L f 0 [(0, .ref a_0), (1, .int a_1), (2, .int a_2)] []
  obtain ⟨m_1, t_2, nq_21, k_3, k_4, k_5, k_6, k_7, k_8, k_9, k_10, k_11, k_12, k_13, k_14, k_15, k_16, k_17, k_18, k_19, k_20⟩ := id k_0
  obtain ⟨m_22, t_23⟩ := id k_3
  have b_24 := o_w.r0
  have b_25 := o_w.w0
  refine v_aload_n hC dX12_ofWay_0 rfl ?_
  obtain ⟨v_27, v_28, v_30, v_32, v_34, v_36, v_38, v_39, v_40, v_41, v_43, e_26, b_29, b_31, b_33, b_35, b_37, b_42, b_44⟩ := hW.at m_1 t_2
  refine v_get hC fl_X12_13 m_1 e_26 rfl dX12_ofWay_1 ?_
  refine v_bipush hC dX12_ofWay_4 (v := 120) (by decide) ?_
  refine v_bipush hC dX12_ofWay_6 (v := 7) (by decide) ?_
  refine v_iload_n hC dX12_ofWay_8 rfl ?_
  obtain ⟨v_45, h_46⟩ : ∃ v9 : Int32, (7 : Int32) * a_1 = v9 := ⟨_, rfl⟩
  refine v_imul hC dX12_ofWay_9 h_46 ?_
  have h_47 := mul_v 7 5 35 h_46 (by decide) (by first | omega | (simp only [Int32.lt_iff_toInt_lt, Int32.le_iff_toInt_le, Int32.reduceToInt, ← Int32.toInt_inj, true_and, and_true, or_true, true_or, false_or, or_false, false_and, and_false, not_true_eq_false, not_false_eq_true] <;> omega)) (by decide) (by decide)
  try simp only [Int32.reduceToInt] at h_47
  obtain ⟨v_48, h_49⟩ : ∃ v9 : Int32, (120 : Int32) + v_45 = v9 := ⟨_, rfl⟩
  refine v_iadd hC dX12_ofWay_10 h_49 ?_
  have h_50 := add_v h_49 (by first | omega | (simp only [Int32.lt_iff_toInt_lt, Int32.le_iff_toInt_le, Int32.reduceToInt, ← Int32.toInt_inj, true_and, and_true, or_true, true_or, false_or, or_false, false_and, and_false, not_true_eq_false, not_false_eq_true] <;> omega)) (by first | omega | (simp only [Int32.lt_iff_toInt_lt, Int32.le_iff_toInt_le, Int32.reduceToInt, ← Int32.toInt_inj, true_and, and_true, or_true, true_or, false_or, or_false, false_and, and_false, not_true_eq_false, not_false_eq_true] <;> omega))
  try simp only [Int32.reduceToInt] at h_50
  refine v_iload_n hC dX12_ofWay_11 rfl ?_
  obtain ⟨v_51, h_52⟩ : ∃ v9 : Int32, v_48 + a_2 = v9 := ⟨_, rfl⟩
  refine v_iadd hC dX12_ofWay_12 h_52 ?_
  have h_53 := add_v h_52 (by first | omega | (simp only [Int32.lt_iff_toInt_lt, Int32.le_iff_toInt_le, Int32.reduceToInt, ← Int32.toInt_inj, true_and, and_true, or_true, true_or, false_or, or_false, false_and, and_false, not_true_eq_false, not_false_eq_true] <;> omega)) (by first | omega | (simp only [Int32.lt_iff_toInt_lt, Int32.le_iff_toInt_le, Int32.reduceToInt, ← Int32.toInt_inj, true_and, and_true, or_true, true_or, false_or, or_false, false_and, and_false, not_true_eq_false, not_false_eq_true] <;> omega))
  obtain ⟨v_54, h_55⟩ : ∃ v9 : Int32, g_w (v_51 : Int32).toNatClampNeg = v9 := ⟨_, rfl⟩
  refine v_iald hC m_22 e_w (vp_in_iff.mpr (by first | omega | (simp only [Int32.lt_iff_toInt_lt, Int32.le_iff_toInt_le, Int32.reduceToInt, ← Int32.toInt_inj, true_and, and_true, or_true, true_or, false_or, or_false, false_and, and_false, not_true_eq_false, not_false_eq_true] <;> omega))) h_55 dX12_ofWay_13 ?_
  exact hR _ _ _ _ _ _ _ dX12_ofWay_14 rfl (Nat.le_of_ble_eq_true rfl) (Nat.le_of_ble_eq_true rfl) ⟨rfl, rfl, (h_55.symm.trans (wv_eq (by omega) (by omega) (by omega)))⟩
set_option maxRecDepth 100000 in
set_option maxHeartbeats 4000000 in
theorem p_X12_sortOf {l : Launch} {E : Ez} {L : List Nat} {f : Nat → va_E} {T : Nat → va_E → Prop} {a_0 : Nat} {a_1 : Int32} {q : Nat → Nat} {g_w : Nat → Int32} (hW : WT T L f) (k_0 : isM T L E a_0 q) (g_1 : (0 ≤ a_1.toInt)) (e_w : f (q 1) = aI E 2076 g_w) (o_w : WOK g_w) (hpt : 1 ≤ (g_w 0).toInt) : CI l yX12_sortOf cX12_sortOf 4 .int 1 0 0 E [.ref a_0, .int a_1] L f (fun r L1 f1 => L = L1 ∧ f = f1 ∧ ((-1) ≤ r.toInt ∧ r.toInt ≤ 12)) := by
  refine ci_of (by decide) (Nat.le_of_ble_eq_true rfl) (fun z hz hnm hC hR => ?_)
  have hC : Cx z E cX12_sortOf RX12 4 1 0 0 := hC
  subst hz
  show V z E 4 0 0 L f 0 [(0, .ref a_0), (1, .int a_1)] []
  obtain ⟨m_1, t_2, nq_21, k_3, k_4, k_5, k_6, k_7, k_8, k_9, k_10, k_11, k_12, k_13, k_14, k_15, k_16, k_17, k_18, k_19, k_20⟩ := id k_0
  obtain ⟨m_22, t_23⟩ := id k_3
  have b_24 := o_w.r0
  have b_25 := o_w.w0
  obtain ⟨pt_1, pt_2, pt_3⟩ := o_w.pt hpt
  refine v_iload_n hC dX12_sortOf_0 rfl ?_
  refine v_aload_n hC dX12_sortOf_1 rfl ?_
  obtain ⟨v_27, v_28, v_30, v_32, v_34, v_36, v_38, v_39, v_40, v_41, v_43, e_26, b_29, b_31, b_33, b_35, b_37, b_42, b_44⟩ := hW.at m_1 t_2
  refine v_vi hC (rest := [.int a_1]) m_1 e_26 rfl mi_X12_wide ms_X12_wide (p_X12_wide hW k_0 e_w o_w) mx_X12_wide ml_X12_87 (by decide) rfl (cells1 := 0) (slots1 := 0) (by decide) (by decide) (Nat.le_of_ble_eq_true rfl) (Nat.le_of_ble_eq_true rfl) rfl (Nat.le_of_ble_eq_true rfl) dX12_sortOf_2 (fun r_45 L_46 f_47 h_48 => ?_)
  obtain ⟨rfl, rfl, rfl⟩ := h_48
  obtain ⟨v_51, h_52⟩ : ∃ v9 : Int32, a_1 / (g_w 1) = v9 := ⟨_, rfl⟩
  refine v_idiv hC dX12_sortOf_5 (by first | omega | (simp only [Int32.lt_iff_toInt_lt, Int32.le_iff_toInt_le, Int32.reduceToInt, ← Int32.toInt_inj, true_and, and_true, or_true, true_or, false_or, or_false, false_and, and_false, not_true_eq_false, not_false_eq_true] <;> omega)) h_52 ?_
  have h_53 := div_v h_52 (by first | omega | (simp only [Int32.lt_iff_toInt_lt, Int32.le_iff_toInt_le, Int32.reduceToInt, ← Int32.toInt_inj, true_and, and_true, or_true, true_or, false_or, or_false, false_and, and_false, not_true_eq_false, not_false_eq_true] <;> omega)) (by first | omega | (simp only [Int32.lt_iff_toInt_lt, Int32.le_iff_toInt_le, Int32.reduceToInt, ← Int32.toInt_inj, true_and, and_true, or_true, true_or, false_or, or_false, false_and, and_false, not_true_eq_false, not_false_eq_true] <;> omega))
  refine v_aload_n hC dX12_sortOf_6 rfl ?_
  refine v_get hC fl_X12_13 m_1 e_26 rfl dX12_sortOf_7 ?_
  refine v_iconst hC dX12_sortOf_10 (v := 2) (by decide) ?_
  refine v_iald hC m_22 e_w (vp_in_iff.mpr (by decide)) (v := g_w 2) rfl dX12_sortOf_11 ?_
  obtain ⟨v_54, h_55⟩ : ∃ v9 : Int32, v_51 - v_51 / (g_w 2) * (g_w 2) = v9 := ⟨_, rfl⟩
  refine v_irem hC dX12_sortOf_12 (by first | omega | (simp only [Int32.lt_iff_toInt_lt, Int32.le_iff_toInt_le, Int32.reduceToInt, ← Int32.toInt_inj, true_and, and_true, or_true, true_or, false_or, or_false, false_and, and_false, not_true_eq_false, not_false_eq_true] <;> omega)) h_55 ?_
  have h_56 := rem_v h_55 (by first | omega | (simp only [Int32.lt_iff_toInt_lt, Int32.le_iff_toInt_le, Int32.reduceToInt, ← Int32.toInt_inj, true_and, and_true, or_true, true_or, false_or, or_false, false_and, and_false, not_true_eq_false, not_false_eq_true] <;> omega)) (by first | omega | (simp only [Int32.lt_iff_toInt_lt, Int32.le_iff_toInt_le, Int32.reduceToInt, ← Int32.toInt_inj, true_and, and_true, or_true, true_or, false_or, or_false, false_and, and_false, not_true_eq_false, not_false_eq_true] <;> omega))
  refine v_istore_n hC dX12_sortOf_13 (by decide) (lv' := [(2, .int v_54), (0, .ref a_0), (1, .int a_1)]) rfl ?_
  refine v_bipush hC dX12_sortOf_14 (v := 16) (by decide) ?_
  refine v_bipush hC dX12_sortOf_16 (v := 13) (by decide) ?_
  refine v_iload_n hC dX12_sortOf_18 rfl ?_
  obtain ⟨v_57, h_58⟩ : ∃ v9 : Int32, (13 : Int32) * v_54 = v9 := ⟨_, rfl⟩
  refine v_imul hC dX12_sortOf_19 h_58 ?_
  have h_59 := mul_v 13 7 91 h_58 (by decide) (by first | omega | (simp only [Int32.lt_iff_toInt_lt, Int32.le_iff_toInt_le, Int32.reduceToInt, ← Int32.toInt_inj, true_and, and_true, or_true, true_or, false_or, or_false, false_and, and_false, not_true_eq_false, not_false_eq_true] <;> omega)) (by decide) (by decide)
  try simp only [Int32.reduceToInt] at h_59
  obtain ⟨v_60, h_61⟩ : ∃ v9 : Int32, (16 : Int32) + v_57 = v9 := ⟨_, rfl⟩
  refine v_iadd hC dX12_sortOf_20 h_61 ?_
  have h_62 := add_v h_61 (by first | omega | (simp only [Int32.lt_iff_toInt_lt, Int32.le_iff_toInt_le, Int32.reduceToInt, ← Int32.toInt_inj, true_and, and_true, or_true, true_or, false_or, or_false, false_and, and_false, not_true_eq_false, not_false_eq_true] <;> omega)) (by first | omega | (simp only [Int32.lt_iff_toInt_lt, Int32.le_iff_toInt_le, Int32.reduceToInt, ← Int32.toInt_inj, true_and, and_true, or_true, true_or, false_or, or_false, false_and, and_false, not_true_eq_false, not_false_eq_true] <;> omega))
  try simp only [Int32.reduceToInt] at h_62
  refine v_istore_n hC dX12_sortOf_21 (by decide) (lv' := [(3, .int v_60), (2, .int v_54), (0, .ref a_0), (1, .int a_1)]) rfl ?_
  refine v_aload_n hC dX12_sortOf_22 rfl ?_
  refine v_get hC fl_X12_13 m_1 e_26 rfl dX12_sortOf_23 ?_
  refine v_iload_n hC dX12_sortOf_26 rfl ?_
  refine v_iconst hC dX12_sortOf_27 (v := 1) (by decide) ?_
  obtain ⟨v_63, h_64⟩ : ∃ v9 : Int32, v_60 + 1 = v9 := ⟨_, rfl⟩
  refine v_iadd hC dX12_sortOf_28 h_64 ?_
  have h_65 := add_v h_64 (by first | omega | (simp only [Int32.lt_iff_toInt_lt, Int32.le_iff_toInt_le, Int32.reduceToInt, ← Int32.toInt_inj, true_and, and_true, or_true, true_or, false_or, or_false, false_and, and_false, not_true_eq_false, not_false_eq_true] <;> omega)) (by first | omega | (simp only [Int32.lt_iff_toInt_lt, Int32.le_iff_toInt_le, Int32.reduceToInt, ← Int32.toInt_inj, true_and, and_true, or_true, true_or, false_or, or_false, false_and, and_false, not_true_eq_false, not_false_eq_true] <;> omega))
  try simp only [Int32.reduceToInt] at h_65
  refine v_iload_n hC dX12_sortOf_29 rfl ?_
  refine v_aload_n hC dX12_sortOf_30 rfl ?_
  refine v_vi hC (rest := [.int a_1, .int v_63, .ref (q 1)]) m_1 e_26 rfl mi_X12_wide ms_X12_wide (p_X12_wide hW k_0 e_w o_w) mx_X12_wide ml_X12_87 (by decide) rfl (cells1 := 0) (slots1 := 0) (by decide) (by decide) (Nat.le_of_ble_eq_true rfl) (Nat.le_of_ble_eq_true rfl) rfl (Nat.le_of_ble_eq_true rfl) dX12_sortOf_31 (fun r_66 L_67 f_68 h_69 => ?_)
  obtain ⟨rfl, rfl, rfl⟩ := h_69
  obtain ⟨v_72, h_73⟩ : ∃ v9 : Int32, a_1 - a_1 / (g_w 1) * (g_w 1) = v9 := ⟨_, rfl⟩
  refine v_irem hC dX12_sortOf_34 (by first | omega | (simp only [Int32.lt_iff_toInt_lt, Int32.le_iff_toInt_le, Int32.reduceToInt, ← Int32.toInt_inj, true_and, and_true, or_true, true_or, false_or, or_false, false_and, and_false, not_true_eq_false, not_false_eq_true] <;> omega)) h_73 ?_
  have h_74 := rem_v h_73 (by first | omega | (simp only [Int32.lt_iff_toInt_lt, Int32.le_iff_toInt_le, Int32.reduceToInt, ← Int32.toInt_inj, true_and, and_true, or_true, true_or, false_or, or_false, false_and, and_false, not_true_eq_false, not_false_eq_true] <;> omega)) (by first | omega | (simp only [Int32.lt_iff_toInt_lt, Int32.le_iff_toInt_le, Int32.reduceToInt, ← Int32.toInt_inj, true_and, and_true, or_true, true_or, false_or, or_false, false_and, and_false, not_true_eq_false, not_false_eq_true] <;> omega))
  refine v_aload_n hC dX12_sortOf_35 rfl ?_
  refine v_get hC fl_X12_13 m_1 e_26 rfl dX12_sortOf_36 ?_
  refine v_iload_n hC dX12_sortOf_39 rfl ?_
  obtain ⟨v_75, h_76⟩ : ∃ v9 : Int32, g_w (v_60 : Int32).toNatClampNeg = v9 := ⟨_, rfl⟩
  refine v_iald hC m_22 e_w (vp_in_iff.mpr (by first | omega | (simp only [Int32.lt_iff_toInt_lt, Int32.le_iff_toInt_le, Int32.reduceToInt, ← Int32.toInt_inj, true_and, and_true, or_true, true_or, false_or, or_false, false_and, and_false, not_true_eq_false, not_false_eq_true] <;> omega))) h_76 dX12_sortOf_40 ?_
  have b_77 := len_at o_w (i := v_60) (r := v_54) hpt (by omega) (by omega) (by omega)
  rw [h_76] at b_77
  obtain ⟨v_78, h_79⟩ : ∃ v9 : Int32, v_72 - v_72 / v_75 * v_75 = v9 := ⟨_, rfl⟩
  refine v_irem hC dX12_sortOf_41 (by first | omega | (simp only [Int32.lt_iff_toInt_lt, Int32.le_iff_toInt_le, Int32.reduceToInt, ← Int32.toInt_inj, true_and, and_true, or_true, true_or, false_or, or_false, false_and, and_false, not_true_eq_false, not_false_eq_true] <;> omega)) h_79 ?_
  have h_80 := rem_v h_79 (by first | omega | (simp only [Int32.lt_iff_toInt_lt, Int32.le_iff_toInt_le, Int32.reduceToInt, ← Int32.toInt_inj, true_and, and_true, or_true, true_or, false_or, or_false, false_and, and_false, not_true_eq_false, not_false_eq_true] <;> omega)) (by first | omega | (simp only [Int32.lt_iff_toInt_lt, Int32.le_iff_toInt_le, Int32.reduceToInt, ← Int32.toInt_inj, true_and, and_true, or_true, true_or, false_or, or_false, false_and, and_false, not_true_eq_false, not_false_eq_true] <;> omega))
  obtain ⟨v_81, h_82⟩ : ∃ v9 : Int32, v_63 + v_78 = v9 := ⟨_, rfl⟩
  refine v_iadd hC dX12_sortOf_42 h_82 ?_
  have h_83 := add_v h_82 (by first | omega | (simp only [Int32.lt_iff_toInt_lt, Int32.le_iff_toInt_le, Int32.reduceToInt, ← Int32.toInt_inj, true_and, and_true, or_true, true_or, false_or, or_false, false_and, and_false, not_true_eq_false, not_false_eq_true] <;> omega)) (by first | omega | (simp only [Int32.lt_iff_toInt_lt, Int32.le_iff_toInt_le, Int32.reduceToInt, ← Int32.toInt_inj, true_and, and_true, or_true, true_or, false_or, or_false, false_and, and_false, not_true_eq_false, not_false_eq_true] <;> omega))
  obtain ⟨v_84, h_85⟩ : ∃ v9 : Int32, g_w (v_81 : Int32).toNatClampNeg = v9 := ⟨_, rfl⟩
  refine v_iald hC m_22 e_w (vp_in_iff.mpr (by first | omega | (simp only [Int32.lt_iff_toInt_lt, Int32.le_iff_toInt_le, Int32.reduceToInt, ← Int32.toInt_inj, true_and, and_true, or_true, true_or, false_or, or_false, false_and, and_false, not_true_eq_false, not_false_eq_true] <;> omega))) h_85 dX12_sortOf_43 ?_
  have b_86 := sg_at o_w (i := v_81) (by omega) (by omega)
  rw [h_85] at b_86
  exact hR _ _ _ _ _ _ _ dX12_sortOf_44 rfl (Nat.le_of_ble_eq_true rfl) (Nat.le_of_ble_eq_true rfl) ⟨rfl, rfl, (by first | omega | (simp only [Int32.lt_iff_toInt_lt, Int32.le_iff_toInt_le, Int32.reduceToInt, ← Int32.toInt_inj, true_and, and_true, or_true, true_or, false_or, or_false, false_and, and_false, not_true_eq_false, not_false_eq_true] <;> omega))⟩
set_option maxRecDepth 100000 in
set_option maxHeartbeats 4000000 in
theorem p_X12_lists {l : Launch} {E : Ez} {L : List Nat} {f : Nat → va_E} {T : Nat → va_E → Prop} {a_0 : Nat} {a_1 : Int32} {q : Nat → Nat} {g_w : Nat → Int32} (hW : WT T L f) (k_0 : isM T L E a_0 q) (g_1 : (0 ≤ a_1.toInt ∧ a_1.toInt ≤ 5)) (e_w : f (q 1) = aI E 2076 g_w) (o_w : WOK g_w) (htold : (wv g_w a_1 0).toInt = 1) : CV l yX12_lists cX12_lists 7 2 0 0 E [.ref a_0, .int a_1] L f (fun L1 f1 => L = L1 ∧ WT T L f1 ∧ FR [12, 356] f f1 ∧ (fld (f1 a_0) 17 = 0 ∨ 1 ≤ (g_w 0).toInt) ∧ fld (f1 a_0) 20 = fld (f a_0) 20) := by
  refine cv_of (by decide) (Nat.le_of_ble_eq_true rfl) (fun z hz hnm hC hR => ?_)
  have hC : Cx z E cX12_lists RX12 7 2 0 0 := hC
  subst hz
  show V z E 7 0 0 L f 0 [(0, .ref a_0), (1, .int a_1)] []
  obtain ⟨m_1, t_2, nq_21, k_3, k_4, k_5, k_6, k_7, k_8, k_9, k_10, k_11, k_12, k_13, k_14, k_15, k_16, k_17, k_18, k_19, k_20⟩ := id k_0
  obtain ⟨m_22, t_23⟩ := id k_3
  have b_24 := o_w.r0
  have b_25 := o_w.w0
  obtain ⟨v_27, v_28, v_30, v_32, v_34, v_36, v_38, v_39, v_40, v_41, v_43, e_26, b_29, b_31, b_33, b_35, b_37, b_42, b_44⟩ := hW.at m_1 t_2
  have mz_45 : fld (f a_0) 20 = v_43.toInt := by rw [e_26]; rfl
  obtain ⟨tl_2, tl_3, tl_4⟩ := o_w.told g_1 htold
  have ar_0 := area_v o_w
  refine v_aload_n hC dX12_lists_0 rfl ?_
  refine v_iconst hC dX12_lists_1 (v := 0) (by decide) ?_
  refine v_put hC fl_X12_335 m_1 e_26 rfl rfl (Nat.le_of_ble_eq_true rfl) (fs' := [.int v_27, .ref (q 1), .ref (q 2), .ref (q 3), .ref (q 4), .int v_28, .ref (q 6), .int v_30, .int v_32, .int v_34, .int v_36, .int v_38, .int v_39, .int v_40, .ref (q 14), .ref (q 15), .ref (q 16), .int 0, .ref (q 18), .ref (q 19), .int v_43, .ref (q 21), .ref (q 22), .ref (q 23), .ref (q 24), .ref (q 25), .ref (q 26), .ref (q 27), .ref (q 28)]) rfl dX12_lists_2 (fun f_46 hf_47 hk_48 => ?_)
  have hW_49 := hW.up hf_47 hk_48 t_2 ⟨v_27, v_28, v_30, v_32, v_34, v_36, v_38, v_39, v_40, 0, v_43, rfl, (by first | omega | (simp only [Int32.lt_iff_toInt_lt, Int32.le_iff_toInt_le, Int32.reduceToInt, ← Int32.toInt_inj, true_and, and_true, or_true, true_or, false_or, or_false, false_and, and_false, not_true_eq_false, not_false_eq_true] <;> omega)), (by first | omega | (simp only [Int32.lt_iff_toInt_lt, Int32.le_iff_toInt_le, Int32.reduceToInt, ← Int32.toInt_inj, true_and, and_true, or_true, true_or, false_or, or_false, false_and, and_false, not_true_eq_false, not_false_eq_true] <;> omega)), (by first | omega | (simp only [Int32.lt_iff_toInt_lt, Int32.le_iff_toInt_le, Int32.reduceToInt, ← Int32.toInt_inj, true_and, and_true, or_true, true_or, false_or, or_false, false_and, and_false, not_true_eq_false, not_false_eq_true] <;> omega)), (by first | omega | (simp only [Int32.lt_iff_toInt_lt, Int32.le_iff_toInt_le, Int32.reduceToInt, ← Int32.toInt_inj, true_and, and_true, or_true, true_or, false_or, or_false, false_and, and_false, not_true_eq_false, not_false_eq_true] <;> omega)), (by first | omega | (simp only [Int32.lt_iff_toInt_lt, Int32.le_iff_toInt_le, Int32.reduceToInt, ← Int32.toInt_inj, true_and, and_true, or_true, true_or, false_or, or_false, false_and, and_false, not_true_eq_false, not_false_eq_true] <;> omega)), (by decide), (by first | omega | (simp only [Int32.lt_iff_toInt_lt, Int32.le_iff_toInt_le, Int32.reduceToInt, ← Int32.toInt_inj, true_and, and_true, or_true, true_or, false_or, or_false, false_and, and_false, not_true_eq_false, not_false_eq_true] <;> omega))⟩
  have hf_50 := (hk_48 (q 1) (ne_kd e_w e_26 rfl)).trans e_w
  have fr_51 := FR.w hk_48 e_26 (k := 12) rfl
  refine v_iconst hC dX12_lists_5 (v := 0) (by decide) ?_
  refine v_istore_n hC dX12_lists_6 (by decide) (lv' := [(2, .int 0), (0, .ref a_0), (1, .int a_1)]) rfl ?_
  refine v_iconst hC dX12_lists_7 (v := 0) (by decide) ?_
  refine v_istore_n hC dX12_lists_8 (by decide) (lv' := [(3, .int 0), (2, .int 0), (0, .ref a_0), (1, .int a_1)]) rfl ?_
  have lp_2978 : ∀ (n_2979 : Nat) (f_2970 : Nat → va_E) (hW_2971 : WT T L f_2970) (hF_2972 : FR [12, 356] f_46 f_2970) (i_2968 : Int32) (b_2974 : (0 ≤ i_2968.toInt ∧ i_2968.toInt ≤ 256)) (i_2969 : Int32) (nv_2975 : fld (f_2970 a_0) 17 ≤ i_2968.toInt) (nv_2976 : i_2968.toInt ≤ (g_w 0 * g_w 1).toInt) (nv_2977 : fld (f_2970 a_0) 20 = v_43.toInt) (hm_2981 : 256 - i_2968.toInt < (n_2979 : Int)), V z E 7 0 0 L f_2970 9 [(3, .int i_2968), (2, .int i_2969), (0, .ref a_0), (1, .int a_1)] [] := by
    intro n_2979
    induction n_2979 with
    | zero =>
      intro f_2970 hW_2971 hF_2972 i_2968 b_2974 i_2969 nv_2975 nv_2976 nv_2977 hm_2981
      have hf_2973 := hF_2972.at hf_50 rfl
      obtain ⟨v_2983, v_2984, v_2986, v_2988, v_2990, v_2992, v_2994, v_2995, v_2996, v_2997, v_2999, e_2982, b_2985, b_2987, b_2989, b_2991, b_2993, b_2998, b_3000⟩ := hW_2971.at m_1 t_2
      have fe_3001 : fld (f_2970 a_0) 17 = (v_2997 : Int32).toInt := by rw [e_2982]; rfl
      rw [fe_3001] at nv_2975
      have fe_3002 : fld (f_2970 a_0) 20 = (v_2999 : Int32).toInt := by rw [e_2982]; rfl
      rw [fe_3002] at nv_2977
      exfalso; omega
    | succ n_2979 ih_2980 =>
      intro f_2970 hW_2971 hF_2972 i_2968 b_2974 i_2969 nv_2975 nv_2976 nv_2977 hm_2981
      have hf_2973 := hF_2972.at hf_50 rfl
      obtain ⟨v_2983, v_2984, v_2986, v_2988, v_2990, v_2992, v_2994, v_2995, v_2996, v_2997, v_2999, e_2982, b_2985, b_2987, b_2989, b_2991, b_2993, b_2998, b_3000⟩ := hW_2971.at m_1 t_2
      have fe_3001 : fld (f_2970 a_0) 17 = (v_2997 : Int32).toInt := by rw [e_2982]; rfl
      rw [fe_3001] at nv_2975
      have fe_3002 : fld (f_2970 a_0) 20 = (v_2999 : Int32).toInt := by rw [e_2982]; rfl
      rw [fe_3002] at nv_2977
      refine v_iload_n hC dX12_lists_9 rfl ?_
      refine v_aload_n hC dX12_lists_10 rfl ?_
      refine v_vi hC (rest := [.int i_2968]) m_1 e_2982 rfl mi_X12_area ms_X12_area (p_X12_area hW_2971 k_0 hf_2973 o_w) mx_X12_area ml_X12_203 (by decide) rfl (cells1 := 0) (slots1 := 0) (by decide) (by decide) (Nat.le_of_ble_eq_true rfl) (Nat.le_of_ble_eq_true rfl) rfl (Nat.le_of_ble_eq_true rfl) dX12_lists_11 (fun r_3003 L_3004 f_3005 h_3006 => ?_)
      obtain ⟨rfl, rfl, rfl⟩ := h_3006
      have ar_3009 := area_v o_w
      refine v_icmp_ge hC dX12_lists_14 (tgt := 171) (by decide) (fun h_3010 => ?_) (fun h_3010 => ?_)
      · simp only [Int32.lt_iff_toInt_lt, Int32.le_iff_toInt_le, Int32.reduceToInt, ← Int32.toInt_inj] at h_3010
        have fe_3011 : fld (f_2970 a_0) 17 = (v_2997 : Int32).toInt := by rw [e_2982]; rfl
        have fe_3012 : fld (f_2970 a_0) 20 = (v_2999 : Int32).toInt := by rw [e_2982]; rfl
        exact hR _ _ _ _ _ _ dX12_lists_171 (Nat.le_of_ble_eq_true rfl) (Nat.le_of_ble_eq_true rfl) ⟨rfl, hW_2971, ((fr_51.tr hF_2972).mono rfl), (by simp only [fe_3011, true_and, and_true, or_true, true_or, false_or, or_false, false_and, and_false, not_true_eq_false, not_false_eq_true] <;> first | omega | (simp only [Int32.lt_iff_toInt_lt, Int32.le_iff_toInt_le, Int32.reduceToInt, ← Int32.toInt_inj, true_and, and_true, or_true, true_or, false_or, or_false, false_and, and_false, not_true_eq_false, not_false_eq_true] <;> omega)), (by simp only [fe_3012, mz_45, true_and, and_true, or_true, true_or, false_or, or_false, false_and, and_false, not_true_eq_false, not_false_eq_true] <;> first | omega | (simp only [Int32.lt_iff_toInt_lt, Int32.le_iff_toInt_le, Int32.reduceToInt, ← Int32.toInt_inj, true_and, and_true, or_true, true_or, false_or, or_false, false_and, and_false, not_true_eq_false, not_false_eq_true] <;> omega))⟩
      · simp only [Int32.lt_iff_toInt_lt, Int32.le_iff_toInt_le, Int32.reduceToInt, ← Int32.toInt_inj] at h_3010
        have pq_3013 : 1 ≤ (g_w 0).toInt ∧ 1 ≤ (g_w 1).toInt := by omega
        have dl_3014 := div_lt_v (i := i_2968.toInt) (r := (g_w 0).toInt) (w := (g_w 1).toInt) (by omega) (by omega) (by omega)
        refine v_aload_n hC dX12_lists_17 rfl ?_
        refine v_iload_n hC dX12_lists_18 rfl ?_
        refine v_bipush hC dX12_lists_19 (v := 6) (by decide) ?_
        refine v_vi hC (rest := []) m_1 e_2982 rfl mi_X12_ofWay ms_X12_ofWay (p_X12_ofWay hW_2971 k_0 (by first | omega | (simp only [Int32.lt_iff_toInt_lt, Int32.le_iff_toInt_le, Int32.reduceToInt, ← Int32.toInt_inj, true_and, and_true, or_true, true_or, false_or, or_false, false_and, and_false, not_true_eq_false, not_false_eq_true] <;> omega)) (by decide) hf_2973 o_w) mx_X12_ofWay ml_X12_94 (by decide) rfl (cells1 := 0) (slots1 := 0) (by decide) (by decide) (Nat.le_of_ble_eq_true rfl) (Nat.le_of_ble_eq_true rfl) rfl (Nat.le_of_ble_eq_true rfl) dX12_lists_21 (fun r_3015 L_3016 f_3017 h_3018 => ?_)
        obtain ⟨rfl, rfl, rfl⟩ := h_3018
        refine v_iconst hC dX12_lists_24 (v := 1) (by decide) ?_
        have jn_3055 : ∀ (v_3056 : Int32) (b_3057 : (0 ≤ v_3056.toInt ∧ v_3056.toInt ≤ 15)), V z E 7 0 0 L f_2970 50 [(3, .int i_2968), (2, .int i_2969), (0, .ref a_0), (1, .int a_1)] [.int v_3056] := by
          intro v_3056 b_3057
          refine v_istore hC dX12_lists_50 (by decide) (lv' := [(4, .int v_3056), (3, .int i_2968), (2, .int i_2969), (0, .ref a_0), (1, .int a_1)]) rfl ?_
          refine v_aload_n hC dX12_lists_52 rfl ?_
          refine v_iload_n hC dX12_lists_53 rfl ?_
          refine v_iconst hC dX12_lists_54 (v := 5) (by decide) ?_
          refine v_vi hC (rest := []) m_1 e_2982 rfl mi_X12_ofWay ms_X12_ofWay (p_X12_ofWay hW_2971 k_0 (by first | omega | (simp only [Int32.lt_iff_toInt_lt, Int32.le_iff_toInt_le, Int32.reduceToInt, ← Int32.toInt_inj, true_and, and_true, or_true, true_or, false_or, or_false, false_and, and_false, not_true_eq_false, not_false_eq_true] <;> omega)) (by decide) hf_2973 o_w) mx_X12_ofWay ml_X12_94 (by decide) rfl (cells1 := 0) (slots1 := 0) (by decide) (by decide) (Nat.le_of_ble_eq_true rfl) (Nat.le_of_ble_eq_true rfl) rfl (Nat.le_of_ble_eq_true rfl) dX12_lists_55 (fun r_3058 L_3059 f_3060 h_3061 => ?_)
          obtain ⟨rfl, rfl, rfl⟩ := h_3061
          refine v_iconst hC dX12_lists_58 (v := 1) (by decide) ?_
          have jn_3109 : ∀ (v_3110 : Int32) (b_3111 : (0 ≤ v_3110.toInt ∧ v_3110.toInt ≤ 15)), V z E 7 0 0 L f_2970 92 [(4, .int v_3056), (3, .int i_2968), (2, .int i_2969), (0, .ref a_0), (1, .int a_1)] [.int v_3110] := by
            intro v_3110 b_3111
            refine v_istore hC dX12_lists_92 (by decide) (lv' := [(5, .int v_3110), (4, .int v_3056), (3, .int i_2968), (2, .int i_2969), (0, .ref a_0), (1, .int a_1)]) rfl ?_
            refine v_iload hC dX12_lists_94 rfl ?_
            refine v_aload_n hC dX12_lists_96 rfl ?_
            refine v_vi hC (rest := [.int v_3056]) m_1 e_2982 rfl mi_X12_wide ms_X12_wide (p_X12_wide hW_2971 k_0 hf_2973 o_w) mx_X12_wide ml_X12_87 (by decide) rfl (cells1 := 0) (slots1 := 0) (by decide) (by decide) (Nat.le_of_ble_eq_true rfl) (Nat.le_of_ble_eq_true rfl) rfl (Nat.le_of_ble_eq_true rfl) dX12_lists_97 (fun r_3112 L_3113 f_3114 h_3115 => ?_)
            obtain ⟨rfl, rfl, rfl⟩ := h_3115
            obtain ⟨v_3118, h_3119⟩ : ∃ v9 : Int32, v_3056 * (g_w 1) = v9 := ⟨_, rfl⟩
            refine v_imul hC dX12_lists_100 h_3119 ?_
            have h_3120 := mul_v 15 16 240 h_3119 (by first | omega | (simp only [Int32.lt_iff_toInt_lt, Int32.le_iff_toInt_le, Int32.reduceToInt, ← Int32.toInt_inj, true_and, and_true, or_true, true_or, false_or, or_false, false_and, and_false, not_true_eq_false, not_false_eq_true] <;> omega)) (by first | omega | (simp only [Int32.lt_iff_toInt_lt, Int32.le_iff_toInt_le, Int32.reduceToInt, ← Int32.toInt_inj, true_and, and_true, or_true, true_or, false_or, or_false, false_and, and_false, not_true_eq_false, not_false_eq_true] <;> omega)) (by decide) (by decide)
            refine v_iload hC dX12_lists_101 rfl ?_
            obtain ⟨v_3121, h_3122⟩ : ∃ v9 : Int32, v_3118 + v_3110 = v9 := ⟨_, rfl⟩
            refine v_iadd hC dX12_lists_103 h_3122 ?_
            have h_3123 := add_v h_3122 (by first | omega | (simp only [Int32.lt_iff_toInt_lt, Int32.le_iff_toInt_le, Int32.reduceToInt, ← Int32.toInt_inj, true_and, and_true, or_true, true_or, false_or, or_false, false_and, and_false, not_true_eq_false, not_false_eq_true] <;> omega)) (by first | omega | (simp only [Int32.lt_iff_toInt_lt, Int32.le_iff_toInt_le, Int32.reduceToInt, ← Int32.toInt_inj, true_and, and_true, or_true, true_or, false_or, or_false, false_and, and_false, not_true_eq_false, not_false_eq_true] <;> omega))
            refine v_istore hC dX12_lists_104 (by decide) (lv' := [(6, .int v_3121), (5, .int v_3110), (4, .int v_3056), (3, .int i_2968), (2, .int i_2969), (0, .ref a_0), (1, .int a_1)]) rfl ?_
            refine v_aload_n hC dX12_lists_106 rfl ?_
            refine v_iload_n hC dX12_lists_107 rfl ?_
            refine v_iconst hC dX12_lists_108 (v := 1) (by decide) ?_
            refine v_vi hC (rest := []) m_1 e_2982 rfl mi_X12_ofWay ms_X12_ofWay (p_X12_ofWay hW_2971 k_0 (by first | omega | (simp only [Int32.lt_iff_toInt_lt, Int32.le_iff_toInt_le, Int32.reduceToInt, ← Int32.toInt_inj, true_and, and_true, or_true, true_or, false_or, or_false, false_and, and_false, not_true_eq_false, not_false_eq_true] <;> omega)) (by decide) hf_2973 o_w) mx_X12_ofWay ml_X12_94 (by decide) rfl (cells1 := 0) (slots1 := 0) (by decide) (by decide) (Nat.le_of_ble_eq_true rfl) (Nat.le_of_ble_eq_true rfl) rfl (Nat.le_of_ble_eq_true rfl) dX12_lists_109 (fun r_3124 L_3125 f_3126 h_3127 => ?_)
            obtain ⟨rfl, rfl, rfl⟩ := h_3127
            refine v_aload_n hC dX12_lists_112 rfl ?_
            refine v_iload hC dX12_lists_113 rfl ?_
            refine v_vi hC (rest := [.int (wv g_w a_1 1)]) m_1 e_2982 rfl mi_X12_sortOf ms_X12_sortOf (p_X12_sortOf hW_2971 k_0 (by first | omega | (simp only [Int32.lt_iff_toInt_lt, Int32.le_iff_toInt_le, Int32.reduceToInt, ← Int32.toInt_inj, true_and, and_true, or_true, true_or, false_or, or_false, false_and, and_false, not_true_eq_false, not_false_eq_true] <;> omega)) hf_2973 o_w (by first | omega | (simp only [Int32.lt_iff_toInt_lt, Int32.le_iff_toInt_le, Int32.reduceToInt, ← Int32.toInt_inj, true_and, and_true, or_true, true_or, false_or, or_false, false_and, and_false, not_true_eq_false, not_false_eq_true] <;> omega))) mx_X12_sortOf ml_X12_98 (by decide) rfl (cells1 := 0) (slots1 := 0) (by decide) (by decide) (Nat.le_of_ble_eq_true rfl) (Nat.le_of_ble_eq_true rfl) rfl (Nat.le_of_ble_eq_true rfl) dX12_lists_115 (fun r_3130 L_3131 f_3132 h_3133 => ?_)
            obtain ⟨rfl, rfl, b_3134⟩ := h_3133
            obtain ⟨v_3137, h_3138⟩ : ∃ v9 : Int32, (wv g_w a_1 1) >>> (r_3130 &&& 31) = v9 := ⟨_, rfl⟩
            refine v_ishr hC dX12_lists_118 h_3138 ?_
            refine v_iconst hC dX12_lists_119 (v := 1) (by decide) ?_
            obtain ⟨v_3140, h_3141⟩ : ∃ v9 : Int32, v_3137 &&& 1 = v9 := ⟨_, rfl⟩
            refine v_iand hC dX12_lists_120 h_3141 ?_
            have h_3142 := and_v h_3141 (by decide)
            try simp only [Int32.reduceToInt] at h_3142
            refine v_if_ne hC dX12_lists_121 (tgt := 127) (by decide) (fun h_3143 => ?_) (fun h_3143 => ?_)
            · simp only [Int32.lt_iff_toInt_lt, Int32.le_iff_toInt_le, Int32.reduceToInt, ← Int32.toInt_inj] at h_3143
              obtain ⟨v_3144, h_3145⟩ : ∃ v9 : Int32, i_2969 + Int32.ofInt 1 = v9 := ⟨_, rfl⟩
              refine v_iinc hC dX12_lists_127 (k := 4) rfl (v := v_3144) h_3145 (by decide) (lv' := [(2, .int v_3144), (6, .int v_3121), (5, .int v_3110), (4, .int v_3056), (3, .int i_2968), (0, .ref a_0), (1, .int a_1)]) rfl ?_
              refine v_iload_n hC dX12_lists_130 rfl ?_
              refine v_aload_n hC dX12_lists_131 rfl ?_
              refine v_iload_n hC dX12_lists_132 rfl ?_
              refine v_iconst hC dX12_lists_133 (v := 2) (by decide) ?_
              refine v_vi hC (rest := [.int v_3144]) m_1 e_2982 rfl mi_X12_ofWay ms_X12_ofWay (p_X12_ofWay hW_2971 k_0 (by first | omega | (simp only [Int32.lt_iff_toInt_lt, Int32.le_iff_toInt_le, Int32.reduceToInt, ← Int32.toInt_inj, true_and, and_true, or_true, true_or, false_or, or_false, false_and, and_false, not_true_eq_false, not_false_eq_true] <;> omega)) (by decide) hf_2973 o_w) mx_X12_ofWay ml_X12_94 (by decide) rfl (cells1 := 0) (slots1 := 0) (by decide) (by decide) (Nat.le_of_ble_eq_true rfl) (Nat.le_of_ble_eq_true rfl) rfl (Nat.le_of_ble_eq_true rfl) dX12_lists_134 (fun r_3146 L_3147 f_3148 h_3149 => ?_)
              obtain ⟨rfl, rfl, rfl⟩ := h_3149
              obtain ⟨v_3152, h_3153⟩ : ∃ v9 : Int32, v_3144 - v_3144 / (wv g_w a_1 2) * (wv g_w a_1 2) = v9 := ⟨_, rfl⟩
              refine v_irem hC dX12_lists_137 (by first | omega | (simp only [Int32.lt_iff_toInt_lt, Int32.le_iff_toInt_le, Int32.reduceToInt, ← Int32.toInt_inj, true_and, and_true, or_true, true_or, false_or, or_false, false_and, and_false, not_true_eq_false, not_false_eq_true] <;> omega)) h_3153 ?_
              refine v_if_eq hC dX12_lists_138 (tgt := 144) (by decide) (fun h_3155 => ?_) (fun h_3155 => ?_)
              · simp only [Int32.lt_iff_toInt_lt, Int32.le_iff_toInt_le, Int32.reduceToInt, ← Int32.toInt_inj] at h_3155
                refine v_aload_n hC dX12_lists_144 rfl ?_
                refine v_get hC fl_X12_40 m_1 e_2982 rfl dX12_lists_145 ?_
                refine v_aload_n hC dX12_lists_148 rfl ?_
                refine v_get hC fl_X12_335 m_1 e_2982 rfl dX12_lists_149 ?_
                refine v_iload hC dX12_lists_152 rfl ?_
                obtain ⟨m_3156, t_3157⟩ := id k_10
                obtain ⟨g_3159, e_3158, ok_3160⟩ := hW_2971.at m_3156 t_3157
                refine v_iast hC m_3156 e_3158 (vp_in_iff.mpr (by first | omega | (simp only [Int32.lt_iff_toInt_lt, Int32.le_iff_toInt_le, Int32.reduceToInt, ← Int32.toInt_inj, true_and, and_true, or_true, true_or, false_or, or_false, false_and, and_false, not_true_eq_false, not_false_eq_true] <;> omega))) dX12_lists_154 (fun f_3161 hf_3162 hk_3163 => ?_)
                have hW_3165 := hW_2971.up hf_3162 hk_3163 t_3157 ⟨_, rfl, (ok_3160.up (by first | omega | (simp only [Int32.lt_iff_toInt_lt, Int32.le_iff_toInt_le, Int32.reduceToInt, ← Int32.toInt_inj, true_and, and_true, or_true, true_or, false_or, or_false, false_and, and_false, not_true_eq_false, not_false_eq_true] <;> omega)))⟩
                obtain ⟨g_3164, hf_3162, ok_3166, eg_3167⟩ : ∃ g9, f_3161 (q 16) = aI E 256 g9 ∧ POK g9 ∧ g9 = upd g_3159 (v_2997 : Int32).toNatClampNeg v_3121 := ⟨_, hf_3162, (ok_3160.up (by first | omega | (simp only [Int32.lt_iff_toInt_lt, Int32.le_iff_toInt_le, Int32.reduceToInt, ← Int32.toInt_inj, true_and, and_true, or_true, true_or, false_or, or_false, false_and, and_false, not_true_eq_false, not_false_eq_true] <;> omega))), rfl⟩
                have hf_3168 := (hk_3163 (q 1) (ne_kd hf_2973 e_3158 rfl)).trans hf_2973
                have hf_3169 := (hk_3163 a_0 (ne_kd e_2982 e_3158 rfl)).trans e_2982
                have fr_3170 := FR.w hk_3163 e_3158 (k := 356) rfl
                refine v_aload_n hC dX12_lists_155 rfl ?_
                refine v_dup hC dX12_lists_156 rfl ?_
                refine v_get hC fl_X12_335 m_1 hf_3169 rfl dX12_lists_157 ?_
                refine v_iconst hC dX12_lists_160 (v := 1) (by decide) ?_
                obtain ⟨v_3171, h_3172⟩ : ∃ v9 : Int32, v_2997 + 1 = v9 := ⟨_, rfl⟩
                refine v_iadd hC dX12_lists_161 h_3172 ?_
                have h_3173 := add_v h_3172 (by first | omega | (simp only [Int32.lt_iff_toInt_lt, Int32.le_iff_toInt_le, Int32.reduceToInt, ← Int32.toInt_inj, true_and, and_true, or_true, true_or, false_or, or_false, false_and, and_false, not_true_eq_false, not_false_eq_true] <;> omega)) (by first | omega | (simp only [Int32.lt_iff_toInt_lt, Int32.le_iff_toInt_le, Int32.reduceToInt, ← Int32.toInt_inj, true_and, and_true, or_true, true_or, false_or, or_false, false_and, and_false, not_true_eq_false, not_false_eq_true] <;> omega))
                try simp only [Int32.reduceToInt] at h_3173
                refine v_put hC fl_X12_335 m_1 hf_3169 rfl rfl (Nat.le_of_ble_eq_true rfl) (fs' := [.int v_2983, .ref (q 1), .ref (q 2), .ref (q 3), .ref (q 4), .int v_2984, .ref (q 6), .int v_2986, .int v_2988, .int v_2990, .int v_2992, .int v_2994, .int v_2995, .int v_2996, .ref (q 14), .ref (q 15), .ref (q 16), .int v_3171, .ref (q 18), .ref (q 19), .int v_2999, .ref (q 21), .ref (q 22), .ref (q 23), .ref (q 24), .ref (q 25), .ref (q 26), .ref (q 27), .ref (q 28)]) rfl dX12_lists_162 (fun f_3174 hf_3175 hk_3176 => ?_)
                have hW_3177 := hW_3165.up hf_3175 hk_3176 t_2 ⟨v_2983, v_2984, v_2986, v_2988, v_2990, v_2992, v_2994, v_2995, v_2996, v_3171, v_2999, rfl, (by first | omega | (simp only [Int32.lt_iff_toInt_lt, Int32.le_iff_toInt_le, Int32.reduceToInt, ← Int32.toInt_inj, true_and, and_true, or_true, true_or, false_or, or_false, false_and, and_false, not_true_eq_false, not_false_eq_true] <;> omega)), (by first | omega | (simp only [Int32.lt_iff_toInt_lt, Int32.le_iff_toInt_le, Int32.reduceToInt, ← Int32.toInt_inj, true_and, and_true, or_true, true_or, false_or, or_false, false_and, and_false, not_true_eq_false, not_false_eq_true] <;> omega)), (by first | omega | (simp only [Int32.lt_iff_toInt_lt, Int32.le_iff_toInt_le, Int32.reduceToInt, ← Int32.toInt_inj, true_and, and_true, or_true, true_or, false_or, or_false, false_and, and_false, not_true_eq_false, not_false_eq_true] <;> omega)), (by first | omega | (simp only [Int32.lt_iff_toInt_lt, Int32.le_iff_toInt_le, Int32.reduceToInt, ← Int32.toInt_inj, true_and, and_true, or_true, true_or, false_or, or_false, false_and, and_false, not_true_eq_false, not_false_eq_true] <;> omega)), (by first | omega | (simp only [Int32.lt_iff_toInt_lt, Int32.le_iff_toInt_le, Int32.reduceToInt, ← Int32.toInt_inj, true_and, and_true, or_true, true_or, false_or, or_false, false_and, and_false, not_true_eq_false, not_false_eq_true] <;> omega)), (by first | omega | (simp only [Int32.lt_iff_toInt_lt, Int32.le_iff_toInt_le, Int32.reduceToInt, ← Int32.toInt_inj, true_and, and_true, or_true, true_or, false_or, or_false, false_and, and_false, not_true_eq_false, not_false_eq_true] <;> omega)), (by first | omega | (simp only [Int32.lt_iff_toInt_lt, Int32.le_iff_toInt_le, Int32.reduceToInt, ← Int32.toInt_inj, true_and, and_true, or_true, true_or, false_or, or_false, false_and, and_false, not_true_eq_false, not_false_eq_true] <;> omega))⟩
                have hf_3178 := (hk_3176 (q 1) (ne_kd hf_3168 hf_3169 rfl)).trans hf_3168
                have hf_3179 := (hk_3176 (q 16) (ne_kd hf_3162 hf_3169 rfl)).trans hf_3162
                have fr_3180 := FR.w hk_3176 hf_3169 (k := 12) rfl
                obtain ⟨v_3181, h_3182⟩ : ∃ v9 : Int32, i_2968 + Int32.ofInt 1 = v9 := ⟨_, rfl⟩
                have h_3183 := add_v (b := 1) h_3182 (by first | omega | (simp only [Int32.lt_iff_toInt_lt, Int32.le_iff_toInt_le, Int32.reduceToInt, ← Int32.toInt_inj, true_and, and_true, or_true, true_or, false_or, or_false, false_and, and_false, not_true_eq_false, not_false_eq_true] <;> omega)) (by first | omega | (simp only [Int32.lt_iff_toInt_lt, Int32.le_iff_toInt_le, Int32.reduceToInt, ← Int32.toInt_inj, true_and, and_true, or_true, true_or, false_or, or_false, false_and, and_false, not_true_eq_false, not_false_eq_true] <;> omega))
                simp only [Int32.reduceToInt] at h_3183
                refine v_iinc hC dX12_lists_165 (k := 4) rfl (v := v_3181) h_3182 (by decide) (lv' := [(3, .int v_3181), (2, .int v_3144), (6, .int v_3121), (5, .int v_3110), (4, .int v_3056), (0, .ref a_0), (1, .int a_1)]) rfl ?_
                refine v_goto hC dX12_lists_168 (tgt := 9) (by decide) ?_
                refine v_pick [0, 1, 5, 6] rfl ?_
                have fe_3184 : fld (f_3174 a_0) 17 = (v_3171 : Int32).toInt := by rw [hf_3175]; rfl
                have fe_3185 : fld (f_3174 a_0) 20 = (v_2999 : Int32).toInt := by rw [hf_3175]; rfl
                exact ih_2980 f_3174 hW_3177 (((hF_2972.tr fr_3170).tr fr_3180).mono rfl) v_3181 (by first | omega | (simp only [Int32.lt_iff_toInt_lt, Int32.le_iff_toInt_le, Int32.reduceToInt, ← Int32.toInt_inj, true_and, and_true, or_true, true_or, false_or, or_false, false_and, and_false, not_true_eq_false, not_false_eq_true] <;> omega)) v_3144 (by rw [fe_3184] <;> first | omega | (simp only [Int32.lt_iff_toInt_lt, Int32.le_iff_toInt_le, Int32.reduceToInt, ← Int32.toInt_inj, true_and, and_true, or_true, true_or, false_or, or_false, false_and, and_false, not_true_eq_false, not_false_eq_true] <;> omega)) (by first | omega | (simp only [Int32.lt_iff_toInt_lt, Int32.le_iff_toInt_le, Int32.reduceToInt, ← Int32.toInt_inj, true_and, and_true, or_true, true_or, false_or, or_false, false_and, and_false, not_true_eq_false, not_false_eq_true] <;> omega)) (by rw [fe_3185] <;> first | omega | (simp only [Int32.lt_iff_toInt_lt, Int32.le_iff_toInt_le, Int32.reduceToInt, ← Int32.toInt_inj, true_and, and_true, or_true, true_or, false_or, or_false, false_and, and_false, not_true_eq_false, not_false_eq_true] <;> omega)) (by first | omega | (simp only [Int32.lt_iff_toInt_lt, Int32.le_iff_toInt_le, Int32.reduceToInt, ← Int32.toInt_inj, true_and, and_true, or_true, true_or, false_or, or_false, false_and, and_false, not_true_eq_false, not_false_eq_true] <;> omega))
              · simp only [Int32.lt_iff_toInt_lt, Int32.le_iff_toInt_le, Int32.reduceToInt, ← Int32.toInt_inj] at h_3155
                refine v_goto hC dX12_lists_141 (tgt := 165) (by decide) ?_
                obtain ⟨v_3186, h_3187⟩ : ∃ v9 : Int32, i_2968 + Int32.ofInt 1 = v9 := ⟨_, rfl⟩
                have h_3188 := add_v (b := 1) h_3187 (by first | omega | (simp only [Int32.lt_iff_toInt_lt, Int32.le_iff_toInt_le, Int32.reduceToInt, ← Int32.toInt_inj, true_and, and_true, or_true, true_or, false_or, or_false, false_and, and_false, not_true_eq_false, not_false_eq_true] <;> omega)) (by first | omega | (simp only [Int32.lt_iff_toInt_lt, Int32.le_iff_toInt_le, Int32.reduceToInt, ← Int32.toInt_inj, true_and, and_true, or_true, true_or, false_or, or_false, false_and, and_false, not_true_eq_false, not_false_eq_true] <;> omega))
                simp only [Int32.reduceToInt] at h_3188
                refine v_iinc hC dX12_lists_165 (k := 4) rfl (v := v_3186) h_3187 (by decide) (lv' := [(3, .int v_3186), (2, .int v_3144), (6, .int v_3121), (5, .int v_3110), (4, .int v_3056), (0, .ref a_0), (1, .int a_1)]) rfl ?_
                refine v_goto hC dX12_lists_168 (tgt := 9) (by decide) ?_
                refine v_pick [0, 1, 5, 6] rfl ?_
                have fe_3189 : fld (f_2970 a_0) 17 = (v_2997 : Int32).toInt := by rw [e_2982]; rfl
                have fe_3190 : fld (f_2970 a_0) 20 = (v_2999 : Int32).toInt := by rw [e_2982]; rfl
                exact ih_2980 f_2970 hW_2971 (hF_2972.mono rfl) v_3186 (by first | omega | (simp only [Int32.lt_iff_toInt_lt, Int32.le_iff_toInt_le, Int32.reduceToInt, ← Int32.toInt_inj, true_and, and_true, or_true, true_or, false_or, or_false, false_and, and_false, not_true_eq_false, not_false_eq_true] <;> omega)) v_3144 (by rw [fe_3189] <;> first | omega | (simp only [Int32.lt_iff_toInt_lt, Int32.le_iff_toInt_le, Int32.reduceToInt, ← Int32.toInt_inj, true_and, and_true, or_true, true_or, false_or, or_false, false_and, and_false, not_true_eq_false, not_false_eq_true] <;> omega)) (by first | omega | (simp only [Int32.lt_iff_toInt_lt, Int32.le_iff_toInt_le, Int32.reduceToInt, ← Int32.toInt_inj, true_and, and_true, or_true, true_or, false_or, or_false, false_and, and_false, not_true_eq_false, not_false_eq_true] <;> omega)) (by rw [fe_3190] <;> first | omega | (simp only [Int32.lt_iff_toInt_lt, Int32.le_iff_toInt_le, Int32.reduceToInt, ← Int32.toInt_inj, true_and, and_true, or_true, true_or, false_or, or_false, false_and, and_false, not_true_eq_false, not_false_eq_true] <;> omega)) (by first | omega | (simp only [Int32.lt_iff_toInt_lt, Int32.le_iff_toInt_le, Int32.reduceToInt, ← Int32.toInt_inj, true_and, and_true, or_true, true_or, false_or, or_false, false_and, and_false, not_true_eq_false, not_false_eq_true] <;> omega))
            · simp only [Int32.lt_iff_toInt_lt, Int32.le_iff_toInt_le, Int32.reduceToInt, ← Int32.toInt_inj] at h_3143
              refine v_goto hC dX12_lists_124 (tgt := 165) (by decide) ?_
              obtain ⟨v_3191, h_3192⟩ : ∃ v9 : Int32, i_2968 + Int32.ofInt 1 = v9 := ⟨_, rfl⟩
              have h_3193 := add_v (b := 1) h_3192 (by first | omega | (simp only [Int32.lt_iff_toInt_lt, Int32.le_iff_toInt_le, Int32.reduceToInt, ← Int32.toInt_inj, true_and, and_true, or_true, true_or, false_or, or_false, false_and, and_false, not_true_eq_false, not_false_eq_true] <;> omega)) (by first | omega | (simp only [Int32.lt_iff_toInt_lt, Int32.le_iff_toInt_le, Int32.reduceToInt, ← Int32.toInt_inj, true_and, and_true, or_true, true_or, false_or, or_false, false_and, and_false, not_true_eq_false, not_false_eq_true] <;> omega))
              simp only [Int32.reduceToInt] at h_3193
              refine v_iinc hC dX12_lists_165 (k := 3) rfl (v := v_3191) h_3192 (by decide) (lv' := [(3, .int v_3191), (6, .int v_3121), (5, .int v_3110), (4, .int v_3056), (2, .int i_2969), (0, .ref a_0), (1, .int a_1)]) rfl ?_
              refine v_goto hC dX12_lists_168 (tgt := 9) (by decide) ?_
              refine v_pick [0, 4, 5, 6] rfl ?_
              have fe_3194 : fld (f_2970 a_0) 17 = (v_2997 : Int32).toInt := by rw [e_2982]; rfl
              have fe_3195 : fld (f_2970 a_0) 20 = (v_2999 : Int32).toInt := by rw [e_2982]; rfl
              exact ih_2980 f_2970 hW_2971 (hF_2972.mono rfl) v_3191 (by first | omega | (simp only [Int32.lt_iff_toInt_lt, Int32.le_iff_toInt_le, Int32.reduceToInt, ← Int32.toInt_inj, true_and, and_true, or_true, true_or, false_or, or_false, false_and, and_false, not_true_eq_false, not_false_eq_true] <;> omega)) i_2969 (by rw [fe_3194] <;> first | omega | (simp only [Int32.lt_iff_toInt_lt, Int32.le_iff_toInt_le, Int32.reduceToInt, ← Int32.toInt_inj, true_and, and_true, or_true, true_or, false_or, or_false, false_and, and_false, not_true_eq_false, not_false_eq_true] <;> omega)) (by first | omega | (simp only [Int32.lt_iff_toInt_lt, Int32.le_iff_toInt_le, Int32.reduceToInt, ← Int32.toInt_inj, true_and, and_true, or_true, true_or, false_or, or_false, false_and, and_false, not_true_eq_false, not_false_eq_true] <;> omega)) (by rw [fe_3195] <;> first | omega | (simp only [Int32.lt_iff_toInt_lt, Int32.le_iff_toInt_le, Int32.reduceToInt, ← Int32.toInt_inj, true_and, and_true, or_true, true_or, false_or, or_false, false_and, and_false, not_true_eq_false, not_false_eq_true] <;> omega)) (by first | omega | (simp only [Int32.lt_iff_toInt_lt, Int32.le_iff_toInt_le, Int32.reduceToInt, ← Int32.toInt_inj, true_and, and_true, or_true, true_or, false_or, or_false, false_and, and_false, not_true_eq_false, not_false_eq_true] <;> omega))
          refine v_icmp_ne hC dX12_lists_59 (tgt := 86) (by decide) (fun h_3064 => ?_) (fun h_3064 => ?_)
          · simp only [Int32.lt_iff_toInt_lt, Int32.le_iff_toInt_le, Int32.reduceToInt, ← Int32.toInt_inj] at h_3064
            refine v_iload_n hC dX12_lists_86 rfl ?_
            refine v_aload_n hC dX12_lists_87 rfl ?_
            refine v_vi hC (rest := [.int i_2968]) m_1 e_2982 rfl mi_X12_wide ms_X12_wide (p_X12_wide hW_2971 k_0 hf_2973 o_w) mx_X12_wide ml_X12_87 (by decide) rfl (cells1 := 0) (slots1 := 0) (by decide) (by decide) (Nat.le_of_ble_eq_true rfl) (Nat.le_of_ble_eq_true rfl) rfl (Nat.le_of_ble_eq_true rfl) dX12_lists_88 (fun r_3196 L_3197 f_3198 h_3199 => ?_)
            obtain ⟨rfl, rfl, rfl⟩ := h_3199
            obtain ⟨v_3202, h_3203⟩ : ∃ v9 : Int32, i_2968 - i_2968 / (g_w 1) * (g_w 1) = v9 := ⟨_, rfl⟩
            refine v_irem hC dX12_lists_91 (by first | omega | (simp only [Int32.lt_iff_toInt_lt, Int32.le_iff_toInt_le, Int32.reduceToInt, ← Int32.toInt_inj, true_and, and_true, or_true, true_or, false_or, or_false, false_and, and_false, not_true_eq_false, not_false_eq_true] <;> omega)) h_3203 ?_
            have h_3204 := rem_v h_3203 (by first | omega | (simp only [Int32.lt_iff_toInt_lt, Int32.le_iff_toInt_le, Int32.reduceToInt, ← Int32.toInt_inj, true_and, and_true, or_true, true_or, false_or, or_false, false_and, and_false, not_true_eq_false, not_false_eq_true] <;> omega)) (by first | omega | (simp only [Int32.lt_iff_toInt_lt, Int32.le_iff_toInt_le, Int32.reduceToInt, ← Int32.toInt_inj, true_and, and_true, or_true, true_or, false_or, or_false, false_and, and_false, not_true_eq_false, not_false_eq_true] <;> omega))
            refine v_pick [0, 1, 2, 3, 4] rfl ?_
            exact jn_3109 v_3202 (by first | omega | (simp only [Int32.lt_iff_toInt_lt, Int32.le_iff_toInt_le, Int32.reduceToInt, ← Int32.toInt_inj, true_and, and_true, or_true, true_or, false_or, or_false, false_and, and_false, not_true_eq_false, not_false_eq_true] <;> omega))
          · simp only [Int32.lt_iff_toInt_lt, Int32.le_iff_toInt_le, Int32.reduceToInt, ← Int32.toInt_inj] at h_3064
            refine v_iload hC dX12_lists_62 rfl ?_
            refine v_iconst hC dX12_lists_64 (v := 2) (by decide) ?_
            obtain ⟨v_3205, h_3206⟩ : ∃ v9 : Int32, v_3056 - v_3056 / 2 * 2 = v9 := ⟨_, rfl⟩
            refine v_irem hC dX12_lists_65 (by decide) h_3206 ?_
            have h_3207 := rem_v h_3206 (by first | omega | (simp only [Int32.lt_iff_toInt_lt, Int32.le_iff_toInt_le, Int32.reduceToInt, ← Int32.toInt_inj, true_and, and_true, or_true, true_or, false_or, or_false, false_and, and_false, not_true_eq_false, not_false_eq_true] <;> omega)) (by decide)
            try simp only [Int32.reduceToInt] at h_3207
            refine v_iconst hC dX12_lists_66 (v := 1) (by decide) ?_
            refine v_icmp_ne hC dX12_lists_67 (tgt := 86) (by decide) (fun h_3208 => ?_) (fun h_3208 => ?_)
            · simp only [Int32.lt_iff_toInt_lt, Int32.le_iff_toInt_le, Int32.reduceToInt, ← Int32.toInt_inj] at h_3208
              refine v_iload_n hC dX12_lists_86 rfl ?_
              refine v_aload_n hC dX12_lists_87 rfl ?_
              refine v_vi hC (rest := [.int i_2968]) m_1 e_2982 rfl mi_X12_wide ms_X12_wide (p_X12_wide hW_2971 k_0 hf_2973 o_w) mx_X12_wide ml_X12_87 (by decide) rfl (cells1 := 0) (slots1 := 0) (by decide) (by decide) (Nat.le_of_ble_eq_true rfl) (Nat.le_of_ble_eq_true rfl) rfl (Nat.le_of_ble_eq_true rfl) dX12_lists_88 (fun r_3209 L_3210 f_3211 h_3212 => ?_)
              obtain ⟨rfl, rfl, rfl⟩ := h_3212
              obtain ⟨v_3215, h_3216⟩ : ∃ v9 : Int32, i_2968 - i_2968 / (g_w 1) * (g_w 1) = v9 := ⟨_, rfl⟩
              refine v_irem hC dX12_lists_91 (by first | omega | (simp only [Int32.lt_iff_toInt_lt, Int32.le_iff_toInt_le, Int32.reduceToInt, ← Int32.toInt_inj, true_and, and_true, or_true, true_or, false_or, or_false, false_and, and_false, not_true_eq_false, not_false_eq_true] <;> omega)) h_3216 ?_
              have h_3217 := rem_v h_3216 (by first | omega | (simp only [Int32.lt_iff_toInt_lt, Int32.le_iff_toInt_le, Int32.reduceToInt, ← Int32.toInt_inj, true_and, and_true, or_true, true_or, false_or, or_false, false_and, and_false, not_true_eq_false, not_false_eq_true] <;> omega)) (by first | omega | (simp only [Int32.lt_iff_toInt_lt, Int32.le_iff_toInt_le, Int32.reduceToInt, ← Int32.toInt_inj, true_and, and_true, or_true, true_or, false_or, or_false, false_and, and_false, not_true_eq_false, not_false_eq_true] <;> omega))
              refine v_pick [0, 1, 2, 3, 4] rfl ?_
              exact jn_3109 v_3215 (by first | omega | (simp only [Int32.lt_iff_toInt_lt, Int32.le_iff_toInt_le, Int32.reduceToInt, ← Int32.toInt_inj, true_and, and_true, or_true, true_or, false_or, or_false, false_and, and_false, not_true_eq_false, not_false_eq_true] <;> omega))
            · simp only [Int32.lt_iff_toInt_lt, Int32.le_iff_toInt_le, Int32.reduceToInt, ← Int32.toInt_inj] at h_3208
              refine v_aload_n hC dX12_lists_70 rfl ?_
              refine v_vi hC (rest := []) m_1 e_2982 rfl mi_X12_wide ms_X12_wide (p_X12_wide hW_2971 k_0 hf_2973 o_w) mx_X12_wide ml_X12_87 (by decide) rfl (cells1 := 0) (slots1 := 0) (by decide) (by decide) (Nat.le_of_ble_eq_true rfl) (Nat.le_of_ble_eq_true rfl) rfl (Nat.le_of_ble_eq_true rfl) dX12_lists_71 (fun r_3218 L_3219 f_3220 h_3221 => ?_)
              obtain ⟨rfl, rfl, rfl⟩ := h_3221
              refine v_iconst hC dX12_lists_74 (v := 1) (by decide) ?_
              obtain ⟨v_3224, h_3225⟩ : ∃ v9 : Int32, (g_w 1) - 1 = v9 := ⟨_, rfl⟩
              refine v_isub hC dX12_lists_75 h_3225 ?_
              have h_3226 := sub_v h_3225 (by first | omega | (simp only [Int32.lt_iff_toInt_lt, Int32.le_iff_toInt_le, Int32.reduceToInt, ← Int32.toInt_inj, true_and, and_true, or_true, true_or, false_or, or_false, false_and, and_false, not_true_eq_false, not_false_eq_true] <;> omega)) (by first | omega | (simp only [Int32.lt_iff_toInt_lt, Int32.le_iff_toInt_le, Int32.reduceToInt, ← Int32.toInt_inj, true_and, and_true, or_true, true_or, false_or, or_false, false_and, and_false, not_true_eq_false, not_false_eq_true] <;> omega))
              try simp only [Int32.reduceToInt] at h_3226
              refine v_iload_n hC dX12_lists_76 rfl ?_
              refine v_aload_n hC dX12_lists_77 rfl ?_
              refine v_vi hC (rest := [.int i_2968, .int v_3224]) m_1 e_2982 rfl mi_X12_wide ms_X12_wide (p_X12_wide hW_2971 k_0 hf_2973 o_w) mx_X12_wide ml_X12_87 (by decide) rfl (cells1 := 0) (slots1 := 0) (by decide) (by decide) (Nat.le_of_ble_eq_true rfl) (Nat.le_of_ble_eq_true rfl) rfl (Nat.le_of_ble_eq_true rfl) dX12_lists_78 (fun r_3227 L_3228 f_3229 h_3230 => ?_)
              obtain ⟨rfl, rfl, rfl⟩ := h_3230
              obtain ⟨v_3233, h_3234⟩ : ∃ v9 : Int32, i_2968 - i_2968 / (g_w 1) * (g_w 1) = v9 := ⟨_, rfl⟩
              refine v_irem hC dX12_lists_81 (by first | omega | (simp only [Int32.lt_iff_toInt_lt, Int32.le_iff_toInt_le, Int32.reduceToInt, ← Int32.toInt_inj, true_and, and_true, or_true, true_or, false_or, or_false, false_and, and_false, not_true_eq_false, not_false_eq_true] <;> omega)) h_3234 ?_
              have h_3235 := rem_v h_3234 (by first | omega | (simp only [Int32.lt_iff_toInt_lt, Int32.le_iff_toInt_le, Int32.reduceToInt, ← Int32.toInt_inj, true_and, and_true, or_true, true_or, false_or, or_false, false_and, and_false, not_true_eq_false, not_false_eq_true] <;> omega)) (by first | omega | (simp only [Int32.lt_iff_toInt_lt, Int32.le_iff_toInt_le, Int32.reduceToInt, ← Int32.toInt_inj, true_and, and_true, or_true, true_or, false_or, or_false, false_and, and_false, not_true_eq_false, not_false_eq_true] <;> omega))
              obtain ⟨v_3236, h_3237⟩ : ∃ v9 : Int32, v_3224 - v_3233 = v9 := ⟨_, rfl⟩
              refine v_isub hC dX12_lists_82 h_3237 ?_
              have h_3238 := sub_v h_3237 (by first | omega | (simp only [Int32.lt_iff_toInt_lt, Int32.le_iff_toInt_le, Int32.reduceToInt, ← Int32.toInt_inj, true_and, and_true, or_true, true_or, false_or, or_false, false_and, and_false, not_true_eq_false, not_false_eq_true] <;> omega)) (by first | omega | (simp only [Int32.lt_iff_toInt_lt, Int32.le_iff_toInt_le, Int32.reduceToInt, ← Int32.toInt_inj, true_and, and_true, or_true, true_or, false_or, or_false, false_and, and_false, not_true_eq_false, not_false_eq_true] <;> omega))
              have b_3239 : (0 ≤ v_3236.toInt ∧ v_3236.toInt ≤ 15) := (by first | omega | (simp only [Int32.lt_iff_toInt_lt, Int32.le_iff_toInt_le, Int32.reduceToInt, ← Int32.toInt_inj, true_and, and_true, or_true, true_or, false_or, or_false, false_and, and_false, not_true_eq_false, not_false_eq_true] <;> omega))
              refine v_goto hC dX12_lists_83 (tgt := 92) (by decide) ?_
              refine v_pick [0, 1, 2, 3, 4] rfl ?_
              exact jn_3109 v_3236 (by first | omega | (simp only [Int32.lt_iff_toInt_lt, Int32.le_iff_toInt_le, Int32.reduceToInt, ← Int32.toInt_inj, true_and, and_true, or_true, true_or, false_or, or_false, false_and, and_false, not_true_eq_false, not_false_eq_true] <;> omega))
        refine v_icmp_ne hC dX12_lists_25 (tgt := 44) (by decide) (fun h_3021 => ?_) (fun h_3021 => ?_)
        · simp only [Int32.lt_iff_toInt_lt, Int32.le_iff_toInt_le, Int32.reduceToInt, ← Int32.toInt_inj] at h_3021
          refine v_iload_n hC dX12_lists_44 rfl ?_
          refine v_aload_n hC dX12_lists_45 rfl ?_
          refine v_vi hC (rest := [.int i_2968]) m_1 e_2982 rfl mi_X12_wide ms_X12_wide (p_X12_wide hW_2971 k_0 hf_2973 o_w) mx_X12_wide ml_X12_87 (by decide) rfl (cells1 := 0) (slots1 := 0) (by decide) (by decide) (Nat.le_of_ble_eq_true rfl) (Nat.le_of_ble_eq_true rfl) rfl (Nat.le_of_ble_eq_true rfl) dX12_lists_46 (fun r_3240 L_3241 f_3242 h_3243 => ?_)
          obtain ⟨rfl, rfl, rfl⟩ := h_3243
          obtain ⟨v_3246, h_3247⟩ : ∃ v9 : Int32, i_2968 / (g_w 1) = v9 := ⟨_, rfl⟩
          refine v_idiv hC dX12_lists_49 (by first | omega | (simp only [Int32.lt_iff_toInt_lt, Int32.le_iff_toInt_le, Int32.reduceToInt, ← Int32.toInt_inj, true_and, and_true, or_true, true_or, false_or, or_false, false_and, and_false, not_true_eq_false, not_false_eq_true] <;> omega)) h_3247 ?_
          have h_3248 := div_v h_3247 (by first | omega | (simp only [Int32.lt_iff_toInt_lt, Int32.le_iff_toInt_le, Int32.reduceToInt, ← Int32.toInt_inj, true_and, and_true, or_true, true_or, false_or, or_false, false_and, and_false, not_true_eq_false, not_false_eq_true] <;> omega)) (by first | omega | (simp only [Int32.lt_iff_toInt_lt, Int32.le_iff_toInt_le, Int32.reduceToInt, ← Int32.toInt_inj, true_and, and_true, or_true, true_or, false_or, or_false, false_and, and_false, not_true_eq_false, not_false_eq_true] <;> omega))
          have b_3249 : (0 ≤ v_3246.toInt ∧ v_3246.toInt ≤ 15) := (by first | omega | (simp only [Int32.lt_iff_toInt_lt, Int32.le_iff_toInt_le, Int32.reduceToInt, ← Int32.toInt_inj, true_and, and_true, or_true, true_or, false_or, or_false, false_and, and_false, not_true_eq_false, not_false_eq_true] <;> omega))
          refine v_pick [0, 1, 2, 3] rfl ?_
          exact jn_3055 v_3246 (by first | omega | (simp only [Int32.lt_iff_toInt_lt, Int32.le_iff_toInt_le, Int32.reduceToInt, ← Int32.toInt_inj, true_and, and_true, or_true, true_or, false_or, or_false, false_and, and_false, not_true_eq_false, not_false_eq_true] <;> omega))
        · simp only [Int32.lt_iff_toInt_lt, Int32.le_iff_toInt_le, Int32.reduceToInt, ← Int32.toInt_inj] at h_3021
          refine v_aload_n hC dX12_lists_28 rfl ?_
          refine v_vi hC (rest := []) m_1 e_2982 rfl mi_X12_rows ms_X12_rows (p_X12_rows hW_2971 k_0 hf_2973 o_w) mx_X12_rows ml_X12_83 (by decide) rfl (cells1 := 0) (slots1 := 0) (by decide) (by decide) (Nat.le_of_ble_eq_true rfl) (Nat.le_of_ble_eq_true rfl) rfl (Nat.le_of_ble_eq_true rfl) dX12_lists_29 (fun r_3250 L_3251 f_3252 h_3253 => ?_)
          obtain ⟨rfl, rfl, rfl⟩ := h_3253
          refine v_iconst hC dX12_lists_32 (v := 1) (by decide) ?_
          obtain ⟨v_3256, h_3257⟩ : ∃ v9 : Int32, (g_w 0) - 1 = v9 := ⟨_, rfl⟩
          refine v_isub hC dX12_lists_33 h_3257 ?_
          have h_3258 := sub_v h_3257 (by first | omega | (simp only [Int32.lt_iff_toInt_lt, Int32.le_iff_toInt_le, Int32.reduceToInt, ← Int32.toInt_inj, true_and, and_true, or_true, true_or, false_or, or_false, false_and, and_false, not_true_eq_false, not_false_eq_true] <;> omega)) (by first | omega | (simp only [Int32.lt_iff_toInt_lt, Int32.le_iff_toInt_le, Int32.reduceToInt, ← Int32.toInt_inj, true_and, and_true, or_true, true_or, false_or, or_false, false_and, and_false, not_true_eq_false, not_false_eq_true] <;> omega))
          try simp only [Int32.reduceToInt] at h_3258
          refine v_iload_n hC dX12_lists_34 rfl ?_
          refine v_aload_n hC dX12_lists_35 rfl ?_
          refine v_vi hC (rest := [.int i_2968, .int v_3256]) m_1 e_2982 rfl mi_X12_wide ms_X12_wide (p_X12_wide hW_2971 k_0 hf_2973 o_w) mx_X12_wide ml_X12_87 (by decide) rfl (cells1 := 0) (slots1 := 0) (by decide) (by decide) (Nat.le_of_ble_eq_true rfl) (Nat.le_of_ble_eq_true rfl) rfl (Nat.le_of_ble_eq_true rfl) dX12_lists_36 (fun r_3259 L_3260 f_3261 h_3262 => ?_)
          obtain ⟨rfl, rfl, rfl⟩ := h_3262
          obtain ⟨v_3265, h_3266⟩ : ∃ v9 : Int32, i_2968 / (g_w 1) = v9 := ⟨_, rfl⟩
          refine v_idiv hC dX12_lists_39 (by first | omega | (simp only [Int32.lt_iff_toInt_lt, Int32.le_iff_toInt_le, Int32.reduceToInt, ← Int32.toInt_inj, true_and, and_true, or_true, true_or, false_or, or_false, false_and, and_false, not_true_eq_false, not_false_eq_true] <;> omega)) h_3266 ?_
          have h_3267 := div_v h_3266 (by first | omega | (simp only [Int32.lt_iff_toInt_lt, Int32.le_iff_toInt_le, Int32.reduceToInt, ← Int32.toInt_inj, true_and, and_true, or_true, true_or, false_or, or_false, false_and, and_false, not_true_eq_false, not_false_eq_true] <;> omega)) (by first | omega | (simp only [Int32.lt_iff_toInt_lt, Int32.le_iff_toInt_le, Int32.reduceToInt, ← Int32.toInt_inj, true_and, and_true, or_true, true_or, false_or, or_false, false_and, and_false, not_true_eq_false, not_false_eq_true] <;> omega))
          have b_3268 : (0 ≤ v_3265.toInt ∧ v_3265.toInt ≤ 15) := (by first | omega | (simp only [Int32.lt_iff_toInt_lt, Int32.le_iff_toInt_le, Int32.reduceToInt, ← Int32.toInt_inj, true_and, and_true, or_true, true_or, false_or, or_false, false_and, and_false, not_true_eq_false, not_false_eq_true] <;> omega))
          obtain ⟨v_3269, h_3270⟩ : ∃ v9 : Int32, v_3256 - v_3265 = v9 := ⟨_, rfl⟩
          refine v_isub hC dX12_lists_40 h_3270 ?_
          have h_3271 := sub_v h_3270 (by first | omega | (simp only [Int32.lt_iff_toInt_lt, Int32.le_iff_toInt_le, Int32.reduceToInt, ← Int32.toInt_inj, true_and, and_true, or_true, true_or, false_or, or_false, false_and, and_false, not_true_eq_false, not_false_eq_true] <;> omega)) (by first | omega | (simp only [Int32.lt_iff_toInt_lt, Int32.le_iff_toInt_le, Int32.reduceToInt, ← Int32.toInt_inj, true_and, and_true, or_true, true_or, false_or, or_false, false_and, and_false, not_true_eq_false, not_false_eq_true] <;> omega))
          have b_3272 : (0 ≤ v_3269.toInt ∧ v_3269.toInt ≤ 15) := (by first | omega | (simp only [Int32.lt_iff_toInt_lt, Int32.le_iff_toInt_le, Int32.reduceToInt, ← Int32.toInt_inj, true_and, and_true, or_true, true_or, false_or, or_false, false_and, and_false, not_true_eq_false, not_false_eq_true] <;> omega))
          refine v_goto hC dX12_lists_41 (tgt := 50) (by decide) ?_
          refine v_pick [0, 1, 2, 3] rfl ?_
          exact jn_3055 v_3269 (by first | omega | (simp only [Int32.lt_iff_toInt_lt, Int32.le_iff_toInt_le, Int32.reduceToInt, ← Int32.toInt_inj, true_and, and_true, or_true, true_or, false_or, or_false, false_and, and_false, not_true_eq_false, not_false_eq_true] <;> omega))
  refine v_pick [0, 1, 2, 3] rfl ?_
  have fe_3273 : fld (f_46 a_0) 17 = (0 : Int32).toInt := by rw [hf_47]; rfl
  simp only [Int32.reduceToInt] at fe_3273
  have fe_3274 : fld (f_46 a_0) 20 = (v_43 : Int32).toInt := by rw [hf_47]; rfl
  exact lp_2978 258 f_46 hW_49 FR.rf 0 (by decide) 0 (by rw [fe_3273] <;> first | omega | (simp only [Int32.lt_iff_toInt_lt, Int32.le_iff_toInt_le, Int32.reduceToInt, ← Int32.toInt_inj, true_and, and_true, or_true, true_or, false_or, or_false, false_and, and_false, not_true_eq_false, not_false_eq_true] <;> omega)) (by first | omega | (simp only [Int32.lt_iff_toInt_lt, Int32.le_iff_toInt_le, Int32.reduceToInt, ← Int32.toInt_inj, true_and, and_true, or_true, true_or, false_or, or_false, false_and, and_false, not_true_eq_false, not_false_eq_true] <;> omega)) (by rw [fe_3274] <;> first | omega | (simp only [Int32.lt_iff_toInt_lt, Int32.le_iff_toInt_le, Int32.reduceToInt, ← Int32.toInt_inj, true_and, and_true, or_true, true_or, false_or, or_false, false_and, and_false, not_true_eq_false, not_false_eq_true] <;> omega)) (by decide)
set_option maxRecDepth 100000 in
set_option maxHeartbeats 4000000 in
theorem p_X12_roomOf {l : Launch} {E : Ez} {L : List Nat} {f : Nat → va_E} {T : Nat → va_E → Prop} {a_0 : Nat} {a_1 : Int32} {q : Nat → Nat} {g_w : Nat → Int32} (hW : WT T L f) (k_0 : isM T L E a_0 q) (g_1 : (0 ≤ a_1.toInt ∧ a_1.toInt ≤ 5)) (e_w : f (q 1) = aI E 2076 g_w) (o_w : WOK g_w) (htold : (wv g_w a_1 0).toInt = 1) : CI l yX12_roomOf cX12_roomOf 2 .int 3 0 0 E [.ref a_0, .int a_1] L f (fun r L1 f1 => L = L1 ∧ WT T L f1 ∧ FR [12, 356] f f1 ∧ (0 ≤ r.toInt ∧ r.toInt ≤ 256) ∧ (∀ i : Int, 0 ≤ i → i < r.toInt → (i * (wv g_w a_1 4).toInt + (wv g_w a_1 4).toInt) * (wv g_w a_1 3).toInt ≤ 256) ∧ (r.toInt = 0 ∨ 1 ≤ (g_w 0).toInt) ∧ fld (f1 a_0) 20 = fld (f a_0) 20) := by
  refine ci_of (by decide) (Nat.le_of_ble_eq_true rfl) (fun z hz hnm hC hR => ?_)
  have hC : Cx z E cX12_roomOf RX12 2 3 0 0 := hC
  subst hz
  show V z E 2 0 0 L f 0 [(0, .ref a_0), (1, .int a_1)] []
  obtain ⟨m_1, t_2, nq_21, k_3, k_4, k_5, k_6, k_7, k_8, k_9, k_10, k_11, k_12, k_13, k_14, k_15, k_16, k_17, k_18, k_19, k_20⟩ := id k_0
  obtain ⟨m_22, t_23⟩ := id k_3
  have b_24 := o_w.r0
  have b_25 := o_w.w0
  obtain ⟨v_27, v_28, v_30, v_32, v_34, v_36, v_38, v_39, v_40, v_41, v_43, e_26, b_29, b_31, b_33, b_35, b_37, b_42, b_44⟩ := hW.at m_1 t_2
  have mz_45 : fld (f a_0) 20 = v_43.toInt := by rw [e_26]; rfl
  obtain ⟨tl_2, tl_3, tl_4⟩ := o_w.told g_1 htold
  refine v_aload_n hC dX12_roomOf_0 rfl ?_
  refine v_iload_n hC dX12_roomOf_1 rfl ?_
  refine v_vv hC (rest := []) m_1 e_26 rfl mi_X12_lists ms_X12_lists (p_X12_lists hW k_0 (by first | omega | (simp only [Int32.lt_iff_toInt_lt, Int32.le_iff_toInt_le, Int32.reduceToInt, ← Int32.toInt_inj, true_and, and_true, or_true, true_or, false_or, or_false, false_and, and_false, not_true_eq_false, not_false_eq_true] <;> omega)) e_w o_w (by first | omega | (simp only [Int32.lt_iff_toInt_lt, Int32.le_iff_toInt_le, Int32.reduceToInt, ← Int32.toInt_inj, true_and, and_true, or_true, true_or, false_or, or_false, false_and, and_false, not_true_eq_false, not_false_eq_true] <;> omega))) mx_X12_lists ml_X12_338 (by decide) rfl (cells1 := 0) (slots1 := 0) (by decide) (by decide) (Nat.le_of_ble_eq_true rfl) (Nat.le_of_ble_eq_true rfl) rfl (Nat.le_of_ble_eq_true rfl) dX12_roomOf_2 (fun L_47 f_48 h_49 => ?_)
  obtain ⟨rfl, hW_52, hF_53, x_50, x_51⟩ := h_49
  have fe_54 : fld (f a_0) 20 = (v_43 : Int32).toInt := by rw [e_26]; rfl
  have hf_55 := hF_53.at e_w rfl
  obtain ⟨v_57, v_58, v_60, v_62, v_64, v_66, v_68, v_69, v_70, v_71, v_73, e_56, b_59, b_61, b_63, b_65, b_67, b_72, b_74⟩ := hW_52.at m_1 t_2
  have fe_75 : fld (f_48 a_0) 17 = (v_71 : Int32).toInt := by rw [e_56]; rfl
  rw [fe_75] at x_50
  rw [fe_54] at x_51
  have fe_76 : fld (f_48 a_0) 20 = (v_73 : Int32).toInt := by rw [e_56]; rfl
  rw [fe_76] at x_51
  refine v_aload_n hC dX12_roomOf_5 rfl ?_
  refine v_get hC fl_X12_335 m_1 e_56 rfl dX12_roomOf_6 ?_
  refine v_aload_n hC dX12_roomOf_9 rfl ?_
  refine v_iload_n hC dX12_roomOf_10 rfl ?_
  refine v_iconst hC dX12_roomOf_11 (v := 3) (by decide) ?_
  refine v_vi hC (rest := [.int v_71]) m_1 e_56 rfl mi_X12_ofWay ms_X12_ofWay (p_X12_ofWay hW_52 k_0 (by first | omega | (simp only [Int32.lt_iff_toInt_lt, Int32.le_iff_toInt_le, Int32.reduceToInt, ← Int32.toInt_inj, true_and, and_true, or_true, true_or, false_or, or_false, false_and, and_false, not_true_eq_false, not_false_eq_true] <;> omega)) (by decide) hf_55 o_w) mx_X12_ofWay ml_X12_94 (by decide) rfl (cells1 := 0) (slots1 := 0) (by decide) (by decide) (Nat.le_of_ble_eq_true rfl) (Nat.le_of_ble_eq_true rfl) rfl (Nat.le_of_ble_eq_true rfl) dX12_roomOf_12 (fun r_77 L_78 f_79 h_80 => ?_)
  obtain ⟨rfl, rfl, rfl⟩ := h_80
  obtain ⟨v_83, h_84⟩ : ∃ v9 : Int32, v_71 / (wv g_w a_1 3) = v9 := ⟨_, rfl⟩
  refine v_idiv hC dX12_roomOf_15 (by first | omega | (simp only [Int32.lt_iff_toInt_lt, Int32.le_iff_toInt_le, Int32.reduceToInt, ← Int32.toInt_inj, true_and, and_true, or_true, true_or, false_or, or_false, false_and, and_false, not_true_eq_false, not_false_eq_true] <;> omega)) h_84 ?_
  have h_85 := div_v h_84 (by first | omega | (simp only [Int32.lt_iff_toInt_lt, Int32.le_iff_toInt_le, Int32.reduceToInt, ← Int32.toInt_inj, true_and, and_true, or_true, true_or, false_or, or_false, false_and, and_false, not_true_eq_false, not_false_eq_true] <;> omega)) (by first | omega | (simp only [Int32.lt_iff_toInt_lt, Int32.le_iff_toInt_le, Int32.reduceToInt, ← Int32.toInt_inj, true_and, and_true, or_true, true_or, false_or, or_false, false_and, and_false, not_true_eq_false, not_false_eq_true] <;> omega))
  refine v_aload_n hC dX12_roomOf_16 rfl ?_
  refine v_iload_n hC dX12_roomOf_17 rfl ?_
  refine v_iconst hC dX12_roomOf_18 (v := 4) (by decide) ?_
  refine v_vi hC (rest := [.int v_83]) m_1 e_56 rfl mi_X12_ofWay ms_X12_ofWay (p_X12_ofWay hW_52 k_0 (by first | omega | (simp only [Int32.lt_iff_toInt_lt, Int32.le_iff_toInt_le, Int32.reduceToInt, ← Int32.toInt_inj, true_and, and_true, or_true, true_or, false_or, or_false, false_and, and_false, not_true_eq_false, not_false_eq_true] <;> omega)) (by decide) hf_55 o_w) mx_X12_ofWay ml_X12_94 (by decide) rfl (cells1 := 0) (slots1 := 0) (by decide) (by decide) (Nat.le_of_ble_eq_true rfl) (Nat.le_of_ble_eq_true rfl) rfl (Nat.le_of_ble_eq_true rfl) dX12_roomOf_19 (fun r_86 L_87 f_88 h_89 => ?_)
  obtain ⟨rfl, rfl, rfl⟩ := h_89
  obtain ⟨v_92, h_93⟩ : ∃ v9 : Int32, v_83 / (wv g_w a_1 4) = v9 := ⟨_, rfl⟩
  refine v_idiv hC dX12_roomOf_22 (by first | omega | (simp only [Int32.lt_iff_toInt_lt, Int32.le_iff_toInt_le, Int32.reduceToInt, ← Int32.toInt_inj, true_and, and_true, or_true, true_or, false_or, or_false, false_and, and_false, not_true_eq_false, not_false_eq_true] <;> omega)) h_93 ?_
  have h_94 := div_v h_93 (by first | omega | (simp only [Int32.lt_iff_toInt_lt, Int32.le_iff_toInt_le, Int32.reduceToInt, ← Int32.toInt_inj, true_and, and_true, or_true, true_or, false_or, or_false, false_and, and_false, not_true_eq_false, not_false_eq_true] <;> omega)) (by first | omega | (simp only [Int32.lt_iff_toInt_lt, Int32.le_iff_toInt_le, Int32.reduceToInt, ← Int32.toInt_inj, true_and, and_true, or_true, true_or, false_or, or_false, false_and, and_false, not_true_eq_false, not_false_eq_true] <;> omega))
  have fe_95 : fld (f_48 a_0) 20 = (v_73 : Int32).toInt := by rw [e_56]; rfl
  exact hR _ _ _ _ _ _ _ dX12_roomOf_23 rfl (Nat.le_of_ble_eq_true rfl) (Nat.le_of_ble_eq_true rfl) ⟨rfl, hW_52, (hF_53.mono rfl), (by first | omega | (simp only [Int32.lt_iff_toInt_lt, Int32.le_iff_toInt_le, Int32.reduceToInt, ← Int32.toInt_inj, true_and, and_true, or_true, true_or, false_or, or_false, false_and, and_false, not_true_eq_false, not_false_eq_true] <;> omega)), (room_v (pm := v_71.toInt) (by rw [h_94.1, h_85.1]) (by omega) (by omega) (by omega)), (by first | omega | (simp only [Int32.lt_iff_toInt_lt, Int32.le_iff_toInt_le, Int32.reduceToInt, ← Int32.toInt_inj, true_and, and_true, or_true, true_or, false_or, or_false, false_and, and_false, not_true_eq_false, not_false_eq_true] <;> omega)), (by simp only [fe_95, mz_45, true_and, and_true, or_true, true_or, false_or, or_false, false_and, and_false, not_true_eq_false, not_false_eq_true] <;> first | omega | (simp only [Int32.lt_iff_toInt_lt, Int32.le_iff_toInt_le, Int32.reduceToInt, ← Int32.toInt_inj, true_and, and_true, or_true, true_or, false_or, or_false, false_and, and_false, not_true_eq_false, not_false_eq_true] <;> omega))⟩
set_option maxRecDepth 100000 in
set_option maxHeartbeats 4000000 in
theorem p_X12_way {l : Launch} {E : Ez} {L : List Nat} {f : Nat → va_E} {T : Nat → va_E → Prop} {a_0 : Nat} {a_1 : Int32} {q : Nat → Nat} (hW : WT T L f) (k_0 : isM T L E a_0 q) : CI l yX12_way cX12_way 4 .int 7 0 0 E [.ref a_0, .int a_1] L f (fun r L1 f1 => L = L1 ∧ WT T L f1 ∧ FR [12, 356, 2176] f f1 ∧ ((-4) ≤ r.toInt ∧ r.toInt ≤ 256) ∧ (¬ r.toInt = 0 ∨ (0 ≤ a_1.toInt ∧ a_1.toInt ≤ 5))) := by
  refine ci_of (by decide) (Nat.le_of_ble_eq_true rfl) (fun z hz hnm hC hR => ?_)
  have hC : Cx z E cX12_way RX12 4 7 0 0 := hC
  subst hz
  show V z E 4 0 0 L f 0 [(0, .ref a_0), (1, .int a_1)] []
  obtain ⟨m_1, t_2, nq_21, k_3, k_4, k_5, k_6, k_7, k_8, k_9, k_10, k_11, k_12, k_13, k_14, k_15, k_16, k_17, k_18, k_19, k_20⟩ := id k_0
  refine v_iload_n hC dX12_way_0 rfl ?_
  refine v_si hC (rest := []) mt_X12_isWay (p_X12_isWay hW) mx_X12_isWay ml_X12_221 (by decide) rfl (cells1 := 0) (slots1 := 0) (by decide) (by decide) (Nat.le_of_ble_eq_true rfl) (Nat.le_of_ble_eq_true rfl) rfl (Nat.le_of_ble_eq_true rfl) dX12_way_1 (fun r_22 L_23 f_24 h_25 => ?_)
  obtain ⟨rfl, rfl, b_26, h_27⟩ := h_25
  refine v_if_ne hC dX12_way_4 (tgt := 10) (by decide) (fun h_30 => ?_) (fun h_30 => ?_)
  · simp only [Int32.lt_iff_toInt_lt, Int32.le_iff_toInt_le, Int32.reduceToInt, ← Int32.toInt_inj] at h_30
    refine v_aload_n hC dX12_way_10 rfl ?_
    obtain ⟨v_32, v_33, v_35, v_37, v_39, v_41, v_43, v_44, v_45, v_46, v_48, e_31, b_34, b_36, b_38, b_40, b_42, b_47, b_49⟩ := hW.at m_1 t_2
    refine v_vv hC (rest := []) m_1 e_31 rfl mi_X12_begin ms_X12_begin (p_X12_begin hW k_0) mx_X12_begin ml_X12_181 (by decide) rfl (cells1 := 0) (slots1 := 0) (by decide) (by decide) (Nat.le_of_ble_eq_true rfl) (Nat.le_of_ble_eq_true rfl) rfl (Nat.le_of_ble_eq_true rfl) dX12_way_11 (fun L_51 f_52 h_53 => ?_)
    obtain ⟨rfl, hW_57, hF_58, x_54, x_55, x_56⟩ := h_53
    have fe_59 : fld (f a_0) 20 = (v_48 : Int32).toInt := by rw [e_31]; rfl
    obtain ⟨v_61, v_62, v_64, v_66, v_68, v_70, v_72, v_73, v_74, v_75, v_77, e_60, b_63, b_65, b_67, b_69, b_71, b_76, b_78⟩ := hW_57.at m_1 t_2
    have fe_79 : fld (f_52 a_0) 12 = (v_73 : Int32).toInt := by rw [e_60]; rfl
    rw [fe_79] at x_54
    have fe_80 : fld (f_52 a_0) 8 = (v_66 : Int32).toInt := by rw [e_60]; rfl
    rw [fe_80] at x_55
    rw [fe_59] at x_56
    have fe_81 : fld (f_52 a_0) 20 = (v_77 : Int32).toInt := by rw [e_60]; rfl
    rw [fe_81] at x_56
    refine v_aload_n hC dX12_way_14 rfl ?_
    refine v_vv hC (rest := []) m_1 e_60 rfl mi_X12_advance ms_X12_advance (p_X12_advance hW_57 k_0) mx_X12_advance ml_X12_156 (by decide) rfl (cells1 := 0) (slots1 := 0) (by decide) (by decide) (Nat.le_of_ble_eq_true rfl) (Nat.le_of_ble_eq_true rfl) rfl (Nat.le_of_ble_eq_true rfl) dX12_way_15 (fun L_83 f_84 h_85 => ?_)
    obtain ⟨rfl, hW_90, hF_91, x_86, x_87, x_88, x_89⟩ := h_85
    have fe_92 : fld (f_52 a_0) 8 = (v_66 : Int32).toInt := by rw [e_60]; rfl
    have fe_93 : fld (f_52 a_0) 12 = (v_73 : Int32).toInt := by rw [e_60]; rfl
    have fe_94 : fld (f_52 a_0) 20 = (v_77 : Int32).toInt := by rw [e_60]; rfl
    rw [fe_92] at x_86
    obtain ⟨v_96, v_97, v_99, v_101, v_103, v_105, v_107, v_108, v_109, v_110, v_112, e_95, b_98, b_100, b_102, b_104, b_106, b_111, b_113⟩ := hW_90.at m_1 t_2
    have fe_114 : fld (f_84 a_0) 8 = (v_101 : Int32).toInt := by rw [e_95]; rfl
    have fe_115 : fld (f_84 a_0) 9 = (v_103 : Int32).toInt := by rw [e_95]; rfl
    rw [fe_114, fe_115] at x_86
    have fe_116 : fld (f_84 a_0) 8 = (v_101 : Int32).toInt := by rw [e_95]; rfl
    have fe_117 : fld (f_84 a_0) 9 = (v_103 : Int32).toInt := by rw [e_95]; rfl
    have fe_118 : fld (f_84 a_0) 10 = (v_105 : Int32).toInt := by rw [e_95]; rfl
    rw [fe_116, fe_117, fe_118] at x_87
    rw [fe_93] at x_88
    have fe_119 : fld (f_84 a_0) 12 = (v_108 : Int32).toInt := by rw [e_95]; rfl
    rw [fe_119] at x_88
    rw [fe_94] at x_89
    have fe_120 : fld (f_84 a_0) 20 = (v_112 : Int32).toInt := by rw [e_95]; rfl
    rw [fe_120] at x_89
    refine v_aload_n hC dX12_way_18 rfl ?_
    refine v_ldcS hC sr_X12_224 dX12_way_19 ?_
    refine v_vv hC (rest := []) m_1 e_95 rfl mi_X12_needs ms_X12_needs (p_X12_needs hW_90 k_0 (by decide)) mx_X12_needs ml_X12_166 (by decide) rfl (cells1 := 0) (slots1 := 0) (by decide) (by decide) (Nat.le_of_ble_eq_true rfl) (Nat.le_of_ble_eq_true rfl) rfl (Nat.le_of_ble_eq_true rfl) dX12_way_21 (fun L_122 f_123 h_124 => ?_)
    obtain ⟨rfl, hW_128, hF_129, x_125, x_126, x_127⟩ := h_124
    have ib_130 := iw_b (f_84 a_0) (f_84 (q 4)) 47
    have ln_131 : ((bytStr.getD 47 []).length : Int) = 3 := by rfl
    have fe_132 : fld (f_84 a_0) 8 = (v_101 : Int32).toInt := by rw [e_95]; rfl
    have fe_133 : fld (f_84 a_0) 9 = (v_103 : Int32).toInt := by rw [e_95]; rfl
    have fe_134 : fld (f_84 a_0) 10 = (v_105 : Int32).toInt := by rw [e_95]; rfl
    have fe_135 : fld (f_84 a_0) 12 = (v_108 : Int32).toInt := by rw [e_95]; rfl
    rw [fe_132, fe_133, fe_134, fe_135] at ib_130
    have fe_136 : fld (f_84 a_0) 8 = (v_101 : Int32).toInt := by rw [e_95]; rfl
    have fe_137 : fld (f_84 a_0) 12 = (v_108 : Int32).toInt := by rw [e_95]; rfl
    have fe_138 : fld (f_84 a_0) 20 = (v_112 : Int32).toInt := by rw [e_95]; rfl
    rw [fe_136] at x_125
    obtain ⟨v_140, v_141, v_143, v_145, v_147, v_149, v_151, v_152, v_153, v_154, v_156, e_139, b_142, b_144, b_146, b_148, b_150, b_155, b_157⟩ := hW_128.at m_1 t_2
    have fe_158 : fld (f_123 a_0) 8 = (v_145 : Int32).toInt := by rw [e_139]; rfl
    have fe_159 : fld (f_123 a_0) 9 = (v_147 : Int32).toInt := by rw [e_139]; rfl
    have fe_160 : fld (f_123 a_0) 10 = (v_149 : Int32).toInt := by rw [e_139]; rfl
    have fe_161 : fld (f_123 a_0) 12 = (v_152 : Int32).toInt := by rw [e_139]; rfl
    rw [fe_158, fe_159, fe_160, fe_161] at x_125
    rw [fe_137] at x_126
    have fe_162 : fld (f_123 a_0) 12 = (v_152 : Int32).toInt := by rw [e_139]; rfl
    rw [fe_162] at x_126
    rw [fe_138] at x_127
    have fe_163 : fld (f_123 a_0) 20 = (v_156 : Int32).toInt := by rw [e_139]; rfl
    rw [fe_163] at x_127
    refine v_aload_n hC dX12_way_24 rfl ?_
    refine v_ldcS hC sr_X12_226 dX12_way_25 ?_
    refine v_vv hC (rest := []) m_1 e_139 rfl mi_X12_needs ms_X12_needs (p_X12_needs hW_128 k_0 (by decide)) mx_X12_needs ml_X12_166 (by decide) rfl (cells1 := 0) (slots1 := 0) (by decide) (by decide) (Nat.le_of_ble_eq_true rfl) (Nat.le_of_ble_eq_true rfl) rfl (Nat.le_of_ble_eq_true rfl) dX12_way_27 (fun L_165 f_166 h_167 => ?_)
    obtain ⟨rfl, hW_171, hF_172, x_168, x_169, x_170⟩ := h_167
    have ib_173 := iw_b (f_123 a_0) (f_123 (q 4)) 48
    have ln_174 : ((bytStr.getD 48 []).length : Int) = 4 := by rfl
    have fe_175 : fld (f_123 a_0) 8 = (v_145 : Int32).toInt := by rw [e_139]; rfl
    have fe_176 : fld (f_123 a_0) 9 = (v_147 : Int32).toInt := by rw [e_139]; rfl
    have fe_177 : fld (f_123 a_0) 10 = (v_149 : Int32).toInt := by rw [e_139]; rfl
    have fe_178 : fld (f_123 a_0) 12 = (v_152 : Int32).toInt := by rw [e_139]; rfl
    rw [fe_175, fe_176, fe_177, fe_178] at ib_173
    have fe_179 : fld (f_123 a_0) 8 = (v_145 : Int32).toInt := by rw [e_139]; rfl
    have fe_180 : fld (f_123 a_0) 12 = (v_152 : Int32).toInt := by rw [e_139]; rfl
    have fe_181 : fld (f_123 a_0) 20 = (v_156 : Int32).toInt := by rw [e_139]; rfl
    rw [fe_179] at x_168
    obtain ⟨v_183, v_184, v_186, v_188, v_190, v_192, v_194, v_195, v_196, v_197, v_199, e_182, b_185, b_187, b_189, b_191, b_193, b_198, b_200⟩ := hW_171.at m_1 t_2
    have fe_201 : fld (f_166 a_0) 8 = (v_188 : Int32).toInt := by rw [e_182]; rfl
    have fe_202 : fld (f_166 a_0) 9 = (v_190 : Int32).toInt := by rw [e_182]; rfl
    have fe_203 : fld (f_166 a_0) 10 = (v_192 : Int32).toInt := by rw [e_182]; rfl
    have fe_204 : fld (f_166 a_0) 12 = (v_195 : Int32).toInt := by rw [e_182]; rfl
    rw [fe_201, fe_202, fe_203, fe_204] at x_168
    rw [fe_180] at x_169
    have fe_205 : fld (f_166 a_0) 12 = (v_195 : Int32).toInt := by rw [e_182]; rfl
    rw [fe_205] at x_169
    rw [fe_181] at x_170
    have fe_206 : fld (f_166 a_0) 20 = (v_199 : Int32).toInt := by rw [e_182]; rfl
    rw [fe_206] at x_170
    refine v_bipush hC dX12_way_30 (v := 120) (by decide) ?_
    refine v_bipush hC dX12_way_32 (v := 7) (by decide) ?_
    refine v_iload_n hC dX12_way_34 rfl ?_
    obtain ⟨v_207, h_208⟩ : ∃ v9 : Int32, (7 : Int32) * a_1 = v9 := ⟨_, rfl⟩
    refine v_imul hC dX12_way_35 h_208 ?_
    have h_209 := mul_v 7 5 35 h_208 (by decide) (by first | omega | (simp only [Int32.lt_iff_toInt_lt, Int32.le_iff_toInt_le, Int32.reduceToInt, ← Int32.toInt_inj, true_and, and_true, or_true, true_or, false_or, or_false, false_and, and_false, not_true_eq_false, not_false_eq_true] <;> omega)) (by decide) (by decide)
    try simp only [Int32.reduceToInt] at h_209
    obtain ⟨v_210, h_211⟩ : ∃ v9 : Int32, (120 : Int32) + v_207 = v9 := ⟨_, rfl⟩
    refine v_iadd hC dX12_way_36 h_211 ?_
    have h_212 := add_v h_211 (by first | omega | (simp only [Int32.lt_iff_toInt_lt, Int32.le_iff_toInt_le, Int32.reduceToInt, ← Int32.toInt_inj, true_and, and_true, or_true, true_or, false_or, or_false, false_and, and_false, not_true_eq_false, not_false_eq_true] <;> omega)) (by first | omega | (simp only [Int32.lt_iff_toInt_lt, Int32.le_iff_toInt_le, Int32.reduceToInt, ← Int32.toInt_inj, true_and, and_true, or_true, true_or, false_or, or_false, false_and, and_false, not_true_eq_false, not_false_eq_true] <;> omega))
    try simp only [Int32.reduceToInt] at h_212
    refine v_istore_n hC dX12_way_37 (by decide) (lv' := [(2, .int v_210), (0, .ref a_0), (1, .int a_1)]) rfl ?_
    refine v_aload_n hC dX12_way_38 rfl ?_
    obtain ⟨m_213, t_214⟩ := id k_3
    obtain ⟨g_216, e_215, ok_217⟩ := hW_171.at m_213 t_214
    have b_218 := ok_217.r0
    have b_219 := ok_217.w0
    refine v_vi hC (rest := []) m_1 e_182 rfl mi_X12_sortsHere ms_X12_sortsHere (p_X12_sortsHere hW_171 k_0 e_215 ok_217) mx_X12_sortsHere ml_X12_228 (by decide) rfl (cells1 := 0) (slots1 := 0) (by decide) (by decide) (Nat.le_of_ble_eq_true rfl) (Nat.le_of_ble_eq_true rfl) rfl (Nat.le_of_ble_eq_true rfl) dX12_way_39 (fun r_220 L_221 f_222 h_223 => ?_)
    obtain ⟨rfl, rfl⟩ := h_223
    refine v_istore_n hC dX12_way_42 (by decide) (lv' := [(3, .int r_220), (2, .int v_210), (0, .ref a_0), (1, .int a_1)]) rfl ?_
    refine v_iload_n hC dX12_way_43 rfl ?_
    refine v_iconst hC dX12_way_44 (v := (-1)) (by decide) ?_
    have jn_267 : ∀ (f_268 : Nat → va_E) (hW_269 : WT T L f_268) (hF_270 : FR [12] f_166 f_268) , V z E 4 0 0 L f_268 53 [(3, .int r_220), (2, .int v_210), (0, .ref a_0), (1, .int a_1)] [] := by
      intro f_268 hW_269 hF_270
      have hf_271 := hF_270.at e_215 rfl
      refine v_aload_n hC dX12_way_53 rfl ?_
      obtain ⟨v_273, v_274, v_276, v_278, v_280, v_282, v_284, v_285, v_286, v_287, v_289, e_272, b_275, b_277, b_279, b_281, b_283, b_288, b_290⟩ := hW_269.at m_1 t_2
      refine v_vi hC (rest := []) m_1 e_272 rfl mi_X12_good ms_X12_good (p_X12_good hW_269 k_0) mx_X12_good ml_X12_139 (by decide) rfl (cells1 := 0) (slots1 := 0) (by decide) (by decide) (Nat.le_of_ble_eq_true rfl) (Nat.le_of_ble_eq_true rfl) rfl (Nat.le_of_ble_eq_true rfl) dX12_way_54 (fun r_291 L_292 f_293 h_294 => ?_)
      obtain ⟨rfl, rfl, b_295, x_296⟩ := h_294
      have fe_299 : fld (f_268 a_0) 12 = (v_285 : Int32).toInt := by rw [e_272]; rfl
      rw [fe_299] at x_296
      try simp only [Int32.reduceToInt, Int64.reduceToInt] at x_296
      have jn_341 : ∀ (f_342 : Nat → va_E) (hW_343 : WT T L f_342) (hF_344 : FR [12] f_268 f_342) , V z E 4 0 0 L f_342 64 [(3, .int r_220), (2, .int v_210), (0, .ref a_0), (1, .int a_1)] [] := by
        intro f_342 hW_343 hF_344
        have hf_345 := hF_344.at hf_271 rfl
        refine v_aload_n hC dX12_way_64 rfl ?_
        obtain ⟨v_347, v_348, v_350, v_352, v_354, v_356, v_358, v_359, v_360, v_361, v_363, e_346, b_349, b_351, b_353, b_355, b_357, b_362, b_364⟩ := hW_343.at m_1 t_2
        refine v_get hC fl_X12_34 m_1 e_346 rfl dX12_way_65 ?_
        refine v_iload_n hC dX12_way_68 rfl ?_
        refine v_iconst hC dX12_way_69 (v := 1) (by decide) ?_
        obtain ⟨m_365, t_366⟩ := id k_8
        obtain ⟨g_368, e_367, ok_369⟩ := hW_343.at m_365 t_366
        refine v_iast hC m_365 e_367 (vp_in_iff.mpr (by first | omega | (simp only [Int32.lt_iff_toInt_lt, Int32.le_iff_toInt_le, Int32.reduceToInt, ← Int32.toInt_inj, true_and, and_true, or_true, true_or, false_or, or_false, false_and, and_false, not_true_eq_false, not_false_eq_true] <;> omega))) dX12_way_70 (fun f_370 hf_371 hk_372 => ?_)
        have hW_374 := hW_343.up hf_371 hk_372 t_366 ⟨_, rfl, (ok_369.up (by first | omega | (simp only [Int32.lt_iff_toInt_lt, Int32.le_iff_toInt_le, Int32.reduceToInt, ← Int32.toInt_inj, true_and, and_true, or_true, true_or, false_or, or_false, false_and, and_false, not_true_eq_false, not_false_eq_true] <;> omega)) (fun q1 q2 => (by first | omega | (simp only [Int32.lt_iff_toInt_lt, Int32.le_iff_toInt_le, Int32.reduceToInt, ← Int32.toInt_inj] at *; omega))) (fun k9 q1 q2 q3 => (by first | omega | (simp only [Int32.lt_iff_toInt_lt, Int32.le_iff_toInt_le, Int32.reduceToInt, ← Int32.toInt_inj] at *; omega))))⟩
        obtain ⟨g_373, hf_371, ok_375, eg_376⟩ : ∃ g9, f_370 (q 14) = aI E 2076 g9 ∧ FOK g9 ∧ g9 = upd g_368 (v_210 : Int32).toNatClampNeg 1 := ⟨_, hf_371, (ok_369.up (by first | omega | (simp only [Int32.lt_iff_toInt_lt, Int32.le_iff_toInt_le, Int32.reduceToInt, ← Int32.toInt_inj, true_and, and_true, or_true, true_or, false_or, or_false, false_and, and_false, not_true_eq_false, not_false_eq_true] <;> omega)) (fun q1 q2 => (by first | omega | (simp only [Int32.lt_iff_toInt_lt, Int32.le_iff_toInt_le, Int32.reduceToInt, ← Int32.toInt_inj] at *; omega))) (fun k9 q1 q2 q3 => (by first | omega | (simp only [Int32.lt_iff_toInt_lt, Int32.le_iff_toInt_le, Int32.reduceToInt, ← Int32.toInt_inj] at *; omega)))), rfl⟩
        have hf_377 := (hk_372 a_0 (ne_kd e_346 e_367 rfl)).trans e_346
        have fr_378 := FR.w hk_372 e_367 (k := 2176) rfl
        have wt_379 := wv_upd_eq (k := a_1) (j := 0) eg_376 (by omega) (by decide) (by simp only [Int32.reduceToInt]; omega)
        simp only [Int32.reduceToInt] at wt_379
        have wt_380 := wv_upd_ne (k := a_1) (j := 2) eg_376 (by omega) (by decide) (by omega) (by simp only [Int32.reduceToInt]; omega)
        have wt_381 := wv_upd_ne (k := a_1) (j := 3) eg_376 (by omega) (by decide) (by omega) (by simp only [Int32.reduceToInt]; omega)
        have wt_382 := wv_upd_ne (k := a_1) (j := 4) eg_376 (by omega) (by decide) (by omega) (by simp only [Int32.reduceToInt]; omega)
        refine v_aload_n hC dX12_way_71 rfl ?_
        refine v_get hC fl_X12_34 m_1 hf_377 rfl dX12_way_72 ?_
        refine v_iload_n hC dX12_way_75 rfl ?_
        refine v_iconst hC dX12_way_76 (v := 1) (by decide) ?_
        obtain ⟨v_383, h_384⟩ : ∃ v9 : Int32, v_210 + 1 = v9 := ⟨_, rfl⟩
        refine v_iadd hC dX12_way_77 h_384 ?_
        have h_385 := add_v h_384 (by first | omega | (simp only [Int32.lt_iff_toInt_lt, Int32.le_iff_toInt_le, Int32.reduceToInt, ← Int32.toInt_inj, true_and, and_true, or_true, true_or, false_or, or_false, false_and, and_false, not_true_eq_false, not_false_eq_true] <;> omega)) (by first | omega | (simp only [Int32.lt_iff_toInt_lt, Int32.le_iff_toInt_le, Int32.reduceToInt, ← Int32.toInt_inj, true_and, and_true, or_true, true_or, false_or, or_false, false_and, and_false, not_true_eq_false, not_false_eq_true] <;> omega))
        try simp only [Int32.reduceToInt] at h_385
        refine v_iload_n hC dX12_way_78 rfl ?_
        refine v_iast hC m_365 hf_371 (vp_in_iff.mpr (by first | omega | (simp only [Int32.lt_iff_toInt_lt, Int32.le_iff_toInt_le, Int32.reduceToInt, ← Int32.toInt_inj, true_and, and_true, or_true, true_or, false_or, or_false, false_and, and_false, not_true_eq_false, not_false_eq_true] <;> omega))) dX12_way_79 (fun f_386 hf_387 hk_388 => ?_)
        have hW_390 := hW_374.up hf_387 hk_388 t_366 ⟨_, rfl, (ok_375.up (by first | omega | (simp only [Int32.lt_iff_toInt_lt, Int32.le_iff_toInt_le, Int32.reduceToInt, ← Int32.toInt_inj, true_and, and_true, or_true, true_or, false_or, or_false, false_and, and_false, not_true_eq_false, not_false_eq_true] <;> omega)) (fun q1 q2 => (by first | omega | (simp only [Int32.lt_iff_toInt_lt, Int32.le_iff_toInt_le, Int32.reduceToInt, ← Int32.toInt_inj] at *; omega))) (fun k9 q1 q2 q3 => (by first | omega | (simp only [Int32.lt_iff_toInt_lt, Int32.le_iff_toInt_le, Int32.reduceToInt, ← Int32.toInt_inj] at *; omega))))⟩
        obtain ⟨g_389, hf_387, ok_391, eg_392⟩ : ∃ g9, f_386 (q 14) = aI E 2076 g9 ∧ FOK g9 ∧ g9 = upd g_373 (v_383 : Int32).toNatClampNeg r_220 := ⟨_, hf_387, (ok_375.up (by first | omega | (simp only [Int32.lt_iff_toInt_lt, Int32.le_iff_toInt_le, Int32.reduceToInt, ← Int32.toInt_inj, true_and, and_true, or_true, true_or, false_or, or_false, false_and, and_false, not_true_eq_false, not_false_eq_true] <;> omega)) (fun q1 q2 => (by first | omega | (simp only [Int32.lt_iff_toInt_lt, Int32.le_iff_toInt_le, Int32.reduceToInt, ← Int32.toInt_inj] at *; omega))) (fun k9 q1 q2 q3 => (by first | omega | (simp only [Int32.lt_iff_toInt_lt, Int32.le_iff_toInt_le, Int32.reduceToInt, ← Int32.toInt_inj] at *; omega)))), rfl⟩
        have hf_393 := (hk_388 a_0 (ne_kd hf_377 hf_371 rfl)).trans hf_377
        have fr_394 := FR.w hk_388 hf_371 (k := 2176) rfl
        have wt_395 := wv_upd_ne (k := a_1) (j := 0) eg_392 (by omega) (by decide) (by omega) (by simp only [Int32.reduceToInt]; omega)
        have wt_396 := wv_upd_ne (k := a_1) (j := 2) eg_392 (by omega) (by decide) (by omega) (by simp only [Int32.reduceToInt]; omega)
        have wt_397 := wv_upd_ne (k := a_1) (j := 3) eg_392 (by omega) (by decide) (by omega) (by simp only [Int32.reduceToInt]; omega)
        have wt_398 := wv_upd_ne (k := a_1) (j := 4) eg_392 (by omega) (by decide) (by omega) (by simp only [Int32.reduceToInt]; omega)
        refine v_aload_n hC dX12_way_80 rfl ?_
        refine v_get hC fl_X12_34 m_1 hf_393 rfl dX12_way_81 ?_
        refine v_iload_n hC dX12_way_84 rfl ?_
        refine v_iconst hC dX12_way_85 (v := 2) (by decide) ?_
        obtain ⟨v_399, h_400⟩ : ∃ v9 : Int32, v_210 + 2 = v9 := ⟨_, rfl⟩
        refine v_iadd hC dX12_way_86 h_400 ?_
        have h_401 := add_v h_400 (by first | omega | (simp only [Int32.lt_iff_toInt_lt, Int32.le_iff_toInt_le, Int32.reduceToInt, ← Int32.toInt_inj, true_and, and_true, or_true, true_or, false_or, or_false, false_and, and_false, not_true_eq_false, not_false_eq_true] <;> omega)) (by first | omega | (simp only [Int32.lt_iff_toInt_lt, Int32.le_iff_toInt_le, Int32.reduceToInt, ← Int32.toInt_inj, true_and, and_true, or_true, true_or, false_or, or_false, false_and, and_false, not_true_eq_false, not_false_eq_true] <;> omega))
        try simp only [Int32.reduceToInt] at h_401
        refine v_aload_n hC dX12_way_87 rfl ?_
        refine v_ldcS hC sr_X12_231 dX12_way_88 ?_
        refine v_vi hC (rest := [.int v_399, .ref (q 14)]) m_1 hf_393 rfl mi_X12_takes ms_X12_takes (p_X12_takes hW_390 k_0 (by decide)) mx_X12_takes ml_X12_159 (by decide) rfl (cells1 := 0) (slots1 := 0) (by decide) (by decide) (Nat.le_of_ble_eq_true rfl) (Nat.le_of_ble_eq_true rfl) rfl (Nat.le_of_ble_eq_true rfl) dX12_way_90 (fun r_402 L_403 f_404 h_405 => ?_)
        obtain ⟨rfl, hW_410, hF_411, rfl, x_406, x_407, x_408, x_409⟩ := h_405
        have ib_412 := iw_b (f_386 a_0) (f_386 (q 4)) 49
        have ln_413 : ((bytStr.getD 49 []).length : Int) = 4 := by rfl
        have fe_414 : fld (f_386 a_0) 8 = (v_352 : Int32).toInt := by rw [hf_393]; rfl
        have fe_415 : fld (f_386 a_0) 9 = (v_354 : Int32).toInt := by rw [hf_393]; rfl
        have fe_416 : fld (f_386 a_0) 10 = (v_356 : Int32).toInt := by rw [hf_393]; rfl
        have fe_417 : fld (f_386 a_0) 12 = (v_359 : Int32).toInt := by rw [hf_393]; rfl
        rw [fe_414, fe_415, fe_416, fe_417] at ib_412
        have fe_418 : fld (f_386 a_0) 8 = (v_352 : Int32).toInt := by rw [hf_393]; rfl
        have fe_419 : fld (f_386 a_0) 8 = (v_352 : Int32).toInt := by rw [hf_393]; rfl
        have fe_420 : fld (f_386 a_0) 9 = (v_354 : Int32).toInt := by rw [hf_393]; rfl
        have fe_421 : fld (f_386 a_0) 10 = (v_356 : Int32).toInt := by rw [hf_393]; rfl
        have fe_422 : fld (f_386 a_0) 12 = (v_359 : Int32).toInt := by rw [hf_393]; rfl
        have fe_423 : fld (f_386 a_0) 20 = (v_363 : Int32).toInt := by rw [hf_393]; rfl
        have hf_424 := hF_411.at hf_387 rfl
        rw [fe_418] at x_406
        obtain ⟨v_426, v_427, v_429, v_431, v_433, v_435, v_437, v_438, v_439, v_440, v_442, e_425, b_428, b_430, b_432, b_434, b_436, b_441, b_443⟩ := hW_410.at m_1 t_2
        have fe_444 : fld (f_404 a_0) 8 = (v_431 : Int32).toInt := by rw [e_425]; rfl
        have fe_445 : fld (f_404 a_0) 9 = (v_433 : Int32).toInt := by rw [e_425]; rfl
        have fe_446 : fld (f_404 a_0) 10 = (v_435 : Int32).toInt := by rw [e_425]; rfl
        rw [fe_444, fe_445, fe_446] at x_406
        rw [fe_419, fe_420, fe_421] at x_407
        have fe_447 : fld (f_404 a_0) 8 = (v_431 : Int32).toInt := by rw [e_425]; rfl
        have fe_448 : fld (f_404 a_0) 9 = (v_433 : Int32).toInt := by rw [e_425]; rfl
        have fe_449 : fld (f_404 a_0) 10 = (v_435 : Int32).toInt := by rw [e_425]; rfl
        rw [fe_447, fe_448, fe_449] at x_407
        rw [fe_422] at x_408
        have fe_450 : fld (f_404 a_0) 12 = (v_438 : Int32).toInt := by rw [e_425]; rfl
        rw [fe_450] at x_408
        rw [fe_423] at x_409
        have fe_451 : fld (f_404 a_0) 20 = (v_442 : Int32).toInt := by rw [e_425]; rfl
        rw [fe_451] at x_409
        try simp only [Int32.reduceToInt, Int64.reduceToInt] at x_406
        try simp only [Int32.reduceToInt, Int64.reduceToInt] at x_407
        try simp only [Int32.reduceToInt, Int64.reduceToInt] at x_408
        try simp only [Int32.reduceToInt, Int64.reduceToInt] at x_409
        have jn_492 : ∀ (f_494 : Nat → va_E) (hW_495 : WT T L f_494) (hF_496 : FR [12] f_404 f_494) (v_493 : Int32) (jv_498 : wvf (f_494 (q 14)) a_1 0 = 1) (jv_500 : (¬ fld (f_494 a_0) 12 = 0 ∨ (1 ≤ (v_493 : Int32).toInt ∧ (v_493 : Int32).toInt ≤ 9))), V z E 4 0 0 L f_494 107 [(2, .int v_210), (0, .ref a_0), (1, .int a_1)] [.int v_493, .int v_399, .ref (q 14)] := by
          intro f_494 hW_495 hF_496 v_493 jv_498 jv_500
          have hf_497 := hF_496.at hf_424 rfl
          have we_499 : wvf (f_494 (q 14)) a_1 0 = (wv g_389 a_1 0).toInt := by rw [hf_497]; rfl
          rw [we_499] at jv_498
          obtain ⟨v_502, v_503, v_505, v_507, v_509, v_511, v_513, v_514, v_515, v_516, v_518, e_501, b_504, b_506, b_508, b_510, b_512, b_517, b_519⟩ := hW_495.at m_1 t_2
          have fe_520 : fld (f_494 a_0) 12 = (v_514 : Int32).toInt := by rw [e_501]; rfl
          rw [fe_520] at jv_500
          refine v_iast hC m_365 hf_497 (vp_in_iff.mpr (by first | omega | (simp only [Int32.lt_iff_toInt_lt, Int32.le_iff_toInt_le, Int32.reduceToInt, ← Int32.toInt_inj, true_and, and_true, or_true, true_or, false_or, or_false, false_and, and_false, not_true_eq_false, not_false_eq_true] <;> omega))) dX12_way_107 (fun f_521 hf_522 hk_523 => ?_)
          have hW_525 := hW_495.up hf_522 hk_523 t_366 ⟨_, rfl, (ok_391.up (by first | omega | (simp only [Int32.lt_iff_toInt_lt, Int32.le_iff_toInt_le, Int32.reduceToInt, ← Int32.toInt_inj, true_and, and_true, or_true, true_or, false_or, or_false, false_and, and_false, not_true_eq_false, not_false_eq_true] <;> omega)) (fun q1 q2 => (by first | omega | (simp only [Int32.lt_iff_toInt_lt, Int32.le_iff_toInt_le, Int32.reduceToInt, ← Int32.toInt_inj] at *; omega))) (fun k9 q1 q2 q3 => (by first | omega | (simp only [Int32.lt_iff_toInt_lt, Int32.le_iff_toInt_le, Int32.reduceToInt, ← Int32.toInt_inj] at *; omega))))⟩
          obtain ⟨g_524, hf_522, ok_526, eg_527⟩ : ∃ g9, f_521 (q 14) = aI E 2076 g9 ∧ FOK g9 ∧ g9 = upd g_389 (v_399 : Int32).toNatClampNeg v_493 := ⟨_, hf_522, (ok_391.up (by first | omega | (simp only [Int32.lt_iff_toInt_lt, Int32.le_iff_toInt_le, Int32.reduceToInt, ← Int32.toInt_inj, true_and, and_true, or_true, true_or, false_or, or_false, false_and, and_false, not_true_eq_false, not_false_eq_true] <;> omega)) (fun q1 q2 => (by first | omega | (simp only [Int32.lt_iff_toInt_lt, Int32.le_iff_toInt_le, Int32.reduceToInt, ← Int32.toInt_inj] at *; omega))) (fun k9 q1 q2 q3 => (by first | omega | (simp only [Int32.lt_iff_toInt_lt, Int32.le_iff_toInt_le, Int32.reduceToInt, ← Int32.toInt_inj] at *; omega)))), rfl⟩
          have hf_528 := (hk_523 a_0 (ne_kd e_501 hf_497 rfl)).trans e_501
          have fr_529 := FR.w hk_523 hf_497 (k := 2176) rfl
          have wt_530 := wv_upd_ne (k := a_1) (j := 0) eg_527 (by omega) (by decide) (by omega) (by simp only [Int32.reduceToInt]; omega)
          have wt_531 := wv_upd_eq (k := a_1) (j := 2) eg_527 (by omega) (by decide) (by simp only [Int32.reduceToInt]; omega)
          have wt_532 := wv_upd_ne (k := a_1) (j := 3) eg_527 (by omega) (by decide) (by omega) (by simp only [Int32.reduceToInt]; omega)
          have wt_533 := wv_upd_ne (k := a_1) (j := 4) eg_527 (by omega) (by decide) (by omega) (by simp only [Int32.reduceToInt]; omega)
          refine v_aload_n hC dX12_way_108 rfl ?_
          refine v_get hC fl_X12_34 m_1 hf_528 rfl dX12_way_109 ?_
          refine v_iload_n hC dX12_way_112 rfl ?_
          refine v_iconst hC dX12_way_113 (v := 3) (by decide) ?_
          obtain ⟨v_534, h_535⟩ : ∃ v9 : Int32, v_210 + 3 = v9 := ⟨_, rfl⟩
          refine v_iadd hC dX12_way_114 h_535 ?_
          have h_536 := add_v h_535 (by first | omega | (simp only [Int32.lt_iff_toInt_lt, Int32.le_iff_toInt_le, Int32.reduceToInt, ← Int32.toInt_inj, true_and, and_true, or_true, true_or, false_or, or_false, false_and, and_false, not_true_eq_false, not_false_eq_true] <;> omega)) (by first | omega | (simp only [Int32.lt_iff_toInt_lt, Int32.le_iff_toInt_le, Int32.reduceToInt, ← Int32.toInt_inj, true_and, and_true, or_true, true_or, false_or, or_false, false_and, and_false, not_true_eq_false, not_false_eq_true] <;> omega))
          try simp only [Int32.reduceToInt] at h_536
          refine v_aload_n hC dX12_way_115 rfl ?_
          refine v_ldcS hC sr_X12_233 dX12_way_116 ?_
          refine v_vi hC (rest := [.int v_534, .ref (q 14)]) m_1 hf_528 rfl mi_X12_takes ms_X12_takes (p_X12_takes hW_525 k_0 (by decide)) mx_X12_takes ml_X12_159 (by decide) rfl (cells1 := 0) (slots1 := 0) (by decide) (by decide) (Nat.le_of_ble_eq_true rfl) (Nat.le_of_ble_eq_true rfl) rfl (Nat.le_of_ble_eq_true rfl) dX12_way_118 (fun r_537 L_538 f_539 h_540 => ?_)
          obtain ⟨rfl, hW_545, hF_546, rfl, x_541, x_542, x_543, x_544⟩ := h_540
          have ib_547 := iw_b (f_521 a_0) (f_521 (q 4)) 50
          have ln_548 : ((bytStr.getD 50 []).length : Int) = 5 := by rfl
          have fe_549 : fld (f_521 a_0) 8 = (v_507 : Int32).toInt := by rw [hf_528]; rfl
          have fe_550 : fld (f_521 a_0) 9 = (v_509 : Int32).toInt := by rw [hf_528]; rfl
          have fe_551 : fld (f_521 a_0) 10 = (v_511 : Int32).toInt := by rw [hf_528]; rfl
          have fe_552 : fld (f_521 a_0) 12 = (v_514 : Int32).toInt := by rw [hf_528]; rfl
          rw [fe_549, fe_550, fe_551, fe_552] at ib_547
          have fe_553 : fld (f_521 a_0) 8 = (v_507 : Int32).toInt := by rw [hf_528]; rfl
          have fe_554 : fld (f_521 a_0) 8 = (v_507 : Int32).toInt := by rw [hf_528]; rfl
          have fe_555 : fld (f_521 a_0) 9 = (v_509 : Int32).toInt := by rw [hf_528]; rfl
          have fe_556 : fld (f_521 a_0) 10 = (v_511 : Int32).toInt := by rw [hf_528]; rfl
          have fe_557 : fld (f_521 a_0) 12 = (v_514 : Int32).toInt := by rw [hf_528]; rfl
          have fe_558 : fld (f_521 a_0) 20 = (v_518 : Int32).toInt := by rw [hf_528]; rfl
          have hf_559 := hF_546.at hf_522 rfl
          rw [fe_553] at x_541
          obtain ⟨v_561, v_562, v_564, v_566, v_568, v_570, v_572, v_573, v_574, v_575, v_577, e_560, b_563, b_565, b_567, b_569, b_571, b_576, b_578⟩ := hW_545.at m_1 t_2
          have fe_579 : fld (f_539 a_0) 8 = (v_566 : Int32).toInt := by rw [e_560]; rfl
          have fe_580 : fld (f_539 a_0) 9 = (v_568 : Int32).toInt := by rw [e_560]; rfl
          have fe_581 : fld (f_539 a_0) 10 = (v_570 : Int32).toInt := by rw [e_560]; rfl
          rw [fe_579, fe_580, fe_581] at x_541
          rw [fe_554, fe_555, fe_556] at x_542
          have fe_582 : fld (f_539 a_0) 8 = (v_566 : Int32).toInt := by rw [e_560]; rfl
          have fe_583 : fld (f_539 a_0) 9 = (v_568 : Int32).toInt := by rw [e_560]; rfl
          have fe_584 : fld (f_539 a_0) 10 = (v_570 : Int32).toInt := by rw [e_560]; rfl
          rw [fe_582, fe_583, fe_584] at x_542
          rw [fe_557] at x_543
          have fe_585 : fld (f_539 a_0) 12 = (v_573 : Int32).toInt := by rw [e_560]; rfl
          rw [fe_585] at x_543
          rw [fe_558] at x_544
          have fe_586 : fld (f_539 a_0) 20 = (v_577 : Int32).toInt := by rw [e_560]; rfl
          rw [fe_586] at x_544
          try simp only [Int32.reduceToInt, Int64.reduceToInt] at x_541
          try simp only [Int32.reduceToInt, Int64.reduceToInt] at x_542
          try simp only [Int32.reduceToInt, Int64.reduceToInt] at x_543
          try simp only [Int32.reduceToInt, Int64.reduceToInt] at x_544
          have jn_627 : ∀ (f_629 : Nat → va_E) (hW_630 : WT T L f_629) (hF_631 : FR [12] f_539 f_629) (v_628 : Int32) (jv_633 : wvf (f_629 (q 14)) a_1 0 = 1) (jv_635 : (¬ fld (f_629 a_0) 12 = 0 ∨ (1 ≤ wvf (f_629 (q 14)) a_1 2 ∧ wvf (f_629 (q 14)) a_1 2 ≤ 9))) (jv_657 : (¬ fld (f_629 a_0) 12 = 0 ∨ (1 ≤ (v_628 : Int32).toInt ∧ (v_628 : Int32).toInt ≤ 5))), V z E 4 0 0 L f_629 134 [(2, .int v_210), (0, .ref a_0), (1, .int a_1)] [.int v_628, .int v_534, .ref (q 14)] := by
            intro f_629 hW_630 hF_631 v_628 jv_633 jv_635 jv_657
            have hf_632 := hF_631.at hf_559 rfl
            have we_634 : wvf (f_629 (q 14)) a_1 0 = (wv g_524 a_1 0).toInt := by rw [hf_632]; rfl
            rw [we_634] at jv_633
            obtain ⟨v_637, v_638, v_640, v_642, v_644, v_646, v_648, v_649, v_650, v_651, v_653, e_636, b_639, b_641, b_643, b_645, b_647, b_652, b_654⟩ := hW_630.at m_1 t_2
            have fe_655 : fld (f_629 a_0) 12 = (v_649 : Int32).toInt := by rw [e_636]; rfl
            have we_656 : wvf (f_629 (q 14)) a_1 2 = (wv g_524 a_1 2).toInt := by rw [hf_632]; rfl
            rw [fe_655, we_656] at jv_635
            have fe_658 : fld (f_629 a_0) 12 = (v_649 : Int32).toInt := by rw [e_636]; rfl
            rw [fe_658] at jv_657
            refine v_iast hC m_365 hf_632 (vp_in_iff.mpr (by first | omega | (simp only [Int32.lt_iff_toInt_lt, Int32.le_iff_toInt_le, Int32.reduceToInt, ← Int32.toInt_inj, true_and, and_true, or_true, true_or, false_or, or_false, false_and, and_false, not_true_eq_false, not_false_eq_true] <;> omega))) dX12_way_134 (fun f_659 hf_660 hk_661 => ?_)
            have hW_663 := hW_630.up hf_660 hk_661 t_366 ⟨_, rfl, (ok_526.up (by first | omega | (simp only [Int32.lt_iff_toInt_lt, Int32.le_iff_toInt_le, Int32.reduceToInt, ← Int32.toInt_inj, true_and, and_true, or_true, true_or, false_or, or_false, false_and, and_false, not_true_eq_false, not_false_eq_true] <;> omega)) (fun q1 q2 => (by first | omega | (simp only [Int32.lt_iff_toInt_lt, Int32.le_iff_toInt_le, Int32.reduceToInt, ← Int32.toInt_inj] at *; omega))) (fun k9 q1 q2 q3 => (by first | omega | (simp only [Int32.lt_iff_toInt_lt, Int32.le_iff_toInt_le, Int32.reduceToInt, ← Int32.toInt_inj] at *; omega))))⟩
            obtain ⟨g_662, hf_660, ok_664, eg_665⟩ : ∃ g9, f_659 (q 14) = aI E 2076 g9 ∧ FOK g9 ∧ g9 = upd g_524 (v_534 : Int32).toNatClampNeg v_628 := ⟨_, hf_660, (ok_526.up (by first | omega | (simp only [Int32.lt_iff_toInt_lt, Int32.le_iff_toInt_le, Int32.reduceToInt, ← Int32.toInt_inj, true_and, and_true, or_true, true_or, false_or, or_false, false_and, and_false, not_true_eq_false, not_false_eq_true] <;> omega)) (fun q1 q2 => (by first | omega | (simp only [Int32.lt_iff_toInt_lt, Int32.le_iff_toInt_le, Int32.reduceToInt, ← Int32.toInt_inj] at *; omega))) (fun k9 q1 q2 q3 => (by first | omega | (simp only [Int32.lt_iff_toInt_lt, Int32.le_iff_toInt_le, Int32.reduceToInt, ← Int32.toInt_inj] at *; omega)))), rfl⟩
            have hf_666 := (hk_661 a_0 (ne_kd e_636 hf_632 rfl)).trans e_636
            have fr_667 := FR.w hk_661 hf_632 (k := 2176) rfl
            have wt_668 := wv_upd_ne (k := a_1) (j := 0) eg_665 (by omega) (by decide) (by omega) (by simp only [Int32.reduceToInt]; omega)
            have wt_669 := wv_upd_ne (k := a_1) (j := 2) eg_665 (by omega) (by decide) (by omega) (by simp only [Int32.reduceToInt]; omega)
            have wt_670 := wv_upd_eq (k := a_1) (j := 3) eg_665 (by omega) (by decide) (by simp only [Int32.reduceToInt]; omega)
            have wt_671 := wv_upd_ne (k := a_1) (j := 4) eg_665 (by omega) (by decide) (by omega) (by simp only [Int32.reduceToInt]; omega)
            refine v_aload_n hC dX12_way_135 rfl ?_
            refine v_get hC fl_X12_34 m_1 hf_666 rfl dX12_way_136 ?_
            refine v_iload_n hC dX12_way_139 rfl ?_
            refine v_iconst hC dX12_way_140 (v := 4) (by decide) ?_
            obtain ⟨v_672, h_673⟩ : ∃ v9 : Int32, v_210 + 4 = v9 := ⟨_, rfl⟩
            refine v_iadd hC dX12_way_141 h_673 ?_
            have h_674 := add_v h_673 (by first | omega | (simp only [Int32.lt_iff_toInt_lt, Int32.le_iff_toInt_le, Int32.reduceToInt, ← Int32.toInt_inj, true_and, and_true, or_true, true_or, false_or, or_false, false_and, and_false, not_true_eq_false, not_false_eq_true] <;> omega)) (by first | omega | (simp only [Int32.lt_iff_toInt_lt, Int32.le_iff_toInt_le, Int32.reduceToInt, ← Int32.toInt_inj, true_and, and_true, or_true, true_or, false_or, or_false, false_and, and_false, not_true_eq_false, not_false_eq_true] <;> omega))
            try simp only [Int32.reduceToInt] at h_674
            refine v_iconst hC dX12_way_142 (v := 1) (by decide) ?_
            refine v_iast hC m_365 hf_660 (vp_in_iff.mpr (by first | omega | (simp only [Int32.lt_iff_toInt_lt, Int32.le_iff_toInt_le, Int32.reduceToInt, ← Int32.toInt_inj, true_and, and_true, or_true, true_or, false_or, or_false, false_and, and_false, not_true_eq_false, not_false_eq_true] <;> omega))) dX12_way_143 (fun f_675 hf_676 hk_677 => ?_)
            have hW_679 := hW_663.up hf_676 hk_677 t_366 ⟨_, rfl, (ok_664.up (by first | omega | (simp only [Int32.lt_iff_toInt_lt, Int32.le_iff_toInt_le, Int32.reduceToInt, ← Int32.toInt_inj, true_and, and_true, or_true, true_or, false_or, or_false, false_and, and_false, not_true_eq_false, not_false_eq_true] <;> omega)) (fun q1 q2 => (by first | omega | (simp only [Int32.lt_iff_toInt_lt, Int32.le_iff_toInt_le, Int32.reduceToInt, ← Int32.toInt_inj] at *; omega))) (fun k9 q1 q2 q3 => (by first | omega | (simp only [Int32.lt_iff_toInt_lt, Int32.le_iff_toInt_le, Int32.reduceToInt, ← Int32.toInt_inj] at *; omega))))⟩
            obtain ⟨g_678, hf_676, ok_680, eg_681⟩ : ∃ g9, f_675 (q 14) = aI E 2076 g9 ∧ FOK g9 ∧ g9 = upd g_662 (v_672 : Int32).toNatClampNeg 1 := ⟨_, hf_676, (ok_664.up (by first | omega | (simp only [Int32.lt_iff_toInt_lt, Int32.le_iff_toInt_le, Int32.reduceToInt, ← Int32.toInt_inj, true_and, and_true, or_true, true_or, false_or, or_false, false_and, and_false, not_true_eq_false, not_false_eq_true] <;> omega)) (fun q1 q2 => (by first | omega | (simp only [Int32.lt_iff_toInt_lt, Int32.le_iff_toInt_le, Int32.reduceToInt, ← Int32.toInt_inj] at *; omega))) (fun k9 q1 q2 q3 => (by first | omega | (simp only [Int32.lt_iff_toInt_lt, Int32.le_iff_toInt_le, Int32.reduceToInt, ← Int32.toInt_inj] at *; omega)))), rfl⟩
            have hf_682 := (hk_677 a_0 (ne_kd hf_666 hf_660 rfl)).trans hf_666
            have fr_683 := FR.w hk_677 hf_660 (k := 2176) rfl
            have wt_684 := wv_upd_ne (k := a_1) (j := 0) eg_681 (by omega) (by decide) (by omega) (by simp only [Int32.reduceToInt]; omega)
            have wt_685 := wv_upd_ne (k := a_1) (j := 2) eg_681 (by omega) (by decide) (by omega) (by simp only [Int32.reduceToInt]; omega)
            have wt_686 := wv_upd_ne (k := a_1) (j := 3) eg_681 (by omega) (by decide) (by omega) (by simp only [Int32.reduceToInt]; omega)
            have wt_687 := wv_upd_eq (k := a_1) (j := 4) eg_681 (by omega) (by decide) (by simp only [Int32.reduceToInt]; omega)
            simp only [Int32.reduceToInt] at wt_687
            refine v_aload_n hC dX12_way_144 rfl ?_
            refine v_ldcS hC sr_X12_235 dX12_way_145 ?_
            refine v_vi hC (rest := []) m_1 hf_682 rfl mi_X12_takes ms_X12_takes (p_X12_takes hW_679 k_0 (by decide)) mx_X12_takes ml_X12_159 (by decide) rfl (cells1 := 0) (slots1 := 0) (by decide) (by decide) (Nat.le_of_ble_eq_true rfl) (Nat.le_of_ble_eq_true rfl) rfl (Nat.le_of_ble_eq_true rfl) dX12_way_147 (fun r_688 L_689 f_690 h_691 => ?_)
            obtain ⟨rfl, hW_696, hF_697, rfl, x_692, x_693, x_694, x_695⟩ := h_691
            have ib_698 := iw_b (f_675 a_0) (f_675 (q 4)) 51
            have ln_699 : ((bytStr.getD 51 []).length : Int) = 5 := by rfl
            have fe_700 : fld (f_675 a_0) 8 = (v_642 : Int32).toInt := by rw [hf_682]; rfl
            have fe_701 : fld (f_675 a_0) 9 = (v_644 : Int32).toInt := by rw [hf_682]; rfl
            have fe_702 : fld (f_675 a_0) 10 = (v_646 : Int32).toInt := by rw [hf_682]; rfl
            have fe_703 : fld (f_675 a_0) 12 = (v_649 : Int32).toInt := by rw [hf_682]; rfl
            rw [fe_700, fe_701, fe_702, fe_703] at ib_698
            have fe_704 : fld (f_675 a_0) 8 = (v_642 : Int32).toInt := by rw [hf_682]; rfl
            have fe_705 : fld (f_675 a_0) 8 = (v_642 : Int32).toInt := by rw [hf_682]; rfl
            have fe_706 : fld (f_675 a_0) 9 = (v_644 : Int32).toInt := by rw [hf_682]; rfl
            have fe_707 : fld (f_675 a_0) 10 = (v_646 : Int32).toInt := by rw [hf_682]; rfl
            have fe_708 : fld (f_675 a_0) 12 = (v_649 : Int32).toInt := by rw [hf_682]; rfl
            have fe_709 : fld (f_675 a_0) 20 = (v_653 : Int32).toInt := by rw [hf_682]; rfl
            have hf_710 := hF_697.at hf_676 rfl
            rw [fe_704] at x_692
            obtain ⟨v_712, v_713, v_715, v_717, v_719, v_721, v_723, v_724, v_725, v_726, v_728, e_711, b_714, b_716, b_718, b_720, b_722, b_727, b_729⟩ := hW_696.at m_1 t_2
            have fe_730 : fld (f_690 a_0) 8 = (v_717 : Int32).toInt := by rw [e_711]; rfl
            have fe_731 : fld (f_690 a_0) 9 = (v_719 : Int32).toInt := by rw [e_711]; rfl
            have fe_732 : fld (f_690 a_0) 10 = (v_721 : Int32).toInt := by rw [e_711]; rfl
            rw [fe_730, fe_731, fe_732] at x_692
            rw [fe_705, fe_706, fe_707] at x_693
            have fe_733 : fld (f_690 a_0) 8 = (v_717 : Int32).toInt := by rw [e_711]; rfl
            have fe_734 : fld (f_690 a_0) 9 = (v_719 : Int32).toInt := by rw [e_711]; rfl
            have fe_735 : fld (f_690 a_0) 10 = (v_721 : Int32).toInt := by rw [e_711]; rfl
            rw [fe_733, fe_734, fe_735] at x_693
            rw [fe_708] at x_694
            have fe_736 : fld (f_690 a_0) 12 = (v_724 : Int32).toInt := by rw [e_711]; rfl
            rw [fe_736] at x_694
            rw [fe_709] at x_695
            have fe_737 : fld (f_690 a_0) 20 = (v_728 : Int32).toInt := by rw [e_711]; rfl
            rw [fe_737] at x_695
            try simp only [Int32.reduceToInt, Int64.reduceToInt] at x_692
            try simp only [Int32.reduceToInt, Int64.reduceToInt] at x_693
            try simp only [Int32.reduceToInt, Int64.reduceToInt] at x_694
            try simp only [Int32.reduceToInt, Int64.reduceToInt] at x_695
            have jn_1014 : ∀ (f_1015 : Nat → va_E) (hW_1016 : WT T L f_1015) (hF_1017 : FR [12, 2176] f_690 f_1015)  (jv_1018 : wvf (f_1015 (q 14)) a_1 0 = 1) (jv_1023 : (¬ fld (f_1015 a_0) 12 = 0 ∨ (1 ≤ wvf (f_1015 (q 14)) a_1 2 ∧ wvf (f_1015 (q 14)) a_1 2 ≤ 9))) (jv_1045 : (¬ fld (f_1015 a_0) 12 = 0 ∨ (1 ≤ wvf (f_1015 (q 14)) a_1 3 ∧ wvf (f_1015 (q 14)) a_1 3 ≤ 5))) (jv_1048 : (¬ fld (f_1015 a_0) 12 = 0 ∨ (1 ≤ wvf (f_1015 (q 14)) a_1 4 ∧ wvf (f_1015 (q 14)) a_1 4 ≤ 5))), V z E 4 0 0 L f_1015 196 [(2, .int v_210), (0, .ref a_0), (1, .int a_1)] [] := by
              intro f_1015 hW_1016 hF_1017 jv_1018 jv_1023 jv_1045 jv_1048
              obtain ⟨g_1020, e_1019, ok_1021⟩ := hW_1016.at m_365 t_366
              have we_1022 : wvf (f_1015 (q 14)) a_1 0 = (wv g_1020 a_1 0).toInt := by rw [e_1019]; rfl
              rw [we_1022] at jv_1018
              obtain ⟨v_1025, v_1026, v_1028, v_1030, v_1032, v_1034, v_1036, v_1037, v_1038, v_1039, v_1041, e_1024, b_1027, b_1029, b_1031, b_1033, b_1035, b_1040, b_1042⟩ := hW_1016.at m_1 t_2
              have fe_1043 : fld (f_1015 a_0) 12 = (v_1037 : Int32).toInt := by rw [e_1024]; rfl
              have we_1044 : wvf (f_1015 (q 14)) a_1 2 = (wv g_1020 a_1 2).toInt := by rw [e_1019]; rfl
              rw [fe_1043, we_1044] at jv_1023
              have fe_1046 : fld (f_1015 a_0) 12 = (v_1037 : Int32).toInt := by rw [e_1024]; rfl
              have we_1047 : wvf (f_1015 (q 14)) a_1 3 = (wv g_1020 a_1 3).toInt := by rw [e_1019]; rfl
              rw [fe_1046, we_1047] at jv_1045
              have fe_1049 : fld (f_1015 a_0) 12 = (v_1037 : Int32).toInt := by rw [e_1024]; rfl
              have we_1050 : wvf (f_1015 (q 14)) a_1 4 = (wv g_1020 a_1 4).toInt := by rw [e_1019]; rfl
              rw [fe_1049, we_1050] at jv_1048
              refine v_aload_n hC dX12_way_196 rfl ?_
              refine v_get hC fl_X12_34 m_1 e_1024 rfl dX12_way_197 ?_
              refine v_iload_n hC dX12_way_200 rfl ?_
              refine v_iconst hC dX12_way_201 (v := 5) (by decide) ?_
              obtain ⟨v_1051, h_1052⟩ : ∃ v9 : Int32, v_210 + 5 = v9 := ⟨_, rfl⟩
              refine v_iadd hC dX12_way_202 h_1052 ?_
              have h_1053 := add_v h_1052 (by first | omega | (simp only [Int32.lt_iff_toInt_lt, Int32.le_iff_toInt_le, Int32.reduceToInt, ← Int32.toInt_inj, true_and, and_true, or_true, true_or, false_or, or_false, false_and, and_false, not_true_eq_false, not_false_eq_true] <;> omega)) (by first | omega | (simp only [Int32.lt_iff_toInt_lt, Int32.le_iff_toInt_le, Int32.reduceToInt, ← Int32.toInt_inj, true_and, and_true, or_true, true_or, false_or, or_false, false_and, and_false, not_true_eq_false, not_false_eq_true] <;> omega))
              try simp only [Int32.reduceToInt] at h_1053
              refine v_aload_n hC dX12_way_203 rfl ?_
              refine v_ldcS hC sr_X12_237 dX12_way_204 ?_
              refine v_vi hC (rest := [.int v_1051, .ref (q 14)]) m_1 e_1024 rfl mi_X12_takes ms_X12_takes (p_X12_takes hW_1016 k_0 (by decide)) mx_X12_takes ml_X12_159 (by decide) rfl (cells1 := 0) (slots1 := 0) (by decide) (by decide) (Nat.le_of_ble_eq_true rfl) (Nat.le_of_ble_eq_true rfl) rfl (Nat.le_of_ble_eq_true rfl) dX12_way_206 (fun r_1054 L_1055 f_1056 h_1057 => ?_)
              obtain ⟨rfl, hW_1062, hF_1063, rfl, x_1058, x_1059, x_1060, x_1061⟩ := h_1057
              have ib_1064 := iw_b (f_1015 a_0) (f_1015 (q 4)) 52
              have ln_1065 : ((bytStr.getD 52 []).length : Int) = 4 := by rfl
              have fe_1066 : fld (f_1015 a_0) 8 = (v_1030 : Int32).toInt := by rw [e_1024]; rfl
              have fe_1067 : fld (f_1015 a_0) 9 = (v_1032 : Int32).toInt := by rw [e_1024]; rfl
              have fe_1068 : fld (f_1015 a_0) 10 = (v_1034 : Int32).toInt := by rw [e_1024]; rfl
              have fe_1069 : fld (f_1015 a_0) 12 = (v_1037 : Int32).toInt := by rw [e_1024]; rfl
              rw [fe_1066, fe_1067, fe_1068, fe_1069] at ib_1064
              have fe_1070 : fld (f_1015 a_0) 8 = (v_1030 : Int32).toInt := by rw [e_1024]; rfl
              have fe_1071 : fld (f_1015 a_0) 8 = (v_1030 : Int32).toInt := by rw [e_1024]; rfl
              have fe_1072 : fld (f_1015 a_0) 9 = (v_1032 : Int32).toInt := by rw [e_1024]; rfl
              have fe_1073 : fld (f_1015 a_0) 10 = (v_1034 : Int32).toInt := by rw [e_1024]; rfl
              have fe_1074 : fld (f_1015 a_0) 12 = (v_1037 : Int32).toInt := by rw [e_1024]; rfl
              have fe_1075 : fld (f_1015 a_0) 20 = (v_1041 : Int32).toInt := by rw [e_1024]; rfl
              have hf_1076 := hF_1063.at e_1019 rfl
              rw [fe_1070] at x_1058
              obtain ⟨v_1078, v_1079, v_1081, v_1083, v_1085, v_1087, v_1089, v_1090, v_1091, v_1092, v_1094, e_1077, b_1080, b_1082, b_1084, b_1086, b_1088, b_1093, b_1095⟩ := hW_1062.at m_1 t_2
              have fe_1096 : fld (f_1056 a_0) 8 = (v_1083 : Int32).toInt := by rw [e_1077]; rfl
              have fe_1097 : fld (f_1056 a_0) 9 = (v_1085 : Int32).toInt := by rw [e_1077]; rfl
              have fe_1098 : fld (f_1056 a_0) 10 = (v_1087 : Int32).toInt := by rw [e_1077]; rfl
              rw [fe_1096, fe_1097, fe_1098] at x_1058
              rw [fe_1071, fe_1072, fe_1073] at x_1059
              have fe_1099 : fld (f_1056 a_0) 8 = (v_1083 : Int32).toInt := by rw [e_1077]; rfl
              have fe_1100 : fld (f_1056 a_0) 9 = (v_1085 : Int32).toInt := by rw [e_1077]; rfl
              have fe_1101 : fld (f_1056 a_0) 10 = (v_1087 : Int32).toInt := by rw [e_1077]; rfl
              rw [fe_1099, fe_1100, fe_1101] at x_1059
              rw [fe_1074] at x_1060
              have fe_1102 : fld (f_1056 a_0) 12 = (v_1090 : Int32).toInt := by rw [e_1077]; rfl
              rw [fe_1102] at x_1060
              rw [fe_1075] at x_1061
              have fe_1103 : fld (f_1056 a_0) 20 = (v_1094 : Int32).toInt := by rw [e_1077]; rfl
              rw [fe_1103] at x_1061
              try simp only [Int32.reduceToInt, Int64.reduceToInt] at x_1058
              try simp only [Int32.reduceToInt, Int64.reduceToInt] at x_1059
              try simp only [Int32.reduceToInt, Int64.reduceToInt] at x_1060
              try simp only [Int32.reduceToInt, Int64.reduceToInt] at x_1061
              have jn_1105 : ∀ (v_1106 : Int32) (b_1107 : (0 ≤ v_1106.toInt ∧ v_1106.toInt ≤ 1)) (jv_1108 : wvf (f_1056 (q 14)) a_1 0 = 1) (jv_1110 : (¬ fld (f_1056 a_0) 12 = 0 ∨ (1 ≤ wvf (f_1056 (q 14)) a_1 2 ∧ wvf (f_1056 (q 14)) a_1 2 ≤ 9))) (jv_1113 : (¬ fld (f_1056 a_0) 12 = 0 ∨ (1 ≤ wvf (f_1056 (q 14)) a_1 3 ∧ wvf (f_1056 (q 14)) a_1 3 ≤ 5))) (jv_1116 : (¬ fld (f_1056 a_0) 12 = 0 ∨ (1 ≤ wvf (f_1056 (q 14)) a_1 4 ∧ wvf (f_1056 (q 14)) a_1 4 ≤ 5))), V z E 4 0 0 L f_1056 217 [(2, .int v_210), (0, .ref a_0), (1, .int a_1)] [.int v_1106, .int v_1051, .ref (q 14)] := by
                intro v_1106 b_1107 jv_1108 jv_1110 jv_1113 jv_1116
                have we_1109 : wvf (f_1056 (q 14)) a_1 0 = (wv g_1020 a_1 0).toInt := by rw [hf_1076]; rfl
                rw [we_1109] at jv_1108
                have fe_1111 : fld (f_1056 a_0) 12 = (v_1090 : Int32).toInt := by rw [e_1077]; rfl
                have we_1112 : wvf (f_1056 (q 14)) a_1 2 = (wv g_1020 a_1 2).toInt := by rw [hf_1076]; rfl
                rw [fe_1111, we_1112] at jv_1110
                have fe_1114 : fld (f_1056 a_0) 12 = (v_1090 : Int32).toInt := by rw [e_1077]; rfl
                have we_1115 : wvf (f_1056 (q 14)) a_1 3 = (wv g_1020 a_1 3).toInt := by rw [hf_1076]; rfl
                rw [fe_1114, we_1115] at jv_1113
                have fe_1117 : fld (f_1056 a_0) 12 = (v_1090 : Int32).toInt := by rw [e_1077]; rfl
                have we_1118 : wvf (f_1056 (q 14)) a_1 4 = (wv g_1020 a_1 4).toInt := by rw [hf_1076]; rfl
                rw [fe_1117, we_1118] at jv_1116
                refine v_iast hC m_365 hf_1076 (vp_in_iff.mpr (by first | omega | (simp only [Int32.lt_iff_toInt_lt, Int32.le_iff_toInt_le, Int32.reduceToInt, ← Int32.toInt_inj, true_and, and_true, or_true, true_or, false_or, or_false, false_and, and_false, not_true_eq_false, not_false_eq_true] <;> omega))) dX12_way_217 (fun f_1119 hf_1120 hk_1121 => ?_)
                have hW_1123 := hW_1062.up hf_1120 hk_1121 t_366 ⟨_, rfl, (ok_1021.up (by first | omega | (simp only [Int32.lt_iff_toInt_lt, Int32.le_iff_toInt_le, Int32.reduceToInt, ← Int32.toInt_inj, true_and, and_true, or_true, true_or, false_or, or_false, false_and, and_false, not_true_eq_false, not_false_eq_true] <;> omega)) (fun q1 q2 => (by first | omega | (simp only [Int32.lt_iff_toInt_lt, Int32.le_iff_toInt_le, Int32.reduceToInt, ← Int32.toInt_inj] at *; omega))) (fun k9 q1 q2 q3 => (by first | omega | (simp only [Int32.lt_iff_toInt_lt, Int32.le_iff_toInt_le, Int32.reduceToInt, ← Int32.toInt_inj] at *; omega))))⟩
                obtain ⟨g_1122, hf_1120, ok_1124, eg_1125⟩ : ∃ g9, f_1119 (q 14) = aI E 2076 g9 ∧ FOK g9 ∧ g9 = upd g_1020 (v_1051 : Int32).toNatClampNeg v_1106 := ⟨_, hf_1120, (ok_1021.up (by first | omega | (simp only [Int32.lt_iff_toInt_lt, Int32.le_iff_toInt_le, Int32.reduceToInt, ← Int32.toInt_inj, true_and, and_true, or_true, true_or, false_or, or_false, false_and, and_false, not_true_eq_false, not_false_eq_true] <;> omega)) (fun q1 q2 => (by first | omega | (simp only [Int32.lt_iff_toInt_lt, Int32.le_iff_toInt_le, Int32.reduceToInt, ← Int32.toInt_inj] at *; omega))) (fun k9 q1 q2 q3 => (by first | omega | (simp only [Int32.lt_iff_toInt_lt, Int32.le_iff_toInt_le, Int32.reduceToInt, ← Int32.toInt_inj] at *; omega)))), rfl⟩
                have hf_1126 := (hk_1121 a_0 (ne_kd e_1077 hf_1076 rfl)).trans e_1077
                have fr_1127 := FR.w hk_1121 hf_1076 (k := 2176) rfl
                have wt_1128 := wv_upd_ne (k := a_1) (j := 0) eg_1125 (by omega) (by decide) (by omega) (by simp only [Int32.reduceToInt]; omega)
                have wt_1129 := wv_upd_ne (k := a_1) (j := 2) eg_1125 (by omega) (by decide) (by omega) (by simp only [Int32.reduceToInt]; omega)
                have wt_1130 := wv_upd_ne (k := a_1) (j := 3) eg_1125 (by omega) (by decide) (by omega) (by simp only [Int32.reduceToInt]; omega)
                have wt_1131 := wv_upd_ne (k := a_1) (j := 4) eg_1125 (by omega) (by decide) (by omega) (by simp only [Int32.reduceToInt]; omega)
                refine v_aload_n hC dX12_way_218 rfl ?_
                refine v_get hC fl_X12_34 m_1 hf_1126 rfl dX12_way_219 ?_
                refine v_iload_n hC dX12_way_222 rfl ?_
                refine v_bipush hC dX12_way_223 (v := 6) (by decide) ?_
                obtain ⟨v_1132, h_1133⟩ : ∃ v9 : Int32, v_210 + 6 = v9 := ⟨_, rfl⟩
                refine v_iadd hC dX12_way_225 h_1133 ?_
                have h_1134 := add_v h_1133 (by first | omega | (simp only [Int32.lt_iff_toInt_lt, Int32.le_iff_toInt_le, Int32.reduceToInt, ← Int32.toInt_inj, true_and, and_true, or_true, true_or, false_or, or_false, false_and, and_false, not_true_eq_false, not_false_eq_true] <;> omega)) (by first | omega | (simp only [Int32.lt_iff_toInt_lt, Int32.le_iff_toInt_le, Int32.reduceToInt, ← Int32.toInt_inj, true_and, and_true, or_true, true_or, false_or, or_false, false_and, and_false, not_true_eq_false, not_false_eq_true] <;> omega))
                try simp only [Int32.reduceToInt] at h_1134
                refine v_aload_n hC dX12_way_226 rfl ?_
                refine v_ldcS hC sr_X12_239 dX12_way_227 ?_
                refine v_vi hC (rest := [.int v_1132, .ref (q 14)]) m_1 hf_1126 rfl mi_X12_takes ms_X12_takes (p_X12_takes hW_1123 k_0 (by decide)) mx_X12_takes ml_X12_159 (by decide) rfl (cells1 := 0) (slots1 := 0) (by decide) (by decide) (Nat.le_of_ble_eq_true rfl) (Nat.le_of_ble_eq_true rfl) rfl (Nat.le_of_ble_eq_true rfl) dX12_way_229 (fun r_1135 L_1136 f_1137 h_1138 => ?_)
                obtain ⟨rfl, hW_1143, hF_1144, rfl, x_1139, x_1140, x_1141, x_1142⟩ := h_1138
                have ib_1145 := iw_b (f_1119 a_0) (f_1119 (q 4)) 53
                have ln_1146 : ((bytStr.getD 53 []).length : Int) = 3 := by rfl
                have fe_1147 : fld (f_1119 a_0) 8 = (v_1083 : Int32).toInt := by rw [hf_1126]; rfl
                have fe_1148 : fld (f_1119 a_0) 9 = (v_1085 : Int32).toInt := by rw [hf_1126]; rfl
                have fe_1149 : fld (f_1119 a_0) 10 = (v_1087 : Int32).toInt := by rw [hf_1126]; rfl
                have fe_1150 : fld (f_1119 a_0) 12 = (v_1090 : Int32).toInt := by rw [hf_1126]; rfl
                rw [fe_1147, fe_1148, fe_1149, fe_1150] at ib_1145
                have fe_1151 : fld (f_1119 a_0) 8 = (v_1083 : Int32).toInt := by rw [hf_1126]; rfl
                have fe_1152 : fld (f_1119 a_0) 8 = (v_1083 : Int32).toInt := by rw [hf_1126]; rfl
                have fe_1153 : fld (f_1119 a_0) 9 = (v_1085 : Int32).toInt := by rw [hf_1126]; rfl
                have fe_1154 : fld (f_1119 a_0) 10 = (v_1087 : Int32).toInt := by rw [hf_1126]; rfl
                have fe_1155 : fld (f_1119 a_0) 12 = (v_1090 : Int32).toInt := by rw [hf_1126]; rfl
                have fe_1156 : fld (f_1119 a_0) 20 = (v_1094 : Int32).toInt := by rw [hf_1126]; rfl
                have hf_1157 := hF_1144.at hf_1120 rfl
                rw [fe_1151] at x_1139
                obtain ⟨v_1159, v_1160, v_1162, v_1164, v_1166, v_1168, v_1170, v_1171, v_1172, v_1173, v_1175, e_1158, b_1161, b_1163, b_1165, b_1167, b_1169, b_1174, b_1176⟩ := hW_1143.at m_1 t_2
                have fe_1177 : fld (f_1137 a_0) 8 = (v_1164 : Int32).toInt := by rw [e_1158]; rfl
                have fe_1178 : fld (f_1137 a_0) 9 = (v_1166 : Int32).toInt := by rw [e_1158]; rfl
                have fe_1179 : fld (f_1137 a_0) 10 = (v_1168 : Int32).toInt := by rw [e_1158]; rfl
                rw [fe_1177, fe_1178, fe_1179] at x_1139
                rw [fe_1152, fe_1153, fe_1154] at x_1140
                have fe_1180 : fld (f_1137 a_0) 8 = (v_1164 : Int32).toInt := by rw [e_1158]; rfl
                have fe_1181 : fld (f_1137 a_0) 9 = (v_1166 : Int32).toInt := by rw [e_1158]; rfl
                have fe_1182 : fld (f_1137 a_0) 10 = (v_1168 : Int32).toInt := by rw [e_1158]; rfl
                rw [fe_1180, fe_1181, fe_1182] at x_1140
                rw [fe_1155] at x_1141
                have fe_1183 : fld (f_1137 a_0) 12 = (v_1171 : Int32).toInt := by rw [e_1158]; rfl
                rw [fe_1183] at x_1141
                rw [fe_1156] at x_1142
                have fe_1184 : fld (f_1137 a_0) 20 = (v_1175 : Int32).toInt := by rw [e_1158]; rfl
                rw [fe_1184] at x_1142
                try simp only [Int32.reduceToInt, Int64.reduceToInt] at x_1139
                try simp only [Int32.reduceToInt, Int64.reduceToInt] at x_1140
                try simp only [Int32.reduceToInt, Int64.reduceToInt] at x_1141
                try simp only [Int32.reduceToInt, Int64.reduceToInt] at x_1142
                have jn_1186 : ∀ (v_1187 : Int32) (b_1188 : (0 ≤ v_1187.toInt ∧ v_1187.toInt ≤ 1)) (jv_1189 : wvf (f_1137 (q 14)) a_1 0 = 1) (jv_1191 : (¬ fld (f_1137 a_0) 12 = 0 ∨ (1 ≤ wvf (f_1137 (q 14)) a_1 2 ∧ wvf (f_1137 (q 14)) a_1 2 ≤ 9))) (jv_1194 : (¬ fld (f_1137 a_0) 12 = 0 ∨ (1 ≤ wvf (f_1137 (q 14)) a_1 3 ∧ wvf (f_1137 (q 14)) a_1 3 ≤ 5))) (jv_1197 : (¬ fld (f_1137 a_0) 12 = 0 ∨ (1 ≤ wvf (f_1137 (q 14)) a_1 4 ∧ wvf (f_1137 (q 14)) a_1 4 ≤ 5))), V z E 4 0 0 L f_1137 240 [(2, .int v_210), (0, .ref a_0), (1, .int a_1)] [.int v_1187, .int v_1132, .ref (q 14)] := by
                  intro v_1187 b_1188 jv_1189 jv_1191 jv_1194 jv_1197
                  have we_1190 : wvf (f_1137 (q 14)) a_1 0 = (wv g_1122 a_1 0).toInt := by rw [hf_1157]; rfl
                  rw [we_1190] at jv_1189
                  have fe_1192 : fld (f_1137 a_0) 12 = (v_1171 : Int32).toInt := by rw [e_1158]; rfl
                  have we_1193 : wvf (f_1137 (q 14)) a_1 2 = (wv g_1122 a_1 2).toInt := by rw [hf_1157]; rfl
                  rw [fe_1192, we_1193] at jv_1191
                  have fe_1195 : fld (f_1137 a_0) 12 = (v_1171 : Int32).toInt := by rw [e_1158]; rfl
                  have we_1196 : wvf (f_1137 (q 14)) a_1 3 = (wv g_1122 a_1 3).toInt := by rw [hf_1157]; rfl
                  rw [fe_1195, we_1196] at jv_1194
                  have fe_1198 : fld (f_1137 a_0) 12 = (v_1171 : Int32).toInt := by rw [e_1158]; rfl
                  have we_1199 : wvf (f_1137 (q 14)) a_1 4 = (wv g_1122 a_1 4).toInt := by rw [hf_1157]; rfl
                  rw [fe_1198, we_1199] at jv_1197
                  refine v_iast hC m_365 hf_1157 (vp_in_iff.mpr (by first | omega | (simp only [Int32.lt_iff_toInt_lt, Int32.le_iff_toInt_le, Int32.reduceToInt, ← Int32.toInt_inj, true_and, and_true, or_true, true_or, false_or, or_false, false_and, and_false, not_true_eq_false, not_false_eq_true] <;> omega))) dX12_way_240 (fun f_1200 hf_1201 hk_1202 => ?_)
                  have hW_1204 := hW_1143.up hf_1201 hk_1202 t_366 ⟨_, rfl, (ok_1124.up (by first | omega | (simp only [Int32.lt_iff_toInt_lt, Int32.le_iff_toInt_le, Int32.reduceToInt, ← Int32.toInt_inj, true_and, and_true, or_true, true_or, false_or, or_false, false_and, and_false, not_true_eq_false, not_false_eq_true] <;> omega)) (fun q1 q2 => (by first | omega | (simp only [Int32.lt_iff_toInt_lt, Int32.le_iff_toInt_le, Int32.reduceToInt, ← Int32.toInt_inj] at *; omega))) (fun k9 q1 q2 q3 => (by first | omega | (simp only [Int32.lt_iff_toInt_lt, Int32.le_iff_toInt_le, Int32.reduceToInt, ← Int32.toInt_inj] at *; omega))))⟩
                  obtain ⟨g_1203, hf_1201, ok_1205, eg_1206⟩ : ∃ g9, f_1200 (q 14) = aI E 2076 g9 ∧ FOK g9 ∧ g9 = upd g_1122 (v_1132 : Int32).toNatClampNeg v_1187 := ⟨_, hf_1201, (ok_1124.up (by first | omega | (simp only [Int32.lt_iff_toInt_lt, Int32.le_iff_toInt_le, Int32.reduceToInt, ← Int32.toInt_inj, true_and, and_true, or_true, true_or, false_or, or_false, false_and, and_false, not_true_eq_false, not_false_eq_true] <;> omega)) (fun q1 q2 => (by first | omega | (simp only [Int32.lt_iff_toInt_lt, Int32.le_iff_toInt_le, Int32.reduceToInt, ← Int32.toInt_inj] at *; omega))) (fun k9 q1 q2 q3 => (by first | omega | (simp only [Int32.lt_iff_toInt_lt, Int32.le_iff_toInt_le, Int32.reduceToInt, ← Int32.toInt_inj] at *; omega)))), rfl⟩
                  have hf_1207 := (hk_1202 a_0 (ne_kd e_1158 hf_1157 rfl)).trans e_1158
                  have fr_1208 := FR.w hk_1202 hf_1157 (k := 2176) rfl
                  have wt_1209 := wv_upd_ne (k := a_1) (j := 0) eg_1206 (by omega) (by decide) (by omega) (by simp only [Int32.reduceToInt]; omega)
                  have wt_1210 := wv_upd_ne (k := a_1) (j := 2) eg_1206 (by omega) (by decide) (by omega) (by simp only [Int32.reduceToInt]; omega)
                  have wt_1211 := wv_upd_ne (k := a_1) (j := 3) eg_1206 (by omega) (by decide) (by omega) (by simp only [Int32.reduceToInt]; omega)
                  have wt_1212 := wv_upd_ne (k := a_1) (j := 4) eg_1206 (by omega) (by decide) (by omega) (by simp only [Int32.reduceToInt]; omega)
                  refine v_aload_n hC dX12_way_241 rfl ?_
                  refine v_vv hC (rest := []) m_1 hf_1207 rfl mi_X12_ends ms_X12_ends (p_X12_ends hW_1204 k_0) mx_X12_ends ml_X12_178 (by decide) rfl (cells1 := 0) (slots1 := 0) (by decide) (by decide) (Nat.le_of_ble_eq_true rfl) (Nat.le_of_ble_eq_true rfl) rfl (Nat.le_of_ble_eq_true rfl) dX12_way_242 (fun L_1214 f_1215 h_1216 => ?_)
                  obtain ⟨rfl, hW_1219, hF_1220, x_1217, x_1218⟩ := h_1216
                  have fe_1221 : fld (f_1200 a_0) 8 = (v_1164 : Int32).toInt := by rw [hf_1207]; rfl
                  have fe_1222 : fld (f_1200 a_0) 10 = (v_1168 : Int32).toInt := by rw [hf_1207]; rfl
                  have fe_1223 : fld (f_1200 a_0) 12 = (v_1171 : Int32).toInt := by rw [hf_1207]; rfl
                  have fe_1224 : fld (f_1200 a_0) 20 = (v_1175 : Int32).toInt := by rw [hf_1207]; rfl
                  have hf_1225 := hF_1220.at hf_1201 rfl
                  rw [fe_1221, fe_1222, fe_1223] at x_1217
                  obtain ⟨v_1227, v_1228, v_1230, v_1232, v_1234, v_1236, v_1238, v_1239, v_1240, v_1241, v_1243, e_1226, b_1229, b_1231, b_1233, b_1235, b_1237, b_1242, b_1244⟩ := hW_1219.at m_1 t_2
                  have fe_1245 : fld (f_1215 a_0) 8 = (v_1232 : Int32).toInt := by rw [e_1226]; rfl
                  have fe_1246 : fld (f_1215 a_0) 9 = (v_1234 : Int32).toInt := by rw [e_1226]; rfl
                  have fe_1247 : fld (f_1215 a_0) 10 = (v_1236 : Int32).toInt := by rw [e_1226]; rfl
                  have fe_1248 : fld (f_1215 a_0) 12 = (v_1239 : Int32).toInt := by rw [e_1226]; rfl
                  rw [fe_1245, fe_1246, fe_1247, fe_1248] at x_1217
                  rw [fe_1224] at x_1218
                  have fe_1249 : fld (f_1215 a_0) 20 = (v_1243 : Int32).toInt := by rw [e_1226]; rfl
                  rw [fe_1249] at x_1218
                  refine v_aload_n hC dX12_way_245 rfl ?_
                  refine v_vv hC (rest := []) m_1 e_1226 rfl mi_X12_endsAll ms_X12_endsAll (p_X12_endsAll hW_1219 k_0) mx_X12_endsAll ml_X12_218 (by decide) rfl (cells1 := 0) (slots1 := 0) (by decide) (by decide) (Nat.le_of_ble_eq_true rfl) (Nat.le_of_ble_eq_true rfl) rfl (Nat.le_of_ble_eq_true rfl) dX12_way_246 (fun L_1251 f_1252 h_1253 => ?_)
                  obtain ⟨rfl, hW_1256, hF_1257, x_1254, x_1255⟩ := h_1253
                  have fe_1258 : fld (f_1215 a_0) 12 = (v_1239 : Int32).toInt := by rw [e_1226]; rfl
                  have fe_1259 : fld (f_1215 a_0) 20 = (v_1243 : Int32).toInt := by rw [e_1226]; rfl
                  have hf_1260 := hF_1257.at hf_1225 rfl
                  rw [fe_1258] at x_1254
                  obtain ⟨v_1262, v_1263, v_1265, v_1267, v_1269, v_1271, v_1273, v_1274, v_1275, v_1276, v_1278, e_1261, b_1264, b_1266, b_1268, b_1270, b_1272, b_1277, b_1279⟩ := hW_1256.at m_1 t_2
                  have fe_1280 : fld (f_1252 a_0) 12 = (v_1274 : Int32).toInt := by rw [e_1261]; rfl
                  rw [fe_1280] at x_1254
                  rw [fe_1259] at x_1255
                  have fe_1281 : fld (f_1252 a_0) 20 = (v_1278 : Int32).toInt := by rw [e_1261]; rfl
                  rw [fe_1281] at x_1255
                  refine v_aload_n hC dX12_way_249 rfl ?_
                  refine v_vi hC (rest := []) m_1 e_1261 rfl mi_X12_good ms_X12_good (p_X12_good hW_1256 k_0) mx_X12_good ml_X12_139 (by decide) rfl (cells1 := 0) (slots1 := 0) (by decide) (by decide) (Nat.le_of_ble_eq_true rfl) (Nat.le_of_ble_eq_true rfl) rfl (Nat.le_of_ble_eq_true rfl) dX12_way_250 (fun r_1282 L_1283 f_1284 h_1285 => ?_)
                  obtain ⟨rfl, rfl, b_1286, x_1287⟩ := h_1285
                  have fe_1290 : fld (f_1252 a_0) 12 = (v_1274 : Int32).toInt := by rw [e_1261]; rfl
                  rw [fe_1290] at x_1287
                  try simp only [Int32.reduceToInt, Int64.reduceToInt] at x_1287
                  refine v_if_ne hC dX12_way_253 (tgt := 259) (by decide) (fun h_1291 => ?_) (fun h_1291 => ?_)
                  · simp only [Int32.lt_iff_toInt_lt, Int32.le_iff_toInt_le, Int32.reduceToInt, ← Int32.toInt_inj] at h_1291
                    refine v_aload_n hC dX12_way_259 rfl ?_
                    refine v_iload_n hC dX12_way_260 rfl ?_
                    refine v_iload_n hC dX12_way_261 rfl ?_
                    refine v_bipush hC dX12_way_262 (v := 7) (by decide) ?_
                    obtain ⟨v_1292, h_1293⟩ : ∃ v9 : Int32, v_210 + 7 = v9 := ⟨_, rfl⟩
                    refine v_iadd hC dX12_way_264 h_1293 ?_
                    have h_1294 := add_v h_1293 (by first | omega | (simp only [Int32.lt_iff_toInt_lt, Int32.le_iff_toInt_le, Int32.reduceToInt, ← Int32.toInt_inj, true_and, and_true, or_true, true_or, false_or, or_false, false_and, and_false, not_true_eq_false, not_false_eq_true] <;> omega)) (by first | omega | (simp only [Int32.lt_iff_toInt_lt, Int32.le_iff_toInt_le, Int32.reduceToInt, ← Int32.toInt_inj, true_and, and_true, or_true, true_or, false_or, or_false, false_and, and_false, not_true_eq_false, not_false_eq_true] <;> omega))
                    try simp only [Int32.reduceToInt] at h_1294
                    obtain ⟨g_1296, e_1295, ok_1297⟩ := hW_1256.at m_213 t_214
                    have b_1298 := ok_1297.r0
                    have b_1299 := ok_1297.w0
                    have wr_1300 : wvr g_1203 a_1 := ⟨by omega, by omega, by omega, by omega⟩
                    refine v_vv hC (rest := []) m_1 e_1261 rfl mi_X12_keeps ms_X12_keeps (p_X12_keeps k_0 e_1261 e_1295 hf_1260 (by omega)) mx_X12_keeps ml_X12_197 (by decide) rfl (cells1 := 0) (slots1 := 0) (by decide) (by decide) (Nat.le_of_ble_eq_true rfl) (Nat.le_of_ble_eq_true rfl) rfl (Nat.le_of_ble_eq_true rfl) dX12_way_265 (fun L_1302 f_1303 h_1304 => ?_)
                    obtain ⟨rfl, hf_1305, hk_1306⟩ := h_1304
                    have hf_1307 := (hk_1306 (q 14) nq_21.symm).trans hf_1260
                    have hf_1308 := (hk_1306 a_0 (ne_kd e_1261 e_1295 rfl)).trans e_1261
                    obtain ⟨g_1311, e_1312, ok_1310, eg_1313⟩ : ∃ g9, f_1303 (q 1) = aI E 2076 g9 ∧ WOK g9 ∧ g9 = (va_cpy g_1203 g_1296 (v_210 : Int32).toNatClampNeg (v_210 : Int32).toNatClampNeg ((v_1292 : Int32).toNatClampNeg - (v_210 : Int32).toNatClampNeg)) := ⟨_, hf_1305, (ok_1297.wayc (k := a_1) (by omega) wr_1300 (by rw [clamp_t]; omega) (by rw [clamp_t, clamp_t]; omega)), rfl⟩
                    have hW_1309 := hW_1256.up e_1312 hk_1306 t_214 ⟨_, rfl, ok_1310⟩
                    have fr_1314 := FR.w hk_1306 e_1295 (k := 2176) rfl
                    have b_1315 := ok_1310.r0
                    have b_1316 := ok_1310.w0
                    have wc_1317 : wv g_1311 a_1 0 = wv g_1203 a_1 0 := by rw [eg_1313]; exact wv_cpy (by omega) (by decide) (by rw [clamp_t]; omega) (by rw [clamp_t, clamp_t]; omega)
                    have wc_1317_t := congrArg Int32.toInt wc_1317
                    refine v_aload_n hC dX12_way_268 rfl ?_
                    refine v_iload_n hC dX12_way_269 rfl ?_
                    refine v_vi hC (rest := []) m_1 hf_1308 rfl mi_X12_roomOf ms_X12_roomOf (p_X12_roomOf hW_1309 k_0 (by first | omega | (simp only [Int32.lt_iff_toInt_lt, Int32.le_iff_toInt_le, Int32.reduceToInt, ← Int32.toInt_inj, true_and, and_true, or_true, true_or, false_or, or_false, false_and, and_false, not_true_eq_false, not_false_eq_true] <;> omega)) e_1312 ok_1310 (by first | omega | (simp only [Int32.lt_iff_toInt_lt, Int32.le_iff_toInt_le, Int32.reduceToInt, ← Int32.toInt_inj, true_and, and_true, or_true, true_or, false_or, or_false, false_and, and_false, not_true_eq_false, not_false_eq_true] <;> omega))) mx_X12_roomOf ml_X12_241 (by decide) rfl (cells1 := 0) (slots1 := 0) (by decide) (by decide) (Nat.le_of_ble_eq_true rfl) (Nat.le_of_ble_eq_true rfl) rfl (Nat.le_of_ble_eq_true rfl) dX12_way_270 (fun r_1318 L_1319 f_1320 h_1321 => ?_)
                    obtain ⟨rfl, hW_1326, hF_1327, b_1322, x_1323, x_1324, x_1325⟩ := h_1321
                    have fe_1328 : fld (f_1303 a_0) 20 = (v_1278 : Int32).toInt := by rw [hf_1308]; rfl
                    have hf_1329 := hF_1327.at hf_1307 rfl
                    have hf_1330 := hF_1327.at e_1312 rfl
                    rw [fe_1328] at x_1325
                    obtain ⟨v_1332, v_1333, v_1335, v_1337, v_1339, v_1341, v_1343, v_1344, v_1345, v_1346, v_1348, e_1331, b_1334, b_1336, b_1338, b_1340, b_1342, b_1347, b_1349⟩ := hW_1326.at m_1 t_2
                    have fe_1350 : fld (f_1320 a_0) 20 = (v_1348 : Int32).toInt := by rw [e_1331]; rfl
                    rw [fe_1350] at x_1325
                    try simp only [Int32.reduceToInt, Int64.reduceToInt] at x_1323
                    try simp only [Int32.reduceToInt, Int64.reduceToInt] at x_1324
                    try simp only [Int32.reduceToInt, Int64.reduceToInt] at x_1325
                    exact hR _ _ _ _ _ _ _ dX12_way_273 rfl (Nat.le_of_ble_eq_true rfl) (Nat.le_of_ble_eq_true rfl) ⟨rfl, hW_1326, (((((((((((((((((((((((((hF_58.tr hF_91).tr hF_129).tr hF_172).tr hF_270).tr hF_344).tr fr_378).tr fr_394).tr hF_411).tr hF_496).tr fr_529).tr hF_546).tr hF_631).tr fr_667).tr fr_683).tr hF_697).tr hF_1017).tr hF_1063).tr fr_1127).tr hF_1144).tr fr_1208).tr hF_1220).tr hF_1257).tr fr_1314).tr hF_1327).mono rfl), (by first | omega | (simp only [Int32.lt_iff_toInt_lt, Int32.le_iff_toInt_le, Int32.reduceToInt, ← Int32.toInt_inj, true_and, and_true, or_true, true_or, false_or, or_false, false_and, and_false, not_true_eq_false, not_false_eq_true] <;> omega)), (.inr (by first | omega | (simp only [Int32.lt_iff_toInt_lt, Int32.le_iff_toInt_le, Int32.reduceToInt, ← Int32.toInt_inj, true_and, and_true, or_true, true_or, false_or, or_false, false_and, and_false, not_true_eq_false, not_false_eq_true] <;> omega)))⟩
                  · simp only [Int32.lt_iff_toInt_lt, Int32.le_iff_toInt_le, Int32.reduceToInt, ← Int32.toInt_inj] at h_1291
                    refine v_bipush hC dX12_way_256 (v := (-4)) (by decide) ?_
                    exact hR _ _ _ _ _ _ _ dX12_way_258 rfl (Nat.le_of_ble_eq_true rfl) (Nat.le_of_ble_eq_true rfl) ⟨rfl, hW_1256, (((((((((((((((((((((((hF_58.tr hF_91).tr hF_129).tr hF_172).tr hF_270).tr hF_344).tr fr_378).tr fr_394).tr hF_411).tr hF_496).tr fr_529).tr hF_546).tr hF_631).tr fr_667).tr fr_683).tr hF_697).tr hF_1017).tr hF_1063).tr fr_1127).tr hF_1144).tr fr_1208).tr hF_1220).tr hF_1257).mono rfl), (by decide), (.inl (by decide))⟩
                refine v_if_eq hC dX12_way_232 (tgt := 239) (by decide) (fun h_1185 => ?_) (fun h_1185 => ?_)
                · simp only [Int32.lt_iff_toInt_lt, Int32.le_iff_toInt_le, Int32.reduceToInt, ← Int32.toInt_inj] at h_1185
                  refine v_iconst hC dX12_way_239 (v := 0) (by decide) ?_
                  refine v_pick [0, 1, 2] rfl ?_
                  have we_1351 : wvf (f_1137 (q 14)) a_1 0 = (wv g_1122 a_1 0).toInt := by rw [hf_1157]; rfl
                  have fe_1352 : fld (f_1137 a_0) 12 = (v_1171 : Int32).toInt := by rw [e_1158]; rfl
                  have we_1353 : wvf (f_1137 (q 14)) a_1 2 = (wv g_1122 a_1 2).toInt := by rw [hf_1157]; rfl
                  have fe_1354 : fld (f_1137 a_0) 12 = (v_1171 : Int32).toInt := by rw [e_1158]; rfl
                  have we_1355 : wvf (f_1137 (q 14)) a_1 3 = (wv g_1122 a_1 3).toInt := by rw [hf_1157]; rfl
                  have fe_1356 : fld (f_1137 a_0) 12 = (v_1171 : Int32).toInt := by rw [e_1158]; rfl
                  have we_1357 : wvf (f_1137 (q 14)) a_1 4 = (wv g_1122 a_1 4).toInt := by rw [hf_1157]; rfl
                  exact jn_1186 0 (by decide) (by rw [we_1351] <;> first | omega | (simp only [Int32.lt_iff_toInt_lt, Int32.le_iff_toInt_le, Int32.reduceToInt, ← Int32.toInt_inj, true_and, and_true, or_true, true_or, false_or, or_false, false_and, and_false, not_true_eq_false, not_false_eq_true] <;> omega)) (by rw [fe_1352, we_1353] <;> first | omega | (simp only [Int32.lt_iff_toInt_lt, Int32.le_iff_toInt_le, Int32.reduceToInt, ← Int32.toInt_inj, true_and, and_true, or_true, true_or, false_or, or_false, false_and, and_false, not_true_eq_false, not_false_eq_true] <;> omega)) (by rw [fe_1354, we_1355] <;> first | omega | (simp only [Int32.lt_iff_toInt_lt, Int32.le_iff_toInt_le, Int32.reduceToInt, ← Int32.toInt_inj, true_and, and_true, or_true, true_or, false_or, or_false, false_and, and_false, not_true_eq_false, not_false_eq_true] <;> omega)) (by rw [fe_1356, we_1357] <;> first | omega | (simp only [Int32.lt_iff_toInt_lt, Int32.le_iff_toInt_le, Int32.reduceToInt, ← Int32.toInt_inj, true_and, and_true, or_true, true_or, false_or, or_false, false_and, and_false, not_true_eq_false, not_false_eq_true] <;> omega))
                · simp only [Int32.lt_iff_toInt_lt, Int32.le_iff_toInt_le, Int32.reduceToInt, ← Int32.toInt_inj] at h_1185
                  refine v_iconst hC dX12_way_235 (v := 1) (by decide) ?_
                  refine v_goto hC dX12_way_236 (tgt := 240) (by decide) ?_
                  refine v_pick [0, 1, 2] rfl ?_
                  have we_1358 : wvf (f_1137 (q 14)) a_1 0 = (wv g_1122 a_1 0).toInt := by rw [hf_1157]; rfl
                  have fe_1359 : fld (f_1137 a_0) 12 = (v_1171 : Int32).toInt := by rw [e_1158]; rfl
                  have we_1360 : wvf (f_1137 (q 14)) a_1 2 = (wv g_1122 a_1 2).toInt := by rw [hf_1157]; rfl
                  have fe_1361 : fld (f_1137 a_0) 12 = (v_1171 : Int32).toInt := by rw [e_1158]; rfl
                  have we_1362 : wvf (f_1137 (q 14)) a_1 3 = (wv g_1122 a_1 3).toInt := by rw [hf_1157]; rfl
                  have fe_1363 : fld (f_1137 a_0) 12 = (v_1171 : Int32).toInt := by rw [e_1158]; rfl
                  have we_1364 : wvf (f_1137 (q 14)) a_1 4 = (wv g_1122 a_1 4).toInt := by rw [hf_1157]; rfl
                  exact jn_1186 1 (by decide) (by rw [we_1358] <;> first | omega | (simp only [Int32.lt_iff_toInt_lt, Int32.le_iff_toInt_le, Int32.reduceToInt, ← Int32.toInt_inj, true_and, and_true, or_true, true_or, false_or, or_false, false_and, and_false, not_true_eq_false, not_false_eq_true] <;> omega)) (by rw [fe_1359, we_1360] <;> first | omega | (simp only [Int32.lt_iff_toInt_lt, Int32.le_iff_toInt_le, Int32.reduceToInt, ← Int32.toInt_inj, true_and, and_true, or_true, true_or, false_or, or_false, false_and, and_false, not_true_eq_false, not_false_eq_true] <;> omega)) (by rw [fe_1361, we_1362] <;> first | omega | (simp only [Int32.lt_iff_toInt_lt, Int32.le_iff_toInt_le, Int32.reduceToInt, ← Int32.toInt_inj, true_and, and_true, or_true, true_or, false_or, or_false, false_and, and_false, not_true_eq_false, not_false_eq_true] <;> omega)) (by rw [fe_1363, we_1364] <;> first | omega | (simp only [Int32.lt_iff_toInt_lt, Int32.le_iff_toInt_le, Int32.reduceToInt, ← Int32.toInt_inj, true_and, and_true, or_true, true_or, false_or, or_false, false_and, and_false, not_true_eq_false, not_false_eq_true] <;> omega))
              refine v_if_eq hC dX12_way_209 (tgt := 216) (by decide) (fun h_1104 => ?_) (fun h_1104 => ?_)
              · simp only [Int32.lt_iff_toInt_lt, Int32.le_iff_toInt_le, Int32.reduceToInt, ← Int32.toInt_inj] at h_1104
                refine v_iconst hC dX12_way_216 (v := 0) (by decide) ?_
                refine v_pick [0, 1, 2] rfl ?_
                have we_1365 : wvf (f_1056 (q 14)) a_1 0 = (wv g_1020 a_1 0).toInt := by rw [hf_1076]; rfl
                have fe_1366 : fld (f_1056 a_0) 12 = (v_1090 : Int32).toInt := by rw [e_1077]; rfl
                have we_1367 : wvf (f_1056 (q 14)) a_1 2 = (wv g_1020 a_1 2).toInt := by rw [hf_1076]; rfl
                have fe_1368 : fld (f_1056 a_0) 12 = (v_1090 : Int32).toInt := by rw [e_1077]; rfl
                have we_1369 : wvf (f_1056 (q 14)) a_1 3 = (wv g_1020 a_1 3).toInt := by rw [hf_1076]; rfl
                have fe_1370 : fld (f_1056 a_0) 12 = (v_1090 : Int32).toInt := by rw [e_1077]; rfl
                have we_1371 : wvf (f_1056 (q 14)) a_1 4 = (wv g_1020 a_1 4).toInt := by rw [hf_1076]; rfl
                exact jn_1105 0 (by decide) (by rw [we_1365] <;> first | omega | (simp only [Int32.lt_iff_toInt_lt, Int32.le_iff_toInt_le, Int32.reduceToInt, ← Int32.toInt_inj, true_and, and_true, or_true, true_or, false_or, or_false, false_and, and_false, not_true_eq_false, not_false_eq_true] <;> omega)) (by rw [fe_1366, we_1367] <;> first | omega | (simp only [Int32.lt_iff_toInt_lt, Int32.le_iff_toInt_le, Int32.reduceToInt, ← Int32.toInt_inj, true_and, and_true, or_true, true_or, false_or, or_false, false_and, and_false, not_true_eq_false, not_false_eq_true] <;> omega)) (by rw [fe_1368, we_1369] <;> first | omega | (simp only [Int32.lt_iff_toInt_lt, Int32.le_iff_toInt_le, Int32.reduceToInt, ← Int32.toInt_inj, true_and, and_true, or_true, true_or, false_or, or_false, false_and, and_false, not_true_eq_false, not_false_eq_true] <;> omega)) (by rw [fe_1370, we_1371] <;> first | omega | (simp only [Int32.lt_iff_toInt_lt, Int32.le_iff_toInt_le, Int32.reduceToInt, ← Int32.toInt_inj, true_and, and_true, or_true, true_or, false_or, or_false, false_and, and_false, not_true_eq_false, not_false_eq_true] <;> omega))
              · simp only [Int32.lt_iff_toInt_lt, Int32.le_iff_toInt_le, Int32.reduceToInt, ← Int32.toInt_inj] at h_1104
                refine v_iconst hC dX12_way_212 (v := 1) (by decide) ?_
                refine v_goto hC dX12_way_213 (tgt := 217) (by decide) ?_
                refine v_pick [0, 1, 2] rfl ?_
                have we_1372 : wvf (f_1056 (q 14)) a_1 0 = (wv g_1020 a_1 0).toInt := by rw [hf_1076]; rfl
                have fe_1373 : fld (f_1056 a_0) 12 = (v_1090 : Int32).toInt := by rw [e_1077]; rfl
                have we_1374 : wvf (f_1056 (q 14)) a_1 2 = (wv g_1020 a_1 2).toInt := by rw [hf_1076]; rfl
                have fe_1375 : fld (f_1056 a_0) 12 = (v_1090 : Int32).toInt := by rw [e_1077]; rfl
                have we_1376 : wvf (f_1056 (q 14)) a_1 3 = (wv g_1020 a_1 3).toInt := by rw [hf_1076]; rfl
                have fe_1377 : fld (f_1056 a_0) 12 = (v_1090 : Int32).toInt := by rw [e_1077]; rfl
                have we_1378 : wvf (f_1056 (q 14)) a_1 4 = (wv g_1020 a_1 4).toInt := by rw [hf_1076]; rfl
                exact jn_1105 1 (by decide) (by rw [we_1372] <;> first | omega | (simp only [Int32.lt_iff_toInt_lt, Int32.le_iff_toInt_le, Int32.reduceToInt, ← Int32.toInt_inj, true_and, and_true, or_true, true_or, false_or, or_false, false_and, and_false, not_true_eq_false, not_false_eq_true] <;> omega)) (by rw [fe_1373, we_1374] <;> first | omega | (simp only [Int32.lt_iff_toInt_lt, Int32.le_iff_toInt_le, Int32.reduceToInt, ← Int32.toInt_inj, true_and, and_true, or_true, true_or, false_or, or_false, false_and, and_false, not_true_eq_false, not_false_eq_true] <;> omega)) (by rw [fe_1375, we_1376] <;> first | omega | (simp only [Int32.lt_iff_toInt_lt, Int32.le_iff_toInt_le, Int32.reduceToInt, ← Int32.toInt_inj, true_and, and_true, or_true, true_or, false_or, or_false, false_and, and_false, not_true_eq_false, not_false_eq_true] <;> omega)) (by rw [fe_1377, we_1378] <;> first | omega | (simp only [Int32.lt_iff_toInt_lt, Int32.le_iff_toInt_le, Int32.reduceToInt, ← Int32.toInt_inj, true_and, and_true, or_true, true_or, false_or, or_false, false_and, and_false, not_true_eq_false, not_false_eq_true] <;> omega))
            refine v_if_eq hC dX12_way_150 (tgt := 196) (by decide) (fun h_738 => ?_) (fun h_738 => ?_)
            · simp only [Int32.lt_iff_toInt_lt, Int32.le_iff_toInt_le, Int32.reduceToInt, ← Int32.toInt_inj] at h_738
              refine v_pick [0, 1, 2] rfl ?_
              have we_1379 : wvf (f_690 (q 14)) a_1 0 = (wv g_678 a_1 0).toInt := by rw [hf_710]; rfl
              have fe_1380 : fld (f_690 a_0) 12 = (v_724 : Int32).toInt := by rw [e_711]; rfl
              have we_1381 : wvf (f_690 (q 14)) a_1 2 = (wv g_678 a_1 2).toInt := by rw [hf_710]; rfl
              have fe_1382 : fld (f_690 a_0) 12 = (v_724 : Int32).toInt := by rw [e_711]; rfl
              have we_1383 : wvf (f_690 (q 14)) a_1 3 = (wv g_678 a_1 3).toInt := by rw [hf_710]; rfl
              have fe_1384 : fld (f_690 a_0) 12 = (v_724 : Int32).toInt := by rw [e_711]; rfl
              have we_1385 : wvf (f_690 (q 14)) a_1 4 = (wv g_678 a_1 4).toInt := by rw [hf_710]; rfl
              exact jn_1014 f_690 hW_696 FR.rf (by rw [we_1379] <;> first | omega | (simp only [Int32.lt_iff_toInt_lt, Int32.le_iff_toInt_le, Int32.reduceToInt, ← Int32.toInt_inj, true_and, and_true, or_true, true_or, false_or, or_false, false_and, and_false, not_true_eq_false, not_false_eq_true] <;> omega)) (by rw [fe_1380, we_1381] <;> first | omega | (simp only [Int32.lt_iff_toInt_lt, Int32.le_iff_toInt_le, Int32.reduceToInt, ← Int32.toInt_inj, true_and, and_true, or_true, true_or, false_or, or_false, false_and, and_false, not_true_eq_false, not_false_eq_true] <;> omega)) (by rw [fe_1382, we_1383] <;> first | omega | (simp only [Int32.lt_iff_toInt_lt, Int32.le_iff_toInt_le, Int32.reduceToInt, ← Int32.toInt_inj, true_and, and_true, or_true, true_or, false_or, or_false, false_and, and_false, not_true_eq_false, not_false_eq_true] <;> omega)) (by rw [fe_1384, we_1385] <;> first | omega | (simp only [Int32.lt_iff_toInt_lt, Int32.le_iff_toInt_le, Int32.reduceToInt, ← Int32.toInt_inj, true_and, and_true, or_true, true_or, false_or, or_false, false_and, and_false, not_true_eq_false, not_false_eq_true] <;> omega))
            · simp only [Int32.lt_iff_toInt_lt, Int32.le_iff_toInt_le, Int32.reduceToInt, ← Int32.toInt_inj] at h_738
              refine v_aload_n hC dX12_way_153 rfl ?_
              refine v_vi hC (rest := []) m_1 e_711 rfl mi_X12_good ms_X12_good (p_X12_good hW_696 k_0) mx_X12_good ml_X12_139 (by decide) rfl (cells1 := 0) (slots1 := 0) (by decide) (by decide) (Nat.le_of_ble_eq_true rfl) (Nat.le_of_ble_eq_true rfl) rfl (Nat.le_of_ble_eq_true rfl) dX12_way_154 (fun r_1386 L_1387 f_1388 h_1389 => ?_)
              obtain ⟨rfl, rfl, b_1390, x_1391⟩ := h_1389
              have fe_1394 : fld (f_690 a_0) 12 = (v_724 : Int32).toInt := by rw [e_711]; rfl
              rw [fe_1394] at x_1391
              try simp only [Int32.reduceToInt, Int64.reduceToInt] at x_1391
              refine v_if_eq hC dX12_way_157 (tgt := 182) (by decide) (fun h_1395 => ?_) (fun h_1395 => ?_)
              · simp only [Int32.lt_iff_toInt_lt, Int32.le_iff_toInt_le, Int32.reduceToInt, ← Int32.toInt_inj] at h_1395
                refine v_aload_n hC dX12_way_182 rfl ?_
                refine v_get hC fl_X12_34 m_1 e_711 rfl dX12_way_183 ?_
                refine v_iload_n hC dX12_way_186 rfl ?_
                refine v_iconst hC dX12_way_187 (v := 4) (by decide) ?_
                obtain ⟨v_1396, h_1397⟩ : ∃ v9 : Int32, v_210 + 4 = v9 := ⟨_, rfl⟩
                refine v_iadd hC dX12_way_188 h_1397 ?_
                have h_1398 := add_v h_1397 (by first | omega | (simp only [Int32.lt_iff_toInt_lt, Int32.le_iff_toInt_le, Int32.reduceToInt, ← Int32.toInt_inj, true_and, and_true, or_true, true_or, false_or, or_false, false_and, and_false, not_true_eq_false, not_false_eq_true] <;> omega)) (by first | omega | (simp only [Int32.lt_iff_toInt_lt, Int32.le_iff_toInt_le, Int32.reduceToInt, ← Int32.toInt_inj, true_and, and_true, or_true, true_or, false_or, or_false, false_and, and_false, not_true_eq_false, not_false_eq_true] <;> omega))
                try simp only [Int32.reduceToInt] at h_1398
                refine v_aload_n hC dX12_way_189 rfl ?_
                refine v_iconst hC dX12_way_190 (v := 1) (by decide) ?_
                refine v_iconst hC dX12_way_191 (v := 5) (by decide) ?_
                refine v_vi hC (rest := [.int v_1396, .ref (q 14)]) m_1 e_711 rfl mi_X12_number ms_X12_number (p_X12_number hW_696 k_0) mx_X12_number ml_X12_170 (by decide) rfl (cells1 := 0) (slots1 := 0) (by decide) (by decide) (Nat.le_of_ble_eq_true rfl) (Nat.le_of_ble_eq_true rfl) rfl (Nat.le_of_ble_eq_true rfl) dX12_way_192 (fun r_1399 L_1400 f_1401 h_1402 => ?_)
                obtain ⟨rfl, hW_1406, hF_1407, x_1403, x_1404, x_1405⟩ := h_1402
                have fe_1408 : fld (f_690 a_0) 8 = (v_717 : Int32).toInt := by rw [e_711]; rfl
                have fe_1409 : fld (f_690 a_0) 10 = (v_721 : Int32).toInt := by rw [e_711]; rfl
                have fe_1410 : fld (f_690 a_0) 12 = (v_724 : Int32).toInt := by rw [e_711]; rfl
                have fe_1411 : fld (f_690 a_0) 20 = (v_728 : Int32).toInt := by rw [e_711]; rfl
                have hf_1412 := hF_1407.at hf_710 rfl
                rw [fe_1408, fe_1409, fe_1410] at x_1403
                obtain ⟨v_1414, v_1415, v_1417, v_1419, v_1421, v_1423, v_1425, v_1426, v_1427, v_1428, v_1430, e_1413, b_1416, b_1418, b_1420, b_1422, b_1424, b_1429, b_1431⟩ := hW_1406.at m_1 t_2
                have fe_1432 : fld (f_1401 a_0) 8 = (v_1419 : Int32).toInt := by rw [e_1413]; rfl
                have fe_1433 : fld (f_1401 a_0) 9 = (v_1421 : Int32).toInt := by rw [e_1413]; rfl
                have fe_1434 : fld (f_1401 a_0) 10 = (v_1423 : Int32).toInt := by rw [e_1413]; rfl
                have fe_1435 : fld (f_1401 a_0) 12 = (v_1426 : Int32).toInt := by rw [e_1413]; rfl
                rw [fe_1432, fe_1433, fe_1434, fe_1435] at x_1403
                have fe_1436 : fld (f_1401 a_0) 12 = (v_1426 : Int32).toInt := by rw [e_1413]; rfl
                rw [fe_1436] at x_1404
                rw [fe_1411] at x_1405
                have fe_1437 : fld (f_1401 a_0) 20 = (v_1430 : Int32).toInt := by rw [e_1413]; rfl
                rw [fe_1437] at x_1405
                try simp only [Int32.reduceToInt, Int64.reduceToInt] at x_1403
                try simp only [Int32.reduceToInt, Int64.reduceToInt] at x_1404
                try simp only [Int32.reduceToInt, Int64.reduceToInt] at x_1405
                refine v_iast hC m_365 hf_1412 (vp_in_iff.mpr (by first | omega | (simp only [Int32.lt_iff_toInt_lt, Int32.le_iff_toInt_le, Int32.reduceToInt, ← Int32.toInt_inj, true_and, and_true, or_true, true_or, false_or, or_false, false_and, and_false, not_true_eq_false, not_false_eq_true] <;> omega))) dX12_way_195 (fun f_1438 hf_1439 hk_1440 => ?_)
                have hW_1442 := hW_1406.up hf_1439 hk_1440 t_366 ⟨_, rfl, (ok_680.up (by first | omega | (simp only [Int32.lt_iff_toInt_lt, Int32.le_iff_toInt_le, Int32.reduceToInt, ← Int32.toInt_inj, true_and, and_true, or_true, true_or, false_or, or_false, false_and, and_false, not_true_eq_false, not_false_eq_true] <;> omega)) (fun q1 q2 => (by first | omega | (simp only [Int32.lt_iff_toInt_lt, Int32.le_iff_toInt_le, Int32.reduceToInt, ← Int32.toInt_inj] at *; omega))) (fun k9 q1 q2 q3 => (by first | omega | (simp only [Int32.lt_iff_toInt_lt, Int32.le_iff_toInt_le, Int32.reduceToInt, ← Int32.toInt_inj] at *; omega))))⟩
                obtain ⟨g_1441, hf_1439, ok_1443, eg_1444⟩ : ∃ g9, f_1438 (q 14) = aI E 2076 g9 ∧ FOK g9 ∧ g9 = upd g_678 (v_1396 : Int32).toNatClampNeg r_1399 := ⟨_, hf_1439, (ok_680.up (by first | omega | (simp only [Int32.lt_iff_toInt_lt, Int32.le_iff_toInt_le, Int32.reduceToInt, ← Int32.toInt_inj, true_and, and_true, or_true, true_or, false_or, or_false, false_and, and_false, not_true_eq_false, not_false_eq_true] <;> omega)) (fun q1 q2 => (by first | omega | (simp only [Int32.lt_iff_toInt_lt, Int32.le_iff_toInt_le, Int32.reduceToInt, ← Int32.toInt_inj] at *; omega))) (fun k9 q1 q2 q3 => (by first | omega | (simp only [Int32.lt_iff_toInt_lt, Int32.le_iff_toInt_le, Int32.reduceToInt, ← Int32.toInt_inj] at *; omega)))), rfl⟩
                have hf_1445 := (hk_1440 a_0 (ne_kd e_1413 hf_1412 rfl)).trans e_1413
                have fr_1446 := FR.w hk_1440 hf_1412 (k := 2176) rfl
                have wt_1447 := wv_upd_ne (k := a_1) (j := 0) eg_1444 (by omega) (by decide) (by omega) (by simp only [Int32.reduceToInt]; omega)
                have wt_1448 := wv_upd_ne (k := a_1) (j := 2) eg_1444 (by omega) (by decide) (by omega) (by simp only [Int32.reduceToInt]; omega)
                have wt_1449 := wv_upd_ne (k := a_1) (j := 3) eg_1444 (by omega) (by decide) (by omega) (by simp only [Int32.reduceToInt]; omega)
                have wt_1450 := wv_upd_eq (k := a_1) (j := 4) eg_1444 (by omega) (by decide) (by simp only [Int32.reduceToInt]; omega)
                refine v_pick [0, 1, 2] rfl ?_
                have we_1451 : wvf (f_1438 (q 14)) a_1 0 = (wv g_1441 a_1 0).toInt := by rw [hf_1439]; rfl
                have fe_1452 : fld (f_1438 a_0) 12 = (v_1426 : Int32).toInt := by rw [hf_1445]; rfl
                have we_1453 : wvf (f_1438 (q 14)) a_1 2 = (wv g_1441 a_1 2).toInt := by rw [hf_1439]; rfl
                have fe_1454 : fld (f_1438 a_0) 12 = (v_1426 : Int32).toInt := by rw [hf_1445]; rfl
                have we_1455 : wvf (f_1438 (q 14)) a_1 3 = (wv g_1441 a_1 3).toInt := by rw [hf_1439]; rfl
                have fe_1456 : fld (f_1438 a_0) 12 = (v_1426 : Int32).toInt := by rw [hf_1445]; rfl
                have we_1457 : wvf (f_1438 (q 14)) a_1 4 = (wv g_1441 a_1 4).toInt := by rw [hf_1439]; rfl
                exact jn_1014 f_1438 hW_1442 ((hF_1407.tr fr_1446).mono rfl) (by rw [we_1451] <;> first | omega | (simp only [Int32.lt_iff_toInt_lt, Int32.le_iff_toInt_le, Int32.reduceToInt, ← Int32.toInt_inj, true_and, and_true, or_true, true_or, false_or, or_false, false_and, and_false, not_true_eq_false, not_false_eq_true] <;> omega)) (by rw [fe_1452, we_1453] <;> first | omega | (simp only [Int32.lt_iff_toInt_lt, Int32.le_iff_toInt_le, Int32.reduceToInt, ← Int32.toInt_inj, true_and, and_true, or_true, true_or, false_or, or_false, false_and, and_false, not_true_eq_false, not_false_eq_true] <;> omega)) (by rw [fe_1454, we_1455] <;> first | omega | (simp only [Int32.lt_iff_toInt_lt, Int32.le_iff_toInt_le, Int32.reduceToInt, ← Int32.toInt_inj, true_and, and_true, or_true, true_or, false_or, or_false, false_and, and_false, not_true_eq_false, not_false_eq_true] <;> omega)) (by rw [fe_1456, we_1457] <;> first | omega | (simp only [Int32.lt_iff_toInt_lt, Int32.le_iff_toInt_le, Int32.reduceToInt, ← Int32.toInt_inj, true_and, and_true, or_true, true_or, false_or, or_false, false_and, and_false, not_true_eq_false, not_false_eq_true] <;> omega))
              · simp only [Int32.lt_iff_toInt_lt, Int32.le_iff_toInt_le, Int32.reduceToInt, ← Int32.toInt_inj] at h_1395
                refine v_aload_n hC dX12_way_160 rfl ?_
                refine v_get hC fl_X12_120 m_1 e_711 rfl dX12_way_161 ?_
                refine v_iconst hC dX12_way_164 (v := 2) (by decide) ?_
                refine v_icmp_ne hC dX12_way_165 (tgt := 182) (by decide) (fun h_1458 => ?_) (fun h_1458 => ?_)
                · simp only [Int32.lt_iff_toInt_lt, Int32.le_iff_toInt_le, Int32.reduceToInt, ← Int32.toInt_inj] at h_1458
                  refine v_aload_n hC dX12_way_182 rfl ?_
                  refine v_get hC fl_X12_34 m_1 e_711 rfl dX12_way_183 ?_
                  refine v_iload_n hC dX12_way_186 rfl ?_
                  refine v_iconst hC dX12_way_187 (v := 4) (by decide) ?_
                  obtain ⟨v_1459, h_1460⟩ : ∃ v9 : Int32, v_210 + 4 = v9 := ⟨_, rfl⟩
                  refine v_iadd hC dX12_way_188 h_1460 ?_
                  have h_1461 := add_v h_1460 (by first | omega | (simp only [Int32.lt_iff_toInt_lt, Int32.le_iff_toInt_le, Int32.reduceToInt, ← Int32.toInt_inj, true_and, and_true, or_true, true_or, false_or, or_false, false_and, and_false, not_true_eq_false, not_false_eq_true] <;> omega)) (by first | omega | (simp only [Int32.lt_iff_toInt_lt, Int32.le_iff_toInt_le, Int32.reduceToInt, ← Int32.toInt_inj, true_and, and_true, or_true, true_or, false_or, or_false, false_and, and_false, not_true_eq_false, not_false_eq_true] <;> omega))
                  try simp only [Int32.reduceToInt] at h_1461
                  refine v_aload_n hC dX12_way_189 rfl ?_
                  refine v_iconst hC dX12_way_190 (v := 1) (by decide) ?_
                  refine v_iconst hC dX12_way_191 (v := 5) (by decide) ?_
                  refine v_vi hC (rest := [.int v_1459, .ref (q 14)]) m_1 e_711 rfl mi_X12_number ms_X12_number (p_X12_number hW_696 k_0) mx_X12_number ml_X12_170 (by decide) rfl (cells1 := 0) (slots1 := 0) (by decide) (by decide) (Nat.le_of_ble_eq_true rfl) (Nat.le_of_ble_eq_true rfl) rfl (Nat.le_of_ble_eq_true rfl) dX12_way_192 (fun r_1462 L_1463 f_1464 h_1465 => ?_)
                  obtain ⟨rfl, hW_1469, hF_1470, x_1466, x_1467, x_1468⟩ := h_1465
                  have fe_1471 : fld (f_690 a_0) 8 = (v_717 : Int32).toInt := by rw [e_711]; rfl
                  have fe_1472 : fld (f_690 a_0) 10 = (v_721 : Int32).toInt := by rw [e_711]; rfl
                  have fe_1473 : fld (f_690 a_0) 12 = (v_724 : Int32).toInt := by rw [e_711]; rfl
                  have fe_1474 : fld (f_690 a_0) 20 = (v_728 : Int32).toInt := by rw [e_711]; rfl
                  have hf_1475 := hF_1470.at hf_710 rfl
                  rw [fe_1471, fe_1472, fe_1473] at x_1466
                  obtain ⟨v_1477, v_1478, v_1480, v_1482, v_1484, v_1486, v_1488, v_1489, v_1490, v_1491, v_1493, e_1476, b_1479, b_1481, b_1483, b_1485, b_1487, b_1492, b_1494⟩ := hW_1469.at m_1 t_2
                  have fe_1495 : fld (f_1464 a_0) 8 = (v_1482 : Int32).toInt := by rw [e_1476]; rfl
                  have fe_1496 : fld (f_1464 a_0) 9 = (v_1484 : Int32).toInt := by rw [e_1476]; rfl
                  have fe_1497 : fld (f_1464 a_0) 10 = (v_1486 : Int32).toInt := by rw [e_1476]; rfl
                  have fe_1498 : fld (f_1464 a_0) 12 = (v_1489 : Int32).toInt := by rw [e_1476]; rfl
                  rw [fe_1495, fe_1496, fe_1497, fe_1498] at x_1466
                  have fe_1499 : fld (f_1464 a_0) 12 = (v_1489 : Int32).toInt := by rw [e_1476]; rfl
                  rw [fe_1499] at x_1467
                  rw [fe_1474] at x_1468
                  have fe_1500 : fld (f_1464 a_0) 20 = (v_1493 : Int32).toInt := by rw [e_1476]; rfl
                  rw [fe_1500] at x_1468
                  try simp only [Int32.reduceToInt, Int64.reduceToInt] at x_1466
                  try simp only [Int32.reduceToInt, Int64.reduceToInt] at x_1467
                  try simp only [Int32.reduceToInt, Int64.reduceToInt] at x_1468
                  refine v_iast hC m_365 hf_1475 (vp_in_iff.mpr (by first | omega | (simp only [Int32.lt_iff_toInt_lt, Int32.le_iff_toInt_le, Int32.reduceToInt, ← Int32.toInt_inj, true_and, and_true, or_true, true_or, false_or, or_false, false_and, and_false, not_true_eq_false, not_false_eq_true] <;> omega))) dX12_way_195 (fun f_1501 hf_1502 hk_1503 => ?_)
                  have hW_1505 := hW_1469.up hf_1502 hk_1503 t_366 ⟨_, rfl, (ok_680.up (by first | omega | (simp only [Int32.lt_iff_toInt_lt, Int32.le_iff_toInt_le, Int32.reduceToInt, ← Int32.toInt_inj, true_and, and_true, or_true, true_or, false_or, or_false, false_and, and_false, not_true_eq_false, not_false_eq_true] <;> omega)) (fun q1 q2 => (by first | omega | (simp only [Int32.lt_iff_toInt_lt, Int32.le_iff_toInt_le, Int32.reduceToInt, ← Int32.toInt_inj] at *; omega))) (fun k9 q1 q2 q3 => (by first | omega | (simp only [Int32.lt_iff_toInt_lt, Int32.le_iff_toInt_le, Int32.reduceToInt, ← Int32.toInt_inj] at *; omega))))⟩
                  obtain ⟨g_1504, hf_1502, ok_1506, eg_1507⟩ : ∃ g9, f_1501 (q 14) = aI E 2076 g9 ∧ FOK g9 ∧ g9 = upd g_678 (v_1459 : Int32).toNatClampNeg r_1462 := ⟨_, hf_1502, (ok_680.up (by first | omega | (simp only [Int32.lt_iff_toInt_lt, Int32.le_iff_toInt_le, Int32.reduceToInt, ← Int32.toInt_inj, true_and, and_true, or_true, true_or, false_or, or_false, false_and, and_false, not_true_eq_false, not_false_eq_true] <;> omega)) (fun q1 q2 => (by first | omega | (simp only [Int32.lt_iff_toInt_lt, Int32.le_iff_toInt_le, Int32.reduceToInt, ← Int32.toInt_inj] at *; omega))) (fun k9 q1 q2 q3 => (by first | omega | (simp only [Int32.lt_iff_toInt_lt, Int32.le_iff_toInt_le, Int32.reduceToInt, ← Int32.toInt_inj] at *; omega)))), rfl⟩
                  have hf_1508 := (hk_1503 a_0 (ne_kd e_1476 hf_1475 rfl)).trans e_1476
                  have fr_1509 := FR.w hk_1503 hf_1475 (k := 2176) rfl
                  have wt_1510 := wv_upd_ne (k := a_1) (j := 0) eg_1507 (by omega) (by decide) (by omega) (by simp only [Int32.reduceToInt]; omega)
                  have wt_1511 := wv_upd_ne (k := a_1) (j := 2) eg_1507 (by omega) (by decide) (by omega) (by simp only [Int32.reduceToInt]; omega)
                  have wt_1512 := wv_upd_ne (k := a_1) (j := 3) eg_1507 (by omega) (by decide) (by omega) (by simp only [Int32.reduceToInt]; omega)
                  have wt_1513 := wv_upd_eq (k := a_1) (j := 4) eg_1507 (by omega) (by decide) (by simp only [Int32.reduceToInt]; omega)
                  refine v_pick [0, 1, 2] rfl ?_
                  have we_1514 : wvf (f_1501 (q 14)) a_1 0 = (wv g_1504 a_1 0).toInt := by rw [hf_1502]; rfl
                  have fe_1515 : fld (f_1501 a_0) 12 = (v_1489 : Int32).toInt := by rw [hf_1508]; rfl
                  have we_1516 : wvf (f_1501 (q 14)) a_1 2 = (wv g_1504 a_1 2).toInt := by rw [hf_1502]; rfl
                  have fe_1517 : fld (f_1501 a_0) 12 = (v_1489 : Int32).toInt := by rw [hf_1508]; rfl
                  have we_1518 : wvf (f_1501 (q 14)) a_1 3 = (wv g_1504 a_1 3).toInt := by rw [hf_1502]; rfl
                  have fe_1519 : fld (f_1501 a_0) 12 = (v_1489 : Int32).toInt := by rw [hf_1508]; rfl
                  have we_1520 : wvf (f_1501 (q 14)) a_1 4 = (wv g_1504 a_1 4).toInt := by rw [hf_1502]; rfl
                  exact jn_1014 f_1501 hW_1505 ((hF_1470.tr fr_1509).mono rfl) (by rw [we_1514] <;> first | omega | (simp only [Int32.lt_iff_toInt_lt, Int32.le_iff_toInt_le, Int32.reduceToInt, ← Int32.toInt_inj, true_and, and_true, or_true, true_or, false_or, or_false, false_and, and_false, not_true_eq_false, not_false_eq_true] <;> omega)) (by rw [fe_1515, we_1516] <;> first | omega | (simp only [Int32.lt_iff_toInt_lt, Int32.le_iff_toInt_le, Int32.reduceToInt, ← Int32.toInt_inj, true_and, and_true, or_true, true_or, false_or, or_false, false_and, and_false, not_true_eq_false, not_false_eq_true] <;> omega)) (by rw [fe_1517, we_1518] <;> first | omega | (simp only [Int32.lt_iff_toInt_lt, Int32.le_iff_toInt_le, Int32.reduceToInt, ← Int32.toInt_inj, true_and, and_true, or_true, true_or, false_or, or_false, false_and, and_false, not_true_eq_false, not_false_eq_true] <;> omega)) (by rw [fe_1519, we_1520] <;> first | omega | (simp only [Int32.lt_iff_toInt_lt, Int32.le_iff_toInt_le, Int32.reduceToInt, ← Int32.toInt_inj, true_and, and_true, or_true, true_or, false_or, or_false, false_and, and_false, not_true_eq_false, not_false_eq_true] <;> omega))
                · simp only [Int32.lt_iff_toInt_lt, Int32.le_iff_toInt_le, Int32.reduceToInt, ← Int32.toInt_inj] at h_1458
                  refine v_aload_n hC dX12_way_168 rfl ?_
                  refine v_get hC fl_X12_131 m_1 e_711 rfl dX12_way_169 ?_
                  refine v_iconst hC dX12_way_172 (v := 2) (by decide) ?_
                  obtain ⟨v_1521, h_1522⟩ : ∃ v9 : Int32, v_723 - v_723 / 2 * 2 = v9 := ⟨_, rfl⟩
                  refine v_irem hC dX12_way_173 (by decide) h_1522 ?_
                  refine v_if_ne hC dX12_way_174 (tgt := 182) (by decide) (fun h_1524 => ?_) (fun h_1524 => ?_)
                  · simp only [Int32.lt_iff_toInt_lt, Int32.le_iff_toInt_le, Int32.reduceToInt, ← Int32.toInt_inj] at h_1524
                    refine v_aload_n hC dX12_way_182 rfl ?_
                    refine v_get hC fl_X12_34 m_1 e_711 rfl dX12_way_183 ?_
                    refine v_iload_n hC dX12_way_186 rfl ?_
                    refine v_iconst hC dX12_way_187 (v := 4) (by decide) ?_
                    obtain ⟨v_1525, h_1526⟩ : ∃ v9 : Int32, v_210 + 4 = v9 := ⟨_, rfl⟩
                    refine v_iadd hC dX12_way_188 h_1526 ?_
                    have h_1527 := add_v h_1526 (by first | omega | (simp only [Int32.lt_iff_toInt_lt, Int32.le_iff_toInt_le, Int32.reduceToInt, ← Int32.toInt_inj, true_and, and_true, or_true, true_or, false_or, or_false, false_and, and_false, not_true_eq_false, not_false_eq_true] <;> omega)) (by first | omega | (simp only [Int32.lt_iff_toInt_lt, Int32.le_iff_toInt_le, Int32.reduceToInt, ← Int32.toInt_inj, true_and, and_true, or_true, true_or, false_or, or_false, false_and, and_false, not_true_eq_false, not_false_eq_true] <;> omega))
                    try simp only [Int32.reduceToInt] at h_1527
                    refine v_aload_n hC dX12_way_189 rfl ?_
                    refine v_iconst hC dX12_way_190 (v := 1) (by decide) ?_
                    refine v_iconst hC dX12_way_191 (v := 5) (by decide) ?_
                    refine v_vi hC (rest := [.int v_1525, .ref (q 14)]) m_1 e_711 rfl mi_X12_number ms_X12_number (p_X12_number hW_696 k_0) mx_X12_number ml_X12_170 (by decide) rfl (cells1 := 0) (slots1 := 0) (by decide) (by decide) (Nat.le_of_ble_eq_true rfl) (Nat.le_of_ble_eq_true rfl) rfl (Nat.le_of_ble_eq_true rfl) dX12_way_192 (fun r_1528 L_1529 f_1530 h_1531 => ?_)
                    obtain ⟨rfl, hW_1535, hF_1536, x_1532, x_1533, x_1534⟩ := h_1531
                    have fe_1537 : fld (f_690 a_0) 8 = (v_717 : Int32).toInt := by rw [e_711]; rfl
                    have fe_1538 : fld (f_690 a_0) 10 = (v_721 : Int32).toInt := by rw [e_711]; rfl
                    have fe_1539 : fld (f_690 a_0) 12 = (v_724 : Int32).toInt := by rw [e_711]; rfl
                    have fe_1540 : fld (f_690 a_0) 20 = (v_728 : Int32).toInt := by rw [e_711]; rfl
                    have hf_1541 := hF_1536.at hf_710 rfl
                    rw [fe_1537, fe_1538, fe_1539] at x_1532
                    obtain ⟨v_1543, v_1544, v_1546, v_1548, v_1550, v_1552, v_1554, v_1555, v_1556, v_1557, v_1559, e_1542, b_1545, b_1547, b_1549, b_1551, b_1553, b_1558, b_1560⟩ := hW_1535.at m_1 t_2
                    have fe_1561 : fld (f_1530 a_0) 8 = (v_1548 : Int32).toInt := by rw [e_1542]; rfl
                    have fe_1562 : fld (f_1530 a_0) 9 = (v_1550 : Int32).toInt := by rw [e_1542]; rfl
                    have fe_1563 : fld (f_1530 a_0) 10 = (v_1552 : Int32).toInt := by rw [e_1542]; rfl
                    have fe_1564 : fld (f_1530 a_0) 12 = (v_1555 : Int32).toInt := by rw [e_1542]; rfl
                    rw [fe_1561, fe_1562, fe_1563, fe_1564] at x_1532
                    have fe_1565 : fld (f_1530 a_0) 12 = (v_1555 : Int32).toInt := by rw [e_1542]; rfl
                    rw [fe_1565] at x_1533
                    rw [fe_1540] at x_1534
                    have fe_1566 : fld (f_1530 a_0) 20 = (v_1559 : Int32).toInt := by rw [e_1542]; rfl
                    rw [fe_1566] at x_1534
                    try simp only [Int32.reduceToInt, Int64.reduceToInt] at x_1532
                    try simp only [Int32.reduceToInt, Int64.reduceToInt] at x_1533
                    try simp only [Int32.reduceToInt, Int64.reduceToInt] at x_1534
                    refine v_iast hC m_365 hf_1541 (vp_in_iff.mpr (by first | omega | (simp only [Int32.lt_iff_toInt_lt, Int32.le_iff_toInt_le, Int32.reduceToInt, ← Int32.toInt_inj, true_and, and_true, or_true, true_or, false_or, or_false, false_and, and_false, not_true_eq_false, not_false_eq_true] <;> omega))) dX12_way_195 (fun f_1567 hf_1568 hk_1569 => ?_)
                    have hW_1571 := hW_1535.up hf_1568 hk_1569 t_366 ⟨_, rfl, (ok_680.up (by first | omega | (simp only [Int32.lt_iff_toInt_lt, Int32.le_iff_toInt_le, Int32.reduceToInt, ← Int32.toInt_inj, true_and, and_true, or_true, true_or, false_or, or_false, false_and, and_false, not_true_eq_false, not_false_eq_true] <;> omega)) (fun q1 q2 => (by first | omega | (simp only [Int32.lt_iff_toInt_lt, Int32.le_iff_toInt_le, Int32.reduceToInt, ← Int32.toInt_inj] at *; omega))) (fun k9 q1 q2 q3 => (by first | omega | (simp only [Int32.lt_iff_toInt_lt, Int32.le_iff_toInt_le, Int32.reduceToInt, ← Int32.toInt_inj] at *; omega))))⟩
                    obtain ⟨g_1570, hf_1568, ok_1572, eg_1573⟩ : ∃ g9, f_1567 (q 14) = aI E 2076 g9 ∧ FOK g9 ∧ g9 = upd g_678 (v_1525 : Int32).toNatClampNeg r_1528 := ⟨_, hf_1568, (ok_680.up (by first | omega | (simp only [Int32.lt_iff_toInt_lt, Int32.le_iff_toInt_le, Int32.reduceToInt, ← Int32.toInt_inj, true_and, and_true, or_true, true_or, false_or, or_false, false_and, and_false, not_true_eq_false, not_false_eq_true] <;> omega)) (fun q1 q2 => (by first | omega | (simp only [Int32.lt_iff_toInt_lt, Int32.le_iff_toInt_le, Int32.reduceToInt, ← Int32.toInt_inj] at *; omega))) (fun k9 q1 q2 q3 => (by first | omega | (simp only [Int32.lt_iff_toInt_lt, Int32.le_iff_toInt_le, Int32.reduceToInt, ← Int32.toInt_inj] at *; omega)))), rfl⟩
                    have hf_1574 := (hk_1569 a_0 (ne_kd e_1542 hf_1541 rfl)).trans e_1542
                    have fr_1575 := FR.w hk_1569 hf_1541 (k := 2176) rfl
                    have wt_1576 := wv_upd_ne (k := a_1) (j := 0) eg_1573 (by omega) (by decide) (by omega) (by simp only [Int32.reduceToInt]; omega)
                    have wt_1577 := wv_upd_ne (k := a_1) (j := 2) eg_1573 (by omega) (by decide) (by omega) (by simp only [Int32.reduceToInt]; omega)
                    have wt_1578 := wv_upd_ne (k := a_1) (j := 3) eg_1573 (by omega) (by decide) (by omega) (by simp only [Int32.reduceToInt]; omega)
                    have wt_1579 := wv_upd_eq (k := a_1) (j := 4) eg_1573 (by omega) (by decide) (by simp only [Int32.reduceToInt]; omega)
                    refine v_pick [0, 1, 2] rfl ?_
                    have we_1580 : wvf (f_1567 (q 14)) a_1 0 = (wv g_1570 a_1 0).toInt := by rw [hf_1568]; rfl
                    have fe_1581 : fld (f_1567 a_0) 12 = (v_1555 : Int32).toInt := by rw [hf_1574]; rfl
                    have we_1582 : wvf (f_1567 (q 14)) a_1 2 = (wv g_1570 a_1 2).toInt := by rw [hf_1568]; rfl
                    have fe_1583 : fld (f_1567 a_0) 12 = (v_1555 : Int32).toInt := by rw [hf_1574]; rfl
                    have we_1584 : wvf (f_1567 (q 14)) a_1 3 = (wv g_1570 a_1 3).toInt := by rw [hf_1568]; rfl
                    have fe_1585 : fld (f_1567 a_0) 12 = (v_1555 : Int32).toInt := by rw [hf_1574]; rfl
                    have we_1586 : wvf (f_1567 (q 14)) a_1 4 = (wv g_1570 a_1 4).toInt := by rw [hf_1568]; rfl
                    exact jn_1014 f_1567 hW_1571 ((hF_1536.tr fr_1575).mono rfl) (by rw [we_1580] <;> first | omega | (simp only [Int32.lt_iff_toInt_lt, Int32.le_iff_toInt_le, Int32.reduceToInt, ← Int32.toInt_inj, true_and, and_true, or_true, true_or, false_or, or_false, false_and, and_false, not_true_eq_false, not_false_eq_true] <;> omega)) (by rw [fe_1581, we_1582] <;> first | omega | (simp only [Int32.lt_iff_toInt_lt, Int32.le_iff_toInt_le, Int32.reduceToInt, ← Int32.toInt_inj, true_and, and_true, or_true, true_or, false_or, or_false, false_and, and_false, not_true_eq_false, not_false_eq_true] <;> omega)) (by rw [fe_1583, we_1584] <;> first | omega | (simp only [Int32.lt_iff_toInt_lt, Int32.le_iff_toInt_le, Int32.reduceToInt, ← Int32.toInt_inj, true_and, and_true, or_true, true_or, false_or, or_false, false_and, and_false, not_true_eq_false, not_false_eq_true] <;> omega)) (by rw [fe_1585, we_1586] <;> first | omega | (simp only [Int32.lt_iff_toInt_lt, Int32.le_iff_toInt_le, Int32.reduceToInt, ← Int32.toInt_inj, true_and, and_true, or_true, true_or, false_or, or_false, false_and, and_false, not_true_eq_false, not_false_eq_true] <;> omega))
                  · simp only [Int32.lt_iff_toInt_lt, Int32.le_iff_toInt_le, Int32.reduceToInt, ← Int32.toInt_inj] at h_1524
                    refine v_aload_n hC dX12_way_177 rfl ?_
                    refine v_iconst hC dX12_way_178 (v := 2) (by decide) ?_
                    refine v_vv hC (rest := []) m_1 e_711 rfl mi_X12_errs ms_X12_errs (p_X12_errs hW_696 k_0 (by decide)) mx_X12_errs ml_X12_162 (by decide) rfl (cells1 := 0) (slots1 := 0) (by decide) (by decide) (Nat.le_of_ble_eq_true rfl) (Nat.le_of_ble_eq_true rfl) rfl (Nat.le_of_ble_eq_true rfl) dX12_way_179 (fun L_1588 f_1589 h_1590 => ?_)
                    obtain ⟨rfl, hW_1596, hF_1597, x_1591, x_1592, x_1593, x_1594, x_1595⟩ := h_1590
                    have fe_1598 : fld (f_690 a_0) 8 = (v_717 : Int32).toInt := by rw [e_711]; rfl
                    have fe_1599 : fld (f_690 a_0) 9 = (v_719 : Int32).toInt := by rw [e_711]; rfl
                    have fe_1600 : fld (f_690 a_0) 10 = (v_721 : Int32).toInt := by rw [e_711]; rfl
                    have fe_1601 : fld (f_690 a_0) 20 = (v_728 : Int32).toInt := by rw [e_711]; rfl
                    have hf_1602 := hF_1597.at hf_710 rfl
                    obtain ⟨v_1604, v_1605, v_1607, v_1609, v_1611, v_1613, v_1615, v_1616, v_1617, v_1618, v_1620, e_1603, b_1606, b_1608, b_1610, b_1612, b_1614, b_1619, b_1621⟩ := hW_1596.at m_1 t_2
                    have fe_1622 : fld (f_1589 a_0) 12 = (v_1616 : Int32).toInt := by rw [e_1603]; rfl
                    rw [fe_1622] at x_1591
                    rw [fe_1598] at x_1592
                    have fe_1623 : fld (f_1589 a_0) 8 = (v_1609 : Int32).toInt := by rw [e_1603]; rfl
                    rw [fe_1623] at x_1592
                    rw [fe_1599] at x_1593
                    have fe_1624 : fld (f_1589 a_0) 9 = (v_1611 : Int32).toInt := by rw [e_1603]; rfl
                    rw [fe_1624] at x_1593
                    rw [fe_1600] at x_1594
                    have fe_1625 : fld (f_1589 a_0) 10 = (v_1613 : Int32).toInt := by rw [e_1603]; rfl
                    rw [fe_1625] at x_1594
                    rw [fe_1601] at x_1595
                    have fe_1626 : fld (f_1589 a_0) 20 = (v_1620 : Int32).toInt := by rw [e_1603]; rfl
                    rw [fe_1626] at x_1595
                    refine v_aload_n hC dX12_way_182 rfl ?_
                    refine v_get hC fl_X12_34 m_1 e_1603 rfl dX12_way_183 ?_
                    refine v_iload_n hC dX12_way_186 rfl ?_
                    refine v_iconst hC dX12_way_187 (v := 4) (by decide) ?_
                    obtain ⟨v_1627, h_1628⟩ : ∃ v9 : Int32, v_210 + 4 = v9 := ⟨_, rfl⟩
                    refine v_iadd hC dX12_way_188 h_1628 ?_
                    have h_1629 := add_v h_1628 (by first | omega | (simp only [Int32.lt_iff_toInt_lt, Int32.le_iff_toInt_le, Int32.reduceToInt, ← Int32.toInt_inj, true_and, and_true, or_true, true_or, false_or, or_false, false_and, and_false, not_true_eq_false, not_false_eq_true] <;> omega)) (by first | omega | (simp only [Int32.lt_iff_toInt_lt, Int32.le_iff_toInt_le, Int32.reduceToInt, ← Int32.toInt_inj, true_and, and_true, or_true, true_or, false_or, or_false, false_and, and_false, not_true_eq_false, not_false_eq_true] <;> omega))
                    try simp only [Int32.reduceToInt] at h_1629
                    refine v_aload_n hC dX12_way_189 rfl ?_
                    refine v_iconst hC dX12_way_190 (v := 1) (by decide) ?_
                    refine v_iconst hC dX12_way_191 (v := 5) (by decide) ?_
                    refine v_vi hC (rest := [.int v_1627, .ref (q 14)]) m_1 e_1603 rfl mi_X12_number ms_X12_number (p_X12_number hW_1596 k_0) mx_X12_number ml_X12_170 (by decide) rfl (cells1 := 0) (slots1 := 0) (by decide) (by decide) (Nat.le_of_ble_eq_true rfl) (Nat.le_of_ble_eq_true rfl) rfl (Nat.le_of_ble_eq_true rfl) dX12_way_192 (fun r_1630 L_1631 f_1632 h_1633 => ?_)
                    obtain ⟨rfl, hW_1637, hF_1638, x_1634, x_1635, x_1636⟩ := h_1633
                    have fe_1639 : fld (f_1589 a_0) 8 = (v_1609 : Int32).toInt := by rw [e_1603]; rfl
                    have fe_1640 : fld (f_1589 a_0) 10 = (v_1613 : Int32).toInt := by rw [e_1603]; rfl
                    have fe_1641 : fld (f_1589 a_0) 12 = (v_1616 : Int32).toInt := by rw [e_1603]; rfl
                    have fe_1642 : fld (f_1589 a_0) 20 = (v_1620 : Int32).toInt := by rw [e_1603]; rfl
                    have hf_1643 := hF_1638.at hf_1602 rfl
                    rw [fe_1639, fe_1640, fe_1641] at x_1634
                    obtain ⟨v_1645, v_1646, v_1648, v_1650, v_1652, v_1654, v_1656, v_1657, v_1658, v_1659, v_1661, e_1644, b_1647, b_1649, b_1651, b_1653, b_1655, b_1660, b_1662⟩ := hW_1637.at m_1 t_2
                    have fe_1663 : fld (f_1632 a_0) 8 = (v_1650 : Int32).toInt := by rw [e_1644]; rfl
                    have fe_1664 : fld (f_1632 a_0) 9 = (v_1652 : Int32).toInt := by rw [e_1644]; rfl
                    have fe_1665 : fld (f_1632 a_0) 10 = (v_1654 : Int32).toInt := by rw [e_1644]; rfl
                    have fe_1666 : fld (f_1632 a_0) 12 = (v_1657 : Int32).toInt := by rw [e_1644]; rfl
                    rw [fe_1663, fe_1664, fe_1665, fe_1666] at x_1634
                    have fe_1667 : fld (f_1632 a_0) 12 = (v_1657 : Int32).toInt := by rw [e_1644]; rfl
                    rw [fe_1667] at x_1635
                    rw [fe_1642] at x_1636
                    have fe_1668 : fld (f_1632 a_0) 20 = (v_1661 : Int32).toInt := by rw [e_1644]; rfl
                    rw [fe_1668] at x_1636
                    try simp only [Int32.reduceToInt, Int64.reduceToInt] at x_1634
                    try simp only [Int32.reduceToInt, Int64.reduceToInt] at x_1635
                    try simp only [Int32.reduceToInt, Int64.reduceToInt] at x_1636
                    refine v_iast hC m_365 hf_1643 (vp_in_iff.mpr (by first | omega | (simp only [Int32.lt_iff_toInt_lt, Int32.le_iff_toInt_le, Int32.reduceToInt, ← Int32.toInt_inj, true_and, and_true, or_true, true_or, false_or, or_false, false_and, and_false, not_true_eq_false, not_false_eq_true] <;> omega))) dX12_way_195 (fun f_1669 hf_1670 hk_1671 => ?_)
                    have hW_1673 := hW_1637.up hf_1670 hk_1671 t_366 ⟨_, rfl, (ok_680.up (by first | omega | (simp only [Int32.lt_iff_toInt_lt, Int32.le_iff_toInt_le, Int32.reduceToInt, ← Int32.toInt_inj, true_and, and_true, or_true, true_or, false_or, or_false, false_and, and_false, not_true_eq_false, not_false_eq_true] <;> omega)) (fun q1 q2 => (by first | omega | (simp only [Int32.lt_iff_toInt_lt, Int32.le_iff_toInt_le, Int32.reduceToInt, ← Int32.toInt_inj] at *; omega))) (fun k9 q1 q2 q3 => (by first | omega | (simp only [Int32.lt_iff_toInt_lt, Int32.le_iff_toInt_le, Int32.reduceToInt, ← Int32.toInt_inj] at *; omega))))⟩
                    obtain ⟨g_1672, hf_1670, ok_1674, eg_1675⟩ : ∃ g9, f_1669 (q 14) = aI E 2076 g9 ∧ FOK g9 ∧ g9 = upd g_678 (v_1627 : Int32).toNatClampNeg r_1630 := ⟨_, hf_1670, (ok_680.up (by first | omega | (simp only [Int32.lt_iff_toInt_lt, Int32.le_iff_toInt_le, Int32.reduceToInt, ← Int32.toInt_inj, true_and, and_true, or_true, true_or, false_or, or_false, false_and, and_false, not_true_eq_false, not_false_eq_true] <;> omega)) (fun q1 q2 => (by first | omega | (simp only [Int32.lt_iff_toInt_lt, Int32.le_iff_toInt_le, Int32.reduceToInt, ← Int32.toInt_inj] at *; omega))) (fun k9 q1 q2 q3 => (by first | omega | (simp only [Int32.lt_iff_toInt_lt, Int32.le_iff_toInt_le, Int32.reduceToInt, ← Int32.toInt_inj] at *; omega)))), rfl⟩
                    have hf_1676 := (hk_1671 a_0 (ne_kd e_1644 hf_1643 rfl)).trans e_1644
                    have fr_1677 := FR.w hk_1671 hf_1643 (k := 2176) rfl
                    have wt_1678 := wv_upd_ne (k := a_1) (j := 0) eg_1675 (by omega) (by decide) (by omega) (by simp only [Int32.reduceToInt]; omega)
                    have wt_1679 := wv_upd_ne (k := a_1) (j := 2) eg_1675 (by omega) (by decide) (by omega) (by simp only [Int32.reduceToInt]; omega)
                    have wt_1680 := wv_upd_ne (k := a_1) (j := 3) eg_1675 (by omega) (by decide) (by omega) (by simp only [Int32.reduceToInt]; omega)
                    have wt_1681 := wv_upd_eq (k := a_1) (j := 4) eg_1675 (by omega) (by decide) (by simp only [Int32.reduceToInt]; omega)
                    refine v_pick [0, 1, 2] rfl ?_
                    have we_1682 : wvf (f_1669 (q 14)) a_1 0 = (wv g_1672 a_1 0).toInt := by rw [hf_1670]; rfl
                    have fe_1683 : fld (f_1669 a_0) 12 = (v_1657 : Int32).toInt := by rw [hf_1676]; rfl
                    have we_1684 : wvf (f_1669 (q 14)) a_1 2 = (wv g_1672 a_1 2).toInt := by rw [hf_1670]; rfl
                    have fe_1685 : fld (f_1669 a_0) 12 = (v_1657 : Int32).toInt := by rw [hf_1676]; rfl
                    have we_1686 : wvf (f_1669 (q 14)) a_1 3 = (wv g_1672 a_1 3).toInt := by rw [hf_1670]; rfl
                    have fe_1687 : fld (f_1669 a_0) 12 = (v_1657 : Int32).toInt := by rw [hf_1676]; rfl
                    have we_1688 : wvf (f_1669 (q 14)) a_1 4 = (wv g_1672 a_1 4).toInt := by rw [hf_1670]; rfl
                    exact jn_1014 f_1669 hW_1673 (((hF_1597.tr hF_1638).tr fr_1677).mono rfl) (by rw [we_1682] <;> first | omega | (simp only [Int32.lt_iff_toInt_lt, Int32.le_iff_toInt_le, Int32.reduceToInt, ← Int32.toInt_inj, true_and, and_true, or_true, true_or, false_or, or_false, false_and, and_false, not_true_eq_false, not_false_eq_true] <;> omega)) (by rw [fe_1683, we_1684] <;> first | omega | (simp only [Int32.lt_iff_toInt_lt, Int32.le_iff_toInt_le, Int32.reduceToInt, ← Int32.toInt_inj, true_and, and_true, or_true, true_or, false_or, or_false, false_and, and_false, not_true_eq_false, not_false_eq_true] <;> omega)) (by rw [fe_1685, we_1686] <;> first | omega | (simp only [Int32.lt_iff_toInt_lt, Int32.le_iff_toInt_le, Int32.reduceToInt, ← Int32.toInt_inj, true_and, and_true, or_true, true_or, false_or, or_false, false_and, and_false, not_true_eq_false, not_false_eq_true] <;> omega)) (by rw [fe_1687, we_1688] <;> first | omega | (simp only [Int32.lt_iff_toInt_lt, Int32.le_iff_toInt_le, Int32.reduceToInt, ← Int32.toInt_inj, true_and, and_true, or_true, true_or, false_or, or_false, false_and, and_false, not_true_eq_false, not_false_eq_true] <;> omega))
          refine v_if_eq hC dX12_way_121 (tgt := 133) (by decide) (fun h_587 => ?_) (fun h_587 => ?_)
          · simp only [Int32.lt_iff_toInt_lt, Int32.le_iff_toInt_le, Int32.reduceToInt, ← Int32.toInt_inj] at h_587
            refine v_iconst hC dX12_way_133 (v := 1) (by decide) ?_
            refine v_pick [0, 1, 2] rfl ?_
            have we_1689 : wvf (f_539 (q 14)) a_1 0 = (wv g_524 a_1 0).toInt := by rw [hf_559]; rfl
            have fe_1690 : fld (f_539 a_0) 12 = (v_573 : Int32).toInt := by rw [e_560]; rfl
            have we_1691 : wvf (f_539 (q 14)) a_1 2 = (wv g_524 a_1 2).toInt := by rw [hf_559]; rfl
            have fe_1692 : fld (f_539 a_0) 12 = (v_573 : Int32).toInt := by rw [e_560]; rfl
            exact jn_627 f_539 hW_545 FR.rf 1 (by rw [we_1689] <;> first | omega | (simp only [Int32.lt_iff_toInt_lt, Int32.le_iff_toInt_le, Int32.reduceToInt, ← Int32.toInt_inj, true_and, and_true, or_true, true_or, false_or, or_false, false_and, and_false, not_true_eq_false, not_false_eq_true] <;> omega)) (by rw [fe_1690, we_1691] <;> first | omega | (simp only [Int32.lt_iff_toInt_lt, Int32.le_iff_toInt_le, Int32.reduceToInt, ← Int32.toInt_inj, true_and, and_true, or_true, true_or, false_or, or_false, false_and, and_false, not_true_eq_false, not_false_eq_true] <;> omega)) (by rw [fe_1692] <;> first | omega | (simp only [Int32.lt_iff_toInt_lt, Int32.le_iff_toInt_le, Int32.reduceToInt, ← Int32.toInt_inj, true_and, and_true, or_true, true_or, false_or, or_false, false_and, and_false, not_true_eq_false, not_false_eq_true] <;> omega))
          · simp only [Int32.lt_iff_toInt_lt, Int32.le_iff_toInt_le, Int32.reduceToInt, ← Int32.toInt_inj] at h_587
            refine v_aload_n hC dX12_way_124 rfl ?_
            refine v_iconst hC dX12_way_125 (v := 1) (by decide) ?_
            refine v_iconst hC dX12_way_126 (v := 5) (by decide) ?_
            refine v_vi hC (rest := [.int v_534, .ref (q 14)]) m_1 e_560 rfl mi_X12_number ms_X12_number (p_X12_number hW_545 k_0) mx_X12_number ml_X12_170 (by decide) rfl (cells1 := 0) (slots1 := 0) (by decide) (by decide) (Nat.le_of_ble_eq_true rfl) (Nat.le_of_ble_eq_true rfl) rfl (Nat.le_of_ble_eq_true rfl) dX12_way_127 (fun r_1693 L_1694 f_1695 h_1696 => ?_)
            obtain ⟨rfl, hW_1700, hF_1701, x_1697, x_1698, x_1699⟩ := h_1696
            have fe_1702 : fld (f_539 a_0) 8 = (v_566 : Int32).toInt := by rw [e_560]; rfl
            have fe_1703 : fld (f_539 a_0) 10 = (v_570 : Int32).toInt := by rw [e_560]; rfl
            have fe_1704 : fld (f_539 a_0) 12 = (v_573 : Int32).toInt := by rw [e_560]; rfl
            have fe_1705 : fld (f_539 a_0) 20 = (v_577 : Int32).toInt := by rw [e_560]; rfl
            have hf_1706 := hF_1701.at hf_559 rfl
            rw [fe_1702, fe_1703, fe_1704] at x_1697
            obtain ⟨v_1708, v_1709, v_1711, v_1713, v_1715, v_1717, v_1719, v_1720, v_1721, v_1722, v_1724, e_1707, b_1710, b_1712, b_1714, b_1716, b_1718, b_1723, b_1725⟩ := hW_1700.at m_1 t_2
            have fe_1726 : fld (f_1695 a_0) 8 = (v_1713 : Int32).toInt := by rw [e_1707]; rfl
            have fe_1727 : fld (f_1695 a_0) 9 = (v_1715 : Int32).toInt := by rw [e_1707]; rfl
            have fe_1728 : fld (f_1695 a_0) 10 = (v_1717 : Int32).toInt := by rw [e_1707]; rfl
            have fe_1729 : fld (f_1695 a_0) 12 = (v_1720 : Int32).toInt := by rw [e_1707]; rfl
            rw [fe_1726, fe_1727, fe_1728, fe_1729] at x_1697
            have fe_1730 : fld (f_1695 a_0) 12 = (v_1720 : Int32).toInt := by rw [e_1707]; rfl
            rw [fe_1730] at x_1698
            rw [fe_1705] at x_1699
            have fe_1731 : fld (f_1695 a_0) 20 = (v_1724 : Int32).toInt := by rw [e_1707]; rfl
            rw [fe_1731] at x_1699
            try simp only [Int32.reduceToInt, Int64.reduceToInt] at x_1697
            try simp only [Int32.reduceToInt, Int64.reduceToInt] at x_1698
            try simp only [Int32.reduceToInt, Int64.reduceToInt] at x_1699
            refine v_goto hC dX12_way_130 (tgt := 134) (by decide) ?_
            refine v_pick [0, 1, 2] rfl ?_
            have we_1732 : wvf (f_1695 (q 14)) a_1 0 = (wv g_524 a_1 0).toInt := by rw [hf_1706]; rfl
            have fe_1733 : fld (f_1695 a_0) 12 = (v_1720 : Int32).toInt := by rw [e_1707]; rfl
            have we_1734 : wvf (f_1695 (q 14)) a_1 2 = (wv g_524 a_1 2).toInt := by rw [hf_1706]; rfl
            have fe_1735 : fld (f_1695 a_0) 12 = (v_1720 : Int32).toInt := by rw [e_1707]; rfl
            exact jn_627 f_1695 hW_1700 (hF_1701.mono rfl) r_1693 (by rw [we_1732] <;> first | omega | (simp only [Int32.lt_iff_toInt_lt, Int32.le_iff_toInt_le, Int32.reduceToInt, ← Int32.toInt_inj, true_and, and_true, or_true, true_or, false_or, or_false, false_and, and_false, not_true_eq_false, not_false_eq_true] <;> omega)) (by rw [fe_1733, we_1734] <;> first | omega | (simp only [Int32.lt_iff_toInt_lt, Int32.le_iff_toInt_le, Int32.reduceToInt, ← Int32.toInt_inj, true_and, and_true, or_true, true_or, false_or, or_false, false_and, and_false, not_true_eq_false, not_false_eq_true] <;> omega)) (by rw [fe_1735] <;> first | omega | (simp only [Int32.lt_iff_toInt_lt, Int32.le_iff_toInt_le, Int32.reduceToInt, ← Int32.toInt_inj, true_and, and_true, or_true, true_or, false_or, or_false, false_and, and_false, not_true_eq_false, not_false_eq_true] <;> omega))
        refine v_if_eq hC dX12_way_93 (tgt := 106) (by decide) (fun h_452 => ?_) (fun h_452 => ?_)
        · simp only [Int32.lt_iff_toInt_lt, Int32.le_iff_toInt_le, Int32.reduceToInt, ← Int32.toInt_inj] at h_452
          refine v_iconst hC dX12_way_106 (v := 1) (by decide) ?_
          refine v_pick [1, 2, 3] rfl ?_
          have we_1736 : wvf (f_404 (q 14)) a_1 0 = (wv g_389 a_1 0).toInt := by rw [hf_424]; rfl
          have fe_1737 : fld (f_404 a_0) 12 = (v_438 : Int32).toInt := by rw [e_425]; rfl
          exact jn_492 f_404 hW_410 FR.rf 1 (by rw [we_1736] <;> first | omega | (simp only [Int32.lt_iff_toInt_lt, Int32.le_iff_toInt_le, Int32.reduceToInt, ← Int32.toInt_inj, true_and, and_true, or_true, true_or, false_or, or_false, false_and, and_false, not_true_eq_false, not_false_eq_true] <;> omega)) (by rw [fe_1737] <;> first | omega | (simp only [Int32.lt_iff_toInt_lt, Int32.le_iff_toInt_le, Int32.reduceToInt, ← Int32.toInt_inj, true_and, and_true, or_true, true_or, false_or, or_false, false_and, and_false, not_true_eq_false, not_false_eq_true] <;> omega))
        · simp only [Int32.lt_iff_toInt_lt, Int32.le_iff_toInt_le, Int32.reduceToInt, ← Int32.toInt_inj] at h_452
          refine v_aload_n hC dX12_way_96 rfl ?_
          refine v_iconst hC dX12_way_97 (v := 1) (by decide) ?_
          refine v_bipush hC dX12_way_98 (v := 9) (by decide) ?_
          refine v_vi hC (rest := [.int v_399, .ref (q 14)]) m_1 e_425 rfl mi_X12_number ms_X12_number (p_X12_number hW_410 k_0) mx_X12_number ml_X12_170 (by decide) rfl (cells1 := 0) (slots1 := 0) (by decide) (by decide) (Nat.le_of_ble_eq_true rfl) (Nat.le_of_ble_eq_true rfl) rfl (Nat.le_of_ble_eq_true rfl) dX12_way_100 (fun r_1738 L_1739 f_1740 h_1741 => ?_)
          obtain ⟨rfl, hW_1745, hF_1746, x_1742, x_1743, x_1744⟩ := h_1741
          have fe_1747 : fld (f_404 a_0) 8 = (v_431 : Int32).toInt := by rw [e_425]; rfl
          have fe_1748 : fld (f_404 a_0) 10 = (v_435 : Int32).toInt := by rw [e_425]; rfl
          have fe_1749 : fld (f_404 a_0) 12 = (v_438 : Int32).toInt := by rw [e_425]; rfl
          have fe_1750 : fld (f_404 a_0) 20 = (v_442 : Int32).toInt := by rw [e_425]; rfl
          have hf_1751 := hF_1746.at hf_424 rfl
          rw [fe_1747, fe_1748, fe_1749] at x_1742
          obtain ⟨v_1753, v_1754, v_1756, v_1758, v_1760, v_1762, v_1764, v_1765, v_1766, v_1767, v_1769, e_1752, b_1755, b_1757, b_1759, b_1761, b_1763, b_1768, b_1770⟩ := hW_1745.at m_1 t_2
          have fe_1771 : fld (f_1740 a_0) 8 = (v_1758 : Int32).toInt := by rw [e_1752]; rfl
          have fe_1772 : fld (f_1740 a_0) 9 = (v_1760 : Int32).toInt := by rw [e_1752]; rfl
          have fe_1773 : fld (f_1740 a_0) 10 = (v_1762 : Int32).toInt := by rw [e_1752]; rfl
          have fe_1774 : fld (f_1740 a_0) 12 = (v_1765 : Int32).toInt := by rw [e_1752]; rfl
          rw [fe_1771, fe_1772, fe_1773, fe_1774] at x_1742
          have fe_1775 : fld (f_1740 a_0) 12 = (v_1765 : Int32).toInt := by rw [e_1752]; rfl
          rw [fe_1775] at x_1743
          rw [fe_1750] at x_1744
          have fe_1776 : fld (f_1740 a_0) 20 = (v_1769 : Int32).toInt := by rw [e_1752]; rfl
          rw [fe_1776] at x_1744
          try simp only [Int32.reduceToInt, Int64.reduceToInt] at x_1742
          try simp only [Int32.reduceToInt, Int64.reduceToInt] at x_1743
          try simp only [Int32.reduceToInt, Int64.reduceToInt] at x_1744
          refine v_goto hC dX12_way_103 (tgt := 107) (by decide) ?_
          refine v_pick [1, 2, 3] rfl ?_
          have we_1777 : wvf (f_1740 (q 14)) a_1 0 = (wv g_389 a_1 0).toInt := by rw [hf_1751]; rfl
          have fe_1778 : fld (f_1740 a_0) 12 = (v_1765 : Int32).toInt := by rw [e_1752]; rfl
          exact jn_492 f_1740 hW_1745 (hF_1746.mono rfl) r_1738 (by rw [we_1777] <;> first | omega | (simp only [Int32.lt_iff_toInt_lt, Int32.le_iff_toInt_le, Int32.reduceToInt, ← Int32.toInt_inj, true_and, and_true, or_true, true_or, false_or, or_false, false_and, and_false, not_true_eq_false, not_false_eq_true] <;> omega)) (by rw [fe_1778] <;> first | omega | (simp only [Int32.lt_iff_toInt_lt, Int32.le_iff_toInt_le, Int32.reduceToInt, ← Int32.toInt_inj, true_and, and_true, or_true, true_or, false_or, or_false, false_and, and_false, not_true_eq_false, not_false_eq_true] <;> omega))
      refine v_if_eq hC dX12_way_57 (tgt := 64) (by decide) (fun h_300 => ?_) (fun h_300 => ?_)
      · simp only [Int32.lt_iff_toInt_lt, Int32.le_iff_toInt_le, Int32.reduceToInt, ← Int32.toInt_inj] at h_300
        refine v_pick [0, 1, 2, 3] rfl ?_
        exact jn_341 f_268 hW_269 FR.rf
      · simp only [Int32.lt_iff_toInt_lt, Int32.le_iff_toInt_le, Int32.reduceToInt, ← Int32.toInt_inj] at h_300
        refine v_aload_n hC dX12_way_60 rfl ?_
        refine v_vv hC (rest := []) m_1 e_272 rfl mi_X12_advance ms_X12_advance (p_X12_advance hW_269 k_0) mx_X12_advance ml_X12_156 (by decide) rfl (cells1 := 0) (slots1 := 0) (by decide) (by decide) (Nat.le_of_ble_eq_true rfl) (Nat.le_of_ble_eq_true rfl) rfl (Nat.le_of_ble_eq_true rfl) dX12_way_61 (fun L_1780 f_1781 h_1782 => ?_)
        obtain ⟨rfl, hW_1787, hF_1788, x_1783, x_1784, x_1785, x_1786⟩ := h_1782
        have fe_1789 : fld (f_268 a_0) 8 = (v_278 : Int32).toInt := by rw [e_272]; rfl
        have fe_1790 : fld (f_268 a_0) 12 = (v_285 : Int32).toInt := by rw [e_272]; rfl
        have fe_1791 : fld (f_268 a_0) 20 = (v_289 : Int32).toInt := by rw [e_272]; rfl
        have hf_1792 := hF_1788.at hf_271 rfl
        rw [fe_1789] at x_1783
        obtain ⟨v_1794, v_1795, v_1797, v_1799, v_1801, v_1803, v_1805, v_1806, v_1807, v_1808, v_1810, e_1793, b_1796, b_1798, b_1800, b_1802, b_1804, b_1809, b_1811⟩ := hW_1787.at m_1 t_2
        have fe_1812 : fld (f_1781 a_0) 8 = (v_1799 : Int32).toInt := by rw [e_1793]; rfl
        have fe_1813 : fld (f_1781 a_0) 9 = (v_1801 : Int32).toInt := by rw [e_1793]; rfl
        rw [fe_1812, fe_1813] at x_1783
        have fe_1814 : fld (f_1781 a_0) 8 = (v_1799 : Int32).toInt := by rw [e_1793]; rfl
        have fe_1815 : fld (f_1781 a_0) 9 = (v_1801 : Int32).toInt := by rw [e_1793]; rfl
        have fe_1816 : fld (f_1781 a_0) 10 = (v_1803 : Int32).toInt := by rw [e_1793]; rfl
        rw [fe_1814, fe_1815, fe_1816] at x_1784
        rw [fe_1790] at x_1785
        have fe_1817 : fld (f_1781 a_0) 12 = (v_1806 : Int32).toInt := by rw [e_1793]; rfl
        rw [fe_1817] at x_1785
        rw [fe_1791] at x_1786
        have fe_1818 : fld (f_1781 a_0) 20 = (v_1810 : Int32).toInt := by rw [e_1793]; rfl
        rw [fe_1818] at x_1786
        refine v_pick [0, 1, 2, 3] rfl ?_
        exact jn_341 f_1781 hW_1787 (hF_1788.mono rfl)
    refine v_icmp_ne hC dX12_way_45 (tgt := 53) (by decide) (fun h_226 => ?_) (fun h_226 => ?_)
    · simp only [Int32.lt_iff_toInt_lt, Int32.le_iff_toInt_le, Int32.reduceToInt, ← Int32.toInt_inj] at h_226
      refine v_pick [0, 1, 2, 3] rfl ?_
      exact jn_267 f_166 hW_171 FR.rf
    · simp only [Int32.lt_iff_toInt_lt, Int32.le_iff_toInt_le, Int32.reduceToInt, ← Int32.toInt_inj] at h_226
      refine v_aload_n hC dX12_way_48 rfl ?_
      refine v_iconst hC dX12_way_49 (v := 1) (by decide) ?_
      refine v_vv hC (rest := []) m_1 e_182 rfl mi_X12_errs ms_X12_errs (p_X12_errs hW_171 k_0 (by decide)) mx_X12_errs ml_X12_162 (by decide) rfl (cells1 := 0) (slots1 := 0) (by decide) (by decide) (Nat.le_of_ble_eq_true rfl) (Nat.le_of_ble_eq_true rfl) rfl (Nat.le_of_ble_eq_true rfl) dX12_way_50 (fun L_1820 f_1821 h_1822 => ?_)
      obtain ⟨rfl, hW_1828, hF_1829, x_1823, x_1824, x_1825, x_1826, x_1827⟩ := h_1822
      have fe_1830 : fld (f_166 a_0) 8 = (v_188 : Int32).toInt := by rw [e_182]; rfl
      have fe_1831 : fld (f_166 a_0) 9 = (v_190 : Int32).toInt := by rw [e_182]; rfl
      have fe_1832 : fld (f_166 a_0) 10 = (v_192 : Int32).toInt := by rw [e_182]; rfl
      have fe_1833 : fld (f_166 a_0) 20 = (v_199 : Int32).toInt := by rw [e_182]; rfl
      have hf_1834 := hF_1829.at e_215 rfl
      obtain ⟨v_1836, v_1837, v_1839, v_1841, v_1843, v_1845, v_1847, v_1848, v_1849, v_1850, v_1852, e_1835, b_1838, b_1840, b_1842, b_1844, b_1846, b_1851, b_1853⟩ := hW_1828.at m_1 t_2
      have fe_1854 : fld (f_1821 a_0) 12 = (v_1848 : Int32).toInt := by rw [e_1835]; rfl
      rw [fe_1854] at x_1823
      rw [fe_1830] at x_1824
      have fe_1855 : fld (f_1821 a_0) 8 = (v_1841 : Int32).toInt := by rw [e_1835]; rfl
      rw [fe_1855] at x_1824
      rw [fe_1831] at x_1825
      have fe_1856 : fld (f_1821 a_0) 9 = (v_1843 : Int32).toInt := by rw [e_1835]; rfl
      rw [fe_1856] at x_1825
      rw [fe_1832] at x_1826
      have fe_1857 : fld (f_1821 a_0) 10 = (v_1845 : Int32).toInt := by rw [e_1835]; rfl
      rw [fe_1857] at x_1826
      rw [fe_1833] at x_1827
      have fe_1858 : fld (f_1821 a_0) 20 = (v_1852 : Int32).toInt := by rw [e_1835]; rfl
      rw [fe_1858] at x_1827
      refine v_pick [0, 1, 2, 3] rfl ?_
      exact jn_267 f_1821 hW_1828 (hF_1829.mono rfl)
  · simp only [Int32.lt_iff_toInt_lt, Int32.le_iff_toInt_le, Int32.reduceToInt, ← Int32.toInt_inj] at h_30
    refine v_bipush hC dX12_way_7 (v := (-2)) (by decide) ?_
    exact hR _ _ _ _ _ _ _ dX12_way_9 rfl (Nat.le_of_ble_eq_true rfl) (Nat.le_of_ble_eq_true rfl) ⟨rfl, hW, FR.rf, (by decide), (.inl (by decide))⟩
