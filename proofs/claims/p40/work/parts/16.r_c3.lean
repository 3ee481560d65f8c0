set_option maxRecDepth 100000 in
set_option maxHeartbeats 8000000 in
theorem p_X12_wide {l : Launch} {E : Ez} {L : List Nat} {f : Nat → va_E} {T : Nat → va_E → Prop} {a_0 : Nat} {q : Nat → Nat} {g_w : Nat → Int32} (hW : WT T L f) (k_0 : isM T L E a_0 q) (e_w : f (q 1) = aI E 2076 g_w) (o_w : WOK g_w) : CI l yX12_wide cX12_wide 1 .int 0 0 0 E [.ref a_0] L f (fun r L1 f1 => L = L1 ∧ f = f1 ∧ r = (g_w 1)) := by
  refine ci_of (by decide) (Nat.le_of_ble_eq_true rfl) (fun z hz hnm hC hR => ?_)
  have hC : Cx z E cX12_wide RX12 1 0 0 0 := hC
  subst hz
  show V z E 1 0 0 L f 0 [(0, .ref a_0)] []
  obtain ⟨m_1, t_2, nq_21, k_3, k_4, k_5, k_6, k_7, k_8, k_9, k_10, k_11, k_12, k_13, k_14, k_15, k_16, k_17, k_18, k_19, k_20⟩ := id k_0
  obtain ⟨m_22, t_23⟩ := id k_3
  have b_24 := o_w.r0
  have b_25 := o_w.w0
  refine v_aload_n hC dX12_wide_0 rfl ?_
  obtain ⟨v_27, v_28, v_30, v_32, v_34, v_36, v_38, v_39, v_40, v_41, v_43, e_26, b_29, b_31, b_33, b_35, b_37, b_42, b_44⟩ := hW.at m_1 t_2
  refine v_get hC fl_X12_13 m_1 e_26 rfl dX12_wide_1 ?_
  refine v_iconst hC dX12_wide_4 (v := 1) (by decide) ?_
  refine v_iald hC m_22 e_w (vp_in_iff.mpr (by decide)) (v := g_w 1) rfl dX12_wide_5 ?_
  exact hR _ _ _ _ _ _ _ dX12_wide_6 rfl (Nat.le_of_ble_eq_true rfl) (Nat.le_of_ble_eq_true rfl) ⟨rfl, rfl, rfl⟩
set_option maxRecDepth 100000 in
set_option maxHeartbeats 8000000 in
theorem p_X12_area {l : Launch} {E : Ez} {L : List Nat} {f : Nat → va_E} {T : Nat → va_E → Prop} {a_0 : Nat} {q : Nat → Nat} {g_w : Nat → Int32} (hW : WT T L f) (k_0 : isM T L E a_0 q) (e_w : f (q 1) = aI E 2076 g_w) (o_w : WOK g_w) : CI l yX12_area cX12_area 1 .int 1 0 0 E [.ref a_0] L f (fun r L1 f1 => L = L1 ∧ f = f1 ∧ r = (g_w 0 * g_w 1)) := by
  refine ci_of (by decide) (Nat.le_of_ble_eq_true rfl) (fun z hz hnm hC hR => ?_)
  have hC : Cx z E cX12_area RX12 1 1 0 0 := hC
  subst hz
  show V z E 1 0 0 L f 0 [(0, .ref a_0)] []
  obtain ⟨m_1, t_2, nq_21, k_3, k_4, k_5, k_6, k_7, k_8, k_9, k_10, k_11, k_12, k_13, k_14, k_15, k_16, k_17, k_18, k_19, k_20⟩ := id k_0
  obtain ⟨m_22, t_23⟩ := id k_3
  have b_24 := o_w.r0
  have b_25 := o_w.w0
  refine v_aload_n hC dX12_area_0 rfl ?_
  obtain ⟨v_27, v_28, v_30, v_32, v_34, v_36, v_38, v_39, v_40, v_41, v_43, e_26, b_29, b_31, b_33, b_35, b_37, b_42, b_44⟩ := hW.at m_1 t_2
  refine v_vi hC (rest := []) m_1 e_26 rfl mi_X12_rows ms_X12_rows (p_X12_rows hW k_0 e_w o_w) mx_X12_rows ml_X12_83 (by decide) rfl (cells1 := 0) (slots1 := 0) (by decide) (by decide) (Nat.le_of_ble_eq_true rfl) (Nat.le_of_ble_eq_true rfl) rfl (Nat.le_of_ble_eq_true rfl) dX12_area_1 (fun r_45 L_46 f_47 h_48 => ?_)
  obtain ⟨rfl, rfl, rfl⟩ := h_48
  refine v_aload_n hC dX12_area_4 rfl ?_
  refine v_vi hC (rest := [.int (g_w 0)]) m_1 e_26 rfl mi_X12_wide ms_X12_wide (p_X12_wide hW k_0 e_w o_w) mx_X12_wide ml_X12_87 (by decide) rfl (cells1 := 0) (slots1 := 0) (by decide) (by decide) (Nat.le_of_ble_eq_true rfl) (Nat.le_of_ble_eq_true rfl) rfl (Nat.le_of_ble_eq_true rfl) dX12_area_5 (fun r_51 L_52 f_53 h_54 => ?_)
  obtain ⟨rfl, rfl, rfl⟩ := h_54
  obtain ⟨v_57, h_58⟩ : ∃ v9 : Int32, (g_w 0) * (g_w 1) = v9 := ⟨_, rfl⟩
  refine v_imul hC dX12_area_8 h_58 ?_
  have h_59 := mul_v 16 16 256 h_58 (by first | omega | (simp only [Int32.lt_iff_toInt_lt, Int32.le_iff_toInt_le, Int32.reduceToInt, ← Int32.toInt_inj, true_and, and_true, or_true, true_or, false_or, or_false, false_and, and_false, not_true_eq_false, not_false_eq_true] <;> omega)) (by first | omega | (simp only [Int32.lt_iff_toInt_lt, Int32.le_iff_toInt_le, Int32.reduceToInt, ← Int32.toInt_inj, true_and, and_true, or_true, true_or, false_or, or_false, false_and, and_false, not_true_eq_false, not_false_eq_true] <;> omega)) (by decide) (by decide)
  exact hR _ _ _ _ _ _ _ dX12_area_9 rfl (Nat.le_of_ble_eq_true rfl) (Nat.le_of_ble_eq_true rfl) ⟨rfl, rfl, h_58.symm⟩
set_option maxRecDepth 100000 in
set_option maxHeartbeats 8000000 in
theorem p_X12_sortOf {l : Launch} {E : Ez} {L : List Nat} {f : Nat → va_E} {T : Nat → va_E → Prop} {a_0 : Nat} {a_1 : Int32} {q : Nat → Nat} {g_w : Nat → Int32} (hW : WT T L f) (k_0 : isM T L E a_0 q) (g_1 : (0 ≤ a_1.toInt)) (e_w : f (q 1) = aI E 2076 g_w) (o_w : WOK g_w) (hpt : 1 ≤ (g_w 0).toInt) : CI l yX12_sortOf cX12_sortOf 4 .int 1 0 0 E [.ref a_0, .int a_1] L f (fun r L1 f1 => L = L1 ∧ f = f1 ∧ ((-1) ≤ r.toInt ∧ r.toInt ≤ 12)) := by
  refine ci_of (by decide) (Nat.le_of_ble_eq_true rfl) (fun z hz hnm hC hR => ?_)
  have hC : Cx z E cX12_sortOf RX12 4 1 0 0 := hC
  subst hz
  show V z E 4 0 0 L f 0 [(0, .ref a_0), (1, .int a_1)] []
  obtain ⟨m_1, t_2, nq_21, k_3, k_4, k_5, k_6, k_7, k_8, k_9, k_10, k_11, k_12, k_13, k_14, k_15, k_16, k_17, k_18, k_19, k_20⟩ := id k_0
  obtain ⟨m_22, t_23⟩ := id k_3
  have b_24 := o_w.r0
  have b_25 := o_w.w0
  obtain ⟨pt_1, pt_2, pt_3⟩ := o_w.pt hpt
  refine v_iload_n hC dX12_sortOf_0 rfl ?_
  refine v_aload_n hC dX12_sortOf_1 rfl ?_
  obtain ⟨v_27, v_28, v_30, v_32, v_34, v_36, v_38, v_39, v_40, v_41, v_43, e_26, b_29, b_31, b_33, b_35, b_37, b_42, b_44⟩ := hW.at m_1 t_2
  refine v_vi hC (rest := [.int a_1]) m_1 e_26 rfl mi_X12_wide ms_X12_wide (p_X12_wide hW k_0 e_w o_w) mx_X12_wide ml_X12_87 (by decide) rfl (cells1 := 0) (slots1 := 0) (by decide) (by decide) (Nat.le_of_ble_eq_true rfl) (Nat.le_of_ble_eq_true rfl) rfl (Nat.le_of_ble_eq_true rfl) dX12_sortOf_2 (fun r_45 L_46 f_47 h_48 => ?_)
  obtain ⟨rfl, rfl, rfl⟩ := h_48
  obtain ⟨v_51, h_52⟩ : ∃ v9 : Int32, a_1 / (g_w 1) = v9 := ⟨_, rfl⟩
  refine v_idiv hC dX12_sortOf_5 (by first | omega | (simp only [Int32.lt_iff_toInt_lt, Int32.le_iff_toInt_le, Int32.reduceToInt, ← Int32.toInt_inj, true_and, and_true, or_true, true_or, false_or, or_false, false_and, and_false, not_true_eq_false, not_false_eq_true] <;> omega)) h_52 ?_
  have h_53 := div_v h_52 (by first | omega | (simp only [Int32.lt_iff_toInt_lt, Int32.le_iff_toInt_le, Int32.reduceToInt, ← Int32.toInt_inj, true_and, and_true, or_true, true_or, false_or, or_false, false_and, and_false, not_true_eq_false, not_false_eq_true] <;> omega)) (by first | omega | (simp only [Int32.lt_iff_toInt_lt, Int32.le_iff_toInt_le, Int32.reduceToInt, ← Int32.toInt_inj, true_and, and_true, or_true, true_or, false_or, or_false, false_and, and_false, not_true_eq_false, not_false_eq_true] <;> omega))
  refine v_aload_n hC dX12_sortOf_6 rfl ?_
  refine v_get hC fl_X12_13 m_1 e_26 rfl dX12_sortOf_7 ?_
  refine v_iconst hC dX12_sortOf_10 (v := 2) (by decide) ?_
  refine v_iald hC m_22 e_w (vp_in_iff.mpr (by decide)) (v := g_w 2) rfl dX12_sortOf_11 ?_
  obtain ⟨v_54, h_55⟩ : ∃ v9 : Int32, v_51 - v_51 / (g_w 2) * (g_w 2) = v9 := ⟨_, rfl⟩
  refine v_irem hC dX12_sortOf_12 (by first | omega | (simp only [Int32.lt_iff_toInt_lt, Int32.le_iff_toInt_le, Int32.reduceToInt, ← Int32.toInt_inj, true_and, and_true, or_true, true_or, false_or, or_false, false_and, and_false, not_true_eq_false, not_false_eq_true] <;> omega)) h_55 ?_
  have h_56 := rem_v h_55 (by first | omega | (simp only [Int32.lt_iff_toInt_lt, Int32.le_iff_toInt_le, Int32.reduceToInt, ← Int32.toInt_inj, true_and, and_true, or_true, true_or, false_or, or_false, false_and, and_false, not_true_eq_false, not_false_eq_true] <;> omega)) (by first | omega | (simp only [Int32.lt_iff_toInt_lt, Int32.le_iff_toInt_le, Int32.reduceToInt, ← Int32.toInt_inj, true_and, and_true, or_true, true_or, false_or, or_false, false_and, and_false, not_true_eq_false, not_false_eq_true] <;> omega))
  refine v_istore_n hC dX12_sortOf_13 (by decide) (lv' := [(2, .int v_54), (0, .ref a_0), (1, .int a_1)]) rfl ?_
  refine v_bipush hC dX12_sortOf_14 (v := 16) (by decide) ?_
  refine v_bipush hC dX12_sortOf_16 (v := 13) (by decide) ?_
  refine v_iload_n hC dX12_sortOf_18 rfl ?_
  obtain ⟨v_57, h_58⟩ : ∃ v9 : Int32, (13 : Int32) * v_54 = v9 := ⟨_, rfl⟩
  refine v_imul hC dX12_sortOf_19 h_58 ?_
  have h_59 := mul_v 13 7 91 h_58 (by decide) (by first | omega | (simp only [Int32.lt_iff_toInt_lt, Int32.le_iff_toInt_le, Int32.reduceToInt, ← Int32.toInt_inj, true_and, and_true, or_true, true_or, false_or, or_false, false_and, and_false, not_true_eq_false, not_false_eq_true] <;> omega)) (by decide) (by decide)
  try simp only [Int32.reduceToInt] at h_59
  obtain ⟨v_60, h_61⟩ : ∃ v9 : Int32, (16 : Int32) + v_57 = v9 := ⟨_, rfl⟩
  refine v_iadd hC dX12_sortOf_20 h_61 ?_
  have h_62 := add_v h_61 (by first | omega | (simp only [Int32.lt_iff_toInt_lt, Int32.le_iff_toInt_le, Int32.reduceToInt, ← Int32.toInt_inj, true_and, and_true, or_true, true_or, false_or, or_false, false_and, and_false, not_true_eq_false, not_false_eq_true] <;> omega)) (by first | omega | (simp only [Int32.lt_iff_toInt_lt, Int32.le_iff_toInt_le, Int32.reduceToInt, ← Int32.toInt_inj, true_and, and_true, or_true, true_or, false_or, or_false, false_and, and_false, not_true_eq_false, not_false_eq_true] <;> omega))
  try simp only [Int32.reduceToInt] at h_62
  refine v_istore_n hC dX12_sortOf_21 (by decide) (lv' := [(3, .int v_60), (2, .int v_54), (0, .ref a_0), (1, .int a_1)]) rfl ?_
  refine v_aload_n hC dX12_sortOf_22 rfl ?_
  refine v_get hC fl_X12_13 m_1 e_26 rfl dX12_sortOf_23 ?_
  refine v_iload_n hC dX12_sortOf_26 rfl ?_
  refine v_iconst hC dX12_sortOf_27 (v := 1) (by decide) ?_
  obtain ⟨v_63, h_64⟩ : ∃ v9 : Int32, v_60 + 1 = v9 := ⟨_, rfl⟩
  refine v_iadd hC dX12_sortOf_28 h_64 ?_
  have h_65 := add_v h_64 (by first | omega | (simp only [Int32.lt_iff_toInt_lt, Int32.le_iff_toInt_le, Int32.reduceToInt, ← Int32.toInt_inj, true_and, and_true, or_true, true_or, false_or, or_false, false_and, and_false, not_true_eq_false, not_false_eq_true] <;> omega)) (by first | omega | (simp only [Int32.lt_iff_toInt_lt, Int32.le_iff_toInt_le, Int32.reduceToInt, ← Int32.toInt_inj, true_and, and_true, or_true, true_or, false_or, or_false, false_and, and_false, not_true_eq_false, not_false_eq_true] <;> omega))
  try simp only [Int32.reduceToInt] at h_65
  refine v_iload_n hC dX12_sortOf_29 rfl ?_
  refine v_aload_n hC dX12_sortOf_30 rfl ?_
  refine v_vi hC (rest := [.int a_1, .int v_63, .ref (q 1)]) m_1 e_26 rfl mi_X12_wide ms_X12_wide (p_X12_wide hW k_0 e_w o_w) mx_X12_wide ml_X12_87 (by decide) rfl (cells1 := 0) (slots1 := 0) (by decide) (by decide) (Nat.le_of_ble_eq_true rfl) (Nat.le_of_ble_eq_true rfl) rfl (Nat.le_of_ble_eq_true rfl) dX12_sortOf_31 (fun r_66 L_67 f_68 h_69 => ?_)
  obtain ⟨rfl, rfl, rfl⟩ := h_69
  obtain ⟨v_72, h_73⟩ : ∃ v9 : Int32, a_1 - a_1 / (g_w 1) * (g_w 1) = v9 := ⟨_, rfl⟩
  refine v_irem hC dX12_sortOf_34 (by first | omega | (simp only [Int32.lt_iff_toInt_lt, Int32.le_iff_toInt_le, Int32.reduceToInt, ← Int32.toInt_inj, true_and, and_true, or_true, true_or, false_or, or_false, false_and, and_false, not_true_eq_false, not_false_eq_true] <;> omega)) h_73 ?_
  have h_74 := rem_v h_73 (by first | omega | (simp only [Int32.lt_iff_toInt_lt, Int32.le_iff_toInt_le, Int32.reduceToInt, ← Int32.toInt_inj, true_and, and_true, or_true, true_or, false_or, or_false, false_and, and_false, not_true_eq_false, not_false_eq_true] <;> omega)) (by first | omega | (simp only [Int32.lt_iff_toInt_lt, Int32.le_iff_toInt_le, Int32.reduceToInt, ← Int32.toInt_inj, true_and, and_true, or_true, true_or, false_or, or_false, false_and, and_false, not_true_eq_false, not_false_eq_true] <;> omega))
  refine v_aload_n hC dX12_sortOf_35 rfl ?_
  refine v_get hC fl_X12_13 m_1 e_26 rfl dX12_sortOf_36 ?_
  refine v_iload_n hC dX12_sortOf_39 rfl ?_
  obtain ⟨v_75, h_76⟩ : ∃ v9 : Int32, g_w (v_60 : Int32).toNatClampNeg = v9 := ⟨_, rfl⟩
  refine v_iald hC m_22 e_w (vp_in_iff.mpr (by first | omega | (simp only [Int32.lt_iff_toInt_lt, Int32.le_iff_toInt_le, Int32.reduceToInt, ← Int32.toInt_inj, true_and, and_true, or_true, true_or, false_or, or_false, false_and, and_false, not_true_eq_false, not_false_eq_true] <;> omega))) h_76 dX12_sortOf_40 ?_
  have b_77 := len_at o_w (i := v_60) (r := v_54) hpt (by omega) (by omega) (by omega)
  rw [h_76] at b_77
  obtain ⟨v_78, h_79⟩ : ∃ v9 : Int32, v_72 - v_72 / v_75 * v_75 = v9 := ⟨_, rfl⟩
  refine v_irem hC dX12_sortOf_41 (by first | omega | (simp only [Int32.lt_iff_toInt_lt, Int32.le_iff_toInt_le, Int32.reduceToInt, ← Int32.toInt_inj, true_and, and_true, or_true, true_or, false_or, or_false, false_and, and_false, not_true_eq_false, not_false_eq_true] <;> omega)) h_79 ?_
  have h_80 := rem_v h_79 (by first | omega | (simp only [Int32.lt_iff_toInt_lt, Int32.le_iff_toInt_le, Int32.reduceToInt, ← Int32.toInt_inj, true_and, and_true, or_true, true_or, false_or, or_false, false_and, and_false, not_true_eq_false, not_false_eq_true] <;> omega)) (by first | omega | (simp only [Int32.lt_iff_toInt_lt, Int32.le_iff_toInt_le, Int32.reduceToInt, ← Int32.toInt_inj, true_and, and_true, or_true, true_or, false_or, or_false, false_and, and_false, not_true_eq_false, not_false_eq_true] <;> omega))
  obtain ⟨v_81, h_82⟩ : ∃ v9 : Int32, v_63 + v_78 = v9 := ⟨_, rfl⟩
  refine v_iadd hC dX12_sortOf_42 h_82 ?_
  have h_83 := add_v h_82 (by first | omega | (simp only [Int32.lt_iff_toInt_lt, Int32.le_iff_toInt_le, Int32.reduceToInt, ← Int32.toInt_inj, true_and, and_true, or_true, true_or, false_or, or_false, false_and, and_false, not_true_eq_false, not_false_eq_true] <;> omega)) (by first | omega | (simp only [Int32.lt_iff_toInt_lt, Int32.le_iff_toInt_le, Int32.reduceToInt, ← Int32.toInt_inj, true_and, and_true, or_true, true_or, false_or, or_false, false_and, and_false, not_true_eq_false, not_false_eq_true] <;> omega))
  obtain ⟨v_84, h_85⟩ : ∃ v9 : Int32, g_w (v_81 : Int32).toNatClampNeg = v9 := ⟨_, rfl⟩
  refine v_iald hC m_22 e_w (vp_in_iff.mpr (by first | omega | (simp only [Int32.lt_iff_toInt_lt, Int32.le_iff_toInt_le, Int32.reduceToInt, ← Int32.toInt_inj, true_and, and_true, or_true, true_or, false_or, or_false, false_and, and_false, not_true_eq_false, not_false_eq_true] <;> omega))) h_85 dX12_sortOf_43 ?_
  have b_86 := sg_at o_w (i := v_81) (by omega) (by omega)
  rw [h_85] at b_86
  exact hR _ _ _ _ _ _ _ dX12_sortOf_44 rfl (Nat.le_of_ble_eq_true rfl) (Nat.le_of_ble_eq_true rfl) ⟨rfl, rfl, (by first | omega | (simp only [Int32.lt_iff_toInt_lt, Int32.le_iff_toInt_le, Int32.reduceToInt, ← Int32.toInt_inj, true_and, and_true, or_true, true_or, false_or, or_false, false_and, and_false, not_true_eq_false, not_false_eq_true] <;> omega))⟩
set_option maxRecDepth 100000 in
set_option maxHeartbeats 8000000 in
theorem p_X12_lists {l : Launch} {E : Ez} {L : List Nat} {f : Nat → va_E} {T : Nat → va_E → Prop} {a_0 : Nat} {a_1 : Int32} {q : Nat → Nat} {g_w : Nat → Int32} (hW : WT T L f) (k_0 : isM T L E a_0 q) (g_1 : (0 ≤ a_1.toInt ∧ a_1.toInt ≤ 5)) (e_w : f (q 1) = aI E 2076 g_w) (o_w : WOK g_w) (htold : (wv g_w a_1 0).toInt = 1) : CV l yX12_lists cX12_lists 7 2 0 0 E [.ref a_0, .int a_1] L f (fun L1 f1 => L = L1 ∧ WT T L f1 ∧ FR [12, 356] f f1 ∧ (fld (f1 a_0) 17 = 0 ∨ 1 ≤ (g_w 0).toInt) ∧ fld (f1 a_0) 20 = fld (f a_0) 20) := by
  refine cv_of (by decide) (Nat.le_of_ble_eq_true rfl) (fun z hz hnm hC hR => ?_)
  have hC : Cx z E cX12_lists RX12 7 2 0 0 := hC
  subst hz
  show V z E 7 0 0 L f 0 [(0, .ref a_0), (1, .int a_1)] []
  obtain ⟨m_1, t_2, nq_21, k_3, k_4, k_5, k_6, k_7, k_8, k_9, k_10, k_11, k_12, k_13, k_14, k_15, k_16, k_17, k_18, k_19, k_20⟩ := id k_0
  obtain ⟨m_22, t_23⟩ := id k_3
  have b_24 := o_w.r0
  have b_25 := o_w.w0
  obtain ⟨v_27, v_28, v_30, v_32, v_34, v_36, v_38, v_39, v_40, v_41, v_43, e_26, b_29, b_31, b_33, b_35, b_37, b_42, b_44⟩ := hW.at m_1 t_2
  have mz_45 : fld (f a_0) 20 = v_43.toInt := by rw [e_26]; rfl
  obtain ⟨tl_2, tl_3, tl_4⟩ := o_w.told g_1 htold
  have ar_0 := area_v o_w
  refine v_aload_n hC dX12_lists_0 rfl ?_
  refine v_iconst hC dX12_lists_1 (v := 0) (by decide) ?_
  refine v_put hC fl_X12_335 m_1 e_26 rfl rfl (Nat.le_of_ble_eq_true rfl) (fs' := [.int v_27, .ref (q 1), .ref (q 2), .ref (q 3), .ref (q 4), .int v_28, .ref (q 6), .int v_30, .int v_32, .int v_34, .int v_36, .int v_38, .int v_39, .int v_40, .ref (q 14), .ref (q 15), .ref (q 16), .int 0, .ref (q 18), .ref (q 19), .int v_43, .ref (q 21), .ref (q 22), .ref (q 23), .ref (q 24), .ref (q 25), .ref (q 26), .ref (q 27), .ref (q 28)]) rfl dX12_lists_2 (fun f_46 hf_47 hk_48 => ?_)
  have hW_49 := hW.up hf_47 hk_48 t_2 ⟨v_27, v_28, v_30, v_32, v_34, v_36, v_38, v_39, v_40, 0, v_43, rfl, (by first | omega | (simp only [Int32.lt_iff_toInt_lt, Int32.le_iff_toInt_le, Int32.reduceToInt, ← Int32.toInt_inj, true_and, and_true, or_true, true_or, false_or, or_false, false_and, and_false, not_true_eq_false, not_false_eq_true] <;> omega)), (by first | omega | (simp only [Int32.lt_iff_toInt_lt, Int32.le_iff_toInt_le, Int32.reduceToInt, ← Int32.toInt_inj, true_and, and_true, or_true, true_or, false_or, or_false, false_and, and_false, not_true_eq_false, not_false_eq_true] <;> omega)), (by first | omega | (simp only [Int32.lt_iff_toInt_lt, Int32.le_iff_toInt_le, Int32.reduceToInt, ← Int32.toInt_inj, true_and, and_true, or_true, true_or, false_or, or_false, false_and, and_false, not_true_eq_false, not_false_eq_true] <;> omega)), (by first | omega | (simp only [Int32.lt_iff_toInt_lt, Int32.le_iff_toInt_le, Int32.reduceToInt, ← Int32.toInt_inj, true_and, and_true, or_true, true_or, false_or, or_false, false_and, and_false, not_true_eq_false, not_false_eq_true] <;> omega)), (by first | omega | (simp only [Int32.lt_iff_toInt_lt, Int32.le_iff_toInt_le, Int32.reduceToInt, ← Int32.toInt_inj, true_and, and_true, or_true, true_or, false_or, or_false, false_and, and_false, not_true_eq_false, not_false_eq_true] <;> omega)), (by decide), (by first | omega | (simp only [Int32.lt_iff_toInt_lt, Int32.le_iff_toInt_le, Int32.reduceToInt, ← Int32.toInt_inj, true_and, and_true, or_true, true_or, false_or, or_false, false_and, and_false, not_true_eq_false, not_false_eq_true] <;> omega))⟩
  have hf_50 := (hk_48 (q 1) (ne_kd e_w e_26 rfl)).trans e_w
  have fr_51 := FR.w hk_48 e_26 (k := 12) rfl
  refine v_iconst hC dX12_lists_5 (v := 0) (by decide) ?_
  refine v_istore_n hC dX12_lists_6 (by decide) (lv' := [(2, .int 0), (0, .ref a_0), (1, .int a_1)]) rfl ?_
  refine v_iconst hC dX12_lists_7 (v := 0) (by decide) ?_
  refine v_istore_n hC dX12_lists_8 (by decide) (lv' := [(3, .int 0), (2, .int 0), (0, .ref a_0), (1, .int a_1)]) rfl ?_
  have lp_2978 : ∀ (n_2979 : Nat) (f_2970 : Nat → va_E) (hW_2971 : WT T L f_2970) (hF_2972 : FR [12, 356] f_46 f_2970) (i_2968 : Int32) (b_2974 : (0 ≤ i_2968.toInt ∧ i_2968.toInt ≤ 256)) (i_2969 : Int32) (nv_2975 : fld (f_2970 a_0) 17 ≤ i_2968.toInt) (nv_2976 : i_2968.toInt ≤ (g_w 0 * g_w 1).toInt) (nv_2977 : fld (f_2970 a_0) 20 = v_43.toInt) (hm_2981 : 256 - i_2968.toInt < (n_2979 : Int)), V z E 7 0 0 L f_2970 9 [(3, .int i_2968), (2, .int i_2969), (0, .ref a_0), (1, .int a_1)] [] := by
    intro n_2979
    induction n_2979 with
    | zero =>
      intro f_2970 hW_2971 hF_2972 i_2968 b_2974 i_2969 nv_2975 nv_2976 nv_2977 hm_2981
      have hf_2973 := hF_2972.at hf_50 rfl
      obtain ⟨v_2983, v_2984, v_2986, v_2988, v_2990, v_2992, v_2994, v_2995, v_2996, v_2997, v_2999, e_2982, b_2985, b_2987, b_2989, b_2991, b_2993, b_2998, b_3000⟩ := hW_2971.at m_1 t_2
      have fe_3001 : fld (f_2970 a_0) 17 = (v_2997 : Int32).toInt := by rw [e_2982]; rfl
      rw [fe_3001] at nv_2975
      have fe_3002 : fld (f_2970 a_0) 20 = (v_2999 : Int32).toInt := by rw [e_2982]; rfl
      rw [fe_3002] at nv_2977
      exfalso; omega
    | succ n_2979 ih_2980 =>
      intro f_2970 hW_2971 hF_2972 i_2968 b_2974 i_2969 nv_2975 nv_2976 nv_2977 hm_2981
      have hf_2973 := hF_2972.at hf_50 rfl
      obtain ⟨v_2983, v_2984, v_2986, v_2988, v_2990, v_2992, v_2994, v_2995, v_2996, v_2997, v_2999, e_2982, b_2985, b_2987, b_2989, b_2991, b_2993, b_2998, b_3000⟩ := hW_2971.at m_1 t_2
      have fe_3001 : fld (f_2970 a_0) 17 = (v_2997 : Int32).toInt := by rw [e_2982]; rfl
      rw [fe_3001] at nv_2975
      have fe_3002 : fld (f_2970 a_0) 20 = (v_2999 : Int32).toInt := by rw [e_2982]; rfl
      rw [fe_3002] at nv_2977
      refine v_iload_n hC dX12_lists_9 rfl ?_
      refine v_aload_n hC dX12_lists_10 rfl ?_
      refine v_vi hC (rest := [.int i_2968]) m_1 e_2982 rfl mi_X12_area ms_X12_area (p_X12_area hW_2971 k_0 hf_2973 o_w) mx_X12_area ml_X12_203 (by decide) rfl (cells1 := 0) (slots1 := 0) (by decide) (by decide) (Nat.le_of_ble_eq_true rfl) (Nat.le_of_ble_eq_true rfl) rfl (Nat.le_of_ble_eq_true rfl) dX12_lists_11 (fun r_3003 L_3004 f_3005 h_3006 => ?_)
      obtain ⟨rfl, rfl, rfl⟩ := h_3006
      have ar_3009 := area_v o_w
      refine v_icmp_ge hC dX12_lists_14 (tgt := 171) (by decide) (fun h_3010 => ?_) (fun h_3010 => ?_)
      · simp only [Int32.lt_iff_toInt_lt, Int32.le_iff_toInt_le, Int32.reduceToInt, ← Int32.toInt_inj] at h_3010
        have fe_3011 : fld (f_2970 a_0) 17 = (v_2997 : Int32).toInt := by rw [e_2982]; rfl
        have fe_3012 : fld (f_2970 a_0) 20 = (v_2999 : Int32).toInt := by rw [e_2982]; rfl
        exact hR _ _ _ _ _ _ dX12_lists_171 (Nat.le_of_ble_eq_true rfl) (Nat.le_of_ble_eq_true rfl) ⟨rfl, hW_2971, ((fr_51.tr hF_2972).mono rfl), (by simp only [fe_3011, true_and, and_true, or_true, true_or, false_or, or_false, false_and, and_false, not_true_eq_false, not_false_eq_true] <;> first | omega | (simp only [Int32.lt_iff_toInt_lt, Int32.le_iff_toInt_le, Int32.reduceToInt, ← Int32.toInt_inj, true_and, and_true, or_true, true_or, false_or, or_false, false_and, and_false, not_true_eq_false, not_false_eq_true] <;> omega)), (by simp only [fe_3012, mz_45, true_and, and_true, or_true, true_or, false_or, or_false, false_and, and_false, not_true_eq_false, not_false_eq_true] <;> first | omega | (simp only [Int32.lt_iff_toInt_lt, Int32.le_iff_toInt_le, Int32.reduceToInt, ← Int32.toInt_inj, true_and, and_true, or_true, true_or, false_or, or_false, false_and, and_false, not_true_eq_false, not_false_eq_true] <;> omega))⟩
      · simp only [Int32.lt_iff_toInt_lt, Int32.le_iff_toInt_le, Int32.reduceToInt, ← Int32.toInt_inj] at h_3010
        have pq_3013 : 1 ≤ (g_w 0).toInt ∧ 1 ≤ (g_w 1).toInt := by omega
        have dl_3014 := div_lt_v (i := i_2968.toInt) (r := (g_w 0).toInt) (w := (g_w 1).toInt) (by omega) (by omega) (by omega)
        refine v_aload_n hC dX12_lists_17 rfl ?_
        refine v_iload_n hC dX12_lists_18 rfl ?_
        refine v_bipush hC dX12_lists_19 (v := 6) (by decide) ?_
        refine v_vi hC (rest := []) m_1 e_2982 rfl mi_X12_ofWay ms_X12_ofWay (p_X12_ofWay hW_2971 k_0 (by first | omega | (simp only [Int32.lt_iff_toInt_lt, Int32.le_iff_toInt_le, Int32.reduceToInt, ← Int32.toInt_inj, true_and, and_true, or_true, true_or, false_or, or_false, false_and, and_false, not_true_eq_false, not_false_eq_true] <;> omega)) (by decide) hf_2973 o_w) mx_X12_ofWay ml_X12_94 (by decide) rfl (cells1 := 0) (slots1 := 0) (by decide) (by decide) (Nat.le_of_ble_eq_true rfl) (Nat.le_of_ble_eq_true rfl) rfl (Nat.le_of_ble_eq_true rfl) dX12_lists_21 (fun r_3015 L_3016 f_3017 h_3018 => ?_)
        obtain ⟨rfl, rfl, rfl⟩ := h_3018
        refine v_iconst hC dX12_lists_24 (v := 1) (by decide) ?_
        have jn_3055 : ∀ (v_3056 : Int32) (b_3057 : (0 ≤ v_3056.toInt ∧ v_3056.toInt ≤ 15)), V z E 7 0 0 L f_2970 50 [(3, .int i_2968), (2, .int i_2969), (0, .ref a_0), (1, .int a_1)] [.int v_3056] := by
          intro v_3056 b_3057
          refine v_istore hC dX12_lists_50 (by decide) (lv' := [(4, .int v_3056), (3, .int i_2968), (2, .int i_2969), (0, .ref a_0), (1, .int a_1)]) rfl ?_
          refine v_aload_n hC dX12_lists_52 rfl ?_
          refine v_iload_n hC dX12_lists_53 rfl ?_
          refine v_iconst hC dX12_lists_54 (v := 5) (by decide) ?_
          refine v_vi hC (rest := []) m_1 e_2982 rfl mi_X12_ofWay ms_X12_ofWay (p_X12_ofWay hW_2971 k_0 (by first | omega | (simp only [Int32.lt_iff_toInt_lt, Int32.le_iff_toInt_le, Int32.reduceToInt, ← Int32.toInt_inj, true_and, and_true, or_true, true_or, false_or, or_false, false_and, and_false, not_true_eq_false, not_false_eq_true] <;> omega)) (by decide) hf_2973 o_w) mx_X12_ofWay ml_X12_94 (by decide) rfl (cells1 := 0) (slots1 := 0) (by decide) (by decide) (Nat.le_of_ble_eq_true rfl) (Nat.le_of_ble_eq_true rfl) rfl (Nat.le_of_ble_eq_true rfl) dX12_lists_55 (fun r_3058 L_3059 f_3060 h_3061 => ?_)
          obtain ⟨rfl, rfl, rfl⟩ := h_3061
          refine v_iconst hC dX12_lists_58 (v := 1) (by decide) ?_
          have jn_3109 : ∀ (v_3110 : Int32) (b_3111 : (0 ≤ v_3110.toInt ∧ v_3110.toInt ≤ 15)), V z E 7 0 0 L f_2970 92 [(4, .int v_3056), (3, .int i_2968), (2, .int i_2969), (0, .ref a_0), (1, .int a_1)] [.int v_3110] := by
            intro v_3110 b_3111
            refine v_istore hC dX12_lists_92 (by decide) (lv' := [(5, .int v_3110), (4, .int v_3056), (3, .int i_2968), (2, .int i_2969), (0, .ref a_0), (1, .int a_1)]) rfl ?_
            refine v_iload hC dX12_lists_94 rfl ?_
            refine v_aload_n hC dX12_lists_96 rfl ?_
            refine v_vi hC (rest := [.int v_3056]) m_1 e_2982 rfl mi_X12_wide ms_X12_wide (p_X12_wide hW_2971 k_0 hf_2973 o_w) mx_X12_wide ml_X12_87 (by decide) rfl (cells1 := 0) (slots1 := 0) (by decide) (by decide) (Nat.le_of_ble_eq_true rfl) (Nat.le_of_ble_eq_true rfl) rfl (Nat.le_of_ble_eq_true rfl) dX12_lists_97 (fun r_3112 L_3113 f_3114 h_3115 => ?_)
            obtain ⟨rfl, rfl, rfl⟩ := h_3115
            obtain ⟨v_3118, h_3119⟩ : ∃ v9 : Int32, v_3056 * (g_w 1) = v9 := ⟨_, rfl⟩
            refine v_imul hC dX12_lists_100 h_3119 ?_
            have h_3120 := mul_v 15 16 240 h_3119 (by first | omega | (simp only [Int32.lt_iff_toInt_lt, Int32.le_iff_toInt_le, Int32.reduceToInt, ← Int32.toInt_inj, true_and, and_true, or_true, true_or, false_or, or_false, false_and, and_false, not_true_eq_false, not_false_eq_true] <;> omega)) (by first | omega | (simp only [Int32.lt_iff_toInt_lt, Int32.le_iff_toInt_le, Int32.reduceToInt, ← Int32.toInt_inj, true_and, and_true, or_true, true_or, false_or, or_false, false_and, and_false, not_true_eq_false, not_false_eq_true] <;> omega)) (by decide) (by decide)
            refine v_iload hC dX12_lists_101 rfl ?_
            obtain ⟨v_3121, h_3122⟩ : ∃ v9 : Int32, v_3118 + v_3110 = v9 := ⟨_, rfl⟩
            refine v_iadd hC dX12_lists_103 h_3122 ?_
            have h_3123 := add_v h_3122 (by first | omega | (simp only [Int32.lt_iff_toInt_lt, Int32.le_iff_toInt_le, Int32.reduceToInt, ← Int32.toInt_inj, true_and, and_true, or_true, true_or, false_or, or_false, false_and, and_false, not_true_eq_false, not_false_eq_true] <;> omega)) (by first | omega | (simp only [Int32.lt_iff_toInt_lt, Int32.le_iff_toInt_le, Int32.reduceToInt, ← Int32.toInt_inj, true_and, and_true, or_true, true_or, false_or, or_false, false_and, and_false, not_true_eq_false, not_false_eq_true] <;> omega))
            refine v_istore hC dX12_lists_104 (by decide) (lv' := [(6, .int v_3121), (5, .int v_3110), (4, .int v_3056), (3, .int i_2968), (2, .int i_2969), (0, .ref a_0), (1, .int a_1)]) rfl ?_
            refine v_aload_n hC dX12_lists_106 rfl ?_
            refine v_iload_n hC dX12_lists_107 rfl ?_
            refine v_iconst hC dX12_lists_108 (v := 1) (by decide) ?_
            refine v_vi hC (rest := []) m_1 e_2982 rfl mi_X12_ofWay ms_X12_ofWay (p_X12_ofWay hW_2971 k_0 (by first | omega | (simp only [Int32.lt_iff_toInt_lt, Int32.le_iff_toInt_le, Int32.reduceToInt, ← Int32.toInt_inj, true_and, and_true, or_true, true_or, false_or, or_false, false_and, and_false, not_true_eq_false, not_false_eq_true] <;> omega)) (by decide) hf_2973 o_w) mx_X12_ofWay ml_X12_94 (by decide) rfl (cells1 := 0) (slots1 := 0) (by decide) (by decide) (Nat.le_of_ble_eq_true rfl) (Nat.le_of_ble_eq_true rfl) rfl (Nat.le_of_ble_eq_true rfl) dX12_lists_109 (fun r_3124 L_3125 f_3126 h_3127 => ?_)
            obtain ⟨rfl, rfl, rfl⟩ := h_3127
            refine v_aload_n hC dX12_lists_112 rfl ?_
            refine v_iload hC dX12_lists_113 rfl ?_
            refine v_vi hC (rest := [.int (wv g_w a_1 1)]) m_1 e_2982 rfl mi_X12_sortOf ms_X12_sortOf (p_X12_sortOf hW_2971 k_0 (by first | omega | (simp only [Int32.lt_iff_toInt_lt, Int32.le_iff_toInt_le, Int32.reduceToInt, ← Int32.toInt_inj, true_and, and_true, or_true, true_or, false_or, or_false, false_and, and_false, not_true_eq_false, not_false_eq_true] <;> omega)) hf_2973 o_w (by first | omega | (simp only [Int32.lt_iff_toInt_lt, Int32.le_iff_toInt_le, Int32.reduceToInt, ← Int32.toInt_inj, true_and, and_true, or_true, true_or, false_or, or_false, false_and, and_false, not_true_eq_false, not_false_eq_true] <;> omega))) mx_X12_sortOf ml_X12_98 (by decide) rfl (cells1 := 0) (slots1 := 0) (by decide) (by decide) (Nat.le_of_ble_eq_true rfl) (Nat.le_of_ble_eq_true rfl) rfl (Nat.le_of_ble_eq_true rfl) dX12_lists_115 (fun r_3130 L_3131 f_3132 h_3133 => ?_)
            obtain ⟨rfl, rfl, b_3134⟩ := h_3133
            obtain ⟨v_3137, h_3138⟩ : ∃ v9 : Int32, (wv g_w a_1 1) >>> (r_3130 &&& 31) = v9 := ⟨_, rfl⟩
            refine v_ishr hC dX12_lists_118 h_3138 ?_
            refine v_iconst hC dX12_lists_119 (v := 1) (by decide) ?_
            obtain ⟨v_3140, h_3141⟩ : ∃ v9 : Int32, v_3137 &&& 1 = v9 := ⟨_, rfl⟩
            refine v_iand hC dX12_lists_120 h_3141 ?_
            have h_3142 := and_v h_3141 (by decide)
            try simp only [Int32.reduceToInt] at h_3142
            refine v_if_ne hC dX12_lists_121 (tgt := 127) (by decide) (fun h_3143 => ?_) (fun h_3143 => ?_)
            · simp only [Int32.lt_iff_toInt_lt, Int32.le_iff_toInt_le, Int32.reduceToInt, ← Int32.toInt_inj] at h_3143
              obtain ⟨v_3144, h_3145⟩ : ∃ v9 : Int32, i_2969 + Int32.ofInt 1 = v9 := ⟨_, rfl⟩
              refine v_iinc hC dX12_lists_127 (k := 4) rfl (v := v_3144) h_3145 (by decide) (lv' := [(2, .int v_3144), (6, .int v_3121), (5, .int v_3110), (4, .int v_3056), (3, .int i_2968), (0, .ref a_0), (1, .int a_1)]) rfl ?_
              refine v_iload_n hC dX12_lists_130 rfl ?_
              refine v_aload_n hC dX12_lists_131 rfl ?_
              refine v_iload_n hC dX12_lists_132 rfl ?_
              refine v_iconst hC dX12_lists_133 (v := 2) (by decide) ?_
              refine v_vi hC (rest := [.int v_3144]) m_1 e_2982 rfl mi_X12_ofWay ms_X12_ofWay (p_X12_ofWay hW_2971 k_0 (by first | omega | (simp only [Int32.lt_iff_toInt_lt, Int32.le_iff_toInt_le, Int32.reduceToInt, ← Int32.toInt_inj, true_and, and_true, or_true, true_or, false_or, or_false, false_and, and_false, not_true_eq_false, not_false_eq_true] <;> omega)) (by decide) hf_2973 o_w) mx_X12_ofWay ml_X12_94 (by decide) rfl (cells1 := 0) (slots1 := 0) (by decide) (by decide) (Nat.le_of_ble_eq_true rfl) (Nat.le_of_ble_eq_true rfl) rfl (Nat.le_of_ble_eq_true rfl) dX12_lists_134 (fun r_3146 L_3147 f_3148 h_3149 => ?_)
              obtain ⟨rfl, rfl, rfl⟩ := h_3149
              obtain ⟨v_3152, h_3153⟩ : ∃ v9 : Int32, v_3144 - v_3144 / (wv g_w a_1 2) * (wv g_w a_1 2) = v9 := ⟨_, rfl⟩
              refine v_irem hC dX12_lists_137 (by first | omega | (simp only [Int32.lt_iff_toInt_lt, Int32.le_iff_toInt_le, Int32.reduceToInt, ← Int32.toInt_inj, true_and, and_true, or_true, true_or, false_or, or_false, false_and, and_false, not_true_eq_false, not_false_eq_true] <;> omega)) h_3153 ?_
              refine v_if_eq hC dX12_lists_138 (tgt := 144) (by decide) (fun h_3155 => ?_) (fun h_3155 => ?_)
              · simp only [Int32.lt_iff_toInt_lt, Int32.le_iff_toInt_le, Int32.reduceToInt, ← Int32.toInt_inj] at h_3155
                refine v_aload_n hC dX12_lists_144 rfl ?_
                refine v_get hC fl_X12_40 m_1 e_2982 rfl dX12_lists_145 ?_
                refine v_aload_n hC dX12_lists_148 rfl ?_
                refine v_get hC fl_X12_335 m_1 e_2982 rfl dX12_lists_149 ?_
                refine v_iload hC dX12_lists_152 rfl ?_
                obtain ⟨m_3156, t_3157⟩ := id k_10
                obtain ⟨g_3159, e_3158, ok_3160⟩ := hW_2971.at m_3156 t_3157
                refine v_iast hC m_3156 e_3158 (vp_in_iff.mpr (by first | omega | (simp only [Int32.lt_iff_toInt_lt, Int32.le_iff_toInt_le, Int32.reduceToInt, ← Int32.toInt_inj, true_and, and_true, or_true, true_or, false_or, or_false, false_and, and_false, not_true_eq_false, not_false_eq_true] <;> omega))) dX12_lists_154 (fun f_3161 hf_3162 hk_3163 => ?_)
                have hW_3165 := hW_2971.up hf_3162 hk_3163 t_3157 ⟨_, rfl, (ok_3160.up (by first | omega | (simp only [Int32.lt_iff_toInt_lt, Int32.le_iff_toInt_le, Int32.reduceToInt, ← Int32.toInt_inj, true_and, and_true, or_true, true_or, false_or, or_false, false_and, and_false, not_true_eq_false, not_false_eq_true] <;> omega)))⟩
                obtain ⟨g_3164, hf_3162, ok_3166, eg_3167⟩ : ∃ g9, f_3161 (q 16) = aI E 256 g9 ∧ POK g9 ∧ g9 = upd g_3159 (v_2997 : Int32).toNatClampNeg v_3121 := ⟨_, hf_3162, (ok_3160.up (by first | omega | (simp only [Int32.lt_iff_toInt_lt, Int32.le_iff_toInt_le, Int32.reduceToInt, ← Int32.toInt_inj, true_and, and_true, or_true, true_or, false_or, or_false, false_and, and_false, not_true_eq_false, not_false_eq_true] <;> omega))), rfl⟩
                have hf_3168 := (hk_3163 (q 1) (ne_kd hf_2973 e_3158 rfl)).trans hf_2973
                have hf_3169 := (hk_3163 a_0 (ne_kd e_2982 e_3158 rfl)).trans e_2982
                have fr_3170 := FR.w hk_3163 e_3158 (k := 356) rfl
                refine v_aload_n hC dX12_lists_155 rfl ?_
                refine v_dup hC dX12_lists_156 rfl ?_
                refine v_get hC fl_X12_335 m_1 hf_3169 rfl dX12_lists_157 ?_
                refine v_iconst hC dX12_lists_160 (v := 1) (by decide) ?_
                obtain ⟨v_3171, h_3172⟩ : ∃ v9 : Int32, v_2997 + 1 = v9 := ⟨_, rfl⟩
                refine v_iadd hC dX12_lists_161 h_3172 ?_
                have h_3173 := add_v h_3172 (by first | omega | (simp only [Int32.lt_iff_toInt_lt, Int32.le_iff_toInt_le, Int32.reduceToInt, ← Int32.toInt_inj, true_and, and_true, or_true, true_or, false_or, or_false, false_and, and_false, not_true_eq_false, not_false_eq_true] <;> omega)) (by first | omega | (simp only [Int32.lt_iff_toInt_lt, Int32.le_iff_toInt_le, Int32.reduceToInt, ← Int32.toInt_inj, true_and, and_true, or_true, true_or, false_or, or_false, false_and, and_false, not_true_eq_false, not_false_eq_true] <;> omega))
                try simp only [Int32.reduceToInt] at h_3173
                refine v_put hC fl_X12_335 m_1 hf_3169 rfl rfl (Nat.le_of_ble_eq_true rfl) (fs' := [.int v_2983, .ref (q 1), .ref (q 2), .ref (q 3), .ref (q 4), .int v_2984, .ref (q 6), .int v_2986, .int v_2988, .int v_2990, .int v_2992, .int v_2994, .int v_2995, .int v_2996, .ref (q 14), .ref (q 15), .ref (q 16), .int v_3171, .ref (q 18), .ref (q 19), .int v_2999, .ref (q 21), .ref (q 22), .ref (q 23), .ref (q 24), .ref (q 25), .ref (q 26), .ref (q 27), .ref (q 28)]) rfl dX12_lists_162 (fun f_3174 hf_3175 hk_3176 => ?_)
                have hW_3177 := hW_3165.up hf_3175 hk_3176 t_2 ⟨v_2983, v_2984, v_2986, v_2988, v_2990, v_2992, v_2994, v_2995, v_2996, v_3171, v_2999, rfl, (by first | omega | (simp only [Int32.lt_iff_toInt_lt, Int32.le_iff_toInt_le, Int32.reduceToInt, ← Int32.toInt_inj, true_and, and_true, or_true, true_or, false_or, or_false, false_and, and_false, not_true_eq_false, not_false_eq_true] <;> omega)), (by first | omega | (simp only [Int32.lt_iff_toInt_lt, Int32.le_iff_toInt_le, Int32.reduceToInt, ← Int32.toInt_inj, true_and, and_true, or_true, true_or, false_or, or_false, false_and, and_false, not_true_eq_false, not_false_eq_true] <;> omega)), (by first | omega | (simp only [Int32.lt_iff_toInt_lt, Int32.le_iff_toInt_le, Int32.reduceToInt, ← Int32.toInt_inj, true_and, and_true, or_true, true_or, false_or, or_false, false_and, and_false, not_true_eq_false, not_false_eq_true] <;> omega)), (by first | omega | (simp only [Int32.lt_iff_toInt_lt, Int32.le_iff_toInt_le, Int32.reduceToInt, ← Int32.toInt_inj, true_and, and_true, or_true, true_or, false_or, or_false, false_and, and_false, not_true_eq_false, not_false_eq_true] <;> omega)), (by first | omega | (simp only [Int32.lt_iff_toInt_lt, Int32.le_iff_toInt_le, Int32.reduceToInt, ← Int32.toInt_inj, true_and, and_true, or_true, true_or, false_or, or_false, false_and, and_false, not_true_eq_false, not_false_eq_true] <;> omega)), (by first | omega | (simp only [Int32.lt_iff_toInt_lt, Int32.le_iff_toInt_le, Int32.reduceToInt, ← Int32.toInt_inj, true_and, and_true, or_true, true_or, false_or, or_false, false_and, and_false, not_true_eq_false, not_false_eq_true] <;> omega)), (by first | omega | (simp only [Int32.lt_iff_toInt_lt, Int32.le_iff_toInt_le, Int32.reduceToInt, ← Int32.toInt_inj, true_and, and_true, or_true, true_or, false_or, or_false, false_and, and_false, not_true_eq_false, not_false_eq_true] <;> omega))⟩
                have hf_3178 := (hk_3176 (q 1) (ne_kd hf_3168 hf_3169 rfl)).trans hf_3168
                have hf_3179 := (hk_3176 (q 16) (ne_kd hf_3162 hf_3169 rfl)).trans hf_3162
                have fr_3180 := FR.w hk_3176 hf_3169 (k := 12) rfl
                obtain ⟨v_3181, h_3182⟩ : ∃ v9 : Int32, i_2968 + Int32.ofInt 1 = v9 := ⟨_, rfl⟩
                have h_3183 := add_v (b := 1) h_3182 (by first | omega | (simp only [Int32.lt_iff_toInt_lt, Int32.le_iff_toInt_le, Int32.reduceToInt, ← Int32.toInt_inj, true_and, and_true, or_true, true_or, false_or, or_false, false_and, and_false, not_true_eq_false, not_false_eq_true] <;> omega)) (by first | omega | (simp only [Int32.lt_iff_toInt_lt, Int32.le_iff_toInt_le, Int32.reduceToInt, ← Int32.toInt_inj, true_and, and_true, or_true, true_or, false_or, or_false, false_and, and_false, not_true_eq_false, not_false_eq_true] <;> omega))
                simp only [Int32.reduceToInt] at h_3183
                refine v_iinc hC dX12_lists_165 (k := 4) rfl (v := v_3181) h_3182 (by decide) (lv' := [(3, .int v_3181), (2, .int v_3144), (6, .int v_3121), (5, .int v_3110), (4, .int v_3056), (0, .ref a_0), (1, .int a_1)]) rfl ?_
                refine v_goto hC dX12_lists_168 (tgt := 9) (by decide) ?_
                refine v_pick [0, 1, 5, 6] rfl ?_
                have fe_3184 : fld (f_3174 a_0) 17 = (v_3171 : Int32).toInt := by rw [hf_3175]; rfl
                have fe_3185 : fld (f_3174 a_0) 20 = (v_2999 : Int32).toInt := by rw [hf_3175]; rfl
                exact ih_2980 f_3174 hW_3177 (((hF_2972.tr fr_3170).tr fr_3180).mono rfl) v_3181 (by first | omega | (simp only [Int32.lt_iff_toInt_lt, Int32.le_iff_toInt_le, Int32.reduceToInt, ← Int32.toInt_inj, true_and, and_true, or_true, true_or, false_or, or_false, false_and, and_false, not_true_eq_false, not_false_eq_true] <;> omega)) v_3144 (by rw [fe_3184] <;> first | omega | (simp only [Int32.lt_iff_toInt_lt, Int32.le_iff_toInt_le, Int32.reduceToInt, ← Int32.toInt_inj, true_and, and_true, or_true, true_or, false_or, or_false, false_and, and_false, not_true_eq_false, not_false_eq_true] <;> omega)) (by first | omega | (simp only [Int32.lt_iff_toInt_lt, Int32.le_iff_toInt_le, Int32.reduceToInt, ← Int32.toInt_inj, true_and, and_true, or_true, true_or, false_or, or_false, false_and, and_false, not_true_eq_false, not_false_eq_true] <;> omega)) (by rw [fe_3185] <;> first | omega | (simp only [Int32.lt_iff_toInt_lt, Int32.le_iff_toInt_le, Int32.reduceToInt, ← Int32.toInt_inj, true_and, and_true, or_true, true_or, false_or, or_false, false_and, and_false, not_true_eq_false, not_false_eq_true] <;> omega)) (by first | omega | (simp only [Int32.lt_iff_toInt_lt, Int32.le_iff_toInt_le, Int32.reduceToInt, ← Int32.toInt_inj, true_and, and_true, or_true, true_or, false_or, or_false, false_and, and_false, not_true_eq_false, not_false_eq_true] <;> omega))
              · simp only [Int32.lt_iff_toInt_lt, Int32.le_iff_toInt_le, Int32.reduceToInt, ← Int32.toInt_inj] at h_3155
                refine v_goto hC dX12_lists_141 (tgt := 165) (by decide) ?_
                obtain ⟨v_3186, h_3187⟩ : ∃ v9 : Int32, i_2968 + Int32.ofInt 1 = v9 := ⟨_, rfl⟩
                have h_3188 := add_v (b := 1) h_3187 (by first | omega | (simp only [Int32.lt_iff_toInt_lt, Int32.le_iff_toInt_le, Int32.reduceToInt, ← Int32.toInt_inj, true_and, and_true, or_true, true_or, false_or, or_false, false_and, and_false, not_true_eq_false, not_false_eq_true] <;> omega)) (by first | omega | (simp only [Int32.lt_iff_toInt_lt, Int32.le_iff_toInt_le, Int32.reduceToInt, ← Int32.toInt_inj, true_and, and_true, or_true, true_or, false_or, or_false, false_and, and_false, not_true_eq_false, not_false_eq_true] <;> omega))
                simp only [Int32.reduceToInt] at h_3188
                refine v_iinc hC dX12_lists_165 (k := 4) rfl (v := v_3186) h_3187 (by decide) (lv' := [(3, .int v_3186), (2, .int v_3144), (6, .int v_3121), (5, .int v_3110), (4, .int v_3056), (0, .ref a_0), (1, .int a_1)]) rfl ?_
                refine v_goto hC dX12_lists_168 (tgt := 9) (by decide) ?_
                refine v_pick [0, 1, 5, 6] rfl ?_
                have fe_3189 : fld (f_2970 a_0) 17 = (v_2997 : Int32).toInt := by rw [e_2982]; rfl
                have fe_3190 : fld (f_2970 a_0) 20 = (v_2999 : Int32).toInt := by rw [e_2982]; rfl
                exact ih_2980 f_2970 hW_2971 (hF_2972.mono rfl) v_3186 (by first | omega | (simp only [Int32.lt_iff_toInt_lt, Int32.le_iff_toInt_le, Int32.reduceToInt, ← Int32.toInt_inj, true_and, and_true, or_true, true_or, false_or, or_false, false_and, and_false, not_true_eq_false, not_false_eq_true] <;> omega)) v_3144 (by rw [fe_3189] <;> first | omega | (simp only [Int32.lt_iff_toInt_lt, Int32.le_iff_toInt_le, Int32.reduceToInt, ← Int32.toInt_inj, true_and, and_true, or_true, true_or, false_or, or_false, false_and, and_false, not_true_eq_false, not_false_eq_true] <;> omega)) (by first | omega | (simp only [Int32.lt_iff_toInt_lt, Int32.le_iff_toInt_le, Int32.reduceToInt, ← Int32.toInt_inj, true_and, and_true, or_true, true_or, false_or, or_false, false_and, and_false, not_true_eq_false, not_false_eq_true] <;> omega)) (by rw [fe_3190] <;> first | omega | (simp only [Int32.lt_iff_toInt_lt, Int32.le_iff_toInt_le, Int32.reduceToInt, ← Int32.toInt_inj, true_and, and_true, or_true, true_or, false_or, or_false, false_and, and_false, not_true_eq_false, not_false_eq_true] <;> omega)) (by first | omega | (simp only [Int32.lt_iff_toInt_lt, Int32.le_iff_toInt_le, Int32.reduceToInt, ← Int32.toInt_inj, true_and, and_true, or_true, true_or, false_or, or_false, false_and, and_false, not_true_eq_false, not_false_eq_true] <;> omega))
            · simp only [Int32.lt_iff_toInt_lt, Int32.le_iff_toInt_le, Int32.reduceToInt, ← Int32.toInt_inj] at h_3143
              refine v_goto hC dX12_lists_124 (tgt := 165) (by decide) ?_
              obtain ⟨v_3191, h_3192⟩ : ∃ v9 : Int32, i_2968 + Int32.ofInt 1 = v9 := ⟨_, rfl⟩
              have h_3193 := add_v (b := 1) h_3192 (by first | omega | (simp only [Int32.lt_iff_toInt_lt, Int32.le_iff_toInt_le, Int32.reduceToInt, ← Int32.toInt_inj, true_and, and_true, or_true, true_or, false_or, or_false, false_and, and_false, not_true_eq_false, not_false_eq_true] <;> omega)) (by first | omega | (simp only [Int32.lt_iff_toInt_lt, Int32.le_iff_toInt_le, Int32.reduceToInt, ← Int32.toInt_inj, true_and, and_true, or_true, true_or, false_or, or_false, false_and, and_false, not_true_eq_false, not_false_eq_true] <;> omega))
              simp only [Int32.reduceToInt] at h_3193
              refine v_iinc hC dX12_lists_165 (k := 3) rfl (v := v_3191) h_3192 (by decide) (lv' := [(3, .int v_3191), (6, .int v_3121), (5, .int v_3110), (4, .int v_3056), (2, .int i_2969), (0, .ref a_0), (1, .int a_1)]) rfl ?_
              refine v_goto hC dX12_lists_168 (tgt := 9) (by decide) ?_
              refine v_pick [0, 4, 5, 6] rfl ?_
              have fe_3194 : fld (f_2970 a_0) 17 = (v_2997 : Int32).toInt := by rw [e_2982]; rfl
              have fe_3195 : fld (f_2970 a_0) 20 = (v_2999 : Int32).toInt := by rw [e_2982]; rfl
              exact ih_2980 f_2970 hW_2971 (hF_2972.mono rfl) v_3191 (by first | omega | (simp only [Int32.lt_iff_toInt_lt, Int32.le_iff_toInt_le, Int32.reduceToInt, ← Int32.toInt_inj, true_and, and_true, or_true, true_or, false_or, or_false, false_and, and_false, not_true_eq_false, not_false_eq_true] <;> omega)) i_2969 (by rw [fe_3194] <;> first | omega | (simp only [Int32.lt_iff_toInt_lt, Int32.le_iff_toInt_le, Int32.reduceToInt, ← Int32.toInt_inj, true_and, and_true, or_true, true_or, false_or, or_false, false_and, and_false, not_true_eq_false, not_false_eq_true] <;> omega)) (by first | omega | (simp only [Int32.lt_iff_toInt_lt, Int32.le_iff_toInt_le, Int32.reduceToInt, ← Int32.toInt_inj, true_and, and_true, or_true, true_or, false_or, or_false, false_and, and_false, not_true_eq_false, not_false_eq_true] <;> omega)) (by rw [fe_3195] <;> first | omega | (simp only [Int32.lt_iff_toInt_lt, Int32.le_iff_toInt_le, Int32.reduceToInt, ← Int32.toInt_inj, true_and, and_true, or_true, true_or, false_or, or_false, false_and, and_false, not_true_eq_false, not_false_eq_true] <;> omega)) (by first | omega | (simp only [Int32.lt_iff_toInt_lt, Int32.le_iff_toInt_le, Int32.reduceToInt, ← Int32.toInt_inj, true_and, and_true, or_true, true_or, false_or, or_false, false_and, and_false, not_true_eq_false, not_false_eq_true] <;> omega))
          refine v_icmp_ne hC dX12_lists_59 (tgt := 86) (by decide) (fun h_3064 => ?_) (fun h_3064 => ?_)
          · simp only [Int32.lt_iff_toInt_lt, Int32.le_iff_toInt_le, Int32.reduceToInt, ← Int32.toInt_inj] at h_3064
            refine v_iload_n hC dX12_lists_86 rfl ?_
            refine v_aload_n hC dX12_lists_87 rfl ?_
            refine v_vi hC (rest := [.int i_2968]) m_1 e_2982 rfl mi_X12_wide ms_X12_wide (p_X12_wide hW_2971 k_0 hf_2973 o_w) mx_X12_wide ml_X12_87 (by decide) rfl (cells1 := 0) (slots1 := 0) (by decide) (by decide) (Nat.le_of_ble_eq_true rfl) (Nat.le_of_ble_eq_true rfl) rfl (Nat.le_of_ble_eq_true rfl) dX12_lists_88 (fun r_3196 L_3197 f_3198 h_3199 => ?_)
            obtain ⟨rfl, rfl, rfl⟩ := h_3199
            obtain ⟨v_3202, h_3203⟩ : ∃ v9 : Int32, i_2968 - i_2968 / (g_w 1) * (g_w 1) = v9 := ⟨_, rfl⟩
            refine v_irem hC dX12_lists_91 (by first | omega | (simp only [Int32.lt_iff_toInt_lt, Int32.le_iff_toInt_le, Int32.reduceToInt, ← Int32.toInt_inj, true_and, and_true, or_true, true_or, false_or, or_false, false_and, and_false, not_true_eq_false, not_false_eq_true] <;> omega)) h_3203 ?_
            have h_3204 := rem_v h_3203 (by first | omega | (simp only [Int32.lt_iff_toInt_lt, Int32.le_iff_toInt_le, Int32.reduceToInt, ← Int32.toInt_inj, true_and, and_true, or_true, true_or, false_or, or_false, false_and, and_false, not_true_eq_false, not_false_eq_true] <;> omega)) (by first | omega | (simp only [Int32.lt_iff_toInt_lt, Int32.le_iff_toInt_le, Int32.reduceToInt, ← Int32.toInt_inj, true_and, and_true, or_true, true_or, false_or, or_false, false_and, and_false, not_true_eq_false, not_false_eq_true] <;> omega))
            refine v_pick [0, 1, 2, 3, 4] rfl ?_
            exact jn_3109 v_3202 (by first | omega | (simp only [Int32.lt_iff_toInt_lt, Int32.le_iff_toInt_le, Int32.reduceToInt, ← Int32.toInt_inj, true_and, and_true, or_true, true_or, false_or, or_false, false_and, and_false, not_true_eq_false, not_false_eq_true] <;> omega))
          · simp only [Int32.lt_iff_toInt_lt, Int32.le_iff_toInt_le, Int32.reduceToInt, ← Int32.toInt_inj] at h_3064
            refine v_iload hC dX12_lists_62 rfl ?_
            refine v_iconst hC dX12_lists_64 (v := 2) (by decide) ?_
            obtain ⟨v_3205, h_3206⟩ : ∃ v9 : Int32, v_3056 - v_3056 / 2 * 2 = v9 := ⟨_, rfl⟩
            refine v_irem hC dX12_lists_65 (by decide) h_3206 ?_
            have h_3207 := rem_v h_3206 (by first | omega | (simp only [Int32.lt_iff_toInt_lt, Int32.le_iff_toInt_le, Int32.reduceToInt, ← Int32.toInt_inj, true_and, and_true, or_true, true_or, false_or, or_false, false_and, and_false, not_true_eq_false, not_false_eq_true] <;> omega)) (by decide)
            try simp only [Int32.reduceToInt] at h_3207
            refine v_iconst hC dX12_lists_66 (v := 1) (by decide) ?_
            refine v_icmp_ne hC dX12_lists_67 (tgt := 86) (by decide) (fun h_3208 => ?_) (fun h_3208 => ?_)
            · simp only [Int32.lt_iff_toInt_lt, Int32.le_iff_toInt_le, Int32.reduceToInt, ← Int32.toInt_inj] at h_3208
              refine v_iload_n hC dX12_lists_86 rfl ?_
              refine v_aload_n hC dX12_lists_87 rfl ?_
              refine v_vi hC (rest := [.int i_2968]) m_1 e_2982 rfl mi_X12_wide ms_X12_wide (p_X12_wide hW_2971 k_0 hf_2973 o_w) mx_X12_wide ml_X12_87 (by decide) rfl (cells1 := 0) (slots1 := 0) (by decide) (by decide) (Nat.le_of_ble_eq_true rfl) (Nat.le_of_ble_eq_true rfl) rfl (Nat.le_of_ble_eq_true rfl) dX12_lists_88 (fun r_3209 L_3210 f_3211 h_3212 => ?_)
              obtain ⟨rfl, rfl, rfl⟩ := h_3212
              obtain ⟨v_3215, h_3216⟩ : ∃ v9 : Int32, i_2968 - i_2968 / (g_w 1) * (g_w 1) = v9 := ⟨_, rfl⟩
              refine v_irem hC dX12_lists_91 (by first | omega | (simp only [Int32.lt_iff_toInt_lt, Int32.le_iff_toInt_le, Int32.reduceToInt, ← Int32.toInt_inj, true_and, and_true, or_true, true_or, false_or, or_false, false_and, and_false, not_true_eq_false, not_false_eq_true] <;> omega)) h_3216 ?_
              have h_3217 := rem_v h_3216 (by first | omega | (simp only [Int32.lt_iff_toInt_lt, Int32.le_iff_toInt_le, Int32.reduceToInt, ← Int32.toInt_inj, true_and, and_true, or_true, true_or, false_or, or_false, false_and, and_false, not_true_eq_false, not_false_eq_true] <;> omega)) (by first | omega | (simp only [Int32.lt_iff_toInt_lt, Int32.le_iff_toInt_le, Int32.reduceToInt, ← Int32.toInt_inj, true_and, and_true, or_true, true_or, false_or, or_false, false_and, and_false, not_true_eq_false, not_false_eq_true] <;> omega))
              refine v_pick [0, 1, 2, 3, 4] rfl ?_
              exact jn_3109 v_3215 (by first | omega | (simp only [Int32.lt_iff_toInt_lt, Int32.le_iff_toInt_le, Int32.reduceToInt, ← Int32.toInt_inj, true_and, and_true, or_true, true_or, false_or, or_false, false_and, and_false, not_true_eq_false, not_false_eq_true] <;> omega))
            · simp only [Int32.lt_iff_toInt_lt, Int32.le_iff_toInt_le, Int32.reduceToInt, ← Int32.toInt_inj] at h_3208
              refine v_aload_n hC dX12_lists_70 rfl ?_
              refine v_vi hC (rest := []) m_1 e_2982 rfl mi_X12_wide ms_X12_wide (p_X12_wide hW_2971 k_0 hf_2973 o_w) mx_X12_wide ml_X12_87 (by decide) rfl (cells1 := 0) (slots1 := 0) (by decide) (by decide) (Nat.le_of_ble_eq_true rfl) (Nat.le_of_ble_eq_true rfl) rfl (Nat.le_of_ble_eq_true rfl) dX12_lists_71 (fun r_3218 L_3219 f_3220 h_3221 => ?_)
              obtain ⟨rfl, rfl, rfl⟩ := h_3221
              refine v_iconst hC dX12_lists_74 (v := 1) (by decide) ?_
              obtain ⟨v_3224, h_3225⟩ : ∃ v9 : Int32, (g_w 1) - 1 = v9 := ⟨_, rfl⟩
              refine v_isub hC dX12_lists_75 h_3225 ?_
              have h_3226 := sub_v h_3225 (by first | omega | (simp only [Int32.lt_iff_toInt_lt, Int32.le_iff_toInt_le, Int32.reduceToInt, ← Int32.toInt_inj, true_and, and_true, or_true, true_or, false_or, or_false, false_and, and_false, not_true_eq_false, not_false_eq_true] <;> omega)) (by first | omega | (simp only [Int32.lt_iff_toInt_lt, Int32.le_iff_toInt_le, Int32.reduceToInt, ← Int32.toInt_inj, true_and, and_true, or_true, true_or, false_or, or_false, false_and, and_false, not_true_eq_false, not_false_eq_true] <;> omega))
              try simp only [Int32.reduceToInt] at h_3226
              refine v_iload_n hC dX12_lists_76 rfl ?_
              refine v_aload_n hC dX12_lists_77 rfl ?_
              refine v_vi hC (rest := [.int i_2968, .int v_3224]) m_1 e_2982 rfl mi_X12_wide ms_X12_wide (p_X12_wide hW_2971 k_0 hf_2973 o_w) mx_X12_wide ml_X12_87 (by decide) rfl (cells1 := 0) (slots1 := 0) (by decide) (by decide) (Nat.le_of_ble_eq_true rfl) (Nat.le_of_ble_eq_true rfl) rfl (Nat.le_of_ble_eq_true rfl) dX12_lists_78 (fun r_3227 L_3228 f_3229 h_3230 => ?_)
              obtain ⟨rfl, rfl, rfl⟩ := h_3230
              obtain ⟨v_3233, h_3234⟩ : ∃ v9 : Int32, i_2968 - i_2968 / (g_w 1) * (g_w 1) = v9 := ⟨_, rfl⟩
              refine v_irem hC dX12_lists_81 (by first | omega | (simp only [Int32.lt_iff_toInt_lt, Int32.le_iff_toInt_le, Int32.reduceToInt, ← Int32.toInt_inj, true_and, and_true, or_true, true_or, false_or, or_false, false_and, and_false, not_true_eq_false, not_false_eq_true] <;> omega)) h_3234 ?_
              have h_3235 := rem_v h_3234 (by first | omega | (simp only [Int32.lt_iff_toInt_lt, Int32.le_iff_toInt_le, Int32.reduceToInt, ← Int32.toInt_inj, true_and, and_true, or_true, true_or, false_or, or_false, false_and, and_false, not_true_eq_false, not_false_eq_true] <;> omega)) (by first | omega | (simp only [Int32.lt_iff_toInt_lt, Int32.le_iff_toInt_le, Int32.reduceToInt, ← Int32.toInt_inj, true_and, and_true, or_true, true_or, false_or, or_false, false_and, and_false, not_true_eq_false, not_false_eq_true] <;> omega))
              obtain ⟨v_3236, h_3237⟩ : ∃ v9 : Int32, v_3224 - v_3233 = v9 := ⟨_, rfl⟩
              refine v_isub hC dX12_lists_82 h_3237 ?_
              have h_3238 := sub_v h_3237 (by first | omega | (simp only [Int32.lt_iff_toInt_lt, Int32.le_iff_toInt_le, Int32.reduceToInt, ← Int32.toInt_inj, true_and, and_true, or_true, true_or, false_or, or_false, false_and, and_false, not_true_eq_false, not_false_eq_true] <;> omega)) (by first | omega | (simp only [Int32.lt_iff_toInt_lt, Int32.le_iff_toInt_le, Int32.reduceToInt, ← Int32.toInt_inj, true_and, and_true, or_true, true_or, false_or, or_false, false_and, and_false, not_true_eq_false, not_false_eq_true] <;> omega))
              have b_3239 : (0 ≤ v_3236.toInt ∧ v_3236.toInt ≤ 15) := (by first | omega | (simp only [Int32.lt_iff_toInt_lt, Int32.le_iff_toInt_le, Int32.reduceToInt, ← Int32.toInt_inj, true_and, and_true, or_true, true_or, false_or, or_false, false_and, and_false, not_true_eq_false, not_false_eq_true] <;> omega))
              refine v_goto hC dX12_lists_83 (tgt := 92) (by decide) ?_
              refine v_pick [0, 1, 2, 3, 4] rfl ?_
              exact jn_3109 v_3236 (by first | omega | (simp only [Int32.lt_iff_toInt_lt, Int32.le_iff_toInt_le, Int32.reduceToInt, ← Int32.toInt_inj, true_and, and_true, or_true, true_or, false_or, or_false, false_and, and_false, not_true_eq_false, not_false_eq_true] <;> omega))
        refine v_icmp_ne hC dX12_lists_25 (tgt := 44) (by decide) (fun h_3021 => ?_) (fun h_3021 => ?_)
        · simp only [Int32.lt_iff_toInt_lt, Int32.le_iff_toInt_le, Int32.reduceToInt, ← Int32.toInt_inj] at h_3021
          refine v_iload_n hC dX12_lists_44 rfl ?_
          refine v_aload_n hC dX12_lists_45 rfl ?_
          refine v_vi hC (rest := [.int i_2968]) m_1 e_2982 rfl mi_X12_wide ms_X12_wide (p_X12_wide hW_2971 k_0 hf_2973 o_w) mx_X12_wide ml_X12_87 (by decide) rfl (cells1 := 0) (slots1 := 0) (by decide) (by decide) (Nat.le_of_ble_eq_true rfl) (Nat.le_of_ble_eq_true rfl) rfl (Nat.le_of_ble_eq_true rfl) dX12_lists_46 (fun r_3240 L_3241 f_3242 h_3243 => ?_)
          obtain ⟨rfl, rfl, rfl⟩ := h_3243
          obtain ⟨v_3246, h_3247⟩ : ∃ v9 : Int32, i_2968 / (g_w 1) = v9 := ⟨_, rfl⟩
          refine v_idiv hC dX12_lists_49 (by first | omega | (simp only [Int32.lt_iff_toInt_lt, Int32.le_iff_toInt_le, Int32.reduceToInt, ← Int32.toInt_inj, true_and, and_true, or_true, true_or, false_or, or_false, false_and, and_false, not_true_eq_false, not_false_eq_true] <;> omega)) h_3247 ?_
          have h_3248 := div_v h_3247 (by first | omega | (simp only [Int32.lt_iff_toInt_lt, Int32.le_iff_toInt_le, Int32.reduceToInt, ← Int32.toInt_inj, true_and, and_true, or_true, true_or, false_or, or_false, false_and, and_false, not_true_eq_false, not_false_eq_true] <;> omega)) (by first | omega | (simp only [Int32.lt_iff_toInt_lt, Int32.le_iff_toInt_le, Int32.reduceToInt, ← Int32.toInt_inj, true_and, and_true, or_true, true_or, false_or, or_false, false_and, and_false, not_true_eq_false, not_false_eq_true] <;> omega))
          have b_3249 : (0 ≤ v_3246.toInt ∧ v_3246.toInt ≤ 15) := (by first | omega | (simp only [Int32.lt_iff_toInt_lt, Int32.le_iff_toInt_le, Int32.reduceToInt, ← Int32.toInt_inj, true_and, and_true, or_true, true_or, false_or, or_false, false_and, and_false, not_true_eq_false, not_false_eq_true] <;> omega))
          refine v_pick [0, 1, 2, 3] rfl ?_
          exact jn_3055 v_3246 (by first | omega | (simp only [Int32.lt_iff_toInt_lt, Int32.le_iff_toInt_le, Int32.reduceToInt, ← Int32.toInt_inj, true_and, and_true, or_true, true_or, false_or, or_false, false_and, and_false, not_true_eq_false, not_false_eq_true] <;> omega))
        · simp only [Int32.lt_iff_toInt_lt, Int32.le_iff_toInt_le, Int32.reduceToInt, ← Int32.toInt_inj] at h_3021
          refine v_aload_n hC dX12_lists_28 rfl ?_
          refine v_vi hC (rest := []) m_1 e_2982 rfl mi_X12_rows ms_X12_rows (p_X12_rows hW_2971 k_0 hf_2973 o_w) mx_X12_rows ml_X12_83 (by decide) rfl (cells1 := 0) (slots1 := 0) (by decide) (by decide) (Nat.le_of_ble_eq_true rfl) (Nat.le_of_ble_eq_true rfl) rfl (Nat.le_of_ble_eq_true rfl) dX12_lists_29 (fun r_3250 L_3251 f_3252 h_3253 => ?_)
          obtain ⟨rfl, rfl, rfl⟩ := h_3253
          refine v_iconst hC dX12_lists_32 (v := 1) (by decide) ?_
          obtain ⟨v_3256, h_3257⟩ : ∃ v9 : Int32, (g_w 0) - 1 = v9 := ⟨_, rfl⟩
          refine v_isub hC dX12_lists_33 h_3257 ?_
          have h_3258 := sub_v h_3257 (by first | omega | (simp only [Int32.lt_iff_toInt_lt, Int32.le_iff_toInt_le, Int32.reduceToInt, ← Int32.toInt_inj, true_and, and_true, or_true, true_or, false_or, or_false, false_and, and_false, not_true_eq_false, not_false_eq_true] <;> omega)) (by first | omega | (simp only [Int32.lt_iff_toInt_lt, Int32.le_iff_toInt_le, Int32.reduceToInt, ← Int32.toInt_inj, true_and, and_true, or_true, true_or, false_or, or_false, false_and, and_false, not_true_eq_false, not_false_eq_true] <;> omega))
          try simp only [Int32.reduceToInt] at h_3258
          refine v_iload_n hC dX12_lists_34 rfl ?_
          refine v_aload_n hC dX12_lists_35 rfl ?_
          refine v_vi hC (rest := [.int i_2968, .int v_3256]) m_1 e_2982 rfl mi_X12_wide ms_X12_wide (p_X12_wide hW_2971 k_0 hf_2973 o_w) mx_X12_wide ml_X12_87 (by decide) rfl (cells1 := 0) (slots1 := 0) (by decide) (by decide) (Nat.le_of_ble_eq_true rfl) (Nat.le_of_ble_eq_true rfl) rfl (Nat.le_of_ble_eq_true rfl) dX12_lists_36 (fun r_3259 L_3260 f_3261 h_3262 => ?_)
          obtain ⟨rfl, rfl, rfl⟩ := h_3262
          obtain ⟨v_3265, h_3266⟩ : ∃ v9 : Int32, i_2968 / (g_w 1) = v9 := ⟨_, rfl⟩
          refine v_idiv hC dX12_lists_39 (by first | omega | (simp only [Int32.lt_iff_toInt_lt, Int32.le_iff_toInt_le, Int32.reduceToInt, ← Int32.toInt_inj, true_and, and_true, or_true, true_or, false_or, or_false, false_and, and_false, not_true_eq_false, not_false_eq_true] <;> omega)) h_3266 ?_
          have h_3267 := div_v h_3266 (by first | omega | (simp only [Int32.lt_iff_toInt_lt, Int32.le_iff_toInt_le, Int32.reduceToInt, ← Int32.toInt_inj, true_and, and_true, or_true, true_or, false_or, or_false, false_and, and_false, not_true_eq_false, not_false_eq_true] <;> omega)) (by first | omega | (simp only [Int32.lt_iff_toInt_lt, Int32.le_iff_toInt_le, Int32.reduceToInt, ← Int32.toInt_inj, true_and, and_true, or_true, true_or, false_or, or_false, false_and, and_false, not_true_eq_false, not_false_eq_true] <;> omega))
          have b_3268 : (0 ≤ v_3265.toInt ∧ v_3265.toInt ≤ 15) := (by first | omega | (simp only [Int32.lt_iff_toInt_lt, Int32.le_iff_toInt_le, Int32.reduceToInt, ← Int32.toInt_inj, true_and, and_true, or_true, true_or, false_or, or_false, false_and, and_false, not_true_eq_false, not_false_eq_true] <;> omega))
          obtain ⟨v_3269, h_3270⟩ : ∃ v9 : Int32, v_3256 - v_3265 = v9 := ⟨_, rfl⟩
          refine v_isub hC dX12_lists_40 h_3270 ?_
          have h_3271 := sub_v h_3270 (by first | omega | (simp only [Int32.lt_iff_toInt_lt, Int32.le_iff_toInt_le, Int32.reduceToInt, ← Int32.toInt_inj, true_and, and_true, or_true, true_or, false_or, or_false, false_and, and_false, not_true_eq_false, not_false_eq_true] <;> omega)) (by first | omega | (simp only [Int32.lt_iff_toInt_lt, Int32.le_iff_toInt_le, Int32.reduceToInt, ← Int32.toInt_inj, true_and, and_true, or_true, true_or, false_or, or_false, false_and, and_false, not_true_eq_false, not_false_eq_true] <;> omega))
          have b_3272 : (0 ≤ v_3269.toInt ∧ v_3269.toInt ≤ 15) := (by first | omega | (simp only [Int32.lt_iff_toInt_lt, Int32.le_iff_toInt_le, Int32.reduceToInt, ← Int32.toInt_inj, true_and, and_true, or_true, true_or, false_or, or_false, false_and, and_false, not_true_eq_false, not_false_eq_true] <;> omega))
          refine v_goto hC dX12_lists_41 (tgt := 50) (by decide) ?_
          refine v_pick [0, 1, 2, 3] rfl ?_
          exact jn_3055 v_3269 (by first | omega | (simp only [Int32.lt_iff_toInt_lt, Int32.le_iff_toInt_le, Int32.reduceToInt, ← Int32.toInt_inj, true_and, and_true, or_true, true_or, false_or, or_false, false_and, and_false, not_true_eq_false, not_false_eq_true] <;> omega))
  refine v_pick [0, 1, 2, 3] rfl ?_
  have fe_3273 : fld (f_46 a_0) 17 = (0 : Int32).toInt := by rw [hf_47]; rfl
  simp only [Int32.reduceToInt] at fe_3273
  have fe_3274 : fld (f_46 a_0) 20 = (v_43 : Int32).toInt := by rw [hf_47]; rfl
  exact lp_2978 258 f_46 hW_49 FR.rf 0 (by decide) 0 (by rw [fe_3273] <;> first | omega | (simp only [Int32.lt_iff_toInt_lt, Int32.le_iff_toInt_le, Int32.reduceToInt, ← Int32.toInt_inj, true_and, and_true, or_true, true_or, false_or, or_false, false_and, and_false, not_true_eq_false, not_false_eq_true] <;> omega)) (by first | omega | (simp only [Int32.lt_iff_toInt_lt, Int32.le_iff_toInt_le, Int32.reduceToInt, ← Int32.toInt_inj, true_and, and_true, or_true, true_or, false_or, or_false, false_and, and_false, not_true_eq_false, not_false_eq_true] <;> omega)) (by rw [fe_3274] <;> first | omega | (simp only [Int32.lt_iff_toInt_lt, Int32.le_iff_toInt_le, Int32.reduceToInt, ← Int32.toInt_inj, true_and, and_true, or_true, true_or, false_or, or_false, false_and, and_false, not_true_eq_false, not_false_eq_true] <;> omega)) (by decide)
set_option maxRecDepth 100000 in
set_option maxHeartbeats 8000000 in
theorem p_X12_roomOf {l : Launch} {E : Ez} {L : List Nat} {f : Nat → va_E} {T : Nat → va_E → Prop} {a_0 : Nat} {a_1 : Int32} {q : Nat → Nat} {g_w : Nat → Int32} (hW : WT T L f) (k_0 : isM T L E a_0 q) (g_1 : (0 ≤ a_1.toInt ∧ a_1.toInt ≤ 5)) (e_w : f (q 1) = aI E 2076 g_w) (o_w : WOK g_w) (htold : (wv g_w a_1 0).toInt = 1) : CI l yX12_roomOf cX12_roomOf 2 .int 3 0 0 E [.ref a_0, .int a_1] L f (fun r L1 f1 => L = L1 ∧ WT T L f1 ∧ FR [12, 356] f f1 ∧ (0 ≤ r.toInt ∧ r.toInt ≤ 256) ∧ (∀ i : Int, 0 ≤ i → i < r.toInt → (i * (wv g_w a_1 4).toInt + (wv g_w a_1 4).toInt) * (wv g_w a_1 3).toInt ≤ 256) ∧ (r.toInt = 0 ∨ 1 ≤ (g_w 0).toInt) ∧ fld (f1 a_0) 20 = fld (f a_0) 20) := by
  refine ci_of (by decide) (Nat.le_of_ble_eq_true rfl) (fun z hz hnm hC hR => ?_)
  have hC : Cx z E cX12_roomOf RX12 2 3 0 0 := hC
  subst hz
  show V z E 2 0 0 L f 0 [(0, .ref a_0), (1, .int a_1)] []
  obtain ⟨m_1, t_2, nq_21, k_3, k_4, k_5, k_6, k_7, k_8, k_9, k_10, k_11, k_12, k_13, k_14, k_15, k_16, k_17, k_18, k_19, k_20⟩ := id k_0
  obtain ⟨m_22, t_23⟩ := id k_3
  have b_24 := o_w.r0
  have b_25 := o_w.w0
  obtain ⟨v_27, v_28, v_30, v_32, v_34, v_36, v_38, v_39, v_40, v_41, v_43, e_26, b_29, b_31, b_33, b_35, b_37, b_42, b_44⟩ := hW.at m_1 t_2
  have mz_45 : fld (f a_0) 20 = v_43.toInt := by rw [e_26]; rfl
  obtain ⟨tl_2, tl_3, tl_4⟩ := o_w.told g_1 htold
  refine v_aload_n hC dX12_roomOf_0 rfl ?_
  refine v_iload_n hC dX12_roomOf_1 rfl ?_
  refine v_vv hC (rest := []) m_1 e_26 rfl mi_X12_lists ms_X12_lists (p_X12_lists hW k_0 (by first | omega | (simp only [Int32.lt_iff_toInt_lt, Int32.le_iff_toInt_le, Int32.reduceToInt, ← Int32.toInt_inj, true_and, and_true, or_true, true_or, false_or, or_false, false_and, and_false, not_true_eq_false, not_false_eq_true] <;> omega)) e_w o_w (by first | omega | (simp only [Int32.lt_iff_toInt_lt, Int32.le_iff_toInt_le, Int32.reduceToInt, ← Int32.toInt_inj, true_and, and_true, or_true, true_or, false_or, or_false, false_and, and_false, not_true_eq_false, not_false_eq_true] <;> omega))) mx_X12_lists ml_X12_338 (by decide) rfl (cells1 := 0) (slots1 := 0) (by decide) (by decide) (Nat.le_of_ble_eq_true rfl) (Nat.le_of_ble_eq_true rfl) rfl (Nat.le_of_ble_eq_true rfl) dX12_roomOf_2 (fun L_47 f_48 h_49 => ?_)
  obtain ⟨rfl, hW_52, hF_53, x_50, x_51⟩ := h_49
  have fe_54 : fld (f a_0) 20 = (v_43 : Int32).toInt := by rw [e_26]; rfl
  have hf_55 := hF_53.at e_w rfl
  obtain ⟨v_57, v_58, v_60, v_62, v_64, v_66, v_68, v_69, v_70, v_71, v_73, e_56, b_59, b_61, b_63, b_65, b_67, b_72, b_74⟩ := hW_52.at m_1 t_2
  have fe_75 : fld (f_48 a_0) 17 = (v_71 : Int32).toInt := by rw [e_56]; rfl
  have fe_76 : fld (f_48 a_0) 20 = (v_73 : Int32).toInt := by rw [e_56]; rfl
  rw [fe_75] at x_50
  rw [fe_76, fe_54] at x_51
  clear fe_54 fe_75 fe_76
  refine v_aload_n hC dX12_roomOf_5 rfl ?_
  refine v_get hC fl_X12_335 m_1 e_56 rfl dX12_roomOf_6 ?_
  refine v_aload_n hC dX12_roomOf_9 rfl ?_
  refine v_iload_n hC dX12_roomOf_10 rfl ?_
  refine v_iconst hC dX12_roomOf_11 (v := 3) (by decide) ?_
  refine v_vi hC (rest := [.int v_71]) m_1 e_56 rfl mi_X12_ofWay ms_X12_ofWay (p_X12_ofWay hW_52 k_0 (by first | omega | (simp only [Int32.lt_iff_toInt_lt, Int32.le_iff_toInt_le, Int32.reduceToInt, ← Int32.toInt_inj, true_and, and_true, or_true, true_or, false_or, or_false, false_and, and_false, not_true_eq_false, not_false_eq_true] <;> omega)) (by decide) hf_55 o_w) mx_X12_ofWay ml_X12_94 (by decide) rfl (cells1 := 0) (slots1 := 0) (by decide) (by decide) (Nat.le_of_ble_eq_true rfl) (Nat.le_of_ble_eq_true rfl) rfl (Nat.le_of_ble_eq_true rfl) dX12_roomOf_12 (fun r_77 L_78 f_79 h_80 => ?_)
  obtain ⟨rfl, rfl, rfl⟩ := h_80
  obtain ⟨v_83, h_84⟩ : ∃ v9 : Int32, v_71 / (wv g_w a_1 3) = v9 := ⟨_, rfl⟩
  refine v_idiv hC dX12_roomOf_15 (by first | omega | (simp only [Int32.lt_iff_toInt_lt, Int32.le_iff_toInt_le, Int32.reduceToInt, ← Int32.toInt_inj, true_and, and_true, or_true, true_or, false_or, or_false, false_and, and_false, not_true_eq_false, not_false_eq_true] <;> omega)) h_84 ?_
  have h_85 := div_v h_84 (by first | omega | (simp only [Int32.lt_iff_toInt_lt, Int32.le_iff_toInt_le, Int32.reduceToInt, ← Int32.toInt_inj, true_and, and_true, or_true, true_or, false_or, or_false, false_and, and_false, not_true_eq_false, not_false_eq_true] <;> omega)) (by first | omega | (simp only [Int32.lt_iff_toInt_lt, Int32.le_iff_toInt_le, Int32.reduceToInt, ← Int32.toInt_inj, true_and, and_true, or_true, true_or, false_or, or_false, false_and, and_false, not_true_eq_false, not_false_eq_true] <;> omega))
  refine v_aload_n hC dX12_roomOf_16 rfl ?_
  refine v_iload_n hC dX12_roomOf_17 rfl ?_
  refine v_iconst hC dX12_roomOf_18 (v := 4) (by decide) ?_
  refine v_vi hC (rest := [.int v_83]) m_1 e_56 rfl mi_X12_ofWay ms_X12_ofWay (p_X12_ofWay hW_52 k_0 (by first | omega | (simp only [Int32.lt_iff_toInt_lt, Int32.le_iff_toInt_le, Int32.reduceToInt, ← Int32.toInt_inj, true_and, and_true, or_true, true_or, false_or, or_false, false_and, and_false, not_true_eq_false, not_false_eq_true] <;> omega)) (by decide) hf_55 o_w) mx_X12_ofWay ml_X12_94 (by decide) rfl (cells1 := 0) (slots1 := 0) (by decide) (by decide) (Nat.le_of_ble_eq_true rfl) (Nat.le_of_ble_eq_true rfl) rfl (Nat.le_of_ble_eq_true rfl) dX12_roomOf_19 (fun r_86 L_87 f_88 h_89 => ?_)
  obtain ⟨rfl, rfl, rfl⟩ := h_89
  obtain ⟨v_92, h_93⟩ : ∃ v9 : Int32, v_83 / (wv g_w a_1 4) = v9 := ⟨_, rfl⟩
  refine v_idiv hC dX12_roomOf_22 (by first | omega | (simp only [Int32.lt_iff_toInt_lt, Int32.le_iff_toInt_le, Int32.reduceToInt, ← Int32.toInt_inj, true_and, and_true, or_true, true_or, false_or, or_false, false_and, and_false, not_true_eq_false, not_false_eq_true] <;> omega)) h_93 ?_
  have h_94 := div_v h_93 (by first | omega | (simp only [Int32.lt_iff_toInt_lt, Int32.le_iff_toInt_le, Int32.reduceToInt, ← Int32.toInt_inj, true_and, and_true, or_true, true_or, false_or, or_false, false_and, and_false, not_true_eq_false, not_false_eq_true] <;> omega)) (by first | omega | (simp only [Int32.lt_iff_toInt_lt, Int32.le_iff_toInt_le, Int32.reduceToInt, ← Int32.toInt_inj, true_and, and_true, or_true, true_or, false_or, or_false, false_and, and_false, not_true_eq_false, not_false_eq_true] <;> omega))
  have fe_95 : fld (f_48 a_0) 20 = (v_73 : Int32).toInt := by rw [e_56]; rfl
  exact hR _ _ _ _ _ _ _ dX12_roomOf_23 rfl (Nat.le_of_ble_eq_true rfl) (Nat.le_of_ble_eq_true rfl) ⟨rfl, hW_52, (hF_53.mono rfl), (by first | omega | (simp only [Int32.lt_iff_toInt_lt, Int32.le_iff_toInt_le, Int32.reduceToInt, ← Int32.toInt_inj, true_and, and_true, or_true, true_or, false_or, or_false, false_and, and_false, not_true_eq_false, not_false_eq_true] <;> omega)), (room_v (pm := v_71.toInt) (by rw [h_94.1, h_85.1]) (by omega) (by omega) (by omega)), (by first | omega | (simp only [Int32.lt_iff_toInt_lt, Int32.le_iff_toInt_le, Int32.reduceToInt, ← Int32.toInt_inj, true_and, and_true, or_true, true_or, false_or, or_false, false_and, and_false, not_true_eq_false, not_false_eq_true] <;> omega)), (by simp only [fe_95, mz_45, true_and, and_true, or_true, true_or, false_or, or_false, false_and, and_false, not_true_eq_false, not_false_eq_true] <;> first | omega | (simp only [Int32.lt_iff_toInt_lt, Int32.le_iff_toInt_le, Int32.reduceToInt, ← Int32.toInt_inj, true_and, and_true, or_true, true_or, false_or, or_false, false_and, and_false, not_true_eq_false, not_false_eq_true] <;> omega))⟩
set_option maxRecDepth 100000 in
set_option maxHeartbeats 8000000 in
theorem p_X12_stands {l : Launch} {E : Ez} {L : List Nat} {f : Nat → va_E} {T : Nat → va_E → Prop} {a_0 : Nat} {a_1 : Int32} {a_2 : Int32} {q : Nat → Nat} {g_w : Nat → Int32} (hW : WT T L f) (k_0 : isM T L E a_0 q) (g_1 : (0 ≤ a_1.toInt ∧ a_1.toInt ≤ 3)) (g_2 : (0 ≤ a_2.toInt ∧ a_2.toInt ≤ 255)) (e_w : f (q 1) = aI E 2076 g_w) (o_w : WOK g_w) : CI l yX12_stands cX12_stands 3 .int 0 0 0 E [.ref a_0, .int a_1, .int a_2] L f (fun r L1 f1 => L = L1 ∧ f = f1) := by
  refine ci_of (by decide) (Nat.le_of_ble_eq_true rfl) (fun z hz hnm hC hR => ?_)
  have hC : Cx z E cX12_stands RX12 3 0 0 0 := hC
  subst hz
  show V z E 3 0 0 L f 0 [(0, .ref a_0), (1, .int a_1), (2, .int a_2)] []
  obtain ⟨m_1, t_2, nq_21, k_3, k_4, k_5, k_6, k_7, k_8, k_9, k_10, k_11, k_12, k_13, k_14, k_15, k_16, k_17, k_18, k_19, k_20⟩ := id k_0
  obtain ⟨m_22, t_23⟩ := id k_3
  have b_24 := o_w.r0
  have b_25 := o_w.w0
  refine v_aload_n hC dX12_stands_0 rfl ?_
  obtain ⟨v_27, v_28, v_30, v_32, v_34, v_36, v_38, v_39, v_40, v_41, v_43, e_26, b_29, b_31, b_33, b_35, b_37, b_42, b_44⟩ := hW.at m_1 t_2
  refine v_get hC fl_X12_13 m_1 e_26 rfl dX12_stands_1 ?_
  refine v_sipush hC dX12_stands_4 (v := 1048) (by decide) ?_
  refine v_sipush hC dX12_stands_7 (v := 257) (by decide) ?_
  refine v_iload_n hC dX12_stands_10 rfl ?_
  obtain ⟨v_45, h_46⟩ : ∃ v9 : Int32, (257 : Int32) * a_1 = v9 := ⟨_, rfl⟩
  refine v_imul hC dX12_stands_11 h_46 ?_
  have h_47 := mul_v 257 3 771 h_46 (by decide) (by first | omega | (simp only [Int32.lt_iff_toInt_lt, Int32.le_iff_toInt_le, Int32.reduceToInt, ← Int32.toInt_inj, true_and, and_true, or_true, true_or, false_or, or_false, false_and, and_false, not_true_eq_false, not_false_eq_true] <;> omega)) (by decide) (by decide)
  try simp only [Int32.reduceToInt] at h_47
  obtain ⟨v_48, h_49⟩ : ∃ v9 : Int32, (1048 : Int32) + v_45 = v9 := ⟨_, rfl⟩
  refine v_iadd hC dX12_stands_12 h_49 ?_
  have h_50 := add_v h_49 (by first | omega | (simp only [Int32.lt_iff_toInt_lt, Int32.le_iff_toInt_le, Int32.reduceToInt, ← Int32.toInt_inj, true_and, and_true, or_true, true_or, false_or, or_false, false_and, and_false, not_true_eq_false, not_false_eq_true] <;> omega)) (by first | omega | (simp only [Int32.lt_iff_toInt_lt, Int32.le_iff_toInt_le, Int32.reduceToInt, ← Int32.toInt_inj, true_and, and_true, or_true, true_or, false_or, or_false, false_and, and_false, not_true_eq_false, not_false_eq_true] <;> omega))
  try simp only [Int32.reduceToInt] at h_50
  refine v_iconst hC dX12_stands_13 (v := 1) (by decide) ?_
  obtain ⟨v_51, h_52⟩ : ∃ v9 : Int32, v_48 + 1 = v9 := ⟨_, rfl⟩
  refine v_iadd hC dX12_stands_14 h_52 ?_
  have h_53 := add_v h_52 (by first | omega | (simp only [Int32.lt_iff_toInt_lt, Int32.le_iff_toInt_le, Int32.reduceToInt, ← Int32.toInt_inj, true_and, and_true, or_true, true_or, false_or, or_false, false_and, and_false, not_true_eq_false, not_false_eq_true] <;> omega)) (by first | omega | (simp only [Int32.lt_iff_toInt_lt, Int32.le_iff_toInt_le, Int32.reduceToInt, ← Int32.toInt_inj, true_and, and_true, or_true, true_or, false_or, or_false, false_and, and_false, not_true_eq_false, not_false_eq_true] <;> omega))
  try simp only [Int32.reduceToInt] at h_53
  refine v_iload_n hC dX12_stands_15 rfl ?_
  obtain ⟨v_54, h_55⟩ : ∃ v9 : Int32, v_51 + a_2 = v9 := ⟨_, rfl⟩
  refine v_iadd hC dX12_stands_16 h_55 ?_
  have h_56 := add_v h_55 (by first | omega | (simp only [Int32.lt_iff_toInt_lt, Int32.le_iff_toInt_le, Int32.reduceToInt, ← Int32.toInt_inj, true_and, and_true, or_true, true_or, false_or, or_false, false_and, and_false, not_true_eq_false, not_false_eq_true] <;> omega)) (by first | omega | (simp only [Int32.lt_iff_toInt_lt, Int32.le_iff_toInt_le, Int32.reduceToInt, ← Int32.toInt_inj, true_and, and_true, or_true, true_or, false_or, or_false, false_and, and_false, not_true_eq_false, not_false_eq_true] <;> omega))
  obtain ⟨v_57, h_58⟩ : ∃ v9 : Int32, g_w (v_54 : Int32).toNatClampNeg = v9 := ⟨_, rfl⟩
  refine v_iald hC m_22 e_w (vp_in_iff.mpr (by first | omega | (simp only [Int32.lt_iff_toInt_lt, Int32.le_iff_toInt_le, Int32.reduceToInt, ← Int32.toInt_inj, true_and, and_true, or_true, true_or, false_or, or_false, false_and, and_false, not_true_eq_false, not_false_eq_true] <;> omega))) h_58 dX12_stands_17 ?_
  exact hR _ _ _ _ _ _ _ dX12_stands_18 rfl (Nat.le_of_ble_eq_true rfl) (Nat.le_of_ble_eq_true rfl) ⟨rfl, rfl⟩
set_option maxRecDepth 100000 in
set_option maxHeartbeats 8000000 in
theorem p_X12_takes0 {l : Launch} {E : Ez} {L : List Nat} {f : Nat → va_E} {T : Nat → va_E → Prop} {a_0 : Nat} {a_1 : Int32} {q : Nat → Nat} {g_w : Nat → Int32} (hW : WT T L f) (k_0 : isM T L E a_0 q) (g_1 : (0 ≤ a_1.toInt ∧ a_1.toInt ≤ 3)) (e_w : f (q 1) = aI E 2076 g_w) (o_w : WOK g_w) : CV l yX12_takes0 cX12_takes0 3 1 0 0 E [.ref a_0, .int a_1] L f (fun L1 f1 => L = L1 ∧ WT T L f1 ∧ FR [356] f f1) := by
  refine cv_of (by decide) (Nat.le_of_ble_eq_true rfl) (fun z hz hnm hC hR => ?_)
  have hC : Cx z E cX12_takes0 RX12 3 1 0 0 := hC
  subst hz
  show V z E 3 0 0 L f 0 [(0, .ref a_0), (1, .int a_1)] []
  obtain ⟨m_1, t_2, nq_21, k_3, k_4, k_5, k_6, k_7, k_8, k_9, k_10, k_11, k_12, k_13, k_14, k_15, k_16, k_17, k_18, k_19, k_20⟩ := id k_0
  obtain ⟨m_22, t_23⟩ := id k_3
  have b_24 := o_w.r0
  have b_25 := o_w.w0
  refine v_iconst hC dX12_takes0_0 (v := 0) (by decide) ?_
  refine v_istore_n hC dX12_takes0_1 (by decide) (lv' := [(2, .int 0), (0, .ref a_0), (1, .int a_1)]) rfl ?_
  have lp_218 : ∀ (n_219 : Nat) (f_213 : Nat → va_E) (hW_214 : WT T L f_213) (hF_215 : FR [356] f f_213) (i_212 : Int32) (b_217 : (0 ≤ i_212.toInt ∧ i_212.toInt ≤ 256)) (hm_221 : 256 - i_212.toInt < (n_219 : Int)), V z E 3 0 0 L f_213 2 [(2, .int i_212), (0, .ref a_0), (1, .int a_1)] [] := by
    intro n_219
    induction n_219 with
    | zero =>
      intro f_213 hW_214 hF_215 i_212 b_217 hm_221
      have hf_216 := hF_215.at e_w rfl
      exfalso; omega
    | succ n_219 ih_220 =>
      intro f_213 hW_214 hF_215 i_212 b_217 hm_221
      have hf_216 := hF_215.at e_w rfl
      refine v_iload_n hC dX12_takes0_2 rfl ?_
      refine v_sipush hC dX12_takes0_3 (v := 256) (by decide) ?_
      refine v_icmp_ge hC dX12_takes0_6 (tgt := 27) (by decide) (fun h_222 => ?_) (fun h_222 => ?_)
      · simp only [Int32.lt_iff_toInt_lt, Int32.le_iff_toInt_le, Int32.reduceToInt, ← Int32.toInt_inj] at h_222
        exact hR _ _ _ _ _ _ dX12_takes0_27 (Nat.le_of_ble_eq_true rfl) (Nat.le_of_ble_eq_true rfl) ⟨rfl, hW_214, (hF_215.mono rfl)⟩
      · simp only [Int32.lt_iff_toInt_lt, Int32.le_iff_toInt_le, Int32.reduceToInt, ← Int32.toInt_inj] at h_222
        refine v_aload_n hC dX12_takes0_9 rfl ?_
        obtain ⟨v_224, v_225, v_227, v_229, v_231, v_233, v_235, v_236, v_237, v_238, v_240, e_223, b_226, b_228, b_230, b_232, b_234, b_239, b_241⟩ := hW_214.at m_1 t_2
        refine v_get hC fl_X12_37 m_1 e_223 rfl dX12_takes0_10 ?_
        refine v_iload_n hC dX12_takes0_13 rfl ?_
        refine v_aload_n hC dX12_takes0_14 rfl ?_
        refine v_iload_n hC dX12_takes0_15 rfl ?_
        refine v_iload_n hC dX12_takes0_16 rfl ?_
        refine v_vi hC (rest := [.int i_212, .ref (q 15)]) m_1 e_223 rfl mi_X12_stands ms_X12_stands (p_X12_stands hW_214 k_0 (by first | omega | (simp only [Int32.lt_iff_toInt_lt, Int32.le_iff_toInt_le, Int32.reduceToInt, ← Int32.toInt_inj, true_and, and_true, or_true, true_or, false_or, or_false, false_and, and_false, not_true_eq_false, not_false_eq_true] <;> omega)) (by first | omega | (simp only [Int32.lt_iff_toInt_lt, Int32.le_iff_toInt_le, Int32.reduceToInt, ← Int32.toInt_inj, true_and, and_true, or_true, true_or, false_or, or_false, false_and, and_false, not_true_eq_false, not_false_eq_true] <;> omega)) hf_216 o_w) mx_X12_stands ml_X12_301 (by decide) rfl (cells1 := 0) (slots1 := 0) (by decide) (by decide) (Nat.le_of_ble_eq_true rfl) (Nat.le_of_ble_eq_true rfl) rfl (Nat.le_of_ble_eq_true rfl) dX12_takes0_17 (fun r_242 L_243 f_244 h_245 => ?_)
        obtain ⟨rfl, rfl⟩ := h_245
        obtain ⟨m_248, t_249⟩ := id k_9
        obtain ⟨g_251, e_250⟩ := hW_214.at m_248 t_249
        refine v_iast hC m_248 e_250 (vp_in_iff.mpr (by first | omega | (simp only [Int32.lt_iff_toInt_lt, Int32.le_iff_toInt_le, Int32.reduceToInt, ← Int32.toInt_inj, true_and, and_true, or_true, true_or, false_or, or_false, false_and, and_false, not_true_eq_false, not_false_eq_true] <;> omega))) dX12_takes0_20 (fun f_252 hf_253 hk_254 => ?_)
        have hW_256 := hW_214.up hf_253 hk_254 t_249 ⟨_, rfl⟩
        obtain ⟨g_255, hf_253⟩ : ∃ g9, f_252 (q 15) = aI E 256 g9 := ⟨_, hf_253⟩
        have hf_257 := (hk_254 (q 1) (ne_kd hf_216 e_250 rfl)).trans hf_216
        have hf_258 := (hk_254 a_0 (ne_kd e_223 e_250 rfl)).trans e_223
        have fr_259 := FR.w hk_254 e_250 (k := 356) rfl
        obtain ⟨v_260, h_261⟩ : ∃ v9 : Int32, i_212 + Int32.ofInt 1 = v9 := ⟨_, rfl⟩
        have h_262 := add_v (b := 1) h_261 (by first | omega | (simp only [Int32.lt_iff_toInt_lt, Int32.le_iff_toInt_le, Int32.reduceToInt, ← Int32.toInt_inj, true_and, and_true, or_true, true_or, false_or, or_false, false_and, and_false, not_true_eq_false, not_false_eq_true] <;> omega)) (by first | omega | (simp only [Int32.lt_iff_toInt_lt, Int32.le_iff_toInt_le, Int32.reduceToInt, ← Int32.toInt_inj, true_and, and_true, or_true, true_or, false_or, or_false, false_and, and_false, not_true_eq_false, not_false_eq_true] <;> omega))
        simp only [Int32.reduceToInt] at h_262
        refine v_iinc hC dX12_takes0_21 (k := 0) rfl (v := v_260) h_261 (by decide) (lv' := [(2, .int v_260), (0, .ref a_0), (1, .int a_1)]) rfl ?_
        refine v_goto hC dX12_takes0_24 (tgt := 2) (by decide) ?_
        refine v_pick [0, 1, 2] rfl ?_
        exact ih_220 f_252 hW_256 ((hF_215.tr fr_259).mono rfl) v_260 (by first | omega | (simp only [Int32.lt_iff_toInt_lt, Int32.le_iff_toInt_le, Int32.reduceToInt, ← Int32.toInt_inj, true_and, and_true, or_true, true_or, false_or, or_false, false_and, and_false, not_true_eq_false, not_false_eq_true] <;> omega)) (by first | omega | (simp only [Int32.lt_iff_toInt_lt, Int32.le_iff_toInt_le, Int32.reduceToInt, ← Int32.toInt_inj, true_and, and_true, or_true, true_or, false_or, or_false, false_and, and_false, not_true_eq_false, not_false_eq_true] <;> omega))
  refine v_pick [0, 1, 2] rfl ?_
  exact lp_218 258 f hW FR.rf 0 (by decide) (by decide)
set_option maxRecDepth 100000 in
set_option maxHeartbeats 8000000 in
theorem p_X12_tells {l : Launch} {E : Ez} {L : List Nat} {f : Nat → va_E} {T : Nat → va_E → Prop} {a_0 : Nat} {a_1 : Int32} {a_2 : Int32} {q : Nat → Nat} {g_w : Nat → Int32} (hW : WT T L f) (k_0 : isM T L E a_0 q) (g_1 : (0 ≤ a_1.toInt ∧ a_1.toInt ≤ 5)) (g_2 : (0 ≤ a_2.toInt ∧ a_2.toInt ≤ 255)) (e_w : f (q 1) = aI E 2076 g_w) (o_w : WOK g_w) (htold : (wv g_w a_1 0).toInt = 1) (hG : a_2.toInt * (wv g_w a_1 3).toInt + (wv g_w a_1 3).toInt ≤ 256) : CI l yX12_tells cX12_tells 6 .int 1 0 0 E [.ref a_0, .int a_1, .int a_2] L f (fun r L1 f1 => L = L1 ∧ f = f1) := by
  refine ci_of (by decide) (Nat.le_of_ble_eq_true rfl) (fun z hz hnm hC hR => ?_)
  have hC : Cx z E cX12_tells RX12 6 1 0 0 := hC
  subst hz
  show V z E 6 0 0 L f 0 [(0, .ref a_0), (1, .int a_1), (2, .int a_2)] []
  obtain ⟨m_1, t_2, nq_21, k_3, k_4, k_5, k_6, k_7, k_8, k_9, k_10, k_11, k_12, k_13, k_14, k_15, k_16, k_17, k_18, k_19, k_20⟩ := id k_0
  obtain ⟨m_22, t_23⟩ := id k_3
  have b_24 := o_w.r0
  have b_25 := o_w.w0
  obtain ⟨tl_2, tl_3, tl_4⟩ := o_w.told g_1 htold
  refine v_iconst hC dX12_tells_0 (v := 0) (by decide) ?_
  refine v_istore_n hC dX12_tells_1 (by decide) (lv' := [(3, .int 0), (0, .ref a_0), (1, .int a_1), (2, .int a_2)]) rfl ?_
  refine v_iconst hC dX12_tells_2 (v := 0) (by decide) ?_
  refine v_istore hC dX12_tells_3 (by decide) (lv' := [(4, .int 0), (3, .int 0), (0, .ref a_0), (1, .int a_1), (2, .int a_2)]) rfl ?_
  have lp_700 : ∀ (n_701 : Nat) (i_697 : Int32) (b_699 : (0 ≤ i_697.toInt ∧ i_697.toInt ≤ 5)) (i_698 : Int32) (hm_703 : 5 - i_697.toInt < (n_701 : Int)), V z E 6 0 0 L f 5 [(4, .int i_697), (3, .int i_698), (0, .ref a_0), (1, .int a_1), (2, .int a_2)] [] := by
    intro n_701
    induction n_701 with
    | zero =>
      intro i_697 b_699 i_698 hm_703
      exfalso; omega
    | succ n_701 ih_702 =>
      intro i_697 b_699 i_698 hm_703
      refine v_iload hC dX12_tells_5 rfl ?_
      refine v_aload_n hC dX12_tells_7 rfl ?_
      refine v_iload_n hC dX12_tells_8 rfl ?_
      refine v_iconst hC dX12_tells_9 (v := 3) (by decide) ?_
      obtain ⟨v_705, v_706, v_708, v_710, v_712, v_714, v_716, v_717, v_718, v_719, v_721, e_704, b_707, b_709, b_711, b_713, b_715, b_720, b_722⟩ := hW.at m_1 t_2
      refine v_vi hC (rest := [.int i_697]) m_1 e_704 rfl mi_X12_ofWay ms_X12_ofWay (p_X12_ofWay hW k_0 (by first | omega | (simp only [Int32.lt_iff_toInt_lt, Int32.le_iff_toInt_le, Int32.reduceToInt, ← Int32.toInt_inj, true_and, and_true, or_true, true_or, false_or, or_false, false_and, and_false, not_true_eq_false, not_false_eq_true] <;> omega)) (by decide) e_w o_w) mx_X12_ofWay ml_X12_94 (by decide) rfl (cells1 := 0) (slots1 := 0) (by decide) (by decide) (Nat.le_of_ble_eq_true rfl) (Nat.le_of_ble_eq_true rfl) rfl (Nat.le_of_ble_eq_true rfl) dX12_tells_10 (fun r_723 L_724 f_725 h_726 => ?_)
      obtain ⟨rfl, rfl, rfl⟩ := h_726
      refine v_icmp_ge hC dX12_tells_13 (tgt := 66) (by decide) (fun h_729 => ?_) (fun h_729 => ?_)
      · simp only [Int32.lt_iff_toInt_lt, Int32.le_iff_toInt_le, Int32.reduceToInt, ← Int32.toInt_inj] at h_729
        refine v_iload_n hC dX12_tells_66 rfl ?_
        refine v_iconst hC dX12_tells_67 (v := 2) (by decide) ?_
        obtain ⟨v_730, h_731⟩ : ∃ v9 : Int32, i_698 - i_698 / 2 * 2 = v9 := ⟨_, rfl⟩
        refine v_irem hC dX12_tells_68 (by decide) h_731 ?_
        exact hR _ _ _ _ _ _ _ dX12_tells_69 rfl (Nat.le_of_ble_eq_true rfl) (Nat.le_of_ble_eq_true rfl) ⟨rfl, rfl⟩
      · simp only [Int32.lt_iff_toInt_lt, Int32.le_iff_toInt_le, Int32.reduceToInt, ← Int32.toInt_inj] at h_729
        refine v_aload_n hC dX12_tells_16 rfl ?_
        refine v_get hC fl_X12_37 m_1 e_704 rfl dX12_tells_17 ?_
        refine v_aload_n hC dX12_tells_20 rfl ?_
        refine v_get hC fl_X12_40 m_1 e_704 rfl dX12_tells_21 ?_
        refine v_iload_n hC dX12_tells_24 rfl ?_
        refine v_aload_n hC dX12_tells_25 rfl ?_
        refine v_iload_n hC dX12_tells_26 rfl ?_
        refine v_iconst hC dX12_tells_27 (v := 3) (by decide) ?_
        refine v_vi hC (rest := [.int a_2, .ref (q 16), .ref (q 15)]) m_1 e_704 rfl mi_X12_ofWay ms_X12_ofWay (p_X12_ofWay hW k_0 (by first | omega | (simp only [Int32.lt_iff_toInt_lt, Int32.le_iff_toInt_le, Int32.reduceToInt, ← Int32.toInt_inj, true_and, and_true, or_true, true_or, false_or, or_false, false_and, and_false, not_true_eq_false, not_false_eq_true] <;> omega)) (by decide) e_w o_w) mx_X12_ofWay ml_X12_94 (by decide) rfl (cells1 := 0) (slots1 := 0) (by decide) (by decide) (Nat.le_of_ble_eq_true rfl) (Nat.le_of_ble_eq_true rfl) rfl (Nat.le_of_ble_eq_true rfl) dX12_tells_28 (fun r_733 L_734 f_735 h_736 => ?_)
        obtain ⟨rfl, rfl, rfl⟩ := h_736
        obtain ⟨v_739, h_740⟩ : ∃ v9 : Int32, a_2 * (wv g_w a_1 3) = v9 := ⟨_, rfl⟩
        refine v_imul hC dX12_tells_31 h_740 ?_
        have h_741 := mul_v 255 5 1275 h_740 (by first | omega | (simp only [Int32.lt_iff_toInt_lt, Int32.le_iff_toInt_le, Int32.reduceToInt, ← Int32.toInt_inj, true_and, and_true, or_true, true_or, false_or, or_false, false_and, and_false, not_true_eq_false, not_false_eq_true] <;> omega)) (by first | omega | (simp only [Int32.lt_iff_toInt_lt, Int32.le_iff_toInt_le, Int32.reduceToInt, ← Int32.toInt_inj, true_and, and_true, or_true, true_or, false_or, or_false, false_and, and_false, not_true_eq_false, not_false_eq_true] <;> omega)) (by decide) (by decide)
        refine v_iload hC dX12_tells_32 rfl ?_
        obtain ⟨v_742, h_743⟩ : ∃ v9 : Int32, v_739 + i_697 = v9 := ⟨_, rfl⟩
        refine v_iadd hC dX12_tells_34 h_743 ?_
        have h_744 := add_v h_743 (by first | omega | (simp only [Int32.lt_iff_toInt_lt, Int32.le_iff_toInt_le, Int32.reduceToInt, ← Int32.toInt_inj, true_and, and_true, or_true, true_or, false_or, or_false, false_and, and_false, not_true_eq_false, not_false_eq_true] <;> omega)) (by first | omega | (simp only [Int32.lt_iff_toInt_lt, Int32.le_iff_toInt_le, Int32.reduceToInt, ← Int32.toInt_inj, true_and, and_true, or_true, true_or, false_or, or_false, false_and, and_false, not_true_eq_false, not_false_eq_true] <;> omega))
        obtain ⟨m_745, t_746⟩ := id k_10
        obtain ⟨g_748, e_747, ok_749⟩ := hW.at m_745 t_746
        obtain ⟨v_750, h_751⟩ : ∃ v9 : Int32, g_748 (v_742 : Int32).toNatClampNeg = v9 := ⟨_, rfl⟩
        have b_752 := ok_749 (v_742 : Int32).toNatClampNeg
        rw [h_751] at b_752
        refine v_iald hC m_745 e_747 (vp_in_iff.mpr (by first | omega | (simp only [Int32.lt_iff_toInt_lt, Int32.le_iff_toInt_le, Int32.reduceToInt, ← Int32.toInt_inj, true_and, and_true, or_true, true_or, false_or, or_false, false_and, and_false, not_true_eq_false, not_false_eq_true] <;> omega))) h_751 dX12_tells_35 ?_
        obtain ⟨m_753, t_754⟩ := id k_9
        obtain ⟨g_756, e_755⟩ := hW.at m_753 t_754
        obtain ⟨v_757, h_758⟩ : ∃ v9 : Int32, g_756 (v_750 : Int32).toNatClampNeg = v9 := ⟨_, rfl⟩
        refine v_iald hC m_753 e_755 (vp_in_iff.mpr (by first | omega | (simp only [Int32.lt_iff_toInt_lt, Int32.le_iff_toInt_le, Int32.reduceToInt, ← Int32.toInt_inj, true_and, and_true, or_true, true_or, false_or, or_false, false_and, and_false, not_true_eq_false, not_false_eq_true] <;> omega))) h_758 dX12_tells_36 ?_
        refine v_istore hC dX12_tells_37 (by decide) (lv' := [(5, .int v_757), (4, .int i_697), (3, .int i_698), (0, .ref a_0), (1, .int a_1), (2, .int a_2)]) rfl ?_
        refine v_iload hC dX12_tells_39 rfl ?_
        refine v_iconst hC dX12_tells_41 (v := 4) (by decide) ?_
        refine v_icmp_ne hC dX12_tells_42 (tgt := 47) (by decide) (fun h_759 => ?_) (fun h_759 => ?_)
        · simp only [Int32.lt_iff_toInt_lt, Int32.le_iff_toInt_le, Int32.reduceToInt, ← Int32.toInt_inj] at h_759
          refine v_iload_n hC dX12_tells_47 rfl ?_
          refine v_iload hC dX12_tells_48 rfl ?_
          refine v_if_ne hC dX12_tells_50 (tgt := 57) (by decide) (fun h_760 => ?_) (fun h_760 => ?_)
          · simp only [Int32.lt_iff_toInt_lt, Int32.le_iff_toInt_le, Int32.reduceToInt, ← Int32.toInt_inj] at h_760
            refine v_iconst hC dX12_tells_57 (v := 1) (by decide) ?_
            obtain ⟨v_761, h_762⟩ : ∃ v9 : Int32, i_698 + 1 = v9 := ⟨_, rfl⟩
            refine v_iadd hC dX12_tells_58 h_762 ?_
            refine v_istore_n hC dX12_tells_59 (by decide) (lv' := [(3, .int v_761), (5, .int v_757), (4, .int i_697), (0, .ref a_0), (1, .int a_1), (2, .int a_2)]) rfl ?_
            obtain ⟨v_764, h_765⟩ : ∃ v9 : Int32, i_697 + Int32.ofInt 1 = v9 := ⟨_, rfl⟩
            have h_766 := add_v (b := 1) h_765 (by first | omega | (simp only [Int32.lt_iff_toInt_lt, Int32.le_iff_toInt_le, Int32.reduceToInt, ← Int32.toInt_inj, true_and, and_true, or_true, true_or, false_or, or_false, false_and, and_false, not_true_eq_false, not_false_eq_true] <;> omega)) (by first | omega | (simp only [Int32.lt_iff_toInt_lt, Int32.le_iff_toInt_le, Int32.reduceToInt, ← Int32.toInt_inj, true_and, and_true, or_true, true_or, false_or, or_false, false_and, and_false, not_true_eq_false, not_false_eq_true] <;> omega))
            simp only [Int32.reduceToInt] at h_766
            refine v_iinc hC dX12_tells_60 (k := 2) rfl (v := v_764) h_765 (by decide) (lv' := [(4, .int v_764), (3, .int v_761), (5, .int v_757), (0, .ref a_0), (1, .int a_1), (2, .int a_2)]) rfl ?_
            refine v_goto hC dX12_tells_63 (tgt := 5) (by decide) ?_
            refine v_pick [0, 1, 3, 4, 5] rfl ?_
            exact ih_702 v_764 (by first | omega | (simp only [Int32.lt_iff_toInt_lt, Int32.le_iff_toInt_le, Int32.reduceToInt, ← Int32.toInt_inj, true_and, and_true, or_true, true_or, false_or, or_false, false_and, and_false, not_true_eq_false, not_false_eq_true] <;> omega)) v_761 (by first | omega | (simp only [Int32.lt_iff_toInt_lt, Int32.le_iff_toInt_le, Int32.reduceToInt, ← Int32.toInt_inj, true_and, and_true, or_true, true_or, false_or, or_false, false_and, and_false, not_true_eq_false, not_false_eq_true] <;> omega))
          · simp only [Int32.lt_iff_toInt_lt, Int32.le_iff_toInt_le, Int32.reduceToInt, ← Int32.toInt_inj] at h_760
            refine v_iconst hC dX12_tells_53 (v := 0) (by decide) ?_
            refine v_goto hC dX12_tells_54 (tgt := 58) (by decide) ?_
            obtain ⟨v_767, h_768⟩ : ∃ v9 : Int32, i_698 + 0 = v9 := ⟨_, rfl⟩
            refine v_iadd hC dX12_tells_58 h_768 ?_
            have rg_770 := Int32.toInt_lt i_698
            have rg_771 := Int32.le_toInt i_698
            have h_769 := add_v h_768 (by first | omega | (simp only [Int32.lt_iff_toInt_lt, Int32.le_iff_toInt_le, Int32.reduceToInt, ← Int32.toInt_inj, true_and, and_true, or_true, true_or, false_or, or_false, false_and, and_false, not_true_eq_false, not_false_eq_true] <;> omega)) (by first | omega | (simp only [Int32.lt_iff_toInt_lt, Int32.le_iff_toInt_le, Int32.reduceToInt, ← Int32.toInt_inj, true_and, and_true, or_true, true_or, false_or, or_false, false_and, and_false, not_true_eq_false, not_false_eq_true] <;> omega))
            try simp only [Int32.reduceToInt] at h_769
            refine v_istore_n hC dX12_tells_59 (by decide) (lv' := [(3, .int v_767), (5, .int v_757), (4, .int i_697), (0, .ref a_0), (1, .int a_1), (2, .int a_2)]) rfl ?_
            obtain ⟨v_772, h_773⟩ : ∃ v9 : Int32, i_697 + Int32.ofInt 1 = v9 := ⟨_, rfl⟩
            have h_774 := add_v (b := 1) h_773 (by first | omega | (simp only [Int32.lt_iff_toInt_lt, Int32.le_iff_toInt_le, Int32.reduceToInt, ← Int32.toInt_inj, true_and, and_true, or_true, true_or, false_or, or_false, false_and, and_false, not_true_eq_false, not_false_eq_true] <;> omega)) (by first | omega | (simp only [Int32.lt_iff_toInt_lt, Int32.le_iff_toInt_le, Int32.reduceToInt, ← Int32.toInt_inj, true_and, and_true, or_true, true_or, false_or, or_false, false_and, and_false, not_true_eq_false, not_false_eq_true] <;> omega))
            simp only [Int32.reduceToInt] at h_774
            refine v_iinc hC dX12_tells_60 (k := 2) rfl (v := v_772) h_773 (by decide) (lv' := [(4, .int v_772), (3, .int v_767), (5, .int v_757), (0, .ref a_0), (1, .int a_1), (2, .int a_2)]) rfl ?_
            refine v_goto hC dX12_tells_63 (tgt := 5) (by decide) ?_
            refine v_pick [0, 1, 3, 4, 5] rfl ?_
            exact ih_702 v_772 (by first | omega | (simp only [Int32.lt_iff_toInt_lt, Int32.le_iff_toInt_le, Int32.reduceToInt, ← Int32.toInt_inj, true_and, and_true, or_true, true_or, false_or, or_false, false_and, and_false, not_true_eq_false, not_false_eq_true] <;> omega)) v_767 (by first | omega | (simp only [Int32.lt_iff_toInt_lt, Int32.le_iff_toInt_le, Int32.reduceToInt, ← Int32.toInt_inj, true_and, and_true, or_true, true_or, false_or, or_false, false_and, and_false, not_true_eq_false, not_false_eq_true] <;> omega))
        · simp only [Int32.lt_iff_toInt_lt, Int32.le_iff_toInt_le, Int32.reduceToInt, ← Int32.toInt_inj] at h_759
          refine v_iconst hC dX12_tells_45 (v := 2) (by decide) ?_
          exact hR _ _ _ _ _ _ _ dX12_tells_46 rfl (Nat.le_of_ble_eq_true rfl) (Nat.le_of_ble_eq_true rfl) ⟨rfl, rfl⟩
  refine v_pick [0, 1, 2, 3, 4] rfl ?_
  exact lp_700 7 0 (by decide) 0 (by decide)
set_option maxRecDepth 100000 in
set_option maxHeartbeats 8000000 in
theorem p_X12_turnedOf {l : Launch} {E : Ez} {L : List Nat} {f : Nat → va_E} {T : Nat → va_E → Prop} {a_0 : Nat} {a_1 : Int32} {q : Nat → Nat} {g_w : Nat → Int32} (hW : WT T L f) (k_0 : isM T L E a_0 q) (g_1 : (0 ≤ a_1.toInt)) (e_w : f (q 1) = aI E 2076 g_w) (o_w : WOK g_w) (hpt : 1 ≤ (g_w 0).toInt) : CI l yX12_turnedOf cX12_turnedOf 2 .int 2 0 0 E [.ref a_0, .int a_1] L f (fun r L1 f1 => L = L1 ∧ f = f1 ∧ ((-2) ≤ r.toInt ∧ r.toInt ≤ 11)) := by
  refine ci_of (by decide) (Nat.le_of_ble_eq_true rfl) (fun z hz hnm hC hR => ?_)
  have hC : Cx z E cX12_turnedOf RX12 2 2 0 0 := hC
  subst hz
  show V z E 2 0 0 L f 0 [(0, .ref a_0), (1, .int a_1)] []
  obtain ⟨m_1, t_2, nq_21, k_3, k_4, k_5, k_6, k_7, k_8, k_9, k_10, k_11, k_12, k_13, k_14, k_15, k_16, k_17, k_18, k_19, k_20⟩ := id k_0
  obtain ⟨m_22, t_23⟩ := id k_3
  have b_24 := o_w.r0
  have b_25 := o_w.w0
  refine v_aload_n hC dX12_turnedOf_0 rfl ?_
  refine v_iload_n hC dX12_turnedOf_1 rfl ?_
  obtain ⟨v_27, v_28, v_30, v_32, v_34, v_36, v_38, v_39, v_40, v_41, v_43, e_26, b_29, b_31, b_33, b_35, b_37, b_42, b_44⟩ := hW.at m_1 t_2
  refine v_vi hC (rest := []) m_1 e_26 rfl mi_X12_sortOf ms_X12_sortOf (p_X12_sortOf hW k_0 (by first | omega | (simp only [Int32.lt_iff_toInt_lt, Int32.le_iff_toInt_le, Int32.reduceToInt, ← Int32.toInt_inj, true_and, and_true, or_true, true_or, false_or, or_false, false_and, and_false, not_true_eq_false, not_false_eq_true] <;> omega)) e_w o_w (by first | omega | (simp only [Int32.lt_iff_toInt_lt, Int32.le_iff_toInt_le, Int32.reduceToInt, ← Int32.toInt_inj, true_and, and_true, or_true, true_or, false_or, or_false, false_and, and_false, not_true_eq_false, not_false_eq_true] <;> omega))) mx_X12_sortOf ml_X12_98 (by decide) rfl (cells1 := 0) (slots1 := 0) (by decide) (by decide) (Nat.le_of_ble_eq_true rfl) (Nat.le_of_ble_eq_true rfl) rfl (Nat.le_of_ble_eq_true rfl) dX12_turnedOf_2 (fun r_45 L_46 f_47 h_48 => ?_)
  obtain ⟨rfl, rfl, b_49⟩ := h_48
  refine v_iconst hC dX12_turnedOf_5 (v := 1) (by decide) ?_
  obtain ⟨v_52, h_53⟩ : ∃ v9 : Int32, r_45 - 1 = v9 := ⟨_, rfl⟩
  refine v_isub hC dX12_turnedOf_6 h_53 ?_
  have h_54 := sub_v h_53 (by first | omega | (simp only [Int32.lt_iff_toInt_lt, Int32.le_iff_toInt_le, Int32.reduceToInt, ← Int32.toInt_inj, true_and, and_true, or_true, true_or, false_or, or_false, false_and, and_false, not_true_eq_false, not_false_eq_true] <;> omega)) (by first | omega | (simp only [Int32.lt_iff_toInt_lt, Int32.le_iff_toInt_le, Int32.reduceToInt, ← Int32.toInt_inj, true_and, and_true, or_true, true_or, false_or, or_false, false_and, and_false, not_true_eq_false, not_false_eq_true] <;> omega))
  try simp only [Int32.reduceToInt] at h_54
  exact hR _ _ _ _ _ _ _ dX12_turnedOf_7 rfl (Nat.le_of_ble_eq_true rfl) (Nat.le_of_ble_eq_true rfl) ⟨rfl, rfl, (by first | omega | (simp only [Int32.lt_iff_toInt_lt, Int32.le_iff_toInt_le, Int32.reduceToInt, ← Int32.toInt_inj, true_and, and_true, or_true, true_or, false_or, or_false, false_and, and_false, not_true_eq_false, not_false_eq_true] <;> omega))⟩
set_option maxRecDepth 100000 in
set_option maxHeartbeats 8000000 in
theorem p_X12_turnOver {l : Launch} {E : Ez} {L : List Nat} {f : Nat → va_E} {T : Nat → va_E → Prop} {a_0 : Nat} {a_1 : Int32} {q : Nat → Nat} {g_w : Nat → Int32} (hW : WT T L f) (k_0 : isM T L E a_0 q) (g_1 : (0 ≤ a_1.toInt ∧ a_1.toInt ≤ 255)) (e_w : f (q 1) = aI E 2076 g_w) (o_w : WOK g_w) (hpt : 1 ≤ (g_w 0).toInt) : CI l yX12_turnOver cX12_turnOver 2 .int 3 0 0 E [.ref a_0, .int a_1] L f (fun r L1 f1 => L = L1 ∧ f = f1 ∧ ((-2) ≤ r.toInt ∧ r.toInt ≤ 11)) := by
  refine ci_of (by decide) (Nat.le_of_ble_eq_true rfl) (fun z hz hnm hC hR => ?_)
  have hC : Cx z E cX12_turnOver RX12 2 3 0 0 := hC
  subst hz
  show V z E 2 0 0 L f 0 [(0, .ref a_0), (1, .int a_1)] []
  obtain ⟨m_1, t_2, nq_21, k_3, k_4, k_5, k_6, k_7, k_8, k_9, k_10, k_11, k_12, k_13, k_14, k_15, k_16, k_17, k_18, k_19, k_20⟩ := id k_0
  obtain ⟨m_22, t_23⟩ := id k_3
  have b_24 := o_w.r0
  have b_25 := o_w.w0
  refine v_aload_n hC dX12_turnOver_0 rfl ?_
  obtain ⟨v_27, v_28, v_30, v_32, v_34, v_36, v_38, v_39, v_40, v_41, v_43, e_26, b_29, b_31, b_33, b_35, b_37, b_42, b_44⟩ := hW.at m_1 t_2
  refine v_get hC fl_X12_37 m_1 e_26 rfl dX12_turnOver_1 ?_
  refine v_iload_n hC dX12_turnOver_4 rfl ?_
  obtain ⟨m_45, t_46⟩ := id k_9
  obtain ⟨g_48, e_47⟩ := hW.at m_45 t_46
  obtain ⟨v_49, h_50⟩ : ∃ v9 : Int32, g_48 (a_1 : Int32).toNatClampNeg = v9 := ⟨_, rfl⟩
  refine v_iald hC m_45 e_47 (vp_in_iff.mpr (by first | omega | (simp only [Int32.lt_iff_toInt_lt, Int32.le_iff_toInt_le, Int32.reduceToInt, ← Int32.toInt_inj, true_and, and_true, or_true, true_or, false_or, or_false, false_and, and_false, not_true_eq_false, not_false_eq_true] <;> omega))) h_50 dX12_turnOver_5 ?_
  refine v_if_ne hC dX12_turnOver_6 (tgt := 17) (by decide) (fun h_51 => ?_) (fun h_51 => ?_)
  · simp only [Int32.lt_iff_toInt_lt, Int32.le_iff_toInt_le, Int32.reduceToInt, ← Int32.toInt_inj] at h_51
    refine v_iconst hC dX12_turnOver_17 (v := 0) (by decide) ?_
    exact hR _ _ _ _ _ _ _ dX12_turnOver_18 rfl (Nat.le_of_ble_eq_true rfl) (Nat.le_of_ble_eq_true rfl) ⟨rfl, rfl, (by decide)⟩
  · simp only [Int32.lt_iff_toInt_lt, Int32.le_iff_toInt_le, Int32.reduceToInt, ← Int32.toInt_inj] at h_51
    refine v_aload_n hC dX12_turnOver_9 rfl ?_
    refine v_iload_n hC dX12_turnOver_10 rfl ?_
    refine v_vi hC (rest := []) m_1 e_26 rfl mi_X12_turnedOf ms_X12_turnedOf (p_X12_turnedOf hW k_0 (by first | omega | (simp only [Int32.lt_iff_toInt_lt, Int32.le_iff_toInt_le, Int32.reduceToInt, ← Int32.toInt_inj, true_and, and_true, or_true, true_or, false_or, or_false, false_and, and_false, not_true_eq_false, not_false_eq_true] <;> omega)) e_w o_w (by first | omega | (simp only [Int32.lt_iff_toInt_lt, Int32.le_iff_toInt_le, Int32.reduceToInt, ← Int32.toInt_inj, true_and, and_true, or_true, true_or, false_or, or_false, false_and, and_false, not_true_eq_false, not_false_eq_true] <;> omega))) mx_X12_turnedOf ml_X12_314 (by decide) rfl (cells1 := 0) (slots1 := 0) (by decide) (by decide) (Nat.le_of_ble_eq_true rfl) (Nat.le_of_ble_eq_true rfl) rfl (Nat.le_of_ble_eq_true rfl) dX12_turnOver_11 (fun r_52 L_53 f_54 h_55 => ?_)
    obtain ⟨rfl, rfl, b_56⟩ := h_55
    refine v_goto hC dX12_turnOver_14 (tgt := 18) (by decide) ?_
    exact hR _ _ _ _ _ _ _ dX12_turnOver_18 rfl (Nat.le_of_ble_eq_true rfl) (Nat.le_of_ble_eq_true rfl) ⟨rfl, rfl, (by first | omega | (simp only [Int32.lt_iff_toInt_lt, Int32.le_iff_toInt_le, Int32.reduceToInt, ← Int32.toInt_inj, true_and, and_true, or_true, true_or, false_or, or_false, false_and, and_false, not_true_eq_false, not_false_eq_true] <;> omega))⟩
set_option maxRecDepth 100000 in
set_option maxHeartbeats 8000000 in
theorem p_X12_putBit {l : Launch} {E : Ez} {L : List Nat} {f : Nat → va_E} {T : Nat → va_E → Prop} {a_0 : Nat} {a_1 : Int32} {a_2 : Int32} {a_3 : Int32} {q : Nat → Nat} {g_w : Nat → Int32} (hW : WT T L f) (k_0 : isM T L E a_0 q) (g_1 : (0 ≤ a_1.toInt ∧ a_1.toInt ≤ 5)) (g_2 : (0 ≤ a_2.toInt ∧ a_2.toInt ≤ 255)) (e_w : f (q 1) = aI E 2076 g_w) (o_w : WOK g_w) (htold : (wv g_w a_1 0).toInt = 1) (hB : (a_2.toInt * (wv g_w a_1 4).toInt + (wv g_w a_1 4).toInt) * (wv g_w a_1 3).toInt ≤ 256) (hpt : 1 ≤ (g_w 0).toInt) : CI l yX12_putBit cX12_putBit 8 .int 4 0 0 E [.ref a_0, .int a_1, .int a_2, .int a_3] L f (fun r L1 f1 => L = L1 ∧ WT T L f1 ∧ FR [356] f f1) := by
  refine ci_of (by decide) (Nat.le_of_ble_eq_true rfl) (fun z hz hnm hC hR => ?_)
  have hC : Cx z E cX12_putBit RX12 8 4 0 0 := hC
  subst hz
  show V z E 8 0 0 L f 0 [(0, .ref a_0), (1, .int a_1), (2, .int a_2), (3, .int a_3)] []
  obtain ⟨m_1, t_2, nq_21, k_3, k_4, k_5, k_6, k_7, k_8, k_9, k_10, k_11, k_12, k_13, k_14, k_15, k_16, k_17, k_18, k_19, k_20⟩ := id k_0
  obtain ⟨m_22, t_23⟩ := id k_3
  have b_24 := o_w.r0
  have b_25 := o_w.w0
  obtain ⟨tl_2, tl_3, tl_4⟩ := o_w.told g_1 htold
  refine v_iconst hC dX12_putBit_0 (v := 0) (by decide) ?_
  refine v_istore hC dX12_putBit_1 (by decide) (lv' := [(4, .int 0), (0, .ref a_0), (1, .int a_1), (2, .int a_2), (3, .int a_3)]) rfl ?_
  refine v_iload_n hC dX12_putBit_3 rfl ?_
  refine v_aload_n hC dX12_putBit_4 rfl ?_
  refine v_iload_n hC dX12_putBit_5 rfl ?_
  refine v_iconst hC dX12_putBit_6 (v := 4) (by decide) ?_
  obtain ⟨v_27, v_28, v_30, v_32, v_34, v_36, v_38, v_39, v_40, v_41, v_43, e_26, b_29, b_31, b_33, b_35, b_37, b_42, b_44⟩ := hW.at m_1 t_2
  refine v_vi hC (rest := [.int a_2]) m_1 e_26 rfl mi_X12_ofWay ms_X12_ofWay (p_X12_ofWay hW k_0 (by first | omega | (simp only [Int32.lt_iff_toInt_lt, Int32.le_iff_toInt_le, Int32.reduceToInt, ← Int32.toInt_inj, true_and, and_true, or_true, true_or, false_or, or_false, false_and, and_false, not_true_eq_false, not_false_eq_true] <;> omega)) (by decide) e_w o_w) mx_X12_ofWay ml_X12_94 (by decide) rfl (cells1 := 0) (slots1 := 0) (by decide) (by decide) (Nat.le_of_ble_eq_true rfl) (Nat.le_of_ble_eq_true rfl) rfl (Nat.le_of_ble_eq_true rfl) dX12_putBit_7 (fun r_45 L_46 f_47 h_48 => ?_)
  obtain ⟨rfl, rfl, rfl⟩ := h_48
  obtain ⟨v_51, h_52⟩ : ∃ v9 : Int32, a_2 * (wv g_w a_1 4) = v9 := ⟨_, rfl⟩
  refine v_imul hC dX12_putBit_10 h_52 ?_
  have h_53 := mul_v 255 5 1275 h_52 (by first | omega | (simp only [Int32.lt_iff_toInt_lt, Int32.le_iff_toInt_le, Int32.reduceToInt, ← Int32.toInt_inj, true_and, and_true, or_true, true_or, false_or, or_false, false_and, and_false, not_true_eq_false, not_false_eq_true] <;> omega)) (by first | omega | (simp only [Int32.lt_iff_toInt_lt, Int32.le_iff_toInt_le, Int32.reduceToInt, ← Int32.toInt_inj, true_and, and_true, or_true, true_or, false_or, or_false, false_and, and_false, not_true_eq_false, not_false_eq_true] <;> omega)) (by decide) (by decide)
  refine v_istore hC dX12_putBit_11 (by decide) (lv' := [(5, .int v_51), (4, .int 0), (0, .ref a_0), (1, .int a_1), (2, .int a_2), (3, .int a_3)]) rfl ?_
  have lp_8431 : ∀ (n_8432 : Nat) (f_8425 : Nat → va_E) (hW_8426 : WT T L f_8425) (hF_8427 : FR [356] f f_8425) (i_8423 : Int32) (b_8430 : (0 ≤ i_8423.toInt ∧ i_8423.toInt ≤ 1275)) (i_8424 : Int32) (hm_8434 : 1275 - i_8423.toInt < (n_8432 : Int)), V z E 8 0 0 L f_8425 13 [(5, .int i_8423), (4, .int i_8424), (0, .ref a_0), (1, .int a_1), (2, .int a_2), (3, .int a_3)] [] := by
    intro n_8432
    induction n_8432 with
    | zero =>
      intro f_8425 hW_8426 hF_8427 i_8423 b_8430 i_8424 hm_8434
      have hf_8428 := hF_8427.at e_w rfl
      have hf_8429 := hF_8427.at e_26 rfl
      exfalso; omega
    | succ n_8432 ih_8433 =>
      intro f_8425 hW_8426 hF_8427 i_8423 b_8430 i_8424 hm_8434
      have hf_8428 := hF_8427.at e_w rfl
      have hf_8429 := hF_8427.at e_26 rfl
      refine v_iload hC dX12_putBit_13 rfl ?_
      refine v_iload_n hC dX12_putBit_15 rfl ?_
      refine v_iconst hC dX12_putBit_16 (v := 1) (by decide) ?_
      obtain ⟨v_8435, h_8436⟩ : ∃ v9 : Int32, a_2 + 1 = v9 := ⟨_, rfl⟩
      refine v_iadd hC dX12_putBit_17 h_8436 ?_
      have h_8437 := add_v h_8436 (by first | omega | (simp only [Int32.lt_iff_toInt_lt, Int32.le_iff_toInt_le, Int32.reduceToInt, ← Int32.toInt_inj, true_and, and_true, or_true, true_or, false_or, or_false, false_and, and_false, not_true_eq_false, not_false_eq_true] <;> omega)) (by first | omega | (simp only [Int32.lt_iff_toInt_lt, Int32.le_iff_toInt_le, Int32.reduceToInt, ← Int32.toInt_inj, true_and, and_true, or_true, true_or, false_or, or_false, false_and, and_false, not_true_eq_false, not_false_eq_true] <;> omega))
      try simp only [Int32.reduceToInt] at h_8437
      refine v_aload_n hC dX12_putBit_18 rfl ?_
      refine v_iload_n hC dX12_putBit_19 rfl ?_
      refine v_iconst hC dX12_putBit_20 (v := 4) (by decide) ?_
      refine v_vi hC (rest := [.int v_8435, .int i_8423]) m_1 hf_8429 rfl mi_X12_ofWay ms_X12_ofWay (p_X12_ofWay hW_8426 k_0 (by first | omega | (simp only [Int32.lt_iff_toInt_lt, Int32.le_iff_toInt_le, Int32.reduceToInt, ← Int32.toInt_inj, true_and, and_true, or_true, true_or, false_or, or_false, false_and, and_false, not_true_eq_false, not_false_eq_true] <;> omega)) (by decide) hf_8428 o_w) mx_X12_ofWay ml_X12_94 (by decide) rfl (cells1 := 0) (slots1 := 0) (by decide) (by decide) (Nat.le_of_ble_eq_true rfl) (Nat.le_of_ble_eq_true rfl) rfl (Nat.le_of_ble_eq_true rfl) dX12_putBit_21 (fun r_8438 L_8439 f_8440 h_8441 => ?_)
      obtain ⟨rfl, rfl, rfl⟩ := h_8441
      obtain ⟨v_8444, h_8445⟩ : ∃ v9 : Int32, v_8435 * (wv g_w a_1 4) = v9 := ⟨_, rfl⟩
      refine v_imul hC dX12_putBit_24 h_8445 ?_
      have h_8446 := mul_v 256 5 1280 h_8445 (by first | omega | (simp only [Int32.lt_iff_toInt_lt, Int32.le_iff_toInt_le, Int32.reduceToInt, ← Int32.toInt_inj, true_and, and_true, or_true, true_or, false_or, or_false, false_and, and_false, not_true_eq_false, not_false_eq_true] <;> omega)) (by first | omega | (simp only [Int32.lt_iff_toInt_lt, Int32.le_iff_toInt_le, Int32.reduceToInt, ← Int32.toInt_inj, true_and, and_true, or_true, true_or, false_or, or_false, false_and, and_false, not_true_eq_false, not_false_eq_true] <;> omega)) (by decide) (by decide)
      have h_8447 : 1 ≤ v_8444.toInt := by rw [h_8446.1]; exact Int.mul_le_mul (a := 1) (b := 1) (by first | omega | (simp only [Int32.lt_iff_toInt_lt, Int32.le_iff_toInt_le, Int32.reduceToInt, ← Int32.toInt_inj, true_and, and_true, or_true, true_or, false_or, or_false, false_and, and_false, not_true_eq_false, not_false_eq_true] <;> omega)) (by first | omega | (simp only [Int32.lt_iff_toInt_lt, Int32.le_iff_toInt_le, Int32.reduceToInt, ← Int32.toInt_inj, true_and, and_true, or_true, true_or, false_or, or_false, false_and, and_false, not_true_eq_false, not_false_eq_true] <;> omega)) (by decide) (by first | omega | (simp only [Int32.lt_iff_toInt_lt, Int32.le_iff_toInt_le, Int32.reduceToInt, ← Int32.toInt_inj, true_and, and_true, or_true, true_or, false_or, or_false, false_and, and_false, not_true_eq_false, not_false_eq_true] <;> omega))
      have pe_8448 : v_8444.toInt = a_2.toInt * (wv g_w a_1 4).toInt + (wv g_w a_1 4).toInt := by rw [h_8446.1, h_8437, Int.add_mul, Int.one_mul]
      refine v_icmp_ge hC dX12_putBit_25 (tgt := 141) (by decide) (fun h_8449 => ?_) (fun h_8449 => ?_)
      · simp only [Int32.lt_iff_toInt_lt, Int32.le_iff_toInt_le, Int32.reduceToInt, ← Int32.toInt_inj] at h_8449
        refine v_iload hC dX12_putBit_141 rfl ?_
        exact hR _ _ _ _ _ _ _ dX12_putBit_143 rfl (Nat.le_of_ble_eq_true rfl) (Nat.le_of_ble_eq_true rfl) ⟨rfl, hW_8426, (hF_8427.mono rfl)⟩
      · simp only [Int32.lt_iff_toInt_lt, Int32.le_iff_toInt_le, Int32.reduceToInt, ← Int32.toInt_inj] at h_8449
        have tp_8450 := tl_pre (G := i_8423.toInt) (X := a_2.toInt * (wv g_w a_1 4).toInt + (wv g_w a_1 4).toInt) (gr := (wv g_w a_1 3).toInt) (by omega) hB (by omega)
        refine v_aload_n hC dX12_putBit_28 rfl ?_
        refine v_iload_n hC dX12_putBit_29 rfl ?_
        refine v_iload hC dX12_putBit_30 rfl ?_
        refine v_vi hC (rest := []) m_1 hf_8429 rfl mi_X12_tells ms_X12_tells (p_X12_tells hW_8426 k_0 (by first | omega | (simp only [Int32.lt_iff_toInt_lt, Int32.le_iff_toInt_le, Int32.reduceToInt, ← Int32.toInt_inj, true_and, and_true, or_true, true_or, false_or, or_false, false_and, and_false, not_true_eq_false, not_false_eq_true] <;> omega)) (by first | omega | (simp only [Int32.lt_iff_toInt_lt, Int32.le_iff_toInt_le, Int32.reduceToInt, ← Int32.toInt_inj, true_and, and_true, or_true, true_or, false_or, or_false, false_and, and_false, not_true_eq_false, not_false_eq_true] <;> omega)) hf_8428 o_w (by first | omega | (simp only [Int32.lt_iff_toInt_lt, Int32.le_iff_toInt_le, Int32.reduceToInt, ← Int32.toInt_inj, true_and, and_true, or_true, true_or, false_or, or_false, false_and, and_false, not_true_eq_false, not_false_eq_true] <;> omega)) (by first | omega | (simp only [Int32.lt_iff_toInt_lt, Int32.le_iff_toInt_le, Int32.reduceToInt, ← Int32.toInt_inj, true_and, and_true, or_true, true_or, false_or, or_false, false_and, and_false, not_true_eq_false, not_false_eq_true] <;> omega))) mx_X12_tells ml_X12_341 (by decide) rfl (cells1 := 0) (slots1 := 0) (by decide) (by decide) (Nat.le_of_ble_eq_true rfl) (Nat.le_of_ble_eq_true rfl) rfl (Nat.le_of_ble_eq_true rfl) dX12_putBit_32 (fun r_8451 L_8452 f_8453 h_8454 => ?_)
        obtain ⟨rfl, rfl⟩ := h_8454
        refine v_iload_n hC dX12_putBit_35 rfl ?_
        refine v_icmp_ne hC dX12_putBit_36 (tgt := 42) (by decide) (fun h_8457 => ?_) (fun h_8457 => ?_)
        · simp only [Int32.lt_iff_toInt_lt, Int32.le_iff_toInt_le, Int32.reduceToInt, ← Int32.toInt_inj] at h_8457
          refine v_iconst hC dX12_putBit_42 (v := (-1)) (by decide) ?_
          refine v_istore hC dX12_putBit_43 (by decide) (lv' := [(6, .int (-1)), (5, .int i_8423), (4, .int i_8424), (0, .ref a_0), (1, .int a_1), (2, .int a_2), (3, .int a_3)]) rfl ?_
          refine v_iconst hC dX12_putBit_45 (v := 0) (by decide) ?_
          refine v_istore hC dX12_putBit_46 (by decide) (lv' := [(7, .int 0), (6, .int (-1)), (5, .int i_8423), (4, .int i_8424), (0, .ref a_0), (1, .int a_1), (2, .int a_2), (3, .int a_3)]) rfl ?_
          have lp_9123 : ∀ (n_9124 : Nat) (i_9119 : Int32) (b_9121 : (0 ≤ i_9119.toInt ∧ i_9119.toInt ≤ 5)) (i_9120 : Int32) (b_9122 : ((-1) ≤ i_9120.toInt ∧ i_9120.toInt ≤ 255)) (hm_9126 : 5 - i_9119.toInt < (n_9124 : Int)), V z E 8 0 0 L f_8425 48 [(7, .int i_9119), (6, .int i_9120), (5, .int i_8423), (4, .int i_8424), (0, .ref a_0), (1, .int a_1), (2, .int a_2), (3, .int a_3)] [] := by
            intro n_9124
            induction n_9124 with
            | zero =>
              intro i_9119 b_9121 i_9120 b_9122 hm_9126
              exfalso; omega
            | succ n_9124 ih_9125 =>
              intro i_9119 b_9121 i_9120 b_9122 hm_9126
              refine v_iload hC dX12_putBit_48 rfl ?_
              refine v_aload_n hC dX12_putBit_50 rfl ?_
              refine v_iload_n hC dX12_putBit_51 rfl ?_
              refine v_iconst hC dX12_putBit_52 (v := 3) (by decide) ?_
              refine v_vi hC (rest := [.int i_9119]) m_1 hf_8429 rfl mi_X12_ofWay ms_X12_ofWay (p_X12_ofWay hW_8426 k_0 (by first | omega | (simp only [Int32.lt_iff_toInt_lt, Int32.le_iff_toInt_le, Int32.reduceToInt, ← Int32.toInt_inj, true_and, and_true, or_true, true_or, false_or, or_false, false_and, and_false, not_true_eq_false, not_false_eq_true] <;> omega)) (by decide) hf_8428 o_w) mx_X12_ofWay ml_X12_94 (by decide) rfl (cells1 := 0) (slots1 := 0) (by decide) (by decide) (Nat.le_of_ble_eq_true rfl) (Nat.le_of_ble_eq_true rfl) rfl (Nat.le_of_ble_eq_true rfl) dX12_putBit_53 (fun r_9127 L_9128 f_9129 h_9130 => ?_)
              obtain ⟨rfl, rfl, rfl⟩ := h_9130
              refine v_icmp_ge hC dX12_putBit_56 (tgt := 110) (by decide) (fun h_9133 => ?_) (fun h_9133 => ?_)
              · simp only [Int32.lt_iff_toInt_lt, Int32.le_iff_toInt_le, Int32.reduceToInt, ← Int32.toInt_inj] at h_9133
                refine v_iload hC dX12_putBit_110 rfl ?_
                refine v_iconst hC dX12_putBit_112 (v := (-1)) (by decide) ?_
                refine v_icmp_ne hC dX12_putBit_113 (tgt := 119) (by decide) (fun h_9182 => ?_) (fun h_9182 => ?_)
                · simp only [Int32.lt_iff_toInt_lt, Int32.le_iff_toInt_le, Int32.reduceToInt, ← Int32.toInt_inj] at h_9182
                  refine v_aload_n hC dX12_putBit_119 rfl ?_
                  refine v_get hC fl_X12_37 m_1 hf_8429 rfl dX12_putBit_120 ?_
                  refine v_iload hC dX12_putBit_123 rfl ?_
                  refine v_aload_n hC dX12_putBit_125 rfl ?_
                  refine v_iload hC dX12_putBit_126 rfl ?_
                  refine v_vi hC (rest := [.int i_9120, .ref (q 15)]) m_1 hf_8429 rfl mi_X12_turnOver ms_X12_turnOver (p_X12_turnOver hW_8426 k_0 (by first | omega | (simp only [Int32.lt_iff_toInt_lt, Int32.le_iff_toInt_le, Int32.reduceToInt, ← Int32.toInt_inj, true_and, and_true, or_true, true_or, false_or, or_false, false_and, and_false, not_true_eq_false, not_false_eq_true] <;> omega)) hf_8428 o_w (by first | omega | (simp only [Int32.lt_iff_toInt_lt, Int32.le_iff_toInt_le, Int32.reduceToInt, ← Int32.toInt_inj, true_and, and_true, or_true, true_or, false_or, or_false, false_and, and_false, not_true_eq_false, not_false_eq_true] <;> omega))) mx_X12_turnOver ml_X12_344 (by decide) rfl (cells1 := 0) (slots1 := 0) (by decide) (by decide) (Nat.le_of_ble_eq_true rfl) (Nat.le_of_ble_eq_true rfl) rfl (Nat.le_of_ble_eq_true rfl) dX12_putBit_128 (fun r_9183 L_9184 f_9185 h_9186 => ?_)
                  obtain ⟨rfl, rfl, b_9187⟩ := h_9186
                  obtain ⟨m_9190, t_9191⟩ := id k_9
                  obtain ⟨g_9193, e_9192⟩ := hW_8426.at m_9190 t_9191
                  refine v_iast hC m_9190 e_9192 (vp_in_iff.mpr (by first | omega | (simp only [Int32.lt_iff_toInt_lt, Int32.le_iff_toInt_le, Int32.reduceToInt, ← Int32.toInt_inj, true_and, and_true, or_true, true_or, false_or, or_false, false_and, and_false, not_true_eq_false, not_false_eq_true] <;> omega))) dX12_putBit_131 (fun f_9194 hf_9195 hk_9196 => ?_)
                  have hW_9198 := hW_8426.up hf_9195 hk_9196 t_9191 ⟨_, rfl⟩
                  obtain ⟨g_9197, hf_9195⟩ : ∃ g9, f_9194 (q 15) = aI E 256 g9 := ⟨_, hf_9195⟩
                  have hf_9199 := (hk_9196 (q 1) (ne_kd hf_8428 e_9192 rfl)).trans hf_8428
                  have hf_9200 := (hk_9196 a_0 (ne_kd hf_8429 e_9192 rfl)).trans hf_8429
                  have fr_9201 := FR.w hk_9196 e_9192 (k := 356) rfl
                  obtain ⟨v_9202, h_9203⟩ : ∃ v9 : Int32, i_8424 + Int32.ofInt 1 = v9 := ⟨_, rfl⟩
                  refine v_iinc hC dX12_putBit_132 (k := 3) rfl (v := v_9202) h_9203 (by decide) (lv' := [(4, .int v_9202), (7, .int i_9119), (6, .int i_9120), (5, .int i_8423), (0, .ref a_0), (1, .int a_1), (2, .int a_2), (3, .int a_3)]) rfl ?_
                  obtain ⟨v_9204, h_9205⟩ : ∃ v9 : Int32, i_8423 + Int32.ofInt 1 = v9 := ⟨_, rfl⟩
                  have h_9206 := add_v (b := 1) h_9205 (by first | omega | (simp only [Int32.lt_iff_toInt_lt, Int32.le_iff_toInt_le, Int32.reduceToInt, ← Int32.toInt_inj, true_and, and_true, or_true, true_or, false_or, or_false, false_and, and_false, not_true_eq_false, not_false_eq_true] <;> omega)) (by first | omega | (simp only [Int32.lt_iff_toInt_lt, Int32.le_iff_toInt_le, Int32.reduceToInt, ← Int32.toInt_inj, true_and, and_true, or_true, true_or, false_or, or_false, false_and, and_false, not_true_eq_false, not_false_eq_true] <;> omega))
                  simp only [Int32.reduceToInt] at h_9206
                  refine v_iinc hC dX12_putBit_135 (k := 3) rfl (v := v_9204) h_9205 (by decide) (lv' := [(5, .int v_9204), (4, .int v_9202), (7, .int i_9119), (6, .int i_9120), (0, .ref a_0), (1, .int a_1), (2, .int a_2), (3, .int a_3)]) rfl ?_
                  refine v_goto hC dX12_putBit_138 (tgt := 13) (by decide) ?_
                  refine v_pick [0, 1, 4, 5, 6, 7] rfl ?_
                  exact ih_8433 f_9194 hW_9198 ((hF_8427.tr fr_9201).mono rfl) v_9204 (by first | omega | (simp only [Int32.lt_iff_toInt_lt, Int32.le_iff_toInt_le, Int32.reduceToInt, ← Int32.toInt_inj, true_and, and_true, or_true, true_or, false_or, or_false, false_and, and_false, not_true_eq_false, not_false_eq_true] <;> omega)) v_9202 (by first | omega | (simp only [Int32.lt_iff_toInt_lt, Int32.le_iff_toInt_le, Int32.reduceToInt, ← Int32.toInt_inj, true_and, and_true, or_true, true_or, false_or, or_false, false_and, and_false, not_true_eq_false, not_false_eq_true] <;> omega))
                · simp only [Int32.lt_iff_toInt_lt, Int32.le_iff_toInt_le, Int32.reduceToInt, ← Int32.toInt_inj] at h_9182
                  refine v_goto hC dX12_putBit_116 (tgt := 135) (by decide) ?_
                  obtain ⟨v_9207, h_9208⟩ : ∃ v9 : Int32, i_8423 + Int32.ofInt 1 = v9 := ⟨_, rfl⟩
                  have h_9209 := add_v (b := 1) h_9208 (by first | omega | (simp only [Int32.lt_iff_toInt_lt, Int32.le_iff_toInt_le, Int32.reduceToInt, ← Int32.toInt_inj, true_and, and_true, or_true, true_or, false_or, or_false, false_and, and_false, not_true_eq_false, not_false_eq_true] <;> omega)) (by first | omega | (simp only [Int32.lt_iff_toInt_lt, Int32.le_iff_toInt_le, Int32.reduceToInt, ← Int32.toInt_inj, true_and, and_true, or_true, true_or, false_or, or_false, false_and, and_false, not_true_eq_false, not_false_eq_true] <;> omega))
                  simp only [Int32.reduceToInt] at h_9209
                  refine v_iinc hC dX12_putBit_135 (k := 2) rfl (v := v_9207) h_9208 (by decide) (lv' := [(5, .int v_9207), (7, .int i_9119), (6, .int i_9120), (4, .int i_8424), (0, .ref a_0), (1, .int a_1), (2, .int a_2), (3, .int a_3)]) rfl ?_
                  refine v_goto hC dX12_putBit_138 (tgt := 13) (by decide) ?_
                  refine v_pick [0, 3, 4, 5, 6, 7] rfl ?_
                  exact ih_8433 f_8425 hW_8426 (hF_8427.mono rfl) v_9207 (by first | omega | (simp only [Int32.lt_iff_toInt_lt, Int32.le_iff_toInt_le, Int32.reduceToInt, ← Int32.toInt_inj, true_and, and_true, or_true, true_or, false_or, or_false, false_and, and_false, not_true_eq_false, not_false_eq_true] <;> omega)) i_8424 (by first | omega | (simp only [Int32.lt_iff_toInt_lt, Int32.le_iff_toInt_le, Int32.reduceToInt, ← Int32.toInt_inj, true_and, and_true, or_true, true_or, false_or, or_false, false_and, and_false, not_true_eq_false, not_false_eq_true] <;> omega))
              · simp only [Int32.lt_iff_toInt_lt, Int32.le_iff_toInt_le, Int32.reduceToInt, ← Int32.toInt_inj] at h_9133
                refine v_aload_n hC dX12_putBit_59 rfl ?_
                refine v_get hC fl_X12_37 m_1 hf_8429 rfl dX12_putBit_60 ?_
                refine v_aload_n hC dX12_putBit_63 rfl ?_
                refine v_get hC fl_X12_40 m_1 hf_8429 rfl dX12_putBit_64 ?_
                refine v_iload hC dX12_putBit_67 rfl ?_
                refine v_aload_n hC dX12_putBit_69 rfl ?_
                refine v_iload_n hC dX12_putBit_70 rfl ?_
                refine v_iconst hC dX12_putBit_71 (v := 3) (by decide) ?_
                refine v_vi hC (rest := [.int i_8423, .ref (q 16), .ref (q 15)]) m_1 hf_8429 rfl mi_X12_ofWay ms_X12_ofWay (p_X12_ofWay hW_8426 k_0 (by first | omega | (simp only [Int32.lt_iff_toInt_lt, Int32.le_iff_toInt_le, Int32.reduceToInt, ← Int32.toInt_inj, true_and, and_true, or_true, true_or, false_or, or_false, false_and, and_false, not_true_eq_false, not_false_eq_true] <;> omega)) (by decide) hf_8428 o_w) mx_X12_ofWay ml_X12_94 (by decide) rfl (cells1 := 0) (slots1 := 0) (by decide) (by decide) (Nat.le_of_ble_eq_true rfl) (Nat.le_of_ble_eq_true rfl) rfl (Nat.le_of_ble_eq_true rfl) dX12_putBit_72 (fun r_9210 L_9211 f_9212 h_9213 => ?_)
                obtain ⟨rfl, rfl, rfl⟩ := h_9213
                obtain ⟨v_9216, h_9217⟩ : ∃ v9 : Int32, i_8423 * (wv g_w a_1 3) = v9 := ⟨_, rfl⟩
                refine v_imul hC dX12_putBit_75 h_9217 ?_
                have h_9218 := mul_v 255 5 1275 h_9217 (by first | omega | (simp only [Int32.lt_iff_toInt_lt, Int32.le_iff_toInt_le, Int32.reduceToInt, ← Int32.toInt_inj, true_and, and_true, or_true, true_or, false_or, or_false, false_and, and_false, not_true_eq_false, not_false_eq_true] <;> omega)) (by first | omega | (simp only [Int32.lt_iff_toInt_lt, Int32.le_iff_toInt_le, Int32.reduceToInt, ← Int32.toInt_inj, true_and, and_true, or_true, true_or, false_or, or_false, false_and, and_false, not_true_eq_false, not_false_eq_true] <;> omega)) (by decide) (by decide)
                refine v_iload hC dX12_putBit_76 rfl ?_
                obtain ⟨v_9219, h_9220⟩ : ∃ v9 : Int32, v_9216 + i_9119 = v9 := ⟨_, rfl⟩
                refine v_iadd hC dX12_putBit_78 h_9220 ?_
                have h_9221 := add_v h_9220 (by first | omega | (simp only [Int32.lt_iff_toInt_lt, Int32.le_iff_toInt_le, Int32.reduceToInt, ← Int32.toInt_inj, true_and, and_true, or_true, true_or, false_or, or_false, false_and, and_false, not_true_eq_false, not_false_eq_true] <;> omega)) (by first | omega | (simp only [Int32.lt_iff_toInt_lt, Int32.le_iff_toInt_le, Int32.reduceToInt, ← Int32.toInt_inj, true_and, and_true, or_true, true_or, false_or, or_false, false_and, and_false, not_true_eq_false, not_false_eq_true] <;> omega))
                obtain ⟨m_9222, t_9223⟩ := id k_10
                obtain ⟨g_9225, e_9224, ok_9226⟩ := hW_8426.at m_9222 t_9223
                obtain ⟨v_9227, h_9228⟩ : ∃ v9 : Int32, g_9225 (v_9219 : Int32).toNatClampNeg = v9 := ⟨_, rfl⟩
                have b_9229 := ok_9226 (v_9219 : Int32).toNatClampNeg
                rw [h_9228] at b_9229
                refine v_iald hC m_9222 e_9224 (vp_in_iff.mpr (by first | omega | (simp only [Int32.lt_iff_toInt_lt, Int32.le_iff_toInt_le, Int32.reduceToInt, ← Int32.toInt_inj, true_and, and_true, or_true, true_or, false_or, or_false, false_and, and_false, not_true_eq_false, not_false_eq_true] <;> omega))) h_9228 dX12_putBit_79 ?_
                obtain ⟨m_9230, t_9231⟩ := id k_9
                obtain ⟨g_9233, e_9232⟩ := hW_8426.at m_9230 t_9231
                obtain ⟨v_9234, h_9235⟩ : ∃ v9 : Int32, g_9233 (v_9227 : Int32).toNatClampNeg = v9 := ⟨_, rfl⟩
                refine v_iald hC m_9230 e_9232 (vp_in_iff.mpr (by first | omega | (simp only [Int32.lt_iff_toInt_lt, Int32.le_iff_toInt_le, Int32.reduceToInt, ← Int32.toInt_inj, true_and, and_true, or_true, true_or, false_or, or_false, false_and, and_false, not_true_eq_false, not_false_eq_true] <;> omega))) h_9235 dX12_putBit_80 ?_
                refine v_iconst hC dX12_putBit_81 (v := 4) (by decide) ?_
                refine v_icmp_eq hC dX12_putBit_82 (tgt := 104) (by decide) (fun h_9236 => ?_) (fun h_9236 => ?_)
                · simp only [Int32.lt_iff_toInt_lt, Int32.le_iff_toInt_le, Int32.reduceToInt, ← Int32.toInt_inj] at h_9236
                  obtain ⟨v_9237, h_9238⟩ : ∃ v9 : Int32, i_9119 + Int32.ofInt 1 = v9 := ⟨_, rfl⟩
                  have h_9239 := add_v (b := 1) h_9238 (by first | omega | (simp only [Int32.lt_iff_toInt_lt, Int32.le_iff_toInt_le, Int32.reduceToInt, ← Int32.toInt_inj, true_and, and_true, or_true, true_or, false_or, or_false, false_and, and_false, not_true_eq_false, not_false_eq_true] <;> omega)) (by first | omega | (simp only [Int32.lt_iff_toInt_lt, Int32.le_iff_toInt_le, Int32.reduceToInt, ← Int32.toInt_inj, true_and, and_true, or_true, true_or, false_or, or_false, false_and, and_false, not_true_eq_false, not_false_eq_true] <;> omega))
                  simp only [Int32.reduceToInt] at h_9239
                  refine v_iinc hC dX12_putBit_104 (k := 0) rfl (v := v_9237) h_9238 (by decide) (lv' := [(7, .int v_9237), (6, .int i_9120), (5, .int i_8423), (4, .int i_8424), (0, .ref a_0), (1, .int a_1), (2, .int a_2), (3, .int a_3)]) rfl ?_
                  refine v_goto hC dX12_putBit_107 (tgt := 48) (by decide) ?_
                  refine v_pick [0, 1, 2, 3, 4, 5, 6, 7] rfl ?_
                  exact ih_9125 v_9237 (by first | omega | (simp only [Int32.lt_iff_toInt_lt, Int32.le_iff_toInt_le, Int32.reduceToInt, ← Int32.toInt_inj, true_and, and_true, or_true, true_or, false_or, or_false, false_and, and_false, not_true_eq_false, not_false_eq_true] <;> omega)) i_9120 (by first | omega | (simp only [Int32.lt_iff_toInt_lt, Int32.le_iff_toInt_le, Int32.reduceToInt, ← Int32.toInt_inj, true_and, and_true, or_true, true_or, false_or, or_false, false_and, and_false, not_true_eq_false, not_false_eq_true] <;> omega)) (by first | omega | (simp only [Int32.lt_iff_toInt_lt, Int32.le_iff_toInt_le, Int32.reduceToInt, ← Int32.toInt_inj, true_and, and_true, or_true, true_or, false_or, or_false, false_and, and_false, not_true_eq_false, not_false_eq_true] <;> omega))
                · simp only [Int32.lt_iff_toInt_lt, Int32.le_iff_toInt_le, Int32.reduceToInt, ← Int32.toInt_inj] at h_9236
                  refine v_aload_n hC dX12_putBit_85 rfl ?_
                  refine v_get hC fl_X12_40 m_1 hf_8429 rfl dX12_putBit_86 ?_
                  refine v_iload hC dX12_putBit_89 rfl ?_
                  refine v_aload_n hC dX12_putBit_91 rfl ?_
                  refine v_iload_n hC dX12_putBit_92 rfl ?_
                  refine v_iconst hC dX12_putBit_93 (v := 3) (by decide) ?_
                  refine v_vi hC (rest := [.int i_8423, .ref (q 16)]) m_1 hf_8429 rfl mi_X12_ofWay ms_X12_ofWay (p_X12_ofWay hW_8426 k_0 (by first | omega | (simp only [Int32.lt_iff_toInt_lt, Int32.le_iff_toInt_le, Int32.reduceToInt, ← Int32.toInt_inj, true_and, and_true, or_true, true_or, false_or, or_false, false_and, and_false, not_true_eq_false, not_false_eq_true] <;> omega)) (by decide) hf_8428 o_w) mx_X12_ofWay ml_X12_94 (by decide) rfl (cells1 := 0) (slots1 := 0) (by decide) (by decide) (Nat.le_of_ble_eq_true rfl) (Nat.le_of_ble_eq_true rfl) rfl (Nat.le_of_ble_eq_true rfl) dX12_putBit_94 (fun r_9240 L_9241 f_9242 h_9243 => ?_)
                  obtain ⟨rfl, rfl, rfl⟩ := h_9243
                  obtain ⟨v_9246, h_9247⟩ : ∃ v9 : Int32, i_8423 * (wv g_w a_1 3) = v9 := ⟨_, rfl⟩
                  refine v_imul hC dX12_putBit_97 h_9247 ?_
                  have h_9248 := mul_v 255 5 1275 h_9247 (by first | omega | (simp only [Int32.lt_iff_toInt_lt, Int32.le_iff_toInt_le, Int32.reduceToInt, ← Int32.toInt_inj, true_and, and_true, or_true, true_or, false_or, or_false, false_and, and_false, not_true_eq_false, not_false_eq_true] <;> omega)) (by first | omega | (simp only [Int32.lt_iff_toInt_lt, Int32.le_iff_toInt_le, Int32.reduceToInt, ← Int32.toInt_inj, true_and, and_true, or_true, true_or, false_or, or_false, false_and, and_false, not_true_eq_false, not_false_eq_true] <;> omega)) (by decide) (by decide)
                  refine v_iload hC dX12_putBit_98 rfl ?_
                  obtain ⟨v_9249, h_9250⟩ : ∃ v9 : Int32, v_9246 + i_9119 = v9 := ⟨_, rfl⟩
                  refine v_iadd hC dX12_putBit_100 h_9250 ?_
                  have h_9251 := add_v h_9250 (by first | omega | (simp only [Int32.lt_iff_toInt_lt, Int32.le_iff_toInt_le, Int32.reduceToInt, ← Int32.toInt_inj, true_and, and_true, or_true, true_or, false_or, or_false, false_and, and_false, not_true_eq_false, not_false_eq_true] <;> omega)) (by first | omega | (simp only [Int32.lt_iff_toInt_lt, Int32.le_iff_toInt_le, Int32.reduceToInt, ← Int32.toInt_inj, true_and, and_true, or_true, true_or, false_or, or_false, false_and, and_false, not_true_eq_false, not_false_eq_true] <;> omega))
                  obtain ⟨v_9252, h_9253⟩ : ∃ v9 : Int32, g_9225 (v_9249 : Int32).toNatClampNeg = v9 := ⟨_, rfl⟩
                  have b_9254 := ok_9226 (v_9249 : Int32).toNatClampNeg
                  rw [h_9253] at b_9254
                  refine v_iald hC m_9222 e_9224 (vp_in_iff.mpr (by first | omega | (simp only [Int32.lt_iff_toInt_lt, Int32.le_iff_toInt_le, Int32.reduceToInt, ← Int32.toInt_inj, true_and, and_true, or_true, true_or, false_or, or_false, false_and, and_false, not_true_eq_false, not_false_eq_true] <;> omega))) h_9253 dX12_putBit_101 ?_
                  refine v_istore hC dX12_putBit_102 (by decide) (lv' := [(6, .int v_9252), (7, .int i_9119), (5, .int i_8423), (4, .int i_8424), (0, .ref a_0), (1, .int a_1), (2, .int a_2), (3, .int a_3)]) rfl ?_
                  obtain ⟨v_9255, h_9256⟩ : ∃ v9 : Int32, i_9119 + Int32.ofInt 1 = v9 := ⟨_, rfl⟩
                  have h_9257 := add_v (b := 1) h_9256 (by first | omega | (simp only [Int32.lt_iff_toInt_lt, Int32.le_iff_toInt_le, Int32.reduceToInt, ← Int32.toInt_inj, true_and, and_true, or_true, true_or, false_or, or_false, false_and, and_false, not_true_eq_false, not_false_eq_true] <;> omega)) (by first | omega | (simp only [Int32.lt_iff_toInt_lt, Int32.le_iff_toInt_le, Int32.reduceToInt, ← Int32.toInt_inj, true_and, and_true, or_true, true_or, false_or, or_false, false_and, and_false, not_true_eq_false, not_false_eq_true] <;> omega))
                  simp only [Int32.reduceToInt] at h_9257
                  refine v_iinc hC dX12_putBit_104 (k := 1) rfl (v := v_9255) h_9256 (by decide) (lv' := [(7, .int v_9255), (6, .int v_9252), (5, .int i_8423), (4, .int i_8424), (0, .ref a_0), (1, .int a_1), (2, .int a_2), (3, .int a_3)]) rfl ?_
                  refine v_goto hC dX12_putBit_107 (tgt := 48) (by decide) ?_
                  refine v_pick [0, 1, 2, 3, 4, 5, 6, 7] rfl ?_
                  exact ih_9125 v_9255 (by first | omega | (simp only [Int32.lt_iff_toInt_lt, Int32.le_iff_toInt_le, Int32.reduceToInt, ← Int32.toInt_inj, true_and, and_true, or_true, true_or, false_or, or_false, false_and, and_false, not_true_eq_false, not_false_eq_true] <;> omega)) v_9252 (by first | omega | (simp only [Int32.lt_iff_toInt_lt, Int32.le_iff_toInt_le, Int32.reduceToInt, ← Int32.toInt_inj, true_and, and_true, or_true, true_or, false_or, or_false, false_and, and_false, not_true_eq_false, not_false_eq_true] <;> omega)) (by first | omega | (simp only [Int32.lt_iff_toInt_lt, Int32.le_iff_toInt_le, Int32.reduceToInt, ← Int32.toInt_inj, true_and, and_true, or_true, true_or, false_or, or_false, false_and, and_false, not_true_eq_false, not_false_eq_true] <;> omega))
          refine v_pick [0, 1, 2, 3, 4, 5, 6, 7] rfl ?_
          exact lp_9123 7 0 (by decide) (-1) (by decide) (by decide)
        · simp only [Int32.lt_iff_toInt_lt, Int32.le_iff_toInt_le, Int32.reduceToInt, ← Int32.toInt_inj] at h_8457
          refine v_goto hC dX12_putBit_39 (tgt := 135) (by decide) ?_
          obtain ⟨v_9258, h_9259⟩ : ∃ v9 : Int32, i_8423 + Int32.ofInt 1 = v9 := ⟨_, rfl⟩
          have h_9260 := add_v (b := 1) h_9259 (by first | omega | (simp only [Int32.lt_iff_toInt_lt, Int32.le_iff_toInt_le, Int32.reduceToInt, ← Int32.toInt_inj, true_and, and_true, or_true, true_or, false_or, or_false, false_and, and_false, not_true_eq_false, not_false_eq_true] <;> omega)) (by first | omega | (simp only [Int32.lt_iff_toInt_lt, Int32.le_iff_toInt_le, Int32.reduceToInt, ← Int32.toInt_inj, true_and, and_true, or_true, true_or, false_or, or_false, false_and, and_false, not_true_eq_false, not_false_eq_true] <;> omega))
          simp only [Int32.reduceToInt] at h_9260
          refine v_iinc hC dX12_putBit_135 (k := 0) rfl (v := v_9258) h_9259 (by decide) (lv' := [(5, .int v_9258), (4, .int i_8424), (0, .ref a_0), (1, .int a_1), (2, .int a_2), (3, .int a_3)]) rfl ?_
          refine v_goto hC dX12_putBit_138 (tgt := 13) (by decide) ?_
          refine v_pick [0, 1, 2, 3, 4, 5] rfl ?_
          exact ih_8433 f_8425 hW_8426 (hF_8427.mono rfl) v_9258 (by first | omega | (simp only [Int32.lt_iff_toInt_lt, Int32.le_iff_toInt_le, Int32.reduceToInt, ← Int32.toInt_inj, true_and, and_true, or_true, true_or, false_or, or_false, false_and, and_false, not_true_eq_false, not_false_eq_true] <;> omega)) i_8424 (by first | omega | (simp only [Int32.lt_iff_toInt_lt, Int32.le_iff_toInt_le, Int32.reduceToInt, ← Int32.toInt_inj, true_and, and_true, or_true, true_or, false_or, or_false, false_and, and_false, not_true_eq_false, not_false_eq_true] <;> omega))
  refine v_pick [0, 1, 2, 3, 4, 5] rfl ?_
  exact lp_8431 1277 f hW FR.rf v_51 (by first | omega | (simp only [Int32.lt_iff_toInt_lt, Int32.le_iff_toInt_le, Int32.reduceToInt, ← Int32.toInt_inj, true_and, and_true, or_true, true_or, false_or, or_false, false_and, and_false, not_true_eq_false, not_false_eq_true] <;> omega)) 0 (by first | omega | (simp only [Int32.lt_iff_toInt_lt, Int32.le_iff_toInt_le, Int32.reduceToInt, ← Int32.toInt_inj, true_and, and_true, or_true, true_or, false_or, or_false, false_and, and_false, not_true_eq_false, not_false_eq_true] <;> omega))
set_option maxRecDepth 100000 in
set_option maxHeartbeats 8000000 in
theorem p_X12_puts {l : Launch} {E : Ez} {L : List Nat} {f : Nat → va_E} {T : Nat → va_E → Prop} {a_0 : Nat} {a_1 : Int32} {a_2 : Nat} {a_3 : Int32} {q : Nat → Nat} {g_w : Nat → Int32} (hW : WT T L f) (k_0 : isM T L E a_0 q) (g_1 : (0 ≤ a_1.toInt ∧ a_1.toInt ≤ 5)) (k_2 : isI T L E 600 a_2) (g_3 : (0 ≤ a_3.toInt ∧ a_3.toInt ≤ 50)) (e_w : f (q 1) = aI E 2076 g_w) (o_w : WOK g_w) (htold : (wv g_w a_1 0).toInt = 1) (hP : ∀ i : Int, 0 ≤ i → i < 5 * (a_3.toInt + 1) → (i * (wv g_w a_1 4).toInt + (wv g_w a_1 4).toInt) * (wv g_w a_1 3).toInt ≤ 256) (hpt : 1 ≤ (g_w 0).toInt) : CI l yX12_puts cX12_puts 7 .int 5 0 0 E [.ref a_0, .int a_1, .ref a_2, .int a_3] L f (fun r L1 f1 => L = L1 ∧ WT T L f1 ∧ FR [356] f f1) := by
  refine ci_of (by decide) (Nat.le_of_ble_eq_true rfl) (fun z hz hnm hC hR => ?_)
  have hC : Cx z E cX12_puts RX12 7 5 0 0 := hC
  subst hz
  show V z E 7 0 0 L f 0 [(0, .ref a_0), (1, .int a_1), (2, .ref a_2), (3, .int a_3)] []
  obtain ⟨m_1, t_2, nq_21, k_3, k_4, k_5, k_6, k_7, k_8, k_9, k_10, k_11, k_12, k_13, k_14, k_15, k_16, k_17, k_18, k_19, k_20⟩ := id k_0
  obtain ⟨m_22, t_23⟩ := id k_3
  have b_24 := o_w.r0
  have b_25 := o_w.w0
  obtain ⟨tl_2, tl_3, tl_4⟩ := o_w.told g_1 htold
  refine v_iconst hC dX12_puts_0 (v := 0) (by decide) ?_
  refine v_istore hC dX12_puts_1 (by decide) (lv' := [(4, .int 0), (0, .ref a_0), (1, .int a_1), (2, .ref a_2), (3, .int a_3)]) rfl ?_
  refine v_iconst hC dX12_puts_3 (v := 0) (by decide) ?_
  refine v_istore hC dX12_puts_4 (by decide) (lv' := [(5, .int 0), (4, .int 0), (0, .ref a_0), (1, .int a_1), (2, .ref a_2), (3, .int a_3)]) rfl ?_
  have lp_624 : ∀ (n_625 : Nat) (f_619 : Nat → va_E) (hW_620 : WT T L f_619) (hF_621 : FR [356] f f_619) (i_617 : Int32) (b_623 : (0 ≤ i_617.toInt ∧ i_617.toInt ≤ 255)) (i_618 : Int32) (hm_627 : 255 - i_617.toInt < (n_625 : Int)), V z E 7 0 0 L f_619 6 [(5, .int i_617), (4, .int i_618), (0, .ref a_0), (1, .int a_1), (2, .ref a_2), (3, .int a_3)] [] := by
    intro n_625
    induction n_625 with
    | zero =>
      intro f_619 hW_620 hF_621 i_617 b_623 i_618 hm_627
      have hf_622 := hF_621.at e_w rfl
      exfalso; omega
    | succ n_625 ih_626 =>
      intro f_619 hW_620 hF_621 i_617 b_623 i_618 hm_627
      have hf_622 := hF_621.at e_w rfl
      refine v_iload hC dX12_puts_6 rfl ?_
      refine v_iconst hC dX12_puts_8 (v := 5) (by decide) ?_
      refine v_iload_n hC dX12_puts_9 rfl ?_
      refine v_iconst hC dX12_puts_10 (v := 1) (by decide) ?_
      obtain ⟨v_628, h_629⟩ : ∃ v9 : Int32, a_3 + 1 = v9 := ⟨_, rfl⟩
      refine v_iadd hC dX12_puts_11 h_629 ?_
      have h_630 := add_v h_629 (by first | omega | (simp only [Int32.lt_iff_toInt_lt, Int32.le_iff_toInt_le, Int32.reduceToInt, ← Int32.toInt_inj, true_and, and_true, or_true, true_or, false_or, or_false, false_and, and_false, not_true_eq_false, not_false_eq_true] <;> omega)) (by first | omega | (simp only [Int32.lt_iff_toInt_lt, Int32.le_iff_toInt_le, Int32.reduceToInt, ← Int32.toInt_inj, true_and, and_true, or_true, true_or, false_or, or_false, false_and, and_false, not_true_eq_false, not_false_eq_true] <;> omega))
      try simp only [Int32.reduceToInt] at h_630
      obtain ⟨v_631, h_632⟩ : ∃ v9 : Int32, (5 : Int32) * v_628 = v9 := ⟨_, rfl⟩
      refine v_imul hC dX12_puts_12 h_632 ?_
      have h_633 := mul_v 5 51 255 h_632 (by decide) (by first | omega | (simp only [Int32.lt_iff_toInt_lt, Int32.le_iff_toInt_le, Int32.reduceToInt, ← Int32.toInt_inj, true_and, and_true, or_true, true_or, false_or, or_false, false_and, and_false, not_true_eq_false, not_false_eq_true] <;> omega)) (by decide) (by decide)
      try simp only [Int32.reduceToInt] at h_633
      have h_634 : 1 ≤ v_631.toInt := by rw [h_633.1]; exact Int.mul_le_mul (a := 1) (b := 1) (by first | omega | (simp only [Int32.lt_iff_toInt_lt, Int32.le_iff_toInt_le, Int32.reduceToInt, ← Int32.toInt_inj, true_and, and_true, or_true, true_or, false_or, or_false, false_and, and_false, not_true_eq_false, not_false_eq_true] <;> omega)) (by first | omega | (simp only [Int32.lt_iff_toInt_lt, Int32.le_iff_toInt_le, Int32.reduceToInt, ← Int32.toInt_inj, true_and, and_true, or_true, true_or, false_or, or_false, false_and, and_false, not_true_eq_false, not_false_eq_true] <;> omega)) (by decide) (by first | omega | (simp only [Int32.lt_iff_toInt_lt, Int32.le_iff_toInt_le, Int32.reduceToInt, ← Int32.toInt_inj, true_and, and_true, or_true, true_or, false_or, or_false, false_and, and_false, not_true_eq_false, not_false_eq_true] <;> omega))
      refine v_icmp_ge hC dX12_puts_13 (tgt := 66) (by decide) (fun h_635 => ?_) (fun h_635 => ?_)
      · simp only [Int32.lt_iff_toInt_lt, Int32.le_iff_toInt_le, Int32.reduceToInt, ← Int32.toInt_inj] at h_635
        refine v_iload hC dX12_puts_66 rfl ?_
        exact hR _ _ _ _ _ _ _ dX12_puts_68 rfl (Nat.le_of_ble_eq_true rfl) (Nat.le_of_ble_eq_true rfl) ⟨rfl, hW_620, (hF_621.mono rfl)⟩
      · simp only [Int32.lt_iff_toInt_lt, Int32.le_iff_toInt_le, Int32.reduceToInt, ← Int32.toInt_inj] at h_635
        refine v_iload hC dX12_puts_16 rfl ?_
        refine v_iconst hC dX12_puts_18 (v := 5) (by decide) ?_
        obtain ⟨v_636, h_637⟩ : ∃ v9 : Int32, i_617 / 5 = v9 := ⟨_, rfl⟩
        refine v_idiv hC dX12_puts_19 (by decide) h_637 ?_
        have h_638 := div_v h_637 (by first | omega | (simp only [Int32.lt_iff_toInt_lt, Int32.le_iff_toInt_le, Int32.reduceToInt, ← Int32.toInt_inj, true_and, and_true, or_true, true_or, false_or, or_false, false_and, and_false, not_true_eq_false, not_false_eq_true] <;> omega)) (by decide)
        try simp only [Int32.reduceToInt] at h_638
        refine v_iload_n hC dX12_puts_20 rfl ?_
        have jn_649 : ∀ (v_650 : Int32), V z E 7 0 0 L f_619 35 [(5, .int i_617), (4, .int i_618), (0, .ref a_0), (1, .int a_1), (2, .ref a_2), (3, .int a_3)] [.int v_650] := by
          intro v_650
          refine v_istore hC dX12_puts_35 (by decide) (lv' := [(6, .int v_650), (5, .int i_617), (4, .int i_618), (0, .ref a_0), (1, .int a_1), (2, .ref a_2), (3, .int a_3)]) rfl ?_
          refine v_iload hC dX12_puts_37 rfl ?_
          refine v_aload_n hC dX12_puts_39 rfl ?_
          refine v_iload_n hC dX12_puts_40 rfl ?_
          refine v_iload hC dX12_puts_41 rfl ?_
          refine v_iload hC dX12_puts_43 rfl ?_
          refine v_iconst hC dX12_puts_45 (v := 4) (by decide) ?_
          refine v_iload hC dX12_puts_46 rfl ?_
          refine v_iconst hC dX12_puts_48 (v := 5) (by decide) ?_
          obtain ⟨v_651, h_652⟩ : ∃ v9 : Int32, i_617 - i_617 / 5 * 5 = v9 := ⟨_, rfl⟩
          refine v_irem hC dX12_puts_49 (by decide) h_652 ?_
          have h_653 := rem_v h_652 (by first | omega | (simp only [Int32.lt_iff_toInt_lt, Int32.le_iff_toInt_le, Int32.reduceToInt, ← Int32.toInt_inj, true_and, and_true, or_true, true_or, false_or, or_false, false_and, and_false, not_true_eq_false, not_false_eq_true] <;> omega)) (by decide)
          try simp only [Int32.reduceToInt] at h_653
          obtain ⟨v_654, h_655⟩ : ∃ v9 : Int32, (4 : Int32) - v_651 = v9 := ⟨_, rfl⟩
          refine v_isub hC dX12_puts_50 h_655 ?_
          have h_656 := sub_v h_655 (by first | omega | (simp only [Int32.lt_iff_toInt_lt, Int32.le_iff_toInt_le, Int32.reduceToInt, ← Int32.toInt_inj, true_and, and_true, or_true, true_or, false_or, or_false, false_and, and_false, not_true_eq_false, not_false_eq_true] <;> omega)) (by first | omega | (simp only [Int32.lt_iff_toInt_lt, Int32.le_iff_toInt_le, Int32.reduceToInt, ← Int32.toInt_inj, true_and, and_true, or_true, true_or, false_or, or_false, false_and, and_false, not_true_eq_false, not_false_eq_true] <;> omega))
          try simp only [Int32.reduceToInt] at h_656
          obtain ⟨v_657, h_658⟩ : ∃ v9 : Int32, v_650 >>> (v_654 &&& 31) = v9 := ⟨_, rfl⟩
          refine v_ishr hC dX12_puts_51 h_658 ?_
          refine v_iconst hC dX12_puts_52 (v := 1) (by decide) ?_
          obtain ⟨v_660, h_661⟩ : ∃ v9 : Int32, v_657 &&& 1 = v9 := ⟨_, rfl⟩
          refine v_iand hC dX12_puts_53 h_661 ?_
          have h_662 := and_v h_661 (by decide)
          try simp only [Int32.reduceToInt] at h_662
          obtain ⟨v_664, v_665, v_667, v_669, v_671, v_673, v_675, v_676, v_677, v_678, v_680, e_663, b_666, b_668, b_670, b_672, b_674, b_679, b_681⟩ := hW_620.at m_1 t_2
          refine v_vi hC (rest := [.int i_618]) m_1 e_663 rfl mi_X12_putBit ms_X12_putBit (p_X12_putBit hW_620 k_0 (by first | omega | (simp only [Int32.lt_iff_toInt_lt, Int32.le_iff_toInt_le, Int32.reduceToInt, ← Int32.toInt_inj, true_and, and_true, or_true, true_or, false_or, or_false, false_and, and_false, not_true_eq_false, not_false_eq_true] <;> omega)) (by first | omega | (simp only [Int32.lt_iff_toInt_lt, Int32.le_iff_toInt_le, Int32.reduceToInt, ← Int32.toInt_inj, true_and, and_true, or_true, true_or, false_or, or_false, false_and, and_false, not_true_eq_false, not_false_eq_true] <;> omega)) hf_622 o_w (by first | omega | (simp only [Int32.lt_iff_toInt_lt, Int32.le_iff_toInt_le, Int32.reduceToInt, ← Int32.toInt_inj, true_and, and_true, or_true, true_or, false_or, or_false, false_and, and_false, not_true_eq_false, not_false_eq_true] <;> omega)) (hP _ (by omega) (by omega)) (by first | omega | (simp only [Int32.lt_iff_toInt_lt, Int32.le_iff_toInt_le, Int32.reduceToInt, ← Int32.toInt_inj, true_and, and_true, or_true, true_or, false_or, or_false, false_and, and_false, not_true_eq_false, not_false_eq_true] <;> omega))) mx_X12_putBit ml_X12_347 (by decide) rfl (cells1 := 0) (slots1 := 0) (by decide) (by decide) (Nat.le_of_ble_eq_true rfl) (Nat.le_of_ble_eq_true rfl) rfl (Nat.le_of_ble_eq_true rfl) dX12_puts_54 (fun r_682 L_683 f_684 h_685 => ?_)
          obtain ⟨rfl, hW_686, hF_687⟩ := h_685
          have hf_688 := hF_687.at hf_622 rfl
          have hf_689 := hF_687.at e_663 rfl
          obtain ⟨v_690, h_691⟩ : ∃ v9 : Int32, i_618 + r_682 = v9 := ⟨_, rfl⟩
          refine v_iadd hC dX12_puts_57 h_691 ?_
          refine v_istore hC dX12_puts_58 (by decide) (lv' := [(4, .int v_690), (6, .int v_650), (5, .int i_617), (0, .ref a_0), (1, .int a_1), (2, .ref a_2), (3, .int a_3)]) rfl ?_
          obtain ⟨v_693, h_694⟩ : ∃ v9 : Int32, i_617 + Int32.ofInt 1 = v9 := ⟨_, rfl⟩
          have h_695 := add_v (b := 1) h_694 (by first | omega | (simp only [Int32.lt_iff_toInt_lt, Int32.le_iff_toInt_le, Int32.reduceToInt, ← Int32.toInt_inj, true_and, and_true, or_true, true_or, false_or, or_false, false_and, and_false, not_true_eq_false, not_false_eq_true] <;> omega)) (by first | omega | (simp only [Int32.lt_iff_toInt_lt, Int32.le_iff_toInt_le, Int32.reduceToInt, ← Int32.toInt_inj, true_and, and_true, or_true, true_or, false_or, or_false, false_and, and_false, not_true_eq_false, not_false_eq_true] <;> omega))
          simp only [Int32.reduceToInt] at h_695
          refine v_iinc hC dX12_puts_60 (k := 2) rfl (v := v_693) h_694 (by decide) (lv' := [(5, .int v_693), (4, .int v_690), (6, .int v_650), (0, .ref a_0), (1, .int a_1), (2, .ref a_2), (3, .int a_3)]) rfl ?_
          refine v_goto hC dX12_puts_63 (tgt := 6) (by decide) ?_
          refine v_pick [0, 1, 3, 4, 5, 6] rfl ?_
          exact ih_626 f_684 hW_686 ((hF_621.tr hF_687).mono rfl) v_693 (by first | omega | (simp only [Int32.lt_iff_toInt_lt, Int32.le_iff_toInt_le, Int32.reduceToInt, ← Int32.toInt_inj, true_and, and_true, or_true, true_or, false_or, or_false, false_and, and_false, not_true_eq_false, not_false_eq_true] <;> omega)) v_690 (by first | omega | (simp only [Int32.lt_iff_toInt_lt, Int32.le_iff_toInt_le, Int32.reduceToInt, ← Int32.toInt_inj, true_and, and_true, or_true, true_or, false_or, or_false, false_and, and_false, not_true_eq_false, not_false_eq_true] <;> omega))
        refine v_icmp_ge hC dX12_puts_21 (tgt := 33) (by decide) (fun h_639 => ?_) (fun h_639 => ?_)
        · simp only [Int32.lt_iff_toInt_lt, Int32.le_iff_toInt_le, Int32.reduceToInt, ← Int32.toInt_inj] at h_639
          refine v_bipush hC dX12_puts_33 (v := 31) (by decide) ?_
          refine v_pick [0, 1, 2, 3, 4, 5] rfl ?_
          exact jn_649 31
        · simp only [Int32.lt_iff_toInt_lt, Int32.le_iff_toInt_le, Int32.reduceToInt, ← Int32.toInt_inj] at h_639
          refine v_aload_n hC dX12_puts_24 rfl ?_
          refine v_iload hC dX12_puts_25 rfl ?_
          refine v_iconst hC dX12_puts_27 (v := 5) (by decide) ?_
          obtain ⟨v_696, h_697⟩ : ∃ v9 : Int32, i_617 / 5 = v9 := ⟨_, rfl⟩
          refine v_idiv hC dX12_puts_28 (by decide) h_697 ?_
          have h_698 := div_v h_697 (by first | omega | (simp only [Int32.lt_iff_toInt_lt, Int32.le_iff_toInt_le, Int32.reduceToInt, ← Int32.toInt_inj, true_and, and_true, or_true, true_or, false_or, or_false, false_and, and_false, not_true_eq_false, not_false_eq_true] <;> omega)) (by decide)
          try simp only [Int32.reduceToInt] at h_698
          obtain ⟨m_699, t_700⟩ := id k_2
          obtain ⟨g_702, e_701⟩ := hW_620.at m_699 t_700
          obtain ⟨v_703, h_704⟩ : ∃ v9 : Int32, g_702 (v_696 : Int32).toNatClampNeg = v9 := ⟨_, rfl⟩
          refine v_iald hC m_699 e_701 (vp_in_iff.mpr (by first | omega | (simp only [Int32.lt_iff_toInt_lt, Int32.le_iff_toInt_le, Int32.reduceToInt, ← Int32.toInt_inj, true_and, and_true, or_true, true_or, false_or, or_false, false_and, and_false, not_true_eq_false, not_false_eq_true] <;> omega))) h_704 dX12_puts_29 ?_
          refine v_goto hC dX12_puts_30 (tgt := 35) (by decide) ?_
          refine v_pick [0, 1, 2, 3, 4, 5] rfl ?_
          exact jn_649 v_703
  refine v_pick [0, 1, 2, 3, 4, 5] rfl ?_
  exact lp_624 257 f hW FR.rf 0 (by decide) 0 (by decide)
