set_option maxRecDepth 100000 in
set_option maxHeartbeats 8000000 in
theorem p_X12_letter {l : Launch} {E : Ez} {L : List Nat} {f : Nat → va_E} {T : Nat → va_E → Prop} {a_0 : Nat} {a_1 : Int32} {q : Nat → Nat} {g_w : Nat → Int32} (hW : WT T L f) (k_0 : isM T L E a_0 q) (e_w : f (q 1) = aI E 2076 g_w) (o_w : WOK g_w) : CI l yX12_letter cX12_letter 2 .int 1 0 0 E [.ref a_0, .int a_1] L f (fun r L1 f1 => L = L1 ∧ f = f1 ∧ (¬ r.toInt = 0 ∨ (0 ≤ a_1.toInt ∧ a_1.toInt ≤ 99))) := by
  refine ci_of (by decide) (Nat.le_of_ble_eq_true rfl) (fun z hz hnm hC hR => ?_)
  have hC : Cx z E cX12_letter RX12 2 1 0 0 := hC
  subst hz
  show V z E 2 0 0 L f 0 [(0, .ref a_0), (1, .int a_1)] []
  obtain ⟨m_1, t_2, nq_21, k_3, k_4, k_5, k_6, k_7, k_8, k_9, k_10, k_11, k_12, k_13, k_14, k_15, k_16, k_17, k_18, k_19, k_20⟩ := id k_0
  obtain ⟨m_22, t_23⟩ := id k_3
  have b_24 := o_w.r0
  have b_25 := o_w.w0
  refine v_iload_n hC dX12_letter_0 rfl ?_
  obtain ⟨v_26, h_27⟩ : ∃ v9 : Int64, a_1.toInt64 = v9 := ⟨_, rfl⟩
  refine v_i2l hC dX12_letter_1 h_27 ?_
  have h_28 : v_26.toInt = a_1.toInt := by rw [← h_27]; exact Int32.toInt_toInt64 _
  refine v_lconst hC dX12_letter_2 (v := 0) (by decide) ?_
  refine v_aload_n hC dX12_letter_3 rfl ?_
  obtain ⟨v_30, v_31, v_33, v_35, v_37, v_39, v_41, v_42, v_43, v_44, v_46, e_29, b_32, b_34, b_36, b_38, b_40, b_45, b_47⟩ := hW.at m_1 t_2
  refine v_get hC fl_X12_49 m_1 e_29 rfl dX12_letter_4 ?_
  refine v_iconst hC dX12_letter_7 (v := 1) (by decide) ?_
  obtain ⟨v_48, h_49⟩ : ∃ v9 : Int32, v_46 - 1 = v9 := ⟨_, rfl⟩
  refine v_isub hC dX12_letter_8 h_49 ?_
  have h_50 := sub_v h_49 (by first | omega | (simp only [Int32.lt_iff_toInt_lt, Int32.le_iff_toInt_le, Int32.reduceToInt, ← Int32.toInt_inj, true_and, and_true, or_true, true_or, false_or, or_false, false_and, and_false, not_true_eq_false, not_false_eq_true] <;> omega)) (by first | omega | (simp only [Int32.lt_iff_toInt_lt, Int32.le_iff_toInt_le, Int32.reduceToInt, ← Int32.toInt_inj, true_and, and_true, or_true, true_or, false_or, or_false, false_and, and_false, not_true_eq_false, not_false_eq_true] <;> omega))
  try simp only [Int32.reduceToInt] at h_50
  obtain ⟨v_51, h_52⟩ : ∃ v9 : Int64, v_48.toInt64 = v9 := ⟨_, rfl⟩
  refine v_i2l hC dX12_letter_9 h_52 ?_
  have h_53 : v_51.toInt = v_48.toInt := by rw [← h_52]; exact Int32.toInt_toInt64 _
  refine v_si hC (rest := []) mt_X12_in (p_X12_in hW) mx_X12_in ml_X12_79 (by decide) rfl (cells1 := 0) (slots1 := 0) (by decide) (by decide) (Nat.le_of_ble_eq_true rfl) (Nat.le_of_ble_eq_true rfl) rfl (Nat.le_of_ble_eq_true rfl) dX12_letter_10 (fun r_54 L_55 f_56 h_57 => ?_)
  obtain ⟨rfl, rfl, b_58, x_59⟩ := h_57
  try simp only [Int32.reduceToInt, Int64.reduceToInt] at x_59
  refine v_if_ne hC dX12_letter_13 (tgt := 18) (by decide) (fun h_62 => ?_) (fun h_62 => ?_)
  · simp only [Int32.lt_iff_toInt_lt, Int32.le_iff_toInt_le, Int32.reduceToInt, ← Int32.toInt_inj] at h_62
    refine v_aload_n hC dX12_letter_18 rfl ?_
    refine v_get hC fl_X12_46 m_1 e_29 rfl dX12_letter_19 ?_
    refine v_iload_n hC dX12_letter_22 rfl ?_
    obtain ⟨m_63, t_64⟩ := id k_12
    obtain ⟨g_66, e_65⟩ := hW.at m_63 t_64
    obtain ⟨v_67, h_68⟩ : ∃ v9 : Int32, g_66 (a_1 : Int32).toNatClampNeg = v9 := ⟨_, rfl⟩
    refine v_iald hC m_63 e_65 (vp_in_iff.mpr (by first | omega | (simp only [Int32.lt_iff_toInt_lt, Int32.le_iff_toInt_le, Int32.reduceToInt, ← Int32.toInt_inj, true_and, and_true, or_true, true_or, false_or, or_false, false_and, and_false, not_true_eq_false, not_false_eq_true] <;> omega))) h_68 dX12_letter_23 ?_
    refine v_bipush hC dX12_letter_24 (v := 99) (by decide) ?_
    refine v_icmp_ne hC dX12_letter_26 (tgt := 34) (by decide) (fun h_69 => ?_) (fun h_69 => ?_)
    · simp only [Int32.lt_iff_toInt_lt, Int32.le_iff_toInt_le, Int32.reduceToInt, ← Int32.toInt_inj] at h_69
      refine v_aload_n hC dX12_letter_34 rfl ?_
      refine v_get hC fl_X12_46 m_1 e_29 rfl dX12_letter_35 ?_
      refine v_iload_n hC dX12_letter_38 rfl ?_
      obtain ⟨v_70, h_71⟩ : ∃ v9 : Int32, g_66 (a_1 : Int32).toNatClampNeg = v9 := ⟨_, rfl⟩
      refine v_iald hC m_63 e_65 (vp_in_iff.mpr (by first | omega | (simp only [Int32.lt_iff_toInt_lt, Int32.le_iff_toInt_le, Int32.reduceToInt, ← Int32.toInt_inj, true_and, and_true, or_true, true_or, false_or, or_false, false_and, and_false, not_true_eq_false, not_false_eq_true] <;> omega))) h_71 dX12_letter_39 ?_
      refine v_if_ne hC dX12_letter_40 (tgt := 48) (by decide) (fun h_72 => ?_) (fun h_72 => ?_)
      · simp only [Int32.lt_iff_toInt_lt, Int32.le_iff_toInt_le, Int32.reduceToInt, ← Int32.toInt_inj] at h_72
        refine v_bipush hC dX12_letter_48 (v := 97) (by decide) ?_
        refine v_aload_n hC dX12_letter_50 rfl ?_
        refine v_get hC fl_X12_46 m_1 e_29 rfl dX12_letter_51 ?_
        refine v_iload_n hC dX12_letter_54 rfl ?_
        obtain ⟨v_73, h_74⟩ : ∃ v9 : Int32, g_66 (a_1 : Int32).toNatClampNeg = v9 := ⟨_, rfl⟩
        refine v_iald hC m_63 e_65 (vp_in_iff.mpr (by first | omega | (simp only [Int32.lt_iff_toInt_lt, Int32.le_iff_toInt_le, Int32.reduceToInt, ← Int32.toInt_inj, true_and, and_true, or_true, true_or, false_or, or_false, false_and, and_false, not_true_eq_false, not_false_eq_true] <;> omega))) h_74 dX12_letter_55 ?_
        obtain ⟨v_75, h_76⟩ : ∃ v9 : Int32, (97 : Int32) + v_73 = v9 := ⟨_, rfl⟩
        refine v_iadd hC dX12_letter_56 h_76 ?_
        refine v_iconst hC dX12_letter_57 (v := 1) (by decide) ?_
        obtain ⟨v_78, h_79⟩ : ∃ v9 : Int32, v_75 - 1 = v9 := ⟨_, rfl⟩
        refine v_isub hC dX12_letter_58 h_79 ?_
        exact hR _ _ _ _ _ _ _ dX12_letter_59 rfl (Nat.le_of_ble_eq_true rfl) (Nat.le_of_ble_eq_true rfl) ⟨rfl, rfl, (.inr (by first | omega | (simp only [Int32.lt_iff_toInt_lt, Int32.le_iff_toInt_le, Int32.reduceToInt, ← Int32.toInt_inj, true_and, and_true, or_true, true_or, false_or, or_false, false_and, and_false, not_true_eq_false, not_false_eq_true] <;> omega)))⟩
      · simp only [Int32.lt_iff_toInt_lt, Int32.le_iff_toInt_le, Int32.reduceToInt, ← Int32.toInt_inj] at h_72
        refine v_bipush hC dX12_letter_43 (v := 32) (by decide) ?_
        refine v_goto hC dX12_letter_45 (tgt := 59) (by decide) ?_
        exact hR _ _ _ _ _ _ _ dX12_letter_59 rfl (Nat.le_of_ble_eq_true rfl) (Nat.le_of_ble_eq_true rfl) ⟨rfl, rfl, (.inl (by decide))⟩
    · simp only [Int32.lt_iff_toInt_lt, Int32.le_iff_toInt_le, Int32.reduceToInt, ← Int32.toInt_inj] at h_69
      refine v_bipush hC dX12_letter_29 (v := 63) (by decide) ?_
      refine v_goto hC dX12_letter_31 (tgt := 59) (by decide) ?_
      exact hR _ _ _ _ _ _ _ dX12_letter_59 rfl (Nat.le_of_ble_eq_true rfl) (Nat.le_of_ble_eq_true rfl) ⟨rfl, rfl, (.inl (by decide))⟩
  · simp only [Int32.lt_iff_toInt_lt, Int32.le_iff_toInt_le, Int32.reduceToInt, ← Int32.toInt_inj] at h_62
    refine v_iconst hC dX12_letter_16 (v := (-1)) (by decide) ?_
    exact hR _ _ _ _ _ _ _ dX12_letter_17 rfl (Nat.le_of_ble_eq_true rfl) (Nat.le_of_ble_eq_true rfl) ⟨rfl, rfl, (.inl (by decide))⟩
set_option maxRecDepth 100000 in
set_option maxHeartbeats 8000000 in
theorem p_X12_bit {l : Launch} {E : Ez} {L : List Nat} {f : Nat → va_E} {T : Nat → va_E → Prop} {a_0 : Nat} {a_1 : Int32} {a_2 : Int32} {a_3 : Int32} {q : Nat → Nat} {g_w : Nat → Int32} (hW : WT T L f) (k_0 : isM T L E a_0 q) (e_w : f (q 1) = aI E 2076 g_w) (o_w : WOK g_w) : CI l yX12_bit cX12_bit 5 .int 4 0 0 E [.ref a_0, .int a_1, .int a_2, .int a_3] L f (fun r L1 f1 => L = L1 ∧ WT T L f1 ∧ FR [12, 356] f f1 ∧ ((-6) ≤ r.toInt ∧ r.toInt ≤ 2) ∧ (¬ r.toInt = 0 ∨ (0 ≤ a_1.toInt ∧ a_1.toInt ≤ 3)) ∧ (¬ r.toInt = 0 ∨ (0 ≤ a_2.toInt ∧ a_2.toInt ≤ 5)) ∧ (¬ r.toInt = 0 ∨ (0 ≤ a_3.toInt ∧ a_3.toInt ≤ 255))) := by
  refine ci_of (by decide) (Nat.le_of_ble_eq_true rfl) (fun z hz hnm hC hR => ?_)
  have hC : Cx z E cX12_bit RX12 5 4 0 0 := hC
  subst hz
  show V z E 5 0 0 L f 0 [(0, .ref a_0), (1, .int a_1), (2, .int a_2), (3, .int a_3)] []
  obtain ⟨m_1, t_2, nq_21, k_3, k_4, k_5, k_6, k_7, k_8, k_9, k_10, k_11, k_12, k_13, k_14, k_15, k_16, k_17, k_18, k_19, k_20⟩ := id k_0
  obtain ⟨m_22, t_23⟩ := id k_3
  have b_24 := o_w.r0
  have b_25 := o_w.w0
  refine v_aload_n hC dX12_bit_0 rfl ?_
  refine v_iload_n hC dX12_bit_1 rfl ?_
  refine v_iload_n hC dX12_bit_2 rfl ?_
  obtain ⟨v_27, v_28, v_30, v_32, v_34, v_36, v_38, v_39, v_40, v_41, v_43, e_26, b_29, b_31, b_33, b_35, b_37, b_42, b_44⟩ := hW.at m_1 t_2
  refine v_vi hC (rest := []) m_1 e_26 rfl mi_X12_asks ms_X12_asks (p_X12_asks hW k_0 e_w o_w) mx_X12_asks ml_X12_357 (by decide) rfl (cells1 := 0) (slots1 := 0) (by decide) (by decide) (Nat.le_of_ble_eq_true rfl) (Nat.le_of_ble_eq_true rfl) rfl (Nat.le_of_ble_eq_true rfl) dX12_bit_3 (fun r_45 L_46 f_47 h_48 => ?_)
  obtain ⟨rfl, rfl, b_49, h_50, h_51, x_52⟩ := h_48
  try simp only [Int32.reduceToInt, Int64.reduceToInt] at x_52
  refine v_istore hC dX12_bit_6 (by decide) (lv' := [(4, .int r_45), (0, .ref a_0), (1, .int a_1), (2, .int a_2), (3, .int a_3)]) rfl ?_
  refine v_iload hC dX12_bit_8 rfl ?_
  refine v_if_ge hC dX12_bit_10 (tgt := 16) (by decide) (fun h_55 => ?_) (fun h_55 => ?_)
  · simp only [Int32.lt_iff_toInt_lt, Int32.le_iff_toInt_le, Int32.reduceToInt, ← Int32.toInt_inj] at h_55
    refine v_aload_n hC dX12_bit_16 rfl ?_
    refine v_iload_n hC dX12_bit_17 rfl ?_
    refine v_vv hC (rest := []) m_1 e_26 rfl mi_X12_takes0 ms_X12_takes0 (p_X12_takes0 hW k_0 (by first | omega | (simp only [Int32.lt_iff_toInt_lt, Int32.le_iff_toInt_le, Int32.reduceToInt, ← Int32.toInt_inj, true_and, and_true, or_true, true_or, false_or, or_false, false_and, and_false, not_true_eq_false, not_false_eq_true] <;> omega)) e_w o_w) mx_X12_takes0 ml_X12_363 (by decide) rfl (cells1 := 0) (slots1 := 0) (by decide) (by decide) (Nat.le_of_ble_eq_true rfl) (Nat.le_of_ble_eq_true rfl) rfl (Nat.le_of_ble_eq_true rfl) dX12_bit_18 (fun L_57 f_58 h_59 => ?_)
    obtain ⟨rfl, hW_60, hF_61⟩ := h_59
    have hf_62 := hF_61.at e_w rfl
    have hf_63 := hF_61.at e_26 rfl
    refine v_iload_n hC dX12_bit_21 rfl ?_
    obtain ⟨v_64, h_65⟩ : ∃ v9 : Int64, a_3.toInt64 = v9 := ⟨_, rfl⟩
    refine v_i2l hC dX12_bit_22 h_65 ?_
    have h_66 : v_64.toInt = a_3.toInt := by rw [← h_65]; exact Int32.toInt_toInt64 _
    refine v_lconst hC dX12_bit_23 (v := 0) (by decide) ?_
    refine v_aload_n hC dX12_bit_24 rfl ?_
    refine v_iload_n hC dX12_bit_25 rfl ?_
    refine v_vi hC (rest := [.long 0, .long v_64]) m_1 hf_63 rfl mi_X12_roomOf ms_X12_roomOf (p_X12_roomOf hW_60 k_0 (by first | omega | (simp only [Int32.lt_iff_toInt_lt, Int32.le_iff_toInt_le, Int32.reduceToInt, ← Int32.toInt_inj, true_and, and_true, or_true, true_or, false_or, or_false, false_and, and_false, not_true_eq_false, not_false_eq_true] <;> omega)) hf_62 o_w (by first | omega | (simp only [Int32.lt_iff_toInt_lt, Int32.le_iff_toInt_le, Int32.reduceToInt, ← Int32.toInt_inj, true_and, and_true, or_true, true_or, false_or, or_false, false_and, and_false, not_true_eq_false, not_false_eq_true] <;> omega))) mx_X12_roomOf ml_X12_241 (by decide) rfl (cells1 := 0) (slots1 := 0) (by decide) (by decide) (Nat.le_of_ble_eq_true rfl) (Nat.le_of_ble_eq_true rfl) rfl (Nat.le_of_ble_eq_true rfl) dX12_bit_26 (fun r_67 L_68 f_69 h_70 => ?_)
    obtain ⟨rfl, hW_75, hF_76, b_71, x_72, x_73, x_74⟩ := h_70
    have fe_77 : fld (f_58 a_0) 20 = (v_43 : Int32).toInt := by rw [hf_63]; rfl
    have hf_78 := hF_76.at hf_62 rfl
    obtain ⟨v_80, v_81, v_83, v_85, v_87, v_89, v_91, v_92, v_93, v_94, v_96, e_79, b_82, b_84, b_86, b_88, b_90, b_95, b_97⟩ := hW_75.at m_1 t_2
    have fe_98 : fld (f_69 a_0) 20 = (v_96 : Int32).toInt := by rw [e_79]; rfl
    rw [fe_98, fe_77] at x_74
    clear fe_77 fe_98
    try simp only [Int32.reduceToInt, Int64.reduceToInt] at x_72
    try simp only [Int32.reduceToInt, Int64.reduceToInt] at x_73
    try simp only [Int32.reduceToInt, Int64.reduceToInt] at x_74
    refine v_iconst hC dX12_bit_29 (v := 1) (by decide) ?_
    obtain ⟨v_99, h_100⟩ : ∃ v9 : Int32, r_67 - 1 = v9 := ⟨_, rfl⟩
    refine v_isub hC dX12_bit_30 h_100 ?_
    have h_101 := sub_v h_100 (by first | omega | (simp only [Int32.lt_iff_toInt_lt, Int32.le_iff_toInt_le, Int32.reduceToInt, ← Int32.toInt_inj, true_and, and_true, or_true, true_or, false_or, or_false, false_and, and_false, not_true_eq_false, not_false_eq_true] <;> omega)) (by first | omega | (simp only [Int32.lt_iff_toInt_lt, Int32.le_iff_toInt_le, Int32.reduceToInt, ← Int32.toInt_inj, true_and, and_true, or_true, true_or, false_or, or_false, false_and, and_false, not_true_eq_false, not_false_eq_true] <;> omega))
    try simp only [Int32.reduceToInt] at h_101
    obtain ⟨v_102, h_103⟩ : ∃ v9 : Int64, v_99.toInt64 = v9 := ⟨_, rfl⟩
    refine v_i2l hC dX12_bit_31 h_103 ?_
    have h_104 : v_102.toInt = v_99.toInt := by rw [← h_103]; exact Int32.toInt_toInt64 _
    refine v_si hC (rest := []) mt_X12_in (p_X12_in hW_75) mx_X12_in ml_X12_79 (by decide) rfl (cells1 := 0) (slots1 := 0) (by decide) (by decide) (Nat.le_of_ble_eq_true rfl) (Nat.le_of_ble_eq_true rfl) rfl (Nat.le_of_ble_eq_true rfl) dX12_bit_32 (fun r_105 L_106 f_107 h_108 => ?_)
    obtain ⟨rfl, rfl, b_109, x_110⟩ := h_108
    try simp only [Int32.reduceToInt, Int64.reduceToInt] at x_110
    refine v_if_eq hC dX12_bit_35 (tgt := 47) (by decide) (fun h_113 => ?_) (fun h_113 => ?_)
    · simp only [Int32.lt_iff_toInt_lt, Int32.le_iff_toInt_le, Int32.reduceToInt, ← Int32.toInt_inj] at h_113
      refine v_iconst hC dX12_bit_47 (v := (-1)) (by decide) ?_
      exact hR _ _ _ _ _ _ _ dX12_bit_48 rfl (Nat.le_of_ble_eq_true rfl) (Nat.le_of_ble_eq_true rfl) ⟨rfl, hW_75, ((hF_61.tr hF_76).mono rfl), (by decide), (.inl (by decide)), (.inl (by decide)), (.inl (by decide))⟩
    · simp only [Int32.lt_iff_toInt_lt, Int32.le_iff_toInt_le, Int32.reduceToInt, ← Int32.toInt_inj] at h_113
      refine v_aload_n hC dX12_bit_38 rfl ?_
      refine v_iload_n hC dX12_bit_39 rfl ?_
      refine v_iload_n hC dX12_bit_40 rfl ?_
      refine v_vi hC (rest := []) m_1 e_79 rfl mi_X12_bitOf ms_X12_bitOf (p_X12_bitOf hW_75 k_0 (by first | omega | (simp only [Int32.lt_iff_toInt_lt, Int32.le_iff_toInt_le, Int32.reduceToInt, ← Int32.toInt_inj, true_and, and_true, or_true, true_or, false_or, or_false, false_and, and_false, not_true_eq_false, not_false_eq_true] <;> omega)) (by first | omega | (simp only [Int32.lt_iff_toInt_lt, Int32.le_iff_toInt_le, Int32.reduceToInt, ← Int32.toInt_inj, true_and, and_true, or_true, true_or, false_or, or_false, false_and, and_false, not_true_eq_false, not_false_eq_true] <;> omega)) hf_78 o_w (by first | omega | (simp only [Int32.lt_iff_toInt_lt, Int32.le_iff_toInt_le, Int32.reduceToInt, ← Int32.toInt_inj, true_and, and_true, or_true, true_or, false_or, or_false, false_and, and_false, not_true_eq_false, not_false_eq_true] <;> omega)) (x_72 _ (by omega) (by omega))) mx_X12_bitOf ml_X12_370 (by decide) rfl (cells1 := 0) (slots1 := 0) (by decide) (by decide) (Nat.le_of_ble_eq_true rfl) (Nat.le_of_ble_eq_true rfl) rfl (Nat.le_of_ble_eq_true rfl) dX12_bit_41 (fun r_114 L_115 f_116 h_117 => ?_)
      obtain ⟨rfl, rfl, b_118⟩ := h_117
      refine v_goto hC dX12_bit_44 (tgt := 48) (by decide) ?_
      exact hR _ _ _ _ _ _ _ dX12_bit_48 rfl (Nat.le_of_ble_eq_true rfl) (Nat.le_of_ble_eq_true rfl) ⟨rfl, hW_75, ((hF_61.tr hF_76).mono rfl), (by first | omega | (simp only [Int32.lt_iff_toInt_lt, Int32.le_iff_toInt_le, Int32.reduceToInt, ← Int32.toInt_inj, true_and, and_true, or_true, true_or, false_or, or_false, false_and, and_false, not_true_eq_false, not_false_eq_true] <;> omega)), (.inr (by first | omega | (simp only [Int32.lt_iff_toInt_lt, Int32.le_iff_toInt_le, Int32.reduceToInt, ← Int32.toInt_inj, true_and, and_true, or_true, true_or, false_or, or_false, false_and, and_false, not_true_eq_false, not_false_eq_true] <;> omega))), (.inr (by first | omega | (simp only [Int32.lt_iff_toInt_lt, Int32.le_iff_toInt_le, Int32.reduceToInt, ← Int32.toInt_inj, true_and, and_true, or_true, true_or, false_or, or_false, false_and, and_false, not_true_eq_false, not_false_eq_true] <;> omega))), (.inr (by first | omega | (simp only [Int32.lt_iff_toInt_lt, Int32.le_iff_toInt_le, Int32.reduceToInt, ← Int32.toInt_inj, true_and, and_true, or_true, true_or, false_or, or_false, false_and, and_false, not_true_eq_false, not_false_eq_true] <;> omega)))⟩
  · simp only [Int32.lt_iff_toInt_lt, Int32.le_iff_toInt_le, Int32.reduceToInt, ← Int32.toInt_inj] at h_55
    refine v_iload hC dX12_bit_13 rfl ?_
    exact hR _ _ _ _ _ _ _ dX12_bit_15 rfl (Nat.le_of_ble_eq_true rfl) (Nat.le_of_ble_eq_true rfl) ⟨rfl, hW, FR.rf, (by first | omega | (simp only [Int32.lt_iff_toInt_lt, Int32.le_iff_toInt_le, Int32.reduceToInt, ← Int32.toInt_inj, true_and, and_true, or_true, true_or, false_or, or_false, false_and, and_false, not_true_eq_false, not_false_eq_true] <;> omega)), (by first | omega | (simp only [Int32.lt_iff_toInt_lt, Int32.le_iff_toInt_le, Int32.reduceToInt, ← Int32.toInt_inj, true_and, and_true, or_true, true_or, false_or, or_false, false_and, and_false, not_true_eq_false, not_false_eq_true] <;> omega)), (by first | omega | (simp only [Int32.lt_iff_toInt_lt, Int32.le_iff_toInt_le, Int32.reduceToInt, ← Int32.toInt_inj, true_and, and_true, or_true, true_or, false_or, or_false, false_and, and_false, not_true_eq_false, not_false_eq_true] <;> omega)), (by first | omega | (simp only [Int32.lt_iff_toInt_lt, Int32.le_iff_toInt_le, Int32.reduceToInt, ← Int32.toInt_inj, true_and, and_true, or_true, true_or, false_or, or_false, false_and, and_false, not_true_eq_false, not_false_eq_true] <;> omega))⟩
set_option maxRecDepth 100000 in
set_option maxHeartbeats 8000000 in
theorem p_X12_dim {l : Launch} {E : Ez} {L : List Nat} {f : Nat → va_E} {T : Nat → va_E → Prop} {a_0 : Nat} {a_1 : Int32} {a_2 : Int32} {q : Nat → Nat} {g_w : Nat → Int32} (hW : WT T L f) (k_0 : isM T L E a_0 q) (e_w : f (q 1) = aI E 2076 g_w) (o_w : WOK g_w) : CI l yX12_dim cX12_dim 7 .int 4 0 0 E [.ref a_0, .int a_1, .int a_2] L f (fun r L1 f1 => L = L1 ∧ WT T L f1 ∧ FR [12, 356] f f1 ∧ (¬ r.toInt = 0 ∨ (0 ≤ a_1.toInt ∧ a_1.toInt ≤ 3)) ∧ (¬ r.toInt = 0 ∨ (0 ≤ a_2.toInt ∧ a_2.toInt ≤ 5))) := by
  refine ci_of (by decide) (Nat.le_of_ble_eq_true rfl) (fun z hz hnm hC hR => ?_)
  have hC : Cx z E cX12_dim RX12 7 4 0 0 := hC
  subst hz
  show V z E 7 0 0 L f 0 [(0, .ref a_0), (1, .int a_1), (2, .int a_2)] []
  obtain ⟨m_1, t_2, nq_21, k_3, k_4, k_5, k_6, k_7, k_8, k_9, k_10, k_11, k_12, k_13, k_14, k_15, k_16, k_17, k_18, k_19, k_20⟩ := id k_0
  obtain ⟨m_22, t_23⟩ := id k_3
  have b_24 := o_w.r0
  have b_25 := o_w.w0
  refine v_aload_n hC dX12_dim_0 rfl ?_
  refine v_iload_n hC dX12_dim_1 rfl ?_
  refine v_iload_n hC dX12_dim_2 rfl ?_
  obtain ⟨v_27, v_28, v_30, v_32, v_34, v_36, v_38, v_39, v_40, v_41, v_43, e_26, b_29, b_31, b_33, b_35, b_37, b_42, b_44⟩ := hW.at m_1 t_2
  refine v_vi hC (rest := []) m_1 e_26 rfl mi_X12_asks ms_X12_asks (p_X12_asks hW k_0 e_w o_w) mx_X12_asks ml_X12_357 (by decide) rfl (cells1 := 0) (slots1 := 0) (by decide) (by decide) (Nat.le_of_ble_eq_true rfl) (Nat.le_of_ble_eq_true rfl) rfl (Nat.le_of_ble_eq_true rfl) dX12_dim_3 (fun r_45 L_46 f_47 h_48 => ?_)
  obtain ⟨rfl, rfl, b_49, h_50, h_51, x_52⟩ := h_48
  try simp only [Int32.reduceToInt, Int64.reduceToInt] at x_52
  refine v_istore_n hC dX12_dim_6 (by decide) (lv' := [(3, .int r_45), (0, .ref a_0), (1, .int a_1), (2, .int a_2)]) rfl ?_
  refine v_iload_n hC dX12_dim_7 rfl ?_
  refine v_if_ge hC dX12_dim_8 (tgt := 13) (by decide) (fun h_55 => ?_) (fun h_55 => ?_)
  · simp only [Int32.lt_iff_toInt_lt, Int32.le_iff_toInt_le, Int32.reduceToInt, ← Int32.toInt_inj] at h_55
    refine v_aload_n hC dX12_dim_13 rfl ?_
    refine v_iload_n hC dX12_dim_14 rfl ?_
    refine v_vv hC (rest := []) m_1 e_26 rfl mi_X12_takes0 ms_X12_takes0 (p_X12_takes0 hW k_0 (by first | omega | (simp only [Int32.lt_iff_toInt_lt, Int32.le_iff_toInt_le, Int32.reduceToInt, ← Int32.toInt_inj, true_and, and_true, or_true, true_or, false_or, or_false, false_and, and_false, not_true_eq_false, not_false_eq_true] <;> omega)) e_w o_w) mx_X12_takes0 ml_X12_363 (by decide) rfl (cells1 := 0) (slots1 := 0) (by decide) (by decide) (Nat.le_of_ble_eq_true rfl) (Nat.le_of_ble_eq_true rfl) rfl (Nat.le_of_ble_eq_true rfl) dX12_dim_15 (fun L_57 f_58 h_59 => ?_)
    obtain ⟨rfl, hW_60, hF_61⟩ := h_59
    have hf_62 := hF_61.at e_w rfl
    have hf_63 := hF_61.at e_26 rfl
    refine v_aload_n hC dX12_dim_18 rfl ?_
    refine v_iload_n hC dX12_dim_19 rfl ?_
    refine v_vi hC (rest := []) m_1 hf_63 rfl mi_X12_roomOf ms_X12_roomOf (p_X12_roomOf hW_60 k_0 (by first | omega | (simp only [Int32.lt_iff_toInt_lt, Int32.le_iff_toInt_le, Int32.reduceToInt, ← Int32.toInt_inj, true_and, and_true, or_true, true_or, false_or, or_false, false_and, and_false, not_true_eq_false, not_false_eq_true] <;> omega)) hf_62 o_w (by first | omega | (simp only [Int32.lt_iff_toInt_lt, Int32.le_iff_toInt_le, Int32.reduceToInt, ← Int32.toInt_inj, true_and, and_true, or_true, true_or, false_or, or_false, false_and, and_false, not_true_eq_false, not_false_eq_true] <;> omega))) mx_X12_roomOf ml_X12_241 (by decide) rfl (cells1 := 0) (slots1 := 0) (by decide) (by decide) (Nat.le_of_ble_eq_true rfl) (Nat.le_of_ble_eq_true rfl) rfl (Nat.le_of_ble_eq_true rfl) dX12_dim_20 (fun r_64 L_65 f_66 h_67 => ?_)
    obtain ⟨rfl, hW_72, hF_73, b_68, x_69, x_70, x_71⟩ := h_67
    have fe_74 : fld (f_58 a_0) 20 = (v_43 : Int32).toInt := by rw [hf_63]; rfl
    have hf_75 := hF_73.at hf_62 rfl
    obtain ⟨v_77, v_78, v_80, v_82, v_84, v_86, v_88, v_89, v_90, v_91, v_93, e_76, b_79, b_81, b_83, b_85, b_87, b_92, b_94⟩ := hW_72.at m_1 t_2
    have fe_95 : fld (f_66 a_0) 20 = (v_93 : Int32).toInt := by rw [e_76]; rfl
    rw [fe_95, fe_74] at x_71
    clear fe_74 fe_95
    try simp only [Int32.reduceToInt, Int64.reduceToInt] at x_69
    try simp only [Int32.reduceToInt, Int64.reduceToInt] at x_70
    try simp only [Int32.reduceToInt, Int64.reduceToInt] at x_71
    refine v_istore hC dX12_dim_23 (by decide) (lv' := [(4, .int r_64), (3, .int r_45), (0, .ref a_0), (1, .int a_1), (2, .int a_2)]) rfl ?_
    refine v_iconst hC dX12_dim_25 (v := 0) (by decide) ?_
    refine v_istore hC dX12_dim_26 (by decide) (lv' := [(5, .int 0), (4, .int r_64), (3, .int r_45), (0, .ref a_0), (1, .int a_1), (2, .int a_2)]) rfl ?_
    refine v_iconst hC dX12_dim_28 (v := 0) (by decide) ?_
    refine v_istore hC dX12_dim_29 (by decide) (lv' := [(6, .int 0), (5, .int 0), (4, .int r_64), (3, .int r_45), (0, .ref a_0), (1, .int a_1), (2, .int a_2)]) rfl ?_
    have lp_337 : ∀ (n_338 : Nat) (i_334 : Int32) (b_336 : (0 ≤ i_334.toInt ∧ i_334.toInt ≤ 256)) (i_335 : Int32) (hm_340 : 256 - i_334.toInt < (n_338 : Int)), V z E 7 0 0 L f_66 31 [(6, .int i_334), (5, .int i_335), (4, .int r_64), (0, .ref a_0), (2, .int a_2)] [] := by
      intro n_338
      induction n_338 with
      | zero =>
        intro i_334 b_336 i_335 hm_340
        exfalso; omega
      | succ n_338 ih_339 =>
        intro i_334 b_336 i_335 hm_340
        refine v_iload hC dX12_dim_31 rfl ?_
        refine v_iload hC dX12_dim_33 rfl ?_
        refine v_icmp_ge hC dX12_dim_35 (tgt := 65) (by decide) (fun h_341 => ?_) (fun h_341 => ?_)
        · simp only [Int32.lt_iff_toInt_lt, Int32.le_iff_toInt_le, Int32.reduceToInt, ← Int32.toInt_inj] at h_341
          refine v_iload hC dX12_dim_65 rfl ?_
          exact hR _ _ _ _ _ _ _ dX12_dim_67 rfl (Nat.le_of_ble_eq_true rfl) (Nat.le_of_ble_eq_true rfl) ⟨rfl, hW_72, ((hF_61.tr hF_73).mono rfl), (.inr (by first | omega | (simp only [Int32.lt_iff_toInt_lt, Int32.le_iff_toInt_le, Int32.reduceToInt, ← Int32.toInt_inj, true_and, and_true, or_true, true_or, false_or, or_false, false_and, and_false, not_true_eq_false, not_false_eq_true] <;> omega))), (.inr (by first | omega | (simp only [Int32.lt_iff_toInt_lt, Int32.le_iff_toInt_le, Int32.reduceToInt, ← Int32.toInt_inj, true_and, and_true, or_true, true_or, false_or, or_false, false_and, and_false, not_true_eq_false, not_false_eq_true] <;> omega)))⟩
        · simp only [Int32.lt_iff_toInt_lt, Int32.le_iff_toInt_le, Int32.reduceToInt, ← Int32.toInt_inj] at h_341
          refine v_iload hC dX12_dim_38 rfl ?_
          refine v_aload_n hC dX12_dim_40 rfl ?_
          refine v_iload_n hC dX12_dim_41 rfl ?_
          refine v_iload hC dX12_dim_42 rfl ?_
          refine v_vi hC (rest := [.int i_335]) m_1 e_76 rfl mi_X12_bitOf ms_X12_bitOf (p_X12_bitOf hW_72 k_0 (by first | omega | (simp only [Int32.lt_iff_toInt_lt, Int32.le_iff_toInt_le, Int32.reduceToInt, ← Int32.toInt_inj, true_and, and_true, or_true, true_or, false_or, or_false, false_and, and_false, not_true_eq_false, not_false_eq_true] <;> omega)) (by first | omega | (simp only [Int32.lt_iff_toInt_lt, Int32.le_iff_toInt_le, Int32.reduceToInt, ← Int32.toInt_inj, true_and, and_true, or_true, true_or, false_or, or_false, false_and, and_false, not_true_eq_false, not_false_eq_true] <;> omega)) hf_75 o_w (by first | omega | (simp only [Int32.lt_iff_toInt_lt, Int32.le_iff_toInt_le, Int32.reduceToInt, ← Int32.toInt_inj, true_and, and_true, or_true, true_or, false_or, or_false, false_and, and_false, not_true_eq_false, not_false_eq_true] <;> omega)) (x_69 _ (by omega) (by omega))) mx_X12_bitOf ml_X12_370 (by decide) rfl (cells1 := 0) (slots1 := 0) (by decide) (by decide) (Nat.le_of_ble_eq_true rfl) (Nat.le_of_ble_eq_true rfl) rfl (Nat.le_of_ble_eq_true rfl) dX12_dim_44 (fun r_342 L_343 f_344 h_345 => ?_)
          obtain ⟨rfl, rfl, b_346⟩ := h_345
          refine v_iconst hC dX12_dim_47 (v := 2) (by decide) ?_
          refine v_icmp_ne hC dX12_dim_48 (tgt := 55) (by decide) (fun h_349 => ?_) (fun h_349 => ?_)
          · simp only [Int32.lt_iff_toInt_lt, Int32.le_iff_toInt_le, Int32.reduceToInt, ← Int32.toInt_inj] at h_349
            refine v_iconst hC dX12_dim_55 (v := 0) (by decide) ?_
            obtain ⟨v_350, h_351⟩ : ∃ v9 : Int32, i_335 + 0 = v9 := ⟨_, rfl⟩
            refine v_iadd hC dX12_dim_56 h_351 ?_
            have rg_353 := Int32.toInt_lt i_335
            have rg_354 := Int32.le_toInt i_335
            have h_352 := add_v h_351 (by first | omega | (simp only [Int32.lt_iff_toInt_lt, Int32.le_iff_toInt_le, Int32.reduceToInt, ← Int32.toInt_inj, true_and, and_true, or_true, true_or, false_or, or_false, false_and, and_false, not_true_eq_false, not_false_eq_true] <;> omega)) (by first | omega | (simp only [Int32.lt_iff_toInt_lt, Int32.le_iff_toInt_le, Int32.reduceToInt, ← Int32.toInt_inj, true_and, and_true, or_true, true_or, false_or, or_false, false_and, and_false, not_true_eq_false, not_false_eq_true] <;> omega))
            try simp only [Int32.reduceToInt] at h_352
            refine v_istore hC dX12_dim_57 (by decide) (lv' := [(5, .int v_350), (6, .int i_334), (4, .int r_64), (0, .ref a_0), (2, .int a_2)]) rfl ?_
            obtain ⟨v_355, h_356⟩ : ∃ v9 : Int32, i_334 + Int32.ofInt 1 = v9 := ⟨_, rfl⟩
            have h_357 := add_v (b := 1) h_356 (by first | omega | (simp only [Int32.lt_iff_toInt_lt, Int32.le_iff_toInt_le, Int32.reduceToInt, ← Int32.toInt_inj, true_and, and_true, or_true, true_or, false_or, or_false, false_and, and_false, not_true_eq_false, not_false_eq_true] <;> omega)) (by first | omega | (simp only [Int32.lt_iff_toInt_lt, Int32.le_iff_toInt_le, Int32.reduceToInt, ← Int32.toInt_inj, true_and, and_true, or_true, true_or, false_or, or_false, false_and, and_false, not_true_eq_false, not_false_eq_true] <;> omega))
            simp only [Int32.reduceToInt] at h_357
            refine v_iinc hC dX12_dim_59 (k := 1) rfl (v := v_355) h_356 (by decide) (lv' := [(6, .int v_355), (5, .int v_350), (4, .int r_64), (0, .ref a_0), (2, .int a_2)]) rfl ?_
            refine v_goto hC dX12_dim_62 (tgt := 31) (by decide) ?_
            refine v_pick [0, 1, 2, 3, 4] rfl ?_
            exact ih_339 v_355 (by first | omega | (simp only [Int32.lt_iff_toInt_lt, Int32.le_iff_toInt_le, Int32.reduceToInt, ← Int32.toInt_inj, true_and, and_true, or_true, true_or, false_or, or_false, false_and, and_false, not_true_eq_false, not_false_eq_true] <;> omega)) v_350 (by first | omega | (simp only [Int32.lt_iff_toInt_lt, Int32.le_iff_toInt_le, Int32.reduceToInt, ← Int32.toInt_inj, true_and, and_true, or_true, true_or, false_or, or_false, false_and, and_false, not_true_eq_false, not_false_eq_true] <;> omega))
          · simp only [Int32.lt_iff_toInt_lt, Int32.le_iff_toInt_le, Int32.reduceToInt, ← Int32.toInt_inj] at h_349
            refine v_iconst hC dX12_dim_51 (v := 1) (by decide) ?_
            refine v_goto hC dX12_dim_52 (tgt := 56) (by decide) ?_
            obtain ⟨v_358, h_359⟩ : ∃ v9 : Int32, i_335 + 1 = v9 := ⟨_, rfl⟩
            refine v_iadd hC dX12_dim_56 h_359 ?_
            refine v_istore hC dX12_dim_57 (by decide) (lv' := [(5, .int v_358), (6, .int i_334), (4, .int r_64), (0, .ref a_0), (2, .int a_2)]) rfl ?_
            obtain ⟨v_361, h_362⟩ : ∃ v9 : Int32, i_334 + Int32.ofInt 1 = v9 := ⟨_, rfl⟩
            have h_363 := add_v (b := 1) h_362 (by first | omega | (simp only [Int32.lt_iff_toInt_lt, Int32.le_iff_toInt_le, Int32.reduceToInt, ← Int32.toInt_inj, true_and, and_true, or_true, true_or, false_or, or_false, false_and, and_false, not_true_eq_false, not_false_eq_true] <;> omega)) (by first | omega | (simp only [Int32.lt_iff_toInt_lt, Int32.le_iff_toInt_le, Int32.reduceToInt, ← Int32.toInt_inj, true_and, and_true, or_true, true_or, false_or, or_false, false_and, and_false, not_true_eq_false, not_false_eq_true] <;> omega))
            simp only [Int32.reduceToInt] at h_363
            refine v_iinc hC dX12_dim_59 (k := 1) rfl (v := v_361) h_362 (by decide) (lv' := [(6, .int v_361), (5, .int v_358), (4, .int r_64), (0, .ref a_0), (2, .int a_2)]) rfl ?_
            refine v_goto hC dX12_dim_62 (tgt := 31) (by decide) ?_
            refine v_pick [0, 1, 2, 3, 4] rfl ?_
            exact ih_339 v_361 (by first | omega | (simp only [Int32.lt_iff_toInt_lt, Int32.le_iff_toInt_le, Int32.reduceToInt, ← Int32.toInt_inj, true_and, and_true, or_true, true_or, false_or, or_false, false_and, and_false, not_true_eq_false, not_false_eq_true] <;> omega)) v_358 (by first | omega | (simp only [Int32.lt_iff_toInt_lt, Int32.le_iff_toInt_le, Int32.reduceToInt, ← Int32.toInt_inj, true_and, and_true, or_true, true_or, false_or, or_false, false_and, and_false, not_true_eq_false, not_false_eq_true] <;> omega))
    refine v_pick [0, 1, 2, 4, 6] rfl ?_
    exact lp_337 258 0 (by decide) 0 (by decide)
  · simp only [Int32.lt_iff_toInt_lt, Int32.le_iff_toInt_le, Int32.reduceToInt, ← Int32.toInt_inj] at h_55
    refine v_iload_n hC dX12_dim_11 rfl ?_
    exact hR _ _ _ _ _ _ _ dX12_dim_12 rfl (Nat.le_of_ble_eq_true rfl) (Nat.le_of_ble_eq_true rfl) ⟨rfl, hW, FR.rf, (by first | omega | (simp only [Int32.lt_iff_toInt_lt, Int32.le_iff_toInt_le, Int32.reduceToInt, ← Int32.toInt_inj, true_and, and_true, or_true, true_or, false_or, or_false, false_and, and_false, not_true_eq_false, not_false_eq_true] <;> omega)), (by first | omega | (simp only [Int32.lt_iff_toInt_lt, Int32.le_iff_toInt_le, Int32.reduceToInt, ← Int32.toInt_inj, true_and, and_true, or_true, true_or, false_or, or_false, false_and, and_false, not_true_eq_false, not_false_eq_true] <;> omega))⟩
set_option maxRecDepth 100000 in
set_option maxHeartbeats 8000000 in
theorem p_X12_says {l : Launch} {E : Ez} {L : List Nat} {f : Nat → va_E} {T : Nat → va_E → Prop} {a_0 : Nat} {a_1 : Int32} {q : Nat → Nat} {g_w : Nat → Int32} (hW : WT T L f) (k_0 : isM T L E a_0 q) (e_w : f (q 1) = aI E 2076 g_w) (o_w : WOK g_w) : CI l yX12_says cX12_says 5 .int 5 0 0 E [.ref a_0, .int a_1] L f (fun r L1 f1 => L = L1 ∧ WT T L f1 ∧ FR [12, 200, 356] f f1 ∧ (¬ r.toInt = 0 ∨ (0 ≤ a_1.toInt ∧ a_1.toInt ≤ 3))) := by
  refine ci_of (by decide) (Nat.le_of_ble_eq_true rfl) (fun z hz hnm hC hR => ?_)
  have hC : Cx z E cX12_says RX12 5 5 0 0 := hC
  subst hz
  show V z E 5 0 0 L f 0 [(0, .ref a_0), (1, .int a_1)] []
  obtain ⟨m_1, t_2, nq_21, k_3, k_4, k_5, k_6, k_7, k_8, k_9, k_10, k_11, k_12, k_13, k_14, k_15, k_16, k_17, k_18, k_19, k_20⟩ := id k_0
  obtain ⟨m_22, t_23⟩ := id k_3
  have b_24 := o_w.r0
  have b_25 := o_w.w0
  refine v_aload_n hC dX12_says_0 rfl ?_
  refine v_iload_n hC dX12_says_1 rfl ?_
  obtain ⟨v_27, v_28, v_30, v_32, v_34, v_36, v_38, v_39, v_40, v_41, v_43, e_26, b_29, b_31, b_33, b_35, b_37, b_42, b_44⟩ := hW.at m_1 t_2
  refine v_vi hC (rest := []) m_1 e_26 rfl mi_X12_asksCloth ms_X12_asksCloth (p_X12_asksCloth hW k_0 e_w o_w) mx_X12_asksCloth ml_X12_376 (by decide) rfl (cells1 := 0) (slots1 := 0) (by decide) (by decide) (Nat.le_of_ble_eq_true rfl) (Nat.le_of_ble_eq_true rfl) rfl (Nat.le_of_ble_eq_true rfl) dX12_says_2 (fun r_45 L_46 f_47 h_48 => ?_)
  obtain ⟨rfl, rfl, b_49, h_50⟩ := h_48
  refine v_istore_n hC dX12_says_5 (by decide) (lv' := [(2, .int r_45), (0, .ref a_0), (1, .int a_1)]) rfl ?_
  refine v_iload_n hC dX12_says_6 rfl ?_
  refine v_if_ge hC dX12_says_7 (tgt := 12) (by decide) (fun h_53 => ?_) (fun h_53 => ?_)
  · simp only [Int32.lt_iff_toInt_lt, Int32.le_iff_toInt_le, Int32.reduceToInt, ← Int32.toInt_inj] at h_53
    refine v_aload_n hC dX12_says_12 rfl ?_
    refine v_iload_n hC dX12_says_13 rfl ?_
    refine v_vv hC (rest := []) m_1 e_26 rfl mi_X12_takes0 ms_X12_takes0 (p_X12_takes0 hW k_0 (by first | omega | (simp only [Int32.lt_iff_toInt_lt, Int32.le_iff_toInt_le, Int32.reduceToInt, ← Int32.toInt_inj, true_and, and_true, or_true, true_or, false_or, or_false, false_and, and_false, not_true_eq_false, not_false_eq_true] <;> omega)) e_w o_w) mx_X12_takes0 ml_X12_363 (by decide) rfl (cells1 := 0) (slots1 := 0) (by decide) (by decide) (Nat.le_of_ble_eq_true rfl) (Nat.le_of_ble_eq_true rfl) rfl (Nat.le_of_ble_eq_true rfl) dX12_says_14 (fun L_55 f_56 h_57 => ?_)
    obtain ⟨rfl, hW_58, hF_59⟩ := h_57
    have hf_60 := hF_59.at e_w rfl
    have hf_61 := hF_59.at e_26 rfl
    refine v_iconst hC dX12_says_17 (v := 0) (by decide) ?_
    refine v_istore_n hC dX12_says_18 (by decide) (lv' := [(3, .int 0), (2, .int r_45), (0, .ref a_0), (1, .int a_1)]) rfl ?_
    refine v_iconst hC dX12_says_19 (v := 0) (by decide) ?_
    refine v_istore hC dX12_says_20 (by decide) (lv' := [(4, .int 0), (3, .int 0), (2, .int r_45), (0, .ref a_0), (1, .int a_1)]) rfl ?_
    have lp_668 : ∀ (n_669 : Nat) (f_663 : Nat → va_E) (hW_664 : WT T L f_663) (hF_665 : FR [12, 200, 356] f_56 f_663) (i_661 : Int32) (b_667 : (0 ≤ i_661.toInt ∧ i_661.toInt ≤ 6)) (i_662 : Int32) (hm_671 : 6 - i_661.toInt < (n_669 : Int)), V z E 5 0 0 L f_663 22 [(4, .int i_661), (3, .int i_662), (0, .ref a_0)] [] := by
      intro n_669
      induction n_669 with
      | zero =>
        intro f_663 hW_664 hF_665 i_661 b_667 i_662 hm_671
        have hf_666 := hF_665.at hf_60 rfl
        exfalso; omega
      | succ n_669 ih_670 =>
        intro f_663 hW_664 hF_665 i_661 b_667 i_662 hm_671
        have hf_666 := hF_665.at hf_60 rfl
        refine v_iload hC dX12_says_22 rfl ?_
        refine v_bipush hC dX12_says_24 (v := 6) (by decide) ?_
        refine v_icmp_ge hC dX12_says_26 (tgt := 65) (by decide) (fun h_672 => ?_) (fun h_672 => ?_)
        · simp only [Int32.lt_iff_toInt_lt, Int32.le_iff_toInt_le, Int32.reduceToInt, ← Int32.toInt_inj] at h_672
          refine v_iload_n hC dX12_says_65 rfl ?_
          exact hR _ _ _ _ _ _ _ dX12_says_66 rfl (Nat.le_of_ble_eq_true rfl) (Nat.le_of_ble_eq_true rfl) ⟨rfl, hW_664, ((hF_59.tr hF_665).mono rfl), (.inr (by first | omega | (simp only [Int32.lt_iff_toInt_lt, Int32.le_iff_toInt_le, Int32.reduceToInt, ← Int32.toInt_inj, true_and, and_true, or_true, true_or, false_or, or_false, false_and, and_false, not_true_eq_false, not_false_eq_true] <;> omega)))⟩
        · simp only [Int32.lt_iff_toInt_lt, Int32.le_iff_toInt_le, Int32.reduceToInt, ← Int32.toInt_inj] at h_672
          refine v_iload_n hC dX12_says_29 rfl ?_
          refine v_aload_n hC dX12_says_30 rfl ?_
          refine v_iload hC dX12_says_31 rfl ?_
          obtain ⟨v_674, v_675, v_677, v_679, v_681, v_683, v_685, v_686, v_687, v_688, v_690, e_673, b_676, b_678, b_680, b_682, b_684, b_689, b_691⟩ := hW_664.at m_1 t_2
          refine v_vi hC (rest := [.int i_662]) m_1 e_673 rfl mi_X12_isTold ms_X12_isTold (p_X12_isTold hW_664 k_0 (by first | omega | (simp only [Int32.lt_iff_toInt_lt, Int32.le_iff_toInt_le, Int32.reduceToInt, ← Int32.toInt_inj, true_and, and_true, or_true, true_or, false_or, or_false, false_and, and_false, not_true_eq_false, not_false_eq_true] <;> omega)) hf_666 o_w) mx_X12_isTold ml_X12_354 (by decide) rfl (cells1 := 0) (slots1 := 0) (by decide) (by decide) (Nat.le_of_ble_eq_true rfl) (Nat.le_of_ble_eq_true rfl) rfl (Nat.le_of_ble_eq_true rfl) dX12_says_33 (fun r_692 L_693 f_694 h_695 => ?_)
          obtain ⟨rfl, rfl, b_696, x_697⟩ := h_695
          try simp only [Int32.reduceToInt, Int64.reduceToInt] at x_697
          refine v_if_eq hC dX12_says_36 (tgt := 56) (by decide) (fun h_700 => ?_) (fun h_700 => ?_)
          · simp only [Int32.lt_iff_toInt_lt, Int32.le_iff_toInt_le, Int32.reduceToInt, ← Int32.toInt_inj] at h_700
            refine v_iconst hC dX12_says_56 (v := 0) (by decide) ?_
            obtain ⟨v_701, h_702⟩ : ∃ v9 : Int32, i_662 ||| 0 = v9 := ⟨_, rfl⟩
            refine v_ior hC dX12_says_57 h_702 ?_
            refine v_istore_n hC dX12_says_58 (by decide) (lv' := [(3, .int v_701), (4, .int i_661), (0, .ref a_0)]) rfl ?_
            obtain ⟨v_704, h_705⟩ : ∃ v9 : Int32, i_661 + Int32.ofInt 1 = v9 := ⟨_, rfl⟩
            have h_706 := add_v (b := 1) h_705 (by first | omega | (simp only [Int32.lt_iff_toInt_lt, Int32.le_iff_toInt_le, Int32.reduceToInt, ← Int32.toInt_inj, true_and, and_true, or_true, true_or, false_or, or_false, false_and, and_false, not_true_eq_false, not_false_eq_true] <;> omega)) (by first | omega | (simp only [Int32.lt_iff_toInt_lt, Int32.le_iff_toInt_le, Int32.reduceToInt, ← Int32.toInt_inj, true_and, and_true, or_true, true_or, false_or, or_false, false_and, and_false, not_true_eq_false, not_false_eq_true] <;> omega))
            simp only [Int32.reduceToInt] at h_706
            refine v_iinc hC dX12_says_59 (k := 1) rfl (v := v_704) h_705 (by decide) (lv' := [(4, .int v_704), (3, .int v_701), (0, .ref a_0)]) rfl ?_
            refine v_goto hC dX12_says_62 (tgt := 22) (by decide) ?_
            refine v_pick [0, 1, 2] rfl ?_
            exact ih_670 f_663 hW_664 (hF_665.mono rfl) v_704 (by first | omega | (simp only [Int32.lt_iff_toInt_lt, Int32.le_iff_toInt_le, Int32.reduceToInt, ← Int32.toInt_inj, true_and, and_true, or_true, true_or, false_or, or_false, false_and, and_false, not_true_eq_false, not_false_eq_true] <;> omega)) v_701 (by first | omega | (simp only [Int32.lt_iff_toInt_lt, Int32.le_iff_toInt_le, Int32.reduceToInt, ← Int32.toInt_inj, true_and, and_true, or_true, true_or, false_or, or_false, false_and, and_false, not_true_eq_false, not_false_eq_true] <;> omega))
          · simp only [Int32.lt_iff_toInt_lt, Int32.le_iff_toInt_le, Int32.reduceToInt, ← Int32.toInt_inj] at h_700
            refine v_aload_n hC dX12_says_39 rfl ?_
            refine v_iload hC dX12_says_40 rfl ?_
            refine v_vi hC (rest := [.int i_662]) m_1 e_673 rfl mi_X12_reads ms_X12_reads (p_X12_reads hW_664 k_0 (by first | omega | (simp only [Int32.lt_iff_toInt_lt, Int32.le_iff_toInt_le, Int32.reduceToInt, ← Int32.toInt_inj, true_and, and_true, or_true, true_or, false_or, or_false, false_and, and_false, not_true_eq_false, not_false_eq_true] <;> omega)) hf_666 o_w (by first | omega | (simp only [Int32.lt_iff_toInt_lt, Int32.le_iff_toInt_le, Int32.reduceToInt, ← Int32.toInt_inj, true_and, and_true, or_true, true_or, false_or, or_false, false_and, and_false, not_true_eq_false, not_false_eq_true] <;> omega))) mx_X12_reads ml_X12_373 (by decide) rfl (cells1 := 0) (slots1 := 0) (by decide) (by decide) (Nat.le_of_ble_eq_true rfl) (Nat.le_of_ble_eq_true rfl) rfl (Nat.le_of_ble_eq_true rfl) dX12_says_42 (fun r_707 L_708 f_709 h_710 => ?_)
            obtain ⟨rfl, hW_713, hF_714, b_711, x_712⟩ := h_710
            have fe_715 : fld (f_663 a_0) 20 = (v_690 : Int32).toInt := by rw [e_673]; rfl
            have hf_716 := hF_714.at hf_666 rfl
            obtain ⟨v_718, v_719, v_721, v_723, v_725, v_727, v_729, v_730, v_731, v_732, v_734, e_717, b_720, b_722, b_724, b_726, b_728, b_733, b_735⟩ := hW_713.at m_1 t_2
            have fe_736 : fld (f_709 a_0) 20 = (v_734 : Int32).toInt := by rw [e_717]; rfl
            rw [fe_736, fe_715] at x_712
            clear fe_715 fe_736
            try simp only [Int32.reduceToInt, Int64.reduceToInt] at x_712
            refine v_iconst hC dX12_says_45 (v := (-1)) (by decide) ?_
            refine v_icmp_eq hC dX12_says_46 (tgt := 56) (by decide) (fun h_737 => ?_) (fun h_737 => ?_)
            · simp only [Int32.lt_iff_toInt_lt, Int32.le_iff_toInt_le, Int32.reduceToInt, ← Int32.toInt_inj] at h_737
              refine v_iconst hC dX12_says_56 (v := 0) (by decide) ?_
              obtain ⟨v_738, h_739⟩ : ∃ v9 : Int32, i_662 ||| 0 = v9 := ⟨_, rfl⟩
              refine v_ior hC dX12_says_57 h_739 ?_
              refine v_istore_n hC dX12_says_58 (by decide) (lv' := [(3, .int v_738), (4, .int i_661), (0, .ref a_0)]) rfl ?_
              obtain ⟨v_741, h_742⟩ : ∃ v9 : Int32, i_661 + Int32.ofInt 1 = v9 := ⟨_, rfl⟩
              have h_743 := add_v (b := 1) h_742 (by first | omega | (simp only [Int32.lt_iff_toInt_lt, Int32.le_iff_toInt_le, Int32.reduceToInt, ← Int32.toInt_inj, true_and, and_true, or_true, true_or, false_or, or_false, false_and, and_false, not_true_eq_false, not_false_eq_true] <;> omega)) (by first | omega | (simp only [Int32.lt_iff_toInt_lt, Int32.le_iff_toInt_le, Int32.reduceToInt, ← Int32.toInt_inj, true_and, and_true, or_true, true_or, false_or, or_false, false_and, and_false, not_true_eq_false, not_false_eq_true] <;> omega))
              simp only [Int32.reduceToInt] at h_743
              refine v_iinc hC dX12_says_59 (k := 1) rfl (v := v_741) h_742 (by decide) (lv' := [(4, .int v_741), (3, .int v_738), (0, .ref a_0)]) rfl ?_
              refine v_goto hC dX12_says_62 (tgt := 22) (by decide) ?_
              refine v_pick [0, 1, 2] rfl ?_
              exact ih_670 f_709 hW_713 ((hF_665.tr hF_714).mono rfl) v_741 (by first | omega | (simp only [Int32.lt_iff_toInt_lt, Int32.le_iff_toInt_le, Int32.reduceToInt, ← Int32.toInt_inj, true_and, and_true, or_true, true_or, false_or, or_false, false_and, and_false, not_true_eq_false, not_false_eq_true] <;> omega)) v_738 (by first | omega | (simp only [Int32.lt_iff_toInt_lt, Int32.le_iff_toInt_le, Int32.reduceToInt, ← Int32.toInt_inj, true_and, and_true, or_true, true_or, false_or, or_false, false_and, and_false, not_true_eq_false, not_false_eq_true] <;> omega))
            · simp only [Int32.lt_iff_toInt_lt, Int32.le_iff_toInt_le, Int32.reduceToInt, ← Int32.toInt_inj] at h_737
              refine v_iconst hC dX12_says_49 (v := 1) (by decide) ?_
              refine v_iload hC dX12_says_50 rfl ?_
              obtain ⟨v_744, h_745⟩ : ∃ v9 : Int32, (1 : Int32) <<< (i_661 &&& 31) = v9 := ⟨_, rfl⟩
              refine v_ishl hC dX12_says_52 h_745 ?_
              refine v_goto hC dX12_says_53 (tgt := 57) (by decide) ?_
              obtain ⟨v_747, h_748⟩ : ∃ v9 : Int32, i_662 ||| v_744 = v9 := ⟨_, rfl⟩
              refine v_ior hC dX12_says_57 h_748 ?_
              refine v_istore_n hC dX12_says_58 (by decide) (lv' := [(3, .int v_747), (4, .int i_661), (0, .ref a_0)]) rfl ?_
              obtain ⟨v_750, h_751⟩ : ∃ v9 : Int32, i_661 + Int32.ofInt 1 = v9 := ⟨_, rfl⟩
              have h_752 := add_v (b := 1) h_751 (by first | omega | (simp only [Int32.lt_iff_toInt_lt, Int32.le_iff_toInt_le, Int32.reduceToInt, ← Int32.toInt_inj, true_and, and_true, or_true, true_or, false_or, or_false, false_and, and_false, not_true_eq_false, not_false_eq_true] <;> omega)) (by first | omega | (simp only [Int32.lt_iff_toInt_lt, Int32.le_iff_toInt_le, Int32.reduceToInt, ← Int32.toInt_inj, true_and, and_true, or_true, true_or, false_or, or_false, false_and, and_false, not_true_eq_false, not_false_eq_true] <;> omega))
              simp only [Int32.reduceToInt] at h_752
              refine v_iinc hC dX12_says_59 (k := 1) rfl (v := v_750) h_751 (by decide) (lv' := [(4, .int v_750), (3, .int v_747), (0, .ref a_0)]) rfl ?_
              refine v_goto hC dX12_says_62 (tgt := 22) (by decide) ?_
              refine v_pick [0, 1, 2] rfl ?_
              exact ih_670 f_709 hW_713 ((hF_665.tr hF_714).mono rfl) v_750 (by first | omega | (simp only [Int32.lt_iff_toInt_lt, Int32.le_iff_toInt_le, Int32.reduceToInt, ← Int32.toInt_inj, true_and, and_true, or_true, true_or, false_or, or_false, false_and, and_false, not_true_eq_false, not_false_eq_true] <;> omega)) v_747 (by first | omega | (simp only [Int32.lt_iff_toInt_lt, Int32.le_iff_toInt_le, Int32.reduceToInt, ← Int32.toInt_inj, true_and, and_true, or_true, true_or, false_or, or_false, false_and, and_false, not_true_eq_false, not_false_eq_true] <;> omega))
    refine v_pick [0, 1, 3] rfl ?_
    exact lp_668 8 f_56 hW_58 FR.rf 0 (by decide) 0 (by decide)
  · simp only [Int32.lt_iff_toInt_lt, Int32.le_iff_toInt_le, Int32.reduceToInt, ← Int32.toInt_inj] at h_53
    refine v_iload_n hC dX12_says_10 rfl ?_
    exact hR _ _ _ _ _ _ _ dX12_says_11 rfl (Nat.le_of_ble_eq_true rfl) (Nat.le_of_ble_eq_true rfl) ⟨rfl, hW, FR.rf, (by first | omega | (simp only [Int32.lt_iff_toInt_lt, Int32.le_iff_toInt_le, Int32.reduceToInt, ← Int32.toInt_inj, true_and, and_true, or_true, true_or, false_or, or_false, false_and, and_false, not_true_eq_false, not_false_eq_true] <;> omega))⟩
set_option maxRecDepth 100000 in
set_option maxHeartbeats 8000000 in
theorem p_X12_at {l : Launch} {E : Ez} {L : List Nat} {f : Nat → va_E} {T : Nat → va_E → Prop} {a_0 : Nat} {a_1 : Int32} {a_2 : Int32} {a_3 : Int32} {q : Nat → Nat} {g_w : Nat → Int32} (hW : WT T L f) (k_0 : isM T L E a_0 q) (e_w : f (q 1) = aI E 2076 g_w) (o_w : WOK g_w) : CI l yX12_at cX12_at 4 .int 2 0 0 E [.ref a_0, .int a_1, .int a_2, .int a_3] L f (fun r L1 f1 => L = L1 ∧ f = f1 ∧ (¬ r.toInt = 0 ∨ (0 ≤ a_1.toInt ∧ a_1.toInt ≤ 3)) ∧ (¬ r.toInt = 0 ∨ (0 ≤ a_2.toInt ∧ a_2.toInt ≤ 15)) ∧ (¬ r.toInt = 0 ∨ (0 ≤ a_3.toInt ∧ a_3.toInt ≤ 15))) := by
  refine ci_of (by decide) (Nat.le_of_ble_eq_true rfl) (fun z hz hnm hC hR => ?_)
  have hC : Cx z E cX12_at RX12 4 2 0 0 := hC
  subst hz
  show V z E 4 0 0 L f 0 [(0, .ref a_0), (1, .int a_1), (2, .int a_2), (3, .int a_3)] []
  obtain ⟨m_1, t_2, nq_21, k_3, k_4, k_5, k_6, k_7, k_8, k_9, k_10, k_11, k_12, k_13, k_14, k_15, k_16, k_17, k_18, k_19, k_20⟩ := id k_0
  obtain ⟨m_22, t_23⟩ := id k_3
  have b_24 := o_w.r0
  have b_25 := o_w.w0
  refine v_iload_n hC dX12_at_0 rfl ?_
  refine v_si hC (rest := []) mt_X12_isCloth (p_X12_isCloth hW) mx_X12_isCloth ml_X12_319 (by decide) rfl (cells1 := 0) (slots1 := 0) (by decide) (by decide) (Nat.le_of_ble_eq_true rfl) (Nat.le_of_ble_eq_true rfl) rfl (Nat.le_of_ble_eq_true rfl) dX12_at_1 (fun r_26 L_27 f_28 h_29 => ?_)
  obtain ⟨rfl, rfl, b_30, h_31⟩ := h_29
  refine v_if_eq hC dX12_at_4 (tgt := 40) (by decide) (fun h_34 => ?_) (fun h_34 => ?_)
  · simp only [Int32.lt_iff_toInt_lt, Int32.le_iff_toInt_le, Int32.reduceToInt, ← Int32.toInt_inj] at h_34
    refine v_iconst hC dX12_at_40 (v := (-1)) (by decide) ?_
    exact hR _ _ _ _ _ _ _ dX12_at_41 rfl (Nat.le_of_ble_eq_true rfl) (Nat.le_of_ble_eq_true rfl) ⟨rfl, rfl, (.inl (by decide)), (.inl (by decide)), (.inl (by decide))⟩
  · simp only [Int32.lt_iff_toInt_lt, Int32.le_iff_toInt_le, Int32.reduceToInt, ← Int32.toInt_inj] at h_34
    refine v_aload_n hC dX12_at_7 rfl ?_
    refine v_iload_n hC dX12_at_8 rfl ?_
    obtain ⟨v_36, v_37, v_39, v_41, v_43, v_45, v_47, v_48, v_49, v_50, v_52, e_35, b_38, b_40, b_42, b_44, b_46, b_51, b_53⟩ := hW.at m_1 t_2
    refine v_vi hC (rest := []) m_1 e_35 rfl mi_X12_isThere ms_X12_isThere (p_X12_isThere hW k_0 (by first | omega | (simp only [Int32.lt_iff_toInt_lt, Int32.le_iff_toInt_le, Int32.reduceToInt, ← Int32.toInt_inj, true_and, and_true, or_true, true_or, false_or, or_false, false_and, and_false, not_true_eq_false, not_false_eq_true] <;> omega)) e_w o_w) mx_X12_isThere ml_X12_351 (by decide) rfl (cells1 := 0) (slots1 := 0) (by decide) (by decide) (Nat.le_of_ble_eq_true rfl) (Nat.le_of_ble_eq_true rfl) rfl (Nat.le_of_ble_eq_true rfl) dX12_at_9 (fun r_54 L_55 f_56 h_57 => ?_)
    obtain ⟨rfl, rfl, b_58⟩ := h_57
    refine v_if_eq hC dX12_at_12 (tgt := 40) (by decide) (fun h_61 => ?_) (fun h_61 => ?_)
    · simp only [Int32.lt_iff_toInt_lt, Int32.le_iff_toInt_le, Int32.reduceToInt, ← Int32.toInt_inj] at h_61
      refine v_iconst hC dX12_at_40 (v := (-1)) (by decide) ?_
      exact hR _ _ _ _ _ _ _ dX12_at_41 rfl (Nat.le_of_ble_eq_true rfl) (Nat.le_of_ble_eq_true rfl) ⟨rfl, rfl, (.inl (by decide)), (.inl (by decide)), (.inl (by decide))⟩
    · simp only [Int32.lt_iff_toInt_lt, Int32.le_iff_toInt_le, Int32.reduceToInt, ← Int32.toInt_inj] at h_61
      refine v_aload_n hC dX12_at_15 rfl ?_
      refine v_iload_n hC dX12_at_16 rfl ?_
      refine v_iload_n hC dX12_at_17 rfl ?_
      refine v_vi hC (rest := []) m_1 e_35 rfl mi_X12_isPlace ms_X12_isPlace (p_X12_isPlace hW k_0 e_w o_w) mx_X12_isPlace ml_X12_379 (by decide) rfl (cells1 := 0) (slots1 := 0) (by decide) (by decide) (Nat.le_of_ble_eq_true rfl) (Nat.le_of_ble_eq_true rfl) rfl (Nat.le_of_ble_eq_true rfl) dX12_at_18 (fun r_62 L_63 f_64 h_65 => ?_)
      obtain ⟨rfl, rfl, b_66, h_67, h_68, x_69⟩ := h_65
      try simp only [Int32.reduceToInt, Int64.reduceToInt] at x_69
      refine v_if_eq hC dX12_at_21 (tgt := 40) (by decide) (fun h_72 => ?_) (fun h_72 => ?_)
      · simp only [Int32.lt_iff_toInt_lt, Int32.le_iff_toInt_le, Int32.reduceToInt, ← Int32.toInt_inj] at h_72
        refine v_iconst hC dX12_at_40 (v := (-1)) (by decide) ?_
        exact hR _ _ _ _ _ _ _ dX12_at_41 rfl (Nat.le_of_ble_eq_true rfl) (Nat.le_of_ble_eq_true rfl) ⟨rfl, rfl, (.inl (by decide)), (.inl (by decide)), (.inl (by decide))⟩
      · simp only [Int32.lt_iff_toInt_lt, Int32.le_iff_toInt_le, Int32.reduceToInt, ← Int32.toInt_inj] at h_72
        refine v_aload_n hC dX12_at_24 rfl ?_
        refine v_iload_n hC dX12_at_25 rfl ?_
        refine v_iload_n hC dX12_at_26 rfl ?_
        refine v_aload_n hC dX12_at_27 rfl ?_
        refine v_vi hC (rest := [.int a_2, .int a_1, .ref a_0]) m_1 e_35 rfl mi_X12_wide ms_X12_wide (p_X12_wide hW k_0 e_w o_w) mx_X12_wide ml_X12_87 (by decide) rfl (cells1 := 0) (slots1 := 0) (by decide) (by decide) (Nat.le_of_ble_eq_true rfl) (Nat.le_of_ble_eq_true rfl) rfl (Nat.le_of_ble_eq_true rfl) dX12_at_28 (fun r_73 L_74 f_75 h_76 => ?_)
        obtain ⟨rfl, rfl, rfl⟩ := h_76
        obtain ⟨v_79, h_80⟩ : ∃ v9 : Int32, a_2 * (g_w 1) = v9 := ⟨_, rfl⟩
        refine v_imul hC dX12_at_31 h_80 ?_
        have h_81 := mul_v 15 16 240 h_80 (by first | omega | (simp only [Int32.lt_iff_toInt_lt, Int32.le_iff_toInt_le, Int32.reduceToInt, ← Int32.toInt_inj, true_and, and_true, or_true, true_or, false_or, or_false, false_and, and_false, not_true_eq_false, not_false_eq_true] <;> omega)) (by first | omega | (simp only [Int32.lt_iff_toInt_lt, Int32.le_iff_toInt_le, Int32.reduceToInt, ← Int32.toInt_inj, true_and, and_true, or_true, true_or, false_or, or_false, false_and, and_false, not_true_eq_false, not_false_eq_true] <;> omega)) (by decide) (by decide)
        refine v_iload_n hC dX12_at_32 rfl ?_
        obtain ⟨v_82, h_83⟩ : ∃ v9 : Int32, v_79 + a_3 = v9 := ⟨_, rfl⟩
        refine v_iadd hC dX12_at_33 h_83 ?_
        have h_84 := add_v h_83 (by first | omega | (simp only [Int32.lt_iff_toInt_lt, Int32.le_iff_toInt_le, Int32.reduceToInt, ← Int32.toInt_inj, true_and, and_true, or_true, true_or, false_or, or_false, false_and, and_false, not_true_eq_false, not_false_eq_true] <;> omega)) (by first | omega | (simp only [Int32.lt_iff_toInt_lt, Int32.le_iff_toInt_le, Int32.reduceToInt, ← Int32.toInt_inj, true_and, and_true, or_true, true_or, false_or, or_false, false_and, and_false, not_true_eq_false, not_false_eq_true] <;> omega))
        refine v_vi hC (rest := []) m_1 e_35 rfl mi_X12_stands ms_X12_stands (p_X12_stands hW k_0 (by first | omega | (simp only [Int32.lt_iff_toInt_lt, Int32.le_iff_toInt_le, Int32.reduceToInt, ← Int32.toInt_inj, true_and, and_true, or_true, true_or, false_or, or_false, false_and, and_false, not_true_eq_false, not_false_eq_true] <;> omega)) (by first | omega | (simp only [Int32.lt_iff_toInt_lt, Int32.le_iff_toInt_le, Int32.reduceToInt, ← Int32.toInt_inj, true_and, and_true, or_true, true_or, false_or, or_false, false_and, and_false, not_true_eq_false, not_false_eq_true] <;> omega)) e_w o_w) mx_X12_stands ml_X12_301 (by decide) rfl (cells1 := 0) (slots1 := 0) (by decide) (by decide) (Nat.le_of_ble_eq_true rfl) (Nat.le_of_ble_eq_true rfl) rfl (Nat.le_of_ble_eq_true rfl) dX12_at_34 (fun r_85 L_86 f_87 h_88 => ?_)
        obtain ⟨rfl, rfl⟩ := h_88
        refine v_goto hC dX12_at_37 (tgt := 41) (by decide) ?_
        exact hR _ _ _ _ _ _ _ dX12_at_41 rfl (Nat.le_of_ble_eq_true rfl) (Nat.le_of_ble_eq_true rfl) ⟨rfl, rfl, (.inr (by first | omega | (simp only [Int32.lt_iff_toInt_lt, Int32.le_iff_toInt_le, Int32.reduceToInt, ← Int32.toInt_inj, true_and, and_true, or_true, true_or, false_or, or_false, false_and, and_false, not_true_eq_false, not_false_eq_true] <;> omega))), (.inr (by first | omega | (simp only [Int32.lt_iff_toInt_lt, Int32.le_iff_toInt_le, Int32.reduceToInt, ← Int32.toInt_inj, true_and, and_true, or_true, true_or, false_or, or_false, false_and, and_false, not_true_eq_false, not_false_eq_true] <;> omega))), (.inr (by first | omega | (simp only [Int32.lt_iff_toInt_lt, Int32.le_iff_toInt_le, Int32.reduceToInt, ← Int32.toInt_inj, true_and, and_true, or_true, true_or, false_or, or_false, false_and, and_false, not_true_eq_false, not_false_eq_true] <;> omega)))⟩
set_option maxRecDepth 100000 in
set_option maxHeartbeats 8000000 in
theorem p_X12_sort {l : Launch} {E : Ez} {L : List Nat} {f : Nat → va_E} {T : Nat → va_E → Prop} {a_0 : Nat} {a_1 : Int32} {a_2 : Int32} {q : Nat → Nat} {g_w : Nat → Int32} (hW : WT T L f) (k_0 : isM T L E a_0 q) (e_w : f (q 1) = aI E 2076 g_w) (o_w : WOK g_w) : CI l yX12_sort cX12_sort 3 .int 2 0 0 E [.ref a_0, .int a_1, .int a_2] L f (fun r L1 f1 => L = L1 ∧ f = f1 ∧ ((-1) ≤ r.toInt ∧ r.toInt ≤ 12) ∧ (¬ r.toInt = 0 ∨ (0 ≤ a_1.toInt ∧ a_1.toInt ≤ 15)) ∧ (¬ r.toInt = 0 ∨ (0 ≤ a_2.toInt ∧ a_2.toInt ≤ 15))) := by
  refine ci_of (by decide) (Nat.le_of_ble_eq_true rfl) (fun z hz hnm hC hR => ?_)
  have hC : Cx z E cX12_sort RX12 3 2 0 0 := hC
  subst hz
  show V z E 3 0 0 L f 0 [(0, .ref a_0), (1, .int a_1), (2, .int a_2)] []
  obtain ⟨m_1, t_2, nq_21, k_3, k_4, k_5, k_6, k_7, k_8, k_9, k_10, k_11, k_12, k_13, k_14, k_15, k_16, k_17, k_18, k_19, k_20⟩ := id k_0
  obtain ⟨m_22, t_23⟩ := id k_3
  have b_24 := o_w.r0
  have b_25 := o_w.w0
  refine v_aload_n hC dX12_sort_0 rfl ?_
  refine v_iload_n hC dX12_sort_1 rfl ?_
  refine v_iload_n hC dX12_sort_2 rfl ?_
  obtain ⟨v_27, v_28, v_30, v_32, v_34, v_36, v_38, v_39, v_40, v_41, v_43, e_26, b_29, b_31, b_33, b_35, b_37, b_42, b_44⟩ := hW.at m_1 t_2
  refine v_vi hC (rest := []) m_1 e_26 rfl mi_X12_isPlace ms_X12_isPlace (p_X12_isPlace hW k_0 e_w o_w) mx_X12_isPlace ml_X12_379 (by decide) rfl (cells1 := 0) (slots1 := 0) (by decide) (by decide) (Nat.le_of_ble_eq_true rfl) (Nat.le_of_ble_eq_true rfl) rfl (Nat.le_of_ble_eq_true rfl) dX12_sort_3 (fun r_45 L_46 f_47 h_48 => ?_)
  obtain ⟨rfl, rfl, b_49, h_50, h_51, x_52⟩ := h_48
  try simp only [Int32.reduceToInt, Int64.reduceToInt] at x_52
  refine v_if_eq hC dX12_sort_6 (tgt := 24) (by decide) (fun h_55 => ?_) (fun h_55 => ?_)
  · simp only [Int32.lt_iff_toInt_lt, Int32.le_iff_toInt_le, Int32.reduceToInt, ← Int32.toInt_inj] at h_55
    refine v_iconst hC dX12_sort_24 (v := (-1)) (by decide) ?_
    exact hR _ _ _ _ _ _ _ dX12_sort_25 rfl (Nat.le_of_ble_eq_true rfl) (Nat.le_of_ble_eq_true rfl) ⟨rfl, rfl, (by decide), (.inl (by decide)), (.inl (by decide))⟩
  · simp only [Int32.lt_iff_toInt_lt, Int32.le_iff_toInt_le, Int32.reduceToInt, ← Int32.toInt_inj] at h_55
    refine v_aload_n hC dX12_sort_9 rfl ?_
    refine v_iload_n hC dX12_sort_10 rfl ?_
    refine v_aload_n hC dX12_sort_11 rfl ?_
    refine v_vi hC (rest := [.int a_1, .ref a_0]) m_1 e_26 rfl mi_X12_wide ms_X12_wide (p_X12_wide hW k_0 e_w o_w) mx_X12_wide ml_X12_87 (by decide) rfl (cells1 := 0) (slots1 := 0) (by decide) (by decide) (Nat.le_of_ble_eq_true rfl) (Nat.le_of_ble_eq_true rfl) rfl (Nat.le_of_ble_eq_true rfl) dX12_sort_12 (fun r_56 L_57 f_58 h_59 => ?_)
    obtain ⟨rfl, rfl, rfl⟩ := h_59
    obtain ⟨v_62, h_63⟩ : ∃ v9 : Int32, a_1 * (g_w 1) = v9 := ⟨_, rfl⟩
    refine v_imul hC dX12_sort_15 h_63 ?_
    have h_64 := mul_v 15 16 240 h_63 (by first | omega | (simp only [Int32.lt_iff_toInt_lt, Int32.le_iff_toInt_le, Int32.reduceToInt, ← Int32.toInt_inj, true_and, and_true, or_true, true_or, false_or, or_false, false_and, and_false, not_true_eq_false, not_false_eq_true] <;> omega)) (by first | omega | (simp only [Int32.lt_iff_toInt_lt, Int32.le_iff_toInt_le, Int32.reduceToInt, ← Int32.toInt_inj, true_and, and_true, or_true, true_or, false_or, or_false, false_and, and_false, not_true_eq_false, not_false_eq_true] <;> omega)) (by decide) (by decide)
    refine v_iload_n hC dX12_sort_16 rfl ?_
    obtain ⟨v_65, h_66⟩ : ∃ v9 : Int32, v_62 + a_2 = v9 := ⟨_, rfl⟩
    refine v_iadd hC dX12_sort_17 h_66 ?_
    have h_67 := add_v h_66 (by first | omega | (simp only [Int32.lt_iff_toInt_lt, Int32.le_iff_toInt_le, Int32.reduceToInt, ← Int32.toInt_inj, true_and, and_true, or_true, true_or, false_or, or_false, false_and, and_false, not_true_eq_false, not_false_eq_true] <;> omega)) (by first | omega | (simp only [Int32.lt_iff_toInt_lt, Int32.le_iff_toInt_le, Int32.reduceToInt, ← Int32.toInt_inj, true_and, and_true, or_true, true_or, false_or, or_false, false_and, and_false, not_true_eq_false, not_false_eq_true] <;> omega))
    refine v_vi hC (rest := []) m_1 e_26 rfl mi_X12_sortOf ms_X12_sortOf (p_X12_sortOf hW k_0 (by first | omega | (simp only [Int32.lt_iff_toInt_lt, Int32.le_iff_toInt_le, Int32.reduceToInt, ← Int32.toInt_inj, true_and, and_true, or_true, true_or, false_or, or_false, false_and, and_false, not_true_eq_false, not_false_eq_true] <;> omega)) e_w o_w (by first | omega | (simp only [Int32.lt_iff_toInt_lt, Int32.le_iff_toInt_le, Int32.reduceToInt, ← Int32.toInt_inj, true_and, and_true, or_true, true_or, false_or, or_false, false_and, and_false, not_true_eq_false, not_false_eq_true] <;> omega))) mx_X12_sortOf ml_X12_98 (by decide) rfl (cells1 := 0) (slots1 := 0) (by decide) (by decide) (Nat.le_of_ble_eq_true rfl) (Nat.le_of_ble_eq_true rfl) rfl (Nat.le_of_ble_eq_true rfl) dX12_sort_18 (fun r_68 L_69 f_70 h_71 => ?_)
    obtain ⟨rfl, rfl, b_72⟩ := h_71
    refine v_goto hC dX12_sort_21 (tgt := 25) (by decide) ?_
    exact hR _ _ _ _ _ _ _ dX12_sort_25 rfl (Nat.le_of_ble_eq_true rfl) (Nat.le_of_ble_eq_true rfl) ⟨rfl, rfl, (by first | omega | (simp only [Int32.lt_iff_toInt_lt, Int32.le_iff_toInt_le, Int32.reduceToInt, ← Int32.toInt_inj, true_and, and_true, or_true, true_or, false_or, or_false, false_and, and_false, not_true_eq_false, not_false_eq_true] <;> omega)), (.inr (by first | omega | (simp only [Int32.lt_iff_toInt_lt, Int32.le_iff_toInt_le, Int32.reduceToInt, ← Int32.toInt_inj, true_and, and_true, or_true, true_or, false_or, or_false, false_and, and_false, not_true_eq_false, not_false_eq_true] <;> omega))), (.inr (by first | omega | (simp only [Int32.lt_iff_toInt_lt, Int32.le_iff_toInt_le, Int32.reduceToInt, ← Int32.toInt_inj, true_and, and_true, or_true, true_or, false_or, or_false, false_and, and_false, not_true_eq_false, not_false_eq_true] <;> omega)))⟩
set_option maxRecDepth 100000 in
set_option maxHeartbeats 8000000 in
theorem p_X12_place {l : Launch} {E : Ez} {L : List Nat} {f : Nat → va_E} {T : Nat → va_E → Prop} {a_0 : Nat} {a_1 : Int32} {a_2 : Int32} {q : Nat → Nat} {g_w : Nat → Int32} (hW : WT T L f) (k_0 : isM T L E a_0 q) (e_w : f (q 1) = aI E 2076 g_w) (o_w : WOK g_w) : CI l yX12_place cX12_place 4 .int 3 0 0 E [.ref a_0, .int a_1, .int a_2] L f (fun r L1 f1 => L = L1 ∧ WT T L f1 ∧ FR [12, 356] f f1 ∧ ((-6) ≤ r.toInt ∧ r.toInt ≤ 25515) ∧ (¬ r.toInt = 0 ∨ (0 ≤ a_1.toInt ∧ a_1.toInt ≤ 5)) ∧ (¬ r.toInt = 0 ∨ (0 ≤ a_2.toInt ∧ a_2.toInt ≤ 255))) := by
  refine ci_of (by decide) (Nat.le_of_ble_eq_true rfl) (fun z hz hnm hC hR => ?_)
  have hC : Cx z E cX12_place RX12 4 3 0 0 := hC
  subst hz
  show V z E 4 0 0 L f 0 [(0, .ref a_0), (1, .int a_1), (2, .int a_2)] []
  obtain ⟨m_1, t_2, nq_21, k_3, k_4, k_5, k_6, k_7, k_8, k_9, k_10, k_11, k_12, k_13, k_14, k_15, k_16, k_17, k_18, k_19, k_20⟩ := id k_0
  obtain ⟨m_22, t_23⟩ := id k_3
  have b_24 := o_w.r0
  have b_25 := o_w.w0
  refine v_aload_n hC dX12_place_0 rfl ?_
  refine v_iload_n hC dX12_place_1 rfl ?_
  obtain ⟨v_27, v_28, v_30, v_32, v_34, v_36, v_38, v_39, v_40, v_41, v_43, e_26, b_29, b_31, b_33, b_35, b_37, b_42, b_44⟩ := hW.at m_1 t_2
  refine v_vi hC (rest := []) m_1 e_26 rfl mi_X12_asksWay ms_X12_asksWay (p_X12_asksWay hW k_0 e_w o_w) mx_X12_asksWay ml_X12_383 (by decide) rfl (cells1 := 0) (slots1 := 0) (by decide) (by decide) (Nat.le_of_ble_eq_true rfl) (Nat.le_of_ble_eq_true rfl) rfl (Nat.le_of_ble_eq_true rfl) dX12_place_2 (fun r_45 L_46 f_47 h_48 => ?_)
  obtain ⟨rfl, rfl, b_49, h_50, x_51⟩ := h_48
  try simp only [Int32.reduceToInt, Int64.reduceToInt] at x_51
  refine v_istore_n hC dX12_place_5 (by decide) (lv' := [(3, .int r_45), (0, .ref a_0), (1, .int a_1), (2, .int a_2)]) rfl ?_
  refine v_iload_n hC dX12_place_6 rfl ?_
  refine v_if_ge hC dX12_place_7 (tgt := 12) (by decide) (fun h_54 => ?_) (fun h_54 => ?_)
  · simp only [Int32.lt_iff_toInt_lt, Int32.le_iff_toInt_le, Int32.reduceToInt, ← Int32.toInt_inj] at h_54
    refine v_aload_n hC dX12_place_12 rfl ?_
    refine v_iload_n hC dX12_place_13 rfl ?_
    refine v_vv hC (rest := []) m_1 e_26 rfl mi_X12_lists ms_X12_lists (p_X12_lists hW k_0 (by first | omega | (simp only [Int32.lt_iff_toInt_lt, Int32.le_iff_toInt_le, Int32.reduceToInt, ← Int32.toInt_inj, true_and, and_true, or_true, true_or, false_or, or_false, false_and, and_false, not_true_eq_false, not_false_eq_true] <;> omega)) e_w o_w (by first | omega | (simp only [Int32.lt_iff_toInt_lt, Int32.le_iff_toInt_le, Int32.reduceToInt, ← Int32.toInt_inj, true_and, and_true, or_true, true_or, false_or, or_false, false_and, and_false, not_true_eq_false, not_false_eq_true] <;> omega))) mx_X12_lists ml_X12_338 (by decide) rfl (cells1 := 0) (slots1 := 0) (by decide) (by decide) (Nat.le_of_ble_eq_true rfl) (Nat.le_of_ble_eq_true rfl) rfl (Nat.le_of_ble_eq_true rfl) dX12_place_14 (fun L_56 f_57 h_58 => ?_)
    obtain ⟨rfl, hW_61, hF_62, x_59, x_60⟩ := h_58
    have fe_63 : fld (f a_0) 20 = (v_43 : Int32).toInt := by rw [e_26]; rfl
    have hf_64 := hF_62.at e_w rfl
    obtain ⟨v_66, v_67, v_69, v_71, v_73, v_75, v_77, v_78, v_79, v_80, v_82, e_65, b_68, b_70, b_72, b_74, b_76, b_81, b_83⟩ := hW_61.at m_1 t_2
    have fe_84 : fld (f_57 a_0) 17 = (v_80 : Int32).toInt := by rw [e_65]; rfl
    have fe_85 : fld (f_57 a_0) 20 = (v_82 : Int32).toInt := by rw [e_65]; rfl
    rw [fe_84] at x_59
    rw [fe_85, fe_63] at x_60
    clear fe_63 fe_84 fe_85
    refine v_iload_n hC dX12_place_17 rfl ?_
    obtain ⟨v_86, h_87⟩ : ∃ v9 : Int64, a_2.toInt64 = v9 := ⟨_, rfl⟩
    refine v_i2l hC dX12_place_18 h_87 ?_
    have h_88 : v_86.toInt = a_2.toInt := by rw [← h_87]; exact Int32.toInt_toInt64 _
    refine v_lconst hC dX12_place_19 (v := 0) (by decide) ?_
    refine v_aload_n hC dX12_place_20 rfl ?_
    refine v_get hC fl_X12_335 m_1 e_65 rfl dX12_place_21 ?_
    refine v_iconst hC dX12_place_24 (v := 1) (by decide) ?_
    obtain ⟨v_89, h_90⟩ : ∃ v9 : Int32, v_80 - 1 = v9 := ⟨_, rfl⟩
    refine v_isub hC dX12_place_25 h_90 ?_
    have h_91 := sub_v h_90 (by first | omega | (simp only [Int32.lt_iff_toInt_lt, Int32.le_iff_toInt_le, Int32.reduceToInt, ← Int32.toInt_inj, true_and, and_true, or_true, true_or, false_or, or_false, false_and, and_false, not_true_eq_false, not_false_eq_true] <;> omega)) (by first | omega | (simp only [Int32.lt_iff_toInt_lt, Int32.le_iff_toInt_le, Int32.reduceToInt, ← Int32.toInt_inj, true_and, and_true, or_true, true_or, false_or, or_false, false_and, and_false, not_true_eq_false, not_false_eq_true] <;> omega))
    try simp only [Int32.reduceToInt] at h_91
    obtain ⟨v_92, h_93⟩ : ∃ v9 : Int64, v_89.toInt64 = v9 := ⟨_, rfl⟩
    refine v_i2l hC dX12_place_26 h_93 ?_
    have h_94 : v_92.toInt = v_89.toInt := by rw [← h_93]; exact Int32.toInt_toInt64 _
    refine v_si hC (rest := []) mt_X12_in (p_X12_in hW_61) mx_X12_in ml_X12_79 (by decide) rfl (cells1 := 0) (slots1 := 0) (by decide) (by decide) (Nat.le_of_ble_eq_true rfl) (Nat.le_of_ble_eq_true rfl) rfl (Nat.le_of_ble_eq_true rfl) dX12_place_27 (fun r_95 L_96 f_97 h_98 => ?_)
    obtain ⟨rfl, rfl, b_99, x_100⟩ := h_98
    try simp only [Int32.reduceToInt, Int64.reduceToInt] at x_100
    refine v_if_eq hC dX12_place_30 (tgt := 62) (by decide) (fun h_103 => ?_) (fun h_103 => ?_)
    · simp only [Int32.lt_iff_toInt_lt, Int32.le_iff_toInt_le, Int32.reduceToInt, ← Int32.toInt_inj] at h_103
      refine v_iconst hC dX12_place_62 (v := (-1)) (by decide) ?_
      exact hR _ _ _ _ _ _ _ dX12_place_63 rfl (Nat.le_of_ble_eq_true rfl) (Nat.le_of_ble_eq_true rfl) ⟨rfl, hW_61, (hF_62.mono rfl), (by decide), (.inl (by decide)), (.inl (by decide))⟩
    · simp only [Int32.lt_iff_toInt_lt, Int32.le_iff_toInt_le, Int32.reduceToInt, ← Int32.toInt_inj] at h_103
      have pq_104 : 1 ≤ (g_w 0).toInt := by omega
      have pt_105 := o_w.pt pq_104
      refine v_bipush hC dX12_place_33 (v := 100) (by decide) ?_
      refine v_aload_n hC dX12_place_35 rfl ?_
      refine v_get hC fl_X12_40 m_1 e_65 rfl dX12_place_36 ?_
      refine v_iload_n hC dX12_place_39 rfl ?_
      obtain ⟨m_106, t_107⟩ := id k_10
      obtain ⟨g_109, e_108, ok_110⟩ := hW_61.at m_106 t_107
      obtain ⟨v_111, h_112⟩ : ∃ v9 : Int32, g_109 (a_2 : Int32).toNatClampNeg = v9 := ⟨_, rfl⟩
      have b_113 := ok_110 (a_2 : Int32).toNatClampNeg
      rw [h_112] at b_113
      refine v_iald hC m_106 e_108 (vp_in_iff.mpr (by first | omega | (simp only [Int32.lt_iff_toInt_lt, Int32.le_iff_toInt_le, Int32.reduceToInt, ← Int32.toInt_inj, true_and, and_true, or_true, true_or, false_or, or_false, false_and, and_false, not_true_eq_false, not_false_eq_true] <;> omega))) h_112 dX12_place_40 ?_
      refine v_aload_n hC dX12_place_41 rfl ?_
      refine v_vi hC (rest := [.int v_111, .int 100]) m_1 e_65 rfl mi_X12_wide ms_X12_wide (p_X12_wide hW_61 k_0 hf_64 o_w) mx_X12_wide ml_X12_87 (by decide) rfl (cells1 := 0) (slots1 := 0) (by decide) (by decide) (Nat.le_of_ble_eq_true rfl) (Nat.le_of_ble_eq_true rfl) rfl (Nat.le_of_ble_eq_true rfl) dX12_place_42 (fun r_114 L_115 f_116 h_117 => ?_)
      obtain ⟨rfl, rfl, rfl⟩ := h_117
      obtain ⟨v_120, h_121⟩ : ∃ v9 : Int32, v_111 / (g_w 1) = v9 := ⟨_, rfl⟩
      refine v_idiv hC dX12_place_45 (by first | omega | (simp only [Int32.lt_iff_toInt_lt, Int32.le_iff_toInt_le, Int32.reduceToInt, ← Int32.toInt_inj, true_and, and_true, or_true, true_or, false_or, or_false, false_and, and_false, not_true_eq_false, not_false_eq_true] <;> omega)) h_121 ?_
      have h_122 := div_v h_121 (by first | omega | (simp only [Int32.lt_iff_toInt_lt, Int32.le_iff_toInt_le, Int32.reduceToInt, ← Int32.toInt_inj, true_and, and_true, or_true, true_or, false_or, or_false, false_and, and_false, not_true_eq_false, not_false_eq_true] <;> omega)) (by first | omega | (simp only [Int32.lt_iff_toInt_lt, Int32.le_iff_toInt_le, Int32.reduceToInt, ← Int32.toInt_inj, true_and, and_true, or_true, true_or, false_or, or_false, false_and, and_false, not_true_eq_false, not_false_eq_true] <;> omega))
      obtain ⟨v_123, h_124⟩ : ∃ v9 : Int32, (100 : Int32) * v_120 = v9 := ⟨_, rfl⟩
      refine v_imul hC dX12_place_46 h_124 ?_
      have h_125 := mul_v 100 255 25500 h_124 (by decide) (by first | omega | (simp only [Int32.lt_iff_toInt_lt, Int32.le_iff_toInt_le, Int32.reduceToInt, ← Int32.toInt_inj, true_and, and_true, or_true, true_or, false_or, or_false, false_and, and_false, not_true_eq_false, not_false_eq_true] <;> omega)) (by decide) (by decide)
      try simp only [Int32.reduceToInt] at h_125
      refine v_aload_n hC dX12_place_47 rfl ?_
      refine v_get hC fl_X12_40 m_1 e_65 rfl dX12_place_48 ?_
      refine v_iload_n hC dX12_place_51 rfl ?_
      obtain ⟨v_126, h_127⟩ : ∃ v9 : Int32, g_109 (a_2 : Int32).toNatClampNeg = v9 := ⟨_, rfl⟩
      have b_128 := ok_110 (a_2 : Int32).toNatClampNeg
      rw [h_127] at b_128
      refine v_iald hC m_106 e_108 (vp_in_iff.mpr (by first | omega | (simp only [Int32.lt_iff_toInt_lt, Int32.le_iff_toInt_le, Int32.reduceToInt, ← Int32.toInt_inj, true_and, and_true, or_true, true_or, false_or, or_false, false_and, and_false, not_true_eq_false, not_false_eq_true] <;> omega))) h_127 dX12_place_52 ?_
      refine v_aload_n hC dX12_place_53 rfl ?_
      refine v_vi hC (rest := [.int v_126, .int v_123]) m_1 e_65 rfl mi_X12_wide ms_X12_wide (p_X12_wide hW_61 k_0 hf_64 o_w) mx_X12_wide ml_X12_87 (by decide) rfl (cells1 := 0) (slots1 := 0) (by decide) (by decide) (Nat.le_of_ble_eq_true rfl) (Nat.le_of_ble_eq_true rfl) rfl (Nat.le_of_ble_eq_true rfl) dX12_place_54 (fun r_129 L_130 f_131 h_132 => ?_)
      obtain ⟨rfl, rfl, rfl⟩ := h_132
      obtain ⟨v_135, h_136⟩ : ∃ v9 : Int32, v_126 - v_126 / (g_w 1) * (g_w 1) = v9 := ⟨_, rfl⟩
      refine v_irem hC dX12_place_57 (by first | omega | (simp only [Int32.lt_iff_toInt_lt, Int32.le_iff_toInt_le, Int32.reduceToInt, ← Int32.toInt_inj, true_and, and_true, or_true, true_or, false_or, or_false, false_and, and_false, not_true_eq_false, not_false_eq_true] <;> omega)) h_136 ?_
      have h_137 := rem_v h_136 (by first | omega | (simp only [Int32.lt_iff_toInt_lt, Int32.le_iff_toInt_le, Int32.reduceToInt, ← Int32.toInt_inj, true_and, and_true, or_true, true_or, false_or, or_false, false_and, and_false, not_true_eq_false, not_false_eq_true] <;> omega)) (by first | omega | (simp only [Int32.lt_iff_toInt_lt, Int32.le_iff_toInt_le, Int32.reduceToInt, ← Int32.toInt_inj, true_and, and_true, or_true, true_or, false_or, or_false, false_and, and_false, not_true_eq_false, not_false_eq_true] <;> omega))
      obtain ⟨v_138, h_139⟩ : ∃ v9 : Int32, v_123 + v_135 = v9 := ⟨_, rfl⟩
      refine v_iadd hC dX12_place_58 h_139 ?_
      have h_140 := add_v h_139 (by first | omega | (simp only [Int32.lt_iff_toInt_lt, Int32.le_iff_toInt_le, Int32.reduceToInt, ← Int32.toInt_inj, true_and, and_true, or_true, true_or, false_or, or_false, false_and, and_false, not_true_eq_false, not_false_eq_true] <;> omega)) (by first | omega | (simp only [Int32.lt_iff_toInt_lt, Int32.le_iff_toInt_le, Int32.reduceToInt, ← Int32.toInt_inj, true_and, and_true, or_true, true_or, false_or, or_false, false_and, and_false, not_true_eq_false, not_false_eq_true] <;> omega))
      refine v_goto hC dX12_place_59 (tgt := 63) (by decide) ?_
      exact hR _ _ _ _ _ _ _ dX12_place_63 rfl (Nat.le_of_ble_eq_true rfl) (Nat.le_of_ble_eq_true rfl) ⟨rfl, hW_61, (hF_62.mono rfl), (by first | omega | (simp only [Int32.lt_iff_toInt_lt, Int32.le_iff_toInt_le, Int32.reduceToInt, ← Int32.toInt_inj, true_and, and_true, or_true, true_or, false_or, or_false, false_and, and_false, not_true_eq_false, not_false_eq_true] <;> omega)), (.inr (by first | omega | (simp only [Int32.lt_iff_toInt_lt, Int32.le_iff_toInt_le, Int32.reduceToInt, ← Int32.toInt_inj, true_and, and_true, or_true, true_or, false_or, or_false, false_and, and_false, not_true_eq_false, not_false_eq_true] <;> omega))), (.inr (by first | omega | (simp only [Int32.lt_iff_toInt_lt, Int32.le_iff_toInt_le, Int32.reduceToInt, ← Int32.toInt_inj, true_and, and_true, or_true, true_or, false_or, or_false, false_and, and_false, not_true_eq_false, not_false_eq_true] <;> omega)))⟩
  · simp only [Int32.lt_iff_toInt_lt, Int32.le_iff_toInt_le, Int32.reduceToInt, ← Int32.toInt_inj] at h_54
    refine v_iload_n hC dX12_place_10 rfl ?_
    exact hR _ _ _ _ _ _ _ dX12_place_11 rfl (Nat.le_of_ble_eq_true rfl) (Nat.le_of_ble_eq_true rfl) ⟨rfl, hW, FR.rf, (by first | omega | (simp only [Int32.lt_iff_toInt_lt, Int32.le_iff_toInt_le, Int32.reduceToInt, ← Int32.toInt_inj, true_and, and_true, or_true, true_or, false_or, or_false, false_and, and_false, not_true_eq_false, not_false_eq_true] <;> omega)), (by first | omega | (simp only [Int32.lt_iff_toInt_lt, Int32.le_iff_toInt_le, Int32.reduceToInt, ← Int32.toInt_inj, true_and, and_true, or_true, true_or, false_or, or_false, false_and, and_false, not_true_eq_false, not_false_eq_true] <;> omega)), (by first | omega | (simp only [Int32.lt_iff_toInt_lt, Int32.le_iff_toInt_le, Int32.reduceToInt, ← Int32.toInt_inj, true_and, and_true, or_true, true_or, false_or, or_false, false_and, and_false, not_true_eq_false, not_false_eq_true] <;> omega))⟩
set_option maxRecDepth 100000 in
set_option maxHeartbeats 8000000 in
theorem p_X12_room {l : Launch} {E : Ez} {L : List Nat} {f : Nat → va_E} {T : Nat → va_E → Prop} {a_0 : Nat} {a_1 : Int32} {q : Nat → Nat} {g_w : Nat → Int32} (hW : WT T L f) (k_0 : isM T L E a_0 q) (e_w : f (q 1) = aI E 2076 g_w) (o_w : WOK g_w) : CI l yX12_room cX12_room 3 .int 4 0 0 E [.ref a_0, .int a_1] L f (fun r L1 f1 => L = L1 ∧ WT T L f1 ∧ FR [12, 356] f f1 ∧ ((-6) ≤ r.toInt ∧ r.toInt ≤ 256) ∧ (¬ r.toInt = 0 ∨ (0 ≤ a_1.toInt ∧ a_1.toInt ≤ 5))) := by
  refine ci_of (by decide) (Nat.le_of_ble_eq_true rfl) (fun z hz hnm hC hR => ?_)
  have hC : Cx z E cX12_room RX12 3 4 0 0 := hC
  subst hz
  show V z E 3 0 0 L f 0 [(0, .ref a_0), (1, .int a_1)] []
  obtain ⟨m_1, t_2, nq_21, k_3, k_4, k_5, k_6, k_7, k_8, k_9, k_10, k_11, k_12, k_13, k_14, k_15, k_16, k_17, k_18, k_19, k_20⟩ := id k_0
  obtain ⟨m_22, t_23⟩ := id k_3
  have b_24 := o_w.r0
  have b_25 := o_w.w0
  refine v_aload_n hC dX12_room_0 rfl ?_
  refine v_iload_n hC dX12_room_1 rfl ?_
  obtain ⟨v_27, v_28, v_30, v_32, v_34, v_36, v_38, v_39, v_40, v_41, v_43, e_26, b_29, b_31, b_33, b_35, b_37, b_42, b_44⟩ := hW.at m_1 t_2
  refine v_vi hC (rest := []) m_1 e_26 rfl mi_X12_asksWay ms_X12_asksWay (p_X12_asksWay hW k_0 e_w o_w) mx_X12_asksWay ml_X12_383 (by decide) rfl (cells1 := 0) (slots1 := 0) (by decide) (by decide) (Nat.le_of_ble_eq_true rfl) (Nat.le_of_ble_eq_true rfl) rfl (Nat.le_of_ble_eq_true rfl) dX12_room_2 (fun r_45 L_46 f_47 h_48 => ?_)
  obtain ⟨rfl, rfl, b_49, h_50, x_51⟩ := h_48
  try simp only [Int32.reduceToInt, Int64.reduceToInt] at x_51
  refine v_istore_n hC dX12_room_5 (by decide) (lv' := [(2, .int r_45), (0, .ref a_0), (1, .int a_1)]) rfl ?_
  refine v_iload_n hC dX12_room_6 rfl ?_
  refine v_if_ge hC dX12_room_7 (tgt := 14) (by decide) (fun h_54 => ?_) (fun h_54 => ?_)
  · simp only [Int32.lt_iff_toInt_lt, Int32.le_iff_toInt_le, Int32.reduceToInt, ← Int32.toInt_inj] at h_54
    refine v_aload_n hC dX12_room_14 rfl ?_
    refine v_iload_n hC dX12_room_15 rfl ?_
    refine v_vi hC (rest := []) m_1 e_26 rfl mi_X12_roomOf ms_X12_roomOf (p_X12_roomOf hW k_0 (by first | omega | (simp only [Int32.lt_iff_toInt_lt, Int32.le_iff_toInt_le, Int32.reduceToInt, ← Int32.toInt_inj, true_and, and_true, or_true, true_or, false_or, or_false, false_and, and_false, not_true_eq_false, not_false_eq_true] <;> omega)) e_w o_w (by first | omega | (simp only [Int32.lt_iff_toInt_lt, Int32.le_iff_toInt_le, Int32.reduceToInt, ← Int32.toInt_inj, true_and, and_true, or_true, true_or, false_or, or_false, false_and, and_false, not_true_eq_false, not_false_eq_true] <;> omega))) mx_X12_roomOf ml_X12_241 (by decide) rfl (cells1 := 0) (slots1 := 0) (by decide) (by decide) (Nat.le_of_ble_eq_true rfl) (Nat.le_of_ble_eq_true rfl) rfl (Nat.le_of_ble_eq_true rfl) dX12_room_16 (fun r_55 L_56 f_57 h_58 => ?_)
    obtain ⟨rfl, hW_63, hF_64, b_59, x_60, x_61, x_62⟩ := h_58
    have fe_65 : fld (f a_0) 20 = (v_43 : Int32).toInt := by rw [e_26]; rfl
    have hf_66 := hF_64.at e_w rfl
    obtain ⟨v_68, v_69, v_71, v_73, v_75, v_77, v_79, v_80, v_81, v_82, v_84, e_67, b_70, b_72, b_74, b_76, b_78, b_83, b_85⟩ := hW_63.at m_1 t_2
    have fe_86 : fld (f_57 a_0) 20 = (v_84 : Int32).toInt := by rw [e_67]; rfl
    rw [fe_86, fe_65] at x_62
    clear fe_65 fe_86
    try simp only [Int32.reduceToInt, Int64.reduceToInt] at x_60
    try simp only [Int32.reduceToInt, Int64.reduceToInt] at x_61
    try simp only [Int32.reduceToInt, Int64.reduceToInt] at x_62
    exact hR _ _ _ _ _ _ _ dX12_room_19 rfl (Nat.le_of_ble_eq_true rfl) (Nat.le_of_ble_eq_true rfl) ⟨rfl, hW_63, (hF_64.mono rfl), (by first | omega | (simp only [Int32.lt_iff_toInt_lt, Int32.le_iff_toInt_le, Int32.reduceToInt, ← Int32.toInt_inj, true_and, and_true, or_true, true_or, false_or, or_false, false_and, and_false, not_true_eq_false, not_false_eq_true] <;> omega)), (.inr (by first | omega | (simp only [Int32.lt_iff_toInt_lt, Int32.le_iff_toInt_le, Int32.reduceToInt, ← Int32.toInt_inj, true_and, and_true, or_true, true_or, false_or, or_false, false_and, and_false, not_true_eq_false, not_false_eq_true] <;> omega)))⟩
  · simp only [Int32.lt_iff_toInt_lt, Int32.le_iff_toInt_le, Int32.reduceToInt, ← Int32.toInt_inj] at h_54
    refine v_iload_n hC dX12_room_10 rfl ?_
    refine v_goto hC dX12_room_11 (tgt := 19) (by decide) ?_
    exact hR _ _ _ _ _ _ _ dX12_room_19 rfl (Nat.le_of_ble_eq_true rfl) (Nat.le_of_ble_eq_true rfl) ⟨rfl, hW, FR.rf, (by first | omega | (simp only [Int32.lt_iff_toInt_lt, Int32.le_iff_toInt_le, Int32.reduceToInt, ← Int32.toInt_inj, true_and, and_true, or_true, true_or, false_or, or_false, false_and, and_false, not_true_eq_false, not_false_eq_true] <;> omega)), (by first | omega | (simp only [Int32.lt_iff_toInt_lt, Int32.le_iff_toInt_le, Int32.reduceToInt, ← Int32.toInt_inj, true_and, and_true, or_true, true_or, false_or, or_false, false_and, and_false, not_true_eq_false, not_false_eq_true] <;> omega))⟩
set_option maxRecDepth 100000 in
set_option maxHeartbeats 8000000 in
theorem p_X12_most {l : Launch} {E : Ez} {L : List Nat} {f : Nat → va_E} {T : Nat → va_E → Prop} {a_0 : Nat} {a_1 : Int32} {q : Nat → Nat} {g_w : Nat → Int32} (hW : WT T L f) (k_0 : isM T L E a_0 q) (e_w : f (q 1) = aI E 2076 g_w) (o_w : WOK g_w) : CI l yX12_most cX12_most 3 .int 4 0 0 E [.ref a_0, .int a_1] L f (fun r L1 f1 => L = L1 ∧ WT T L f1 ∧ FR [12, 356] f f1 ∧ ((-6) ≤ r.toInt ∧ r.toInt ≤ 50) ∧ (¬ r.toInt = 0 ∨ (0 ≤ a_1.toInt ∧ a_1.toInt ≤ 5))) := by
  refine ci_of (by decide) (Nat.le_of_ble_eq_true rfl) (fun z hz hnm hC hR => ?_)
  have hC : Cx z E cX12_most RX12 3 4 0 0 := hC
  subst hz
  show V z E 3 0 0 L f 0 [(0, .ref a_0), (1, .int a_1)] []
  obtain ⟨m_1, t_2, nq_21, k_3, k_4, k_5, k_6, k_7, k_8, k_9, k_10, k_11, k_12, k_13, k_14, k_15, k_16, k_17, k_18, k_19, k_20⟩ := id k_0
  obtain ⟨m_22, t_23⟩ := id k_3
  have b_24 := o_w.r0
  have b_25 := o_w.w0
  refine v_aload_n hC dX12_most_0 rfl ?_
  refine v_iload_n hC dX12_most_1 rfl ?_
  obtain ⟨v_27, v_28, v_30, v_32, v_34, v_36, v_38, v_39, v_40, v_41, v_43, e_26, b_29, b_31, b_33, b_35, b_37, b_42, b_44⟩ := hW.at m_1 t_2
  refine v_vi hC (rest := []) m_1 e_26 rfl mi_X12_asksWay ms_X12_asksWay (p_X12_asksWay hW k_0 e_w o_w) mx_X12_asksWay ml_X12_383 (by decide) rfl (cells1 := 0) (slots1 := 0) (by decide) (by decide) (Nat.le_of_ble_eq_true rfl) (Nat.le_of_ble_eq_true rfl) rfl (Nat.le_of_ble_eq_true rfl) dX12_most_2 (fun r_45 L_46 f_47 h_48 => ?_)
  obtain ⟨rfl, rfl, b_49, h_50, x_51⟩ := h_48
  try simp only [Int32.reduceToInt, Int64.reduceToInt] at x_51
  refine v_istore_n hC dX12_most_5 (by decide) (lv' := [(2, .int r_45), (0, .ref a_0), (1, .int a_1)]) rfl ?_
  refine v_iload_n hC dX12_most_6 rfl ?_
  refine v_if_ge hC dX12_most_7 (tgt := 14) (by decide) (fun h_54 => ?_) (fun h_54 => ?_)
  · simp only [Int32.lt_iff_toInt_lt, Int32.le_iff_toInt_le, Int32.reduceToInt, ← Int32.toInt_inj] at h_54
    refine v_iconst hC dX12_most_14 (v := 0) (by decide) ?_
    refine v_aload_n hC dX12_most_15 rfl ?_
    refine v_iload_n hC dX12_most_16 rfl ?_
    refine v_vi hC (rest := [.int 0]) m_1 e_26 rfl mi_X12_roomOf ms_X12_roomOf (p_X12_roomOf hW k_0 (by first | omega | (simp only [Int32.lt_iff_toInt_lt, Int32.le_iff_toInt_le, Int32.reduceToInt, ← Int32.toInt_inj, true_and, and_true, or_true, true_or, false_or, or_false, false_and, and_false, not_true_eq_false, not_false_eq_true] <;> omega)) e_w o_w (by first | omega | (simp only [Int32.lt_iff_toInt_lt, Int32.le_iff_toInt_le, Int32.reduceToInt, ← Int32.toInt_inj, true_and, and_true, or_true, true_or, false_or, or_false, false_and, and_false, not_true_eq_false, not_false_eq_true] <;> omega))) mx_X12_roomOf ml_X12_241 (by decide) rfl (cells1 := 0) (slots1 := 0) (by decide) (by decide) (Nat.le_of_ble_eq_true rfl) (Nat.le_of_ble_eq_true rfl) rfl (Nat.le_of_ble_eq_true rfl) dX12_most_17 (fun r_55 L_56 f_57 h_58 => ?_)
    obtain ⟨rfl, hW_63, hF_64, b_59, x_60, x_61, x_62⟩ := h_58
    have fe_65 : fld (f a_0) 20 = (v_43 : Int32).toInt := by rw [e_26]; rfl
    have hf_66 := hF_64.at e_w rfl
    obtain ⟨v_68, v_69, v_71, v_73, v_75, v_77, v_79, v_80, v_81, v_82, v_84, e_67, b_70, b_72, b_74, b_76, b_78, b_83, b_85⟩ := hW_63.at m_1 t_2
    have fe_86 : fld (f_57 a_0) 20 = (v_84 : Int32).toInt := by rw [e_67]; rfl
    rw [fe_86, fe_65] at x_62
    clear fe_65 fe_86
    try simp only [Int32.reduceToInt, Int64.reduceToInt] at x_60
    try simp only [Int32.reduceToInt, Int64.reduceToInt] at x_61
    try simp only [Int32.reduceToInt, Int64.reduceToInt] at x_62
    refine v_iconst hC dX12_most_20 (v := 5) (by decide) ?_
    obtain ⟨v_87, h_88⟩ : ∃ v9 : Int32, r_55 / 5 = v9 := ⟨_, rfl⟩
    refine v_idiv hC dX12_most_21 (by decide) h_88 ?_
    have h_89 := div_v h_88 (by first | omega | (simp only [Int32.lt_iff_toInt_lt, Int32.le_iff_toInt_le, Int32.reduceToInt, ← Int32.toInt_inj, true_and, and_true, or_true, true_or, false_or, or_false, false_and, and_false, not_true_eq_false, not_false_eq_true] <;> omega)) (by decide)
    try simp only [Int32.reduceToInt] at h_89
    refine v_iconst hC dX12_most_22 (v := 1) (by decide) ?_
    obtain ⟨v_90, h_91⟩ : ∃ v9 : Int32, v_87 - 1 = v9 := ⟨_, rfl⟩
    refine v_isub hC dX12_most_23 h_91 ?_
    have h_92 := sub_v h_91 (by first | omega | (simp only [Int32.lt_iff_toInt_lt, Int32.le_iff_toInt_le, Int32.reduceToInt, ← Int32.toInt_inj, true_and, and_true, or_true, true_or, false_or, or_false, false_and, and_false, not_true_eq_false, not_false_eq_true] <;> omega)) (by first | omega | (simp only [Int32.lt_iff_toInt_lt, Int32.le_iff_toInt_le, Int32.reduceToInt, ← Int32.toInt_inj, true_and, and_true, or_true, true_or, false_or, or_false, false_and, and_false, not_true_eq_false, not_false_eq_true] <;> omega))
    try simp only [Int32.reduceToInt] at h_92
    obtain ⟨v_93, h_94⟩ : ∃ v9 : Int32, (if (0 : Int32) < v_90 then v_90 else (0 : Int32)) = v9 := ⟨_, rfl⟩
    refine v_mmax hC mm_X12_386 mm_smax mm_i mm_cmax (by decide) (Nat.le_of_ble_eq_true rfl) (Nat.le_of_ble_eq_true rfl) (Nat.le_of_ble_eq_true rfl) h_94 dX12_most_24 ?_
    have b_95 := max_v h_94
    try simp only [Int32.reduceToInt] at b_95
    exact hR _ _ _ _ _ _ _ dX12_most_27 rfl (Nat.le_of_ble_eq_true rfl) (Nat.le_of_ble_eq_true rfl) ⟨rfl, hW_63, (hF_64.mono rfl), (by first | omega | (simp only [Int32.lt_iff_toInt_lt, Int32.le_iff_toInt_le, Int32.reduceToInt, ← Int32.toInt_inj, true_and, and_true, or_true, true_or, false_or, or_false, false_and, and_false, not_true_eq_false, not_false_eq_true] <;> omega)), (.inr (by first | omega | (simp only [Int32.lt_iff_toInt_lt, Int32.le_iff_toInt_le, Int32.reduceToInt, ← Int32.toInt_inj, true_and, and_true, or_true, true_or, false_or, or_false, false_and, and_false, not_true_eq_false, not_false_eq_true] <;> omega)))⟩
  · simp only [Int32.lt_iff_toInt_lt, Int32.le_iff_toInt_le, Int32.reduceToInt, ← Int32.toInt_inj] at h_54
    refine v_iload_n hC dX12_most_10 rfl ?_
    refine v_goto hC dX12_most_11 (tgt := 27) (by decide) ?_
    exact hR _ _ _ _ _ _ _ dX12_most_27 rfl (Nat.le_of_ble_eq_true rfl) (Nat.le_of_ble_eq_true rfl) ⟨rfl, hW, FR.rf, (by first | omega | (simp only [Int32.lt_iff_toInt_lt, Int32.le_iff_toInt_le, Int32.reduceToInt, ← Int32.toInt_inj, true_and, and_true, or_true, true_or, false_or, or_false, false_and, and_false, not_true_eq_false, not_false_eq_true] <;> omega)), (by first | omega | (simp only [Int32.lt_iff_toInt_lt, Int32.le_iff_toInt_le, Int32.reduceToInt, ← Int32.toInt_inj, true_and, and_true, or_true, true_or, false_or, or_false, false_and, and_false, not_true_eq_false, not_false_eq_true] <;> omega))⟩
set_option maxRecDepth 100000 in
set_option maxHeartbeats 8000000 in
theorem p_X12_countAll {l : Launch} {E : Ez} {L : List Nat} {f : Nat → va_E} {T : Nat → va_E → Prop} {a_0 : Nat} {q : Nat → Nat} {g_w : Nat → Int32} (hW : WT T L f) (k_0 : isM T L E a_0 q) (e_w : f (q 1) = aI E 2076 g_w) (o_w : WOK g_w) : CV l yX12_countAll cX12_countAll 7 3 0 0 E [.ref a_0] L f (fun L1 f1 => L = L1 ∧ WT T L f1 ∧ FR [108] f f1) := by
  refine cv_of (by decide) (Nat.le_of_ble_eq_true rfl) (fun z hz hnm hC hR => ?_)
  have hC : Cx z E cX12_countAll RX12 7 3 0 0 := hC
  subst hz
  show V z E 7 0 0 L f 0 [(0, .ref a_0)] []
  obtain ⟨m_1, t_2, nq_21, k_3, k_4, k_5, k_6, k_7, k_8, k_9, k_10, k_11, k_12, k_13, k_14, k_15, k_16, k_17, k_18, k_19, k_20⟩ := id k_0
  obtain ⟨m_22, t_23⟩ := id k_3
  have b_24 := o_w.r0
  have b_25 := o_w.w0
  refine v_iconst hC dX12_countAll_0 (v := 0) (by decide) ?_
  refine v_istore_n hC dX12_countAll_1 (by decide) (lv' := [(1, .int 0), (0, .ref a_0)]) rfl ?_
  have lp_179826 : ∀ (n_179827 : Nat) (f_179821 : Nat → va_E) (hW_179822 : WT T L f_179821) (hF_179823 : FR [108] f f_179821) (i_179820 : Int32) (b_179825 : (0 ≤ i_179820.toInt ∧ i_179820.toInt ≤ 8)) (hm_179829 : 8 - i_179820.toInt < (n_179827 : Int)), V z E 7 0 0 L f_179821 2 [(1, .int i_179820), (0, .ref a_0)] [] := by
    intro n_179827
    induction n_179827 with
    | zero =>
      intro f_179821 hW_179822 hF_179823 i_179820 b_179825 hm_179829
      have hf_179824 := hF_179823.at e_w rfl
      exfalso; omega
    | succ n_179827 ih_179828 =>
      intro f_179821 hW_179822 hF_179823 i_179820 b_179825 hm_179829
      have hf_179824 := hF_179823.at e_w rfl
      refine v_iload_n hC dX12_countAll_2 rfl ?_
      refine v_bipush hC dX12_countAll_3 (v := 8) (by decide) ?_
      refine v_icmp_ge hC dX12_countAll_5 (tgt := 21) (by decide) (fun h_179830 => ?_) (fun h_179830 => ?_)
      · simp only [Int32.lt_iff_toInt_lt, Int32.le_iff_toInt_le, Int32.reduceToInt, ← Int32.toInt_inj] at h_179830
        refine v_aload_n hC dX12_countAll_21 rfl ?_
        obtain ⟨v_179866, v_179867, v_179869, v_179871, v_179873, v_179875, v_179877, v_179878, v_179879, v_179880, v_179882, e_179865, b_179868, b_179870, b_179872, b_179874, b_179876, b_179881, b_179883⟩ := hW_179822.at m_1 t_2
        refine v_get hC fl_X12_55 m_1 e_179865 rfl dX12_countAll_22 ?_
        refine v_iconst hC dX12_countAll_25 (v := 5) (by decide) ?_
        refine v_sipush hC dX12_countAll_26 (v := 256) (by decide) ?_
        obtain ⟨m_179884, t_179885⟩ := id k_14
        obtain ⟨g_179887, e_179886⟩ := hW_179822.at m_179884 t_179885
        refine v_iast hC m_179884 e_179886 (vp_in_iff.mpr (by decide)) dX12_countAll_29 (fun f_179888 hf_179889 hk_179890 => ?_)
        have hW_179892 := hW_179822.up hf_179889 hk_179890 t_179885 ⟨_, rfl⟩
        obtain ⟨g_179891, hf_179889⟩ : ∃ g9, f_179888 (q 22) = aI E 8 g9 := ⟨_, hf_179889⟩
        have hf_179893 := (hk_179890 (q 1) (ne_kd hf_179824 e_179886 rfl)).trans hf_179824
        have hf_179894 := (hk_179890 a_0 (ne_kd e_179865 e_179886 rfl)).trans e_179865
        have fr_179895 := FR.w hk_179890 e_179886 (k := 108) rfl
        refine v_iconst hC dX12_countAll_30 (v := 4) (by decide) ?_
        refine v_istore_n hC dX12_countAll_31 (by decide) (lv' := [(1, .int 4), (0, .ref a_0)]) rfl ?_
        refine v_iconst hC dX12_countAll_32 (v := 0) (by decide) ?_
        refine v_istore_n hC dX12_countAll_33 (by decide) (lv' := [(2, .int 0), (1, .int 4), (0, .ref a_0)]) rfl ?_
        have lp_219128 : ∀ (n_219129 : Nat) (f_219122 : Nat → va_E) (hW_219123 : WT T L f_219122) (hF_219124 : FR [108] f_179888 f_219122) (i_219120 : Int32) (b_219127 : (0 ≤ i_219120.toInt ∧ i_219120.toInt ≤ 16)) (i_219121 : Int32) (hm_219131 : 16 - i_219120.toInt < (n_219129 : Int)), V z E 7 0 0 L f_219122 34 [(2, .int i_219120), (1, .int i_219121), (0, .ref a_0)] [] := by
          intro n_219129
          induction n_219129 with
          | zero =>
            intro f_219122 hW_219123 hF_219124 i_219120 b_219127 i_219121 hm_219131
            have hf_219125 := hF_219124.at hf_179893 rfl
            have hf_219126 := hF_219124.at hf_179894 rfl
            exfalso; omega
          | succ n_219129 ih_219130 =>
            intro f_219122 hW_219123 hF_219124 i_219120 b_219127 i_219121 hm_219131
            have hf_219125 := hF_219124.at hf_179893 rfl
            have hf_219126 := hF_219124.at hf_179894 rfl
            refine v_iload_n hC dX12_countAll_34 rfl ?_
            refine v_aload_n hC dX12_countAll_35 rfl ?_
            refine v_vi hC (rest := [.int i_219120]) m_1 hf_219126 rfl mi_X12_rows ms_X12_rows (p_X12_rows hW_219123 k_0 hf_219125 o_w) mx_X12_rows ml_X12_83 (by decide) rfl (cells1 := 0) (slots1 := 0) (by decide) (by decide) (Nat.le_of_ble_eq_true rfl) (Nat.le_of_ble_eq_true rfl) rfl (Nat.le_of_ble_eq_true rfl) dX12_countAll_36 (fun r_219132 L_219133 f_219134 h_219135 => ?_)
            obtain ⟨rfl, rfl, rfl⟩ := h_219135
            refine v_icmp_ge hC dX12_countAll_39 (tgt := 256) (by decide) (fun h_219138 => ?_) (fun h_219138 => ?_)
            · simp only [Int32.lt_iff_toInt_lt, Int32.le_iff_toInt_le, Int32.reduceToInt, ← Int32.toInt_inj] at h_219138
              exact hR _ _ _ _ _ _ dX12_countAll_256 (Nat.le_of_ble_eq_true rfl) (Nat.le_of_ble_eq_true rfl) ⟨rfl, hW_219123, (((hF_179823.tr fr_179895).tr hF_219124).mono rfl)⟩
            · simp only [Int32.lt_iff_toInt_lt, Int32.le_iff_toInt_le, Int32.reduceToInt, ← Int32.toInt_inj] at h_219138
              refine v_iconst hC dX12_countAll_42 (v := 0) (by decide) ?_
              refine v_istore_n hC dX12_countAll_43 (by decide) (lv' := [(3, .int 0), (2, .int i_219120), (1, .int i_219121), (0, .ref a_0)]) rfl ?_
              refine v_iconst hC dX12_countAll_44 (v := 0) (by decide) ?_
              refine v_istore hC dX12_countAll_45 (by decide) (lv' := [(4, .int 0), (3, .int 0), (2, .int i_219120), (1, .int i_219121), (0, .ref a_0)]) rfl ?_
              have lp_224279 : ∀ (n_224280 : Nat) (f_224273 : Nat → va_E) (hW_224274 : WT T L f_224273) (hF_224275 : FR [108] f_219122 f_224273) (i_224270 : Int32) (b_224278 : (0 ≤ i_224270.toInt ∧ i_224270.toInt ≤ 16)) (i_224271 : Int32) (i_224272 : Int32) (hm_224282 : 16 - i_224270.toInt < (n_224280 : Int)), V z E 7 0 0 L f_224273 47 [(4, .int i_224270), (3, .int i_224271), (2, .int i_219120), (1, .int i_224272), (0, .ref a_0)] [] := by
                intro n_224280
                induction n_224280 with
                | zero =>
                  intro f_224273 hW_224274 hF_224275 i_224270 b_224278 i_224271 i_224272 hm_224282
                  have hf_224276 := hF_224275.at hf_219125 rfl
                  have hf_224277 := hF_224275.at hf_219126 rfl
                  exfalso; omega
                | succ n_224280 ih_224281 =>
                  intro f_224273 hW_224274 hF_224275 i_224270 b_224278 i_224271 i_224272 hm_224282
                  have hf_224276 := hF_224275.at hf_219125 rfl
                  have hf_224277 := hF_224275.at hf_219126 rfl
                  refine v_iload hC dX12_countAll_47 rfl ?_
                  refine v_aload_n hC dX12_countAll_49 rfl ?_
                  refine v_vi hC (rest := [.int i_224270]) m_1 hf_224277 rfl mi_X12_wide ms_X12_wide (p_X12_wide hW_224274 k_0 hf_224276 o_w) mx_X12_wide ml_X12_87 (by decide) rfl (cells1 := 0) (slots1 := 0) (by decide) (by decide) (Nat.le_of_ble_eq_true rfl) (Nat.le_of_ble_eq_true rfl) rfl (Nat.le_of_ble_eq_true rfl) dX12_countAll_50 (fun r_224283 L_224284 f_224285 h_224286 => ?_)
                  obtain ⟨rfl, rfl, rfl⟩ := h_224286
                  refine v_icmp_ge hC dX12_countAll_53 (tgt := 218) (by decide) (fun h_224289 => ?_) (fun h_224289 => ?_)
                  · simp only [Int32.lt_iff_toInt_lt, Int32.le_iff_toInt_le, Int32.reduceToInt, ← Int32.toInt_inj] at h_224289
                    refine v_aload_n hC dX12_countAll_218 rfl ?_
                    refine v_get hC fl_X12_55 m_1 hf_224277 rfl dX12_countAll_219 ?_
                    refine v_iconst hC dX12_countAll_222 (v := 4) (by decide) ?_
                    refine v_aload_n hC dX12_countAll_223 rfl ?_
                    refine v_get hC fl_X12_55 m_1 hf_224277 rfl dX12_countAll_224 ?_
                    refine v_iconst hC dX12_countAll_227 (v := 4) (by decide) ?_
                    obtain ⟨g_224500, e_224499⟩ := hW_224274.at m_179884 t_179885
                    obtain ⟨v_224501, h_224502⟩ : ∃ v9 : Int32, g_224500 (4 : Int32).toNatClampNeg = v9 := ⟨_, rfl⟩
                    refine v_iald hC m_179884 e_224499 (vp_in_iff.mpr (by decide)) h_224502 dX12_countAll_228 ?_
                    refine v_iload_n hC dX12_countAll_229 rfl ?_
                    obtain ⟨v_224503, h_224504⟩ : ∃ v9 : Int32, (if (v_224501 : Int32) < i_224271 then i_224271 else (v_224501 : Int32)) = v9 := ⟨_, rfl⟩
                    refine v_mmax hC mm_X12_386 mm_smax mm_i mm_cmax (by decide) (Nat.le_of_ble_eq_true rfl) (Nat.le_of_ble_eq_true rfl) (Nat.le_of_ble_eq_true rfl) h_224504 dX12_countAll_230 ?_
                    have b_224505 := max_v h_224504
                    try simp only [Int32.reduceToInt] at b_224505
                    refine v_iast hC m_179884 e_224499 (vp_in_iff.mpr (by decide)) dX12_countAll_233 (fun f_224506 hf_224507 hk_224508 => ?_)
                    have hW_224510 := hW_224274.up hf_224507 hk_224508 t_179885 ⟨_, rfl⟩
                    obtain ⟨g_224509, hf_224507⟩ : ∃ g9, f_224506 (q 22) = aI E 8 g9 := ⟨_, hf_224507⟩
                    have hf_224511 := (hk_224508 (q 1) (ne_kd hf_224276 e_224499 rfl)).trans hf_224276
                    have hf_224512 := (hk_224508 a_0 (ne_kd hf_224277 e_224499 rfl)).trans hf_224277
                    have fr_224513 := FR.w hk_224508 e_224499 (k := 108) rfl
                    refine v_aload_n hC dX12_countAll_234 rfl ?_
                    refine v_get hC fl_X12_55 m_1 hf_224512 rfl dX12_countAll_235 ?_
                    refine v_iconst hC dX12_countAll_238 (v := 5) (by decide) ?_
                    refine v_aload_n hC dX12_countAll_239 rfl ?_
                    refine v_get hC fl_X12_55 m_1 hf_224512 rfl dX12_countAll_240 ?_
                    refine v_iconst hC dX12_countAll_243 (v := 5) (by decide) ?_
                    obtain ⟨v_224514, h_224515⟩ : ∃ v9 : Int32, g_224509 (5 : Int32).toNatClampNeg = v9 := ⟨_, rfl⟩
                    refine v_iald hC m_179884 hf_224507 (vp_in_iff.mpr (by decide)) h_224515 dX12_countAll_244 ?_
                    refine v_iload_n hC dX12_countAll_245 rfl ?_
                    obtain ⟨v_224516, h_224517⟩ : ∃ v9 : Int32, (if i_224271 < (v_224514 : Int32) then i_224271 else (v_224514 : Int32)) = v9 := ⟨_, rfl⟩
                    refine v_mmin hC mm_X12_134 mm_smin mm_i mm_cmin (by decide) (Nat.le_of_ble_eq_true rfl) (Nat.le_of_ble_eq_true rfl) (Nat.le_of_ble_eq_true rfl) h_224517 dX12_countAll_246 ?_
                    have b_224518 := min_v h_224517
                    try simp only [Int32.reduceToInt] at b_224518
                    refine v_iast hC m_179884 hf_224507 (vp_in_iff.mpr (by decide)) dX12_countAll_249 (fun f_224519 hf_224520 hk_224521 => ?_)
                    have hW_224523 := hW_224510.up hf_224520 hk_224521 t_179885 ⟨_, rfl⟩
                    obtain ⟨g_224522, hf_224520⟩ : ∃ g9, f_224519 (q 22) = aI E 8 g9 := ⟨_, hf_224520⟩
                    have hf_224524 := (hk_224521 (q 1) (ne_kd hf_224511 hf_224507 rfl)).trans hf_224511
                    have hf_224525 := (hk_224521 a_0 (ne_kd hf_224512 hf_224507 rfl)).trans hf_224512
                    have fr_224526 := FR.w hk_224521 hf_224507 (k := 108) rfl
                    obtain ⟨v_224527, h_224528⟩ : ∃ v9 : Int32, i_219120 + Int32.ofInt 1 = v9 := ⟨_, rfl⟩
                    have h_224529 := add_v (b := 1) h_224528 (by first | omega | (simp only [Int32.lt_iff_toInt_lt, Int32.le_iff_toInt_le, Int32.reduceToInt, ← Int32.toInt_inj, true_and, and_true, or_true, true_or, false_or, or_false, false_and, and_false, not_true_eq_false, not_false_eq_true] <;> omega)) (by first | omega | (simp only [Int32.lt_iff_toInt_lt, Int32.le_iff_toInt_le, Int32.reduceToInt, ← Int32.toInt_inj, true_and, and_true, or_true, true_or, false_or, or_false, false_and, and_false, not_true_eq_false, not_false_eq_true] <;> omega))
                    simp only [Int32.reduceToInt] at h_224529
                    refine v_iinc hC dX12_countAll_250 (k := 2) rfl (v := v_224527) h_224528 (by decide) (lv' := [(2, .int v_224527), (4, .int i_224270), (3, .int i_224271), (1, .int i_224272), (0, .ref a_0)]) rfl ?_
                    refine v_goto hC dX12_countAll_253 (tgt := 34) (by decide) ?_
                    refine v_pick [0, 3, 4] rfl ?_
                    exact ih_219130 f_224519 hW_224523 ((((hF_219124.tr hF_224275).tr fr_224513).tr fr_224526).mono rfl) v_224527 (by first | omega | (simp only [Int32.lt_iff_toInt_lt, Int32.le_iff_toInt_le, Int32.reduceToInt, ← Int32.toInt_inj, true_and, and_true, or_true, true_or, false_or, or_false, false_and, and_false, not_true_eq_false, not_false_eq_true] <;> omega)) i_224272 (by first | omega | (simp only [Int32.lt_iff_toInt_lt, Int32.le_iff_toInt_le, Int32.reduceToInt, ← Int32.toInt_inj, true_and, and_true, or_true, true_or, false_or, or_false, false_and, and_false, not_true_eq_false, not_false_eq_true] <;> omega))
                  · simp only [Int32.lt_iff_toInt_lt, Int32.le_iff_toInt_le, Int32.reduceToInt, ← Int32.toInt_inj] at h_224289
                    refine v_iload_n hC dX12_countAll_56 rfl ?_
                    refine v_aload_n hC dX12_countAll_57 rfl ?_
                    refine v_vi hC (rest := [.int i_219120]) m_1 hf_224277 rfl mi_X12_wide ms_X12_wide (p_X12_wide hW_224274 k_0 hf_224276 o_w) mx_X12_wide ml_X12_87 (by decide) rfl (cells1 := 0) (slots1 := 0) (by decide) (by decide) (Nat.le_of_ble_eq_true rfl) (Nat.le_of_ble_eq_true rfl) rfl (Nat.le_of_ble_eq_true rfl) dX12_countAll_58 (fun r_224530 L_224531 f_224532 h_224533 => ?_)
                    obtain ⟨rfl, rfl, rfl⟩ := h_224533
                    obtain ⟨v_224536, h_224537⟩ : ∃ v9 : Int32, i_219120 * (g_w 1) = v9 := ⟨_, rfl⟩
                    refine v_imul hC dX12_countAll_61 h_224537 ?_
                    have h_224538 := mul_v 15 16 240 h_224537 (by first | omega | (simp only [Int32.lt_iff_toInt_lt, Int32.le_iff_toInt_le, Int32.reduceToInt, ← Int32.toInt_inj, true_and, and_true, or_true, true_or, false_or, or_false, false_and, and_false, not_true_eq_false, not_false_eq_true] <;> omega)) (by first | omega | (simp only [Int32.lt_iff_toInt_lt, Int32.le_iff_toInt_le, Int32.reduceToInt, ← Int32.toInt_inj, true_and, and_true, or_true, true_or, false_or, or_false, false_and, and_false, not_true_eq_false, not_false_eq_true] <;> omega)) (by decide) (by decide)
                    refine v_iload hC dX12_countAll_62 rfl ?_
                    obtain ⟨v_224539, h_224540⟩ : ∃ v9 : Int32, v_224536 + i_224270 = v9 := ⟨_, rfl⟩
                    refine v_iadd hC dX12_countAll_64 h_224540 ?_
                    have h_224541 := add_v h_224540 (by first | omega | (simp only [Int32.lt_iff_toInt_lt, Int32.le_iff_toInt_le, Int32.reduceToInt, ← Int32.toInt_inj, true_and, and_true, or_true, true_or, false_or, or_false, false_and, and_false, not_true_eq_false, not_false_eq_true] <;> omega)) (by first | omega | (simp only [Int32.lt_iff_toInt_lt, Int32.le_iff_toInt_le, Int32.reduceToInt, ← Int32.toInt_inj, true_and, and_true, or_true, true_or, false_or, or_false, false_and, and_false, not_true_eq_false, not_false_eq_true] <;> omega))
                    refine v_istore hC dX12_countAll_65 (by decide) (lv' := [(5, .int v_224539), (4, .int i_224270), (3, .int i_224271), (2, .int i_219120), (1, .int i_224272), (0, .ref a_0)]) rfl ?_
                    refine v_aload_n hC dX12_countAll_67 rfl ?_
                    refine v_get hC fl_X12_37 m_1 hf_224277 rfl dX12_countAll_68 ?_
                    refine v_iload hC dX12_countAll_71 rfl ?_
                    obtain ⟨m_224542, t_224543⟩ := id k_9
                    obtain ⟨g_224545, e_224544⟩ := hW_224274.at m_224542 t_224543
                    obtain ⟨v_224546, h_224547⟩ : ∃ v9 : Int32, g_224545 (v_224539 : Int32).toNatClampNeg = v9 := ⟨_, rfl⟩
                    refine v_iald hC m_224542 e_224544 (vp_in_iff.mpr (by first | omega | (simp only [Int32.lt_iff_toInt_lt, Int32.le_iff_toInt_le, Int32.reduceToInt, ← Int32.toInt_inj, true_and, and_true, or_true, true_or, false_or, or_false, false_and, and_false, not_true_eq_false, not_false_eq_true] <;> omega))) h_224547 dX12_countAll_73 ?_
                    refine v_istore hC dX12_countAll_74 (by decide) (lv' := [(6, .int v_224546), (5, .int v_224539), (4, .int i_224270), (3, .int i_224271), (2, .int i_219120), (1, .int i_224272), (0, .ref a_0)]) rfl ?_
                    refine v_aload_n hC dX12_countAll_76 rfl ?_
                    refine v_get hC fl_X12_55 m_1 hf_224277 rfl dX12_countAll_77 ?_
                    refine v_bipush hC dX12_countAll_80 (v := 6) (by decide) ?_
                    refine v_dup2 hC dX12_countAll_82 rfl rfl ?_
                    obtain ⟨g_224549, e_224548⟩ := hW_224274.at m_179884 t_179885
                    obtain ⟨v_224550, h_224551⟩ : ∃ v9 : Int32, g_224549 (6 : Int32).toNatClampNeg = v9 := ⟨_, rfl⟩
                    refine v_iald hC m_179884 e_224548 (vp_in_iff.mpr (by decide)) h_224551 dX12_countAll_83 ?_
                    refine v_iload hC dX12_countAll_84 rfl ?_
                    refine v_iconst hC dX12_countAll_86 (v := 4) (by decide) ?_
                    have jn_224553 : ∀ (v_224554 : Int32) (b_224555 : (0 ≤ v_224554.toInt ∧ v_224554.toInt ≤ 1)), V z E 7 0 0 L f_224273 95 [(6, .int v_224546), (5, .int v_224539), (4, .int i_224270), (3, .int i_224271), (2, .int i_219120), (1, .int i_224272), (0, .ref a_0)] [.int v_224554, .int v_224550, .int 6, .ref (q 22)] := by
                      intro v_224554 b_224555
                      obtain ⟨v_224556, h_224557⟩ : ∃ v9 : Int32, v_224550 + v_224554 = v9 := ⟨_, rfl⟩
                      refine v_iadd hC dX12_countAll_95 h_224557 ?_
                      refine v_iast hC m_179884 e_224548 (vp_in_iff.mpr (by decide)) dX12_countAll_96 (fun f_224559 hf_224560 hk_224561 => ?_)
                      have hW_224563 := hW_224274.up hf_224560 hk_224561 t_179885 ⟨_, rfl⟩
                      obtain ⟨g_224562, hf_224560⟩ : ∃ g9, f_224559 (q 22) = aI E 8 g9 := ⟨_, hf_224560⟩
                      have hf_224564 := (hk_224561 (q 1) (ne_kd hf_224276 e_224548 rfl)).trans hf_224276
                      have hf_224565 := (hk_224561 a_0 (ne_kd hf_224277 e_224548 rfl)).trans hf_224277
                      have hf_224566 := (hk_224561 (q 15) (ne_kd e_224544 e_224548 rfl)).trans e_224544
                      have fr_224567 := FR.w hk_224561 e_224548 (k := 108) rfl
                      refine v_aload_n hC dX12_countAll_97 rfl ?_
                      refine v_iload hC dX12_countAll_98 rfl ?_
                      refine v_vi hC (rest := []) m_1 hf_224565 rfl mi_X12_isFree ms_X12_isFree (p_X12_isFree hW_224563 k_0 (by first | omega | (simp only [Int32.lt_iff_toInt_lt, Int32.le_iff_toInt_le, Int32.reduceToInt, ← Int32.toInt_inj, true_and, and_true, or_true, true_or, false_or, or_false, false_and, and_false, not_true_eq_false, not_false_eq_true] <;> omega)) hf_224564 o_w (by first | omega | (simp only [Int32.lt_iff_toInt_lt, Int32.le_iff_toInt_le, Int32.reduceToInt, ← Int32.toInt_inj, true_and, and_true, or_true, true_or, false_or, or_false, false_and, and_false, not_true_eq_false, not_false_eq_true] <;> omega))) mx_X12_isFree ml_X12_206 (by decide) rfl (cells1 := 0) (slots1 := 0) (by decide) (by decide) (Nat.le_of_ble_eq_true rfl) (Nat.le_of_ble_eq_true rfl) rfl (Nat.le_of_ble_eq_true rfl) dX12_countAll_100 (fun r_224568 L_224569 f_224570 h_224571 => ?_)
                      obtain ⟨rfl, rfl, b_224572⟩ := h_224571
                      refine v_if_ne hC dX12_countAll_103 (tgt := 109) (by decide) (fun h_224575 => ?_) (fun h_224575 => ?_)
                      · simp only [Int32.lt_iff_toInt_lt, Int32.le_iff_toInt_le, Int32.reduceToInt, ← Int32.toInt_inj] at h_224575
                        refine v_aload_n hC dX12_countAll_109 rfl ?_
                        refine v_get hC fl_X12_55 m_1 hf_224565 rfl dX12_countAll_110 ?_
                        refine v_bipush hC dX12_countAll_113 (v := 7) (by decide) ?_
                        refine v_dup2 hC dX12_countAll_115 rfl rfl ?_
                        obtain ⟨v_224576, h_224577⟩ : ∃ v9 : Int32, g_224562 (7 : Int32).toNatClampNeg = v9 := ⟨_, rfl⟩
                        refine v_iald hC m_179884 hf_224560 (vp_in_iff.mpr (by decide)) h_224577 dX12_countAll_116 ?_
                        refine v_iconst hC dX12_countAll_117 (v := 1) (by decide) ?_
                        obtain ⟨v_224578, h_224579⟩ : ∃ v9 : Int32, v_224576 + 1 = v9 := ⟨_, rfl⟩
                        refine v_iadd hC dX12_countAll_118 h_224579 ?_
                        refine v_iast hC m_179884 hf_224560 (vp_in_iff.mpr (by decide)) dX12_countAll_119 (fun f_224581 hf_224582 hk_224583 => ?_)
                        have hW_224585 := hW_224563.up hf_224582 hk_224583 t_179885 ⟨_, rfl⟩
                        obtain ⟨g_224584, hf_224582⟩ : ∃ g9, f_224581 (q 22) = aI E 8 g9 := ⟨_, hf_224582⟩
                        have hf_224586 := (hk_224583 (q 1) (ne_kd hf_224564 hf_224560 rfl)).trans hf_224564
                        have hf_224587 := (hk_224583 a_0 (ne_kd hf_224565 hf_224560 rfl)).trans hf_224565
                        have hf_224588 := (hk_224583 (q 15) (ne_kd hf_224566 hf_224560 rfl)).trans hf_224566
                        have fr_224589 := FR.w hk_224583 hf_224560 (k := 108) rfl
                        refine v_iload_n hC dX12_countAll_120 rfl ?_
                        refine v_iload hC dX12_countAll_121 rfl ?_
                        have jn_224592 : ∀ (v_224593 : Int32) (b_224594 : (0 ≤ v_224593.toInt ∧ v_224593.toInt ≤ 1)), V z E 7 0 0 L f_224581 137 [(6, .int v_224546), (5, .int v_224539), (4, .int i_224270), (2, .int i_219120), (1, .int i_224272), (0, .ref a_0)] [.int v_224593, .int i_224271] := by
                          intro v_224593 b_224594
                          obtain ⟨v_224595, h_224596⟩ : ∃ v9 : Int32, i_224271 + v_224593 = v9 := ⟨_, rfl⟩
                          refine v_iadd hC dX12_countAll_137 h_224596 ?_
                          refine v_istore_n hC dX12_countAll_138 (by decide) (lv' := [(3, .int v_224595), (6, .int v_224546), (5, .int v_224539), (4, .int i_224270), (2, .int i_219120), (1, .int i_224272), (0, .ref a_0)]) rfl ?_
                          refine v_iload hC dX12_countAll_139 rfl ?_
                          obtain ⟨v_224598, h_224599⟩ : ∃ v9 : Int64, v_224546.toInt64 = v9 := ⟨_, rfl⟩
                          refine v_i2l hC dX12_countAll_141 h_224599 ?_
                          have h_224600 : v_224598.toInt = v_224546.toInt := by rw [← h_224599]; exact Int32.toInt_toInt64 _
                          refine v_lconst hC dX12_countAll_142 (v := 1) (by decide) ?_
                          refine v_ldc2 hC kl_X12_90 dX12_countAll_143 ?_
                          refine v_si hC (rest := []) mt_X12_in (p_X12_in hW_224585) mx_X12_in ml_X12_79 (by decide) rfl (cells1 := 0) (slots1 := 0) (by decide) (by decide) (Nat.le_of_ble_eq_true rfl) (Nat.le_of_ble_eq_true rfl) rfl (Nat.le_of_ble_eq_true rfl) dX12_countAll_146 (fun r_224601 L_224602 f_224603 h_224604 => ?_)
                          obtain ⟨rfl, rfl, b_224605, x_224606⟩ := h_224604
                          try simp only [Int32.reduceToInt, Int64.reduceToInt] at x_224606
                          have jn_224627 : ∀ (f_224628 : Nat → va_E) (hW_224629 : WT T L f_224628) (hF_224630 : FR [108] f_224581 f_224628) , V z E 7 0 0 L f_224628 165 [(3, .int v_224595), (6, .int v_224546), (5, .int v_224539), (4, .int i_224270), (2, .int i_219120), (1, .int i_224272), (0, .ref a_0)] [] := by
                            intro f_224628 hW_224629 hF_224630
                            have hf_224631 := hF_224630.at hf_224586 rfl
                            have hf_224632 := hF_224630.at hf_224587 rfl
                            have hf_224633 := hF_224630.at hf_224588 rfl
                            refine v_aload_n hC dX12_countAll_165 rfl ?_
                            refine v_iload hC dX12_countAll_166 rfl ?_
                            refine v_vi hC (rest := []) m_1 hf_224632 rfl mi_X12_sortOf ms_X12_sortOf (p_X12_sortOf hW_224629 k_0 (by first | omega | (simp only [Int32.lt_iff_toInt_lt, Int32.le_iff_toInt_le, Int32.reduceToInt, ← Int32.toInt_inj, true_and, and_true, or_true, true_or, false_or, or_false, false_and, and_false, not_true_eq_false, not_false_eq_true] <;> omega)) hf_224631 o_w (by first | omega | (simp only [Int32.lt_iff_toInt_lt, Int32.le_iff_toInt_le, Int32.reduceToInt, ← Int32.toInt_inj, true_and, and_true, or_true, true_or, false_or, or_false, false_and, and_false, not_true_eq_false, not_false_eq_true] <;> omega))) mx_X12_sortOf ml_X12_98 (by decide) rfl (cells1 := 0) (slots1 := 0) (by decide) (by decide) (Nat.le_of_ble_eq_true rfl) (Nat.le_of_ble_eq_true rfl) rfl (Nat.le_of_ble_eq_true rfl) dX12_countAll_168 (fun r_224634 L_224635 f_224636 h_224637 => ?_)
                            obtain ⟨rfl, rfl, b_224638⟩ := h_224637
                            refine v_iconst hC dX12_countAll_171 (v := 2) (by decide) ?_
                            refine v_icmp_eq hC dX12_countAll_172 (tgt := 178) (by decide) (fun h_224641 => ?_) (fun h_224641 => ?_)
                            · simp only [Int32.lt_iff_toInt_lt, Int32.le_iff_toInt_le, Int32.reduceToInt, ← Int32.toInt_inj] at h_224641
                              refine v_aload_n hC dX12_countAll_178 rfl ?_
                              refine v_get hC fl_X12_55 m_1 hf_224632 rfl dX12_countAll_179 ?_
                              refine v_iconst hC dX12_countAll_182 (v := 3) (by decide) ?_
                              refine v_dup2 hC dX12_countAll_183 rfl rfl ?_
                              obtain ⟨g_224643, e_224642⟩ := hW_224629.at m_179884 t_179885
                              obtain ⟨v_224644, h_224645⟩ : ∃ v9 : Int32, g_224643 (3 : Int32).toNatClampNeg = v9 := ⟨_, rfl⟩
                              refine v_iald hC m_179884 e_224642 (vp_in_iff.mpr (by decide)) h_224645 dX12_countAll_184 ?_
                              refine v_iload hC dX12_countAll_185 rfl ?_
                              refine v_iconst hC dX12_countAll_187 (v := 4) (by decide) ?_
                              refine v_icmp_eq hC dX12_countAll_188 (tgt := 206) (by decide) (fun h_224646 => ?_) (fun h_224646 => ?_)
                              · simp only [Int32.lt_iff_toInt_lt, Int32.le_iff_toInt_le, Int32.reduceToInt, ← Int32.toInt_inj] at h_224646
                                refine v_iconst hC dX12_countAll_206 (v := 0) (by decide) ?_
                                obtain ⟨v_224647, h_224648⟩ : ∃ v9 : Int32, v_224644 + 0 = v9 := ⟨_, rfl⟩
                                refine v_iadd hC dX12_countAll_207 h_224648 ?_
                                have rg_224650 := Int32.toInt_lt v_224644
                                have rg_224651 := Int32.le_toInt v_224644
                                have h_224649 := add_v h_224648 (by first | omega | (simp only [Int32.lt_iff_toInt_lt, Int32.le_iff_toInt_le, Int32.reduceToInt, ← Int32.toInt_inj, true_and, and_true, or_true, true_or, false_or, or_false, false_and, and_false, not_true_eq_false, not_false_eq_true] <;> omega)) (by first | omega | (simp only [Int32.lt_iff_toInt_lt, Int32.le_iff_toInt_le, Int32.reduceToInt, ← Int32.toInt_inj, true_and, and_true, or_true, true_or, false_or, or_false, false_and, and_false, not_true_eq_false, not_false_eq_true] <;> omega))
                                try simp only [Int32.reduceToInt] at h_224649
                                refine v_iast hC m_179884 e_224642 (vp_in_iff.mpr (by decide)) dX12_countAll_208 (fun f_224652 hf_224653 hk_224654 => ?_)
                                have hW_224656 := hW_224629.up hf_224653 hk_224654 t_179885 ⟨_, rfl⟩
                                obtain ⟨g_224655, hf_224653⟩ : ∃ g9, f_224652 (q 22) = aI E 8 g9 := ⟨_, hf_224653⟩
                                have hf_224657 := (hk_224654 (q 1) (ne_kd hf_224631 e_224642 rfl)).trans hf_224631
                                have hf_224658 := (hk_224654 a_0 (ne_kd hf_224632 e_224642 rfl)).trans hf_224632
                                have hf_224659 := (hk_224654 (q 15) (ne_kd hf_224633 e_224642 rfl)).trans hf_224633
                                have fr_224660 := FR.w hk_224654 e_224642 (k := 108) rfl
                                refine v_iload hC dX12_countAll_209 rfl ?_
                                refine v_istore_n hC dX12_countAll_211 (by decide) (lv' := [(1, .int v_224546), (3, .int v_224595), (6, .int v_224546), (5, .int v_224539), (4, .int i_224270), (2, .int i_219120), (0, .ref a_0)]) rfl ?_
                                obtain ⟨v_224661, h_224662⟩ : ∃ v9 : Int32, i_224270 + Int32.ofInt 1 = v9 := ⟨_, rfl⟩
                                have h_224663 := add_v (b := 1) h_224662 (by first | omega | (simp only [Int32.lt_iff_toInt_lt, Int32.le_iff_toInt_le, Int32.reduceToInt, ← Int32.toInt_inj, true_and, and_true, or_true, true_or, false_or, or_false, false_and, and_false, not_true_eq_false, not_false_eq_true] <;> omega)) (by first | omega | (simp only [Int32.lt_iff_toInt_lt, Int32.le_iff_toInt_le, Int32.reduceToInt, ← Int32.toInt_inj, true_and, and_true, or_true, true_or, false_or, or_false, false_and, and_false, not_true_eq_false, not_false_eq_true] <;> omega))
                                simp only [Int32.reduceToInt] at h_224663
                                refine v_iinc hC dX12_countAll_212 (k := 4) rfl (v := v_224661) h_224662 (by decide) (lv' := [(4, .int v_224661), (1, .int v_224546), (3, .int v_224595), (6, .int v_224546), (5, .int v_224539), (2, .int i_219120), (0, .ref a_0)]) rfl ?_
                                refine v_goto hC dX12_countAll_215 (tgt := 47) (by decide) ?_
                                refine v_pick [0, 2, 5, 1, 6] rfl ?_
                                exact ih_224281 f_224652 hW_224656 (((((hF_224275.tr fr_224567).tr fr_224589).tr hF_224630).tr fr_224660).mono rfl) v_224661 (by first | omega | (simp only [Int32.lt_iff_toInt_lt, Int32.le_iff_toInt_le, Int32.reduceToInt, ← Int32.toInt_inj, true_and, and_true, or_true, true_or, false_or, or_false, false_and, and_false, not_true_eq_false, not_false_eq_true] <;> omega)) v_224595 v_224546 (by first | omega | (simp only [Int32.lt_iff_toInt_lt, Int32.le_iff_toInt_le, Int32.reduceToInt, ← Int32.toInt_inj, true_and, and_true, or_true, true_or, false_or, or_false, false_and, and_false, not_true_eq_false, not_false_eq_true] <;> omega))
                              · simp only [Int32.lt_iff_toInt_lt, Int32.le_iff_toInt_le, Int32.reduceToInt, ← Int32.toInt_inj] at h_224646
                                refine v_iload_n hC dX12_countAll_191 rfl ?_
                                refine v_iconst hC dX12_countAll_192 (v := 4) (by decide) ?_
                                refine v_icmp_eq hC dX12_countAll_193 (tgt := 206) (by decide) (fun h_224664 => ?_) (fun h_224664 => ?_)
                                · simp only [Int32.lt_iff_toInt_lt, Int32.le_iff_toInt_le, Int32.reduceToInt, ← Int32.toInt_inj] at h_224664
                                  refine v_iconst hC dX12_countAll_206 (v := 0) (by decide) ?_
                                  obtain ⟨v_224665, h_224666⟩ : ∃ v9 : Int32, v_224644 + 0 = v9 := ⟨_, rfl⟩
                                  refine v_iadd hC dX12_countAll_207 h_224666 ?_
                                  have rg_224668 := Int32.toInt_lt v_224644
                                  have rg_224669 := Int32.le_toInt v_224644
                                  have h_224667 := add_v h_224666 (by first | omega | (simp only [Int32.lt_iff_toInt_lt, Int32.le_iff_toInt_le, Int32.reduceToInt, ← Int32.toInt_inj, true_and, and_true, or_true, true_or, false_or, or_false, false_and, and_false, not_true_eq_false, not_false_eq_true] <;> omega)) (by first | omega | (simp only [Int32.lt_iff_toInt_lt, Int32.le_iff_toInt_le, Int32.reduceToInt, ← Int32.toInt_inj, true_and, and_true, or_true, true_or, false_or, or_false, false_and, and_false, not_true_eq_false, not_false_eq_true] <;> omega))
                                  try simp only [Int32.reduceToInt] at h_224667
                                  refine v_iast hC m_179884 e_224642 (vp_in_iff.mpr (by decide)) dX12_countAll_208 (fun f_224670 hf_224671 hk_224672 => ?_)
                                  have hW_224674 := hW_224629.up hf_224671 hk_224672 t_179885 ⟨_, rfl⟩
                                  obtain ⟨g_224673, hf_224671⟩ : ∃ g9, f_224670 (q 22) = aI E 8 g9 := ⟨_, hf_224671⟩
                                  have hf_224675 := (hk_224672 (q 1) (ne_kd hf_224631 e_224642 rfl)).trans hf_224631
                                  have hf_224676 := (hk_224672 a_0 (ne_kd hf_224632 e_224642 rfl)).trans hf_224632
                                  have hf_224677 := (hk_224672 (q 15) (ne_kd hf_224633 e_224642 rfl)).trans hf_224633
                                  have fr_224678 := FR.w hk_224672 e_224642 (k := 108) rfl
                                  refine v_iload hC dX12_countAll_209 rfl ?_
                                  refine v_istore_n hC dX12_countAll_211 (by decide) (lv' := [(1, .int v_224546), (3, .int v_224595), (6, .int v_224546), (5, .int v_224539), (4, .int i_224270), (2, .int i_219120), (0, .ref a_0)]) rfl ?_
                                  obtain ⟨v_224679, h_224680⟩ : ∃ v9 : Int32, i_224270 + Int32.ofInt 1 = v9 := ⟨_, rfl⟩
                                  have h_224681 := add_v (b := 1) h_224680 (by first | omega | (simp only [Int32.lt_iff_toInt_lt, Int32.le_iff_toInt_le, Int32.reduceToInt, ← Int32.toInt_inj, true_and, and_true, or_true, true_or, false_or, or_false, false_and, and_false, not_true_eq_false, not_false_eq_true] <;> omega)) (by first | omega | (simp only [Int32.lt_iff_toInt_lt, Int32.le_iff_toInt_le, Int32.reduceToInt, ← Int32.toInt_inj, true_and, and_true, or_true, true_or, false_or, or_false, false_and, and_false, not_true_eq_false, not_false_eq_true] <;> omega))
                                  simp only [Int32.reduceToInt] at h_224681
                                  refine v_iinc hC dX12_countAll_212 (k := 4) rfl (v := v_224679) h_224680 (by decide) (lv' := [(4, .int v_224679), (1, .int v_224546), (3, .int v_224595), (6, .int v_224546), (5, .int v_224539), (2, .int i_219120), (0, .ref a_0)]) rfl ?_
                                  refine v_goto hC dX12_countAll_215 (tgt := 47) (by decide) ?_
                                  refine v_pick [0, 2, 5, 1, 6] rfl ?_
                                  exact ih_224281 f_224670 hW_224674 (((((hF_224275.tr fr_224567).tr fr_224589).tr hF_224630).tr fr_224678).mono rfl) v_224679 (by first | omega | (simp only [Int32.lt_iff_toInt_lt, Int32.le_iff_toInt_le, Int32.reduceToInt, ← Int32.toInt_inj, true_and, and_true, or_true, true_or, false_or, or_false, false_and, and_false, not_true_eq_false, not_false_eq_true] <;> omega)) v_224595 v_224546 (by first | omega | (simp only [Int32.lt_iff_toInt_lt, Int32.le_iff_toInt_le, Int32.reduceToInt, ← Int32.toInt_inj, true_and, and_true, or_true, true_or, false_or, or_false, false_and, and_false, not_true_eq_false, not_false_eq_true] <;> omega))
                                · simp only [Int32.lt_iff_toInt_lt, Int32.le_iff_toInt_le, Int32.reduceToInt, ← Int32.toInt_inj] at h_224664
                                  refine v_iload hC dX12_countAll_196 rfl ?_
                                  refine v_iload_n hC dX12_countAll_198 rfl ?_
                                  refine v_icmp_eq hC dX12_countAll_199 (tgt := 206) (by decide) (fun h_224682 => ?_) (fun h_224682 => ?_)
                                  · simp only [Int32.lt_iff_toInt_lt, Int32.le_iff_toInt_le, Int32.reduceToInt, ← Int32.toInt_inj] at h_224682
                                    refine v_iconst hC dX12_countAll_206 (v := 0) (by decide) ?_
                                    obtain ⟨v_224683, h_224684⟩ : ∃ v9 : Int32, v_224644 + 0 = v9 := ⟨_, rfl⟩
                                    refine v_iadd hC dX12_countAll_207 h_224684 ?_
                                    have rg_224686 := Int32.toInt_lt v_224644
                                    have rg_224687 := Int32.le_toInt v_224644
                                    have h_224685 := add_v h_224684 (by first | omega | (simp only [Int32.lt_iff_toInt_lt, Int32.le_iff_toInt_le, Int32.reduceToInt, ← Int32.toInt_inj, true_and, and_true, or_true, true_or, false_or, or_false, false_and, and_false, not_true_eq_false, not_false_eq_true] <;> omega)) (by first | omega | (simp only [Int32.lt_iff_toInt_lt, Int32.le_iff_toInt_le, Int32.reduceToInt, ← Int32.toInt_inj, true_and, and_true, or_true, true_or, false_or, or_false, false_and, and_false, not_true_eq_false, not_false_eq_true] <;> omega))
                                    try simp only [Int32.reduceToInt] at h_224685
                                    refine v_iast hC m_179884 e_224642 (vp_in_iff.mpr (by decide)) dX12_countAll_208 (fun f_224688 hf_224689 hk_224690 => ?_)
                                    have hW_224692 := hW_224629.up hf_224689 hk_224690 t_179885 ⟨_, rfl⟩
                                    obtain ⟨g_224691, hf_224689⟩ : ∃ g9, f_224688 (q 22) = aI E 8 g9 := ⟨_, hf_224689⟩
                                    have hf_224693 := (hk_224690 (q 1) (ne_kd hf_224631 e_224642 rfl)).trans hf_224631
                                    have hf_224694 := (hk_224690 a_0 (ne_kd hf_224632 e_224642 rfl)).trans hf_224632
                                    have hf_224695 := (hk_224690 (q 15) (ne_kd hf_224633 e_224642 rfl)).trans hf_224633
                                    have fr_224696 := FR.w hk_224690 e_224642 (k := 108) rfl
                                    refine v_iload hC dX12_countAll_209 rfl ?_
                                    refine v_istore_n hC dX12_countAll_211 (by decide) (lv' := [(1, .int v_224546), (3, .int v_224595), (6, .int v_224546), (5, .int v_224539), (4, .int i_224270), (2, .int i_219120), (0, .ref a_0)]) rfl ?_
                                    obtain ⟨v_224697, h_224698⟩ : ∃ v9 : Int32, i_224270 + Int32.ofInt 1 = v9 := ⟨_, rfl⟩
                                    have h_224699 := add_v (b := 1) h_224698 (by first | omega | (simp only [Int32.lt_iff_toInt_lt, Int32.le_iff_toInt_le, Int32.reduceToInt, ← Int32.toInt_inj, true_and, and_true, or_true, true_or, false_or, or_false, false_and, and_false, not_true_eq_false, not_false_eq_true] <;> omega)) (by first | omega | (simp only [Int32.lt_iff_toInt_lt, Int32.le_iff_toInt_le, Int32.reduceToInt, ← Int32.toInt_inj, true_and, and_true, or_true, true_or, false_or, or_false, false_and, and_false, not_true_eq_false, not_false_eq_true] <;> omega))
                                    simp only [Int32.reduceToInt] at h_224699
                                    refine v_iinc hC dX12_countAll_212 (k := 4) rfl (v := v_224697) h_224698 (by decide) (lv' := [(4, .int v_224697), (1, .int v_224546), (3, .int v_224595), (6, .int v_224546), (5, .int v_224539), (2, .int i_219120), (0, .ref a_0)]) rfl ?_
                                    refine v_goto hC dX12_countAll_215 (tgt := 47) (by decide) ?_
                                    refine v_pick [0, 2, 5, 1, 6] rfl ?_
                                    exact ih_224281 f_224688 hW_224692 (((((hF_224275.tr fr_224567).tr fr_224589).tr hF_224630).tr fr_224696).mono rfl) v_224697 (by first | omega | (simp only [Int32.lt_iff_toInt_lt, Int32.le_iff_toInt_le, Int32.reduceToInt, ← Int32.toInt_inj, true_and, and_true, or_true, true_or, false_or, or_false, false_and, and_false, not_true_eq_false, not_false_eq_true] <;> omega)) v_224595 v_224546 (by first | omega | (simp only [Int32.lt_iff_toInt_lt, Int32.le_iff_toInt_le, Int32.reduceToInt, ← Int32.toInt_inj, true_and, and_true, or_true, true_or, false_or, or_false, false_and, and_false, not_true_eq_false, not_false_eq_true] <;> omega))
                                  · simp only [Int32.lt_iff_toInt_lt, Int32.le_iff_toInt_le, Int32.reduceToInt, ← Int32.toInt_inj] at h_224682
                                    refine v_iconst hC dX12_countAll_202 (v := 1) (by decide) ?_
                                    refine v_goto hC dX12_countAll_203 (tgt := 207) (by decide) ?_
                                    obtain ⟨v_224700, h_224701⟩ : ∃ v9 : Int32, v_224644 + 1 = v9 := ⟨_, rfl⟩
                                    refine v_iadd hC dX12_countAll_207 h_224701 ?_
                                    refine v_iast hC m_179884 e_224642 (vp_in_iff.mpr (by decide)) dX12_countAll_208 (fun f_224703 hf_224704 hk_224705 => ?_)
                                    have hW_224707 := hW_224629.up hf_224704 hk_224705 t_179885 ⟨_, rfl⟩
                                    obtain ⟨g_224706, hf_224704⟩ : ∃ g9, f_224703 (q 22) = aI E 8 g9 := ⟨_, hf_224704⟩
                                    have hf_224708 := (hk_224705 (q 1) (ne_kd hf_224631 e_224642 rfl)).trans hf_224631
                                    have hf_224709 := (hk_224705 a_0 (ne_kd hf_224632 e_224642 rfl)).trans hf_224632
                                    have hf_224710 := (hk_224705 (q 15) (ne_kd hf_224633 e_224642 rfl)).trans hf_224633
                                    have fr_224711 := FR.w hk_224705 e_224642 (k := 108) rfl
                                    refine v_iload hC dX12_countAll_209 rfl ?_
                                    refine v_istore_n hC dX12_countAll_211 (by decide) (lv' := [(1, .int v_224546), (3, .int v_224595), (6, .int v_224546), (5, .int v_224539), (4, .int i_224270), (2, .int i_219120), (0, .ref a_0)]) rfl ?_
                                    obtain ⟨v_224712, h_224713⟩ : ∃ v9 : Int32, i_224270 + Int32.ofInt 1 = v9 := ⟨_, rfl⟩
                                    have h_224714 := add_v (b := 1) h_224713 (by first | omega | (simp only [Int32.lt_iff_toInt_lt, Int32.le_iff_toInt_le, Int32.reduceToInt, ← Int32.toInt_inj, true_and, and_true, or_true, true_or, false_or, or_false, false_and, and_false, not_true_eq_false, not_false_eq_true] <;> omega)) (by first | omega | (simp only [Int32.lt_iff_toInt_lt, Int32.le_iff_toInt_le, Int32.reduceToInt, ← Int32.toInt_inj, true_and, and_true, or_true, true_or, false_or, or_false, false_and, and_false, not_true_eq_false, not_false_eq_true] <;> omega))
                                    simp only [Int32.reduceToInt] at h_224714
                                    refine v_iinc hC dX12_countAll_212 (k := 4) rfl (v := v_224712) h_224713 (by decide) (lv' := [(4, .int v_224712), (1, .int v_224546), (3, .int v_224595), (6, .int v_224546), (5, .int v_224539), (2, .int i_219120), (0, .ref a_0)]) rfl ?_
                                    refine v_goto hC dX12_countAll_215 (tgt := 47) (by decide) ?_
                                    refine v_pick [0, 2, 5, 1, 6] rfl ?_
                                    exact ih_224281 f_224703 hW_224707 (((((hF_224275.tr fr_224567).tr fr_224589).tr hF_224630).tr fr_224711).mono rfl) v_224712 (by first | omega | (simp only [Int32.lt_iff_toInt_lt, Int32.le_iff_toInt_le, Int32.reduceToInt, ← Int32.toInt_inj, true_and, and_true, or_true, true_or, false_or, or_false, false_and, and_false, not_true_eq_false, not_false_eq_true] <;> omega)) v_224595 v_224546 (by first | omega | (simp only [Int32.lt_iff_toInt_lt, Int32.le_iff_toInt_le, Int32.reduceToInt, ← Int32.toInt_inj, true_and, and_true, or_true, true_or, false_or, or_false, false_and, and_false, not_true_eq_false, not_false_eq_true] <;> omega))
                            · simp only [Int32.lt_iff_toInt_lt, Int32.le_iff_toInt_le, Int32.reduceToInt, ← Int32.toInt_inj] at h_224641
                              refine v_goto hC dX12_countAll_175 (tgt := 212) (by decide) ?_
                              obtain ⟨v_224715, h_224716⟩ : ∃ v9 : Int32, i_224270 + Int32.ofInt 1 = v9 := ⟨_, rfl⟩
                              have h_224717 := add_v (b := 1) h_224716 (by first | omega | (simp only [Int32.lt_iff_toInt_lt, Int32.le_iff_toInt_le, Int32.reduceToInt, ← Int32.toInt_inj, true_and, and_true, or_true, true_or, false_or, or_false, false_and, and_false, not_true_eq_false, not_false_eq_true] <;> omega)) (by first | omega | (simp only [Int32.lt_iff_toInt_lt, Int32.le_iff_toInt_le, Int32.reduceToInt, ← Int32.toInt_inj, true_and, and_true, or_true, true_or, false_or, or_false, false_and, and_false, not_true_eq_false, not_false_eq_true] <;> omega))
                              simp only [Int32.reduceToInt] at h_224717
                              refine v_iinc hC dX12_countAll_212 (k := 3) rfl (v := v_224715) h_224716 (by decide) (lv' := [(4, .int v_224715), (3, .int v_224595), (6, .int v_224546), (5, .int v_224539), (2, .int i_219120), (1, .int i_224272), (0, .ref a_0)]) rfl ?_
                              refine v_goto hC dX12_countAll_215 (tgt := 47) (by decide) ?_
                              refine v_pick [0, 1, 4, 5, 6] rfl ?_
                              exact ih_224281 f_224628 hW_224629 ((((hF_224275.tr fr_224567).tr fr_224589).tr hF_224630).mono rfl) v_224715 (by first | omega | (simp only [Int32.lt_iff_toInt_lt, Int32.le_iff_toInt_le, Int32.reduceToInt, ← Int32.toInt_inj, true_and, and_true, or_true, true_or, false_or, or_false, false_and, and_false, not_true_eq_false, not_false_eq_true] <;> omega)) v_224595 i_224272 (by first | omega | (simp only [Int32.lt_iff_toInt_lt, Int32.le_iff_toInt_le, Int32.reduceToInt, ← Int32.toInt_inj, true_and, and_true, or_true, true_or, false_or, or_false, false_and, and_false, not_true_eq_false, not_false_eq_true] <;> omega))
                          refine v_if_eq hC dX12_countAll_149 (tgt := 165) (by decide) (fun h_224609 => ?_) (fun h_224609 => ?_)
                          · simp only [Int32.lt_iff_toInt_lt, Int32.le_iff_toInt_le, Int32.reduceToInt, ← Int32.toInt_inj] at h_224609
                            refine v_pick [0, 1, 2, 3, 4, 5, 6] rfl ?_
                            exact jn_224627 f_224581 hW_224585 FR.rf
                          · simp only [Int32.lt_iff_toInt_lt, Int32.le_iff_toInt_le, Int32.reduceToInt, ← Int32.toInt_inj] at h_224609
                            refine v_aload_n hC dX12_countAll_152 rfl ?_
                            refine v_get hC fl_X12_55 m_1 hf_224587 rfl dX12_countAll_153 ?_
                            refine v_iload hC dX12_countAll_156 rfl ?_
                            refine v_iconst hC dX12_countAll_158 (v := 1) (by decide) ?_
                            obtain ⟨v_224718, h_224719⟩ : ∃ v9 : Int32, v_224546 - 1 = v9 := ⟨_, rfl⟩
                            refine v_isub hC dX12_countAll_159 h_224719 ?_
                            have h_224720 := sub_v h_224719 (by first | omega | (simp only [Int32.lt_iff_toInt_lt, Int32.le_iff_toInt_le, Int32.reduceToInt, ← Int32.toInt_inj, true_and, and_true, or_true, true_or, false_or, or_false, false_and, and_false, not_true_eq_false, not_false_eq_true] <;> omega)) (by first | omega | (simp only [Int32.lt_iff_toInt_lt, Int32.le_iff_toInt_le, Int32.reduceToInt, ← Int32.toInt_inj, true_and, and_true, or_true, true_or, false_or, or_false, false_and, and_false, not_true_eq_false, not_false_eq_true] <;> omega))
                            try simp only [Int32.reduceToInt] at h_224720
                            refine v_dup2 hC dX12_countAll_160 rfl rfl ?_
                            obtain ⟨v_224721, h_224722⟩ : ∃ v9 : Int32, g_224584 (v_224718 : Int32).toNatClampNeg = v9 := ⟨_, rfl⟩
                            refine v_iald hC m_179884 hf_224582 (vp_in_iff.mpr (by first | omega | (simp only [Int32.lt_iff_toInt_lt, Int32.le_iff_toInt_le, Int32.reduceToInt, ← Int32.toInt_inj, true_and, and_true, or_true, true_or, false_or, or_false, false_and, and_false, not_true_eq_false, not_false_eq_true] <;> omega))) h_224722 dX12_countAll_161 ?_
                            refine v_iconst hC dX12_countAll_162 (v := 1) (by decide) ?_
                            obtain ⟨v_224723, h_224724⟩ : ∃ v9 : Int32, v_224721 + 1 = v9 := ⟨_, rfl⟩
                            refine v_iadd hC dX12_countAll_163 h_224724 ?_
                            refine v_iast hC m_179884 hf_224582 (vp_in_iff.mpr (by first | omega | (simp only [Int32.lt_iff_toInt_lt, Int32.le_iff_toInt_le, Int32.reduceToInt, ← Int32.toInt_inj, true_and, and_true, or_true, true_or, false_or, or_false, false_and, and_false, not_true_eq_false, not_false_eq_true] <;> omega))) dX12_countAll_164 (fun f_224726 hf_224727 hk_224728 => ?_)
                            have hW_224730 := hW_224585.up hf_224727 hk_224728 t_179885 ⟨_, rfl⟩
                            obtain ⟨g_224729, hf_224727⟩ : ∃ g9, f_224726 (q 22) = aI E 8 g9 := ⟨_, hf_224727⟩
                            have hf_224731 := (hk_224728 (q 1) (ne_kd hf_224586 hf_224582 rfl)).trans hf_224586
                            have hf_224732 := (hk_224728 a_0 (ne_kd hf_224587 hf_224582 rfl)).trans hf_224587
                            have hf_224733 := (hk_224728 (q 15) (ne_kd hf_224588 hf_224582 rfl)).trans hf_224588
                            have fr_224734 := FR.w hk_224728 hf_224582 (k := 108) rfl
                            refine v_pick [0, 1, 2, 3, 4, 5, 6] rfl ?_
                            exact jn_224627 f_224726 hW_224730 (fr_224734.mono rfl)
                        refine v_if_eq hC dX12_countAll_123 (tgt := 136) (by decide) (fun h_224590 => ?_) (fun h_224590 => ?_)
                        · simp only [Int32.lt_iff_toInt_lt, Int32.le_iff_toInt_le, Int32.reduceToInt, ← Int32.toInt_inj] at h_224590
                          refine v_iconst hC dX12_countAll_136 (v := 0) (by decide) ?_
                          refine v_pick [0, 1, 2, 4, 5, 6] rfl ?_
                          exact jn_224592 0 (by decide)
                        · simp only [Int32.lt_iff_toInt_lt, Int32.le_iff_toInt_le, Int32.reduceToInt, ← Int32.toInt_inj] at h_224590
                          refine v_iload hC dX12_countAll_126 rfl ?_
                          refine v_iconst hC dX12_countAll_128 (v := 4) (by decide) ?_
                          refine v_icmp_eq hC dX12_countAll_129 (tgt := 136) (by decide) (fun h_224735 => ?_) (fun h_224735 => ?_)
                          · simp only [Int32.lt_iff_toInt_lt, Int32.le_iff_toInt_le, Int32.reduceToInt, ← Int32.toInt_inj] at h_224735
                            refine v_iconst hC dX12_countAll_136 (v := 0) (by decide) ?_
                            refine v_pick [0, 1, 2, 4, 5, 6] rfl ?_
                            exact jn_224592 0 (by decide)
                          · simp only [Int32.lt_iff_toInt_lt, Int32.le_iff_toInt_le, Int32.reduceToInt, ← Int32.toInt_inj] at h_224735
                            refine v_iconst hC dX12_countAll_132 (v := 1) (by decide) ?_
                            refine v_goto hC dX12_countAll_133 (tgt := 137) (by decide) ?_
                            refine v_pick [0, 1, 2, 4, 5, 6] rfl ?_
                            exact jn_224592 1 (by decide)
                      · simp only [Int32.lt_iff_toInt_lt, Int32.le_iff_toInt_le, Int32.reduceToInt, ← Int32.toInt_inj] at h_224575
                        refine v_goto hC dX12_countAll_106 (tgt := 212) (by decide) ?_
                        obtain ⟨v_224736, h_224737⟩ : ∃ v9 : Int32, i_224270 + Int32.ofInt 1 = v9 := ⟨_, rfl⟩
                        have h_224738 := add_v (b := 1) h_224737 (by first | omega | (simp only [Int32.lt_iff_toInt_lt, Int32.le_iff_toInt_le, Int32.reduceToInt, ← Int32.toInt_inj, true_and, and_true, or_true, true_or, false_or, or_false, false_and, and_false, not_true_eq_false, not_false_eq_true] <;> omega)) (by first | omega | (simp only [Int32.lt_iff_toInt_lt, Int32.le_iff_toInt_le, Int32.reduceToInt, ← Int32.toInt_inj, true_and, and_true, or_true, true_or, false_or, or_false, false_and, and_false, not_true_eq_false, not_false_eq_true] <;> omega))
                        simp only [Int32.reduceToInt] at h_224738
                        refine v_iinc hC dX12_countAll_212 (k := 2) rfl (v := v_224736) h_224737 (by decide) (lv' := [(4, .int v_224736), (6, .int v_224546), (5, .int v_224539), (3, .int i_224271), (2, .int i_219120), (1, .int i_224272), (0, .ref a_0)]) rfl ?_
                        refine v_goto hC dX12_countAll_215 (tgt := 47) (by decide) ?_
                        refine v_pick [0, 3, 4, 5, 6] rfl ?_
                        exact ih_224281 f_224559 hW_224563 ((hF_224275.tr fr_224567).mono rfl) v_224736 (by first | omega | (simp only [Int32.lt_iff_toInt_lt, Int32.le_iff_toInt_le, Int32.reduceToInt, ← Int32.toInt_inj, true_and, and_true, or_true, true_or, false_or, or_false, false_and, and_false, not_true_eq_false, not_false_eq_true] <;> omega)) i_224271 i_224272 (by first | omega | (simp only [Int32.lt_iff_toInt_lt, Int32.le_iff_toInt_le, Int32.reduceToInt, ← Int32.toInt_inj, true_and, and_true, or_true, true_or, false_or, or_false, false_and, and_false, not_true_eq_false, not_false_eq_true] <;> omega))
                    refine v_icmp_ne hC dX12_countAll_87 (tgt := 94) (by decide) (fun h_224552 => ?_) (fun h_224552 => ?_)
                    · simp only [Int32.lt_iff_toInt_lt, Int32.le_iff_toInt_le, Int32.reduceToInt, ← Int32.toInt_inj] at h_224552
                      refine v_iconst hC dX12_countAll_94 (v := 0) (by decide) ?_
                      refine v_pick [0, 1, 2, 3, 4, 5, 6] rfl ?_
                      exact jn_224553 0 (by decide)
                    · simp only [Int32.lt_iff_toInt_lt, Int32.le_iff_toInt_le, Int32.reduceToInt, ← Int32.toInt_inj] at h_224552
                      refine v_iconst hC dX12_countAll_90 (v := 1) (by decide) ?_
                      refine v_goto hC dX12_countAll_91 (tgt := 95) (by decide) ?_
                      refine v_pick [0, 1, 2, 3, 4, 5, 6] rfl ?_
                      exact jn_224553 1 (by decide)
              refine v_pick [0, 1, 2, 3, 4] rfl ?_
              exact lp_224279 18 f_219122 hW_219123 FR.rf 0 (by decide) 0 i_219121 (by decide)
        refine v_pick [0, 1, 2] rfl ?_
        exact lp_219128 18 f_179888 hW_179892 FR.rf 0 (by decide) 4 (by decide)
      · simp only [Int32.lt_iff_toInt_lt, Int32.le_iff_toInt_le, Int32.reduceToInt, ← Int32.toInt_inj] at h_179830
        refine v_aload_n hC dX12_countAll_8 rfl ?_
        obtain ⟨v_224740, v_224741, v_224743, v_224745, v_224747, v_224749, v_224751, v_224752, v_224753, v_224754, v_224756, e_224739, b_224742, b_224744, b_224746, b_224748, b_224750, b_224755, b_224757⟩ := hW_179822.at m_1 t_2
        refine v_get hC fl_X12_55 m_1 e_224739 rfl dX12_countAll_9 ?_
        refine v_iload_n hC dX12_countAll_12 rfl ?_
        refine v_iconst hC dX12_countAll_13 (v := 0) (by decide) ?_
        obtain ⟨m_224758, t_224759⟩ := id k_14
        obtain ⟨g_224761, e_224760⟩ := hW_179822.at m_224758 t_224759
        refine v_iast hC m_224758 e_224760 (vp_in_iff.mpr (by first | omega | (simp only [Int32.lt_iff_toInt_lt, Int32.le_iff_toInt_le, Int32.reduceToInt, ← Int32.toInt_inj, true_and, and_true, or_true, true_or, false_or, or_false, false_and, and_false, not_true_eq_false, not_false_eq_true] <;> omega))) dX12_countAll_14 (fun f_224762 hf_224763 hk_224764 => ?_)
        have hW_224766 := hW_179822.up hf_224763 hk_224764 t_224759 ⟨_, rfl⟩
        obtain ⟨g_224765, hf_224763⟩ : ∃ g9, f_224762 (q 22) = aI E 8 g9 := ⟨_, hf_224763⟩
        have hf_224767 := (hk_224764 (q 1) (ne_kd hf_179824 e_224760 rfl)).trans hf_179824
        have hf_224768 := (hk_224764 a_0 (ne_kd e_224739 e_224760 rfl)).trans e_224739
        have fr_224769 := FR.w hk_224764 e_224760 (k := 108) rfl
        obtain ⟨v_224770, h_224771⟩ : ∃ v9 : Int32, i_179820 + Int32.ofInt 1 = v9 := ⟨_, rfl⟩
        have h_224772 := add_v (b := 1) h_224771 (by first | omega | (simp only [Int32.lt_iff_toInt_lt, Int32.le_iff_toInt_le, Int32.reduceToInt, ← Int32.toInt_inj, true_and, and_true, or_true, true_or, false_or, or_false, false_and, and_false, not_true_eq_false, not_false_eq_true] <;> omega)) (by first | omega | (simp only [Int32.lt_iff_toInt_lt, Int32.le_iff_toInt_le, Int32.reduceToInt, ← Int32.toInt_inj, true_and, and_true, or_true, true_or, false_or, or_false, false_and, and_false, not_true_eq_false, not_false_eq_true] <;> omega))
        simp only [Int32.reduceToInt] at h_224772
        refine v_iinc hC dX12_countAll_15 (k := 0) rfl (v := v_224770) h_224771 (by decide) (lv' := [(1, .int v_224770), (0, .ref a_0)]) rfl ?_
        refine v_goto hC dX12_countAll_18 (tgt := 2) (by decide) ?_
        refine v_pick [0, 1] rfl ?_
        exact ih_179828 f_224762 hW_224766 ((hF_179823.tr fr_224769).mono rfl) v_224770 (by first | omega | (simp only [Int32.lt_iff_toInt_lt, Int32.le_iff_toInt_le, Int32.reduceToInt, ← Int32.toInt_inj, true_and, and_true, or_true, true_or, false_or, or_false, false_and, and_false, not_true_eq_false, not_false_eq_true] <;> omega)) (by first | omega | (simp only [Int32.lt_iff_toInt_lt, Int32.le_iff_toInt_le, Int32.reduceToInt, ← Int32.toInt_inj, true_and, and_true, or_true, true_or, false_or, or_false, false_and, and_false, not_true_eq_false, not_false_eq_true] <;> omega))
  refine v_pick [0, 1] rfl ?_
  exact lp_179826 10 f hW FR.rf 0 (by decide) (by decide)
set_option maxRecDepth 100000 in
set_option maxHeartbeats 8000000 in
theorem p_X12_counts {l : Launch} {E : Ez} {L : List Nat} {f : Nat → va_E} {T : Nat → va_E → Prop} {a_0 : Nat} {a_1 : Int32} {a_2 : Int32} {q : Nat → Nat} {g_w : Nat → Int32} (hW : WT T L f) (k_0 : isM T L E a_0 q) (e_w : f (q 1) = aI E 2076 g_w) (o_w : WOK g_w) : CI l yX12_counts cX12_counts 3 .int 4 0 0 E [.ref a_0, .int a_1, .int a_2] L f (fun r L1 f1 => L = L1 ∧ WT T L f1 ∧ FR [108, 356] f f1 ∧ (¬ r.toInt = 0 ∨ (0 ≤ a_1.toInt ∧ a_1.toInt ≤ 3)) ∧ (¬ r.toInt = 0 ∨ (0 ≤ a_2.toInt ∧ a_2.toInt ≤ 7))) := by
  refine ci_of (by decide) (Nat.le_of_ble_eq_true rfl) (fun z hz hnm hC hR => ?_)
  have hC : Cx z E cX12_counts RX12 3 4 0 0 := hC
  subst hz
  show V z E 3 0 0 L f 0 [(0, .ref a_0), (1, .int a_1), (2, .int a_2)] []
  obtain ⟨m_1, t_2, nq_21, k_3, k_4, k_5, k_6, k_7, k_8, k_9, k_10, k_11, k_12, k_13, k_14, k_15, k_16, k_17, k_18, k_19, k_20⟩ := id k_0
  obtain ⟨m_22, t_23⟩ := id k_3
  have b_24 := o_w.r0
  have b_25 := o_w.w0
  refine v_iload_n hC dX12_counts_0 rfl ?_
  refine v_si hC (rest := []) mt_X12_isCloth (p_X12_isCloth hW) mx_X12_isCloth ml_X12_319 (by decide) rfl (cells1 := 0) (slots1 := 0) (by decide) (by decide) (Nat.le_of_ble_eq_true rfl) (Nat.le_of_ble_eq_true rfl) rfl (Nat.le_of_ble_eq_true rfl) dX12_counts_1 (fun r_26 L_27 f_28 h_29 => ?_)
  obtain ⟨rfl, rfl, b_30, h_31⟩ := h_29
  refine v_if_eq hC dX12_counts_4 (tgt := 19) (by decide) (fun h_34 => ?_) (fun h_34 => ?_)
  · simp only [Int32.lt_iff_toInt_lt, Int32.le_iff_toInt_le, Int32.reduceToInt, ← Int32.toInt_inj] at h_34
    refine v_bipush hC dX12_counts_19 (v := (-2)) (by decide) ?_
    exact hR _ _ _ _ _ _ _ dX12_counts_21 rfl (Nat.le_of_ble_eq_true rfl) (Nat.le_of_ble_eq_true rfl) ⟨rfl, hW, FR.rf, (.inl (by decide)), (.inl (by decide))⟩
  · simp only [Int32.lt_iff_toInt_lt, Int32.le_iff_toInt_le, Int32.reduceToInt, ← Int32.toInt_inj] at h_34
    refine v_iload_n hC dX12_counts_7 rfl ?_
    obtain ⟨v_35, h_36⟩ : ∃ v9 : Int64, a_2.toInt64 = v9 := ⟨_, rfl⟩
    refine v_i2l hC dX12_counts_8 h_36 ?_
    have h_37 : v_35.toInt = a_2.toInt := by rw [← h_36]; exact Int32.toInt_toInt64 _
    refine v_lconst hC dX12_counts_9 (v := 0) (by decide) ?_
    refine v_ldc2 hC kl_X12_389 dX12_counts_10 ?_
    refine v_si hC (rest := []) mt_X12_in (p_X12_in hW) mx_X12_in ml_X12_79 (by decide) rfl (cells1 := 0) (slots1 := 0) (by decide) (by decide) (Nat.le_of_ble_eq_true rfl) (Nat.le_of_ble_eq_true rfl) rfl (Nat.le_of_ble_eq_true rfl) dX12_counts_13 (fun r_38 L_39 f_40 h_41 => ?_)
    obtain ⟨rfl, rfl, b_42, x_43⟩ := h_41
    try simp only [Int32.reduceToInt, Int64.reduceToInt] at x_43
    refine v_if_ne hC dX12_counts_16 (tgt := 22) (by decide) (fun h_46 => ?_) (fun h_46 => ?_)
    · simp only [Int32.lt_iff_toInt_lt, Int32.le_iff_toInt_le, Int32.reduceToInt, ← Int32.toInt_inj] at h_46
      refine v_aload_n hC dX12_counts_22 rfl ?_
      refine v_iload_n hC dX12_counts_23 rfl ?_
      obtain ⟨v_48, v_49, v_51, v_53, v_55, v_57, v_59, v_60, v_61, v_62, v_64, e_47, b_50, b_52, b_54, b_56, b_58, b_63, b_65⟩ := hW.at m_1 t_2
      refine v_vi hC (rest := []) m_1 e_47 rfl mi_X12_isThere ms_X12_isThere (p_X12_isThere hW k_0 (by first | omega | (simp only [Int32.lt_iff_toInt_lt, Int32.le_iff_toInt_le, Int32.reduceToInt, ← Int32.toInt_inj, true_and, and_true, or_true, true_or, false_or, or_false, false_and, and_false, not_true_eq_false, not_false_eq_true] <;> omega)) e_w o_w) mx_X12_isThere ml_X12_351 (by decide) rfl (cells1 := 0) (slots1 := 0) (by decide) (by decide) (Nat.le_of_ble_eq_true rfl) (Nat.le_of_ble_eq_true rfl) rfl (Nat.le_of_ble_eq_true rfl) dX12_counts_24 (fun r_66 L_67 f_68 h_69 => ?_)
      obtain ⟨rfl, rfl, b_70⟩ := h_69
      refine v_if_ne hC dX12_counts_27 (tgt := 33) (by decide) (fun h_73 => ?_) (fun h_73 => ?_)
      · simp only [Int32.lt_iff_toInt_lt, Int32.le_iff_toInt_le, Int32.reduceToInt, ← Int32.toInt_inj] at h_73
        refine v_aload_n hC dX12_counts_33 rfl ?_
        refine v_iload_n hC dX12_counts_34 rfl ?_
        refine v_vv hC (rest := []) m_1 e_47 rfl mi_X12_takes0 ms_X12_takes0 (p_X12_takes0 hW k_0 (by first | omega | (simp only [Int32.lt_iff_toInt_lt, Int32.le_iff_toInt_le, Int32.reduceToInt, ← Int32.toInt_inj, true_and, and_true, or_true, true_or, false_or, or_false, false_and, and_false, not_true_eq_false, not_false_eq_true] <;> omega)) e_w o_w) mx_X12_takes0 ml_X12_363 (by decide) rfl (cells1 := 0) (slots1 := 0) (by decide) (by decide) (Nat.le_of_ble_eq_true rfl) (Nat.le_of_ble_eq_true rfl) rfl (Nat.le_of_ble_eq_true rfl) dX12_counts_35 (fun L_75 f_76 h_77 => ?_)
        obtain ⟨rfl, hW_78, hF_79⟩ := h_77
        have hf_80 := hF_79.at e_w rfl
        have hf_81 := hF_79.at e_47 rfl
        refine v_aload_n hC dX12_counts_38 rfl ?_
        refine v_vv hC (rest := []) m_1 hf_81 rfl mi_X12_countAll ms_X12_countAll (p_X12_countAll hW_78 k_0 hf_80 o_w) mx_X12_countAll ml_X12_391 (by decide) rfl (cells1 := 0) (slots1 := 0) (by decide) (by decide) (Nat.le_of_ble_eq_true rfl) (Nat.le_of_ble_eq_true rfl) rfl (Nat.le_of_ble_eq_true rfl) dX12_counts_39 (fun L_83 f_84 h_85 => ?_)
        obtain ⟨rfl, hW_86, hF_87⟩ := h_85
        have hf_88 := hF_87.at hf_80 rfl
        have hf_89 := hF_87.at hf_81 rfl
        refine v_aload_n hC dX12_counts_42 rfl ?_
        refine v_get hC fl_X12_55 m_1 hf_89 rfl dX12_counts_43 ?_
        refine v_iload_n hC dX12_counts_46 rfl ?_
        obtain ⟨m_90, t_91⟩ := id k_14
        obtain ⟨g_93, e_92⟩ := hW_86.at m_90 t_91
        obtain ⟨v_94, h_95⟩ : ∃ v9 : Int32, g_93 (a_2 : Int32).toNatClampNeg = v9 := ⟨_, rfl⟩
        refine v_iald hC m_90 e_92 (vp_in_iff.mpr (by first | omega | (simp only [Int32.lt_iff_toInt_lt, Int32.le_iff_toInt_le, Int32.reduceToInt, ← Int32.toInt_inj, true_and, and_true, or_true, true_or, false_or, or_false, false_and, and_false, not_true_eq_false, not_false_eq_true] <;> omega))) h_95 dX12_counts_47 ?_
        exact hR _ _ _ _ _ _ _ dX12_counts_48 rfl (Nat.le_of_ble_eq_true rfl) (Nat.le_of_ble_eq_true rfl) ⟨rfl, hW_86, ((hF_79.tr hF_87).mono rfl), (.inr (by first | omega | (simp only [Int32.lt_iff_toInt_lt, Int32.le_iff_toInt_le, Int32.reduceToInt, ← Int32.toInt_inj, true_and, and_true, or_true, true_or, false_or, or_false, false_and, and_false, not_true_eq_false, not_false_eq_true] <;> omega))), (.inr (by first | omega | (simp only [Int32.lt_iff_toInt_lt, Int32.le_iff_toInt_le, Int32.reduceToInt, ← Int32.toInt_inj, true_and, and_true, or_true, true_or, false_or, or_false, false_and, and_false, not_true_eq_false, not_false_eq_true] <;> omega)))⟩
      · simp only [Int32.lt_iff_toInt_lt, Int32.le_iff_toInt_le, Int32.reduceToInt, ← Int32.toInt_inj] at h_73
        refine v_bipush hC dX12_counts_30 (v := (-6)) (by decide) ?_
        exact hR _ _ _ _ _ _ _ dX12_counts_32 rfl (Nat.le_of_ble_eq_true rfl) (Nat.le_of_ble_eq_true rfl) ⟨rfl, hW, FR.rf, (.inl (by decide)), (.inl (by decide))⟩
    · simp only [Int32.lt_iff_toInt_lt, Int32.le_iff_toInt_le, Int32.reduceToInt, ← Int32.toInt_inj] at h_46
      refine v_bipush hC dX12_counts_19 (v := (-2)) (by decide) ?_
      exact hR _ _ _ _ _ _ _ dX12_counts_21 rfl (Nat.le_of_ble_eq_true rfl) (Nat.le_of_ble_eq_true rfl) ⟨rfl, hW, FR.rf, (.inl (by decide)), (.inl (by decide))⟩
set_option maxRecDepth 100000 in
set_option maxHeartbeats 8000000 in
theorem p_X12_partOf {l : Launch} {E : Ez} {L : List Nat} {f : Nat → va_E} {T : Nat → va_E → Prop} {a_0 : Nat} {a_1 : Int32} {q : Nat → Nat} {g_w : Nat → Int32} (hW : WT T L f) (k_0 : isM T L E a_0 q) (g_1 : (0 ≤ a_1.toInt ∧ a_1.toInt ≤ 149)) (e_w : f (q 1) = aI E 2076 g_w) (o_w : WOK g_w) : CJ l yX12_partOf cX12_partOf 3 0 0 0 E [.ref a_0, .int a_1] L f (fun r L1 f1 => L = L1 ∧ f = f1) := by
  refine cj_of (by decide) (Nat.le_of_ble_eq_true rfl) (fun z hz hnm hC hR => ?_)
  have hC : Cx z E cX12_partOf RX12 3 0 0 0 := hC
  subst hz
  show V z E 3 0 0 L f 0 [(0, .ref a_0), (1, .int a_1)] []
  obtain ⟨m_1, t_2, nq_21, k_3, k_4, k_5, k_6, k_7, k_8, k_9, k_10, k_11, k_12, k_13, k_14, k_15, k_16, k_17, k_18, k_19, k_20⟩ := id k_0
  obtain ⟨m_22, t_23⟩ := id k_3
  have b_24 := o_w.r0
  have b_25 := o_w.w0
  refine v_aload_n hC dX12_partOf_0 rfl ?_
  obtain ⟨v_27, v_28, v_30, v_32, v_34, v_36, v_38, v_39, v_40, v_41, v_43, e_26, b_29, b_31, b_33, b_35, b_37, b_42, b_44⟩ := hW.at m_1 t_2
  refine v_get hC fl_X12_13 m_1 e_26 rfl dX12_partOf_1 ?_
  refine v_sipush hC dX12_partOf_4 (v := 562) (by decide) ?_
  refine v_iconst hC dX12_partOf_7 (v := 3) (by decide) ?_
  refine v_iload_n hC dX12_partOf_8 rfl ?_
  obtain ⟨v_45, h_46⟩ : ∃ v9 : Int32, (3 : Int32) * a_1 = v9 := ⟨_, rfl⟩
  refine v_imul hC dX12_partOf_9 h_46 ?_
  have h_47 := mul_v 3 149 447 h_46 (by decide) (by first | omega | (simp only [Int32.lt_iff_toInt_lt, Int32.le_iff_toInt_le, Int32.reduceToInt, ← Int32.toInt_inj, true_and, and_true, or_true, true_or, false_or, or_false, false_and, and_false, not_true_eq_false, not_false_eq_true] <;> omega)) (by decide) (by decide)
  try simp only [Int32.reduceToInt] at h_47
  obtain ⟨v_48, h_49⟩ : ∃ v9 : Int32, (562 : Int32) + v_45 = v9 := ⟨_, rfl⟩
  refine v_iadd hC dX12_partOf_10 h_49 ?_
  have h_50 := add_v h_49 (by first | omega | (simp only [Int32.lt_iff_toInt_lt, Int32.le_iff_toInt_le, Int32.reduceToInt, ← Int32.toInt_inj, true_and, and_true, or_true, true_or, false_or, or_false, false_and, and_false, not_true_eq_false, not_false_eq_true] <;> omega)) (by first | omega | (simp only [Int32.lt_iff_toInt_lt, Int32.le_iff_toInt_le, Int32.reduceToInt, ← Int32.toInt_inj, true_and, and_true, or_true, true_or, false_or, or_false, false_and, and_false, not_true_eq_false, not_false_eq_true] <;> omega))
  try simp only [Int32.reduceToInt] at h_50
  refine v_iconst hC dX12_partOf_11 (v := 1) (by decide) ?_
  obtain ⟨v_51, h_52⟩ : ∃ v9 : Int32, v_48 + 1 = v9 := ⟨_, rfl⟩
  refine v_iadd hC dX12_partOf_12 h_52 ?_
  have h_53 := add_v h_52 (by first | omega | (simp only [Int32.lt_iff_toInt_lt, Int32.le_iff_toInt_le, Int32.reduceToInt, ← Int32.toInt_inj, true_and, and_true, or_true, true_or, false_or, or_false, false_and, and_false, not_true_eq_false, not_false_eq_true] <;> omega)) (by first | omega | (simp only [Int32.lt_iff_toInt_lt, Int32.le_iff_toInt_le, Int32.reduceToInt, ← Int32.toInt_inj, true_and, and_true, or_true, true_or, false_or, or_false, false_and, and_false, not_true_eq_false, not_false_eq_true] <;> omega))
  try simp only [Int32.reduceToInt] at h_53
  obtain ⟨v_54, h_55⟩ : ∃ v9 : Int32, g_w (v_51 : Int32).toNatClampNeg = v9 := ⟨_, rfl⟩
  refine v_iald hC m_22 e_w (vp_in_iff.mpr (by first | omega | (simp only [Int32.lt_iff_toInt_lt, Int32.le_iff_toInt_le, Int32.reduceToInt, ← Int32.toInt_inj, true_and, and_true, or_true, true_or, false_or, or_false, false_and, and_false, not_true_eq_false, not_false_eq_true] <;> omega))) h_55 dX12_partOf_13 ?_
  have b_56 := knd_at o_w (i := v_51) (k := a_1) (by omega) (by omega) (by omega)
  rw [h_55] at b_56
  refine v_istore_n hC dX12_partOf_14 (by decide) (lv' := [(2, .int v_54), (0, .ref a_0), (1, .int a_1)]) rfl ?_
  refine v_iload_n hC dX12_partOf_15 rfl ?_
  refine v_bipush hC dX12_partOf_16 (v := 8) (by decide) ?_
  refine v_icmp_ne hC dX12_partOf_18 (tgt := 39) (by decide) (fun h_57 => ?_) (fun h_57 => ?_)
  · simp only [Int32.lt_iff_toInt_lt, Int32.le_iff_toInt_le, Int32.reduceToInt, ← Int32.toInt_inj] at h_57
    refine v_aload_n hC dX12_partOf_39 rfl ?_
    refine v_get hC fl_X12_55 m_1 e_26 rfl dX12_partOf_40 ?_
    refine v_iload_n hC dX12_partOf_43 rfl ?_
    obtain ⟨m_58, t_59⟩ := id k_14
    obtain ⟨g_61, e_60⟩ := hW.at m_58 t_59
    obtain ⟨v_62, h_63⟩ : ∃ v9 : Int32, g_61 (v_54 : Int32).toNatClampNeg = v9 := ⟨_, rfl⟩
    refine v_iald hC m_58 e_60 (vp_in_iff.mpr (by first | omega | (simp only [Int32.lt_iff_toInt_lt, Int32.le_iff_toInt_le, Int32.reduceToInt, ← Int32.toInt_inj, true_and, and_true, or_true, true_or, false_or, or_false, false_and, and_false, not_true_eq_false, not_false_eq_true] <;> omega))) h_63 dX12_partOf_44 ?_
    obtain ⟨v_64, h_65⟩ : ∃ v9 : Int64, v_62.toInt64 = v9 := ⟨_, rfl⟩
    refine v_i2l hC dX12_partOf_45 h_65 ?_
    have h_66 : v_64.toInt = v_62.toInt := by rw [← h_65]; exact Int32.toInt_toInt64 _
    exact hR _ _ _ _ _ _ _ dX12_partOf_46 (Nat.le_of_ble_eq_true rfl) (Nat.le_of_ble_eq_true rfl) ⟨rfl, rfl⟩
  · simp only [Int32.lt_iff_toInt_lt, Int32.le_iff_toInt_le, Int32.reduceToInt, ← Int32.toInt_inj] at h_57
    refine v_aload_n hC dX12_partOf_21 rfl ?_
    refine v_get hC fl_X12_13 m_1 e_26 rfl dX12_partOf_22 ?_
    refine v_sipush hC dX12_partOf_25 (v := 562) (by decide) ?_
    refine v_iconst hC dX12_partOf_28 (v := 3) (by decide) ?_
    refine v_iload_n hC dX12_partOf_29 rfl ?_
    obtain ⟨v_67, h_68⟩ : ∃ v9 : Int32, (3 : Int32) * a_1 = v9 := ⟨_, rfl⟩
    refine v_imul hC dX12_partOf_30 h_68 ?_
    have h_69 := mul_v 3 149 447 h_68 (by decide) (by first | omega | (simp only [Int32.lt_iff_toInt_lt, Int32.le_iff_toInt_le, Int32.reduceToInt, ← Int32.toInt_inj, true_and, and_true, or_true, true_or, false_or, or_false, false_and, and_false, not_true_eq_false, not_false_eq_true] <;> omega)) (by decide) (by decide)
    try simp only [Int32.reduceToInt] at h_69
    obtain ⟨v_70, h_71⟩ : ∃ v9 : Int32, (562 : Int32) + v_67 = v9 := ⟨_, rfl⟩
    refine v_iadd hC dX12_partOf_31 h_71 ?_
    have h_72 := add_v h_71 (by first | omega | (simp only [Int32.lt_iff_toInt_lt, Int32.le_iff_toInt_le, Int32.reduceToInt, ← Int32.toInt_inj, true_and, and_true, or_true, true_or, false_or, or_false, false_and, and_false, not_true_eq_false, not_false_eq_true] <;> omega)) (by first | omega | (simp only [Int32.lt_iff_toInt_lt, Int32.le_iff_toInt_le, Int32.reduceToInt, ← Int32.toInt_inj, true_and, and_true, or_true, true_or, false_or, or_false, false_and, and_false, not_true_eq_false, not_false_eq_true] <;> omega))
    try simp only [Int32.reduceToInt] at h_72
    refine v_iconst hC dX12_partOf_32 (v := 2) (by decide) ?_
    obtain ⟨v_73, h_74⟩ : ∃ v9 : Int32, v_70 + 2 = v9 := ⟨_, rfl⟩
    refine v_iadd hC dX12_partOf_33 h_74 ?_
    have h_75 := add_v h_74 (by first | omega | (simp only [Int32.lt_iff_toInt_lt, Int32.le_iff_toInt_le, Int32.reduceToInt, ← Int32.toInt_inj, true_and, and_true, or_true, true_or, false_or, or_false, false_and, and_false, not_true_eq_false, not_false_eq_true] <;> omega)) (by first | omega | (simp only [Int32.lt_iff_toInt_lt, Int32.le_iff_toInt_le, Int32.reduceToInt, ← Int32.toInt_inj, true_and, and_true, or_true, true_or, false_or, or_false, false_and, and_false, not_true_eq_false, not_false_eq_true] <;> omega))
    try simp only [Int32.reduceToInt] at h_75
    obtain ⟨v_76, h_77⟩ : ∃ v9 : Int32, g_w (v_73 : Int32).toNatClampNeg = v9 := ⟨_, rfl⟩
    refine v_iald hC m_22 e_w (vp_in_iff.mpr (by first | omega | (simp only [Int32.lt_iff_toInt_lt, Int32.le_iff_toInt_le, Int32.reduceToInt, ← Int32.toInt_inj, true_and, and_true, or_true, true_or, false_or, or_false, false_and, and_false, not_true_eq_false, not_false_eq_true] <;> omega))) h_77 dX12_partOf_34 ?_
    obtain ⟨v_78, h_79⟩ : ∃ v9 : Int64, v_76.toInt64 = v9 := ⟨_, rfl⟩
    refine v_i2l hC dX12_partOf_35 h_79 ?_
    have h_80 : v_78.toInt = v_76.toInt := by rw [← h_79]; exact Int32.toInt_toInt64 _
    refine v_goto hC dX12_partOf_36 (tgt := 46) (by decide) ?_
    exact hR _ _ _ _ _ _ _ dX12_partOf_46 (Nat.le_of_ble_eq_true rfl) (Nat.le_of_ble_eq_true rfl) ⟨rfl, rfl⟩
