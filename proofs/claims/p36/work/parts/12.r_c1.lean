set_option maxRecDepth 100000 in
set_option maxHeartbeats 4000000 in
theorem p_X12_asksTwo {l : Launch} {E : Ez} {L : List Nat} {f : Nat → va_E} {T : Nat → va_E → Prop} {a_0 : Nat} {a_1 : Int32} {a_2 : Int32} {q : Nat → Nat} {g_w : Nat → Int32} (hW : WT T L f) (k_0 : isM T L E a_0 q) (e_w : f (q 1) = aI E 2076 g_w) (o_w : WOK g_w) : CI l yX12_asksTwo cX12_asksTwo 3 .int 2 0 0 E [.ref a_0, .int a_1, .int a_2] L f (fun r L1 f1 => L = L1 ∧ f = f1 ∧ ((-6) ≤ r.toInt ∧ r.toInt ≤ 0) ∧ (¬ r.toInt = 0 ∨ (0 ≤ a_1.toInt ∧ a_1.toInt ≤ 3)) ∧ (¬ r.toInt = 0 ∨ (0 ≤ a_2.toInt ∧ a_2.toInt ≤ 3))) := by
  refine ci_of (by decide) (Nat.le_of_ble_eq_true rfl) (fun z hz hnm hC hR => ?_)
  have hC : Cx z E cX12_asksTwo RX12 3 2 0 0 := hC
  subst hz
  show V z E 3 0 0 L f 0 [(0, .ref a_0), (1, .int a_1), (2, .int a_2)] []
  obtain ⟨m_1, t_2, k_3, k_4, k_5, k_6, k_7, k_8, k_9, k_10, k_11, k_12, k_13, k_14, k_15, k_16, k_17, k_18, k_19, k_20⟩ := id k_0
  obtain ⟨m_21, t_22⟩ := id k_3
  have b_23 := o_w.r0
  have b_24 := o_w.w0
  refine v_iload_n hC dX12_asksTwo_0 rfl ?_
  refine v_si hC (rest := []) mt_X12_isCloth (p_X12_isCloth hW) mx_X12_isCloth ml_X12_319 (by decide) rfl (cells1 := 0) (slots1 := 0) (by decide) (by decide) (Nat.le_of_ble_eq_true rfl) (Nat.le_of_ble_eq_true rfl) rfl (Nat.le_of_ble_eq_true rfl) dX12_asksTwo_1 (fun r_25 L_26 f_27 h_28 => ?_)
  obtain ⟨rfl, rfl, b_29, h_30⟩ := h_28
  refine v_if_eq hC dX12_asksTwo_4 (tgt := 14) (by decide) (fun h_33 => ?_) (fun h_33 => ?_)
  · simp only [Int32.lt_iff_toInt_lt, Int32.le_iff_toInt_le, Int32.reduceToInt, ← Int32.toInt_inj] at h_33
    refine v_bipush hC dX12_asksTwo_14 (v := (-2)) (by decide) ?_
    refine v_goto hC dX12_asksTwo_16 (tgt := 41) (by decide) ?_
    exact hR _ _ _ _ _ _ _ dX12_asksTwo_41 rfl (Nat.le_of_ble_eq_true rfl) (Nat.le_of_ble_eq_true rfl) ⟨rfl, rfl, (by decide), (.inl (by decide)), (.inl (by decide))⟩
  · simp only [Int32.lt_iff_toInt_lt, Int32.le_iff_toInt_le, Int32.reduceToInt, ← Int32.toInt_inj] at h_33
    refine v_iload_n hC dX12_asksTwo_7 rfl ?_
    refine v_si hC (rest := []) mt_X12_isCloth (p_X12_isCloth hW) mx_X12_isCloth ml_X12_319 (by decide) rfl (cells1 := 0) (slots1 := 0) (by decide) (by decide) (Nat.le_of_ble_eq_true rfl) (Nat.le_of_ble_eq_true rfl) rfl (Nat.le_of_ble_eq_true rfl) dX12_asksTwo_8 (fun r_34 L_35 f_36 h_37 => ?_)
    obtain ⟨rfl, rfl, b_38, h_39⟩ := h_37
    refine v_if_ne hC dX12_asksTwo_11 (tgt := 19) (by decide) (fun h_42 => ?_) (fun h_42 => ?_)
    · simp only [Int32.lt_iff_toInt_lt, Int32.le_iff_toInt_le, Int32.reduceToInt, ← Int32.toInt_inj] at h_42
      refine v_aload_n hC dX12_asksTwo_19 rfl ?_
      refine v_iload_n hC dX12_asksTwo_20 rfl ?_
      obtain ⟨v_44, v_45, v_47, v_49, v_51, v_53, v_55, v_56, v_57, v_58, v_60, e_43, b_46, b_48, b_50, b_52, b_54, b_59, b_61⟩ := hW.at m_1 t_2
      refine v_vi hC (rest := []) m_1 e_43 rfl mi_X12_isThere ms_X12_isThere (p_X12_isThere hW k_0 (by first | omega | (simp only [Int32.lt_iff_toInt_lt, Int32.le_iff_toInt_le, Int32.reduceToInt, ← Int32.toInt_inj, true_and, and_true, or_true, true_or, false_or, or_false, false_and, and_false, not_true_eq_false, not_false_eq_true] <;> omega)) e_w o_w) mx_X12_isThere ml_X12_351 (by decide) rfl (cells1 := 0) (slots1 := 0) (by decide) (by decide) (Nat.le_of_ble_eq_true rfl) (Nat.le_of_ble_eq_true rfl) rfl (Nat.le_of_ble_eq_true rfl) dX12_asksTwo_21 (fun r_62 L_63 f_64 h_65 => ?_)
      obtain ⟨rfl, rfl, b_66⟩ := h_65
      refine v_if_eq hC dX12_asksTwo_24 (tgt := 39) (by decide) (fun h_69 => ?_) (fun h_69 => ?_)
      · simp only [Int32.lt_iff_toInt_lt, Int32.le_iff_toInt_le, Int32.reduceToInt, ← Int32.toInt_inj] at h_69
        refine v_bipush hC dX12_asksTwo_39 (v := (-6)) (by decide) ?_
        exact hR _ _ _ _ _ _ _ dX12_asksTwo_41 rfl (Nat.le_of_ble_eq_true rfl) (Nat.le_of_ble_eq_true rfl) ⟨rfl, rfl, (by decide), (.inl (by decide)), (.inl (by decide))⟩
      · simp only [Int32.lt_iff_toInt_lt, Int32.le_iff_toInt_le, Int32.reduceToInt, ← Int32.toInt_inj] at h_69
        refine v_aload_n hC dX12_asksTwo_27 rfl ?_
        refine v_iload_n hC dX12_asksTwo_28 rfl ?_
        refine v_vi hC (rest := []) m_1 e_43 rfl mi_X12_isThere ms_X12_isThere (p_X12_isThere hW k_0 (by first | omega | (simp only [Int32.lt_iff_toInt_lt, Int32.le_iff_toInt_le, Int32.reduceToInt, ← Int32.toInt_inj, true_and, and_true, or_true, true_or, false_or, or_false, false_and, and_false, not_true_eq_false, not_false_eq_true] <;> omega)) e_w o_w) mx_X12_isThere ml_X12_351 (by decide) rfl (cells1 := 0) (slots1 := 0) (by decide) (by decide) (Nat.le_of_ble_eq_true rfl) (Nat.le_of_ble_eq_true rfl) rfl (Nat.le_of_ble_eq_true rfl) dX12_asksTwo_29 (fun r_70 L_71 f_72 h_73 => ?_)
        obtain ⟨rfl, rfl, b_74⟩ := h_73
        refine v_if_eq hC dX12_asksTwo_32 (tgt := 39) (by decide) (fun h_77 => ?_) (fun h_77 => ?_)
        · simp only [Int32.lt_iff_toInt_lt, Int32.le_iff_toInt_le, Int32.reduceToInt, ← Int32.toInt_inj] at h_77
          refine v_bipush hC dX12_asksTwo_39 (v := (-6)) (by decide) ?_
          exact hR _ _ _ _ _ _ _ dX12_asksTwo_41 rfl (Nat.le_of_ble_eq_true rfl) (Nat.le_of_ble_eq_true rfl) ⟨rfl, rfl, (by decide), (.inl (by decide)), (.inl (by decide))⟩
        · simp only [Int32.lt_iff_toInt_lt, Int32.le_iff_toInt_le, Int32.reduceToInt, ← Int32.toInt_inj] at h_77
          refine v_iconst hC dX12_asksTwo_35 (v := 0) (by decide) ?_
          refine v_goto hC dX12_asksTwo_36 (tgt := 41) (by decide) ?_
          exact hR _ _ _ _ _ _ _ dX12_asksTwo_41 rfl (Nat.le_of_ble_eq_true rfl) (Nat.le_of_ble_eq_true rfl) ⟨rfl, rfl, (by decide), (.inr (by first | omega | (simp only [Int32.lt_iff_toInt_lt, Int32.le_iff_toInt_le, Int32.reduceToInt, ← Int32.toInt_inj, true_and, and_true, or_true, true_or, false_or, or_false, false_and, and_false, not_true_eq_false, not_false_eq_true] <;> omega))), (.inr (by first | omega | (simp only [Int32.lt_iff_toInt_lt, Int32.le_iff_toInt_le, Int32.reduceToInt, ← Int32.toInt_inj, true_and, and_true, or_true, true_or, false_or, or_false, false_and, and_false, not_true_eq_false, not_false_eq_true] <;> omega)))⟩
    · simp only [Int32.lt_iff_toInt_lt, Int32.le_iff_toInt_le, Int32.reduceToInt, ← Int32.toInt_inj] at h_42
      refine v_bipush hC dX12_asksTwo_14 (v := (-2)) (by decide) ?_
      refine v_goto hC dX12_asksTwo_16 (tgt := 41) (by decide) ?_
      exact hR _ _ _ _ _ _ _ dX12_asksTwo_41 rfl (Nat.le_of_ble_eq_true rfl) (Nat.le_of_ble_eq_true rfl) ⟨rfl, rfl, (by decide), (.inl (by decide)), (.inl (by decide))⟩
set_option maxRecDepth 100000 in
set_option maxHeartbeats 4000000 in
theorem p_X12_isPlace {l : Launch} {E : Ez} {L : List Nat} {f : Nat → va_E} {T : Nat → va_E → Prop} {a_0 : Nat} {a_1 : Int32} {a_2 : Int32} {q : Nat → Nat} {g_w : Nat → Int32} (hW : WT T L f) (k_0 : isM T L E a_0 q) (e_w : f (q 1) = aI E 2076 g_w) (o_w : WOK g_w) : CI l yX12_isPlace cX12_isPlace 3 .boolean 1 0 0 E [.ref a_0, .int a_1, .int a_2] L f (fun r L1 f1 => L = L1 ∧ f = f1 ∧ (0 ≤ r.toInt ∧ r.toInt ≤ 1) ∧ (r.toInt = 0 ∨ (0 ≤ a_1.toInt ∧ a_1.toInt ≤ 15)) ∧ (r.toInt = 0 ∨ (0 ≤ a_2.toInt ∧ a_2.toInt ≤ 15)) ∧ (r.toInt = 0 ∨ (0 ≤ a_1.toInt ∧ a_1.toInt < (g_w 0).toInt ∧ 0 ≤ a_2.toInt ∧ a_2.toInt < (g_w 1).toInt))) := by
  refine ci_of (by decide) (Nat.le_of_ble_eq_true rfl) (fun z hz hnm hC hR => ?_)
  have hC : Cx z E cX12_isPlace RX12 3 1 0 0 := hC
  subst hz
  show V z E 3 0 0 L f 0 [(0, .ref a_0), (1, .int a_1), (2, .int a_2)] []
  obtain ⟨m_1, t_2, k_3, k_4, k_5, k_6, k_7, k_8, k_9, k_10, k_11, k_12, k_13, k_14, k_15, k_16, k_17, k_18, k_19, k_20⟩ := id k_0
  obtain ⟨m_21, t_22⟩ := id k_3
  have b_23 := o_w.r0
  have b_24 := o_w.w0
  refine v_iload_n hC dX12_isPlace_0 rfl ?_
  obtain ⟨v_25, h_26⟩ : ∃ v9 : Int64, a_1.toInt64 = v9 := ⟨_, rfl⟩
  refine v_i2l hC dX12_isPlace_1 h_26 ?_
  have h_27 : v_25.toInt = a_1.toInt := by rw [← h_26]; exact Int32.toInt_toInt64 _
  refine v_lconst hC dX12_isPlace_2 (v := 0) (by decide) ?_
  refine v_aload_n hC dX12_isPlace_3 rfl ?_
  obtain ⟨v_29, v_30, v_32, v_34, v_36, v_38, v_40, v_41, v_42, v_43, v_45, e_28, b_31, b_33, b_35, b_37, b_39, b_44, b_46⟩ := hW.at m_1 t_2
  refine v_vi hC (rest := [.long 0, .long v_25]) m_1 e_28 rfl mi_X12_rows ms_X12_rows (p_X12_rows hW k_0 e_w o_w) mx_X12_rows ml_X12_83 (by decide) rfl (cells1 := 0) (slots1 := 0) (by decide) (by decide) (Nat.le_of_ble_eq_true rfl) (Nat.le_of_ble_eq_true rfl) rfl (Nat.le_of_ble_eq_true rfl) dX12_isPlace_4 (fun r_47 L_48 f_49 h_50 => ?_)
  obtain ⟨rfl, rfl, rfl⟩ := h_50
  refine v_iconst hC dX12_isPlace_7 (v := 1) (by decide) ?_
  obtain ⟨v_53, h_54⟩ : ∃ v9 : Int32, (g_w 0) - 1 = v9 := ⟨_, rfl⟩
  refine v_isub hC dX12_isPlace_8 h_54 ?_
  have h_55 := sub_v h_54 (by first | omega | (simp only [Int32.lt_iff_toInt_lt, Int32.le_iff_toInt_le, Int32.reduceToInt, ← Int32.toInt_inj, true_and, and_true, or_true, true_or, false_or, or_false, false_and, and_false, not_true_eq_false, not_false_eq_true] <;> omega)) (by first | omega | (simp only [Int32.lt_iff_toInt_lt, Int32.le_iff_toInt_le, Int32.reduceToInt, ← Int32.toInt_inj, true_and, and_true, or_true, true_or, false_or, or_false, false_and, and_false, not_true_eq_false, not_false_eq_true] <;> omega))
  try simp only [Int32.reduceToInt] at h_55
  obtain ⟨v_56, h_57⟩ : ∃ v9 : Int64, v_53.toInt64 = v9 := ⟨_, rfl⟩
  refine v_i2l hC dX12_isPlace_9 h_57 ?_
  have h_58 : v_56.toInt = v_53.toInt := by rw [← h_57]; exact Int32.toInt_toInt64 _
  refine v_si hC (rest := []) mt_X12_in (p_X12_in hW) mx_X12_in ml_X12_79 (by decide) rfl (cells1 := 0) (slots1 := 0) (by decide) (by decide) (Nat.le_of_ble_eq_true rfl) (Nat.le_of_ble_eq_true rfl) rfl (Nat.le_of_ble_eq_true rfl) dX12_isPlace_10 (fun r_59 L_60 f_61 h_62 => ?_)
  obtain ⟨rfl, rfl, b_63, x_64⟩ := h_62
  try simp only [Int32.reduceToInt, Int64.reduceToInt] at x_64
  refine v_if_eq hC dX12_isPlace_13 (tgt := 36) (by decide) (fun h_67 => ?_) (fun h_67 => ?_)
  · simp only [Int32.lt_iff_toInt_lt, Int32.le_iff_toInt_le, Int32.reduceToInt, ← Int32.toInt_inj] at h_67
    refine v_iconst hC dX12_isPlace_36 (v := 0) (by decide) ?_
    exact hR _ _ _ _ _ _ _ dX12_isPlace_37 rfl (Nat.le_of_ble_eq_true rfl) (Nat.le_of_ble_eq_true rfl) ⟨rfl, rfl, (by decide), (.inl (by decide)), (.inl (by decide)), (by first | omega | (simp only [Int32.lt_iff_toInt_lt, Int32.le_iff_toInt_le, Int32.reduceToInt, ← Int32.toInt_inj, true_and, and_true, or_true, true_or, false_or, or_false, false_and, and_false, not_true_eq_false, not_false_eq_true] <;> omega))⟩
  · simp only [Int32.lt_iff_toInt_lt, Int32.le_iff_toInt_le, Int32.reduceToInt, ← Int32.toInt_inj] at h_67
    refine v_iload_n hC dX12_isPlace_16 rfl ?_
    obtain ⟨v_68, h_69⟩ : ∃ v9 : Int64, a_2.toInt64 = v9 := ⟨_, rfl⟩
    refine v_i2l hC dX12_isPlace_17 h_69 ?_
    have h_70 : v_68.toInt = a_2.toInt := by rw [← h_69]; exact Int32.toInt_toInt64 _
    refine v_lconst hC dX12_isPlace_18 (v := 0) (by decide) ?_
    refine v_aload_n hC dX12_isPlace_19 rfl ?_
    refine v_vi hC (rest := [.long 0, .long v_68]) m_1 e_28 rfl mi_X12_wide ms_X12_wide (p_X12_wide hW k_0 e_w o_w) mx_X12_wide ml_X12_87 (by decide) rfl (cells1 := 0) (slots1 := 0) (by decide) (by decide) (Nat.le_of_ble_eq_true rfl) (Nat.le_of_ble_eq_true rfl) rfl (Nat.le_of_ble_eq_true rfl) dX12_isPlace_20 (fun r_71 L_72 f_73 h_74 => ?_)
    obtain ⟨rfl, rfl, rfl⟩ := h_74
    refine v_iconst hC dX12_isPlace_23 (v := 1) (by decide) ?_
    obtain ⟨v_77, h_78⟩ : ∃ v9 : Int32, (g_w 1) - 1 = v9 := ⟨_, rfl⟩
    refine v_isub hC dX12_isPlace_24 h_78 ?_
    have h_79 := sub_v h_78 (by first | omega | (simp only [Int32.lt_iff_toInt_lt, Int32.le_iff_toInt_le, Int32.reduceToInt, ← Int32.toInt_inj, true_and, and_true, or_true, true_or, false_or, or_false, false_and, and_false, not_true_eq_false, not_false_eq_true] <;> omega)) (by first | omega | (simp only [Int32.lt_iff_toInt_lt, Int32.le_iff_toInt_le, Int32.reduceToInt, ← Int32.toInt_inj, true_and, and_true, or_true, true_or, false_or, or_false, false_and, and_false, not_true_eq_false, not_false_eq_true] <;> omega))
    try simp only [Int32.reduceToInt] at h_79
    obtain ⟨v_80, h_81⟩ : ∃ v9 : Int64, v_77.toInt64 = v9 := ⟨_, rfl⟩
    refine v_i2l hC dX12_isPlace_25 h_81 ?_
    have h_82 : v_80.toInt = v_77.toInt := by rw [← h_81]; exact Int32.toInt_toInt64 _
    refine v_si hC (rest := []) mt_X12_in (p_X12_in hW) mx_X12_in ml_X12_79 (by decide) rfl (cells1 := 0) (slots1 := 0) (by decide) (by decide) (Nat.le_of_ble_eq_true rfl) (Nat.le_of_ble_eq_true rfl) rfl (Nat.le_of_ble_eq_true rfl) dX12_isPlace_26 (fun r_83 L_84 f_85 h_86 => ?_)
    obtain ⟨rfl, rfl, b_87, x_88⟩ := h_86
    try simp only [Int32.reduceToInt, Int64.reduceToInt] at x_88
    refine v_if_eq hC dX12_isPlace_29 (tgt := 36) (by decide) (fun h_91 => ?_) (fun h_91 => ?_)
    · simp only [Int32.lt_iff_toInt_lt, Int32.le_iff_toInt_le, Int32.reduceToInt, ← Int32.toInt_inj] at h_91
      refine v_iconst hC dX12_isPlace_36 (v := 0) (by decide) ?_
      exact hR _ _ _ _ _ _ _ dX12_isPlace_37 rfl (Nat.le_of_ble_eq_true rfl) (Nat.le_of_ble_eq_true rfl) ⟨rfl, rfl, (by decide), (.inl (by decide)), (.inl (by decide)), (by first | omega | (simp only [Int32.lt_iff_toInt_lt, Int32.le_iff_toInt_le, Int32.reduceToInt, ← Int32.toInt_inj, true_and, and_true, or_true, true_or, false_or, or_false, false_and, and_false, not_true_eq_false, not_false_eq_true] <;> omega))⟩
    · simp only [Int32.lt_iff_toInt_lt, Int32.le_iff_toInt_le, Int32.reduceToInt, ← Int32.toInt_inj] at h_91
      refine v_iconst hC dX12_isPlace_32 (v := 1) (by decide) ?_
      refine v_goto hC dX12_isPlace_33 (tgt := 37) (by decide) ?_
      exact hR _ _ _ _ _ _ _ dX12_isPlace_37 rfl (Nat.le_of_ble_eq_true rfl) (Nat.le_of_ble_eq_true rfl) ⟨rfl, rfl, (by decide), (.inr (by first | omega | (simp only [Int32.lt_iff_toInt_lt, Int32.le_iff_toInt_le, Int32.reduceToInt, ← Int32.toInt_inj, true_and, and_true, or_true, true_or, false_or, or_false, false_and, and_false, not_true_eq_false, not_false_eq_true] <;> omega))), (.inr (by first | omega | (simp only [Int32.lt_iff_toInt_lt, Int32.le_iff_toInt_le, Int32.reduceToInt, ← Int32.toInt_inj, true_and, and_true, or_true, true_or, false_or, or_false, false_and, and_false, not_true_eq_false, not_false_eq_true] <;> omega))), (by first | omega | (simp only [Int32.lt_iff_toInt_lt, Int32.le_iff_toInt_le, Int32.reduceToInt, ← Int32.toInt_inj, true_and, and_true, or_true, true_or, false_or, or_false, false_and, and_false, not_true_eq_false, not_false_eq_true] <;> omega))⟩
set_option maxRecDepth 100000 in
set_option maxHeartbeats 4000000 in
theorem p_X12_reads {l : Launch} {E : Ez} {L : List Nat} {f : Nat → va_E} {T : Nat → va_E → Prop} {a_0 : Nat} {a_1 : Int32} {q : Nat → Nat} {g_w : Nat → Int32} (hW : WT T L f) (k_0 : isM T L E a_0 q) (g_1 : (0 ≤ a_1.toInt ∧ a_1.toInt ≤ 5)) (e_w : f (q 1) = aI E 2076 g_w) (o_w : WOK g_w) (htold : (wv g_w a_1 0).toInt = 1) : CI l yX12_reads cX12_reads 9 .int 4 0 0 E [.ref a_0, .int a_1] L f (fun r L1 f1 => L = L1 ∧ WT T L f1 ∧ FR [12, 200, 356] f f1 ∧ ((-1) ≤ r.toInt ∧ r.toInt ≤ 52) ∧ fld (f1 a_0) 20 = fld (f a_0) 20) := by
  refine ci_of (by decide) (Nat.le_of_ble_eq_true rfl) (fun z hz hnm hC hR => ?_)
  have hC : Cx z E cX12_reads RX12 9 4 0 0 := hC
  subst hz
  show V z E 9 0 0 L f 0 [(0, .ref a_0), (1, .int a_1)] []
  obtain ⟨m_1, t_2, k_3, k_4, k_5, k_6, k_7, k_8, k_9, k_10, k_11, k_12, k_13, k_14, k_15, k_16, k_17, k_18, k_19, k_20⟩ := id k_0
  obtain ⟨m_21, t_22⟩ := id k_3
  have b_23 := o_w.r0
  have b_24 := o_w.w0
  obtain ⟨v_26, v_27, v_29, v_31, v_33, v_35, v_37, v_38, v_39, v_40, v_42, e_25, b_28, b_30, b_32, b_34, b_36, b_41, b_43⟩ := hW.at m_1 t_2
  have mz_44 : fld (f a_0) 20 = v_42.toInt := by rw [e_25]; rfl
  obtain ⟨tl_2, tl_3, tl_4⟩ := o_w.told g_1 htold
  refine v_aload_n hC dX12_reads_0 rfl ?_
  refine v_iload_n hC dX12_reads_1 rfl ?_
  refine v_vi hC (rest := []) m_1 e_25 rfl mi_X12_roomOf ms_X12_roomOf (p_X12_roomOf hW k_0 (by first | omega | (simp only [Int32.lt_iff_toInt_lt, Int32.le_iff_toInt_le, Int32.reduceToInt, ← Int32.toInt_inj, true_and, and_true, or_true, true_or, false_or, or_false, false_and, and_false, not_true_eq_false, not_false_eq_true] <;> omega)) e_w o_w (by first | omega | (simp only [Int32.lt_iff_toInt_lt, Int32.le_iff_toInt_le, Int32.reduceToInt, ← Int32.toInt_inj, true_and, and_true, or_true, true_or, false_or, or_false, false_and, and_false, not_true_eq_false, not_false_eq_true] <;> omega))) mx_X12_roomOf ml_X12_241 (by decide) rfl (cells1 := 0) (slots1 := 0) (by decide) (by decide) (Nat.le_of_ble_eq_true rfl) (Nat.le_of_ble_eq_true rfl) rfl (Nat.le_of_ble_eq_true rfl) dX12_reads_2 (fun r_45 L_46 f_47 h_48 => ?_)
  obtain ⟨rfl, hW_53, hF_54, b_49, x_50, x_51, x_52⟩ := h_48
  have fe_55 : fld (f a_0) 20 = (v_42 : Int32).toInt := by rw [e_25]; rfl
  have hf_56 := hF_54.at e_w rfl
  rw [fe_55] at x_52
  obtain ⟨v_58, v_59, v_61, v_63, v_65, v_67, v_69, v_70, v_71, v_72, v_74, e_57, b_60, b_62, b_64, b_66, b_68, b_73, b_75⟩ := hW_53.at m_1 t_2
  have fe_76 : fld (f_47 a_0) 20 = (v_74 : Int32).toInt := by rw [e_57]; rfl
  rw [fe_76] at x_52
  try simp only [Int32.reduceToInt, Int64.reduceToInt] at x_50
  try simp only [Int32.reduceToInt, Int64.reduceToInt] at x_51
  try simp only [Int32.reduceToInt, Int64.reduceToInt] at x_52
  refine v_istore_n hC dX12_reads_5 (by decide) (lv' := [(2, .int r_45), (0, .ref a_0), (1, .int a_1)]) rfl ?_
  refine v_iconst hC dX12_reads_6 (v := 0) (by decide) ?_
  refine v_istore_n hC dX12_reads_7 (by decide) (lv' := [(3, .int 0), (2, .int r_45), (0, .ref a_0), (1, .int a_1)]) rfl ?_
  refine v_iconst hC dX12_reads_8 (v := 0) (by decide) ?_
  refine v_istore hC dX12_reads_9 (by decide) (lv' := [(4, .int 0), (3, .int 0), (2, .int r_45), (0, .ref a_0), (1, .int a_1)]) rfl ?_
  have lp_4128 : ∀ (n_4129 : Nat) (f_4120 : Nat → va_E) (hW_4121 : WT T L f_4120) (hF_4122 : FR [200] f_47 f_4120) (i_4118 : Int32) (b_4125 : (0 ≤ i_4118.toInt ∧ i_4118.toInt ≤ 256)) (i_4119 : Int32) (b_4126 : (0 ≤ i_4119.toInt ∧ i_4119.toInt ≤ 52)) (nv_4127 : 5 * i_4119.toInt ≤ i_4118.toInt) (hm_4131 : 256 - i_4118.toInt < (n_4129 : Int)), V z E 9 0 0 L f_4120 11 [(4, .int i_4118), (3, .int i_4119), (2, .int r_45), (0, .ref a_0), (1, .int a_1)] [] := by
    intro n_4129
    induction n_4129 with
    | zero =>
      intro f_4120 hW_4121 hF_4122 i_4118 b_4125 i_4119 b_4126 nv_4127 hm_4131
      have hf_4123 := hF_4122.at hf_56 rfl
      have hf_4124 := hF_4122.at e_57 rfl
      exfalso; omega
    | succ n_4129 ih_4130 =>
      intro f_4120 hW_4121 hF_4122 i_4118 b_4125 i_4119 b_4126 nv_4127 hm_4131
      have hf_4123 := hF_4122.at hf_56 rfl
      have hf_4124 := hF_4122.at e_57 rfl
      refine v_iload hC dX12_reads_11 rfl ?_
      refine v_iconst hC dX12_reads_13 (v := 5) (by decide) ?_
      obtain ⟨v_4132, h_4133⟩ : ∃ v9 : Int32, i_4118 + 5 = v9 := ⟨_, rfl⟩
      refine v_iadd hC dX12_reads_14 h_4133 ?_
      have h_4134 := add_v h_4133 (by first | omega | (simp only [Int32.lt_iff_toInt_lt, Int32.le_iff_toInt_le, Int32.reduceToInt, ← Int32.toInt_inj, true_and, and_true, or_true, true_or, false_or, or_false, false_and, and_false, not_true_eq_false, not_false_eq_true] <;> omega)) (by first | omega | (simp only [Int32.lt_iff_toInt_lt, Int32.le_iff_toInt_le, Int32.reduceToInt, ← Int32.toInt_inj, true_and, and_true, or_true, true_or, false_or, or_false, false_and, and_false, not_true_eq_false, not_false_eq_true] <;> omega))
      try simp only [Int32.reduceToInt] at h_4134
      refine v_iload_n hC dX12_reads_15 rfl ?_
      refine v_icmp_gt hC dX12_reads_16 (tgt := 142) (by decide) (fun h_4135 => ?_) (fun h_4135 => ?_)
      · simp only [Int32.lt_iff_toInt_lt, Int32.le_iff_toInt_le, Int32.reduceToInt, ← Int32.toInt_inj] at h_4135
        refine v_iconst hC dX12_reads_142 (v := (-1)) (by decide) ?_
        have fe_4136 : fld (f_4120 a_0) 20 = (v_74 : Int32).toInt := by rw [hf_4124]; rfl
        exact hR _ _ _ _ _ _ _ dX12_reads_143 rfl (Nat.le_of_ble_eq_true rfl) (Nat.le_of_ble_eq_true rfl) ⟨rfl, hW_4121, ((hF_54.tr hF_4122).mono rfl), (by decide), (by rw [fe_4136, mz_44] <;> first | omega | (simp only [Int32.lt_iff_toInt_lt, Int32.le_iff_toInt_le, Int32.reduceToInt, ← Int32.toInt_inj, true_and, and_true, or_true, true_or, false_or, or_false, false_and, and_false, not_true_eq_false, not_false_eq_true] <;> omega))⟩
      · simp only [Int32.lt_iff_toInt_lt, Int32.le_iff_toInt_le, Int32.reduceToInt, ← Int32.toInt_inj] at h_4135
        refine v_iconst hC dX12_reads_19 (v := 0) (by decide) ?_
        refine v_istore hC dX12_reads_20 (by decide) (lv' := [(5, .int 0), (4, .int i_4118), (3, .int i_4119), (2, .int r_45), (0, .ref a_0), (1, .int a_1)]) rfl ?_
        refine v_iconst hC dX12_reads_22 (v := 1) (by decide) ?_
        refine v_istore hC dX12_reads_23 (by decide) (lv' := [(6, .int 1), (5, .int 0), (4, .int i_4118), (3, .int i_4119), (2, .int r_45), (0, .ref a_0), (1, .int a_1)]) rfl ?_
        refine v_iconst hC dX12_reads_25 (v := 0) (by decide) ?_
        refine v_istore hC dX12_reads_26 (by decide) (lv' := [(7, .int 0), (6, .int 1), (5, .int 0), (4, .int i_4118), (3, .int i_4119), (2, .int r_45), (0, .ref a_0), (1, .int a_1)]) rfl ?_
        have lp_5343 : ∀ (n_5344 : Nat) (i_5338 : Int32) (b_5341 : (0 ≤ i_5338.toInt ∧ i_5338.toInt ≤ 5)) (i_5339 : Int32) (b_5342 : (0 ≤ i_5339.toInt ∧ i_5339.toInt ≤ 1)) (i_5340 : Int32) (hm_5346 : 5 - i_5338.toInt < (n_5344 : Int)), V z E 9 0 0 L f_4120 28 [(7, .int i_5338), (6, .int i_5339), (5, .int i_5340), (4, .int i_4118), (3, .int i_4119), (2, .int r_45), (0, .ref a_0), (1, .int a_1)] [] := by
          intro n_5344
          induction n_5344 with
          | zero =>
            intro i_5338 b_5341 i_5339 b_5342 i_5340 hm_5346
            exfalso; omega
          | succ n_5344 ih_5345 =>
            intro i_5338 b_5341 i_5339 b_5342 i_5340 hm_5346
            refine v_iload hC dX12_reads_28 rfl ?_
            refine v_iconst hC dX12_reads_30 (v := 5) (by decide) ?_
            refine v_icmp_ge hC dX12_reads_31 (tgt := 79) (by decide) (fun h_5347 => ?_) (fun h_5347 => ?_)
            · simp only [Int32.lt_iff_toInt_lt, Int32.le_iff_toInt_le, Int32.reduceToInt, ← Int32.toInt_inj] at h_5347
              refine v_iload hC dX12_reads_79 rfl ?_
              refine v_if_eq hC dX12_reads_81 (tgt := 101) (by decide) (fun h_5387 => ?_) (fun h_5387 => ?_)
              · simp only [Int32.lt_iff_toInt_lt, Int32.le_iff_toInt_le, Int32.reduceToInt, ← Int32.toInt_inj] at h_5387
                refine v_iload hC dX12_reads_101 rfl ?_
                refine v_if_eq_t hC dX12_reads_103 (tgt := 115) (by decide) (by first | omega | (simp only [Int32.lt_iff_toInt_lt, Int32.le_iff_toInt_le, Int32.reduceToInt, ← Int32.toInt_inj, true_and, and_true, or_true, true_or, false_or, or_false, false_and, and_false, not_true_eq_false, not_false_eq_true] <;> omega)) ?_
                refine v_aload_n hC dX12_reads_115 rfl ?_
                refine v_get hC fl_X12_52 m_1 hf_4124 rfl dX12_reads_116 ?_
                refine v_iload_n hC dX12_reads_119 rfl ?_
                refine v_iload hC dX12_reads_120 rfl ?_
                refine v_if_eq_t hC dX12_reads_122 (tgt := 130) (by decide) (by first | omega | (simp only [Int32.lt_iff_toInt_lt, Int32.le_iff_toInt_le, Int32.reduceToInt, ← Int32.toInt_inj, true_and, and_true, or_true, true_or, false_or, or_false, false_and, and_false, not_true_eq_false, not_false_eq_true] <;> omega)) ?_
                refine v_bipush hC dX12_reads_130 (v := 99) (by decide) ?_
                obtain ⟨m_5388, t_5389⟩ := id k_13
                obtain ⟨g_5391, e_5390⟩ := hW_4121.at m_5388 t_5389
                refine v_iast hC m_5388 e_5390 (vp_in_iff.mpr (by first | omega | (simp only [Int32.lt_iff_toInt_lt, Int32.le_iff_toInt_le, Int32.reduceToInt, ← Int32.toInt_inj, true_and, and_true, or_true, true_or, false_or, or_false, false_and, and_false, not_true_eq_false, not_false_eq_true] <;> omega))) dX12_reads_132 (fun f_5392 hf_5393 hk_5394 => ?_)
                have hW_5396 := hW_4121.up hf_5393 hk_5394 t_5389 ⟨_, rfl⟩
                obtain ⟨g_5395, hf_5393⟩ : ∃ g9, f_5392 (q 21) = aI E 100 g9 := ⟨_, hf_5393⟩
                have hf_5397 := (hk_5394 (q 1) (ne_kd hf_4123 e_5390 rfl)).trans hf_4123
                have hf_5398 := (hk_5394 a_0 (ne_kd hf_4124 e_5390 rfl)).trans hf_4124
                have fr_5399 := FR.w hk_5394 e_5390 (k := 200) rfl
                obtain ⟨v_5400, h_5401⟩ : ∃ v9 : Int32, i_4119 + Int32.ofInt 1 = v9 := ⟨_, rfl⟩
                have h_5402 := add_v (b := 1) h_5401 (by first | omega | (simp only [Int32.lt_iff_toInt_lt, Int32.le_iff_toInt_le, Int32.reduceToInt, ← Int32.toInt_inj, true_and, and_true, or_true, true_or, false_or, or_false, false_and, and_false, not_true_eq_false, not_false_eq_true] <;> omega)) (by first | omega | (simp only [Int32.lt_iff_toInt_lt, Int32.le_iff_toInt_le, Int32.reduceToInt, ← Int32.toInt_inj, true_and, and_true, or_true, true_or, false_or, or_false, false_and, and_false, not_true_eq_false, not_false_eq_true] <;> omega))
                simp only [Int32.reduceToInt] at h_5402
                refine v_iinc hC dX12_reads_133 (k := 4) rfl (v := v_5400) h_5401 (by decide) (lv' := [(3, .int v_5400), (7, .int i_5338), (6, .int i_5339), (5, .int i_5340), (4, .int i_4118), (2, .int r_45), (0, .ref a_0), (1, .int a_1)]) rfl ?_
                obtain ⟨v_5403, h_5404⟩ : ∃ v9 : Int32, i_4118 + Int32.ofInt 5 = v9 := ⟨_, rfl⟩
                have h_5405 := add_v (b := 5) h_5404 (by first | omega | (simp only [Int32.lt_iff_toInt_lt, Int32.le_iff_toInt_le, Int32.reduceToInt, ← Int32.toInt_inj, true_and, and_true, or_true, true_or, false_or, or_false, false_and, and_false, not_true_eq_false, not_false_eq_true] <;> omega)) (by first | omega | (simp only [Int32.lt_iff_toInt_lt, Int32.le_iff_toInt_le, Int32.reduceToInt, ← Int32.toInt_inj, true_and, and_true, or_true, true_or, false_or, or_false, false_and, and_false, not_true_eq_false, not_false_eq_true] <;> omega))
                simp only [Int32.reduceToInt] at h_5405
                refine v_iinc hC dX12_reads_136 (k := 4) rfl (v := v_5403) h_5404 (by decide) (lv' := [(4, .int v_5403), (3, .int v_5400), (7, .int i_5338), (6, .int i_5339), (5, .int i_5340), (2, .int r_45), (0, .ref a_0), (1, .int a_1)]) rfl ?_
                refine v_goto hC dX12_reads_139 (tgt := 11) (by decide) ?_
                refine v_pick [0, 1, 5, 6, 7] rfl ?_
                exact ih_4130 f_5392 hW_5396 ((hF_4122.tr fr_5399).mono rfl) v_5403 (by first | omega | (simp only [Int32.lt_iff_toInt_lt, Int32.le_iff_toInt_le, Int32.reduceToInt, ← Int32.toInt_inj, true_and, and_true, or_true, true_or, false_or, or_false, false_and, and_false, not_true_eq_false, not_false_eq_true] <;> omega)) v_5400 (by first | omega | (simp only [Int32.lt_iff_toInt_lt, Int32.le_iff_toInt_le, Int32.reduceToInt, ← Int32.toInt_inj, true_and, and_true, or_true, true_or, false_or, or_false, false_and, and_false, not_true_eq_false, not_false_eq_true] <;> omega)) (by first | omega | (simp only [Int32.lt_iff_toInt_lt, Int32.le_iff_toInt_le, Int32.reduceToInt, ← Int32.toInt_inj, true_and, and_true, or_true, true_or, false_or, or_false, false_and, and_false, not_true_eq_false, not_false_eq_true] <;> omega)) (by first | omega | (simp only [Int32.lt_iff_toInt_lt, Int32.le_iff_toInt_le, Int32.reduceToInt, ← Int32.toInt_inj, true_and, and_true, or_true, true_or, false_or, or_false, false_and, and_false, not_true_eq_false, not_false_eq_true] <;> omega))
              · simp only [Int32.lt_iff_toInt_lt, Int32.le_iff_toInt_le, Int32.reduceToInt, ← Int32.toInt_inj] at h_5387
                refine v_iload hC dX12_reads_84 rfl ?_
                refine v_bipush hC dX12_reads_86 (v := 31) (by decide) ?_
                refine v_icmp_ne hC dX12_reads_88 (tgt := 101) (by decide) (fun h_5406 => ?_) (fun h_5406 => ?_)
                · simp only [Int32.lt_iff_toInt_lt, Int32.le_iff_toInt_le, Int32.reduceToInt, ← Int32.toInt_inj] at h_5406
                  refine v_iload hC dX12_reads_101 rfl ?_
                  refine v_if_eq_f hC dX12_reads_103 (tgt := 115) (by decide) (by first | omega | (simp only [Int32.lt_iff_toInt_lt, Int32.le_iff_toInt_le, Int32.reduceToInt, ← Int32.toInt_inj, true_and, and_true, or_true, true_or, false_or, or_false, false_and, and_false, not_true_eq_false, not_false_eq_true] <;> omega)) ?_
                  refine v_iload hC dX12_reads_106 rfl ?_
                  refine v_bipush hC dX12_reads_108 (v := 26) (by decide) ?_
                  refine v_icmp_le hC dX12_reads_110 (tgt := 115) (by decide) (fun h_5407 => ?_) (fun h_5407 => ?_)
                  · simp only [Int32.lt_iff_toInt_lt, Int32.le_iff_toInt_le, Int32.reduceToInt, ← Int32.toInt_inj] at h_5407
                    refine v_aload_n hC dX12_reads_115 rfl ?_
                    refine v_get hC fl_X12_52 m_1 hf_4124 rfl dX12_reads_116 ?_
                    refine v_iload_n hC dX12_reads_119 rfl ?_
                    refine v_iload hC dX12_reads_120 rfl ?_
                    refine v_if_eq_f hC dX12_reads_122 (tgt := 130) (by decide) (by first | omega | (simp only [Int32.lt_iff_toInt_lt, Int32.le_iff_toInt_le, Int32.reduceToInt, ← Int32.toInt_inj, true_and, and_true, or_true, true_or, false_or, or_false, false_and, and_false, not_true_eq_false, not_false_eq_true] <;> omega)) ?_
                    refine v_iload hC dX12_reads_125 rfl ?_
                    refine v_goto hC dX12_reads_127 (tgt := 132) (by decide) ?_
                    obtain ⟨m_5408, t_5409⟩ := id k_13
                    obtain ⟨g_5411, e_5410⟩ := hW_4121.at m_5408 t_5409
                    refine v_iast hC m_5408 e_5410 (vp_in_iff.mpr (by first | omega | (simp only [Int32.lt_iff_toInt_lt, Int32.le_iff_toInt_le, Int32.reduceToInt, ← Int32.toInt_inj, true_and, and_true, or_true, true_or, false_or, or_false, false_and, and_false, not_true_eq_false, not_false_eq_true] <;> omega))) dX12_reads_132 (fun f_5412 hf_5413 hk_5414 => ?_)
                    have hW_5416 := hW_4121.up hf_5413 hk_5414 t_5409 ⟨_, rfl⟩
                    obtain ⟨g_5415, hf_5413⟩ : ∃ g9, f_5412 (q 21) = aI E 100 g9 := ⟨_, hf_5413⟩
                    have hf_5417 := (hk_5414 (q 1) (ne_kd hf_4123 e_5410 rfl)).trans hf_4123
                    have hf_5418 := (hk_5414 a_0 (ne_kd hf_4124 e_5410 rfl)).trans hf_4124
                    have fr_5419 := FR.w hk_5414 e_5410 (k := 200) rfl
                    obtain ⟨v_5420, h_5421⟩ : ∃ v9 : Int32, i_4119 + Int32.ofInt 1 = v9 := ⟨_, rfl⟩
                    have h_5422 := add_v (b := 1) h_5421 (by first | omega | (simp only [Int32.lt_iff_toInt_lt, Int32.le_iff_toInt_le, Int32.reduceToInt, ← Int32.toInt_inj, true_and, and_true, or_true, true_or, false_or, or_false, false_and, and_false, not_true_eq_false, not_false_eq_true] <;> omega)) (by first | omega | (simp only [Int32.lt_iff_toInt_lt, Int32.le_iff_toInt_le, Int32.reduceToInt, ← Int32.toInt_inj, true_and, and_true, or_true, true_or, false_or, or_false, false_and, and_false, not_true_eq_false, not_false_eq_true] <;> omega))
                    simp only [Int32.reduceToInt] at h_5422
                    refine v_iinc hC dX12_reads_133 (k := 4) rfl (v := v_5420) h_5421 (by decide) (lv' := [(3, .int v_5420), (7, .int i_5338), (6, .int i_5339), (5, .int i_5340), (4, .int i_4118), (2, .int r_45), (0, .ref a_0), (1, .int a_1)]) rfl ?_
                    obtain ⟨v_5423, h_5424⟩ : ∃ v9 : Int32, i_4118 + Int32.ofInt 5 = v9 := ⟨_, rfl⟩
                    have h_5425 := add_v (b := 5) h_5424 (by first | omega | (simp only [Int32.lt_iff_toInt_lt, Int32.le_iff_toInt_le, Int32.reduceToInt, ← Int32.toInt_inj, true_and, and_true, or_true, true_or, false_or, or_false, false_and, and_false, not_true_eq_false, not_false_eq_true] <;> omega)) (by first | omega | (simp only [Int32.lt_iff_toInt_lt, Int32.le_iff_toInt_le, Int32.reduceToInt, ← Int32.toInt_inj, true_and, and_true, or_true, true_or, false_or, or_false, false_and, and_false, not_true_eq_false, not_false_eq_true] <;> omega))
                    simp only [Int32.reduceToInt] at h_5425
                    refine v_iinc hC dX12_reads_136 (k := 4) rfl (v := v_5423) h_5424 (by decide) (lv' := [(4, .int v_5423), (3, .int v_5420), (7, .int i_5338), (6, .int i_5339), (5, .int i_5340), (2, .int r_45), (0, .ref a_0), (1, .int a_1)]) rfl ?_
                    refine v_goto hC dX12_reads_139 (tgt := 11) (by decide) ?_
                    refine v_pick [0, 1, 5, 6, 7] rfl ?_
                    exact ih_4130 f_5412 hW_5416 ((hF_4122.tr fr_5419).mono rfl) v_5423 (by first | omega | (simp only [Int32.lt_iff_toInt_lt, Int32.le_iff_toInt_le, Int32.reduceToInt, ← Int32.toInt_inj, true_and, and_true, or_true, true_or, false_or, or_false, false_and, and_false, not_true_eq_false, not_false_eq_true] <;> omega)) v_5420 (by first | omega | (simp only [Int32.lt_iff_toInt_lt, Int32.le_iff_toInt_le, Int32.reduceToInt, ← Int32.toInt_inj, true_and, and_true, or_true, true_or, false_or, or_false, false_and, and_false, not_true_eq_false, not_false_eq_true] <;> omega)) (by first | omega | (simp only [Int32.lt_iff_toInt_lt, Int32.le_iff_toInt_le, Int32.reduceToInt, ← Int32.toInt_inj, true_and, and_true, or_true, true_or, false_or, or_false, false_and, and_false, not_true_eq_false, not_false_eq_true] <;> omega)) (by first | omega | (simp only [Int32.lt_iff_toInt_lt, Int32.le_iff_toInt_le, Int32.reduceToInt, ← Int32.toInt_inj, true_and, and_true, or_true, true_or, false_or, or_false, false_and, and_false, not_true_eq_false, not_false_eq_true] <;> omega))
                  · simp only [Int32.lt_iff_toInt_lt, Int32.le_iff_toInt_le, Int32.reduceToInt, ← Int32.toInt_inj] at h_5407
                    refine v_iconst hC dX12_reads_113 (v := (-1)) (by decide) ?_
                    have fe_5426 : fld (f_4120 a_0) 20 = (v_74 : Int32).toInt := by rw [hf_4124]; rfl
                    exact hR _ _ _ _ _ _ _ dX12_reads_114 rfl (Nat.le_of_ble_eq_true rfl) (Nat.le_of_ble_eq_true rfl) ⟨rfl, hW_4121, ((hF_54.tr hF_4122).mono rfl), (by decide), (by rw [fe_5426, mz_44] <;> first | omega | (simp only [Int32.lt_iff_toInt_lt, Int32.le_iff_toInt_le, Int32.reduceToInt, ← Int32.toInt_inj, true_and, and_true, or_true, true_or, false_or, or_false, false_and, and_false, not_true_eq_false, not_false_eq_true] <;> omega))⟩
                · simp only [Int32.lt_iff_toInt_lt, Int32.le_iff_toInt_le, Int32.reduceToInt, ← Int32.toInt_inj] at h_5406
                  refine v_iload_n hC dX12_reads_91 rfl ?_
                  refine v_if_ne hC dX12_reads_92 (tgt := 99) (by decide) (fun h_5427 => ?_) (fun h_5427 => ?_)
                  · simp only [Int32.lt_iff_toInt_lt, Int32.le_iff_toInt_le, Int32.reduceToInt, ← Int32.toInt_inj] at h_5427
                    refine v_iload_n hC dX12_reads_99 rfl ?_
                    have fe_5428 : fld (f_4120 a_0) 20 = (v_74 : Int32).toInt := by rw [hf_4124]; rfl
                    exact hR _ _ _ _ _ _ _ dX12_reads_100 rfl (Nat.le_of_ble_eq_true rfl) (Nat.le_of_ble_eq_true rfl) ⟨rfl, hW_4121, ((hF_54.tr hF_4122).mono rfl), (by first | omega | (simp only [Int32.lt_iff_toInt_lt, Int32.le_iff_toInt_le, Int32.reduceToInt, ← Int32.toInt_inj, true_and, and_true, or_true, true_or, false_or, or_false, false_and, and_false, not_true_eq_false, not_false_eq_true] <;> omega)), (by rw [fe_5428, mz_44] <;> first | omega | (simp only [Int32.lt_iff_toInt_lt, Int32.le_iff_toInt_le, Int32.reduceToInt, ← Int32.toInt_inj, true_and, and_true, or_true, true_or, false_or, or_false, false_and, and_false, not_true_eq_false, not_false_eq_true] <;> omega))⟩
                  · simp only [Int32.lt_iff_toInt_lt, Int32.le_iff_toInt_le, Int32.reduceToInt, ← Int32.toInt_inj] at h_5427
                    refine v_iconst hC dX12_reads_95 (v := (-1)) (by decide) ?_
                    refine v_goto hC dX12_reads_96 (tgt := 100) (by decide) ?_
                    have fe_5429 : fld (f_4120 a_0) 20 = (v_74 : Int32).toInt := by rw [hf_4124]; rfl
                    exact hR _ _ _ _ _ _ _ dX12_reads_100 rfl (Nat.le_of_ble_eq_true rfl) (Nat.le_of_ble_eq_true rfl) ⟨rfl, hW_4121, ((hF_54.tr hF_4122).mono rfl), (by decide), (by rw [fe_5429, mz_44] <;> first | omega | (simp only [Int32.lt_iff_toInt_lt, Int32.le_iff_toInt_le, Int32.reduceToInt, ← Int32.toInt_inj, true_and, and_true, or_true, true_or, false_or, or_false, false_and, and_false, not_true_eq_false, not_false_eq_true] <;> omega))⟩
            · simp only [Int32.lt_iff_toInt_lt, Int32.le_iff_toInt_le, Int32.reduceToInt, ← Int32.toInt_inj] at h_5347
              refine v_aload_n hC dX12_reads_34 rfl ?_
              refine v_iload_n hC dX12_reads_35 rfl ?_
              refine v_iload hC dX12_reads_36 rfl ?_
              refine v_iload hC dX12_reads_38 rfl ?_
              obtain ⟨v_5430, h_5431⟩ : ∃ v9 : Int32, i_4118 + i_5338 = v9 := ⟨_, rfl⟩
              refine v_iadd hC dX12_reads_40 h_5431 ?_
              have h_5432 := add_v h_5431 (by first | omega | (simp only [Int32.lt_iff_toInt_lt, Int32.le_iff_toInt_le, Int32.reduceToInt, ← Int32.toInt_inj, true_and, and_true, or_true, true_or, false_or, or_false, false_and, and_false, not_true_eq_false, not_false_eq_true] <;> omega)) (by first | omega | (simp only [Int32.lt_iff_toInt_lt, Int32.le_iff_toInt_le, Int32.reduceToInt, ← Int32.toInt_inj, true_and, and_true, or_true, true_or, false_or, or_false, false_and, and_false, not_true_eq_false, not_false_eq_true] <;> omega))
              refine v_vi hC (rest := []) m_1 hf_4124 rfl mi_X12_bitOf ms_X12_bitOf (p_X12_bitOf hW_4121 k_0 (by first | omega | (simp only [Int32.lt_iff_toInt_lt, Int32.le_iff_toInt_le, Int32.reduceToInt, ← Int32.toInt_inj, true_and, and_true, or_true, true_or, false_or, or_false, false_and, and_false, not_true_eq_false, not_false_eq_true] <;> omega)) (by first | omega | (simp only [Int32.lt_iff_toInt_lt, Int32.le_iff_toInt_le, Int32.reduceToInt, ← Int32.toInt_inj, true_and, and_true, or_true, true_or, false_or, or_false, false_and, and_false, not_true_eq_false, not_false_eq_true] <;> omega)) hf_4123 o_w (by first | omega | (simp only [Int32.lt_iff_toInt_lt, Int32.le_iff_toInt_le, Int32.reduceToInt, ← Int32.toInt_inj, true_and, and_true, or_true, true_or, false_or, or_false, false_and, and_false, not_true_eq_false, not_false_eq_true] <;> omega)) (x_50 _ (by omega) (by omega))) mx_X12_bitOf ml_X12_370 (by decide) rfl (cells1 := 0) (slots1 := 0) (by decide) (by decide) (Nat.le_of_ble_eq_true rfl) (Nat.le_of_ble_eq_true rfl) rfl (Nat.le_of_ble_eq_true rfl) dX12_reads_41 (fun r_5433 L_5434 f_5435 h_5436 => ?_)
              obtain ⟨rfl, rfl, b_5437⟩ := h_5436
              refine v_istore hC dX12_reads_44 (by decide) (lv' := [(8, .int r_5433), (7, .int i_5338), (6, .int i_5339), (5, .int i_5340), (4, .int i_4118), (3, .int i_4119), (2, .int r_45), (0, .ref a_0), (1, .int a_1)]) rfl ?_
              refine v_iload hC dX12_reads_46 rfl ?_
              refine v_if_eq hC dX12_reads_48 (tgt := 61) (by decide) (fun h_5440 => ?_) (fun h_5440 => ?_)
              · simp only [Int32.lt_iff_toInt_lt, Int32.le_iff_toInt_le, Int32.reduceToInt, ← Int32.toInt_inj] at h_5440
                refine v_iconst hC dX12_reads_61 (v := 0) (by decide) ?_
                refine v_istore hC dX12_reads_62 (by decide) (lv' := [(6, .int 0), (8, .int r_5433), (7, .int i_5338), (5, .int i_5340), (4, .int i_4118), (3, .int i_4119), (2, .int r_45), (0, .ref a_0), (1, .int a_1)]) rfl ?_
                refine v_iconst hC dX12_reads_64 (v := 2) (by decide) ?_
                refine v_iload hC dX12_reads_65 rfl ?_
                obtain ⟨v_5441, h_5442⟩ : ∃ v9 : Int32, (2 : Int32) * i_5340 = v9 := ⟨_, rfl⟩
                refine v_imul hC dX12_reads_67 h_5442 ?_
                refine v_iload hC dX12_reads_68 rfl ?_
                obtain ⟨v_5444, h_5445⟩ : ∃ v9 : Int32, v_5441 + r_5433 = v9 := ⟨_, rfl⟩
                refine v_iadd hC dX12_reads_70 h_5445 ?_
                refine v_istore hC dX12_reads_71 (by decide) (lv' := [(5, .int v_5444), (6, .int 0), (8, .int r_5433), (7, .int i_5338), (4, .int i_4118), (3, .int i_4119), (2, .int r_45), (0, .ref a_0), (1, .int a_1)]) rfl ?_
                obtain ⟨v_5447, h_5448⟩ : ∃ v9 : Int32, i_5338 + Int32.ofInt 1 = v9 := ⟨_, rfl⟩
                have h_5449 := add_v (b := 1) h_5448 (by first | omega | (simp only [Int32.lt_iff_toInt_lt, Int32.le_iff_toInt_le, Int32.reduceToInt, ← Int32.toInt_inj, true_and, and_true, or_true, true_or, false_or, or_false, false_and, and_false, not_true_eq_false, not_false_eq_true] <;> omega)) (by first | omega | (simp only [Int32.lt_iff_toInt_lt, Int32.le_iff_toInt_le, Int32.reduceToInt, ← Int32.toInt_inj, true_and, and_true, or_true, true_or, false_or, or_false, false_and, and_false, not_true_eq_false, not_false_eq_true] <;> omega))
                simp only [Int32.reduceToInt] at h_5449
                refine v_iinc hC dX12_reads_73 (k := 3) rfl (v := v_5447) h_5448 (by decide) (lv' := [(7, .int v_5447), (5, .int v_5444), (6, .int 0), (8, .int r_5433), (4, .int i_4118), (3, .int i_4119), (2, .int r_45), (0, .ref a_0), (1, .int a_1)]) rfl ?_
                refine v_goto hC dX12_reads_76 (tgt := 28) (by decide) ?_
                refine v_pick [0, 2, 1, 4, 5, 6, 7, 8] rfl ?_
                exact ih_5345 v_5447 (by first | omega | (simp only [Int32.lt_iff_toInt_lt, Int32.le_iff_toInt_le, Int32.reduceToInt, ← Int32.toInt_inj, true_and, and_true, or_true, true_or, false_or, or_false, false_and, and_false, not_true_eq_false, not_false_eq_true] <;> omega)) 0 (by decide) v_5444 (by first | omega | (simp only [Int32.lt_iff_toInt_lt, Int32.le_iff_toInt_le, Int32.reduceToInt, ← Int32.toInt_inj, true_and, and_true, or_true, true_or, false_or, or_false, false_and, and_false, not_true_eq_false, not_false_eq_true] <;> omega))
              · simp only [Int32.lt_iff_toInt_lt, Int32.le_iff_toInt_le, Int32.reduceToInt, ← Int32.toInt_inj] at h_5440
                refine v_iload hC dX12_reads_51 rfl ?_
                refine v_iconst hC dX12_reads_53 (v := 2) (by decide) ?_
                refine v_icmp_ge hC dX12_reads_54 (tgt := 61) (by decide) (fun h_5450 => ?_) (fun h_5450 => ?_)
                · simp only [Int32.lt_iff_toInt_lt, Int32.le_iff_toInt_le, Int32.reduceToInt, ← Int32.toInt_inj] at h_5450
                  refine v_iconst hC dX12_reads_61 (v := 0) (by decide) ?_
                  refine v_istore hC dX12_reads_62 (by decide) (lv' := [(6, .int 0), (8, .int r_5433), (7, .int i_5338), (5, .int i_5340), (4, .int i_4118), (3, .int i_4119), (2, .int r_45), (0, .ref a_0), (1, .int a_1)]) rfl ?_
                  refine v_iconst hC dX12_reads_64 (v := 2) (by decide) ?_
                  refine v_iload hC dX12_reads_65 rfl ?_
                  obtain ⟨v_5451, h_5452⟩ : ∃ v9 : Int32, (2 : Int32) * i_5340 = v9 := ⟨_, rfl⟩
                  refine v_imul hC dX12_reads_67 h_5452 ?_
                  refine v_iload hC dX12_reads_68 rfl ?_
                  obtain ⟨v_5454, h_5455⟩ : ∃ v9 : Int32, v_5451 + r_5433 = v9 := ⟨_, rfl⟩
                  refine v_iadd hC dX12_reads_70 h_5455 ?_
                  refine v_istore hC dX12_reads_71 (by decide) (lv' := [(5, .int v_5454), (6, .int 0), (8, .int r_5433), (7, .int i_5338), (4, .int i_4118), (3, .int i_4119), (2, .int r_45), (0, .ref a_0), (1, .int a_1)]) rfl ?_
                  obtain ⟨v_5457, h_5458⟩ : ∃ v9 : Int32, i_5338 + Int32.ofInt 1 = v9 := ⟨_, rfl⟩
                  have h_5459 := add_v (b := 1) h_5458 (by first | omega | (simp only [Int32.lt_iff_toInt_lt, Int32.le_iff_toInt_le, Int32.reduceToInt, ← Int32.toInt_inj, true_and, and_true, or_true, true_or, false_or, or_false, false_and, and_false, not_true_eq_false, not_false_eq_true] <;> omega)) (by first | omega | (simp only [Int32.lt_iff_toInt_lt, Int32.le_iff_toInt_le, Int32.reduceToInt, ← Int32.toInt_inj, true_and, and_true, or_true, true_or, false_or, or_false, false_and, and_false, not_true_eq_false, not_false_eq_true] <;> omega))
                  simp only [Int32.reduceToInt] at h_5459
                  refine v_iinc hC dX12_reads_73 (k := 3) rfl (v := v_5457) h_5458 (by decide) (lv' := [(7, .int v_5457), (5, .int v_5454), (6, .int 0), (8, .int r_5433), (4, .int i_4118), (3, .int i_4119), (2, .int r_45), (0, .ref a_0), (1, .int a_1)]) rfl ?_
                  refine v_goto hC dX12_reads_76 (tgt := 28) (by decide) ?_
                  refine v_pick [0, 2, 1, 4, 5, 6, 7, 8] rfl ?_
                  exact ih_5345 v_5457 (by first | omega | (simp only [Int32.lt_iff_toInt_lt, Int32.le_iff_toInt_le, Int32.reduceToInt, ← Int32.toInt_inj, true_and, and_true, or_true, true_or, false_or, or_false, false_and, and_false, not_true_eq_false, not_false_eq_true] <;> omega)) 0 (by decide) v_5454 (by first | omega | (simp only [Int32.lt_iff_toInt_lt, Int32.le_iff_toInt_le, Int32.reduceToInt, ← Int32.toInt_inj, true_and, and_true, or_true, true_or, false_or, or_false, false_and, and_false, not_true_eq_false, not_false_eq_true] <;> omega))
                · simp only [Int32.lt_iff_toInt_lt, Int32.le_iff_toInt_le, Int32.reduceToInt, ← Int32.toInt_inj] at h_5450
                  refine v_iconst hC dX12_reads_57 (v := 1) (by decide) ?_
                  refine v_goto hC dX12_reads_58 (tgt := 62) (by decide) ?_
                  refine v_istore hC dX12_reads_62 (by decide) (lv' := [(6, .int 1), (8, .int r_5433), (7, .int i_5338), (5, .int i_5340), (4, .int i_4118), (3, .int i_4119), (2, .int r_45), (0, .ref a_0), (1, .int a_1)]) rfl ?_
                  refine v_iconst hC dX12_reads_64 (v := 2) (by decide) ?_
                  refine v_iload hC dX12_reads_65 rfl ?_
                  obtain ⟨v_5460, h_5461⟩ : ∃ v9 : Int32, (2 : Int32) * i_5340 = v9 := ⟨_, rfl⟩
                  refine v_imul hC dX12_reads_67 h_5461 ?_
                  refine v_iload hC dX12_reads_68 rfl ?_
                  obtain ⟨v_5463, h_5464⟩ : ∃ v9 : Int32, v_5460 + r_5433 = v9 := ⟨_, rfl⟩
                  refine v_iadd hC dX12_reads_70 h_5464 ?_
                  refine v_istore hC dX12_reads_71 (by decide) (lv' := [(5, .int v_5463), (6, .int 1), (8, .int r_5433), (7, .int i_5338), (4, .int i_4118), (3, .int i_4119), (2, .int r_45), (0, .ref a_0), (1, .int a_1)]) rfl ?_
                  obtain ⟨v_5466, h_5467⟩ : ∃ v9 : Int32, i_5338 + Int32.ofInt 1 = v9 := ⟨_, rfl⟩
                  have h_5468 := add_v (b := 1) h_5467 (by first | omega | (simp only [Int32.lt_iff_toInt_lt, Int32.le_iff_toInt_le, Int32.reduceToInt, ← Int32.toInt_inj, true_and, and_true, or_true, true_or, false_or, or_false, false_and, and_false, not_true_eq_false, not_false_eq_true] <;> omega)) (by first | omega | (simp only [Int32.lt_iff_toInt_lt, Int32.le_iff_toInt_le, Int32.reduceToInt, ← Int32.toInt_inj, true_and, and_true, or_true, true_or, false_or, or_false, false_and, and_false, not_true_eq_false, not_false_eq_true] <;> omega))
                  simp only [Int32.reduceToInt] at h_5468
                  refine v_iinc hC dX12_reads_73 (k := 3) rfl (v := v_5466) h_5467 (by decide) (lv' := [(7, .int v_5466), (5, .int v_5463), (6, .int 1), (8, .int r_5433), (4, .int i_4118), (3, .int i_4119), (2, .int r_45), (0, .ref a_0), (1, .int a_1)]) rfl ?_
                  refine v_goto hC dX12_reads_76 (tgt := 28) (by decide) ?_
                  refine v_pick [0, 2, 1, 4, 5, 6, 7, 8] rfl ?_
                  exact ih_5345 v_5466 (by first | omega | (simp only [Int32.lt_iff_toInt_lt, Int32.le_iff_toInt_le, Int32.reduceToInt, ← Int32.toInt_inj, true_and, and_true, or_true, true_or, false_or, or_false, false_and, and_false, not_true_eq_false, not_false_eq_true] <;> omega)) 1 (by decide) v_5463 (by first | omega | (simp only [Int32.lt_iff_toInt_lt, Int32.le_iff_toInt_le, Int32.reduceToInt, ← Int32.toInt_inj, true_and, and_true, or_true, true_or, false_or, or_false, false_and, and_false, not_true_eq_false, not_false_eq_true] <;> omega))
        refine v_pick [0, 1, 2, 3, 4, 5, 6, 7] rfl ?_
        exact lp_5343 7 0 (by decide) 1 (by decide) 0 (by decide)
  refine v_pick [0, 1, 2, 3, 4] rfl ?_
  exact lp_4128 258 f_47 hW_53 FR.rf 0 (by decide) 0 (by decide) (by first | omega | (simp only [Int32.lt_iff_toInt_lt, Int32.le_iff_toInt_le, Int32.reduceToInt, ← Int32.toInt_inj, true_and, and_true, or_true, true_or, false_or, or_false, false_and, and_false, not_true_eq_false, not_false_eq_true] <;> omega)) (by decide)
set_option maxRecDepth 100000 in
set_option maxHeartbeats 4000000 in
theorem p_X12_read {l : Launch} {E : Ez} {L : List Nat} {f : Nat → va_E} {T : Nat → va_E → Prop} {a_0 : Nat} {a_1 : Int32} {a_2 : Int32} {q : Nat → Nat} {g_w : Nat → Int32} (hW : WT T L f) (k_0 : isM T L E a_0 q) (e_w : f (q 1) = aI E 2076 g_w) (o_w : WOK g_w) : CI l yX12_read cX12_read 6 .int 5 0 0 E [.ref a_0, .int a_1, .int a_2] L f (fun r L1 f1 => L = L1 ∧ WT T L f1 ∧ FR [12, 200, 356] f f1 ∧ ((-6) ≤ r.toInt ∧ r.toInt ≤ 52) ∧ (¬ r.toInt = 0 ∨ (0 ≤ a_1.toInt ∧ a_1.toInt ≤ 3)) ∧ (¬ r.toInt = 0 ∨ (0 ≤ a_2.toInt ∧ a_2.toInt ≤ 5))) := by
  refine ci_of (by decide) (Nat.le_of_ble_eq_true rfl) (fun z hz hnm hC hR => ?_)
  have hC : Cx z E cX12_read RX12 6 5 0 0 := hC
  subst hz
  show V z E 6 0 0 L f 0 [(0, .ref a_0), (1, .int a_1), (2, .int a_2)] []
  obtain ⟨m_1, t_2, k_3, k_4, k_5, k_6, k_7, k_8, k_9, k_10, k_11, k_12, k_13, k_14, k_15, k_16, k_17, k_18, k_19, k_20⟩ := id k_0
  obtain ⟨m_21, t_22⟩ := id k_3
  have b_23 := o_w.r0
  have b_24 := o_w.w0
  refine v_aload_n hC dX12_read_0 rfl ?_
  refine v_iload_n hC dX12_read_1 rfl ?_
  refine v_iload_n hC dX12_read_2 rfl ?_
  obtain ⟨v_26, v_27, v_29, v_31, v_33, v_35, v_37, v_38, v_39, v_40, v_42, e_25, b_28, b_30, b_32, b_34, b_36, b_41, b_43⟩ := hW.at m_1 t_2
  refine v_vi hC (rest := []) m_1 e_25 rfl mi_X12_asks ms_X12_asks (p_X12_asks hW k_0 e_w o_w) mx_X12_asks ml_X12_357 (by decide) rfl (cells1 := 0) (slots1 := 0) (by decide) (by decide) (Nat.le_of_ble_eq_true rfl) (Nat.le_of_ble_eq_true rfl) rfl (Nat.le_of_ble_eq_true rfl) dX12_read_3 (fun r_44 L_45 f_46 h_47 => ?_)
  obtain ⟨rfl, rfl, b_48, h_49, h_50, x_51⟩ := h_47
  try simp only [Int32.reduceToInt, Int64.reduceToInt] at x_51
  refine v_istore_n hC dX12_read_6 (by decide) (lv' := [(3, .int r_44), (0, .ref a_0), (1, .int a_1), (2, .int a_2)]) rfl ?_
  refine v_iload_n hC dX12_read_7 rfl ?_
  refine v_if_ge hC dX12_read_8 (tgt := 13) (by decide) (fun h_54 => ?_) (fun h_54 => ?_)
  · simp only [Int32.lt_iff_toInt_lt, Int32.le_iff_toInt_le, Int32.reduceToInt, ← Int32.toInt_inj] at h_54
    refine v_aload_n hC dX12_read_13 rfl ?_
    refine v_iload_n hC dX12_read_14 rfl ?_
    refine v_vv hC (rest := []) m_1 e_25 rfl mi_X12_takes0 ms_X12_takes0 (p_X12_takes0 hW k_0 (by first | omega | (simp only [Int32.lt_iff_toInt_lt, Int32.le_iff_toInt_le, Int32.reduceToInt, ← Int32.toInt_inj, true_and, and_true, or_true, true_or, false_or, or_false, false_and, and_false, not_true_eq_false, not_false_eq_true] <;> omega)) e_w o_w) mx_X12_takes0 ml_X12_363 (by decide) rfl (cells1 := 0) (slots1 := 0) (by decide) (by decide) (Nat.le_of_ble_eq_true rfl) (Nat.le_of_ble_eq_true rfl) rfl (Nat.le_of_ble_eq_true rfl) dX12_read_15 (fun L_56 f_57 h_58 => ?_)
    obtain ⟨rfl, hW_59, hF_60⟩ := h_58
    have hf_61 := hF_60.at e_w rfl
    have hf_62 := hF_60.at e_25 rfl
    refine v_aload_n hC dX12_read_18 rfl ?_
    refine v_iload_n hC dX12_read_19 rfl ?_
    refine v_vi hC (rest := []) m_1 hf_62 rfl mi_X12_reads ms_X12_reads (p_X12_reads hW_59 k_0 (by first | omega | (simp only [Int32.lt_iff_toInt_lt, Int32.le_iff_toInt_le, Int32.reduceToInt, ← Int32.toInt_inj, true_and, and_true, or_true, true_or, false_or, or_false, false_and, and_false, not_true_eq_false, not_false_eq_true] <;> omega)) hf_61 o_w (by first | omega | (simp only [Int32.lt_iff_toInt_lt, Int32.le_iff_toInt_le, Int32.reduceToInt, ← Int32.toInt_inj, true_and, and_true, or_true, true_or, false_or, or_false, false_and, and_false, not_true_eq_false, not_false_eq_true] <;> omega))) mx_X12_reads ml_X12_373 (by decide) rfl (cells1 := 0) (slots1 := 0) (by decide) (by decide) (Nat.le_of_ble_eq_true rfl) (Nat.le_of_ble_eq_true rfl) rfl (Nat.le_of_ble_eq_true rfl) dX12_read_20 (fun r_63 L_64 f_65 h_66 => ?_)
    obtain ⟨rfl, hW_69, hF_70, b_67, x_68⟩ := h_66
    have fe_71 : fld (f_57 a_0) 20 = (v_42 : Int32).toInt := by rw [hf_62]; rfl
    have hf_72 := hF_70.at hf_61 rfl
    rw [fe_71] at x_68
    obtain ⟨v_74, v_75, v_77, v_79, v_81, v_83, v_85, v_86, v_87, v_88, v_90, e_73, b_76, b_78, b_80, b_82, b_84, b_89, b_91⟩ := hW_69.at m_1 t_2
    have fe_92 : fld (f_65 a_0) 20 = (v_90 : Int32).toInt := by rw [e_73]; rfl
    rw [fe_92] at x_68
    try simp only [Int32.reduceToInt, Int64.reduceToInt] at x_68
    refine v_istore hC dX12_read_23 (by decide) (lv' := [(4, .int r_63), (3, .int r_44), (0, .ref a_0), (1, .int a_1), (2, .int a_2)]) rfl ?_
    refine v_iload hC dX12_read_25 rfl ?_
    refine v_iconst hC dX12_read_27 (v := (-1)) (by decide) ?_
    refine v_icmp_ne hC dX12_read_28 (tgt := 33) (by decide) (fun h_93 => ?_) (fun h_93 => ?_)
    · simp only [Int32.lt_iff_toInt_lt, Int32.le_iff_toInt_le, Int32.reduceToInt, ← Int32.toInt_inj] at h_93
      refine v_aload_n hC dX12_read_33 rfl ?_
      refine v_iload hC dX12_read_34 rfl ?_
      refine v_put hC fl_X12_49 m_1 e_73 rfl rfl (Nat.le_of_ble_eq_true rfl) (fs' := [.int v_74, .ref (q 1), .ref (q 2), .ref (q 3), .ref (q 4), .int v_75, .ref (q 6), .int v_77, .int v_79, .int v_81, .int v_83, .int v_85, .int v_86, .int v_87, .ref (q 14), .ref (q 15), .ref (q 16), .int v_88, .ref (q 18), .ref (q 19), .int r_63, .ref (q 21), .ref (q 22), .ref (q 23), .ref (q 24), .ref (q 25), .ref (q 26), .ref (q 27), .ref (q 28)]) rfl dX12_read_36 (fun f_94 hf_95 hk_96 => ?_)
      have hW_97 := hW_69.up hf_95 hk_96 t_2 ⟨v_74, v_75, v_77, v_79, v_81, v_83, v_85, v_86, v_87, v_88, r_63, rfl, (by first | omega | (simp only [Int32.lt_iff_toInt_lt, Int32.le_iff_toInt_le, Int32.reduceToInt, ← Int32.toInt_inj, true_and, and_true, or_true, true_or, false_or, or_false, false_and, and_false, not_true_eq_false, not_false_eq_true] <;> omega)), (by first | omega | (simp only [Int32.lt_iff_toInt_lt, Int32.le_iff_toInt_le, Int32.reduceToInt, ← Int32.toInt_inj, true_and, and_true, or_true, true_or, false_or, or_false, false_and, and_false, not_true_eq_false, not_false_eq_true] <;> omega)), (by first | omega | (simp only [Int32.lt_iff_toInt_lt, Int32.le_iff_toInt_le, Int32.reduceToInt, ← Int32.toInt_inj, true_and, and_true, or_true, true_or, false_or, or_false, false_and, and_false, not_true_eq_false, not_false_eq_true] <;> omega)), (by first | omega | (simp only [Int32.lt_iff_toInt_lt, Int32.le_iff_toInt_le, Int32.reduceToInt, ← Int32.toInt_inj, true_and, and_true, or_true, true_or, false_or, or_false, false_and, and_false, not_true_eq_false, not_false_eq_true] <;> omega)), (by first | omega | (simp only [Int32.lt_iff_toInt_lt, Int32.le_iff_toInt_le, Int32.reduceToInt, ← Int32.toInt_inj, true_and, and_true, or_true, true_or, false_or, or_false, false_and, and_false, not_true_eq_false, not_false_eq_true] <;> omega)), (by first | omega | (simp only [Int32.lt_iff_toInt_lt, Int32.le_iff_toInt_le, Int32.reduceToInt, ← Int32.toInt_inj, true_and, and_true, or_true, true_or, false_or, or_false, false_and, and_false, not_true_eq_false, not_false_eq_true] <;> omega)), (by first | omega | (simp only [Int32.lt_iff_toInt_lt, Int32.le_iff_toInt_le, Int32.reduceToInt, ← Int32.toInt_inj, true_and, and_true, or_true, true_or, false_or, or_false, false_and, and_false, not_true_eq_false, not_false_eq_true] <;> omega))⟩
      have hf_98 := (hk_96 (q 1) (ne_kd hf_72 e_73 rfl)).trans hf_72
      have fr_99 := FR.w hk_96 e_73 (k := 12) rfl
      refine v_iconst hC dX12_read_39 (v := 0) (by decide) ?_
      refine v_istore hC dX12_read_40 (by decide) (lv' := [(5, .int 0), (4, .int r_63), (3, .int r_44), (0, .ref a_0), (1, .int a_1), (2, .int a_2)]) rfl ?_
      have lp_221 : ∀ (n_222 : Nat) (f_215 : Nat → va_E) (hW_216 : WT T L f_215) (hF_217 : FR [200] f_94 f_215) (i_214 : Int32) (b_220 : (0 ≤ i_214.toInt ∧ i_214.toInt ≤ 52)) (hm_224 : 52 - i_214.toInt < (n_222 : Int)), V z E 6 0 0 L f_215 42 [(5, .int i_214), (4, .int r_63), (0, .ref a_0)] [] := by
        intro n_222
        induction n_222 with
        | zero =>
          intro f_215 hW_216 hF_217 i_214 b_220 hm_224
          have hf_218 := hF_217.at hf_98 rfl
          have hf_219 := hF_217.at hf_95 rfl
          exfalso; omega
        | succ n_222 ih_223 =>
          intro f_215 hW_216 hF_217 i_214 b_220 hm_224
          have hf_218 := hF_217.at hf_98 rfl
          have hf_219 := hF_217.at hf_95 rfl
          refine v_iload hC dX12_read_42 rfl ?_
          refine v_iload hC dX12_read_44 rfl ?_
          refine v_icmp_ge hC dX12_read_46 (tgt := 69) (by decide) (fun h_225 => ?_) (fun h_225 => ?_)
          · simp only [Int32.lt_iff_toInt_lt, Int32.le_iff_toInt_le, Int32.reduceToInt, ← Int32.toInt_inj] at h_225
            refine v_iload hC dX12_read_69 rfl ?_
            exact hR _ _ _ _ _ _ _ dX12_read_71 rfl (Nat.le_of_ble_eq_true rfl) (Nat.le_of_ble_eq_true rfl) ⟨rfl, hW_216, ((((hF_60.tr hF_70).tr fr_99).tr hF_217).mono rfl), (by first | omega | (simp only [Int32.lt_iff_toInt_lt, Int32.le_iff_toInt_le, Int32.reduceToInt, ← Int32.toInt_inj, true_and, and_true, or_true, true_or, false_or, or_false, false_and, and_false, not_true_eq_false, not_false_eq_true] <;> omega)), (.inr (by first | omega | (simp only [Int32.lt_iff_toInt_lt, Int32.le_iff_toInt_le, Int32.reduceToInt, ← Int32.toInt_inj, true_and, and_true, or_true, true_or, false_or, or_false, false_and, and_false, not_true_eq_false, not_false_eq_true] <;> omega))), (.inr (by first | omega | (simp only [Int32.lt_iff_toInt_lt, Int32.le_iff_toInt_le, Int32.reduceToInt, ← Int32.toInt_inj, true_and, and_true, or_true, true_or, false_or, or_false, false_and, and_false, not_true_eq_false, not_false_eq_true] <;> omega)))⟩
          · simp only [Int32.lt_iff_toInt_lt, Int32.le_iff_toInt_le, Int32.reduceToInt, ← Int32.toInt_inj] at h_225
            refine v_aload_n hC dX12_read_49 rfl ?_
            refine v_get hC fl_X12_46 m_1 hf_219 rfl dX12_read_50 ?_
            refine v_iload hC dX12_read_53 rfl ?_
            refine v_aload_n hC dX12_read_55 rfl ?_
            refine v_get hC fl_X12_52 m_1 hf_219 rfl dX12_read_56 ?_
            refine v_iload hC dX12_read_59 rfl ?_
            obtain ⟨m_226, t_227⟩ := id k_13
            obtain ⟨g_229, e_228⟩ := hW_216.at m_226 t_227
            obtain ⟨v_230, h_231⟩ : ∃ v9 : Int32, g_229 (i_214 : Int32).toNatClampNeg = v9 := ⟨_, rfl⟩
            refine v_iald hC m_226 e_228 (vp_in_iff.mpr (by first | omega | (simp only [Int32.lt_iff_toInt_lt, Int32.le_iff_toInt_le, Int32.reduceToInt, ← Int32.toInt_inj, true_and, and_true, or_true, true_or, false_or, or_false, false_and, and_false, not_true_eq_false, not_false_eq_true] <;> omega))) h_231 dX12_read_61 ?_
            obtain ⟨m_232, t_233⟩ := id k_12
            obtain ⟨g_235, e_234⟩ := hW_216.at m_232 t_233
            refine v_iast hC m_232 e_234 (vp_in_iff.mpr (by first | omega | (simp only [Int32.lt_iff_toInt_lt, Int32.le_iff_toInt_le, Int32.reduceToInt, ← Int32.toInt_inj, true_and, and_true, or_true, true_or, false_or, or_false, false_and, and_false, not_true_eq_false, not_false_eq_true] <;> omega))) dX12_read_62 (fun f_236 hf_237 hk_238 => ?_)
            have hW_240 := hW_216.up hf_237 hk_238 t_233 ⟨_, rfl⟩
            obtain ⟨g_239, hf_237⟩ : ∃ g9, f_236 (q 19) = aI E 100 g9 := ⟨_, hf_237⟩
            have hf_241 := (hk_238 (q 1) (ne_kd hf_218 e_234 rfl)).trans hf_218
            have hf_242 := (hk_238 a_0 (ne_kd hf_219 e_234 rfl)).trans hf_219
            have fr_243 := FR.w hk_238 e_234 (k := 200) rfl
            obtain ⟨v_244, h_245⟩ : ∃ v9 : Int32, i_214 + Int32.ofInt 1 = v9 := ⟨_, rfl⟩
            have h_246 := add_v (b := 1) h_245 (by first | omega | (simp only [Int32.lt_iff_toInt_lt, Int32.le_iff_toInt_le, Int32.reduceToInt, ← Int32.toInt_inj, true_and, and_true, or_true, true_or, false_or, or_false, false_and, and_false, not_true_eq_false, not_false_eq_true] <;> omega)) (by first | omega | (simp only [Int32.lt_iff_toInt_lt, Int32.le_iff_toInt_le, Int32.reduceToInt, ← Int32.toInt_inj, true_and, and_true, or_true, true_or, false_or, or_false, false_and, and_false, not_true_eq_false, not_false_eq_true] <;> omega))
            simp only [Int32.reduceToInt] at h_246
            refine v_iinc hC dX12_read_63 (k := 0) rfl (v := v_244) h_245 (by decide) (lv' := [(5, .int v_244), (4, .int r_63), (0, .ref a_0)]) rfl ?_
            refine v_goto hC dX12_read_66 (tgt := 42) (by decide) ?_
            refine v_pick [0, 1, 2] rfl ?_
            exact ih_223 f_236 hW_240 ((hF_217.tr fr_243).mono rfl) v_244 (by first | omega | (simp only [Int32.lt_iff_toInt_lt, Int32.le_iff_toInt_le, Int32.reduceToInt, ← Int32.toInt_inj, true_and, and_true, or_true, true_or, false_or, or_false, false_and, and_false, not_true_eq_false, not_false_eq_true] <;> omega)) (by first | omega | (simp only [Int32.lt_iff_toInt_lt, Int32.le_iff_toInt_le, Int32.reduceToInt, ← Int32.toInt_inj, true_and, and_true, or_true, true_or, false_or, or_false, false_and, and_false, not_true_eq_false, not_false_eq_true] <;> omega))
      refine v_pick [0, 1, 3] rfl ?_
      exact lp_221 54 f_94 hW_97 FR.rf 0 (by decide) (by decide)
    · simp only [Int32.lt_iff_toInt_lt, Int32.le_iff_toInt_le, Int32.reduceToInt, ← Int32.toInt_inj] at h_93
      refine v_iconst hC dX12_read_31 (v := (-1)) (by decide) ?_
      exact hR _ _ _ _ _ _ _ dX12_read_32 rfl (Nat.le_of_ble_eq_true rfl) (Nat.le_of_ble_eq_true rfl) ⟨rfl, hW_69, ((hF_60.tr hF_70).mono rfl), (by decide), (.inl (by decide)), (.inl (by decide))⟩
  · simp only [Int32.lt_iff_toInt_lt, Int32.le_iff_toInt_le, Int32.reduceToInt, ← Int32.toInt_inj] at h_54
    refine v_iload_n hC dX12_read_11 rfl ?_
    exact hR _ _ _ _ _ _ _ dX12_read_12 rfl (Nat.le_of_ble_eq_true rfl) (Nat.le_of_ble_eq_true rfl) ⟨rfl, hW, FR.rf, (by first | omega | (simp only [Int32.lt_iff_toInt_lt, Int32.le_iff_toInt_le, Int32.reduceToInt, ← Int32.toInt_inj, true_and, and_true, or_true, true_or, false_or, or_false, false_and, and_false, not_true_eq_false, not_false_eq_true] <;> omega)), (by first | omega | (simp only [Int32.lt_iff_toInt_lt, Int32.le_iff_toInt_le, Int32.reduceToInt, ← Int32.toInt_inj, true_and, and_true, or_true, true_or, false_or, or_false, false_and, and_false, not_true_eq_false, not_false_eq_true] <;> omega)), (by first | omega | (simp only [Int32.lt_iff_toInt_lt, Int32.le_iff_toInt_le, Int32.reduceToInt, ← Int32.toInt_inj, true_and, and_true, or_true, true_or, false_or, or_false, false_and, and_false, not_true_eq_false, not_false_eq_true] <;> omega))⟩
set_option maxRecDepth 100000 in
set_option maxHeartbeats 4000000 in
theorem p_X12_letter {l : Launch} {E : Ez} {L : List Nat} {f : Nat → va_E} {T : Nat → va_E → Prop} {a_0 : Nat} {a_1 : Int32} {q : Nat → Nat} {g_w : Nat → Int32} (hW : WT T L f) (k_0 : isM T L E a_0 q) (e_w : f (q 1) = aI E 2076 g_w) (o_w : WOK g_w) : CI l yX12_letter cX12_letter 2 .int 1 0 0 E [.ref a_0, .int a_1] L f (fun r L1 f1 => L = L1 ∧ f = f1 ∧ (¬ r.toInt = 0 ∨ (0 ≤ a_1.toInt ∧ a_1.toInt ≤ 99))) := by
  refine ci_of (by decide) (Nat.le_of_ble_eq_true rfl) (fun z hz hnm hC hR => ?_)
  have hC : Cx z E cX12_letter RX12 2 1 0 0 := hC
  subst hz
  show V z E 2 0 0 L f 0 [(0, .ref a_0), (1, .int a_1)] []
  obtain ⟨m_1, t_2, k_3, k_4, k_5, k_6, k_7, k_8, k_9, k_10, k_11, k_12, k_13, k_14, k_15, k_16, k_17, k_18, k_19, k_20⟩ := id k_0
  obtain ⟨m_21, t_22⟩ := id k_3
  have b_23 := o_w.r0
  have b_24 := o_w.w0
  refine v_iload_n hC dX12_letter_0 rfl ?_
  obtain ⟨v_25, h_26⟩ : ∃ v9 : Int64, a_1.toInt64 = v9 := ⟨_, rfl⟩
  refine v_i2l hC dX12_letter_1 h_26 ?_
  have h_27 : v_25.toInt = a_1.toInt := by rw [← h_26]; exact Int32.toInt_toInt64 _
  refine v_lconst hC dX12_letter_2 (v := 0) (by decide) ?_
  refine v_aload_n hC dX12_letter_3 rfl ?_
  obtain ⟨v_29, v_30, v_32, v_34, v_36, v_38, v_40, v_41, v_42, v_43, v_45, e_28, b_31, b_33, b_35, b_37, b_39, b_44, b_46⟩ := hW.at m_1 t_2
  refine v_get hC fl_X12_49 m_1 e_28 rfl dX12_letter_4 ?_
  refine v_iconst hC dX12_letter_7 (v := 1) (by decide) ?_
  obtain ⟨v_47, h_48⟩ : ∃ v9 : Int32, v_45 - 1 = v9 := ⟨_, rfl⟩
  refine v_isub hC dX12_letter_8 h_48 ?_
  have h_49 := sub_v h_48 (by first | omega | (simp only [Int32.lt_iff_toInt_lt, Int32.le_iff_toInt_le, Int32.reduceToInt, ← Int32.toInt_inj, true_and, and_true, or_true, true_or, false_or, or_false, false_and, and_false, not_true_eq_false, not_false_eq_true] <;> omega)) (by first | omega | (simp only [Int32.lt_iff_toInt_lt, Int32.le_iff_toInt_le, Int32.reduceToInt, ← Int32.toInt_inj, true_and, and_true, or_true, true_or, false_or, or_false, false_and, and_false, not_true_eq_false, not_false_eq_true] <;> omega))
  try simp only [Int32.reduceToInt] at h_49
  obtain ⟨v_50, h_51⟩ : ∃ v9 : Int64, v_47.toInt64 = v9 := ⟨_, rfl⟩
  refine v_i2l hC dX12_letter_9 h_51 ?_
  have h_52 : v_50.toInt = v_47.toInt := by rw [← h_51]; exact Int32.toInt_toInt64 _
  refine v_si hC (rest := []) mt_X12_in (p_X12_in hW) mx_X12_in ml_X12_79 (by decide) rfl (cells1 := 0) (slots1 := 0) (by decide) (by decide) (Nat.le_of_ble_eq_true rfl) (Nat.le_of_ble_eq_true rfl) rfl (Nat.le_of_ble_eq_true rfl) dX12_letter_10 (fun r_53 L_54 f_55 h_56 => ?_)
  obtain ⟨rfl, rfl, b_57, x_58⟩ := h_56
  try simp only [Int32.reduceToInt, Int64.reduceToInt] at x_58
  refine v_if_ne hC dX12_letter_13 (tgt := 18) (by decide) (fun h_61 => ?_) (fun h_61 => ?_)
  · simp only [Int32.lt_iff_toInt_lt, Int32.le_iff_toInt_le, Int32.reduceToInt, ← Int32.toInt_inj] at h_61
    refine v_aload_n hC dX12_letter_18 rfl ?_
    refine v_get hC fl_X12_46 m_1 e_28 rfl dX12_letter_19 ?_
    refine v_iload_n hC dX12_letter_22 rfl ?_
    obtain ⟨m_62, t_63⟩ := id k_12
    obtain ⟨g_65, e_64⟩ := hW.at m_62 t_63
    obtain ⟨v_66, h_67⟩ : ∃ v9 : Int32, g_65 (a_1 : Int32).toNatClampNeg = v9 := ⟨_, rfl⟩
    refine v_iald hC m_62 e_64 (vp_in_iff.mpr (by first | omega | (simp only [Int32.lt_iff_toInt_lt, Int32.le_iff_toInt_le, Int32.reduceToInt, ← Int32.toInt_inj, true_and, and_true, or_true, true_or, false_or, or_false, false_and, and_false, not_true_eq_false, not_false_eq_true] <;> omega))) h_67 dX12_letter_23 ?_
    refine v_bipush hC dX12_letter_24 (v := 99) (by decide) ?_
    refine v_icmp_ne hC dX12_letter_26 (tgt := 34) (by decide) (fun h_68 => ?_) (fun h_68 => ?_)
    · simp only [Int32.lt_iff_toInt_lt, Int32.le_iff_toInt_le, Int32.reduceToInt, ← Int32.toInt_inj] at h_68
      refine v_aload_n hC dX12_letter_34 rfl ?_
      refine v_get hC fl_X12_46 m_1 e_28 rfl dX12_letter_35 ?_
      refine v_iload_n hC dX12_letter_38 rfl ?_
      obtain ⟨v_69, h_70⟩ : ∃ v9 : Int32, g_65 (a_1 : Int32).toNatClampNeg = v9 := ⟨_, rfl⟩
      refine v_iald hC m_62 e_64 (vp_in_iff.mpr (by first | omega | (simp only [Int32.lt_iff_toInt_lt, Int32.le_iff_toInt_le, Int32.reduceToInt, ← Int32.toInt_inj, true_and, and_true, or_true, true_or, false_or, or_false, false_and, and_false, not_true_eq_false, not_false_eq_true] <;> omega))) h_70 dX12_letter_39 ?_
      refine v_if_ne hC dX12_letter_40 (tgt := 48) (by decide) (fun h_71 => ?_) (fun h_71 => ?_)
      · simp only [Int32.lt_iff_toInt_lt, Int32.le_iff_toInt_le, Int32.reduceToInt, ← Int32.toInt_inj] at h_71
        refine v_bipush hC dX12_letter_48 (v := 97) (by decide) ?_
        refine v_aload_n hC dX12_letter_50 rfl ?_
        refine v_get hC fl_X12_46 m_1 e_28 rfl dX12_letter_51 ?_
        refine v_iload_n hC dX12_letter_54 rfl ?_
        obtain ⟨v_72, h_73⟩ : ∃ v9 : Int32, g_65 (a_1 : Int32).toNatClampNeg = v9 := ⟨_, rfl⟩
        refine v_iald hC m_62 e_64 (vp_in_iff.mpr (by first | omega | (simp only [Int32.lt_iff_toInt_lt, Int32.le_iff_toInt_le, Int32.reduceToInt, ← Int32.toInt_inj, true_and, and_true, or_true, true_or, false_or, or_false, false_and, and_false, not_true_eq_false, not_false_eq_true] <;> omega))) h_73 dX12_letter_55 ?_
        obtain ⟨v_74, h_75⟩ : ∃ v9 : Int32, (97 : Int32) + v_72 = v9 := ⟨_, rfl⟩
        refine v_iadd hC dX12_letter_56 h_75 ?_
        refine v_iconst hC dX12_letter_57 (v := 1) (by decide) ?_
        obtain ⟨v_77, h_78⟩ : ∃ v9 : Int32, v_74 - 1 = v9 := ⟨_, rfl⟩
        refine v_isub hC dX12_letter_58 h_78 ?_
        exact hR _ _ _ _ _ _ _ dX12_letter_59 rfl (Nat.le_of_ble_eq_true rfl) (Nat.le_of_ble_eq_true rfl) ⟨rfl, rfl, (.inr (by first | omega | (simp only [Int32.lt_iff_toInt_lt, Int32.le_iff_toInt_le, Int32.reduceToInt, ← Int32.toInt_inj, true_and, and_true, or_true, true_or, false_or, or_false, false_and, and_false, not_true_eq_false, not_false_eq_true] <;> omega)))⟩
      · simp only [Int32.lt_iff_toInt_lt, Int32.le_iff_toInt_le, Int32.reduceToInt, ← Int32.toInt_inj] at h_71
        refine v_bipush hC dX12_letter_43 (v := 32) (by decide) ?_
        refine v_goto hC dX12_letter_45 (tgt := 59) (by decide) ?_
        exact hR _ _ _ _ _ _ _ dX12_letter_59 rfl (Nat.le_of_ble_eq_true rfl) (Nat.le_of_ble_eq_true rfl) ⟨rfl, rfl, (.inl (by decide))⟩
    · simp only [Int32.lt_iff_toInt_lt, Int32.le_iff_toInt_le, Int32.reduceToInt, ← Int32.toInt_inj] at h_68
      refine v_bipush hC dX12_letter_29 (v := 63) (by decide) ?_
      refine v_goto hC dX12_letter_31 (tgt := 59) (by decide) ?_
      exact hR _ _ _ _ _ _ _ dX12_letter_59 rfl (Nat.le_of_ble_eq_true rfl) (Nat.le_of_ble_eq_true rfl) ⟨rfl, rfl, (.inl (by decide))⟩
  · simp only [Int32.lt_iff_toInt_lt, Int32.le_iff_toInt_le, Int32.reduceToInt, ← Int32.toInt_inj] at h_61
    refine v_iconst hC dX12_letter_16 (v := (-1)) (by decide) ?_
    exact hR _ _ _ _ _ _ _ dX12_letter_17 rfl (Nat.le_of_ble_eq_true rfl) (Nat.le_of_ble_eq_true rfl) ⟨rfl, rfl, (.inl (by decide))⟩
set_option maxRecDepth 100000 in
set_option maxHeartbeats 4000000 in
theorem p_X12_bit {l : Launch} {E : Ez} {L : List Nat} {f : Nat → va_E} {T : Nat → va_E → Prop} {a_0 : Nat} {a_1 : Int32} {a_2 : Int32} {a_3 : Int32} {q : Nat → Nat} {g_w : Nat → Int32} (hW : WT T L f) (k_0 : isM T L E a_0 q) (e_w : f (q 1) = aI E 2076 g_w) (o_w : WOK g_w) : CI l yX12_bit cX12_bit 5 .int 4 0 0 E [.ref a_0, .int a_1, .int a_2, .int a_3] L f (fun r L1 f1 => L = L1 ∧ WT T L f1 ∧ FR [12, 356] f f1 ∧ ((-6) ≤ r.toInt ∧ r.toInt ≤ 2) ∧ (¬ r.toInt = 0 ∨ (0 ≤ a_1.toInt ∧ a_1.toInt ≤ 3)) ∧ (¬ r.toInt = 0 ∨ (0 ≤ a_2.toInt ∧ a_2.toInt ≤ 5)) ∧ (¬ r.toInt = 0 ∨ (0 ≤ a_3.toInt ∧ a_3.toInt ≤ 255))) := by
  refine ci_of (by decide) (Nat.le_of_ble_eq_true rfl) (fun z hz hnm hC hR => ?_)
  have hC : Cx z E cX12_bit RX12 5 4 0 0 := hC
  subst hz
  show V z E 5 0 0 L f 0 [(0, .ref a_0), (1, .int a_1), (2, .int a_2), (3, .int a_3)] []
  obtain ⟨m_1, t_2, k_3, k_4, k_5, k_6, k_7, k_8, k_9, k_10, k_11, k_12, k_13, k_14, k_15, k_16, k_17, k_18, k_19, k_20⟩ := id k_0
  obtain ⟨m_21, t_22⟩ := id k_3
  have b_23 := o_w.r0
  have b_24 := o_w.w0
  refine v_aload_n hC dX12_bit_0 rfl ?_
  refine v_iload_n hC dX12_bit_1 rfl ?_
  refine v_iload_n hC dX12_bit_2 rfl ?_
  obtain ⟨v_26, v_27, v_29, v_31, v_33, v_35, v_37, v_38, v_39, v_40, v_42, e_25, b_28, b_30, b_32, b_34, b_36, b_41, b_43⟩ := hW.at m_1 t_2
  refine v_vi hC (rest := []) m_1 e_25 rfl mi_X12_asks ms_X12_asks (p_X12_asks hW k_0 e_w o_w) mx_X12_asks ml_X12_357 (by decide) rfl (cells1 := 0) (slots1 := 0) (by decide) (by decide) (Nat.le_of_ble_eq_true rfl) (Nat.le_of_ble_eq_true rfl) rfl (Nat.le_of_ble_eq_true rfl) dX12_bit_3 (fun r_44 L_45 f_46 h_47 => ?_)
  obtain ⟨rfl, rfl, b_48, h_49, h_50, x_51⟩ := h_47
  try simp only [Int32.reduceToInt, Int64.reduceToInt] at x_51
  refine v_istore hC dX12_bit_6 (by decide) (lv' := [(4, .int r_44), (0, .ref a_0), (1, .int a_1), (2, .int a_2), (3, .int a_3)]) rfl ?_
  refine v_iload hC dX12_bit_8 rfl ?_
  refine v_if_ge hC dX12_bit_10 (tgt := 16) (by decide) (fun h_54 => ?_) (fun h_54 => ?_)
  · simp only [Int32.lt_iff_toInt_lt, Int32.le_iff_toInt_le, Int32.reduceToInt, ← Int32.toInt_inj] at h_54
    refine v_aload_n hC dX12_bit_16 rfl ?_
    refine v_iload_n hC dX12_bit_17 rfl ?_
    refine v_vv hC (rest := []) m_1 e_25 rfl mi_X12_takes0 ms_X12_takes0 (p_X12_takes0 hW k_0 (by first | omega | (simp only [Int32.lt_iff_toInt_lt, Int32.le_iff_toInt_le, Int32.reduceToInt, ← Int32.toInt_inj, true_and, and_true, or_true, true_or, false_or, or_false, false_and, and_false, not_true_eq_false, not_false_eq_true] <;> omega)) e_w o_w) mx_X12_takes0 ml_X12_363 (by decide) rfl (cells1 := 0) (slots1 := 0) (by decide) (by decide) (Nat.le_of_ble_eq_true rfl) (Nat.le_of_ble_eq_true rfl) rfl (Nat.le_of_ble_eq_true rfl) dX12_bit_18 (fun L_56 f_57 h_58 => ?_)
    obtain ⟨rfl, hW_59, hF_60⟩ := h_58
    have hf_61 := hF_60.at e_w rfl
    have hf_62 := hF_60.at e_25 rfl
    refine v_iload_n hC dX12_bit_21 rfl ?_
    obtain ⟨v_63, h_64⟩ : ∃ v9 : Int64, a_3.toInt64 = v9 := ⟨_, rfl⟩
    refine v_i2l hC dX12_bit_22 h_64 ?_
    have h_65 : v_63.toInt = a_3.toInt := by rw [← h_64]; exact Int32.toInt_toInt64 _
    refine v_lconst hC dX12_bit_23 (v := 0) (by decide) ?_
    refine v_aload_n hC dX12_bit_24 rfl ?_
    refine v_iload_n hC dX12_bit_25 rfl ?_
    refine v_vi hC (rest := [.long 0, .long v_63]) m_1 hf_62 rfl mi_X12_roomOf ms_X12_roomOf (p_X12_roomOf hW_59 k_0 (by first | omega | (simp only [Int32.lt_iff_toInt_lt, Int32.le_iff_toInt_le, Int32.reduceToInt, ← Int32.toInt_inj, true_and, and_true, or_true, true_or, false_or, or_false, false_and, and_false, not_true_eq_false, not_false_eq_true] <;> omega)) hf_61 o_w (by first | omega | (simp only [Int32.lt_iff_toInt_lt, Int32.le_iff_toInt_le, Int32.reduceToInt, ← Int32.toInt_inj, true_and, and_true, or_true, true_or, false_or, or_false, false_and, and_false, not_true_eq_false, not_false_eq_true] <;> omega))) mx_X12_roomOf ml_X12_241 (by decide) rfl (cells1 := 0) (slots1 := 0) (by decide) (by decide) (Nat.le_of_ble_eq_true rfl) (Nat.le_of_ble_eq_true rfl) rfl (Nat.le_of_ble_eq_true rfl) dX12_bit_26 (fun r_66 L_67 f_68 h_69 => ?_)
    obtain ⟨rfl, hW_74, hF_75, b_70, x_71, x_72, x_73⟩ := h_69
    have fe_76 : fld (f_57 a_0) 20 = (v_42 : Int32).toInt := by rw [hf_62]; rfl
    have hf_77 := hF_75.at hf_61 rfl
    rw [fe_76] at x_73
    obtain ⟨v_79, v_80, v_82, v_84, v_86, v_88, v_90, v_91, v_92, v_93, v_95, e_78, b_81, b_83, b_85, b_87, b_89, b_94, b_96⟩ := hW_74.at m_1 t_2
    have fe_97 : fld (f_68 a_0) 20 = (v_95 : Int32).toInt := by rw [e_78]; rfl
    rw [fe_97] at x_73
    try simp only [Int32.reduceToInt, Int64.reduceToInt] at x_71
    try simp only [Int32.reduceToInt, Int64.reduceToInt] at x_72
    try simp only [Int32.reduceToInt, Int64.reduceToInt] at x_73
    refine v_iconst hC dX12_bit_29 (v := 1) (by decide) ?_
    obtain ⟨v_98, h_99⟩ : ∃ v9 : Int32, r_66 - 1 = v9 := ⟨_, rfl⟩
    refine v_isub hC dX12_bit_30 h_99 ?_
    have h_100 := sub_v h_99 (by first | omega | (simp only [Int32.lt_iff_toInt_lt, Int32.le_iff_toInt_le, Int32.reduceToInt, ← Int32.toInt_inj, true_and, and_true, or_true, true_or, false_or, or_false, false_and, and_false, not_true_eq_false, not_false_eq_true] <;> omega)) (by first | omega | (simp only [Int32.lt_iff_toInt_lt, Int32.le_iff_toInt_le, Int32.reduceToInt, ← Int32.toInt_inj, true_and, and_true, or_true, true_or, false_or, or_false, false_and, and_false, not_true_eq_false, not_false_eq_true] <;> omega))
    try simp only [Int32.reduceToInt] at h_100
    obtain ⟨v_101, h_102⟩ : ∃ v9 : Int64, v_98.toInt64 = v9 := ⟨_, rfl⟩
    refine v_i2l hC dX12_bit_31 h_102 ?_
    have h_103 : v_101.toInt = v_98.toInt := by rw [← h_102]; exact Int32.toInt_toInt64 _
    refine v_si hC (rest := []) mt_X12_in (p_X12_in hW_74) mx_X12_in ml_X12_79 (by decide) rfl (cells1 := 0) (slots1 := 0) (by decide) (by decide) (Nat.le_of_ble_eq_true rfl) (Nat.le_of_ble_eq_true rfl) rfl (Nat.le_of_ble_eq_true rfl) dX12_bit_32 (fun r_104 L_105 f_106 h_107 => ?_)
    obtain ⟨rfl, rfl, b_108, x_109⟩ := h_107
    try simp only [Int32.reduceToInt, Int64.reduceToInt] at x_109
    refine v_if_eq hC dX12_bit_35 (tgt := 47) (by decide) (fun h_112 => ?_) (fun h_112 => ?_)
    · simp only [Int32.lt_iff_toInt_lt, Int32.le_iff_toInt_le, Int32.reduceToInt, ← Int32.toInt_inj] at h_112
      refine v_iconst hC dX12_bit_47 (v := (-1)) (by decide) ?_
      exact hR _ _ _ _ _ _ _ dX12_bit_48 rfl (Nat.le_of_ble_eq_true rfl) (Nat.le_of_ble_eq_true rfl) ⟨rfl, hW_74, ((hF_60.tr hF_75).mono rfl), (by decide), (.inl (by decide)), (.inl (by decide)), (.inl (by decide))⟩
    · simp only [Int32.lt_iff_toInt_lt, Int32.le_iff_toInt_le, Int32.reduceToInt, ← Int32.toInt_inj] at h_112
      refine v_aload_n hC dX12_bit_38 rfl ?_
      refine v_iload_n hC dX12_bit_39 rfl ?_
      refine v_iload_n hC dX12_bit_40 rfl ?_
      refine v_vi hC (rest := []) m_1 e_78 rfl mi_X12_bitOf ms_X12_bitOf (p_X12_bitOf hW_74 k_0 (by first | omega | (simp only [Int32.lt_iff_toInt_lt, Int32.le_iff_toInt_le, Int32.reduceToInt, ← Int32.toInt_inj, true_and, and_true, or_true, true_or, false_or, or_false, false_and, and_false, not_true_eq_false, not_false_eq_true] <;> omega)) (by first | omega | (simp only [Int32.lt_iff_toInt_lt, Int32.le_iff_toInt_le, Int32.reduceToInt, ← Int32.toInt_inj, true_and, and_true, or_true, true_or, false_or, or_false, false_and, and_false, not_true_eq_false, not_false_eq_true] <;> omega)) hf_77 o_w (by first | omega | (simp only [Int32.lt_iff_toInt_lt, Int32.le_iff_toInt_le, Int32.reduceToInt, ← Int32.toInt_inj, true_and, and_true, or_true, true_or, false_or, or_false, false_and, and_false, not_true_eq_false, not_false_eq_true] <;> omega)) (x_71 _ (by omega) (by omega))) mx_X12_bitOf ml_X12_370 (by decide) rfl (cells1 := 0) (slots1 := 0) (by decide) (by decide) (Nat.le_of_ble_eq_true rfl) (Nat.le_of_ble_eq_true rfl) rfl (Nat.le_of_ble_eq_true rfl) dX12_bit_41 (fun r_113 L_114 f_115 h_116 => ?_)
      obtain ⟨rfl, rfl, b_117⟩ := h_116
      refine v_goto hC dX12_bit_44 (tgt := 48) (by decide) ?_
      exact hR _ _ _ _ _ _ _ dX12_bit_48 rfl (Nat.le_of_ble_eq_true rfl) (Nat.le_of_ble_eq_true rfl) ⟨rfl, hW_74, ((hF_60.tr hF_75).mono rfl), (by first | omega | (simp only [Int32.lt_iff_toInt_lt, Int32.le_iff_toInt_le, Int32.reduceToInt, ← Int32.toInt_inj, true_and, and_true, or_true, true_or, false_or, or_false, false_and, and_false, not_true_eq_false, not_false_eq_true] <;> omega)), (.inr (by first | omega | (simp only [Int32.lt_iff_toInt_lt, Int32.le_iff_toInt_le, Int32.reduceToInt, ← Int32.toInt_inj, true_and, and_true, or_true, true_or, false_or, or_false, false_and, and_false, not_true_eq_false, not_false_eq_true] <;> omega))), (.inr (by first | omega | (simp only [Int32.lt_iff_toInt_lt, Int32.le_iff_toInt_le, Int32.reduceToInt, ← Int32.toInt_inj, true_and, and_true, or_true, true_or, false_or, or_false, false_and, and_false, not_true_eq_false, not_false_eq_true] <;> omega))), (.inr (by first | omega | (simp only [Int32.lt_iff_toInt_lt, Int32.le_iff_toInt_le, Int32.reduceToInt, ← Int32.toInt_inj, true_and, and_true, or_true, true_or, false_or, or_false, false_and, and_false, not_true_eq_false, not_false_eq_true] <;> omega)))⟩
  · simp only [Int32.lt_iff_toInt_lt, Int32.le_iff_toInt_le, Int32.reduceToInt, ← Int32.toInt_inj] at h_54
    refine v_iload hC dX12_bit_13 rfl ?_
    exact hR _ _ _ _ _ _ _ dX12_bit_15 rfl (Nat.le_of_ble_eq_true rfl) (Nat.le_of_ble_eq_true rfl) ⟨rfl, hW, FR.rf, (by first | omega | (simp only [Int32.lt_iff_toInt_lt, Int32.le_iff_toInt_le, Int32.reduceToInt, ← Int32.toInt_inj, true_and, and_true, or_true, true_or, false_or, or_false, false_and, and_false, not_true_eq_false, not_false_eq_true] <;> omega)), (by first | omega | (simp only [Int32.lt_iff_toInt_lt, Int32.le_iff_toInt_le, Int32.reduceToInt, ← Int32.toInt_inj, true_and, and_true, or_true, true_or, false_or, or_false, false_and, and_false, not_true_eq_false, not_false_eq_true] <;> omega)), (by first | omega | (simp only [Int32.lt_iff_toInt_lt, Int32.le_iff_toInt_le, Int32.reduceToInt, ← Int32.toInt_inj, true_and, and_true, or_true, true_or, false_or, or_false, false_and, and_false, not_true_eq_false, not_false_eq_true] <;> omega)), (by first | omega | (simp only [Int32.lt_iff_toInt_lt, Int32.le_iff_toInt_le, Int32.reduceToInt, ← Int32.toInt_inj, true_and, and_true, or_true, true_or, false_or, or_false, false_and, and_false, not_true_eq_false, not_false_eq_true] <;> omega))⟩
set_option maxRecDepth 100000 in
set_option maxHeartbeats 4000000 in
theorem p_X12_dim {l : Launch} {E : Ez} {L : List Nat} {f : Nat → va_E} {T : Nat → va_E → Prop} {a_0 : Nat} {a_1 : Int32} {a_2 : Int32} {q : Nat → Nat} {g_w : Nat → Int32} (hW : WT T L f) (k_0 : isM T L E a_0 q) (e_w : f (q 1) = aI E 2076 g_w) (o_w : WOK g_w) : CI l yX12_dim cX12_dim 7 .int 4 0 0 E [.ref a_0, .int a_1, .int a_2] L f (fun r L1 f1 => L = L1 ∧ WT T L f1 ∧ FR [12, 356] f f1 ∧ (¬ r.toInt = 0 ∨ (0 ≤ a_1.toInt ∧ a_1.toInt ≤ 3)) ∧ (¬ r.toInt = 0 ∨ (0 ≤ a_2.toInt ∧ a_2.toInt ≤ 5))) := by
  refine ci_of (by decide) (Nat.le_of_ble_eq_true rfl) (fun z hz hnm hC hR => ?_)
  have hC : Cx z E cX12_dim RX12 7 4 0 0 := hC
  subst hz
  show V z E 7 0 0 L f 0 [(0, .ref a_0), (1, .int a_1), (2, .int a_2)] []
  obtain ⟨m_1, t_2, k_3, k_4, k_5, k_6, k_7, k_8, k_9, k_10, k_11, k_12, k_13, k_14, k_15, k_16, k_17, k_18, k_19, k_20⟩ := id k_0
  obtain ⟨m_21, t_22⟩ := id k_3
  have b_23 := o_w.r0
  have b_24 := o_w.w0
  refine v_aload_n hC dX12_dim_0 rfl ?_
  refine v_iload_n hC dX12_dim_1 rfl ?_
  refine v_iload_n hC dX12_dim_2 rfl ?_
  obtain ⟨v_26, v_27, v_29, v_31, v_33, v_35, v_37, v_38, v_39, v_40, v_42, e_25, b_28, b_30, b_32, b_34, b_36, b_41, b_43⟩ := hW.at m_1 t_2
  refine v_vi hC (rest := []) m_1 e_25 rfl mi_X12_asks ms_X12_asks (p_X12_asks hW k_0 e_w o_w) mx_X12_asks ml_X12_357 (by decide) rfl (cells1 := 0) (slots1 := 0) (by decide) (by decide) (Nat.le_of_ble_eq_true rfl) (Nat.le_of_ble_eq_true rfl) rfl (Nat.le_of_ble_eq_true rfl) dX12_dim_3 (fun r_44 L_45 f_46 h_47 => ?_)
  obtain ⟨rfl, rfl, b_48, h_49, h_50, x_51⟩ := h_47
  try simp only [Int32.reduceToInt, Int64.reduceToInt] at x_51
  refine v_istore_n hC dX12_dim_6 (by decide) (lv' := [(3, .int r_44), (0, .ref a_0), (1, .int a_1), (2, .int a_2)]) rfl ?_
  refine v_iload_n hC dX12_dim_7 rfl ?_
  refine v_if_ge hC dX12_dim_8 (tgt := 13) (by decide) (fun h_54 => ?_) (fun h_54 => ?_)
  · simp only [Int32.lt_iff_toInt_lt, Int32.le_iff_toInt_le, Int32.reduceToInt, ← Int32.toInt_inj] at h_54
    refine v_aload_n hC dX12_dim_13 rfl ?_
    refine v_iload_n hC dX12_dim_14 rfl ?_
    refine v_vv hC (rest := []) m_1 e_25 rfl mi_X12_takes0 ms_X12_takes0 (p_X12_takes0 hW k_0 (by first | omega | (simp only [Int32.lt_iff_toInt_lt, Int32.le_iff_toInt_le, Int32.reduceToInt, ← Int32.toInt_inj, true_and, and_true, or_true, true_or, false_or, or_false, false_and, and_false, not_true_eq_false, not_false_eq_true] <;> omega)) e_w o_w) mx_X12_takes0 ml_X12_363 (by decide) rfl (cells1 := 0) (slots1 := 0) (by decide) (by decide) (Nat.le_of_ble_eq_true rfl) (Nat.le_of_ble_eq_true rfl) rfl (Nat.le_of_ble_eq_true rfl) dX12_dim_15 (fun L_56 f_57 h_58 => ?_)
    obtain ⟨rfl, hW_59, hF_60⟩ := h_58
    have hf_61 := hF_60.at e_w rfl
    have hf_62 := hF_60.at e_25 rfl
    refine v_aload_n hC dX12_dim_18 rfl ?_
    refine v_iload_n hC dX12_dim_19 rfl ?_
    refine v_vi hC (rest := []) m_1 hf_62 rfl mi_X12_roomOf ms_X12_roomOf (p_X12_roomOf hW_59 k_0 (by first | omega | (simp only [Int32.lt_iff_toInt_lt, Int32.le_iff_toInt_le, Int32.reduceToInt, ← Int32.toInt_inj, true_and, and_true, or_true, true_or, false_or, or_false, false_and, and_false, not_true_eq_false, not_false_eq_true] <;> omega)) hf_61 o_w (by first | omega | (simp only [Int32.lt_iff_toInt_lt, Int32.le_iff_toInt_le, Int32.reduceToInt, ← Int32.toInt_inj, true_and, and_true, or_true, true_or, false_or, or_false, false_and, and_false, not_true_eq_false, not_false_eq_true] <;> omega))) mx_X12_roomOf ml_X12_241 (by decide) rfl (cells1 := 0) (slots1 := 0) (by decide) (by decide) (Nat.le_of_ble_eq_true rfl) (Nat.le_of_ble_eq_true rfl) rfl (Nat.le_of_ble_eq_true rfl) dX12_dim_20 (fun r_63 L_64 f_65 h_66 => ?_)
    obtain ⟨rfl, hW_71, hF_72, b_67, x_68, x_69, x_70⟩ := h_66
    have fe_73 : fld (f_57 a_0) 20 = (v_42 : Int32).toInt := by rw [hf_62]; rfl
    have hf_74 := hF_72.at hf_61 rfl
    rw [fe_73] at x_70
    obtain ⟨v_76, v_77, v_79, v_81, v_83, v_85, v_87, v_88, v_89, v_90, v_92, e_75, b_78, b_80, b_82, b_84, b_86, b_91, b_93⟩ := hW_71.at m_1 t_2
    have fe_94 : fld (f_65 a_0) 20 = (v_92 : Int32).toInt := by rw [e_75]; rfl
    rw [fe_94] at x_70
    try simp only [Int32.reduceToInt, Int64.reduceToInt] at x_68
    try simp only [Int32.reduceToInt, Int64.reduceToInt] at x_69
    try simp only [Int32.reduceToInt, Int64.reduceToInt] at x_70
    refine v_istore hC dX12_dim_23 (by decide) (lv' := [(4, .int r_63), (3, .int r_44), (0, .ref a_0), (1, .int a_1), (2, .int a_2)]) rfl ?_
    refine v_iconst hC dX12_dim_25 (v := 0) (by decide) ?_
    refine v_istore hC dX12_dim_26 (by decide) (lv' := [(5, .int 0), (4, .int r_63), (3, .int r_44), (0, .ref a_0), (1, .int a_1), (2, .int a_2)]) rfl ?_
    refine v_iconst hC dX12_dim_28 (v := 0) (by decide) ?_
    refine v_istore hC dX12_dim_29 (by decide) (lv' := [(6, .int 0), (5, .int 0), (4, .int r_63), (3, .int r_44), (0, .ref a_0), (1, .int a_1), (2, .int a_2)]) rfl ?_
    have lp_336 : ∀ (n_337 : Nat) (i_333 : Int32) (b_335 : (0 ≤ i_333.toInt ∧ i_333.toInt ≤ 256)) (i_334 : Int32) (hm_339 : 256 - i_333.toInt < (n_337 : Int)), V z E 7 0 0 L f_65 31 [(6, .int i_333), (5, .int i_334), (4, .int r_63), (0, .ref a_0), (2, .int a_2)] [] := by
      intro n_337
      induction n_337 with
      | zero =>
        intro i_333 b_335 i_334 hm_339
        exfalso; omega
      | succ n_337 ih_338 =>
        intro i_333 b_335 i_334 hm_339
        refine v_iload hC dX12_dim_31 rfl ?_
        refine v_iload hC dX12_dim_33 rfl ?_
        refine v_icmp_ge hC dX12_dim_35 (tgt := 65) (by decide) (fun h_340 => ?_) (fun h_340 => ?_)
        · simp only [Int32.lt_iff_toInt_lt, Int32.le_iff_toInt_le, Int32.reduceToInt, ← Int32.toInt_inj] at h_340
          refine v_iload hC dX12_dim_65 rfl ?_
          exact hR _ _ _ _ _ _ _ dX12_dim_67 rfl (Nat.le_of_ble_eq_true rfl) (Nat.le_of_ble_eq_true rfl) ⟨rfl, hW_71, ((hF_60.tr hF_72).mono rfl), (.inr (by first | omega | (simp only [Int32.lt_iff_toInt_lt, Int32.le_iff_toInt_le, Int32.reduceToInt, ← Int32.toInt_inj, true_and, and_true, or_true, true_or, false_or, or_false, false_and, and_false, not_true_eq_false, not_false_eq_true] <;> omega))), (.inr (by first | omega | (simp only [Int32.lt_iff_toInt_lt, Int32.le_iff_toInt_le, Int32.reduceToInt, ← Int32.toInt_inj, true_and, and_true, or_true, true_or, false_or, or_false, false_and, and_false, not_true_eq_false, not_false_eq_true] <;> omega)))⟩
        · simp only [Int32.lt_iff_toInt_lt, Int32.le_iff_toInt_le, Int32.reduceToInt, ← Int32.toInt_inj] at h_340
          refine v_iload hC dX12_dim_38 rfl ?_
          refine v_aload_n hC dX12_dim_40 rfl ?_
          refine v_iload_n hC dX12_dim_41 rfl ?_
          refine v_iload hC dX12_dim_42 rfl ?_
          refine v_vi hC (rest := [.int i_334]) m_1 e_75 rfl mi_X12_bitOf ms_X12_bitOf (p_X12_bitOf hW_71 k_0 (by first | omega | (simp only [Int32.lt_iff_toInt_lt, Int32.le_iff_toInt_le, Int32.reduceToInt, ← Int32.toInt_inj, true_and, and_true, or_true, true_or, false_or, or_false, false_and, and_false, not_true_eq_false, not_false_eq_true] <;> omega)) (by first | omega | (simp only [Int32.lt_iff_toInt_lt, Int32.le_iff_toInt_le, Int32.reduceToInt, ← Int32.toInt_inj, true_and, and_true, or_true, true_or, false_or, or_false, false_and, and_false, not_true_eq_false, not_false_eq_true] <;> omega)) hf_74 o_w (by first | omega | (simp only [Int32.lt_iff_toInt_lt, Int32.le_iff_toInt_le, Int32.reduceToInt, ← Int32.toInt_inj, true_and, and_true, or_true, true_or, false_or, or_false, false_and, and_false, not_true_eq_false, not_false_eq_true] <;> omega)) (x_68 _ (by omega) (by omega))) mx_X12_bitOf ml_X12_370 (by decide) rfl (cells1 := 0) (slots1 := 0) (by decide) (by decide) (Nat.le_of_ble_eq_true rfl) (Nat.le_of_ble_eq_true rfl) rfl (Nat.le_of_ble_eq_true rfl) dX12_dim_44 (fun r_341 L_342 f_343 h_344 => ?_)
          obtain ⟨rfl, rfl, b_345⟩ := h_344
          refine v_iconst hC dX12_dim_47 (v := 2) (by decide) ?_
          refine v_icmp_ne hC dX12_dim_48 (tgt := 55) (by decide) (fun h_348 => ?_) (fun h_348 => ?_)
          · simp only [Int32.lt_iff_toInt_lt, Int32.le_iff_toInt_le, Int32.reduceToInt, ← Int32.toInt_inj] at h_348
            refine v_iconst hC dX12_dim_55 (v := 0) (by decide) ?_
            obtain ⟨v_349, h_350⟩ : ∃ v9 : Int32, i_334 + 0 = v9 := ⟨_, rfl⟩
            refine v_iadd hC dX12_dim_56 h_350 ?_
            have rg_352 := Int32.toInt_lt i_334
            have rg_353 := Int32.le_toInt i_334
            have h_351 := add_v h_350 (by first | omega | (simp only [Int32.lt_iff_toInt_lt, Int32.le_iff_toInt_le, Int32.reduceToInt, ← Int32.toInt_inj, true_and, and_true, or_true, true_or, false_or, or_false, false_and, and_false, not_true_eq_false, not_false_eq_true] <;> omega)) (by first | omega | (simp only [Int32.lt_iff_toInt_lt, Int32.le_iff_toInt_le, Int32.reduceToInt, ← Int32.toInt_inj, true_and, and_true, or_true, true_or, false_or, or_false, false_and, and_false, not_true_eq_false, not_false_eq_true] <;> omega))
            try simp only [Int32.reduceToInt] at h_351
            refine v_istore hC dX12_dim_57 (by decide) (lv' := [(5, .int v_349), (6, .int i_333), (4, .int r_63), (0, .ref a_0), (2, .int a_2)]) rfl ?_
            obtain ⟨v_354, h_355⟩ : ∃ v9 : Int32, i_333 + Int32.ofInt 1 = v9 := ⟨_, rfl⟩
            have h_356 := add_v (b := 1) h_355 (by first | omega | (simp only [Int32.lt_iff_toInt_lt, Int32.le_iff_toInt_le, Int32.reduceToInt, ← Int32.toInt_inj, true_and, and_true, or_true, true_or, false_or, or_false, false_and, and_false, not_true_eq_false, not_false_eq_true] <;> omega)) (by first | omega | (simp only [Int32.lt_iff_toInt_lt, Int32.le_iff_toInt_le, Int32.reduceToInt, ← Int32.toInt_inj, true_and, and_true, or_true, true_or, false_or, or_false, false_and, and_false, not_true_eq_false, not_false_eq_true] <;> omega))
            simp only [Int32.reduceToInt] at h_356
            refine v_iinc hC dX12_dim_59 (k := 1) rfl (v := v_354) h_355 (by decide) (lv' := [(6, .int v_354), (5, .int v_349), (4, .int r_63), (0, .ref a_0), (2, .int a_2)]) rfl ?_
            refine v_goto hC dX12_dim_62 (tgt := 31) (by decide) ?_
            refine v_pick [0, 1, 2, 3, 4] rfl ?_
            exact ih_338 v_354 (by first | omega | (simp only [Int32.lt_iff_toInt_lt, Int32.le_iff_toInt_le, Int32.reduceToInt, ← Int32.toInt_inj, true_and, and_true, or_true, true_or, false_or, or_false, false_and, and_false, not_true_eq_false, not_false_eq_true] <;> omega)) v_349 (by first | omega | (simp only [Int32.lt_iff_toInt_lt, Int32.le_iff_toInt_le, Int32.reduceToInt, ← Int32.toInt_inj, true_and, and_true, or_true, true_or, false_or, or_false, false_and, and_false, not_true_eq_false, not_false_eq_true] <;> omega))
          · simp only [Int32.lt_iff_toInt_lt, Int32.le_iff_toInt_le, Int32.reduceToInt, ← Int32.toInt_inj] at h_348
            refine v_iconst hC dX12_dim_51 (v := 1) (by decide) ?_
            refine v_goto hC dX12_dim_52 (tgt := 56) (by decide) ?_
            obtain ⟨v_357, h_358⟩ : ∃ v9 : Int32, i_334 + 1 = v9 := ⟨_, rfl⟩
            refine v_iadd hC dX12_dim_56 h_358 ?_
            refine v_istore hC dX12_dim_57 (by decide) (lv' := [(5, .int v_357), (6, .int i_333), (4, .int r_63), (0, .ref a_0), (2, .int a_2)]) rfl ?_
            obtain ⟨v_360, h_361⟩ : ∃ v9 : Int32, i_333 + Int32.ofInt 1 = v9 := ⟨_, rfl⟩
            have h_362 := add_v (b := 1) h_361 (by first | omega | (simp only [Int32.lt_iff_toInt_lt, Int32.le_iff_toInt_le, Int32.reduceToInt, ← Int32.toInt_inj, true_and, and_true, or_true, true_or, false_or, or_false, false_and, and_false, not_true_eq_false, not_false_eq_true] <;> omega)) (by first | omega | (simp only [Int32.lt_iff_toInt_lt, Int32.le_iff_toInt_le, Int32.reduceToInt, ← Int32.toInt_inj, true_and, and_true, or_true, true_or, false_or, or_false, false_and, and_false, not_true_eq_false, not_false_eq_true] <;> omega))
            simp only [Int32.reduceToInt] at h_362
            refine v_iinc hC dX12_dim_59 (k := 1) rfl (v := v_360) h_361 (by decide) (lv' := [(6, .int v_360), (5, .int v_357), (4, .int r_63), (0, .ref a_0), (2, .int a_2)]) rfl ?_
            refine v_goto hC dX12_dim_62 (tgt := 31) (by decide) ?_
            refine v_pick [0, 1, 2, 3, 4] rfl ?_
            exact ih_338 v_360 (by first | omega | (simp only [Int32.lt_iff_toInt_lt, Int32.le_iff_toInt_le, Int32.reduceToInt, ← Int32.toInt_inj, true_and, and_true, or_true, true_or, false_or, or_false, false_and, and_false, not_true_eq_false, not_false_eq_true] <;> omega)) v_357 (by first | omega | (simp only [Int32.lt_iff_toInt_lt, Int32.le_iff_toInt_le, Int32.reduceToInt, ← Int32.toInt_inj, true_and, and_true, or_true, true_or, false_or, or_false, false_and, and_false, not_true_eq_false, not_false_eq_true] <;> omega))
    refine v_pick [0, 1, 2, 4, 6] rfl ?_
    exact lp_336 258 0 (by decide) 0 (by decide)
  · simp only [Int32.lt_iff_toInt_lt, Int32.le_iff_toInt_le, Int32.reduceToInt, ← Int32.toInt_inj] at h_54
    refine v_iload_n hC dX12_dim_11 rfl ?_
    exact hR _ _ _ _ _ _ _ dX12_dim_12 rfl (Nat.le_of_ble_eq_true rfl) (Nat.le_of_ble_eq_true rfl) ⟨rfl, hW, FR.rf, (by first | omega | (simp only [Int32.lt_iff_toInt_lt, Int32.le_iff_toInt_le, Int32.reduceToInt, ← Int32.toInt_inj, true_and, and_true, or_true, true_or, false_or, or_false, false_and, and_false, not_true_eq_false, not_false_eq_true] <;> omega)), (by first | omega | (simp only [Int32.lt_iff_toInt_lt, Int32.le_iff_toInt_le, Int32.reduceToInt, ← Int32.toInt_inj, true_and, and_true, or_true, true_or, false_or, or_false, false_and, and_false, not_true_eq_false, not_false_eq_true] <;> omega))⟩
set_option maxRecDepth 100000 in
set_option maxHeartbeats 4000000 in
theorem p_X12_says {l : Launch} {E : Ez} {L : List Nat} {f : Nat → va_E} {T : Nat → va_E → Prop} {a_0 : Nat} {a_1 : Int32} {q : Nat → Nat} {g_w : Nat → Int32} (hW : WT T L f) (k_0 : isM T L E a_0 q) (e_w : f (q 1) = aI E 2076 g_w) (o_w : WOK g_w) : CI l yX12_says cX12_says 5 .int 5 0 0 E [.ref a_0, .int a_1] L f (fun r L1 f1 => L = L1 ∧ WT T L f1 ∧ FR [12, 200, 356] f f1 ∧ (¬ r.toInt = 0 ∨ (0 ≤ a_1.toInt ∧ a_1.toInt ≤ 3))) := by
  refine ci_of (by decide) (Nat.le_of_ble_eq_true rfl) (fun z hz hnm hC hR => ?_)
  have hC : Cx z E cX12_says RX12 5 5 0 0 := hC
  subst hz
  show V z E 5 0 0 L f 0 [(0, .ref a_0), (1, .int a_1)] []
  obtain ⟨m_1, t_2, k_3, k_4, k_5, k_6, k_7, k_8, k_9, k_10, k_11, k_12, k_13, k_14, k_15, k_16, k_17, k_18, k_19, k_20⟩ := id k_0
  obtain ⟨m_21, t_22⟩ := id k_3
  have b_23 := o_w.r0
  have b_24 := o_w.w0
  refine v_aload_n hC dX12_says_0 rfl ?_
  refine v_iload_n hC dX12_says_1 rfl ?_
  obtain ⟨v_26, v_27, v_29, v_31, v_33, v_35, v_37, v_38, v_39, v_40, v_42, e_25, b_28, b_30, b_32, b_34, b_36, b_41, b_43⟩ := hW.at m_1 t_2
  refine v_vi hC (rest := []) m_1 e_25 rfl mi_X12_asksCloth ms_X12_asksCloth (p_X12_asksCloth hW k_0 e_w o_w) mx_X12_asksCloth ml_X12_376 (by decide) rfl (cells1 := 0) (slots1 := 0) (by decide) (by decide) (Nat.le_of_ble_eq_true rfl) (Nat.le_of_ble_eq_true rfl) rfl (Nat.le_of_ble_eq_true rfl) dX12_says_2 (fun r_44 L_45 f_46 h_47 => ?_)
  obtain ⟨rfl, rfl, b_48, h_49⟩ := h_47
  refine v_istore_n hC dX12_says_5 (by decide) (lv' := [(2, .int r_44), (0, .ref a_0), (1, .int a_1)]) rfl ?_
  refine v_iload_n hC dX12_says_6 rfl ?_
  refine v_if_ge hC dX12_says_7 (tgt := 12) (by decide) (fun h_52 => ?_) (fun h_52 => ?_)
  · simp only [Int32.lt_iff_toInt_lt, Int32.le_iff_toInt_le, Int32.reduceToInt, ← Int32.toInt_inj] at h_52
    refine v_aload_n hC dX12_says_12 rfl ?_
    refine v_iload_n hC dX12_says_13 rfl ?_
    refine v_vv hC (rest := []) m_1 e_25 rfl mi_X12_takes0 ms_X12_takes0 (p_X12_takes0 hW k_0 (by first | omega | (simp only [Int32.lt_iff_toInt_lt, Int32.le_iff_toInt_le, Int32.reduceToInt, ← Int32.toInt_inj, true_and, and_true, or_true, true_or, false_or, or_false, false_and, and_false, not_true_eq_false, not_false_eq_true] <;> omega)) e_w o_w) mx_X12_takes0 ml_X12_363 (by decide) rfl (cells1 := 0) (slots1 := 0) (by decide) (by decide) (Nat.le_of_ble_eq_true rfl) (Nat.le_of_ble_eq_true rfl) rfl (Nat.le_of_ble_eq_true rfl) dX12_says_14 (fun L_54 f_55 h_56 => ?_)
    obtain ⟨rfl, hW_57, hF_58⟩ := h_56
    have hf_59 := hF_58.at e_w rfl
    have hf_60 := hF_58.at e_25 rfl
    refine v_iconst hC dX12_says_17 (v := 0) (by decide) ?_
    refine v_istore_n hC dX12_says_18 (by decide) (lv' := [(3, .int 0), (2, .int r_44), (0, .ref a_0), (1, .int a_1)]) rfl ?_
    refine v_iconst hC dX12_says_19 (v := 0) (by decide) ?_
    refine v_istore hC dX12_says_20 (by decide) (lv' := [(4, .int 0), (3, .int 0), (2, .int r_44), (0, .ref a_0), (1, .int a_1)]) rfl ?_
    have lp_667 : ∀ (n_668 : Nat) (f_662 : Nat → va_E) (hW_663 : WT T L f_662) (hF_664 : FR [12, 200, 356] f_55 f_662) (i_660 : Int32) (b_666 : (0 ≤ i_660.toInt ∧ i_660.toInt ≤ 6)) (i_661 : Int32) (hm_670 : 6 - i_660.toInt < (n_668 : Int)), V z E 5 0 0 L f_662 22 [(4, .int i_660), (3, .int i_661), (0, .ref a_0)] [] := by
      intro n_668
      induction n_668 with
      | zero =>
        intro f_662 hW_663 hF_664 i_660 b_666 i_661 hm_670
        have hf_665 := hF_664.at hf_59 rfl
        exfalso; omega
      | succ n_668 ih_669 =>
        intro f_662 hW_663 hF_664 i_660 b_666 i_661 hm_670
        have hf_665 := hF_664.at hf_59 rfl
        refine v_iload hC dX12_says_22 rfl ?_
        refine v_bipush hC dX12_says_24 (v := 6) (by decide) ?_
        refine v_icmp_ge hC dX12_says_26 (tgt := 65) (by decide) (fun h_671 => ?_) (fun h_671 => ?_)
        · simp only [Int32.lt_iff_toInt_lt, Int32.le_iff_toInt_le, Int32.reduceToInt, ← Int32.toInt_inj] at h_671
          refine v_iload_n hC dX12_says_65 rfl ?_
          exact hR _ _ _ _ _ _ _ dX12_says_66 rfl (Nat.le_of_ble_eq_true rfl) (Nat.le_of_ble_eq_true rfl) ⟨rfl, hW_663, ((hF_58.tr hF_664).mono rfl), (.inr (by first | omega | (simp only [Int32.lt_iff_toInt_lt, Int32.le_iff_toInt_le, Int32.reduceToInt, ← Int32.toInt_inj, true_and, and_true, or_true, true_or, false_or, or_false, false_and, and_false, not_true_eq_false, not_false_eq_true] <;> omega)))⟩
        · simp only [Int32.lt_iff_toInt_lt, Int32.le_iff_toInt_le, Int32.reduceToInt, ← Int32.toInt_inj] at h_671
          refine v_iload_n hC dX12_says_29 rfl ?_
          refine v_aload_n hC dX12_says_30 rfl ?_
          refine v_iload hC dX12_says_31 rfl ?_
          obtain ⟨v_673, v_674, v_676, v_678, v_680, v_682, v_684, v_685, v_686, v_687, v_689, e_672, b_675, b_677, b_679, b_681, b_683, b_688, b_690⟩ := hW_663.at m_1 t_2
          refine v_vi hC (rest := [.int i_661]) m_1 e_672 rfl mi_X12_isTold ms_X12_isTold (p_X12_isTold hW_663 k_0 (by first | omega | (simp only [Int32.lt_iff_toInt_lt, Int32.le_iff_toInt_le, Int32.reduceToInt, ← Int32.toInt_inj, true_and, and_true, or_true, true_or, false_or, or_false, false_and, and_false, not_true_eq_false, not_false_eq_true] <;> omega)) hf_665 o_w) mx_X12_isTold ml_X12_354 (by decide) rfl (cells1 := 0) (slots1 := 0) (by decide) (by decide) (Nat.le_of_ble_eq_true rfl) (Nat.le_of_ble_eq_true rfl) rfl (Nat.le_of_ble_eq_true rfl) dX12_says_33 (fun r_691 L_692 f_693 h_694 => ?_)
          obtain ⟨rfl, rfl, b_695, x_696⟩ := h_694
          try simp only [Int32.reduceToInt, Int64.reduceToInt] at x_696
          refine v_if_eq hC dX12_says_36 (tgt := 56) (by decide) (fun h_699 => ?_) (fun h_699 => ?_)
          · simp only [Int32.lt_iff_toInt_lt, Int32.le_iff_toInt_le, Int32.reduceToInt, ← Int32.toInt_inj] at h_699
            refine v_iconst hC dX12_says_56 (v := 0) (by decide) ?_
            obtain ⟨v_700, h_701⟩ : ∃ v9 : Int32, i_661 ||| 0 = v9 := ⟨_, rfl⟩
            refine v_ior hC dX12_says_57 h_701 ?_
            refine v_istore_n hC dX12_says_58 (by decide) (lv' := [(3, .int v_700), (4, .int i_660), (0, .ref a_0)]) rfl ?_
            obtain ⟨v_703, h_704⟩ : ∃ v9 : Int32, i_660 + Int32.ofInt 1 = v9 := ⟨_, rfl⟩
            have h_705 := add_v (b := 1) h_704 (by first | omega | (simp only [Int32.lt_iff_toInt_lt, Int32.le_iff_toInt_le, Int32.reduceToInt, ← Int32.toInt_inj, true_and, and_true, or_true, true_or, false_or, or_false, false_and, and_false, not_true_eq_false, not_false_eq_true] <;> omega)) (by first | omega | (simp only [Int32.lt_iff_toInt_lt, Int32.le_iff_toInt_le, Int32.reduceToInt, ← Int32.toInt_inj, true_and, and_true, or_true, true_or, false_or, or_false, false_and, and_false, not_true_eq_false, not_false_eq_true] <;> omega))
            simp only [Int32.reduceToInt] at h_705
            refine v_iinc hC dX12_says_59 (k := 1) rfl (v := v_703) h_704 (by decide) (lv' := [(4, .int v_703), (3, .int v_700), (0, .ref a_0)]) rfl ?_
            refine v_goto hC dX12_says_62 (tgt := 22) (by decide) ?_
            refine v_pick [0, 1, 2] rfl ?_
            exact ih_669 f_662 hW_663 (hF_664.mono rfl) v_703 (by first | omega | (simp only [Int32.lt_iff_toInt_lt, Int32.le_iff_toInt_le, Int32.reduceToInt, ← Int32.toInt_inj, true_and, and_true, or_true, true_or, false_or, or_false, false_and, and_false, not_true_eq_false, not_false_eq_true] <;> omega)) v_700 (by first | omega | (simp only [Int32.lt_iff_toInt_lt, Int32.le_iff_toInt_le, Int32.reduceToInt, ← Int32.toInt_inj, true_and, and_true, or_true, true_or, false_or, or_false, false_and, and_false, not_true_eq_false, not_false_eq_true] <;> omega))
          · simp only [Int32.lt_iff_toInt_lt, Int32.le_iff_toInt_le, Int32.reduceToInt, ← Int32.toInt_inj] at h_699
            refine v_aload_n hC dX12_says_39 rfl ?_
            refine v_iload hC dX12_says_40 rfl ?_
            refine v_vi hC (rest := [.int i_661]) m_1 e_672 rfl mi_X12_reads ms_X12_reads (p_X12_reads hW_663 k_0 (by first | omega | (simp only [Int32.lt_iff_toInt_lt, Int32.le_iff_toInt_le, Int32.reduceToInt, ← Int32.toInt_inj, true_and, and_true, or_true, true_or, false_or, or_false, false_and, and_false, not_true_eq_false, not_false_eq_true] <;> omega)) hf_665 o_w (by first | omega | (simp only [Int32.lt_iff_toInt_lt, Int32.le_iff_toInt_le, Int32.reduceToInt, ← Int32.toInt_inj, true_and, and_true, or_true, true_or, false_or, or_false, false_and, and_false, not_true_eq_false, not_false_eq_true] <;> omega))) mx_X12_reads ml_X12_373 (by decide) rfl (cells1 := 0) (slots1 := 0) (by decide) (by decide) (Nat.le_of_ble_eq_true rfl) (Nat.le_of_ble_eq_true rfl) rfl (Nat.le_of_ble_eq_true rfl) dX12_says_42 (fun r_706 L_707 f_708 h_709 => ?_)
            obtain ⟨rfl, hW_712, hF_713, b_710, x_711⟩ := h_709
            have fe_714 : fld (f_662 a_0) 20 = (v_689 : Int32).toInt := by rw [e_672]; rfl
            have hf_715 := hF_713.at hf_665 rfl
            rw [fe_714] at x_711
            obtain ⟨v_717, v_718, v_720, v_722, v_724, v_726, v_728, v_729, v_730, v_731, v_733, e_716, b_719, b_721, b_723, b_725, b_727, b_732, b_734⟩ := hW_712.at m_1 t_2
            have fe_735 : fld (f_708 a_0) 20 = (v_733 : Int32).toInt := by rw [e_716]; rfl
            rw [fe_735] at x_711
            try simp only [Int32.reduceToInt, Int64.reduceToInt] at x_711
            refine v_iconst hC dX12_says_45 (v := (-1)) (by decide) ?_
            refine v_icmp_eq hC dX12_says_46 (tgt := 56) (by decide) (fun h_736 => ?_) (fun h_736 => ?_)
            · simp only [Int32.lt_iff_toInt_lt, Int32.le_iff_toInt_le, Int32.reduceToInt, ← Int32.toInt_inj] at h_736
              refine v_iconst hC dX12_says_56 (v := 0) (by decide) ?_
              obtain ⟨v_737, h_738⟩ : ∃ v9 : Int32, i_661 ||| 0 = v9 := ⟨_, rfl⟩
              refine v_ior hC dX12_says_57 h_738 ?_
              refine v_istore_n hC dX12_says_58 (by decide) (lv' := [(3, .int v_737), (4, .int i_660), (0, .ref a_0)]) rfl ?_
              obtain ⟨v_740, h_741⟩ : ∃ v9 : Int32, i_660 + Int32.ofInt 1 = v9 := ⟨_, rfl⟩
              have h_742 := add_v (b := 1) h_741 (by first | omega | (simp only [Int32.lt_iff_toInt_lt, Int32.le_iff_toInt_le, Int32.reduceToInt, ← Int32.toInt_inj, true_and, and_true, or_true, true_or, false_or, or_false, false_and, and_false, not_true_eq_false, not_false_eq_true] <;> omega)) (by first | omega | (simp only [Int32.lt_iff_toInt_lt, Int32.le_iff_toInt_le, Int32.reduceToInt, ← Int32.toInt_inj, true_and, and_true, or_true, true_or, false_or, or_false, false_and, and_false, not_true_eq_false, not_false_eq_true] <;> omega))
              simp only [Int32.reduceToInt] at h_742
              refine v_iinc hC dX12_says_59 (k := 1) rfl (v := v_740) h_741 (by decide) (lv' := [(4, .int v_740), (3, .int v_737), (0, .ref a_0)]) rfl ?_
              refine v_goto hC dX12_says_62 (tgt := 22) (by decide) ?_
              refine v_pick [0, 1, 2] rfl ?_
              exact ih_669 f_708 hW_712 ((hF_664.tr hF_713).mono rfl) v_740 (by first | omega | (simp only [Int32.lt_iff_toInt_lt, Int32.le_iff_toInt_le, Int32.reduceToInt, ← Int32.toInt_inj, true_and, and_true, or_true, true_or, false_or, or_false, false_and, and_false, not_true_eq_false, not_false_eq_true] <;> omega)) v_737 (by first | omega | (simp only [Int32.lt_iff_toInt_lt, Int32.le_iff_toInt_le, Int32.reduceToInt, ← Int32.toInt_inj, true_and, and_true, or_true, true_or, false_or, or_false, false_and, and_false, not_true_eq_false, not_false_eq_true] <;> omega))
            · simp only [Int32.lt_iff_toInt_lt, Int32.le_iff_toInt_le, Int32.reduceToInt, ← Int32.toInt_inj] at h_736
              refine v_iconst hC dX12_says_49 (v := 1) (by decide) ?_
              refine v_iload hC dX12_says_50 rfl ?_
              obtain ⟨v_743, h_744⟩ : ∃ v9 : Int32, (1 : Int32) <<< (i_660 &&& 31) = v9 := ⟨_, rfl⟩
              refine v_ishl hC dX12_says_52 h_744 ?_
              refine v_goto hC dX12_says_53 (tgt := 57) (by decide) ?_
              obtain ⟨v_746, h_747⟩ : ∃ v9 : Int32, i_661 ||| v_743 = v9 := ⟨_, rfl⟩
              refine v_ior hC dX12_says_57 h_747 ?_
              refine v_istore_n hC dX12_says_58 (by decide) (lv' := [(3, .int v_746), (4, .int i_660), (0, .ref a_0)]) rfl ?_
              obtain ⟨v_749, h_750⟩ : ∃ v9 : Int32, i_660 + Int32.ofInt 1 = v9 := ⟨_, rfl⟩
              have h_751 := add_v (b := 1) h_750 (by first | omega | (simp only [Int32.lt_iff_toInt_lt, Int32.le_iff_toInt_le, Int32.reduceToInt, ← Int32.toInt_inj, true_and, and_true, or_true, true_or, false_or, or_false, false_and, and_false, not_true_eq_false, not_false_eq_true] <;> omega)) (by first | omega | (simp only [Int32.lt_iff_toInt_lt, Int32.le_iff_toInt_le, Int32.reduceToInt, ← Int32.toInt_inj, true_and, and_true, or_true, true_or, false_or, or_false, false_and, and_false, not_true_eq_false, not_false_eq_true] <;> omega))
              simp only [Int32.reduceToInt] at h_751
              refine v_iinc hC dX12_says_59 (k := 1) rfl (v := v_749) h_750 (by decide) (lv' := [(4, .int v_749), (3, .int v_746), (0, .ref a_0)]) rfl ?_
              refine v_goto hC dX12_says_62 (tgt := 22) (by decide) ?_
              refine v_pick [0, 1, 2] rfl ?_
              exact ih_669 f_708 hW_712 ((hF_664.tr hF_713).mono rfl) v_749 (by first | omega | (simp only [Int32.lt_iff_toInt_lt, Int32.le_iff_toInt_le, Int32.reduceToInt, ← Int32.toInt_inj, true_and, and_true, or_true, true_or, false_or, or_false, false_and, and_false, not_true_eq_false, not_false_eq_true] <;> omega)) v_746 (by first | omega | (simp only [Int32.lt_iff_toInt_lt, Int32.le_iff_toInt_le, Int32.reduceToInt, ← Int32.toInt_inj, true_and, and_true, or_true, true_or, false_or, or_false, false_and, and_false, not_true_eq_false, not_false_eq_true] <;> omega))
    refine v_pick [0, 1, 3] rfl ?_
    exact lp_667 8 f_55 hW_57 FR.rf 0 (by decide) 0 (by decide)
  · simp only [Int32.lt_iff_toInt_lt, Int32.le_iff_toInt_le, Int32.reduceToInt, ← Int32.toInt_inj] at h_52
    refine v_iload_n hC dX12_says_10 rfl ?_
    exact hR _ _ _ _ _ _ _ dX12_says_11 rfl (Nat.le_of_ble_eq_true rfl) (Nat.le_of_ble_eq_true rfl) ⟨rfl, hW, FR.rf, (by first | omega | (simp only [Int32.lt_iff_toInt_lt, Int32.le_iff_toInt_le, Int32.reduceToInt, ← Int32.toInt_inj, true_and, and_true, or_true, true_or, false_or, or_false, false_and, and_false, not_true_eq_false, not_false_eq_true] <;> omega))⟩
set_option maxRecDepth 100000 in
set_option maxHeartbeats 4000000 in
theorem p_X12_at {l : Launch} {E : Ez} {L : List Nat} {f : Nat → va_E} {T : Nat → va_E → Prop} {a_0 : Nat} {a_1 : Int32} {a_2 : Int32} {a_3 : Int32} {q : Nat → Nat} {g_w : Nat → Int32} (hW : WT T L f) (k_0 : isM T L E a_0 q) (e_w : f (q 1) = aI E 2076 g_w) (o_w : WOK g_w) : CI l yX12_at cX12_at 4 .int 2 0 0 E [.ref a_0, .int a_1, .int a_2, .int a_3] L f (fun r L1 f1 => L = L1 ∧ f = f1 ∧ (¬ r.toInt = 0 ∨ (0 ≤ a_1.toInt ∧ a_1.toInt ≤ 3)) ∧ (¬ r.toInt = 0 ∨ (0 ≤ a_2.toInt ∧ a_2.toInt ≤ 15)) ∧ (¬ r.toInt = 0 ∨ (0 ≤ a_3.toInt ∧ a_3.toInt ≤ 15))) := by
  refine ci_of (by decide) (Nat.le_of_ble_eq_true rfl) (fun z hz hnm hC hR => ?_)
  have hC : Cx z E cX12_at RX12 4 2 0 0 := hC
  subst hz
  show V z E 4 0 0 L f 0 [(0, .ref a_0), (1, .int a_1), (2, .int a_2), (3, .int a_3)] []
  obtain ⟨m_1, t_2, k_3, k_4, k_5, k_6, k_7, k_8, k_9, k_10, k_11, k_12, k_13, k_14, k_15, k_16, k_17, k_18, k_19, k_20⟩ := id k_0
  obtain ⟨m_21, t_22⟩ := id k_3
  have b_23 := o_w.r0
  have b_24 := o_w.w0
  refine v_iload_n hC dX12_at_0 rfl ?_
  refine v_si hC (rest := []) mt_X12_isCloth (p_X12_isCloth hW) mx_X12_isCloth ml_X12_319 (by decide) rfl (cells1 := 0) (slots1 := 0) (by decide) (by decide) (Nat.le_of_ble_eq_true rfl) (Nat.le_of_ble_eq_true rfl) rfl (Nat.le_of_ble_eq_true rfl) dX12_at_1 (fun r_25 L_26 f_27 h_28 => ?_)
  obtain ⟨rfl, rfl, b_29, h_30⟩ := h_28
  refine v_if_eq hC dX12_at_4 (tgt := 40) (by decide) (fun h_33 => ?_) (fun h_33 => ?_)
  · simp only [Int32.lt_iff_toInt_lt, Int32.le_iff_toInt_le, Int32.reduceToInt, ← Int32.toInt_inj] at h_33
    refine v_iconst hC dX12_at_40 (v := (-1)) (by decide) ?_
    exact hR _ _ _ _ _ _ _ dX12_at_41 rfl (Nat.le_of_ble_eq_true rfl) (Nat.le_of_ble_eq_true rfl) ⟨rfl, rfl, (.inl (by decide)), (.inl (by decide)), (.inl (by decide))⟩
  · simp only [Int32.lt_iff_toInt_lt, Int32.le_iff_toInt_le, Int32.reduceToInt, ← Int32.toInt_inj] at h_33
    refine v_aload_n hC dX12_at_7 rfl ?_
    refine v_iload_n hC dX12_at_8 rfl ?_
    obtain ⟨v_35, v_36, v_38, v_40, v_42, v_44, v_46, v_47, v_48, v_49, v_51, e_34, b_37, b_39, b_41, b_43, b_45, b_50, b_52⟩ := hW.at m_1 t_2
    refine v_vi hC (rest := []) m_1 e_34 rfl mi_X12_isThere ms_X12_isThere (p_X12_isThere hW k_0 (by first | omega | (simp only [Int32.lt_iff_toInt_lt, Int32.le_iff_toInt_le, Int32.reduceToInt, ← Int32.toInt_inj, true_and, and_true, or_true, true_or, false_or, or_false, false_and, and_false, not_true_eq_false, not_false_eq_true] <;> omega)) e_w o_w) mx_X12_isThere ml_X12_351 (by decide) rfl (cells1 := 0) (slots1 := 0) (by decide) (by decide) (Nat.le_of_ble_eq_true rfl) (Nat.le_of_ble_eq_true rfl) rfl (Nat.le_of_ble_eq_true rfl) dX12_at_9 (fun r_53 L_54 f_55 h_56 => ?_)
    obtain ⟨rfl, rfl, b_57⟩ := h_56
    refine v_if_eq hC dX12_at_12 (tgt := 40) (by decide) (fun h_60 => ?_) (fun h_60 => ?_)
    · simp only [Int32.lt_iff_toInt_lt, Int32.le_iff_toInt_le, Int32.reduceToInt, ← Int32.toInt_inj] at h_60
      refine v_iconst hC dX12_at_40 (v := (-1)) (by decide) ?_
      exact hR _ _ _ _ _ _ _ dX12_at_41 rfl (Nat.le_of_ble_eq_true rfl) (Nat.le_of_ble_eq_true rfl) ⟨rfl, rfl, (.inl (by decide)), (.inl (by decide)), (.inl (by decide))⟩
    · simp only [Int32.lt_iff_toInt_lt, Int32.le_iff_toInt_le, Int32.reduceToInt, ← Int32.toInt_inj] at h_60
      refine v_aload_n hC dX12_at_15 rfl ?_
      refine v_iload_n hC dX12_at_16 rfl ?_
      refine v_iload_n hC dX12_at_17 rfl ?_
      refine v_vi hC (rest := []) m_1 e_34 rfl mi_X12_isPlace ms_X12_isPlace (p_X12_isPlace hW k_0 e_w o_w) mx_X12_isPlace ml_X12_379 (by decide) rfl (cells1 := 0) (slots1 := 0) (by decide) (by decide) (Nat.le_of_ble_eq_true rfl) (Nat.le_of_ble_eq_true rfl) rfl (Nat.le_of_ble_eq_true rfl) dX12_at_18 (fun r_61 L_62 f_63 h_64 => ?_)
      obtain ⟨rfl, rfl, b_65, h_66, h_67, x_68⟩ := h_64
      try simp only [Int32.reduceToInt, Int64.reduceToInt] at x_68
      refine v_if_eq hC dX12_at_21 (tgt := 40) (by decide) (fun h_71 => ?_) (fun h_71 => ?_)
      · simp only [Int32.lt_iff_toInt_lt, Int32.le_iff_toInt_le, Int32.reduceToInt, ← Int32.toInt_inj] at h_71
        refine v_iconst hC dX12_at_40 (v := (-1)) (by decide) ?_
        exact hR _ _ _ _ _ _ _ dX12_at_41 rfl (Nat.le_of_ble_eq_true rfl) (Nat.le_of_ble_eq_true rfl) ⟨rfl, rfl, (.inl (by decide)), (.inl (by decide)), (.inl (by decide))⟩
      · simp only [Int32.lt_iff_toInt_lt, Int32.le_iff_toInt_le, Int32.reduceToInt, ← Int32.toInt_inj] at h_71
        refine v_aload_n hC dX12_at_24 rfl ?_
        refine v_iload_n hC dX12_at_25 rfl ?_
        refine v_iload_n hC dX12_at_26 rfl ?_
        refine v_aload_n hC dX12_at_27 rfl ?_
        refine v_vi hC (rest := [.int a_2, .int a_1, .ref a_0]) m_1 e_34 rfl mi_X12_wide ms_X12_wide (p_X12_wide hW k_0 e_w o_w) mx_X12_wide ml_X12_87 (by decide) rfl (cells1 := 0) (slots1 := 0) (by decide) (by decide) (Nat.le_of_ble_eq_true rfl) (Nat.le_of_ble_eq_true rfl) rfl (Nat.le_of_ble_eq_true rfl) dX12_at_28 (fun r_72 L_73 f_74 h_75 => ?_)
        obtain ⟨rfl, rfl, rfl⟩ := h_75
        obtain ⟨v_78, h_79⟩ : ∃ v9 : Int32, a_2 * (g_w 1) = v9 := ⟨_, rfl⟩
        refine v_imul hC dX12_at_31 h_79 ?_
        have h_80 := mul_v 15 16 240 h_79 (by first | omega | (simp only [Int32.lt_iff_toInt_lt, Int32.le_iff_toInt_le, Int32.reduceToInt, ← Int32.toInt_inj, true_and, and_true, or_true, true_or, false_or, or_false, false_and, and_false, not_true_eq_false, not_false_eq_true] <;> omega)) (by first | omega | (simp only [Int32.lt_iff_toInt_lt, Int32.le_iff_toInt_le, Int32.reduceToInt, ← Int32.toInt_inj, true_and, and_true, or_true, true_or, false_or, or_false, false_and, and_false, not_true_eq_false, not_false_eq_true] <;> omega)) (by decide) (by decide)
        refine v_iload_n hC dX12_at_32 rfl ?_
        obtain ⟨v_81, h_82⟩ : ∃ v9 : Int32, v_78 + a_3 = v9 := ⟨_, rfl⟩
        refine v_iadd hC dX12_at_33 h_82 ?_
        have h_83 := add_v h_82 (by first | omega | (simp only [Int32.lt_iff_toInt_lt, Int32.le_iff_toInt_le, Int32.reduceToInt, ← Int32.toInt_inj, true_and, and_true, or_true, true_or, false_or, or_false, false_and, and_false, not_true_eq_false, not_false_eq_true] <;> omega)) (by first | omega | (simp only [Int32.lt_iff_toInt_lt, Int32.le_iff_toInt_le, Int32.reduceToInt, ← Int32.toInt_inj, true_and, and_true, or_true, true_or, false_or, or_false, false_and, and_false, not_true_eq_false, not_false_eq_true] <;> omega))
        refine v_vi hC (rest := []) m_1 e_34 rfl mi_X12_stands ms_X12_stands (p_X12_stands hW k_0 (by first | omega | (simp only [Int32.lt_iff_toInt_lt, Int32.le_iff_toInt_le, Int32.reduceToInt, ← Int32.toInt_inj, true_and, and_true, or_true, true_or, false_or, or_false, false_and, and_false, not_true_eq_false, not_false_eq_true] <;> omega)) (by first | omega | (simp only [Int32.lt_iff_toInt_lt, Int32.le_iff_toInt_le, Int32.reduceToInt, ← Int32.toInt_inj, true_and, and_true, or_true, true_or, false_or, or_false, false_and, and_false, not_true_eq_false, not_false_eq_true] <;> omega)) e_w o_w) mx_X12_stands ml_X12_301 (by decide) rfl (cells1 := 0) (slots1 := 0) (by decide) (by decide) (Nat.le_of_ble_eq_true rfl) (Nat.le_of_ble_eq_true rfl) rfl (Nat.le_of_ble_eq_true rfl) dX12_at_34 (fun r_84 L_85 f_86 h_87 => ?_)
        obtain ⟨rfl, rfl⟩ := h_87
        refine v_goto hC dX12_at_37 (tgt := 41) (by decide) ?_
        exact hR _ _ _ _ _ _ _ dX12_at_41 rfl (Nat.le_of_ble_eq_true rfl) (Nat.le_of_ble_eq_true rfl) ⟨rfl, rfl, (.inr (by first | omega | (simp only [Int32.lt_iff_toInt_lt, Int32.le_iff_toInt_le, Int32.reduceToInt, ← Int32.toInt_inj, true_and, and_true, or_true, true_or, false_or, or_false, false_and, and_false, not_true_eq_false, not_false_eq_true] <;> omega))), (.inr (by first | omega | (simp only [Int32.lt_iff_toInt_lt, Int32.le_iff_toInt_le, Int32.reduceToInt, ← Int32.toInt_inj, true_and, and_true, or_true, true_or, false_or, or_false, false_and, and_false, not_true_eq_false, not_false_eq_true] <;> omega))), (.inr (by first | omega | (simp only [Int32.lt_iff_toInt_lt, Int32.le_iff_toInt_le, Int32.reduceToInt, ← Int32.toInt_inj, true_and, and_true, or_true, true_or, false_or, or_false, false_and, and_false, not_true_eq_false, not_false_eq_true] <;> omega)))⟩
set_option maxRecDepth 100000 in
set_option maxHeartbeats 4000000 in
theorem p_X12_sort {l : Launch} {E : Ez} {L : List Nat} {f : Nat → va_E} {T : Nat → va_E → Prop} {a_0 : Nat} {a_1 : Int32} {a_2 : Int32} {q : Nat → Nat} {g_w : Nat → Int32} (hW : WT T L f) (k_0 : isM T L E a_0 q) (e_w : f (q 1) = aI E 2076 g_w) (o_w : WOK g_w) : CI l yX12_sort cX12_sort 3 .int 2 0 0 E [.ref a_0, .int a_1, .int a_2] L f (fun r L1 f1 => L = L1 ∧ f = f1 ∧ ((-1) ≤ r.toInt ∧ r.toInt ≤ 12) ∧ (¬ r.toInt = 0 ∨ (0 ≤ a_1.toInt ∧ a_1.toInt ≤ 15)) ∧ (¬ r.toInt = 0 ∨ (0 ≤ a_2.toInt ∧ a_2.toInt ≤ 15))) := by
  refine ci_of (by decide) (Nat.le_of_ble_eq_true rfl) (fun z hz hnm hC hR => ?_)
  have hC : Cx z E cX12_sort RX12 3 2 0 0 := hC
  subst hz
  show V z E 3 0 0 L f 0 [(0, .ref a_0), (1, .int a_1), (2, .int a_2)] []
  obtain ⟨m_1, t_2, k_3, k_4, k_5, k_6, k_7, k_8, k_9, k_10, k_11, k_12, k_13, k_14, k_15, k_16, k_17, k_18, k_19, k_20⟩ := id k_0
  obtain ⟨m_21, t_22⟩ := id k_3
  have b_23 := o_w.r0
  have b_24 := o_w.w0
  refine v_aload_n hC dX12_sort_0 rfl ?_
  refine v_iload_n hC dX12_sort_1 rfl ?_
  refine v_iload_n hC dX12_sort_2 rfl ?_
  obtain ⟨v_26, v_27, v_29, v_31, v_33, v_35, v_37, v_38, v_39, v_40, v_42, e_25, b_28, b_30, b_32, b_34, b_36, b_41, b_43⟩ := hW.at m_1 t_2
  refine v_vi hC (rest := []) m_1 e_25 rfl mi_X12_isPlace ms_X12_isPlace (p_X12_isPlace hW k_0 e_w o_w) mx_X12_isPlace ml_X12_379 (by decide) rfl (cells1 := 0) (slots1 := 0) (by decide) (by decide) (Nat.le_of_ble_eq_true rfl) (Nat.le_of_ble_eq_true rfl) rfl (Nat.le_of_ble_eq_true rfl) dX12_sort_3 (fun r_44 L_45 f_46 h_47 => ?_)
  obtain ⟨rfl, rfl, b_48, h_49, h_50, x_51⟩ := h_47
  try simp only [Int32.reduceToInt, Int64.reduceToInt] at x_51
  refine v_if_eq hC dX12_sort_6 (tgt := 24) (by decide) (fun h_54 => ?_) (fun h_54 => ?_)
  · simp only [Int32.lt_iff_toInt_lt, Int32.le_iff_toInt_le, Int32.reduceToInt, ← Int32.toInt_inj] at h_54
    refine v_iconst hC dX12_sort_24 (v := (-1)) (by decide) ?_
    exact hR _ _ _ _ _ _ _ dX12_sort_25 rfl (Nat.le_of_ble_eq_true rfl) (Nat.le_of_ble_eq_true rfl) ⟨rfl, rfl, (by decide), (.inl (by decide)), (.inl (by decide))⟩
  · simp only [Int32.lt_iff_toInt_lt, Int32.le_iff_toInt_le, Int32.reduceToInt, ← Int32.toInt_inj] at h_54
    refine v_aload_n hC dX12_sort_9 rfl ?_
    refine v_iload_n hC dX12_sort_10 rfl ?_
    refine v_aload_n hC dX12_sort_11 rfl ?_
    refine v_vi hC (rest := [.int a_1, .ref a_0]) m_1 e_25 rfl mi_X12_wide ms_X12_wide (p_X12_wide hW k_0 e_w o_w) mx_X12_wide ml_X12_87 (by decide) rfl (cells1 := 0) (slots1 := 0) (by decide) (by decide) (Nat.le_of_ble_eq_true rfl) (Nat.le_of_ble_eq_true rfl) rfl (Nat.le_of_ble_eq_true rfl) dX12_sort_12 (fun r_55 L_56 f_57 h_58 => ?_)
    obtain ⟨rfl, rfl, rfl⟩ := h_58
    obtain ⟨v_61, h_62⟩ : ∃ v9 : Int32, a_1 * (g_w 1) = v9 := ⟨_, rfl⟩
    refine v_imul hC dX12_sort_15 h_62 ?_
    have h_63 := mul_v 15 16 240 h_62 (by first | omega | (simp only [Int32.lt_iff_toInt_lt, Int32.le_iff_toInt_le, Int32.reduceToInt, ← Int32.toInt_inj, true_and, and_true, or_true, true_or, false_or, or_false, false_and, and_false, not_true_eq_false, not_false_eq_true] <;> omega)) (by first | omega | (simp only [Int32.lt_iff_toInt_lt, Int32.le_iff_toInt_le, Int32.reduceToInt, ← Int32.toInt_inj, true_and, and_true, or_true, true_or, false_or, or_false, false_and, and_false, not_true_eq_false, not_false_eq_true] <;> omega)) (by decide) (by decide)
    refine v_iload_n hC dX12_sort_16 rfl ?_
    obtain ⟨v_64, h_65⟩ : ∃ v9 : Int32, v_61 + a_2 = v9 := ⟨_, rfl⟩
    refine v_iadd hC dX12_sort_17 h_65 ?_
    have h_66 := add_v h_65 (by first | omega | (simp only [Int32.lt_iff_toInt_lt, Int32.le_iff_toInt_le, Int32.reduceToInt, ← Int32.toInt_inj, true_and, and_true, or_true, true_or, false_or, or_false, false_and, and_false, not_true_eq_false, not_false_eq_true] <;> omega)) (by first | omega | (simp only [Int32.lt_iff_toInt_lt, Int32.le_iff_toInt_le, Int32.reduceToInt, ← Int32.toInt_inj, true_and, and_true, or_true, true_or, false_or, or_false, false_and, and_false, not_true_eq_false, not_false_eq_true] <;> omega))
    refine v_vi hC (rest := []) m_1 e_25 rfl mi_X12_sortOf ms_X12_sortOf (p_X12_sortOf hW k_0 (by first | omega | (simp only [Int32.lt_iff_toInt_lt, Int32.le_iff_toInt_le, Int32.reduceToInt, ← Int32.toInt_inj, true_and, and_true, or_true, true_or, false_or, or_false, false_and, and_false, not_true_eq_false, not_false_eq_true] <;> omega)) e_w o_w (by first | omega | (simp only [Int32.lt_iff_toInt_lt, Int32.le_iff_toInt_le, Int32.reduceToInt, ← Int32.toInt_inj, true_and, and_true, or_true, true_or, false_or, or_false, false_and, and_false, not_true_eq_false, not_false_eq_true] <;> omega))) mx_X12_sortOf ml_X12_98 (by decide) rfl (cells1 := 0) (slots1 := 0) (by decide) (by decide) (Nat.le_of_ble_eq_true rfl) (Nat.le_of_ble_eq_true rfl) rfl (Nat.le_of_ble_eq_true rfl) dX12_sort_18 (fun r_67 L_68 f_69 h_70 => ?_)
    obtain ⟨rfl, rfl, b_71⟩ := h_70
    refine v_goto hC dX12_sort_21 (tgt := 25) (by decide) ?_
    exact hR _ _ _ _ _ _ _ dX12_sort_25 rfl (Nat.le_of_ble_eq_true rfl) (Nat.le_of_ble_eq_true rfl) ⟨rfl, rfl, (by first | omega | (simp only [Int32.lt_iff_toInt_lt, Int32.le_iff_toInt_le, Int32.reduceToInt, ← Int32.toInt_inj, true_and, and_true, or_true, true_or, false_or, or_false, false_and, and_false, not_true_eq_false, not_false_eq_true] <;> omega)), (.inr (by first | omega | (simp only [Int32.lt_iff_toInt_lt, Int32.le_iff_toInt_le, Int32.reduceToInt, ← Int32.toInt_inj, true_and, and_true, or_true, true_or, false_or, or_false, false_and, and_false, not_true_eq_false, not_false_eq_true] <;> omega))), (.inr (by first | omega | (simp only [Int32.lt_iff_toInt_lt, Int32.le_iff_toInt_le, Int32.reduceToInt, ← Int32.toInt_inj, true_and, and_true, or_true, true_or, false_or, or_false, false_and, and_false, not_true_eq_false, not_false_eq_true] <;> omega)))⟩
set_option maxRecDepth 100000 in
set_option maxHeartbeats 4000000 in
theorem p_X12_place {l : Launch} {E : Ez} {L : List Nat} {f : Nat → va_E} {T : Nat → va_E → Prop} {a_0 : Nat} {a_1 : Int32} {a_2 : Int32} {q : Nat → Nat} {g_w : Nat → Int32} (hW : WT T L f) (k_0 : isM T L E a_0 q) (e_w : f (q 1) = aI E 2076 g_w) (o_w : WOK g_w) : CI l yX12_place cX12_place 4 .int 3 0 0 E [.ref a_0, .int a_1, .int a_2] L f (fun r L1 f1 => L = L1 ∧ WT T L f1 ∧ FR [12, 356] f f1 ∧ ((-6) ≤ r.toInt ∧ r.toInt ≤ 25515) ∧ (¬ r.toInt = 0 ∨ (0 ≤ a_1.toInt ∧ a_1.toInt ≤ 5)) ∧ (¬ r.toInt = 0 ∨ (0 ≤ a_2.toInt ∧ a_2.toInt ≤ 255))) := by
  refine ci_of (by decide) (Nat.le_of_ble_eq_true rfl) (fun z hz hnm hC hR => ?_)
  have hC : Cx z E cX12_place RX12 4 3 0 0 := hC
  subst hz
  show V z E 4 0 0 L f 0 [(0, .ref a_0), (1, .int a_1), (2, .int a_2)] []
  obtain ⟨m_1, t_2, k_3, k_4, k_5, k_6, k_7, k_8, k_9, k_10, k_11, k_12, k_13, k_14, k_15, k_16, k_17, k_18, k_19, k_20⟩ := id k_0
  obtain ⟨m_21, t_22⟩ := id k_3
  have b_23 := o_w.r0
  have b_24 := o_w.w0
  refine v_aload_n hC dX12_place_0 rfl ?_
  refine v_iload_n hC dX12_place_1 rfl ?_
  obtain ⟨v_26, v_27, v_29, v_31, v_33, v_35, v_37, v_38, v_39, v_40, v_42, e_25, b_28, b_30, b_32, b_34, b_36, b_41, b_43⟩ := hW.at m_1 t_2
  refine v_vi hC (rest := []) m_1 e_25 rfl mi_X12_asksWay ms_X12_asksWay (p_X12_asksWay hW k_0 e_w o_w) mx_X12_asksWay ml_X12_383 (by decide) rfl (cells1 := 0) (slots1 := 0) (by decide) (by decide) (Nat.le_of_ble_eq_true rfl) (Nat.le_of_ble_eq_true rfl) rfl (Nat.le_of_ble_eq_true rfl) dX12_place_2 (fun r_44 L_45 f_46 h_47 => ?_)
  obtain ⟨rfl, rfl, b_48, h_49, x_50⟩ := h_47
  try simp only [Int32.reduceToInt, Int64.reduceToInt] at x_50
  refine v_istore_n hC dX12_place_5 (by decide) (lv' := [(3, .int r_44), (0, .ref a_0), (1, .int a_1), (2, .int a_2)]) rfl ?_
  refine v_iload_n hC dX12_place_6 rfl ?_
  refine v_if_ge hC dX12_place_7 (tgt := 12) (by decide) (fun h_53 => ?_) (fun h_53 => ?_)
  · simp only [Int32.lt_iff_toInt_lt, Int32.le_iff_toInt_le, Int32.reduceToInt, ← Int32.toInt_inj] at h_53
    refine v_aload_n hC dX12_place_12 rfl ?_
    refine v_iload_n hC dX12_place_13 rfl ?_
    refine v_vv hC (rest := []) m_1 e_25 rfl mi_X12_lists ms_X12_lists (p_X12_lists hW k_0 (by first | omega | (simp only [Int32.lt_iff_toInt_lt, Int32.le_iff_toInt_le, Int32.reduceToInt, ← Int32.toInt_inj, true_and, and_true, or_true, true_or, false_or, or_false, false_and, and_false, not_true_eq_false, not_false_eq_true] <;> omega)) e_w o_w (by first | omega | (simp only [Int32.lt_iff_toInt_lt, Int32.le_iff_toInt_le, Int32.reduceToInt, ← Int32.toInt_inj, true_and, and_true, or_true, true_or, false_or, or_false, false_and, and_false, not_true_eq_false, not_false_eq_true] <;> omega))) mx_X12_lists ml_X12_338 (by decide) rfl (cells1 := 0) (slots1 := 0) (by decide) (by decide) (Nat.le_of_ble_eq_true rfl) (Nat.le_of_ble_eq_true rfl) rfl (Nat.le_of_ble_eq_true rfl) dX12_place_14 (fun L_55 f_56 h_57 => ?_)
    obtain ⟨rfl, hW_60, hF_61, x_58, x_59⟩ := h_57
    have fe_62 : fld (f a_0) 20 = (v_42 : Int32).toInt := by rw [e_25]; rfl
    have hf_63 := hF_61.at e_w rfl
    obtain ⟨v_65, v_66, v_68, v_70, v_72, v_74, v_76, v_77, v_78, v_79, v_81, e_64, b_67, b_69, b_71, b_73, b_75, b_80, b_82⟩ := hW_60.at m_1 t_2
    have fe_83 : fld (f_56 a_0) 17 = (v_79 : Int32).toInt := by rw [e_64]; rfl
    rw [fe_83] at x_58
    rw [fe_62] at x_59
    have fe_84 : fld (f_56 a_0) 20 = (v_81 : Int32).toInt := by rw [e_64]; rfl
    rw [fe_84] at x_59
    refine v_iload_n hC dX12_place_17 rfl ?_
    obtain ⟨v_85, h_86⟩ : ∃ v9 : Int64, a_2.toInt64 = v9 := ⟨_, rfl⟩
    refine v_i2l hC dX12_place_18 h_86 ?_
    have h_87 : v_85.toInt = a_2.toInt := by rw [← h_86]; exact Int32.toInt_toInt64 _
    refine v_lconst hC dX12_place_19 (v := 0) (by decide) ?_
    refine v_aload_n hC dX12_place_20 rfl ?_
    refine v_get hC fl_X12_335 m_1 e_64 rfl dX12_place_21 ?_
    refine v_iconst hC dX12_place_24 (v := 1) (by decide) ?_
    obtain ⟨v_88, h_89⟩ : ∃ v9 : Int32, v_79 - 1 = v9 := ⟨_, rfl⟩
    refine v_isub hC dX12_place_25 h_89 ?_
    have h_90 := sub_v h_89 (by first | omega | (simp only [Int32.lt_iff_toInt_lt, Int32.le_iff_toInt_le, Int32.reduceToInt, ← Int32.toInt_inj, true_and, and_true, or_true, true_or, false_or, or_false, false_and, and_false, not_true_eq_false, not_false_eq_true] <;> omega)) (by first | omega | (simp only [Int32.lt_iff_toInt_lt, Int32.le_iff_toInt_le, Int32.reduceToInt, ← Int32.toInt_inj, true_and, and_true, or_true, true_or, false_or, or_false, false_and, and_false, not_true_eq_false, not_false_eq_true] <;> omega))
    try simp only [Int32.reduceToInt] at h_90
    obtain ⟨v_91, h_92⟩ : ∃ v9 : Int64, v_88.toInt64 = v9 := ⟨_, rfl⟩
    refine v_i2l hC dX12_place_26 h_92 ?_
    have h_93 : v_91.toInt = v_88.toInt := by rw [← h_92]; exact Int32.toInt_toInt64 _
    refine v_si hC (rest := []) mt_X12_in (p_X12_in hW_60) mx_X12_in ml_X12_79 (by decide) rfl (cells1 := 0) (slots1 := 0) (by decide) (by decide) (Nat.le_of_ble_eq_true rfl) (Nat.le_of_ble_eq_true rfl) rfl (Nat.le_of_ble_eq_true rfl) dX12_place_27 (fun r_94 L_95 f_96 h_97 => ?_)
    obtain ⟨rfl, rfl, b_98, x_99⟩ := h_97
    try simp only [Int32.reduceToInt, Int64.reduceToInt] at x_99
    refine v_if_eq hC dX12_place_30 (tgt := 62) (by decide) (fun h_102 => ?_) (fun h_102 => ?_)
    · simp only [Int32.lt_iff_toInt_lt, Int32.le_iff_toInt_le, Int32.reduceToInt, ← Int32.toInt_inj] at h_102
      refine v_iconst hC dX12_place_62 (v := (-1)) (by decide) ?_
      exact hR _ _ _ _ _ _ _ dX12_place_63 rfl (Nat.le_of_ble_eq_true rfl) (Nat.le_of_ble_eq_true rfl) ⟨rfl, hW_60, (hF_61.mono rfl), (by decide), (.inl (by decide)), (.inl (by decide))⟩
    · simp only [Int32.lt_iff_toInt_lt, Int32.le_iff_toInt_le, Int32.reduceToInt, ← Int32.toInt_inj] at h_102
      have pq_103 : 1 ≤ (g_w 0).toInt := by omega
      have pt_104 := o_w.pt pq_103
      refine v_bipush hC dX12_place_33 (v := 100) (by decide) ?_
      refine v_aload_n hC dX12_place_35 rfl ?_
      refine v_get hC fl_X12_40 m_1 e_64 rfl dX12_place_36 ?_
      refine v_iload_n hC dX12_place_39 rfl ?_
      obtain ⟨m_105, t_106⟩ := id k_10
      obtain ⟨g_108, e_107, ok_109⟩ := hW_60.at m_105 t_106
      obtain ⟨v_110, h_111⟩ : ∃ v9 : Int32, g_108 (a_2 : Int32).toNatClampNeg = v9 := ⟨_, rfl⟩
      have b_112 := ok_109 (a_2 : Int32).toNatClampNeg
      rw [h_111] at b_112
      refine v_iald hC m_105 e_107 (vp_in_iff.mpr (by first | omega | (simp only [Int32.lt_iff_toInt_lt, Int32.le_iff_toInt_le, Int32.reduceToInt, ← Int32.toInt_inj, true_and, and_true, or_true, true_or, false_or, or_false, false_and, and_false, not_true_eq_false, not_false_eq_true] <;> omega))) h_111 dX12_place_40 ?_
      refine v_aload_n hC dX12_place_41 rfl ?_
      refine v_vi hC (rest := [.int v_110, .int 100]) m_1 e_64 rfl mi_X12_wide ms_X12_wide (p_X12_wide hW_60 k_0 hf_63 o_w) mx_X12_wide ml_X12_87 (by decide) rfl (cells1 := 0) (slots1 := 0) (by decide) (by decide) (Nat.le_of_ble_eq_true rfl) (Nat.le_of_ble_eq_true rfl) rfl (Nat.le_of_ble_eq_true rfl) dX12_place_42 (fun r_113 L_114 f_115 h_116 => ?_)
      obtain ⟨rfl, rfl, rfl⟩ := h_116
      obtain ⟨v_119, h_120⟩ : ∃ v9 : Int32, v_110 / (g_w 1) = v9 := ⟨_, rfl⟩
      refine v_idiv hC dX12_place_45 (by first | omega | (simp only [Int32.lt_iff_toInt_lt, Int32.le_iff_toInt_le, Int32.reduceToInt, ← Int32.toInt_inj, true_and, and_true, or_true, true_or, false_or, or_false, false_and, and_false, not_true_eq_false, not_false_eq_true] <;> omega)) h_120 ?_
      have h_121 := div_v h_120 (by first | omega | (simp only [Int32.lt_iff_toInt_lt, Int32.le_iff_toInt_le, Int32.reduceToInt, ← Int32.toInt_inj, true_and, and_true, or_true, true_or, false_or, or_false, false_and, and_false, not_true_eq_false, not_false_eq_true] <;> omega)) (by first | omega | (simp only [Int32.lt_iff_toInt_lt, Int32.le_iff_toInt_le, Int32.reduceToInt, ← Int32.toInt_inj, true_and, and_true, or_true, true_or, false_or, or_false, false_and, and_false, not_true_eq_false, not_false_eq_true] <;> omega))
      obtain ⟨v_122, h_123⟩ : ∃ v9 : Int32, (100 : Int32) * v_119 = v9 := ⟨_, rfl⟩
      refine v_imul hC dX12_place_46 h_123 ?_
      have h_124 := mul_v 100 255 25500 h_123 (by decide) (by first | omega | (simp only [Int32.lt_iff_toInt_lt, Int32.le_iff_toInt_le, Int32.reduceToInt, ← Int32.toInt_inj, true_and, and_true, or_true, true_or, false_or, or_false, false_and, and_false, not_true_eq_false, not_false_eq_true] <;> omega)) (by decide) (by decide)
      try simp only [Int32.reduceToInt] at h_124
      refine v_aload_n hC dX12_place_47 rfl ?_
      refine v_get hC fl_X12_40 m_1 e_64 rfl dX12_place_48 ?_
      refine v_iload_n hC dX12_place_51 rfl ?_
      obtain ⟨v_125, h_126⟩ : ∃ v9 : Int32, g_108 (a_2 : Int32).toNatClampNeg = v9 := ⟨_, rfl⟩
      have b_127 := ok_109 (a_2 : Int32).toNatClampNeg
      rw [h_126] at b_127
      refine v_iald hC m_105 e_107 (vp_in_iff.mpr (by first | omega | (simp only [Int32.lt_iff_toInt_lt, Int32.le_iff_toInt_le, Int32.reduceToInt, ← Int32.toInt_inj, true_and, and_true, or_true, true_or, false_or, or_false, false_and, and_false, not_true_eq_false, not_false_eq_true] <;> omega))) h_126 dX12_place_52 ?_
      refine v_aload_n hC dX12_place_53 rfl ?_
      refine v_vi hC (rest := [.int v_125, .int v_122]) m_1 e_64 rfl mi_X12_wide ms_X12_wide (p_X12_wide hW_60 k_0 hf_63 o_w) mx_X12_wide ml_X12_87 (by decide) rfl (cells1 := 0) (slots1 := 0) (by decide) (by decide) (Nat.le_of_ble_eq_true rfl) (Nat.le_of_ble_eq_true rfl) rfl (Nat.le_of_ble_eq_true rfl) dX12_place_54 (fun r_128 L_129 f_130 h_131 => ?_)
      obtain ⟨rfl, rfl, rfl⟩ := h_131
      obtain ⟨v_134, h_135⟩ : ∃ v9 : Int32, v_125 - v_125 / (g_w 1) * (g_w 1) = v9 := ⟨_, rfl⟩
      refine v_irem hC dX12_place_57 (by first | omega | (simp only [Int32.lt_iff_toInt_lt, Int32.le_iff_toInt_le, Int32.reduceToInt, ← Int32.toInt_inj, true_and, and_true, or_true, true_or, false_or, or_false, false_and, and_false, not_true_eq_false, not_false_eq_true] <;> omega)) h_135 ?_
      have h_136 := rem_v h_135 (by first | omega | (simp only [Int32.lt_iff_toInt_lt, Int32.le_iff_toInt_le, Int32.reduceToInt, ← Int32.toInt_inj, true_and, and_true, or_true, true_or, false_or, or_false, false_and, and_false, not_true_eq_false, not_false_eq_true] <;> omega)) (by first | omega | (simp only [Int32.lt_iff_toInt_lt, Int32.le_iff_toInt_le, Int32.reduceToInt, ← Int32.toInt_inj, true_and, and_true, or_true, true_or, false_or, or_false, false_and, and_false, not_true_eq_false, not_false_eq_true] <;> omega))
      obtain ⟨v_137, h_138⟩ : ∃ v9 : Int32, v_122 + v_134 = v9 := ⟨_, rfl⟩
      refine v_iadd hC dX12_place_58 h_138 ?_
      have h_139 := add_v h_138 (by first | omega | (simp only [Int32.lt_iff_toInt_lt, Int32.le_iff_toInt_le, Int32.reduceToInt, ← Int32.toInt_inj, true_and, and_true, or_true, true_or, false_or, or_false, false_and, and_false, not_true_eq_false, not_false_eq_true] <;> omega)) (by first | omega | (simp only [Int32.lt_iff_toInt_lt, Int32.le_iff_toInt_le, Int32.reduceToInt, ← Int32.toInt_inj, true_and, and_true, or_true, true_or, false_or, or_false, false_and, and_false, not_true_eq_false, not_false_eq_true] <;> omega))
      refine v_goto hC dX12_place_59 (tgt := 63) (by decide) ?_
      exact hR _ _ _ _ _ _ _ dX12_place_63 rfl (Nat.le_of_ble_eq_true rfl) (Nat.le_of_ble_eq_true rfl) ⟨rfl, hW_60, (hF_61.mono rfl), (by first | omega | (simp only [Int32.lt_iff_toInt_lt, Int32.le_iff_toInt_le, Int32.reduceToInt, ← Int32.toInt_inj, true_and, and_true, or_true, true_or, false_or, or_false, false_and, and_false, not_true_eq_false, not_false_eq_true] <;> omega)), (.inr (by first | omega | (simp only [Int32.lt_iff_toInt_lt, Int32.le_iff_toInt_le, Int32.reduceToInt, ← Int32.toInt_inj, true_and, and_true, or_true, true_or, false_or, or_false, false_and, and_false, not_true_eq_false, not_false_eq_true] <;> omega))), (.inr (by first | omega | (simp only [Int32.lt_iff_toInt_lt, Int32.le_iff_toInt_le, Int32.reduceToInt, ← Int32.toInt_inj, true_and, and_true, or_true, true_or, false_or, or_false, false_and, and_false, not_true_eq_false, not_false_eq_true] <;> omega)))⟩
  · simp only [Int32.lt_iff_toInt_lt, Int32.le_iff_toInt_le, Int32.reduceToInt, ← Int32.toInt_inj] at h_53
    refine v_iload_n hC dX12_place_10 rfl ?_
    exact hR _ _ _ _ _ _ _ dX12_place_11 rfl (Nat.le_of_ble_eq_true rfl) (Nat.le_of_ble_eq_true rfl) ⟨rfl, hW, FR.rf, (by first | omega | (simp only [Int32.lt_iff_toInt_lt, Int32.le_iff_toInt_le, Int32.reduceToInt, ← Int32.toInt_inj, true_and, and_true, or_true, true_or, false_or, or_false, false_and, and_false, not_true_eq_false, not_false_eq_true] <;> omega)), (by first | omega | (simp only [Int32.lt_iff_toInt_lt, Int32.le_iff_toInt_le, Int32.reduceToInt, ← Int32.toInt_inj, true_and, and_true, or_true, true_or, false_or, or_false, false_and, and_false, not_true_eq_false, not_false_eq_true] <;> omega)), (by first | omega | (simp only [Int32.lt_iff_toInt_lt, Int32.le_iff_toInt_le, Int32.reduceToInt, ← Int32.toInt_inj, true_and, and_true, or_true, true_or, false_or, or_false, false_and, and_false, not_true_eq_false, not_false_eq_true] <;> omega))⟩
set_option maxRecDepth 100000 in
set_option maxHeartbeats 4000000 in
theorem p_X12_room {l : Launch} {E : Ez} {L : List Nat} {f : Nat → va_E} {T : Nat → va_E → Prop} {a_0 : Nat} {a_1 : Int32} {q : Nat → Nat} {g_w : Nat → Int32} (hW : WT T L f) (k_0 : isM T L E a_0 q) (e_w : f (q 1) = aI E 2076 g_w) (o_w : WOK g_w) : CI l yX12_room cX12_room 3 .int 4 0 0 E [.ref a_0, .int a_1] L f (fun r L1 f1 => L = L1 ∧ WT T L f1 ∧ FR [12, 356] f f1 ∧ ((-6) ≤ r.toInt ∧ r.toInt ≤ 256) ∧ (¬ r.toInt = 0 ∨ (0 ≤ a_1.toInt ∧ a_1.toInt ≤ 5))) := by
  refine ci_of (by decide) (Nat.le_of_ble_eq_true rfl) (fun z hz hnm hC hR => ?_)
  have hC : Cx z E cX12_room RX12 3 4 0 0 := hC
  subst hz
  show V z E 3 0 0 L f 0 [(0, .ref a_0), (1, .int a_1)] []
  obtain ⟨m_1, t_2, k_3, k_4, k_5, k_6, k_7, k_8, k_9, k_10, k_11, k_12, k_13, k_14, k_15, k_16, k_17, k_18, k_19, k_20⟩ := id k_0
  obtain ⟨m_21, t_22⟩ := id k_3
  have b_23 := o_w.r0
  have b_24 := o_w.w0
  refine v_aload_n hC dX12_room_0 rfl ?_
  refine v_iload_n hC dX12_room_1 rfl ?_
  obtain ⟨v_26, v_27, v_29, v_31, v_33, v_35, v_37, v_38, v_39, v_40, v_42, e_25, b_28, b_30, b_32, b_34, b_36, b_41, b_43⟩ := hW.at m_1 t_2
  refine v_vi hC (rest := []) m_1 e_25 rfl mi_X12_asksWay ms_X12_asksWay (p_X12_asksWay hW k_0 e_w o_w) mx_X12_asksWay ml_X12_383 (by decide) rfl (cells1 := 0) (slots1 := 0) (by decide) (by decide) (Nat.le_of_ble_eq_true rfl) (Nat.le_of_ble_eq_true rfl) rfl (Nat.le_of_ble_eq_true rfl) dX12_room_2 (fun r_44 L_45 f_46 h_47 => ?_)
  obtain ⟨rfl, rfl, b_48, h_49, x_50⟩ := h_47
  try simp only [Int32.reduceToInt, Int64.reduceToInt] at x_50
  refine v_istore_n hC dX12_room_5 (by decide) (lv' := [(2, .int r_44), (0, .ref a_0), (1, .int a_1)]) rfl ?_
  refine v_iload_n hC dX12_room_6 rfl ?_
  refine v_if_ge hC dX12_room_7 (tgt := 14) (by decide) (fun h_53 => ?_) (fun h_53 => ?_)
  · simp only [Int32.lt_iff_toInt_lt, Int32.le_iff_toInt_le, Int32.reduceToInt, ← Int32.toInt_inj] at h_53
    refine v_aload_n hC dX12_room_14 rfl ?_
    refine v_iload_n hC dX12_room_15 rfl ?_
    refine v_vi hC (rest := []) m_1 e_25 rfl mi_X12_roomOf ms_X12_roomOf (p_X12_roomOf hW k_0 (by first | omega | (simp only [Int32.lt_iff_toInt_lt, Int32.le_iff_toInt_le, Int32.reduceToInt, ← Int32.toInt_inj, true_and, and_true, or_true, true_or, false_or, or_false, false_and, and_false, not_true_eq_false, not_false_eq_true] <;> omega)) e_w o_w (by first | omega | (simp only [Int32.lt_iff_toInt_lt, Int32.le_iff_toInt_le, Int32.reduceToInt, ← Int32.toInt_inj, true_and, and_true, or_true, true_or, false_or, or_false, false_and, and_false, not_true_eq_false, not_false_eq_true] <;> omega))) mx_X12_roomOf ml_X12_241 (by decide) rfl (cells1 := 0) (slots1 := 0) (by decide) (by decide) (Nat.le_of_ble_eq_true rfl) (Nat.le_of_ble_eq_true rfl) rfl (Nat.le_of_ble_eq_true rfl) dX12_room_16 (fun r_54 L_55 f_56 h_57 => ?_)
    obtain ⟨rfl, hW_62, hF_63, b_58, x_59, x_60, x_61⟩ := h_57
    have fe_64 : fld (f a_0) 20 = (v_42 : Int32).toInt := by rw [e_25]; rfl
    have hf_65 := hF_63.at e_w rfl
    rw [fe_64] at x_61
    obtain ⟨v_67, v_68, v_70, v_72, v_74, v_76, v_78, v_79, v_80, v_81, v_83, e_66, b_69, b_71, b_73, b_75, b_77, b_82, b_84⟩ := hW_62.at m_1 t_2
    have fe_85 : fld (f_56 a_0) 20 = (v_83 : Int32).toInt := by rw [e_66]; rfl
    rw [fe_85] at x_61
    try simp only [Int32.reduceToInt, Int64.reduceToInt] at x_59
    try simp only [Int32.reduceToInt, Int64.reduceToInt] at x_60
    try simp only [Int32.reduceToInt, Int64.reduceToInt] at x_61
    exact hR _ _ _ _ _ _ _ dX12_room_19 rfl (Nat.le_of_ble_eq_true rfl) (Nat.le_of_ble_eq_true rfl) ⟨rfl, hW_62, (hF_63.mono rfl), (by first | omega | (simp only [Int32.lt_iff_toInt_lt, Int32.le_iff_toInt_le, Int32.reduceToInt, ← Int32.toInt_inj, true_and, and_true, or_true, true_or, false_or, or_false, false_and, and_false, not_true_eq_false, not_false_eq_true] <;> omega)), (.inr (by first | omega | (simp only [Int32.lt_iff_toInt_lt, Int32.le_iff_toInt_le, Int32.reduceToInt, ← Int32.toInt_inj, true_and, and_true, or_true, true_or, false_or, or_false, false_and, and_false, not_true_eq_false, not_false_eq_true] <;> omega)))⟩
  · simp only [Int32.lt_iff_toInt_lt, Int32.le_iff_toInt_le, Int32.reduceToInt, ← Int32.toInt_inj] at h_53
    refine v_iload_n hC dX12_room_10 rfl ?_
    refine v_goto hC dX12_room_11 (tgt := 19) (by decide) ?_
    exact hR _ _ _ _ _ _ _ dX12_room_19 rfl (Nat.le_of_ble_eq_true rfl) (Nat.le_of_ble_eq_true rfl) ⟨rfl, hW, FR.rf, (by first | omega | (simp only [Int32.lt_iff_toInt_lt, Int32.le_iff_toInt_le, Int32.reduceToInt, ← Int32.toInt_inj, true_and, and_true, or_true, true_or, false_or, or_false, false_and, and_false, not_true_eq_false, not_false_eq_true] <;> omega)), (by first | omega | (simp only [Int32.lt_iff_toInt_lt, Int32.le_iff_toInt_le, Int32.reduceToInt, ← Int32.toInt_inj, true_and, and_true, or_true, true_or, false_or, or_false, false_and, and_false, not_true_eq_false, not_false_eq_true] <;> omega))⟩
set_option maxRecDepth 100000 in
set_option maxHeartbeats 4000000 in
theorem p_X12_most {l : Launch} {E : Ez} {L : List Nat} {f : Nat → va_E} {T : Nat → va_E → Prop} {a_0 : Nat} {a_1 : Int32} {q : Nat → Nat} {g_w : Nat → Int32} (hW : WT T L f) (k_0 : isM T L E a_0 q) (e_w : f (q 1) = aI E 2076 g_w) (o_w : WOK g_w) : CI l yX12_most cX12_most 3 .int 4 0 0 E [.ref a_0, .int a_1] L f (fun r L1 f1 => L = L1 ∧ WT T L f1 ∧ FR [12, 356] f f1 ∧ ((-6) ≤ r.toInt ∧ r.toInt ≤ 50) ∧ (¬ r.toInt = 0 ∨ (0 ≤ a_1.toInt ∧ a_1.toInt ≤ 5))) := by
  refine ci_of (by decide) (Nat.le_of_ble_eq_true rfl) (fun z hz hnm hC hR => ?_)
  have hC : Cx z E cX12_most RX12 3 4 0 0 := hC
  subst hz
  show V z E 3 0 0 L f 0 [(0, .ref a_0), (1, .int a_1)] []
  obtain ⟨m_1, t_2, k_3, k_4, k_5, k_6, k_7, k_8, k_9, k_10, k_11, k_12, k_13, k_14, k_15, k_16, k_17, k_18, k_19, k_20⟩ := id k_0
  obtain ⟨m_21, t_22⟩ := id k_3
  have b_23 := o_w.r0
  have b_24 := o_w.w0
  refine v_aload_n hC dX12_most_0 rfl ?_
  refine v_iload_n hC dX12_most_1 rfl ?_
  obtain ⟨v_26, v_27, v_29, v_31, v_33, v_35, v_37, v_38, v_39, v_40, v_42, e_25, b_28, b_30, b_32, b_34, b_36, b_41, b_43⟩ := hW.at m_1 t_2
  refine v_vi hC (rest := []) m_1 e_25 rfl mi_X12_asksWay ms_X12_asksWay (p_X12_asksWay hW k_0 e_w o_w) mx_X12_asksWay ml_X12_383 (by decide) rfl (cells1 := 0) (slots1 := 0) (by decide) (by decide) (Nat.le_of_ble_eq_true rfl) (Nat.le_of_ble_eq_true rfl) rfl (Nat.le_of_ble_eq_true rfl) dX12_most_2 (fun r_44 L_45 f_46 h_47 => ?_)
  obtain ⟨rfl, rfl, b_48, h_49, x_50⟩ := h_47
  try simp only [Int32.reduceToInt, Int64.reduceToInt] at x_50
  refine v_istore_n hC dX12_most_5 (by decide) (lv' := [(2, .int r_44), (0, .ref a_0), (1, .int a_1)]) rfl ?_
  refine v_iload_n hC dX12_most_6 rfl ?_
  refine v_if_ge hC dX12_most_7 (tgt := 14) (by decide) (fun h_53 => ?_) (fun h_53 => ?_)
  · simp only [Int32.lt_iff_toInt_lt, Int32.le_iff_toInt_le, Int32.reduceToInt, ← Int32.toInt_inj] at h_53
    refine v_iconst hC dX12_most_14 (v := 0) (by decide) ?_
    refine v_aload_n hC dX12_most_15 rfl ?_
    refine v_iload_n hC dX12_most_16 rfl ?_
    refine v_vi hC (rest := [.int 0]) m_1 e_25 rfl mi_X12_roomOf ms_X12_roomOf (p_X12_roomOf hW k_0 (by first | omega | (simp only [Int32.lt_iff_toInt_lt, Int32.le_iff_toInt_le, Int32.reduceToInt, ← Int32.toInt_inj, true_and, and_true, or_true, true_or, false_or, or_false, false_and, and_false, not_true_eq_false, not_false_eq_true] <;> omega)) e_w o_w (by first | omega | (simp only [Int32.lt_iff_toInt_lt, Int32.le_iff_toInt_le, Int32.reduceToInt, ← Int32.toInt_inj, true_and, and_true, or_true, true_or, false_or, or_false, false_and, and_false, not_true_eq_false, not_false_eq_true] <;> omega))) mx_X12_roomOf ml_X12_241 (by decide) rfl (cells1 := 0) (slots1 := 0) (by decide) (by decide) (Nat.le_of_ble_eq_true rfl) (Nat.le_of_ble_eq_true rfl) rfl (Nat.le_of_ble_eq_true rfl) dX12_most_17 (fun r_54 L_55 f_56 h_57 => ?_)
    obtain ⟨rfl, hW_62, hF_63, b_58, x_59, x_60, x_61⟩ := h_57
    have fe_64 : fld (f a_0) 20 = (v_42 : Int32).toInt := by rw [e_25]; rfl
    have hf_65 := hF_63.at e_w rfl
    rw [fe_64] at x_61
    obtain ⟨v_67, v_68, v_70, v_72, v_74, v_76, v_78, v_79, v_80, v_81, v_83, e_66, b_69, b_71, b_73, b_75, b_77, b_82, b_84⟩ := hW_62.at m_1 t_2
    have fe_85 : fld (f_56 a_0) 20 = (v_83 : Int32).toInt := by rw [e_66]; rfl
    rw [fe_85] at x_61
    try simp only [Int32.reduceToInt, Int64.reduceToInt] at x_59
    try simp only [Int32.reduceToInt, Int64.reduceToInt] at x_60
    try simp only [Int32.reduceToInt, Int64.reduceToInt] at x_61
    refine v_iconst hC dX12_most_20 (v := 5) (by decide) ?_
    obtain ⟨v_86, h_87⟩ : ∃ v9 : Int32, r_54 / 5 = v9 := ⟨_, rfl⟩
    refine v_idiv hC dX12_most_21 (by decide) h_87 ?_
    have h_88 := div_v h_87 (by first | omega | (simp only [Int32.lt_iff_toInt_lt, Int32.le_iff_toInt_le, Int32.reduceToInt, ← Int32.toInt_inj, true_and, and_true, or_true, true_or, false_or, or_false, false_and, and_false, not_true_eq_false, not_false_eq_true] <;> omega)) (by decide)
    try simp only [Int32.reduceToInt] at h_88
    refine v_iconst hC dX12_most_22 (v := 1) (by decide) ?_
    obtain ⟨v_89, h_90⟩ : ∃ v9 : Int32, v_86 - 1 = v9 := ⟨_, rfl⟩
    refine v_isub hC dX12_most_23 h_90 ?_
    have h_91 := sub_v h_90 (by first | omega | (simp only [Int32.lt_iff_toInt_lt, Int32.le_iff_toInt_le, Int32.reduceToInt, ← Int32.toInt_inj, true_and, and_true, or_true, true_or, false_or, or_false, false_and, and_false, not_true_eq_false, not_false_eq_true] <;> omega)) (by first | omega | (simp only [Int32.lt_iff_toInt_lt, Int32.le_iff_toInt_le, Int32.reduceToInt, ← Int32.toInt_inj, true_and, and_true, or_true, true_or, false_or, or_false, false_and, and_false, not_true_eq_false, not_false_eq_true] <;> omega))
    try simp only [Int32.reduceToInt] at h_91
    obtain ⟨v_92, h_93⟩ : ∃ v9 : Int32, (if (0 : Int32) < v_89 then v_89 else (0 : Int32)) = v9 := ⟨_, rfl⟩
    refine v_mmax hC mm_X12_386 mm_smax mm_i mm_cmax (by decide) (Nat.le_of_ble_eq_true rfl) (Nat.le_of_ble_eq_true rfl) (Nat.le_of_ble_eq_true rfl) h_93 dX12_most_24 ?_
    have b_94 := max_v h_93
    try simp only [Int32.reduceToInt] at b_94
    exact hR _ _ _ _ _ _ _ dX12_most_27 rfl (Nat.le_of_ble_eq_true rfl) (Nat.le_of_ble_eq_true rfl) ⟨rfl, hW_62, (hF_63.mono rfl), (by first | omega | (simp only [Int32.lt_iff_toInt_lt, Int32.le_iff_toInt_le, Int32.reduceToInt, ← Int32.toInt_inj, true_and, and_true, or_true, true_or, false_or, or_false, false_and, and_false, not_true_eq_false, not_false_eq_true] <;> omega)), (.inr (by first | omega | (simp only [Int32.lt_iff_toInt_lt, Int32.le_iff_toInt_le, Int32.reduceToInt, ← Int32.toInt_inj, true_and, and_true, or_true, true_or, false_or, or_false, false_and, and_false, not_true_eq_false, not_false_eq_true] <;> omega)))⟩
  · simp only [Int32.lt_iff_toInt_lt, Int32.le_iff_toInt_le, Int32.reduceToInt, ← Int32.toInt_inj] at h_53
    refine v_iload_n hC dX12_most_10 rfl ?_
    refine v_goto hC dX12_most_11 (tgt := 27) (by decide) ?_
    exact hR _ _ _ _ _ _ _ dX12_most_27 rfl (Nat.le_of_ble_eq_true rfl) (Nat.le_of_ble_eq_true rfl) ⟨rfl, hW, FR.rf, (by first | omega | (simp only [Int32.lt_iff_toInt_lt, Int32.le_iff_toInt_le, Int32.reduceToInt, ← Int32.toInt_inj, true_and, and_true, or_true, true_or, false_or, or_false, false_and, and_false, not_true_eq_false, not_false_eq_true] <;> omega)), (by first | omega | (simp only [Int32.lt_iff_toInt_lt, Int32.le_iff_toInt_le, Int32.reduceToInt, ← Int32.toInt_inj, true_and, and_true, or_true, true_or, false_or, or_false, false_and, and_false, not_true_eq_false, not_false_eq_true] <;> omega))⟩
set_option maxRecDepth 100000 in
set_option maxHeartbeats 4000000 in
theorem p_X12_countAll {l : Launch} {E : Ez} {L : List Nat} {f : Nat → va_E} {T : Nat → va_E → Prop} {a_0 : Nat} {q : Nat → Nat} {g_w : Nat → Int32} (hW : WT T L f) (k_0 : isM T L E a_0 q) (e_w : f (q 1) = aI E 2076 g_w) (o_w : WOK g_w) : CV l yX12_countAll cX12_countAll 7 3 0 0 E [.ref a_0] L f (fun L1 f1 => L = L1 ∧ WT T L f1 ∧ FR [108] f f1) := by
  refine cv_of (by decide) (Nat.le_of_ble_eq_true rfl) (fun z hz hnm hC hR => ?_)
  have hC : Cx z E cX12_countAll RX12 7 3 0 0 := hC
  subst hz
  show V z E 7 0 0 L f 0 [(0, .ref a_0)] []
  obtain ⟨m_1, t_2, k_3, k_4, k_5, k_6, k_7, k_8, k_9, k_10, k_11, k_12, k_13, k_14, k_15, k_16, k_17, k_18, k_19, k_20⟩ := id k_0
  obtain ⟨m_21, t_22⟩ := id k_3
  have b_23 := o_w.r0
  have b_24 := o_w.w0
  refine v_iconst hC dX12_countAll_0 (v := 0) (by decide) ?_
  refine v_istore_n hC dX12_countAll_1 (by decide) (lv' := [(1, .int 0), (0, .ref a_0)]) rfl ?_
  have lp_179825 : ∀ (n_179826 : Nat) (f_179820 : Nat → va_E) (hW_179821 : WT T L f_179820) (hF_179822 : FR [108] f f_179820) (i_179819 : Int32) (b_179824 : (0 ≤ i_179819.toInt ∧ i_179819.toInt ≤ 8)) (hm_179828 : 8 - i_179819.toInt < (n_179826 : Int)), V z E 7 0 0 L f_179820 2 [(1, .int i_179819), (0, .ref a_0)] [] := by
    intro n_179826
    induction n_179826 with
    | zero =>
      intro f_179820 hW_179821 hF_179822 i_179819 b_179824 hm_179828
      have hf_179823 := hF_179822.at e_w rfl
      exfalso; omega
    | succ n_179826 ih_179827 =>
      intro f_179820 hW_179821 hF_179822 i_179819 b_179824 hm_179828
      have hf_179823 := hF_179822.at e_w rfl
      refine v_iload_n hC dX12_countAll_2 rfl ?_
      refine v_bipush hC dX12_countAll_3 (v := 8) (by decide) ?_
      refine v_icmp_ge hC dX12_countAll_5 (tgt := 21) (by decide) (fun h_179829 => ?_) (fun h_179829 => ?_)
      · simp only [Int32.lt_iff_toInt_lt, Int32.le_iff_toInt_le, Int32.reduceToInt, ← Int32.toInt_inj] at h_179829
        refine v_aload_n hC dX12_countAll_21 rfl ?_
        obtain ⟨v_179865, v_179866, v_179868, v_179870, v_179872, v_179874, v_179876, v_179877, v_179878, v_179879, v_179881, e_179864, b_179867, b_179869, b_179871, b_179873, b_179875, b_179880, b_179882⟩ := hW_179821.at m_1 t_2
        refine v_get hC fl_X12_55 m_1 e_179864 rfl dX12_countAll_22 ?_
        refine v_iconst hC dX12_countAll_25 (v := 5) (by decide) ?_
        refine v_sipush hC dX12_countAll_26 (v := 256) (by decide) ?_
        obtain ⟨m_179883, t_179884⟩ := id k_14
        obtain ⟨g_179886, e_179885⟩ := hW_179821.at m_179883 t_179884
        refine v_iast hC m_179883 e_179885 (vp_in_iff.mpr (by decide)) dX12_countAll_29 (fun f_179887 hf_179888 hk_179889 => ?_)
        have hW_179891 := hW_179821.up hf_179888 hk_179889 t_179884 ⟨_, rfl⟩
        obtain ⟨g_179890, hf_179888⟩ : ∃ g9, f_179887 (q 22) = aI E 8 g9 := ⟨_, hf_179888⟩
        have hf_179892 := (hk_179889 (q 1) (ne_kd hf_179823 e_179885 rfl)).trans hf_179823
        have hf_179893 := (hk_179889 a_0 (ne_kd e_179864 e_179885 rfl)).trans e_179864
        have fr_179894 := FR.w hk_179889 e_179885 (k := 108) rfl
        refine v_iconst hC dX12_countAll_30 (v := 4) (by decide) ?_
        refine v_istore_n hC dX12_countAll_31 (by decide) (lv' := [(1, .int 4), (0, .ref a_0)]) rfl ?_
        refine v_iconst hC dX12_countAll_32 (v := 0) (by decide) ?_
        refine v_istore_n hC dX12_countAll_33 (by decide) (lv' := [(2, .int 0), (1, .int 4), (0, .ref a_0)]) rfl ?_
        have lp_219127 : ∀ (n_219128 : Nat) (f_219121 : Nat → va_E) (hW_219122 : WT T L f_219121) (hF_219123 : FR [108] f_179887 f_219121) (i_219119 : Int32) (b_219126 : (0 ≤ i_219119.toInt ∧ i_219119.toInt ≤ 16)) (i_219120 : Int32) (hm_219130 : 16 - i_219119.toInt < (n_219128 : Int)), V z E 7 0 0 L f_219121 34 [(2, .int i_219119), (1, .int i_219120), (0, .ref a_0)] [] := by
          intro n_219128
          induction n_219128 with
          | zero =>
            intro f_219121 hW_219122 hF_219123 i_219119 b_219126 i_219120 hm_219130
            have hf_219124 := hF_219123.at hf_179892 rfl
            have hf_219125 := hF_219123.at hf_179893 rfl
            exfalso; omega
          | succ n_219128 ih_219129 =>
            intro f_219121 hW_219122 hF_219123 i_219119 b_219126 i_219120 hm_219130
            have hf_219124 := hF_219123.at hf_179892 rfl
            have hf_219125 := hF_219123.at hf_179893 rfl
            refine v_iload_n hC dX12_countAll_34 rfl ?_
            refine v_aload_n hC dX12_countAll_35 rfl ?_
            refine v_vi hC (rest := [.int i_219119]) m_1 hf_219125 rfl mi_X12_rows ms_X12_rows (p_X12_rows hW_219122 k_0 hf_219124 o_w) mx_X12_rows ml_X12_83 (by decide) rfl (cells1 := 0) (slots1 := 0) (by decide) (by decide) (Nat.le_of_ble_eq_true rfl) (Nat.le_of_ble_eq_true rfl) rfl (Nat.le_of_ble_eq_true rfl) dX12_countAll_36 (fun r_219131 L_219132 f_219133 h_219134 => ?_)
            obtain ⟨rfl, rfl, rfl⟩ := h_219134
            refine v_icmp_ge hC dX12_countAll_39 (tgt := 256) (by decide) (fun h_219137 => ?_) (fun h_219137 => ?_)
            · simp only [Int32.lt_iff_toInt_lt, Int32.le_iff_toInt_le, Int32.reduceToInt, ← Int32.toInt_inj] at h_219137
              exact hR _ _ _ _ _ _ dX12_countAll_256 (Nat.le_of_ble_eq_true rfl) (Nat.le_of_ble_eq_true rfl) ⟨rfl, hW_219122, (((hF_179822.tr fr_179894).tr hF_219123).mono rfl)⟩
            · simp only [Int32.lt_iff_toInt_lt, Int32.le_iff_toInt_le, Int32.reduceToInt, ← Int32.toInt_inj] at h_219137
              refine v_iconst hC dX12_countAll_42 (v := 0) (by decide) ?_
              refine v_istore_n hC dX12_countAll_43 (by decide) (lv' := [(3, .int 0), (2, .int i_219119), (1, .int i_219120), (0, .ref a_0)]) rfl ?_
              refine v_iconst hC dX12_countAll_44 (v := 0) (by decide) ?_
              refine v_istore hC dX12_countAll_45 (by decide) (lv' := [(4, .int 0), (3, .int 0), (2, .int i_219119), (1, .int i_219120), (0, .ref a_0)]) rfl ?_
              have lp_224278 : ∀ (n_224279 : Nat) (f_224272 : Nat → va_E) (hW_224273 : WT T L f_224272) (hF_224274 : FR [108] f_219121 f_224272) (i_224269 : Int32) (b_224277 : (0 ≤ i_224269.toInt ∧ i_224269.toInt ≤ 16)) (i_224270 : Int32) (i_224271 : Int32) (hm_224281 : 16 - i_224269.toInt < (n_224279 : Int)), V z E 7 0 0 L f_224272 47 [(4, .int i_224269), (3, .int i_224270), (2, .int i_219119), (1, .int i_224271), (0, .ref a_0)] [] := by
                intro n_224279
                induction n_224279 with
                | zero =>
                  intro f_224272 hW_224273 hF_224274 i_224269 b_224277 i_224270 i_224271 hm_224281
                  have hf_224275 := hF_224274.at hf_219124 rfl
                  have hf_224276 := hF_224274.at hf_219125 rfl
                  exfalso; omega
                | succ n_224279 ih_224280 =>
                  intro f_224272 hW_224273 hF_224274 i_224269 b_224277 i_224270 i_224271 hm_224281
                  have hf_224275 := hF_224274.at hf_219124 rfl
                  have hf_224276 := hF_224274.at hf_219125 rfl
                  refine v_iload hC dX12_countAll_47 rfl ?_
                  refine v_aload_n hC dX12_countAll_49 rfl ?_
                  refine v_vi hC (rest := [.int i_224269]) m_1 hf_224276 rfl mi_X12_wide ms_X12_wide (p_X12_wide hW_224273 k_0 hf_224275 o_w) mx_X12_wide ml_X12_87 (by decide) rfl (cells1 := 0) (slots1 := 0) (by decide) (by decide) (Nat.le_of_ble_eq_true rfl) (Nat.le_of_ble_eq_true rfl) rfl (Nat.le_of_ble_eq_true rfl) dX12_countAll_50 (fun r_224282 L_224283 f_224284 h_224285 => ?_)
                  obtain ⟨rfl, rfl, rfl⟩ := h_224285
                  refine v_icmp_ge hC dX12_countAll_53 (tgt := 218) (by decide) (fun h_224288 => ?_) (fun h_224288 => ?_)
                  · simp only [Int32.lt_iff_toInt_lt, Int32.le_iff_toInt_le, Int32.reduceToInt, ← Int32.toInt_inj] at h_224288
                    refine v_aload_n hC dX12_countAll_218 rfl ?_
                    refine v_get hC fl_X12_55 m_1 hf_224276 rfl dX12_countAll_219 ?_
                    refine v_iconst hC dX12_countAll_222 (v := 4) (by decide) ?_
                    refine v_aload_n hC dX12_countAll_223 rfl ?_
                    refine v_get hC fl_X12_55 m_1 hf_224276 rfl dX12_countAll_224 ?_
                    refine v_iconst hC dX12_countAll_227 (v := 4) (by decide) ?_
                    obtain ⟨g_224499, e_224498⟩ := hW_224273.at m_179883 t_179884
                    obtain ⟨v_224500, h_224501⟩ : ∃ v9 : Int32, g_224499 (4 : Int32).toNatClampNeg = v9 := ⟨_, rfl⟩
                    refine v_iald hC m_179883 e_224498 (vp_in_iff.mpr (by decide)) h_224501 dX12_countAll_228 ?_
                    refine v_iload_n hC dX12_countAll_229 rfl ?_
                    obtain ⟨v_224502, h_224503⟩ : ∃ v9 : Int32, (if (v_224500 : Int32) < i_224270 then i_224270 else (v_224500 : Int32)) = v9 := ⟨_, rfl⟩
                    refine v_mmax hC mm_X12_386 mm_smax mm_i mm_cmax (by decide) (Nat.le_of_ble_eq_true rfl) (Nat.le_of_ble_eq_true rfl) (Nat.le_of_ble_eq_true rfl) h_224503 dX12_countAll_230 ?_
                    have b_224504 := max_v h_224503
                    try simp only [Int32.reduceToInt] at b_224504
                    refine v_iast hC m_179883 e_224498 (vp_in_iff.mpr (by decide)) dX12_countAll_233 (fun f_224505 hf_224506 hk_224507 => ?_)
                    have hW_224509 := hW_224273.up hf_224506 hk_224507 t_179884 ⟨_, rfl⟩
                    obtain ⟨g_224508, hf_224506⟩ : ∃ g9, f_224505 (q 22) = aI E 8 g9 := ⟨_, hf_224506⟩
                    have hf_224510 := (hk_224507 (q 1) (ne_kd hf_224275 e_224498 rfl)).trans hf_224275
                    have hf_224511 := (hk_224507 a_0 (ne_kd hf_224276 e_224498 rfl)).trans hf_224276
                    have fr_224512 := FR.w hk_224507 e_224498 (k := 108) rfl
                    refine v_aload_n hC dX12_countAll_234 rfl ?_
                    refine v_get hC fl_X12_55 m_1 hf_224511 rfl dX12_countAll_235 ?_
                    refine v_iconst hC dX12_countAll_238 (v := 5) (by decide) ?_
                    refine v_aload_n hC dX12_countAll_239 rfl ?_
                    refine v_get hC fl_X12_55 m_1 hf_224511 rfl dX12_countAll_240 ?_
                    refine v_iconst hC dX12_countAll_243 (v := 5) (by decide) ?_
                    obtain ⟨v_224513, h_224514⟩ : ∃ v9 : Int32, g_224508 (5 : Int32).toNatClampNeg = v9 := ⟨_, rfl⟩
                    refine v_iald hC m_179883 hf_224506 (vp_in_iff.mpr (by decide)) h_224514 dX12_countAll_244 ?_
                    refine v_iload_n hC dX12_countAll_245 rfl ?_
                    obtain ⟨v_224515, h_224516⟩ : ∃ v9 : Int32, (if i_224270 < (v_224513 : Int32) then i_224270 else (v_224513 : Int32)) = v9 := ⟨_, rfl⟩
                    refine v_mmin hC mm_X12_134 mm_smin mm_i mm_cmin (by decide) (Nat.le_of_ble_eq_true rfl) (Nat.le_of_ble_eq_true rfl) (Nat.le_of_ble_eq_true rfl) h_224516 dX12_countAll_246 ?_
                    have b_224517 := min_v h_224516
                    try simp only [Int32.reduceToInt] at b_224517
                    refine v_iast hC m_179883 hf_224506 (vp_in_iff.mpr (by decide)) dX12_countAll_249 (fun f_224518 hf_224519 hk_224520 => ?_)
                    have hW_224522 := hW_224509.up hf_224519 hk_224520 t_179884 ⟨_, rfl⟩
                    obtain ⟨g_224521, hf_224519⟩ : ∃ g9, f_224518 (q 22) = aI E 8 g9 := ⟨_, hf_224519⟩
                    have hf_224523 := (hk_224520 (q 1) (ne_kd hf_224510 hf_224506 rfl)).trans hf_224510
                    have hf_224524 := (hk_224520 a_0 (ne_kd hf_224511 hf_224506 rfl)).trans hf_224511
                    have fr_224525 := FR.w hk_224520 hf_224506 (k := 108) rfl
                    obtain ⟨v_224526, h_224527⟩ : ∃ v9 : Int32, i_219119 + Int32.ofInt 1 = v9 := ⟨_, rfl⟩
                    have h_224528 := add_v (b := 1) h_224527 (by first | omega | (simp only [Int32.lt_iff_toInt_lt, Int32.le_iff_toInt_le, Int32.reduceToInt, ← Int32.toInt_inj, true_and, and_true, or_true, true_or, false_or, or_false, false_and, and_false, not_true_eq_false, not_false_eq_true] <;> omega)) (by first | omega | (simp only [Int32.lt_iff_toInt_lt, Int32.le_iff_toInt_le, Int32.reduceToInt, ← Int32.toInt_inj, true_and, and_true, or_true, true_or, false_or, or_false, false_and, and_false, not_true_eq_false, not_false_eq_true] <;> omega))
                    simp only [Int32.reduceToInt] at h_224528
                    refine v_iinc hC dX12_countAll_250 (k := 2) rfl (v := v_224526) h_224527 (by decide) (lv' := [(2, .int v_224526), (4, .int i_224269), (3, .int i_224270), (1, .int i_224271), (0, .ref a_0)]) rfl ?_
                    refine v_goto hC dX12_countAll_253 (tgt := 34) (by decide) ?_
                    refine v_pick [0, 3, 4] rfl ?_
                    exact ih_219129 f_224518 hW_224522 ((((hF_219123.tr hF_224274).tr fr_224512).tr fr_224525).mono rfl) v_224526 (by first | omega | (simp only [Int32.lt_iff_toInt_lt, Int32.le_iff_toInt_le, Int32.reduceToInt, ← Int32.toInt_inj, true_and, and_true, or_true, true_or, false_or, or_false, false_and, and_false, not_true_eq_false, not_false_eq_true] <;> omega)) i_224271 (by first | omega | (simp only [Int32.lt_iff_toInt_lt, Int32.le_iff_toInt_le, Int32.reduceToInt, ← Int32.toInt_inj, true_and, and_true, or_true, true_or, false_or, or_false, false_and, and_false, not_true_eq_false, not_false_eq_true] <;> omega))
                  · simp only [Int32.lt_iff_toInt_lt, Int32.le_iff_toInt_le, Int32.reduceToInt, ← Int32.toInt_inj] at h_224288
                    refine v_iload_n hC dX12_countAll_56 rfl ?_
                    refine v_aload_n hC dX12_countAll_57 rfl ?_
                    refine v_vi hC (rest := [.int i_219119]) m_1 hf_224276 rfl mi_X12_wide ms_X12_wide (p_X12_wide hW_224273 k_0 hf_224275 o_w) mx_X12_wide ml_X12_87 (by decide) rfl (cells1 := 0) (slots1 := 0) (by decide) (by decide) (Nat.le_of_ble_eq_true rfl) (Nat.le_of_ble_eq_true rfl) rfl (Nat.le_of_ble_eq_true rfl) dX12_countAll_58 (fun r_224529 L_224530 f_224531 h_224532 => ?_)
                    obtain ⟨rfl, rfl, rfl⟩ := h_224532
                    obtain ⟨v_224535, h_224536⟩ : ∃ v9 : Int32, i_219119 * (g_w 1) = v9 := ⟨_, rfl⟩
                    refine v_imul hC dX12_countAll_61 h_224536 ?_
                    have h_224537 := mul_v 15 16 240 h_224536 (by first | omega | (simp only [Int32.lt_iff_toInt_lt, Int32.le_iff_toInt_le, Int32.reduceToInt, ← Int32.toInt_inj, true_and, and_true, or_true, true_or, false_or, or_false, false_and, and_false, not_true_eq_false, not_false_eq_true] <;> omega)) (by first | omega | (simp only [Int32.lt_iff_toInt_lt, Int32.le_iff_toInt_le, Int32.reduceToInt, ← Int32.toInt_inj, true_and, and_true, or_true, true_or, false_or, or_false, false_and, and_false, not_true_eq_false, not_false_eq_true] <;> omega)) (by decide) (by decide)
                    refine v_iload hC dX12_countAll_62 rfl ?_
                    obtain ⟨v_224538, h_224539⟩ : ∃ v9 : Int32, v_224535 + i_224269 = v9 := ⟨_, rfl⟩
                    refine v_iadd hC dX12_countAll_64 h_224539 ?_
                    have h_224540 := add_v h_224539 (by first | omega | (simp only [Int32.lt_iff_toInt_lt, Int32.le_iff_toInt_le, Int32.reduceToInt, ← Int32.toInt_inj, true_and, and_true, or_true, true_or, false_or, or_false, false_and, and_false, not_true_eq_false, not_false_eq_true] <;> omega)) (by first | omega | (simp only [Int32.lt_iff_toInt_lt, Int32.le_iff_toInt_le, Int32.reduceToInt, ← Int32.toInt_inj, true_and, and_true, or_true, true_or, false_or, or_false, false_and, and_false, not_true_eq_false, not_false_eq_true] <;> omega))
                    refine v_istore hC dX12_countAll_65 (by decide) (lv' := [(5, .int v_224538), (4, .int i_224269), (3, .int i_224270), (2, .int i_219119), (1, .int i_224271), (0, .ref a_0)]) rfl ?_
                    refine v_aload_n hC dX12_countAll_67 rfl ?_
                    refine v_get hC fl_X12_37 m_1 hf_224276 rfl dX12_countAll_68 ?_
                    refine v_iload hC dX12_countAll_71 rfl ?_
                    obtain ⟨m_224541, t_224542⟩ := id k_9
                    obtain ⟨g_224544, e_224543⟩ := hW_224273.at m_224541 t_224542
                    obtain ⟨v_224545, h_224546⟩ : ∃ v9 : Int32, g_224544 (v_224538 : Int32).toNatClampNeg = v9 := ⟨_, rfl⟩
                    refine v_iald hC m_224541 e_224543 (vp_in_iff.mpr (by first | omega | (simp only [Int32.lt_iff_toInt_lt, Int32.le_iff_toInt_le, Int32.reduceToInt, ← Int32.toInt_inj, true_and, and_true, or_true, true_or, false_or, or_false, false_and, and_false, not_true_eq_false, not_false_eq_true] <;> omega))) h_224546 dX12_countAll_73 ?_
                    refine v_istore hC dX12_countAll_74 (by decide) (lv' := [(6, .int v_224545), (5, .int v_224538), (4, .int i_224269), (3, .int i_224270), (2, .int i_219119), (1, .int i_224271), (0, .ref a_0)]) rfl ?_
                    refine v_aload_n hC dX12_countAll_76 rfl ?_
                    refine v_get hC fl_X12_55 m_1 hf_224276 rfl dX12_countAll_77 ?_
                    refine v_bipush hC dX12_countAll_80 (v := 6) (by decide) ?_
                    refine v_dup2 hC dX12_countAll_82 rfl rfl ?_
                    obtain ⟨g_224548, e_224547⟩ := hW_224273.at m_179883 t_179884
                    obtain ⟨v_224549, h_224550⟩ : ∃ v9 : Int32, g_224548 (6 : Int32).toNatClampNeg = v9 := ⟨_, rfl⟩
                    refine v_iald hC m_179883 e_224547 (vp_in_iff.mpr (by decide)) h_224550 dX12_countAll_83 ?_
                    refine v_iload hC dX12_countAll_84 rfl ?_
                    refine v_iconst hC dX12_countAll_86 (v := 4) (by decide) ?_
                    have jn_224552 : ∀ (v_224553 : Int32) (b_224554 : (0 ≤ v_224553.toInt ∧ v_224553.toInt ≤ 1)), V z E 7 0 0 L f_224272 95 [(6, .int v_224545), (5, .int v_224538), (4, .int i_224269), (3, .int i_224270), (2, .int i_219119), (1, .int i_224271), (0, .ref a_0)] [.int v_224553, .int v_224549, .int 6, .ref (q 22)] := by
                      intro v_224553 b_224554
                      obtain ⟨v_224555, h_224556⟩ : ∃ v9 : Int32, v_224549 + v_224553 = v9 := ⟨_, rfl⟩
                      refine v_iadd hC dX12_countAll_95 h_224556 ?_
                      refine v_iast hC m_179883 e_224547 (vp_in_iff.mpr (by decide)) dX12_countAll_96 (fun f_224558 hf_224559 hk_224560 => ?_)
                      have hW_224562 := hW_224273.up hf_224559 hk_224560 t_179884 ⟨_, rfl⟩
                      obtain ⟨g_224561, hf_224559⟩ : ∃ g9, f_224558 (q 22) = aI E 8 g9 := ⟨_, hf_224559⟩
                      have hf_224563 := (hk_224560 (q 1) (ne_kd hf_224275 e_224547 rfl)).trans hf_224275
                      have hf_224564 := (hk_224560 a_0 (ne_kd hf_224276 e_224547 rfl)).trans hf_224276
                      have hf_224565 := (hk_224560 (q 15) (ne_kd e_224543 e_224547 rfl)).trans e_224543
                      have fr_224566 := FR.w hk_224560 e_224547 (k := 108) rfl
                      refine v_aload_n hC dX12_countAll_97 rfl ?_
                      refine v_iload hC dX12_countAll_98 rfl ?_
                      refine v_vi hC (rest := []) m_1 hf_224564 rfl mi_X12_isFree ms_X12_isFree (p_X12_isFree hW_224562 k_0 (by first | omega | (simp only [Int32.lt_iff_toInt_lt, Int32.le_iff_toInt_le, Int32.reduceToInt, ← Int32.toInt_inj, true_and, and_true, or_true, true_or, false_or, or_false, false_and, and_false, not_true_eq_false, not_false_eq_true] <;> omega)) hf_224563 o_w (by first | omega | (simp only [Int32.lt_iff_toInt_lt, Int32.le_iff_toInt_le, Int32.reduceToInt, ← Int32.toInt_inj, true_and, and_true, or_true, true_or, false_or, or_false, false_and, and_false, not_true_eq_false, not_false_eq_true] <;> omega))) mx_X12_isFree ml_X12_206 (by decide) rfl (cells1 := 0) (slots1 := 0) (by decide) (by decide) (Nat.le_of_ble_eq_true rfl) (Nat.le_of_ble_eq_true rfl) rfl (Nat.le_of_ble_eq_true rfl) dX12_countAll_100 (fun r_224567 L_224568 f_224569 h_224570 => ?_)
                      obtain ⟨rfl, rfl, b_224571⟩ := h_224570
                      refine v_if_ne hC dX12_countAll_103 (tgt := 109) (by decide) (fun h_224574 => ?_) (fun h_224574 => ?_)
                      · simp only [Int32.lt_iff_toInt_lt, Int32.le_iff_toInt_le, Int32.reduceToInt, ← Int32.toInt_inj] at h_224574
                        refine v_aload_n hC dX12_countAll_109 rfl ?_
                        refine v_get hC fl_X12_55 m_1 hf_224564 rfl dX12_countAll_110 ?_
                        refine v_bipush hC dX12_countAll_113 (v := 7) (by decide) ?_
                        refine v_dup2 hC dX12_countAll_115 rfl rfl ?_
                        obtain ⟨v_224575, h_224576⟩ : ∃ v9 : Int32, g_224561 (7 : Int32).toNatClampNeg = v9 := ⟨_, rfl⟩
                        refine v_iald hC m_179883 hf_224559 (vp_in_iff.mpr (by decide)) h_224576 dX12_countAll_116 ?_
                        refine v_iconst hC dX12_countAll_117 (v := 1) (by decide) ?_
                        obtain ⟨v_224577, h_224578⟩ : ∃ v9 : Int32, v_224575 + 1 = v9 := ⟨_, rfl⟩
                        refine v_iadd hC dX12_countAll_118 h_224578 ?_
                        refine v_iast hC m_179883 hf_224559 (vp_in_iff.mpr (by decide)) dX12_countAll_119 (fun f_224580 hf_224581 hk_224582 => ?_)
                        have hW_224584 := hW_224562.up hf_224581 hk_224582 t_179884 ⟨_, rfl⟩
                        obtain ⟨g_224583, hf_224581⟩ : ∃ g9, f_224580 (q 22) = aI E 8 g9 := ⟨_, hf_224581⟩
                        have hf_224585 := (hk_224582 (q 1) (ne_kd hf_224563 hf_224559 rfl)).trans hf_224563
                        have hf_224586 := (hk_224582 a_0 (ne_kd hf_224564 hf_224559 rfl)).trans hf_224564
                        have hf_224587 := (hk_224582 (q 15) (ne_kd hf_224565 hf_224559 rfl)).trans hf_224565
                        have fr_224588 := FR.w hk_224582 hf_224559 (k := 108) rfl
                        refine v_iload_n hC dX12_countAll_120 rfl ?_
                        refine v_iload hC dX12_countAll_121 rfl ?_
                        have jn_224591 : ∀ (v_224592 : Int32) (b_224593 : (0 ≤ v_224592.toInt ∧ v_224592.toInt ≤ 1)), V z E 7 0 0 L f_224580 137 [(6, .int v_224545), (5, .int v_224538), (4, .int i_224269), (2, .int i_219119), (1, .int i_224271), (0, .ref a_0)] [.int v_224592, .int i_224270] := by
                          intro v_224592 b_224593
                          obtain ⟨v_224594, h_224595⟩ : ∃ v9 : Int32, i_224270 + v_224592 = v9 := ⟨_, rfl⟩
                          refine v_iadd hC dX12_countAll_137 h_224595 ?_
                          refine v_istore_n hC dX12_countAll_138 (by decide) (lv' := [(3, .int v_224594), (6, .int v_224545), (5, .int v_224538), (4, .int i_224269), (2, .int i_219119), (1, .int i_224271), (0, .ref a_0)]) rfl ?_
                          refine v_iload hC dX12_countAll_139 rfl ?_
                          obtain ⟨v_224597, h_224598⟩ : ∃ v9 : Int64, v_224545.toInt64 = v9 := ⟨_, rfl⟩
                          refine v_i2l hC dX12_countAll_141 h_224598 ?_
                          have h_224599 : v_224597.toInt = v_224545.toInt := by rw [← h_224598]; exact Int32.toInt_toInt64 _
                          refine v_lconst hC dX12_countAll_142 (v := 1) (by decide) ?_
                          refine v_ldc2 hC kl_X12_90 dX12_countAll_143 ?_
                          refine v_si hC (rest := []) mt_X12_in (p_X12_in hW_224584) mx_X12_in ml_X12_79 (by decide) rfl (cells1 := 0) (slots1 := 0) (by decide) (by decide) (Nat.le_of_ble_eq_true rfl) (Nat.le_of_ble_eq_true rfl) rfl (Nat.le_of_ble_eq_true rfl) dX12_countAll_146 (fun r_224600 L_224601 f_224602 h_224603 => ?_)
                          obtain ⟨rfl, rfl, b_224604, x_224605⟩ := h_224603
                          try simp only [Int32.reduceToInt, Int64.reduceToInt] at x_224605
                          have jn_224626 : ∀ (f_224627 : Nat → va_E) (hW_224628 : WT T L f_224627) (hF_224629 : FR [108] f_224580 f_224627) , V z E 7 0 0 L f_224627 165 [(3, .int v_224594), (6, .int v_224545), (5, .int v_224538), (4, .int i_224269), (2, .int i_219119), (1, .int i_224271), (0, .ref a_0)] [] := by
                            intro f_224627 hW_224628 hF_224629
                            have hf_224630 := hF_224629.at hf_224585 rfl
                            have hf_224631 := hF_224629.at hf_224586 rfl
                            have hf_224632 := hF_224629.at hf_224587 rfl
                            refine v_aload_n hC dX12_countAll_165 rfl ?_
                            refine v_iload hC dX12_countAll_166 rfl ?_
                            refine v_vi hC (rest := []) m_1 hf_224631 rfl mi_X12_sortOf ms_X12_sortOf (p_X12_sortOf hW_224628 k_0 (by first | omega | (simp only [Int32.lt_iff_toInt_lt, Int32.le_iff_toInt_le, Int32.reduceToInt, ← Int32.toInt_inj, true_and, and_true, or_true, true_or, false_or, or_false, false_and, and_false, not_true_eq_false, not_false_eq_true] <;> omega)) hf_224630 o_w (by first | omega | (simp only [Int32.lt_iff_toInt_lt, Int32.le_iff_toInt_le, Int32.reduceToInt, ← Int32.toInt_inj, true_and, and_true, or_true, true_or, false_or, or_false, false_and, and_false, not_true_eq_false, not_false_eq_true] <;> omega))) mx_X12_sortOf ml_X12_98 (by decide) rfl (cells1 := 0) (slots1 := 0) (by decide) (by decide) (Nat.le_of_ble_eq_true rfl) (Nat.le_of_ble_eq_true rfl) rfl (Nat.le_of_ble_eq_true rfl) dX12_countAll_168 (fun r_224633 L_224634 f_224635 h_224636 => ?_)
                            obtain ⟨rfl, rfl, b_224637⟩ := h_224636
                            refine v_iconst hC dX12_countAll_171 (v := 2) (by decide) ?_
                            refine v_icmp_eq hC dX12_countAll_172 (tgt := 178) (by decide) (fun h_224640 => ?_) (fun h_224640 => ?_)
                            · simp only [Int32.lt_iff_toInt_lt, Int32.le_iff_toInt_le, Int32.reduceToInt, ← Int32.toInt_inj] at h_224640
                              refine v_aload_n hC dX12_countAll_178 rfl ?_
                              refine v_get hC fl_X12_55 m_1 hf_224631 rfl dX12_countAll_179 ?_
                              refine v_iconst hC dX12_countAll_182 (v := 3) (by decide) ?_
                              refine v_dup2 hC dX12_countAll_183 rfl rfl ?_
                              obtain ⟨g_224642, e_224641⟩ := hW_224628.at m_179883 t_179884
                              obtain ⟨v_224643, h_224644⟩ : ∃ v9 : Int32, g_224642 (3 : Int32).toNatClampNeg = v9 := ⟨_, rfl⟩
                              refine v_iald hC m_179883 e_224641 (vp_in_iff.mpr (by decide)) h_224644 dX12_countAll_184 ?_
                              refine v_iload hC dX12_countAll_185 rfl ?_
                              refine v_iconst hC dX12_countAll_187 (v := 4) (by decide) ?_
                              refine v_icmp_eq hC dX12_countAll_188 (tgt := 206) (by decide) (fun h_224645 => ?_) (fun h_224645 => ?_)
                              · simp only [Int32.lt_iff_toInt_lt, Int32.le_iff_toInt_le, Int32.reduceToInt, ← Int32.toInt_inj] at h_224645
                                refine v_iconst hC dX12_countAll_206 (v := 0) (by decide) ?_
                                obtain ⟨v_224646, h_224647⟩ : ∃ v9 : Int32, v_224643 + 0 = v9 := ⟨_, rfl⟩
                                refine v_iadd hC dX12_countAll_207 h_224647 ?_
                                have rg_224649 := Int32.toInt_lt v_224643
                                have rg_224650 := Int32.le_toInt v_224643
                                have h_224648 := add_v h_224647 (by first | omega | (simp only [Int32.lt_iff_toInt_lt, Int32.le_iff_toInt_le, Int32.reduceToInt, ← Int32.toInt_inj, true_and, and_true, or_true, true_or, false_or, or_false, false_and, and_false, not_true_eq_false, not_false_eq_true] <;> omega)) (by first | omega | (simp only [Int32.lt_iff_toInt_lt, Int32.le_iff_toInt_le, Int32.reduceToInt, ← Int32.toInt_inj, true_and, and_true, or_true, true_or, false_or, or_false, false_and, and_false, not_true_eq_false, not_false_eq_true] <;> omega))
                                try simp only [Int32.reduceToInt] at h_224648
                                refine v_iast hC m_179883 e_224641 (vp_in_iff.mpr (by decide)) dX12_countAll_208 (fun f_224651 hf_224652 hk_224653 => ?_)
                                have hW_224655 := hW_224628.up hf_224652 hk_224653 t_179884 ⟨_, rfl⟩
                                obtain ⟨g_224654, hf_224652⟩ : ∃ g9, f_224651 (q 22) = aI E 8 g9 := ⟨_, hf_224652⟩
                                have hf_224656 := (hk_224653 (q 1) (ne_kd hf_224630 e_224641 rfl)).trans hf_224630
                                have hf_224657 := (hk_224653 a_0 (ne_kd hf_224631 e_224641 rfl)).trans hf_224631
                                have hf_224658 := (hk_224653 (q 15) (ne_kd hf_224632 e_224641 rfl)).trans hf_224632
                                have fr_224659 := FR.w hk_224653 e_224641 (k := 108) rfl
                                refine v_iload hC dX12_countAll_209 rfl ?_
                                refine v_istore_n hC dX12_countAll_211 (by decide) (lv' := [(1, .int v_224545), (3, .int v_224594), (6, .int v_224545), (5, .int v_224538), (4, .int i_224269), (2, .int i_219119), (0, .ref a_0)]) rfl ?_
                                obtain ⟨v_224660, h_224661⟩ : ∃ v9 : Int32, i_224269 + Int32.ofInt 1 = v9 := ⟨_, rfl⟩
                                have h_224662 := add_v (b := 1) h_224661 (by first | omega | (simp only [Int32.lt_iff_toInt_lt, Int32.le_iff_toInt_le, Int32.reduceToInt, ← Int32.toInt_inj, true_and, and_true, or_true, true_or, false_or, or_false, false_and, and_false, not_true_eq_false, not_false_eq_true] <;> omega)) (by first | omega | (simp only [Int32.lt_iff_toInt_lt, Int32.le_iff_toInt_le, Int32.reduceToInt, ← Int32.toInt_inj, true_and, and_true, or_true, true_or, false_or, or_false, false_and, and_false, not_true_eq_false, not_false_eq_true] <;> omega))
                                simp only [Int32.reduceToInt] at h_224662
                                refine v_iinc hC dX12_countAll_212 (k := 4) rfl (v := v_224660) h_224661 (by decide) (lv' := [(4, .int v_224660), (1, .int v_224545), (3, .int v_224594), (6, .int v_224545), (5, .int v_224538), (2, .int i_219119), (0, .ref a_0)]) rfl ?_
                                refine v_goto hC dX12_countAll_215 (tgt := 47) (by decide) ?_
                                refine v_pick [0, 2, 5, 1, 6] rfl ?_
                                exact ih_224280 f_224651 hW_224655 (((((hF_224274.tr fr_224566).tr fr_224588).tr hF_224629).tr fr_224659).mono rfl) v_224660 (by first | omega | (simp only [Int32.lt_iff_toInt_lt, Int32.le_iff_toInt_le, Int32.reduceToInt, ← Int32.toInt_inj, true_and, and_true, or_true, true_or, false_or, or_false, false_and, and_false, not_true_eq_false, not_false_eq_true] <;> omega)) v_224594 v_224545 (by first | omega | (simp only [Int32.lt_iff_toInt_lt, Int32.le_iff_toInt_le, Int32.reduceToInt, ← Int32.toInt_inj, true_and, and_true, or_true, true_or, false_or, or_false, false_and, and_false, not_true_eq_false, not_false_eq_true] <;> omega))
                              · simp only [Int32.lt_iff_toInt_lt, Int32.le_iff_toInt_le, Int32.reduceToInt, ← Int32.toInt_inj] at h_224645
                                refine v_iload_n hC dX12_countAll_191 rfl ?_
                                refine v_iconst hC dX12_countAll_192 (v := 4) (by decide) ?_
                                refine v_icmp_eq hC dX12_countAll_193 (tgt := 206) (by decide) (fun h_224663 => ?_) (fun h_224663 => ?_)
                                · simp only [Int32.lt_iff_toInt_lt, Int32.le_iff_toInt_le, Int32.reduceToInt, ← Int32.toInt_inj] at h_224663
                                  refine v_iconst hC dX12_countAll_206 (v := 0) (by decide) ?_
                                  obtain ⟨v_224664, h_224665⟩ : ∃ v9 : Int32, v_224643 + 0 = v9 := ⟨_, rfl⟩
                                  refine v_iadd hC dX12_countAll_207 h_224665 ?_
                                  have rg_224667 := Int32.toInt_lt v_224643
                                  have rg_224668 := Int32.le_toInt v_224643
                                  have h_224666 := add_v h_224665 (by first | omega | (simp only [Int32.lt_iff_toInt_lt, Int32.le_iff_toInt_le, Int32.reduceToInt, ← Int32.toInt_inj, true_and, and_true, or_true, true_or, false_or, or_false, false_and, and_false, not_true_eq_false, not_false_eq_true] <;> omega)) (by first | omega | (simp only [Int32.lt_iff_toInt_lt, Int32.le_iff_toInt_le, Int32.reduceToInt, ← Int32.toInt_inj, true_and, and_true, or_true, true_or, false_or, or_false, false_and, and_false, not_true_eq_false, not_false_eq_true] <;> omega))
                                  try simp only [Int32.reduceToInt] at h_224666
                                  refine v_iast hC m_179883 e_224641 (vp_in_iff.mpr (by decide)) dX12_countAll_208 (fun f_224669 hf_224670 hk_224671 => ?_)
                                  have hW_224673 := hW_224628.up hf_224670 hk_224671 t_179884 ⟨_, rfl⟩
                                  obtain ⟨g_224672, hf_224670⟩ : ∃ g9, f_224669 (q 22) = aI E 8 g9 := ⟨_, hf_224670⟩
                                  have hf_224674 := (hk_224671 (q 1) (ne_kd hf_224630 e_224641 rfl)).trans hf_224630
                                  have hf_224675 := (hk_224671 a_0 (ne_kd hf_224631 e_224641 rfl)).trans hf_224631
                                  have hf_224676 := (hk_224671 (q 15) (ne_kd hf_224632 e_224641 rfl)).trans hf_224632
                                  have fr_224677 := FR.w hk_224671 e_224641 (k := 108) rfl
                                  refine v_iload hC dX12_countAll_209 rfl ?_
                                  refine v_istore_n hC dX12_countAll_211 (by decide) (lv' := [(1, .int v_224545), (3, .int v_224594), (6, .int v_224545), (5, .int v_224538), (4, .int i_224269), (2, .int i_219119), (0, .ref a_0)]) rfl ?_
                                  obtain ⟨v_224678, h_224679⟩ : ∃ v9 : Int32, i_224269 + Int32.ofInt 1 = v9 := ⟨_, rfl⟩
                                  have h_224680 := add_v (b := 1) h_224679 (by first | omega | (simp only [Int32.lt_iff_toInt_lt, Int32.le_iff_toInt_le, Int32.reduceToInt, ← Int32.toInt_inj, true_and, and_true, or_true, true_or, false_or, or_false, false_and, and_false, not_true_eq_false, not_false_eq_true] <;> omega)) (by first | omega | (simp only [Int32.lt_iff_toInt_lt, Int32.le_iff_toInt_le, Int32.reduceToInt, ← Int32.toInt_inj, true_and, and_true, or_true, true_or, false_or, or_false, false_and, and_false, not_true_eq_false, not_false_eq_true] <;> omega))
                                  simp only [Int32.reduceToInt] at h_224680
                                  refine v_iinc hC dX12_countAll_212 (k := 4) rfl (v := v_224678) h_224679 (by decide) (lv' := [(4, .int v_224678), (1, .int v_224545), (3, .int v_224594), (6, .int v_224545), (5, .int v_224538), (2, .int i_219119), (0, .ref a_0)]) rfl ?_
                                  refine v_goto hC dX12_countAll_215 (tgt := 47) (by decide) ?_
                                  refine v_pick [0, 2, 5, 1, 6] rfl ?_
                                  exact ih_224280 f_224669 hW_224673 (((((hF_224274.tr fr_224566).tr fr_224588).tr hF_224629).tr fr_224677).mono rfl) v_224678 (by first | omega | (simp only [Int32.lt_iff_toInt_lt, Int32.le_iff_toInt_le, Int32.reduceToInt, ← Int32.toInt_inj, true_and, and_true, or_true, true_or, false_or, or_false, false_and, and_false, not_true_eq_false, not_false_eq_true] <;> omega)) v_224594 v_224545 (by first | omega | (simp only [Int32.lt_iff_toInt_lt, Int32.le_iff_toInt_le, Int32.reduceToInt, ← Int32.toInt_inj, true_and, and_true, or_true, true_or, false_or, or_false, false_and, and_false, not_true_eq_false, not_false_eq_true] <;> omega))
                                · simp only [Int32.lt_iff_toInt_lt, Int32.le_iff_toInt_le, Int32.reduceToInt, ← Int32.toInt_inj] at h_224663
                                  refine v_iload hC dX12_countAll_196 rfl ?_
                                  refine v_iload_n hC dX12_countAll_198 rfl ?_
                                  refine v_icmp_eq hC dX12_countAll_199 (tgt := 206) (by decide) (fun h_224681 => ?_) (fun h_224681 => ?_)
                                  · simp only [Int32.lt_iff_toInt_lt, Int32.le_iff_toInt_le, Int32.reduceToInt, ← Int32.toInt_inj] at h_224681
                                    refine v_iconst hC dX12_countAll_206 (v := 0) (by decide) ?_
                                    obtain ⟨v_224682, h_224683⟩ : ∃ v9 : Int32, v_224643 + 0 = v9 := ⟨_, rfl⟩
                                    refine v_iadd hC dX12_countAll_207 h_224683 ?_
                                    have rg_224685 := Int32.toInt_lt v_224643
                                    have rg_224686 := Int32.le_toInt v_224643
                                    have h_224684 := add_v h_224683 (by first | omega | (simp only [Int32.lt_iff_toInt_lt, Int32.le_iff_toInt_le, Int32.reduceToInt, ← Int32.toInt_inj, true_and, and_true, or_true, true_or, false_or, or_false, false_and, and_false, not_true_eq_false, not_false_eq_true] <;> omega)) (by first | omega | (simp only [Int32.lt_iff_toInt_lt, Int32.le_iff_toInt_le, Int32.reduceToInt, ← Int32.toInt_inj, true_and, and_true, or_true, true_or, false_or, or_false, false_and, and_false, not_true_eq_false, not_false_eq_true] <;> omega))
                                    try simp only [Int32.reduceToInt] at h_224684
                                    refine v_iast hC m_179883 e_224641 (vp_in_iff.mpr (by decide)) dX12_countAll_208 (fun f_224687 hf_224688 hk_224689 => ?_)
                                    have hW_224691 := hW_224628.up hf_224688 hk_224689 t_179884 ⟨_, rfl⟩
                                    obtain ⟨g_224690, hf_224688⟩ : ∃ g9, f_224687 (q 22) = aI E 8 g9 := ⟨_, hf_224688⟩
                                    have hf_224692 := (hk_224689 (q 1) (ne_kd hf_224630 e_224641 rfl)).trans hf_224630
                                    have hf_224693 := (hk_224689 a_0 (ne_kd hf_224631 e_224641 rfl)).trans hf_224631
                                    have hf_224694 := (hk_224689 (q 15) (ne_kd hf_224632 e_224641 rfl)).trans hf_224632
                                    have fr_224695 := FR.w hk_224689 e_224641 (k := 108) rfl
                                    refine v_iload hC dX12_countAll_209 rfl ?_
                                    refine v_istore_n hC dX12_countAll_211 (by decide) (lv' := [(1, .int v_224545), (3, .int v_224594), (6, .int v_224545), (5, .int v_224538), (4, .int i_224269), (2, .int i_219119), (0, .ref a_0)]) rfl ?_
                                    obtain ⟨v_224696, h_224697⟩ : ∃ v9 : Int32, i_224269 + Int32.ofInt 1 = v9 := ⟨_, rfl⟩
                                    have h_224698 := add_v (b := 1) h_224697 (by first | omega | (simp only [Int32.lt_iff_toInt_lt, Int32.le_iff_toInt_le, Int32.reduceToInt, ← Int32.toInt_inj, true_and, and_true, or_true, true_or, false_or, or_false, false_and, and_false, not_true_eq_false, not_false_eq_true] <;> omega)) (by first | omega | (simp only [Int32.lt_iff_toInt_lt, Int32.le_iff_toInt_le, Int32.reduceToInt, ← Int32.toInt_inj, true_and, and_true, or_true, true_or, false_or, or_false, false_and, and_false, not_true_eq_false, not_false_eq_true] <;> omega))
                                    simp only [Int32.reduceToInt] at h_224698
                                    refine v_iinc hC dX12_countAll_212 (k := 4) rfl (v := v_224696) h_224697 (by decide) (lv' := [(4, .int v_224696), (1, .int v_224545), (3, .int v_224594), (6, .int v_224545), (5, .int v_224538), (2, .int i_219119), (0, .ref a_0)]) rfl ?_
                                    refine v_goto hC dX12_countAll_215 (tgt := 47) (by decide) ?_
                                    refine v_pick [0, 2, 5, 1, 6] rfl ?_
                                    exact ih_224280 f_224687 hW_224691 (((((hF_224274.tr fr_224566).tr fr_224588).tr hF_224629).tr fr_224695).mono rfl) v_224696 (by first | omega | (simp only [Int32.lt_iff_toInt_lt, Int32.le_iff_toInt_le, Int32.reduceToInt, ← Int32.toInt_inj, true_and, and_true, or_true, true_or, false_or, or_false, false_and, and_false, not_true_eq_false, not_false_eq_true] <;> omega)) v_224594 v_224545 (by first | omega | (simp only [Int32.lt_iff_toInt_lt, Int32.le_iff_toInt_le, Int32.reduceToInt, ← Int32.toInt_inj, true_and, and_true, or_true, true_or, false_or, or_false, false_and, and_false, not_true_eq_false, not_false_eq_true] <;> omega))
                                  · simp only [Int32.lt_iff_toInt_lt, Int32.le_iff_toInt_le, Int32.reduceToInt, ← Int32.toInt_inj] at h_224681
                                    refine v_iconst hC dX12_countAll_202 (v := 1) (by decide) ?_
                                    refine v_goto hC dX12_countAll_203 (tgt := 207) (by decide) ?_
                                    obtain ⟨v_224699, h_224700⟩ : ∃ v9 : Int32, v_224643 + 1 = v9 := ⟨_, rfl⟩
                                    refine v_iadd hC dX12_countAll_207 h_224700 ?_
                                    refine v_iast hC m_179883 e_224641 (vp_in_iff.mpr (by decide)) dX12_countAll_208 (fun f_224702 hf_224703 hk_224704 => ?_)
                                    have hW_224706 := hW_224628.up hf_224703 hk_224704 t_179884 ⟨_, rfl⟩
                                    obtain ⟨g_224705, hf_224703⟩ : ∃ g9, f_224702 (q 22) = aI E 8 g9 := ⟨_, hf_224703⟩
                                    have hf_224707 := (hk_224704 (q 1) (ne_kd hf_224630 e_224641 rfl)).trans hf_224630
                                    have hf_224708 := (hk_224704 a_0 (ne_kd hf_224631 e_224641 rfl)).trans hf_224631
                                    have hf_224709 := (hk_224704 (q 15) (ne_kd hf_224632 e_224641 rfl)).trans hf_224632
                                    have fr_224710 := FR.w hk_224704 e_224641 (k := 108) rfl
                                    refine v_iload hC dX12_countAll_209 rfl ?_
                                    refine v_istore_n hC dX12_countAll_211 (by decide) (lv' := [(1, .int v_224545), (3, .int v_224594), (6, .int v_224545), (5, .int v_224538), (4, .int i_224269), (2, .int i_219119), (0, .ref a_0)]) rfl ?_
                                    obtain ⟨v_224711, h_224712⟩ : ∃ v9 : Int32, i_224269 + Int32.ofInt 1 = v9 := ⟨_, rfl⟩
                                    have h_224713 := add_v (b := 1) h_224712 (by first | omega | (simp only [Int32.lt_iff_toInt_lt, Int32.le_iff_toInt_le, Int32.reduceToInt, ← Int32.toInt_inj, true_and, and_true, or_true, true_or, false_or, or_false, false_and, and_false, not_true_eq_false, not_false_eq_true] <;> omega)) (by first | omega | (simp only [Int32.lt_iff_toInt_lt, Int32.le_iff_toInt_le, Int32.reduceToInt, ← Int32.toInt_inj, true_and, and_true, or_true, true_or, false_or, or_false, false_and, and_false, not_true_eq_false, not_false_eq_true] <;> omega))
                                    simp only [Int32.reduceToInt] at h_224713
                                    refine v_iinc hC dX12_countAll_212 (k := 4) rfl (v := v_224711) h_224712 (by decide) (lv' := [(4, .int v_224711), (1, .int v_224545), (3, .int v_224594), (6, .int v_224545), (5, .int v_224538), (2, .int i_219119), (0, .ref a_0)]) rfl ?_
                                    refine v_goto hC dX12_countAll_215 (tgt := 47) (by decide) ?_
                                    refine v_pick [0, 2, 5, 1, 6] rfl ?_
                                    exact ih_224280 f_224702 hW_224706 (((((hF_224274.tr fr_224566).tr fr_224588).tr hF_224629).tr fr_224710).mono rfl) v_224711 (by first | omega | (simp only [Int32.lt_iff_toInt_lt, Int32.le_iff_toInt_le, Int32.reduceToInt, ← Int32.toInt_inj, true_and, and_true, or_true, true_or, false_or, or_false, false_and, and_false, not_true_eq_false, not_false_eq_true] <;> omega)) v_224594 v_224545 (by first | omega | (simp only [Int32.lt_iff_toInt_lt, Int32.le_iff_toInt_le, Int32.reduceToInt, ← Int32.toInt_inj, true_and, and_true, or_true, true_or, false_or, or_false, false_and, and_false, not_true_eq_false, not_false_eq_true] <;> omega))
                            · simp only [Int32.lt_iff_toInt_lt, Int32.le_iff_toInt_le, Int32.reduceToInt, ← Int32.toInt_inj] at h_224640
                              refine v_goto hC dX12_countAll_175 (tgt := 212) (by decide) ?_
                              obtain ⟨v_224714, h_224715⟩ : ∃ v9 : Int32, i_224269 + Int32.ofInt 1 = v9 := ⟨_, rfl⟩
                              have h_224716 := add_v (b := 1) h_224715 (by first | omega | (simp only [Int32.lt_iff_toInt_lt, Int32.le_iff_toInt_le, Int32.reduceToInt, ← Int32.toInt_inj, true_and, and_true, or_true, true_or, false_or, or_false, false_and, and_false, not_true_eq_false, not_false_eq_true] <;> omega)) (by first | omega | (simp only [Int32.lt_iff_toInt_lt, Int32.le_iff_toInt_le, Int32.reduceToInt, ← Int32.toInt_inj, true_and, and_true, or_true, true_or, false_or, or_false, false_and, and_false, not_true_eq_false, not_false_eq_true] <;> omega))
                              simp only [Int32.reduceToInt] at h_224716
                              refine v_iinc hC dX12_countAll_212 (k := 3) rfl (v := v_224714) h_224715 (by decide) (lv' := [(4, .int v_224714), (3, .int v_224594), (6, .int v_224545), (5, .int v_224538), (2, .int i_219119), (1, .int i_224271), (0, .ref a_0)]) rfl ?_
                              refine v_goto hC dX12_countAll_215 (tgt := 47) (by decide) ?_
                              refine v_pick [0, 1, 4, 5, 6] rfl ?_
                              exact ih_224280 f_224627 hW_224628 ((((hF_224274.tr fr_224566).tr fr_224588).tr hF_224629).mono rfl) v_224714 (by first | omega | (simp only [Int32.lt_iff_toInt_lt, Int32.le_iff_toInt_le, Int32.reduceToInt, ← Int32.toInt_inj, true_and, and_true, or_true, true_or, false_or, or_false, false_and, and_false, not_true_eq_false, not_false_eq_true] <;> omega)) v_224594 i_224271 (by first | omega | (simp only [Int32.lt_iff_toInt_lt, Int32.le_iff_toInt_le, Int32.reduceToInt, ← Int32.toInt_inj, true_and, and_true, or_true, true_or, false_or, or_false, false_and, and_false, not_true_eq_false, not_false_eq_true] <;> omega))
                          refine v_if_eq hC dX12_countAll_149 (tgt := 165) (by decide) (fun h_224608 => ?_) (fun h_224608 => ?_)
                          · simp only [Int32.lt_iff_toInt_lt, Int32.le_iff_toInt_le, Int32.reduceToInt, ← Int32.toInt_inj] at h_224608
                            refine v_pick [0, 1, 2, 3, 4, 5, 6] rfl ?_
                            exact jn_224626 f_224580 hW_224584 FR.rf
                          · simp only [Int32.lt_iff_toInt_lt, Int32.le_iff_toInt_le, Int32.reduceToInt, ← Int32.toInt_inj] at h_224608
                            refine v_aload_n hC dX12_countAll_152 rfl ?_
                            refine v_get hC fl_X12_55 m_1 hf_224586 rfl dX12_countAll_153 ?_
                            refine v_iload hC dX12_countAll_156 rfl ?_
                            refine v_iconst hC dX12_countAll_158 (v := 1) (by decide) ?_
                            obtain ⟨v_224717, h_224718⟩ : ∃ v9 : Int32, v_224545 - 1 = v9 := ⟨_, rfl⟩
                            refine v_isub hC dX12_countAll_159 h_224718 ?_
                            have h_224719 := sub_v h_224718 (by first | omega | (simp only [Int32.lt_iff_toInt_lt, Int32.le_iff_toInt_le, Int32.reduceToInt, ← Int32.toInt_inj, true_and, and_true, or_true, true_or, false_or, or_false, false_and, and_false, not_true_eq_false, not_false_eq_true] <;> omega)) (by first | omega | (simp only [Int32.lt_iff_toInt_lt, Int32.le_iff_toInt_le, Int32.reduceToInt, ← Int32.toInt_inj, true_and, and_true, or_true, true_or, false_or, or_false, false_and, and_false, not_true_eq_false, not_false_eq_true] <;> omega))
                            try simp only [Int32.reduceToInt] at h_224719
                            refine v_dup2 hC dX12_countAll_160 rfl rfl ?_
                            obtain ⟨v_224720, h_224721⟩ : ∃ v9 : Int32, g_224583 (v_224717 : Int32).toNatClampNeg = v9 := ⟨_, rfl⟩
                            refine v_iald hC m_179883 hf_224581 (vp_in_iff.mpr (by first | omega | (simp only [Int32.lt_iff_toInt_lt, Int32.le_iff_toInt_le, Int32.reduceToInt, ← Int32.toInt_inj, true_and, and_true, or_true, true_or, false_or, or_false, false_and, and_false, not_true_eq_false, not_false_eq_true] <;> omega))) h_224721 dX12_countAll_161 ?_
                            refine v_iconst hC dX12_countAll_162 (v := 1) (by decide) ?_
                            obtain ⟨v_224722, h_224723⟩ : ∃ v9 : Int32, v_224720 + 1 = v9 := ⟨_, rfl⟩
                            refine v_iadd hC dX12_countAll_163 h_224723 ?_
                            refine v_iast hC m_179883 hf_224581 (vp_in_iff.mpr (by first | omega | (simp only [Int32.lt_iff_toInt_lt, Int32.le_iff_toInt_le, Int32.reduceToInt, ← Int32.toInt_inj, true_and, and_true, or_true, true_or, false_or, or_false, false_and, and_false, not_true_eq_false, not_false_eq_true] <;> omega))) dX12_countAll_164 (fun f_224725 hf_224726 hk_224727 => ?_)
                            have hW_224729 := hW_224584.up hf_224726 hk_224727 t_179884 ⟨_, rfl⟩
                            obtain ⟨g_224728, hf_224726⟩ : ∃ g9, f_224725 (q 22) = aI E 8 g9 := ⟨_, hf_224726⟩
                            have hf_224730 := (hk_224727 (q 1) (ne_kd hf_224585 hf_224581 rfl)).trans hf_224585
                            have hf_224731 := (hk_224727 a_0 (ne_kd hf_224586 hf_224581 rfl)).trans hf_224586
                            have hf_224732 := (hk_224727 (q 15) (ne_kd hf_224587 hf_224581 rfl)).trans hf_224587
                            have fr_224733 := FR.w hk_224727 hf_224581 (k := 108) rfl
                            refine v_pick [0, 1, 2, 3, 4, 5, 6] rfl ?_
                            exact jn_224626 f_224725 hW_224729 (fr_224733.mono rfl)
                        refine v_if_eq hC dX12_countAll_123 (tgt := 136) (by decide) (fun h_224589 => ?_) (fun h_224589 => ?_)
                        · simp only [Int32.lt_iff_toInt_lt, Int32.le_iff_toInt_le, Int32.reduceToInt, ← Int32.toInt_inj] at h_224589
                          refine v_iconst hC dX12_countAll_136 (v := 0) (by decide) ?_
                          refine v_pick [0, 1, 2, 4, 5, 6] rfl ?_
                          exact jn_224591 0 (by decide)
                        · simp only [Int32.lt_iff_toInt_lt, Int32.le_iff_toInt_le, Int32.reduceToInt, ← Int32.toInt_inj] at h_224589
                          refine v_iload hC dX12_countAll_126 rfl ?_
                          refine v_iconst hC dX12_countAll_128 (v := 4) (by decide) ?_
                          refine v_icmp_eq hC dX12_countAll_129 (tgt := 136) (by decide) (fun h_224734 => ?_) (fun h_224734 => ?_)
                          · simp only [Int32.lt_iff_toInt_lt, Int32.le_iff_toInt_le, Int32.reduceToInt, ← Int32.toInt_inj] at h_224734
                            refine v_iconst hC dX12_countAll_136 (v := 0) (by decide) ?_
                            refine v_pick [0, 1, 2, 4, 5, 6] rfl ?_
                            exact jn_224591 0 (by decide)
                          · simp only [Int32.lt_iff_toInt_lt, Int32.le_iff_toInt_le, Int32.reduceToInt, ← Int32.toInt_inj] at h_224734
                            refine v_iconst hC dX12_countAll_132 (v := 1) (by decide) ?_
                            refine v_goto hC dX12_countAll_133 (tgt := 137) (by decide) ?_
                            refine v_pick [0, 1, 2, 4, 5, 6] rfl ?_
                            exact jn_224591 1 (by decide)
                      · simp only [Int32.lt_iff_toInt_lt, Int32.le_iff_toInt_le, Int32.reduceToInt, ← Int32.toInt_inj] at h_224574
                        refine v_goto hC dX12_countAll_106 (tgt := 212) (by decide) ?_
                        obtain ⟨v_224735, h_224736⟩ : ∃ v9 : Int32, i_224269 + Int32.ofInt 1 = v9 := ⟨_, rfl⟩
                        have h_224737 := add_v (b := 1) h_224736 (by first | omega | (simp only [Int32.lt_iff_toInt_lt, Int32.le_iff_toInt_le, Int32.reduceToInt, ← Int32.toInt_inj, true_and, and_true, or_true, true_or, false_or, or_false, false_and, and_false, not_true_eq_false, not_false_eq_true] <;> omega)) (by first | omega | (simp only [Int32.lt_iff_toInt_lt, Int32.le_iff_toInt_le, Int32.reduceToInt, ← Int32.toInt_inj, true_and, and_true, or_true, true_or, false_or, or_false, false_and, and_false, not_true_eq_false, not_false_eq_true] <;> omega))
                        simp only [Int32.reduceToInt] at h_224737
                        refine v_iinc hC dX12_countAll_212 (k := 2) rfl (v := v_224735) h_224736 (by decide) (lv' := [(4, .int v_224735), (6, .int v_224545), (5, .int v_224538), (3, .int i_224270), (2, .int i_219119), (1, .int i_224271), (0, .ref a_0)]) rfl ?_
                        refine v_goto hC dX12_countAll_215 (tgt := 47) (by decide) ?_
                        refine v_pick [0, 3, 4, 5, 6] rfl ?_
                        exact ih_224280 f_224558 hW_224562 ((hF_224274.tr fr_224566).mono rfl) v_224735 (by first | omega | (simp only [Int32.lt_iff_toInt_lt, Int32.le_iff_toInt_le, Int32.reduceToInt, ← Int32.toInt_inj, true_and, and_true, or_true, true_or, false_or, or_false, false_and, and_false, not_true_eq_false, not_false_eq_true] <;> omega)) i_224270 i_224271 (by first | omega | (simp only [Int32.lt_iff_toInt_lt, Int32.le_iff_toInt_le, Int32.reduceToInt, ← Int32.toInt_inj, true_and, and_true, or_true, true_or, false_or, or_false, false_and, and_false, not_true_eq_false, not_false_eq_true] <;> omega))
                    refine v_icmp_ne hC dX12_countAll_87 (tgt := 94) (by decide) (fun h_224551 => ?_) (fun h_224551 => ?_)
                    · simp only [Int32.lt_iff_toInt_lt, Int32.le_iff_toInt_le, Int32.reduceToInt, ← Int32.toInt_inj] at h_224551
                      refine v_iconst hC dX12_countAll_94 (v := 0) (by decide) ?_
                      refine v_pick [0, 1, 2, 3, 4, 5, 6] rfl ?_
                      exact jn_224552 0 (by decide)
                    · simp only [Int32.lt_iff_toInt_lt, Int32.le_iff_toInt_le, Int32.reduceToInt, ← Int32.toInt_inj] at h_224551
                      refine v_iconst hC dX12_countAll_90 (v := 1) (by decide) ?_
                      refine v_goto hC dX12_countAll_91 (tgt := 95) (by decide) ?_
                      refine v_pick [0, 1, 2, 3, 4, 5, 6] rfl ?_
                      exact jn_224552 1 (by decide)
              refine v_pick [0, 1, 2, 3, 4] rfl ?_
              exact lp_224278 18 f_219121 hW_219122 FR.rf 0 (by decide) 0 i_219120 (by decide)
        refine v_pick [0, 1, 2] rfl ?_
        exact lp_219127 18 f_179887 hW_179891 FR.rf 0 (by decide) 4 (by decide)
      · simp only [Int32.lt_iff_toInt_lt, Int32.le_iff_toInt_le, Int32.reduceToInt, ← Int32.toInt_inj] at h_179829
        refine v_aload_n hC dX12_countAll_8 rfl ?_
        obtain ⟨v_224739, v_224740, v_224742, v_224744, v_224746, v_224748, v_224750, v_224751, v_224752, v_224753, v_224755, e_224738, b_224741, b_224743, b_224745, b_224747, b_224749, b_224754, b_224756⟩ := hW_179821.at m_1 t_2
        refine v_get hC fl_X12_55 m_1 e_224738 rfl dX12_countAll_9 ?_
        refine v_iload_n hC dX12_countAll_12 rfl ?_
        refine v_iconst hC dX12_countAll_13 (v := 0) (by decide) ?_
        obtain ⟨m_224757, t_224758⟩ := id k_14
        obtain ⟨g_224760, e_224759⟩ := hW_179821.at m_224757 t_224758
        refine v_iast hC m_224757 e_224759 (vp_in_iff.mpr (by first | omega | (simp only [Int32.lt_iff_toInt_lt, Int32.le_iff_toInt_le, Int32.reduceToInt, ← Int32.toInt_inj, true_and, and_true, or_true, true_or, false_or, or_false, false_and, and_false, not_true_eq_false, not_false_eq_true] <;> omega))) dX12_countAll_14 (fun f_224761 hf_224762 hk_224763 => ?_)
        have hW_224765 := hW_179821.up hf_224762 hk_224763 t_224758 ⟨_, rfl⟩
        obtain ⟨g_224764, hf_224762⟩ : ∃ g9, f_224761 (q 22) = aI E 8 g9 := ⟨_, hf_224762⟩
        have hf_224766 := (hk_224763 (q 1) (ne_kd hf_179823 e_224759 rfl)).trans hf_179823
        have hf_224767 := (hk_224763 a_0 (ne_kd e_224738 e_224759 rfl)).trans e_224738
        have fr_224768 := FR.w hk_224763 e_224759 (k := 108) rfl
        obtain ⟨v_224769, h_224770⟩ : ∃ v9 : Int32, i_179819 + Int32.ofInt 1 = v9 := ⟨_, rfl⟩
        have h_224771 := add_v (b := 1) h_224770 (by first | omega | (simp only [Int32.lt_iff_toInt_lt, Int32.le_iff_toInt_le, Int32.reduceToInt, ← Int32.toInt_inj, true_and, and_true, or_true, true_or, false_or, or_false, false_and, and_false, not_true_eq_false, not_false_eq_true] <;> omega)) (by first | omega | (simp only [Int32.lt_iff_toInt_lt, Int32.le_iff_toInt_le, Int32.reduceToInt, ← Int32.toInt_inj, true_and, and_true, or_true, true_or, false_or, or_false, false_and, and_false, not_true_eq_false, not_false_eq_true] <;> omega))
        simp only [Int32.reduceToInt] at h_224771
        refine v_iinc hC dX12_countAll_15 (k := 0) rfl (v := v_224769) h_224770 (by decide) (lv' := [(1, .int v_224769), (0, .ref a_0)]) rfl ?_
        refine v_goto hC dX12_countAll_18 (tgt := 2) (by decide) ?_
        refine v_pick [0, 1] rfl ?_
        exact ih_179827 f_224761 hW_224765 ((hF_179822.tr fr_224768).mono rfl) v_224769 (by first | omega | (simp only [Int32.lt_iff_toInt_lt, Int32.le_iff_toInt_le, Int32.reduceToInt, ← Int32.toInt_inj, true_and, and_true, or_true, true_or, false_or, or_false, false_and, and_false, not_true_eq_false, not_false_eq_true] <;> omega)) (by first | omega | (simp only [Int32.lt_iff_toInt_lt, Int32.le_iff_toInt_le, Int32.reduceToInt, ← Int32.toInt_inj, true_and, and_true, or_true, true_or, false_or, or_false, false_and, and_false, not_true_eq_false, not_false_eq_true] <;> omega))
  refine v_pick [0, 1] rfl ?_
  exact lp_179825 10 f hW FR.rf 0 (by decide) (by decide)
set_option maxRecDepth 100000 in
set_option maxHeartbeats 4000000 in
theorem p_X12_counts {l : Launch} {E : Ez} {L : List Nat} {f : Nat → va_E} {T : Nat → va_E → Prop} {a_0 : Nat} {a_1 : Int32} {a_2 : Int32} {q : Nat → Nat} {g_w : Nat → Int32} (hW : WT T L f) (k_0 : isM T L E a_0 q) (e_w : f (q 1) = aI E 2076 g_w) (o_w : WOK g_w) : CI l yX12_counts cX12_counts 3 .int 4 0 0 E [.ref a_0, .int a_1, .int a_2] L f (fun r L1 f1 => L = L1 ∧ WT T L f1 ∧ FR [108, 356] f f1 ∧ (¬ r.toInt = 0 ∨ (0 ≤ a_1.toInt ∧ a_1.toInt ≤ 3)) ∧ (¬ r.toInt = 0 ∨ (0 ≤ a_2.toInt ∧ a_2.toInt ≤ 7))) := by
  refine ci_of (by decide) (Nat.le_of_ble_eq_true rfl) (fun z hz hnm hC hR => ?_)
  have hC : Cx z E cX12_counts RX12 3 4 0 0 := hC
  subst hz
  show V z E 3 0 0 L f 0 [(0, .ref a_0), (1, .int a_1), (2, .int a_2)] []
  obtain ⟨m_1, t_2, k_3, k_4, k_5, k_6, k_7, k_8, k_9, k_10, k_11, k_12, k_13, k_14, k_15, k_16, k_17, k_18, k_19, k_20⟩ := id k_0
  obtain ⟨m_21, t_22⟩ := id k_3
  have b_23 := o_w.r0
  have b_24 := o_w.w0
  refine v_iload_n hC dX12_counts_0 rfl ?_
  refine v_si hC (rest := []) mt_X12_isCloth (p_X12_isCloth hW) mx_X12_isCloth ml_X12_319 (by decide) rfl (cells1 := 0) (slots1 := 0) (by decide) (by decide) (Nat.le_of_ble_eq_true rfl) (Nat.le_of_ble_eq_true rfl) rfl (Nat.le_of_ble_eq_true rfl) dX12_counts_1 (fun r_25 L_26 f_27 h_28 => ?_)
  obtain ⟨rfl, rfl, b_29, h_30⟩ := h_28
  refine v_if_eq hC dX12_counts_4 (tgt := 19) (by decide) (fun h_33 => ?_) (fun h_33 => ?_)
  · simp only [Int32.lt_iff_toInt_lt, Int32.le_iff_toInt_le, Int32.reduceToInt, ← Int32.toInt_inj] at h_33
    refine v_bipush hC dX12_counts_19 (v := (-2)) (by decide) ?_
    exact hR _ _ _ _ _ _ _ dX12_counts_21 rfl (Nat.le_of_ble_eq_true rfl) (Nat.le_of_ble_eq_true rfl) ⟨rfl, hW, FR.rf, (.inl (by decide)), (.inl (by decide))⟩
  · simp only [Int32.lt_iff_toInt_lt, Int32.le_iff_toInt_le, Int32.reduceToInt, ← Int32.toInt_inj] at h_33
    refine v_iload_n hC dX12_counts_7 rfl ?_
    obtain ⟨v_34, h_35⟩ : ∃ v9 : Int64, a_2.toInt64 = v9 := ⟨_, rfl⟩
    refine v_i2l hC dX12_counts_8 h_35 ?_
    have h_36 : v_34.toInt = a_2.toInt := by rw [← h_35]; exact Int32.toInt_toInt64 _
    refine v_lconst hC dX12_counts_9 (v := 0) (by decide) ?_
    refine v_ldc2 hC kl_X12_389 dX12_counts_10 ?_
    refine v_si hC (rest := []) mt_X12_in (p_X12_in hW) mx_X12_in ml_X12_79 (by decide) rfl (cells1 := 0) (slots1 := 0) (by decide) (by decide) (Nat.le_of_ble_eq_true rfl) (Nat.le_of_ble_eq_true rfl) rfl (Nat.le_of_ble_eq_true rfl) dX12_counts_13 (fun r_37 L_38 f_39 h_40 => ?_)
    obtain ⟨rfl, rfl, b_41, x_42⟩ := h_40
    try simp only [Int32.reduceToInt, Int64.reduceToInt] at x_42
    refine v_if_ne hC dX12_counts_16 (tgt := 22) (by decide) (fun h_45 => ?_) (fun h_45 => ?_)
    · simp only [Int32.lt_iff_toInt_lt, Int32.le_iff_toInt_le, Int32.reduceToInt, ← Int32.toInt_inj] at h_45
      refine v_aload_n hC dX12_counts_22 rfl ?_
      refine v_iload_n hC dX12_counts_23 rfl ?_
      obtain ⟨v_47, v_48, v_50, v_52, v_54, v_56, v_58, v_59, v_60, v_61, v_63, e_46, b_49, b_51, b_53, b_55, b_57, b_62, b_64⟩ := hW.at m_1 t_2
      refine v_vi hC (rest := []) m_1 e_46 rfl mi_X12_isThere ms_X12_isThere (p_X12_isThere hW k_0 (by first | omega | (simp only [Int32.lt_iff_toInt_lt, Int32.le_iff_toInt_le, Int32.reduceToInt, ← Int32.toInt_inj, true_and, and_true, or_true, true_or, false_or, or_false, false_and, and_false, not_true_eq_false, not_false_eq_true] <;> omega)) e_w o_w) mx_X12_isThere ml_X12_351 (by decide) rfl (cells1 := 0) (slots1 := 0) (by decide) (by decide) (Nat.le_of_ble_eq_true rfl) (Nat.le_of_ble_eq_true rfl) rfl (Nat.le_of_ble_eq_true rfl) dX12_counts_24 (fun r_65 L_66 f_67 h_68 => ?_)
      obtain ⟨rfl, rfl, b_69⟩ := h_68
      refine v_if_ne hC dX12_counts_27 (tgt := 33) (by decide) (fun h_72 => ?_) (fun h_72 => ?_)
      · simp only [Int32.lt_iff_toInt_lt, Int32.le_iff_toInt_le, Int32.reduceToInt, ← Int32.toInt_inj] at h_72
        refine v_aload_n hC dX12_counts_33 rfl ?_
        refine v_iload_n hC dX12_counts_34 rfl ?_
        refine v_vv hC (rest := []) m_1 e_46 rfl mi_X12_takes0 ms_X12_takes0 (p_X12_takes0 hW k_0 (by first | omega | (simp only [Int32.lt_iff_toInt_lt, Int32.le_iff_toInt_le, Int32.reduceToInt, ← Int32.toInt_inj, true_and, and_true, or_true, true_or, false_or, or_false, false_and, and_false, not_true_eq_false, not_false_eq_true] <;> omega)) e_w o_w) mx_X12_takes0 ml_X12_363 (by decide) rfl (cells1 := 0) (slots1 := 0) (by decide) (by decide) (Nat.le_of_ble_eq_true rfl) (Nat.le_of_ble_eq_true rfl) rfl (Nat.le_of_ble_eq_true rfl) dX12_counts_35 (fun L_74 f_75 h_76 => ?_)
        obtain ⟨rfl, hW_77, hF_78⟩ := h_76
        have hf_79 := hF_78.at e_w rfl
        have hf_80 := hF_78.at e_46 rfl
        refine v_aload_n hC dX12_counts_38 rfl ?_
        refine v_vv hC (rest := []) m_1 hf_80 rfl mi_X12_countAll ms_X12_countAll (p_X12_countAll hW_77 k_0 hf_79 o_w) mx_X12_countAll ml_X12_391 (by decide) rfl (cells1 := 0) (slots1 := 0) (by decide) (by decide) (Nat.le_of_ble_eq_true rfl) (Nat.le_of_ble_eq_true rfl) rfl (Nat.le_of_ble_eq_true rfl) dX12_counts_39 (fun L_82 f_83 h_84 => ?_)
        obtain ⟨rfl, hW_85, hF_86⟩ := h_84
        have hf_87 := hF_86.at hf_79 rfl
        have hf_88 := hF_86.at hf_80 rfl
        refine v_aload_n hC dX12_counts_42 rfl ?_
        refine v_get hC fl_X12_55 m_1 hf_88 rfl dX12_counts_43 ?_
        refine v_iload_n hC dX12_counts_46 rfl ?_
        obtain ⟨m_89, t_90⟩ := id k_14
        obtain ⟨g_92, e_91⟩ := hW_85.at m_89 t_90
        obtain ⟨v_93, h_94⟩ : ∃ v9 : Int32, g_92 (a_2 : Int32).toNatClampNeg = v9 := ⟨_, rfl⟩
        refine v_iald hC m_89 e_91 (vp_in_iff.mpr (by first | omega | (simp only [Int32.lt_iff_toInt_lt, Int32.le_iff_toInt_le, Int32.reduceToInt, ← Int32.toInt_inj, true_and, and_true, or_true, true_or, false_or, or_false, false_and, and_false, not_true_eq_false, not_false_eq_true] <;> omega))) h_94 dX12_counts_47 ?_
        exact hR _ _ _ _ _ _ _ dX12_counts_48 rfl (Nat.le_of_ble_eq_true rfl) (Nat.le_of_ble_eq_true rfl) ⟨rfl, hW_85, ((hF_78.tr hF_86).mono rfl), (.inr (by first | omega | (simp only [Int32.lt_iff_toInt_lt, Int32.le_iff_toInt_le, Int32.reduceToInt, ← Int32.toInt_inj, true_and, and_true, or_true, true_or, false_or, or_false, false_and, and_false, not_true_eq_false, not_false_eq_true] <;> omega))), (.inr (by first | omega | (simp only [Int32.lt_iff_toInt_lt, Int32.le_iff_toInt_le, Int32.reduceToInt, ← Int32.toInt_inj, true_and, and_true, or_true, true_or, false_or, or_false, false_and, and_false, not_true_eq_false, not_false_eq_true] <;> omega)))⟩
      · simp only [Int32.lt_iff_toInt_lt, Int32.le_iff_toInt_le, Int32.reduceToInt, ← Int32.toInt_inj] at h_72
        refine v_bipush hC dX12_counts_30 (v := (-6)) (by decide) ?_
        exact hR _ _ _ _ _ _ _ dX12_counts_32 rfl (Nat.le_of_ble_eq_true rfl) (Nat.le_of_ble_eq_true rfl) ⟨rfl, hW, FR.rf, (.inl (by decide)), (.inl (by decide))⟩
    · simp only [Int32.lt_iff_toInt_lt, Int32.le_iff_toInt_le, Int32.reduceToInt, ← Int32.toInt_inj] at h_45
      refine v_bipush hC dX12_counts_19 (v := (-2)) (by decide) ?_
      exact hR _ _ _ _ _ _ _ dX12_counts_21 rfl (Nat.le_of_ble_eq_true rfl) (Nat.le_of_ble_eq_true rfl) ⟨rfl, hW, FR.rf, (.inl (by decide)), (.inl (by decide))⟩
set_option maxRecDepth 100000 in
set_option maxHeartbeats 4000000 in
theorem p_X12_partOf {l : Launch} {E : Ez} {L : List Nat} {f : Nat → va_E} {T : Nat → va_E → Prop} {a_0 : Nat} {a_1 : Int32} {q : Nat → Nat} {g_w : Nat → Int32} (hW : WT T L f) (k_0 : isM T L E a_0 q) (g_1 : (0 ≤ a_1.toInt ∧ a_1.toInt ≤ 149)) (e_w : f (q 1) = aI E 2076 g_w) (o_w : WOK g_w) : CJ l yX12_partOf cX12_partOf 3 0 0 0 E [.ref a_0, .int a_1] L f (fun r L1 f1 => L = L1 ∧ f = f1) := by
  refine cj_of (by decide) (Nat.le_of_ble_eq_true rfl) (fun z hz hnm hC hR => ?_)
  have hC : Cx z E cX12_partOf RX12 3 0 0 0 := hC
  subst hz
  show V z E 3 0 0 L f 0 [(0, .ref a_0), (1, .int a_1)] []
  obtain ⟨m_1, t_2, k_3, k_4, k_5, k_6, k_7, k_8, k_9, k_10, k_11, k_12, k_13, k_14, k_15, k_16, k_17, k_18, k_19, k_20⟩ := id k_0
  obtain ⟨m_21, t_22⟩ := id k_3
  have b_23 := o_w.r0
  have b_24 := o_w.w0
  refine v_aload_n hC dX12_partOf_0 rfl ?_
  obtain ⟨v_26, v_27, v_29, v_31, v_33, v_35, v_37, v_38, v_39, v_40, v_42, e_25, b_28, b_30, b_32, b_34, b_36, b_41, b_43⟩ := hW.at m_1 t_2
  refine v_get hC fl_X12_13 m_1 e_25 rfl dX12_partOf_1 ?_
  refine v_sipush hC dX12_partOf_4 (v := 562) (by decide) ?_
  refine v_iconst hC dX12_partOf_7 (v := 3) (by decide) ?_
  refine v_iload_n hC dX12_partOf_8 rfl ?_
  obtain ⟨v_44, h_45⟩ : ∃ v9 : Int32, (3 : Int32) * a_1 = v9 := ⟨_, rfl⟩
  refine v_imul hC dX12_partOf_9 h_45 ?_
  have h_46 := mul_v 3 149 447 h_45 (by decide) (by first | omega | (simp only [Int32.lt_iff_toInt_lt, Int32.le_iff_toInt_le, Int32.reduceToInt, ← Int32.toInt_inj, true_and, and_true, or_true, true_or, false_or, or_false, false_and, and_false, not_true_eq_false, not_false_eq_true] <;> omega)) (by decide) (by decide)
  try simp only [Int32.reduceToInt] at h_46
  obtain ⟨v_47, h_48⟩ : ∃ v9 : Int32, (562 : Int32) + v_44 = v9 := ⟨_, rfl⟩
  refine v_iadd hC dX12_partOf_10 h_48 ?_
  have h_49 := add_v h_48 (by first | omega | (simp only [Int32.lt_iff_toInt_lt, Int32.le_iff_toInt_le, Int32.reduceToInt, ← Int32.toInt_inj, true_and, and_true, or_true, true_or, false_or, or_false, false_and, and_false, not_true_eq_false, not_false_eq_true] <;> omega)) (by first | omega | (simp only [Int32.lt_iff_toInt_lt, Int32.le_iff_toInt_le, Int32.reduceToInt, ← Int32.toInt_inj, true_and, and_true, or_true, true_or, false_or, or_false, false_and, and_false, not_true_eq_false, not_false_eq_true] <;> omega))
  try simp only [Int32.reduceToInt] at h_49
  refine v_iconst hC dX12_partOf_11 (v := 1) (by decide) ?_
  obtain ⟨v_50, h_51⟩ : ∃ v9 : Int32, v_47 + 1 = v9 := ⟨_, rfl⟩
  refine v_iadd hC dX12_partOf_12 h_51 ?_
  have h_52 := add_v h_51 (by first | omega | (simp only [Int32.lt_iff_toInt_lt, Int32.le_iff_toInt_le, Int32.reduceToInt, ← Int32.toInt_inj, true_and, and_true, or_true, true_or, false_or, or_false, false_and, and_false, not_true_eq_false, not_false_eq_true] <;> omega)) (by first | omega | (simp only [Int32.lt_iff_toInt_lt, Int32.le_iff_toInt_le, Int32.reduceToInt, ← Int32.toInt_inj, true_and, and_true, or_true, true_or, false_or, or_false, false_and, and_false, not_true_eq_false, not_false_eq_true] <;> omega))
  try simp only [Int32.reduceToInt] at h_52
  obtain ⟨v_53, h_54⟩ : ∃ v9 : Int32, g_w (v_50 : Int32).toNatClampNeg = v9 := ⟨_, rfl⟩
  refine v_iald hC m_21 e_w (vp_in_iff.mpr (by first | omega | (simp only [Int32.lt_iff_toInt_lt, Int32.le_iff_toInt_le, Int32.reduceToInt, ← Int32.toInt_inj, true_and, and_true, or_true, true_or, false_or, or_false, false_and, and_false, not_true_eq_false, not_false_eq_true] <;> omega))) h_54 dX12_partOf_13 ?_
  have b_55 := knd_at o_w (i := v_50) (k := a_1) (by omega) (by omega) (by omega)
  rw [h_54] at b_55
  refine v_istore_n hC dX12_partOf_14 (by decide) (lv' := [(2, .int v_53), (0, .ref a_0), (1, .int a_1)]) rfl ?_
  refine v_iload_n hC dX12_partOf_15 rfl ?_
  refine v_bipush hC dX12_partOf_16 (v := 8) (by decide) ?_
  refine v_icmp_ne hC dX12_partOf_18 (tgt := 39) (by decide) (fun h_56 => ?_) (fun h_56 => ?_)
  · simp only [Int32.lt_iff_toInt_lt, Int32.le_iff_toInt_le, Int32.reduceToInt, ← Int32.toInt_inj] at h_56
    refine v_aload_n hC dX12_partOf_39 rfl ?_
    refine v_get hC fl_X12_55 m_1 e_25 rfl dX12_partOf_40 ?_
    refine v_iload_n hC dX12_partOf_43 rfl ?_
    obtain ⟨m_57, t_58⟩ := id k_14
    obtain ⟨g_60, e_59⟩ := hW.at m_57 t_58
    obtain ⟨v_61, h_62⟩ : ∃ v9 : Int32, g_60 (v_53 : Int32).toNatClampNeg = v9 := ⟨_, rfl⟩
    refine v_iald hC m_57 e_59 (vp_in_iff.mpr (by first | omega | (simp only [Int32.lt_iff_toInt_lt, Int32.le_iff_toInt_le, Int32.reduceToInt, ← Int32.toInt_inj, true_and, and_true, or_true, true_or, false_or, or_false, false_and, and_false, not_true_eq_false, not_false_eq_true] <;> omega))) h_62 dX12_partOf_44 ?_
    obtain ⟨v_63, h_64⟩ : ∃ v9 : Int64, v_61.toInt64 = v9 := ⟨_, rfl⟩
    refine v_i2l hC dX12_partOf_45 h_64 ?_
    have h_65 : v_63.toInt = v_61.toInt := by rw [← h_64]; exact Int32.toInt_toInt64 _
    exact hR _ _ _ _ _ _ _ dX12_partOf_46 (Nat.le_of_ble_eq_true rfl) (Nat.le_of_ble_eq_true rfl) ⟨rfl, rfl⟩
  · simp only [Int32.lt_iff_toInt_lt, Int32.le_iff_toInt_le, Int32.reduceToInt, ← Int32.toInt_inj] at h_56
    refine v_aload_n hC dX12_partOf_21 rfl ?_
    refine v_get hC fl_X12_13 m_1 e_25 rfl dX12_partOf_22 ?_
    refine v_sipush hC dX12_partOf_25 (v := 562) (by decide) ?_
    refine v_iconst hC dX12_partOf_28 (v := 3) (by decide) ?_
    refine v_iload_n hC dX12_partOf_29 rfl ?_
    obtain ⟨v_66, h_67⟩ : ∃ v9 : Int32, (3 : Int32) * a_1 = v9 := ⟨_, rfl⟩
    refine v_imul hC dX12_partOf_30 h_67 ?_
    have h_68 := mul_v 3 149 447 h_67 (by decide) (by first | omega | (simp only [Int32.lt_iff_toInt_lt, Int32.le_iff_toInt_le, Int32.reduceToInt, ← Int32.toInt_inj, true_and, and_true, or_true, true_or, false_or, or_false, false_and, and_false, not_true_eq_false, not_false_eq_true] <;> omega)) (by decide) (by decide)
    try simp only [Int32.reduceToInt] at h_68
    obtain ⟨v_69, h_70⟩ : ∃ v9 : Int32, (562 : Int32) + v_66 = v9 := ⟨_, rfl⟩
    refine v_iadd hC dX12_partOf_31 h_70 ?_
    have h_71 := add_v h_70 (by first | omega | (simp only [Int32.lt_iff_toInt_lt, Int32.le_iff_toInt_le, Int32.reduceToInt, ← Int32.toInt_inj, true_and, and_true, or_true, true_or, false_or, or_false, false_and, and_false, not_true_eq_false, not_false_eq_true] <;> omega)) (by first | omega | (simp only [Int32.lt_iff_toInt_lt, Int32.le_iff_toInt_le, Int32.reduceToInt, ← Int32.toInt_inj, true_and, and_true, or_true, true_or, false_or, or_false, false_and, and_false, not_true_eq_false, not_false_eq_true] <;> omega))
    try simp only [Int32.reduceToInt] at h_71
    refine v_iconst hC dX12_partOf_32 (v := 2) (by decide) ?_
    obtain ⟨v_72, h_73⟩ : ∃ v9 : Int32, v_69 + 2 = v9 := ⟨_, rfl⟩
    refine v_iadd hC dX12_partOf_33 h_73 ?_
    have h_74 := add_v h_73 (by first | omega | (simp only [Int32.lt_iff_toInt_lt, Int32.le_iff_toInt_le, Int32.reduceToInt, ← Int32.toInt_inj, true_and, and_true, or_true, true_or, false_or, or_false, false_and, and_false, not_true_eq_false, not_false_eq_true] <;> omega)) (by first | omega | (simp only [Int32.lt_iff_toInt_lt, Int32.le_iff_toInt_le, Int32.reduceToInt, ← Int32.toInt_inj, true_and, and_true, or_true, true_or, false_or, or_false, false_and, and_false, not_true_eq_false, not_false_eq_true] <;> omega))
    try simp only [Int32.reduceToInt] at h_74
    obtain ⟨v_75, h_76⟩ : ∃ v9 : Int32, g_w (v_72 : Int32).toNatClampNeg = v9 := ⟨_, rfl⟩
    refine v_iald hC m_21 e_w (vp_in_iff.mpr (by first | omega | (simp only [Int32.lt_iff_toInt_lt, Int32.le_iff_toInt_le, Int32.reduceToInt, ← Int32.toInt_inj, true_and, and_true, or_true, true_or, false_or, or_false, false_and, and_false, not_true_eq_false, not_false_eq_true] <;> omega))) h_76 dX12_partOf_34 ?_
    obtain ⟨v_77, h_78⟩ : ∃ v9 : Int64, v_75.toInt64 = v9 := ⟨_, rfl⟩
    refine v_i2l hC dX12_partOf_35 h_78 ?_
    have h_79 : v_77.toInt = v_75.toInt := by rw [← h_78]; exact Int32.toInt_toInt64 _
    refine v_goto hC dX12_partOf_36 (tgt := 46) (by decide) ?_
    exact hR _ _ _ _ _ _ _ dX12_partOf_46 (Nat.le_of_ble_eq_true rfl) (Nat.le_of_ble_eq_true rfl) ⟨rfl, rfl⟩
set_option maxRecDepth 100000 in
set_option maxHeartbeats 4000000 in
theorem p_X12_holds {l : Launch} {E : Ez} {L : List Nat} {f : Nat → va_E} {T : Nat → va_E → Prop} {a_0 : Nat} {a_1 : Int32} {q : Nat → Nat} {g_w : Nat → Int32} (hW : WT T L f) (k_0 : isM T L E a_0 q) (g_1 : (0 ≤ a_1.toInt ∧ a_1.toInt ≤ 99)) (e_w : f (q 1) = aI E 2076 g_w) (o_w : WOK g_w) (hts : a_1.toInt < (g_w 4).toInt) : CI l yX12_holds cX12_holds 11 .boolean 1 0 0 E [.ref a_0, .int a_1] L f (fun r L1 f1 => L = L1 ∧ f = f1 ∧ (0 ≤ r.toInt ∧ r.toInt ≤ 1)) := by
  refine ci_of (by decide) (Nat.le_of_ble_eq_true rfl) (fun z hz hnm hC hR => ?_)
  have hC : Cx z E cX12_holds RX12 11 1 0 0 := hC
  subst hz
  show V z E 11 0 0 L f 0 [(0, .ref a_0), (1, .int a_1)] []
  obtain ⟨m_1, t_2, k_3, k_4, k_5, k_6, k_7, k_8, k_9, k_10, k_11, k_12, k_13, k_14, k_15, k_16, k_17, k_18, k_19, k_20⟩ := id k_0
  obtain ⟨m_21, t_22⟩ := id k_3
  have b_23 := o_w.r0
  have b_24 := o_w.w0
  refine v_aload_n hC dX12_holds_0 rfl ?_
  obtain ⟨v_26, v_27, v_29, v_31, v_33, v_35, v_37, v_38, v_39, v_40, v_42, e_25, b_28, b_30, b_32, b_34, b_36, b_41, b_43⟩ := hW.at m_1 t_2
  refine v_get hC fl_X12_13 m_1 e_25 rfl dX12_holds_1 ?_
  refine v_sipush hC dX12_holds_4 (v := 162) (by decide) ?_
  refine v_iconst hC dX12_holds_7 (v := 4) (by decide) ?_
  refine v_iload_n hC dX12_holds_8 rfl ?_
  obtain ⟨v_44, h_45⟩ : ∃ v9 : Int32, (4 : Int32) * a_1 = v9 := ⟨_, rfl⟩
  refine v_imul hC dX12_holds_9 h_45 ?_
  have h_46 := mul_v 4 99 396 h_45 (by decide) (by first | omega | (simp only [Int32.lt_iff_toInt_lt, Int32.le_iff_toInt_le, Int32.reduceToInt, ← Int32.toInt_inj, true_and, and_true, or_true, true_or, false_or, or_false, false_and, and_false, not_true_eq_false, not_false_eq_true] <;> omega)) (by decide) (by decide)
  try simp only [Int32.reduceToInt] at h_46
  obtain ⟨v_47, h_48⟩ : ∃ v9 : Int32, (162 : Int32) + v_44 = v9 := ⟨_, rfl⟩
  refine v_iadd hC dX12_holds_10 h_48 ?_
  have h_49 := add_v h_48 (by first | omega | (simp only [Int32.lt_iff_toInt_lt, Int32.le_iff_toInt_le, Int32.reduceToInt, ← Int32.toInt_inj, true_and, and_true, or_true, true_or, false_or, or_false, false_and, and_false, not_true_eq_false, not_false_eq_true] <;> omega)) (by first | omega | (simp only [Int32.lt_iff_toInt_lt, Int32.le_iff_toInt_le, Int32.reduceToInt, ← Int32.toInt_inj, true_and, and_true, or_true, true_or, false_or, or_false, false_and, and_false, not_true_eq_false, not_false_eq_true] <;> omega))
  try simp only [Int32.reduceToInt] at h_49
  refine v_iconst hC dX12_holds_11 (v := 1) (by decide) ?_
  obtain ⟨v_50, h_51⟩ : ∃ v9 : Int32, v_47 + 1 = v9 := ⟨_, rfl⟩
  refine v_iadd hC dX12_holds_12 h_51 ?_
  have h_52 := add_v h_51 (by first | omega | (simp only [Int32.lt_iff_toInt_lt, Int32.le_iff_toInt_le, Int32.reduceToInt, ← Int32.toInt_inj, true_and, and_true, or_true, true_or, false_or, or_false, false_and, and_false, not_true_eq_false, not_false_eq_true] <;> omega)) (by first | omega | (simp only [Int32.lt_iff_toInt_lt, Int32.le_iff_toInt_le, Int32.reduceToInt, ← Int32.toInt_inj, true_and, and_true, or_true, true_or, false_or, or_false, false_and, and_false, not_true_eq_false, not_false_eq_true] <;> omega))
  try simp only [Int32.reduceToInt] at h_52
  obtain ⟨v_53, h_54⟩ : ∃ v9 : Int32, g_w (v_50 : Int32).toNatClampNeg = v9 := ⟨_, rfl⟩
  refine v_iald hC m_21 e_w (vp_in_iff.mpr (by first | omega | (simp only [Int32.lt_iff_toInt_lt, Int32.le_iff_toInt_le, Int32.reduceToInt, ← Int32.toInt_inj, true_and, and_true, or_true, true_or, false_or, or_false, false_and, and_false, not_true_eq_false, not_false_eq_true] <;> omega))) h_54 dX12_holds_13 ?_
  refine v_istore_n hC dX12_holds_14 (by decide) (lv' := [(2, .int v_53), (0, .ref a_0), (1, .int a_1)]) rfl ?_
  refine v_iload_n hC dX12_holds_15 rfl ?_
  refine v_aload_n hC dX12_holds_16 rfl ?_
  refine v_get hC fl_X12_13 m_1 e_25 rfl dX12_holds_17 ?_
  refine v_sipush hC dX12_holds_20 (v := 162) (by decide) ?_
  refine v_iconst hC dX12_holds_23 (v := 4) (by decide) ?_
  refine v_iload_n hC dX12_holds_24 rfl ?_
  obtain ⟨v_55, h_56⟩ : ∃ v9 : Int32, (4 : Int32) * a_1 = v9 := ⟨_, rfl⟩
  refine v_imul hC dX12_holds_25 h_56 ?_
  have h_57 := mul_v 4 99 396 h_56 (by decide) (by first | omega | (simp only [Int32.lt_iff_toInt_lt, Int32.le_iff_toInt_le, Int32.reduceToInt, ← Int32.toInt_inj, true_and, and_true, or_true, true_or, false_or, or_false, false_and, and_false, not_true_eq_false, not_false_eq_true] <;> omega)) (by decide) (by decide)
  try simp only [Int32.reduceToInt] at h_57
  obtain ⟨v_58, h_59⟩ : ∃ v9 : Int32, (162 : Int32) + v_55 = v9 := ⟨_, rfl⟩
  refine v_iadd hC dX12_holds_26 h_59 ?_
  have h_60 := add_v h_59 (by first | omega | (simp only [Int32.lt_iff_toInt_lt, Int32.le_iff_toInt_le, Int32.reduceToInt, ← Int32.toInt_inj, true_and, and_true, or_true, true_or, false_or, or_false, false_and, and_false, not_true_eq_false, not_false_eq_true] <;> omega)) (by first | omega | (simp only [Int32.lt_iff_toInt_lt, Int32.le_iff_toInt_le, Int32.reduceToInt, ← Int32.toInt_inj, true_and, and_true, or_true, true_or, false_or, or_false, false_and, and_false, not_true_eq_false, not_false_eq_true] <;> omega))
  try simp only [Int32.reduceToInt] at h_60
  refine v_iconst hC dX12_holds_27 (v := 2) (by decide) ?_
  obtain ⟨v_61, h_62⟩ : ∃ v9 : Int32, v_58 + 2 = v9 := ⟨_, rfl⟩
  refine v_iadd hC dX12_holds_28 h_62 ?_
  have h_63 := add_v h_62 (by first | omega | (simp only [Int32.lt_iff_toInt_lt, Int32.le_iff_toInt_le, Int32.reduceToInt, ← Int32.toInt_inj, true_and, and_true, or_true, true_or, false_or, or_false, false_and, and_false, not_true_eq_false, not_false_eq_true] <;> omega)) (by first | omega | (simp only [Int32.lt_iff_toInt_lt, Int32.le_iff_toInt_le, Int32.reduceToInt, ← Int32.toInt_inj, true_and, and_true, or_true, true_or, false_or, or_false, false_and, and_false, not_true_eq_false, not_false_eq_true] <;> omega))
  try simp only [Int32.reduceToInt] at h_63
  obtain ⟨v_64, h_65⟩ : ∃ v9 : Int32, g_w (v_61 : Int32).toNatClampNeg = v9 := ⟨_, rfl⟩
  refine v_iald hC m_21 e_w (vp_in_iff.mpr (by first | omega | (simp only [Int32.lt_iff_toInt_lt, Int32.le_iff_toInt_le, Int32.reduceToInt, ← Int32.toInt_inj, true_and, and_true, or_true, true_or, false_or, or_false, false_and, and_false, not_true_eq_false, not_false_eq_true] <;> omega))) h_65 dX12_holds_29 ?_
  have b_66 := tst_at o_w (i := v_50) (i2 := v_61) (t := a_1) (by omega) hts (by omega) (by omega)
  rw [h_54, h_65] at b_66
  obtain ⟨v_67, h_68⟩ : ∃ v9 : Int32, v_53 + v_64 = v9 := ⟨_, rfl⟩
  refine v_iadd hC dX12_holds_30 h_68 ?_
  have h_69 := add_v h_68 (by first | omega | (simp only [Int32.lt_iff_toInt_lt, Int32.le_iff_toInt_le, Int32.reduceToInt, ← Int32.toInt_inj, true_and, and_true, or_true, true_or, false_or, or_false, false_and, and_false, not_true_eq_false, not_false_eq_true] <;> omega)) (by first | omega | (simp only [Int32.lt_iff_toInt_lt, Int32.le_iff_toInt_le, Int32.reduceToInt, ← Int32.toInt_inj, true_and, and_true, or_true, true_or, false_or, or_false, false_and, and_false, not_true_eq_false, not_false_eq_true] <;> omega))
  have b_70 : ((-150) ≤ v_67.toInt ∧ v_67.toInt ≤ 150) := (by first | omega | (simp only [Int32.lt_iff_toInt_lt, Int32.le_iff_toInt_le, Int32.reduceToInt, ← Int32.toInt_inj, true_and, and_true, or_true, true_or, false_or, or_false, false_and, and_false, not_true_eq_false, not_false_eq_true] <;> omega))
  refine v_istore_n hC dX12_holds_31 (by decide) (lv' := [(3, .int v_67), (2, .int v_53), (0, .ref a_0), (1, .int a_1)]) rfl ?_
  refine v_lconst hC dX12_holds_32 (v := 0) (by decide) ?_
  refine v_lstore hC dX12_holds_33 (by decide) (lv' := [(4, .long 0), (3, .int v_67), (2, .int v_53), (0, .ref a_0), (1, .int a_1)]) rfl ?_
  refine v_lconst hC dX12_holds_35 (v := 0) (by decide) ?_
  refine v_lstore hC dX12_holds_36 (by decide) (lv' := [(6, .long 0), (4, .long 0), (3, .int v_67), (2, .int v_53), (0, .ref a_0), (1, .int a_1)]) rfl ?_
  have lp_726 : ∀ (n_727 : Nat) (i_722 : Int64) (i_723 : Int64) (i_724 : Int32) (b_725 : (0 ≤ i_724.toInt ∧ i_724.toInt ≤ 150)) (hm_729 : 150 - i_724.toInt < (n_727 : Int)), V z E 11 0 0 L f 38 [(6, .long i_722), (4, .long i_723), (3, .int v_67), (2, .int i_724), (0, .ref a_0), (1, .int a_1)] [] := by
    intro n_727
    induction n_727 with
    | zero =>
      intro i_722 i_723 i_724 b_725 hm_729
      exfalso; omega
    | succ n_727 ih_728 =>
      intro i_722 i_723 i_724 b_725 hm_729
      refine v_iload_n hC dX12_holds_38 rfl ?_
      refine v_iload_n hC dX12_holds_39 rfl ?_
      refine v_icmp_ge hC dX12_holds_40 (tgt := 173) (by decide) (fun h_730 => ?_) (fun h_730 => ?_)
      · simp only [Int32.lt_iff_toInt_lt, Int32.le_iff_toInt_le, Int32.reduceToInt, ← Int32.toInt_inj] at h_730
        refine v_aload_n hC dX12_holds_173 rfl ?_
        refine v_get hC fl_X12_13 m_1 e_25 rfl dX12_holds_174 ?_
        refine v_sipush hC dX12_holds_177 (v := 162) (by decide) ?_
        refine v_iconst hC dX12_holds_180 (v := 4) (by decide) ?_
        refine v_iload_n hC dX12_holds_181 rfl ?_
        obtain ⟨v_731, h_732⟩ : ∃ v9 : Int32, (4 : Int32) * a_1 = v9 := ⟨_, rfl⟩
        refine v_imul hC dX12_holds_182 h_732 ?_
        have h_733 := mul_v 4 99 396 h_732 (by decide) (by first | omega | (simp only [Int32.lt_iff_toInt_lt, Int32.le_iff_toInt_le, Int32.reduceToInt, ← Int32.toInt_inj, true_and, and_true, or_true, true_or, false_or, or_false, false_and, and_false, not_true_eq_false, not_false_eq_true] <;> omega)) (by decide) (by decide)
        try simp only [Int32.reduceToInt] at h_733
        obtain ⟨v_734, h_735⟩ : ∃ v9 : Int32, (162 : Int32) + v_731 = v9 := ⟨_, rfl⟩
        refine v_iadd hC dX12_holds_183 h_735 ?_
        have h_736 := add_v h_735 (by first | omega | (simp only [Int32.lt_iff_toInt_lt, Int32.le_iff_toInt_le, Int32.reduceToInt, ← Int32.toInt_inj, true_and, and_true, or_true, true_or, false_or, or_false, false_and, and_false, not_true_eq_false, not_false_eq_true] <;> omega)) (by first | omega | (simp only [Int32.lt_iff_toInt_lt, Int32.le_iff_toInt_le, Int32.reduceToInt, ← Int32.toInt_inj, true_and, and_true, or_true, true_or, false_or, or_false, false_and, and_false, not_true_eq_false, not_false_eq_true] <;> omega))
        try simp only [Int32.reduceToInt] at h_736
        refine v_iconst hC dX12_holds_184 (v := 3) (by decide) ?_
        obtain ⟨v_737, h_738⟩ : ∃ v9 : Int32, v_734 + 3 = v9 := ⟨_, rfl⟩
        refine v_iadd hC dX12_holds_185 h_738 ?_
        have h_739 := add_v h_738 (by first | omega | (simp only [Int32.lt_iff_toInt_lt, Int32.le_iff_toInt_le, Int32.reduceToInt, ← Int32.toInt_inj, true_and, and_true, or_true, true_or, false_or, or_false, false_and, and_false, not_true_eq_false, not_false_eq_true] <;> omega)) (by first | omega | (simp only [Int32.lt_iff_toInt_lt, Int32.le_iff_toInt_le, Int32.reduceToInt, ← Int32.toInt_inj, true_and, and_true, or_true, true_or, false_or, or_false, false_and, and_false, not_true_eq_false, not_false_eq_true] <;> omega))
        try simp only [Int32.reduceToInt] at h_739
        obtain ⟨v_740, h_741⟩ : ∃ v9 : Int32, g_w (v_737 : Int32).toNatClampNeg = v9 := ⟨_, rfl⟩
        refine v_iald hC m_21 e_w (vp_in_iff.mpr (by first | omega | (simp only [Int32.lt_iff_toInt_lt, Int32.le_iff_toInt_le, Int32.reduceToInt, ← Int32.toInt_inj, true_and, and_true, or_true, true_or, false_or, or_false, false_and, and_false, not_true_eq_false, not_false_eq_true] <;> omega))) h_741 dX12_holds_186 ?_
        refine v_istore hC dX12_holds_187 (by decide) (lv' := [(8, .int v_740), (6, .long i_722), (4, .long i_723), (3, .int v_67), (2, .int i_724), (0, .ref a_0), (1, .int a_1)]) rfl ?_
        refine v_iload hC dX12_holds_189 rfl ?_
        refine v_if_ne hC dX12_holds_191 (tgt := 210) (by decide) (fun h_742 => ?_) (fun h_742 => ?_)
        · simp only [Int32.lt_iff_toInt_lt, Int32.le_iff_toInt_le, Int32.reduceToInt, ← Int32.toInt_inj] at h_742
          refine v_iload hC dX12_holds_210 rfl ?_
          refine v_iconst hC dX12_holds_212 (v := 1) (by decide) ?_
          refine v_icmp_ne hC dX12_holds_213 (tgt := 232) (by decide) (fun h_743 => ?_) (fun h_743 => ?_)
          · simp only [Int32.lt_iff_toInt_lt, Int32.le_iff_toInt_le, Int32.reduceToInt, ← Int32.toInt_inj] at h_743
            refine v_lload hC dX12_holds_232 rfl ?_
            refine v_lload hC dX12_holds_234 rfl ?_
            obtain ⟨v_744, h_745⟩ : ∃ v9 : Int32, lg_cmp (i_723 : Int64) i_722 = v9 := ⟨_, rfl⟩
            refine v_lcmp hC dX12_holds_236 h_745 ?_
            refine v_if_ne hC dX12_holds_237 (tgt := 244) (by decide) (fun h_746 => ?_) (fun h_746 => ?_)
            · have h_747 := h_746
              refine v_iconst hC dX12_holds_244 (v := 0) (by decide) ?_
              exact hR _ _ _ _ _ _ _ dX12_holds_245 rfl (Nat.le_of_ble_eq_true rfl) (Nat.le_of_ble_eq_true rfl) ⟨rfl, rfl, (by decide)⟩
            · have h_748 := h_746
              refine v_iconst hC dX12_holds_240 (v := 1) (by decide) ?_
              refine v_goto hC dX12_holds_241 (tgt := 245) (by decide) ?_
              exact hR _ _ _ _ _ _ _ dX12_holds_245 rfl (Nat.le_of_ble_eq_true rfl) (Nat.le_of_ble_eq_true rfl) ⟨rfl, rfl, (by decide)⟩
          · simp only [Int32.lt_iff_toInt_lt, Int32.le_iff_toInt_le, Int32.reduceToInt, ← Int32.toInt_inj] at h_743
            refine v_lload hC dX12_holds_216 rfl ?_
            refine v_lload hC dX12_holds_218 rfl ?_
            obtain ⟨v_749, h_750⟩ : ∃ v9 : Int32, lg_cmp (i_723 : Int64) i_722 = v9 := ⟨_, rfl⟩
            refine v_lcmp hC dX12_holds_220 h_750 ?_
            refine v_if_ge hC dX12_holds_221 (tgt := 228) (by decide) (fun h_751 => ?_) (fun h_751 => ?_)
            · rw [← h_750] at h_751
              have h_752 := (lgc_ge.mp h_751)
              simp only [Int64.lt_iff_toInt_lt, Int64.le_iff_toInt_le] at h_752
              refine v_iconst hC dX12_holds_228 (v := 0) (by decide) ?_
              refine v_goto hC dX12_holds_229 (tgt := 245) (by decide) ?_
              exact hR _ _ _ _ _ _ _ dX12_holds_245 rfl (Nat.le_of_ble_eq_true rfl) (Nat.le_of_ble_eq_true rfl) ⟨rfl, rfl, (by decide)⟩
            · rw [← h_750] at h_751
              have h_753 := (mt lgc_ge.mpr h_751)
              simp only [Int64.lt_iff_toInt_lt, Int64.le_iff_toInt_le] at h_753
              refine v_iconst hC dX12_holds_224 (v := 1) (by decide) ?_
              refine v_goto hC dX12_holds_225 (tgt := 245) (by decide) ?_
              exact hR _ _ _ _ _ _ _ dX12_holds_245 rfl (Nat.le_of_ble_eq_true rfl) (Nat.le_of_ble_eq_true rfl) ⟨rfl, rfl, (by decide)⟩
        · simp only [Int32.lt_iff_toInt_lt, Int32.le_iff_toInt_le, Int32.reduceToInt, ← Int32.toInt_inj] at h_742
          refine v_lload hC dX12_holds_194 rfl ?_
          refine v_lload hC dX12_holds_196 rfl ?_
          obtain ⟨v_754, h_755⟩ : ∃ v9 : Int32, lg_cmp (i_723 : Int64) i_722 = v9 := ⟨_, rfl⟩
          refine v_lcmp hC dX12_holds_198 h_755 ?_
          refine v_if_le hC dX12_holds_199 (tgt := 206) (by decide) (fun h_756 => ?_) (fun h_756 => ?_)
          · rw [← h_755] at h_756
            have h_757 := (lgc_le.mp h_756)
            simp only [Int64.lt_iff_toInt_lt, Int64.le_iff_toInt_le] at h_757
            refine v_iconst hC dX12_holds_206 (v := 0) (by decide) ?_
            refine v_goto hC dX12_holds_207 (tgt := 245) (by decide) ?_
            exact hR _ _ _ _ _ _ _ dX12_holds_245 rfl (Nat.le_of_ble_eq_true rfl) (Nat.le_of_ble_eq_true rfl) ⟨rfl, rfl, (by decide)⟩
          · rw [← h_755] at h_756
            have h_758 := (mt lgc_le.mpr h_756)
            simp only [Int64.lt_iff_toInt_lt, Int64.le_iff_toInt_le] at h_758
            refine v_iconst hC dX12_holds_202 (v := 1) (by decide) ?_
            refine v_goto hC dX12_holds_203 (tgt := 245) (by decide) ?_
            exact hR _ _ _ _ _ _ _ dX12_holds_245 rfl (Nat.le_of_ble_eq_true rfl) (Nat.le_of_ble_eq_true rfl) ⟨rfl, rfl, (by decide)⟩
      · simp only [Int32.lt_iff_toInt_lt, Int32.le_iff_toInt_le, Int32.reduceToInt, ← Int32.toInt_inj] at h_730
        refine v_aload_n hC dX12_holds_43 rfl ?_
        refine v_get hC fl_X12_13 m_1 e_25 rfl dX12_holds_44 ?_
        refine v_sipush hC dX12_holds_47 (v := 562) (by decide) ?_
        refine v_iconst hC dX12_holds_50 (v := 3) (by decide) ?_
        refine v_iload_n hC dX12_holds_51 rfl ?_
        obtain ⟨v_759, h_760⟩ : ∃ v9 : Int32, (3 : Int32) * i_724 = v9 := ⟨_, rfl⟩
        refine v_imul hC dX12_holds_52 h_760 ?_
        have h_761 := mul_v 3 149 447 h_760 (by decide) (by first | omega | (simp only [Int32.lt_iff_toInt_lt, Int32.le_iff_toInt_le, Int32.reduceToInt, ← Int32.toInt_inj, true_and, and_true, or_true, true_or, false_or, or_false, false_and, and_false, not_true_eq_false, not_false_eq_true] <;> omega)) (by decide) (by decide)
        try simp only [Int32.reduceToInt] at h_761
        obtain ⟨v_762, h_763⟩ : ∃ v9 : Int32, (562 : Int32) + v_759 = v9 := ⟨_, rfl⟩
        refine v_iadd hC dX12_holds_53 h_763 ?_
        have h_764 := add_v h_763 (by first | omega | (simp only [Int32.lt_iff_toInt_lt, Int32.le_iff_toInt_le, Int32.reduceToInt, ← Int32.toInt_inj, true_and, and_true, or_true, true_or, false_or, or_false, false_and, and_false, not_true_eq_false, not_false_eq_true] <;> omega)) (by first | omega | (simp only [Int32.lt_iff_toInt_lt, Int32.le_iff_toInt_le, Int32.reduceToInt, ← Int32.toInt_inj, true_and, and_true, or_true, true_or, false_or, or_false, false_and, and_false, not_true_eq_false, not_false_eq_true] <;> omega))
        try simp only [Int32.reduceToInt] at h_764
        obtain ⟨v_765, h_766⟩ : ∃ v9 : Int32, g_w (v_762 : Int32).toNatClampNeg = v9 := ⟨_, rfl⟩
        refine v_iald hC m_21 e_w (vp_in_iff.mpr (by first | omega | (simp only [Int32.lt_iff_toInt_lt, Int32.le_iff_toInt_le, Int32.reduceToInt, ← Int32.toInt_inj, true_and, and_true, or_true, true_or, false_or, or_false, false_and, and_false, not_true_eq_false, not_false_eq_true] <;> omega))) h_766 dX12_holds_54 ?_
        refine v_istore hC dX12_holds_55 (by decide) (lv' := [(8, .int v_765), (6, .long i_722), (4, .long i_723), (3, .int v_67), (2, .int i_724), (0, .ref a_0), (1, .int a_1)]) rfl ?_
        refine v_aload_n hC dX12_holds_57 rfl ?_
        refine v_iload_n hC dX12_holds_58 rfl ?_
        refine v_vj hC (rest := []) m_1 e_25 rfl mi_X12_partOf ms_X12_partOf (p_X12_partOf hW k_0 (by first | omega | (simp only [Int32.lt_iff_toInt_lt, Int32.le_iff_toInt_le, Int32.reduceToInt, ← Int32.toInt_inj, true_and, and_true, or_true, true_or, false_or, or_false, false_and, and_false, not_true_eq_false, not_false_eq_true] <;> omega)) e_w o_w) mx_X12_partOf ml_X12_394 (by decide) rfl (cells1 := 0) (slots1 := 0) (by decide) (by decide) (Nat.le_of_ble_eq_true rfl) (Nat.le_of_ble_eq_true rfl) rfl (Nat.le_of_ble_eq_true rfl) dX12_holds_59 (fun r_767 L_768 f_769 h_770 => ?_)
        obtain ⟨rfl, rfl⟩ := h_770
        refine v_lstore hC dX12_holds_62 (by decide) (lv' := [(9, .long r_767), (8, .int v_765), (6, .long i_722), (4, .long i_723), (3, .int v_67), (2, .int i_724), (0, .ref a_0), (1, .int a_1)]) rfl ?_
        obtain ⟨v_773, h_774⟩ : ∃ v9 : Int32, i_724 + Int32.ofInt 1 = v9 := ⟨_, rfl⟩
        have h_775 := add_v (b := 1) h_774 (by first | omega | (simp only [Int32.lt_iff_toInt_lt, Int32.le_iff_toInt_le, Int32.reduceToInt, ← Int32.toInt_inj, true_and, and_true, or_true, true_or, false_or, or_false, false_and, and_false, not_true_eq_false, not_false_eq_true] <;> omega)) (by first | omega | (simp only [Int32.lt_iff_toInt_lt, Int32.le_iff_toInt_le, Int32.reduceToInt, ← Int32.toInt_inj, true_and, and_true, or_true, true_or, false_or, or_false, false_and, and_false, not_true_eq_false, not_false_eq_true] <;> omega))
        simp only [Int32.reduceToInt] at h_775
        refine v_iinc hC dX12_holds_64 (k := 5) rfl (v := v_773) h_774 (by decide) (lv' := [(2, .int v_773), (9, .long r_767), (8, .int v_765), (6, .long i_722), (4, .long i_723), (3, .int v_67), (0, .ref a_0), (1, .int a_1)]) rfl ?_
        have lp_961 : ∀ (n_962 : Nat) (i_957 : Int32) (b_959 : (0 ≤ i_957.toInt ∧ i_957.toInt ≤ 150)) (i_958 : Int64) (nv_960 : v_773.toInt ≤ i_957.toInt) (hm_964 : 150 - i_957.toInt < (n_962 : Int)), V z E 11 0 0 L f 67 [(2, .int i_957), (9, .long i_958), (8, .int v_765), (6, .long i_722), (4, .long i_723), (3, .int v_67), (0, .ref a_0), (1, .int a_1)] [] := by
          intro n_962
          induction n_962 with
          | zero =>
            intro i_957 b_959 i_958 nv_960 hm_964
            exfalso; omega
          | succ n_962 ih_963 =>
            intro i_957 b_959 i_958 nv_960 hm_964
            refine v_iload_n hC dX12_holds_67 rfl ?_
            refine v_iload_n hC dX12_holds_68 rfl ?_
            refine v_icmp_ge hC dX12_holds_69 (tgt := 120) (by decide) (fun h_965 => ?_) (fun h_965 => ?_)
            · simp only [Int32.lt_iff_toInt_lt, Int32.le_iff_toInt_le, Int32.reduceToInt, ← Int32.toInt_inj] at h_965
              refine v_iload hC dX12_holds_120 rfl ?_
              refine v_iconst hC dX12_holds_122 (v := 4) (by decide) ?_
              have jn_967 : ∀ (v_968 : Int64) (v_969 : Int64), V z E 11 0 0 L f 133 [(2, .int i_957), (9, .long i_958), (8, .int v_765), (6, .long v_968), (4, .long v_969), (3, .int v_67), (0, .ref a_0), (1, .int a_1)] [] := by
                intro v_968 v_969
                refine v_iload hC dX12_holds_133 rfl ?_
                refine v_iconst hC dX12_holds_135 (v := 2) (by decide) ?_
                refine v_icmp_ne hC dX12_holds_136 (tgt := 147) (by decide) (fun h_970 => ?_) (fun h_970 => ?_)
                · simp only [Int32.lt_iff_toInt_lt, Int32.le_iff_toInt_le, Int32.reduceToInt, ← Int32.toInt_inj] at h_970
                  refine v_lload hC dX12_holds_147 rfl ?_
                  refine v_lload hC dX12_holds_149 rfl ?_
                  obtain ⟨v_971, h_972⟩ : ∃ v9 : Int64, v_968 + i_958 = v9 := ⟨_, rfl⟩
                  refine v_ladd hC dX12_holds_151 h_972 ?_
                  refine v_lstore hC dX12_holds_152 (by decide) (lv' := [(6, .long v_971), (2, .int i_957), (9, .long i_958), (8, .int v_765), (4, .long v_969), (3, .int v_67), (0, .ref a_0), (1, .int a_1)]) rfl ?_
                  refine v_lload hC dX12_holds_154 rfl ?_
                  refine v_ldc2 hC kl_X12_398 dX12_holds_156 ?_
                  refine v_ldc2 hC kl_X12_400 dX12_holds_159 ?_
                  refine v_si hC (rest := []) mt_X12_in (p_X12_in hW) mx_X12_in ml_X12_79 (by decide) rfl (cells1 := 0) (slots1 := 0) (by decide) (by decide) (Nat.le_of_ble_eq_true rfl) (Nat.le_of_ble_eq_true rfl) rfl (Nat.le_of_ble_eq_true rfl) dX12_holds_162 (fun r_973 L_974 f_975 h_976 => ?_)
                  obtain ⟨rfl, rfl, b_977, x_978⟩ := h_976
                  try simp only [Int32.reduceToInt, Int64.reduceToInt] at x_978
                  refine v_if_ne hC dX12_holds_165 (tgt := 170) (by decide) (fun h_981 => ?_) (fun h_981 => ?_)
                  · simp only [Int32.lt_iff_toInt_lt, Int32.le_iff_toInt_le, Int32.reduceToInt, ← Int32.toInt_inj] at h_981
                    refine v_goto hC dX12_holds_170 (tgt := 38) (by decide) ?_
                    refine v_pick [0, 4, 5, 1, 6, 7] rfl ?_
                    exact ih_728 v_971 v_969 i_957 (by first | omega | (simp only [Int32.lt_iff_toInt_lt, Int32.le_iff_toInt_le, Int32.reduceToInt, ← Int32.toInt_inj, true_and, and_true, or_true, true_or, false_or, or_false, false_and, and_false, not_true_eq_false, not_false_eq_true] <;> omega)) (by first | omega | (simp only [Int32.lt_iff_toInt_lt, Int32.le_iff_toInt_le, Int32.reduceToInt, ← Int32.toInt_inj, true_and, and_true, or_true, true_or, false_or, or_false, false_and, and_false, not_true_eq_false, not_false_eq_true] <;> omega))
                  · simp only [Int32.lt_iff_toInt_lt, Int32.le_iff_toInt_le, Int32.reduceToInt, ← Int32.toInt_inj] at h_981
                    refine v_iconst hC dX12_holds_168 (v := 0) (by decide) ?_
                    exact hR _ _ _ _ _ _ _ dX12_holds_169 rfl (Nat.le_of_ble_eq_true rfl) (Nat.le_of_ble_eq_true rfl) ⟨rfl, rfl, (by decide)⟩
                · simp only [Int32.lt_iff_toInt_lt, Int32.le_iff_toInt_le, Int32.reduceToInt, ← Int32.toInt_inj] at h_970
                  refine v_lload hC dX12_holds_139 rfl ?_
                  refine v_lload hC dX12_holds_141 rfl ?_
                  obtain ⟨v_982, h_983⟩ : ∃ v9 : Int64, v_968 - i_958 = v9 := ⟨_, rfl⟩
                  refine v_lsub hC dX12_holds_143 h_983 ?_
                  refine v_goto hC dX12_holds_144 (tgt := 152) (by decide) ?_
                  refine v_lstore hC dX12_holds_152 (by decide) (lv' := [(6, .long v_982), (2, .int i_957), (9, .long i_958), (8, .int v_765), (4, .long v_969), (3, .int v_67), (0, .ref a_0), (1, .int a_1)]) rfl ?_
                  refine v_lload hC dX12_holds_154 rfl ?_
                  refine v_ldc2 hC kl_X12_398 dX12_holds_156 ?_
                  refine v_ldc2 hC kl_X12_400 dX12_holds_159 ?_
                  refine v_si hC (rest := []) mt_X12_in (p_X12_in hW) mx_X12_in ml_X12_79 (by decide) rfl (cells1 := 0) (slots1 := 0) (by decide) (by decide) (Nat.le_of_ble_eq_true rfl) (Nat.le_of_ble_eq_true rfl) rfl (Nat.le_of_ble_eq_true rfl) dX12_holds_162 (fun r_984 L_985 f_986 h_987 => ?_)
                  obtain ⟨rfl, rfl, b_988, x_989⟩ := h_987
                  try simp only [Int32.reduceToInt, Int64.reduceToInt] at x_989
                  refine v_if_ne hC dX12_holds_165 (tgt := 170) (by decide) (fun h_992 => ?_) (fun h_992 => ?_)
                  · simp only [Int32.lt_iff_toInt_lt, Int32.le_iff_toInt_le, Int32.reduceToInt, ← Int32.toInt_inj] at h_992
                    refine v_goto hC dX12_holds_170 (tgt := 38) (by decide) ?_
                    refine v_pick [0, 4, 5, 1, 6, 7] rfl ?_
                    exact ih_728 v_982 v_969 i_957 (by first | omega | (simp only [Int32.lt_iff_toInt_lt, Int32.le_iff_toInt_le, Int32.reduceToInt, ← Int32.toInt_inj, true_and, and_true, or_true, true_or, false_or, or_false, false_and, and_false, not_true_eq_false, not_false_eq_true] <;> omega)) (by first | omega | (simp only [Int32.lt_iff_toInt_lt, Int32.le_iff_toInt_le, Int32.reduceToInt, ← Int32.toInt_inj, true_and, and_true, or_true, true_or, false_or, or_false, false_and, and_false, not_true_eq_false, not_false_eq_true] <;> omega))
                  · simp only [Int32.lt_iff_toInt_lt, Int32.le_iff_toInt_le, Int32.reduceToInt, ← Int32.toInt_inj] at h_992
                    refine v_iconst hC dX12_holds_168 (v := 0) (by decide) ?_
                    exact hR _ _ _ _ _ _ _ dX12_holds_169 rfl (Nat.le_of_ble_eq_true rfl) (Nat.le_of_ble_eq_true rfl) ⟨rfl, rfl, (by decide)⟩
              refine v_icmp_ne hC dX12_holds_123 (tgt := 133) (by decide) (fun h_966 => ?_) (fun h_966 => ?_)
              · simp only [Int32.lt_iff_toInt_lt, Int32.le_iff_toInt_le, Int32.reduceToInt, ← Int32.toInt_inj] at h_966
                refine v_pick [0, 1, 2, 3, 4, 5, 6, 7] rfl ?_
                exact jn_967 i_722 i_723
              · simp only [Int32.lt_iff_toInt_lt, Int32.le_iff_toInt_le, Int32.reduceToInt, ← Int32.toInt_inj] at h_966
                refine v_lload hC dX12_holds_126 rfl ?_
                refine v_lstore hC dX12_holds_128 (by decide) (lv' := [(4, .long i_722), (2, .int i_957), (9, .long i_958), (8, .int v_765), (6, .long i_722), (3, .int v_67), (0, .ref a_0), (1, .int a_1)]) rfl ?_
                refine v_lconst hC dX12_holds_130 (v := 0) (by decide) ?_
                refine v_lstore hC dX12_holds_131 (by decide) (lv' := [(6, .long 0), (4, .long i_722), (2, .int i_957), (9, .long i_958), (8, .int v_765), (3, .int v_67), (0, .ref a_0), (1, .int a_1)]) rfl ?_
                refine v_pick [2, 3, 4, 0, 1, 5, 6, 7] rfl ?_
                exact jn_967 0 i_722
            · simp only [Int32.lt_iff_toInt_lt, Int32.le_iff_toInt_le, Int32.reduceToInt, ← Int32.toInt_inj] at h_965
              refine v_aload_n hC dX12_holds_72 rfl ?_
              refine v_get hC fl_X12_13 m_1 e_25 rfl dX12_holds_73 ?_
              refine v_sipush hC dX12_holds_76 (v := 562) (by decide) ?_
              refine v_iconst hC dX12_holds_79 (v := 3) (by decide) ?_
              refine v_iload_n hC dX12_holds_80 rfl ?_
              obtain ⟨v_993, h_994⟩ : ∃ v9 : Int32, (3 : Int32) * i_957 = v9 := ⟨_, rfl⟩
              refine v_imul hC dX12_holds_81 h_994 ?_
              have h_995 := mul_v 3 149 447 h_994 (by decide) (by first | omega | (simp only [Int32.lt_iff_toInt_lt, Int32.le_iff_toInt_le, Int32.reduceToInt, ← Int32.toInt_inj, true_and, and_true, or_true, true_or, false_or, or_false, false_and, and_false, not_true_eq_false, not_false_eq_true] <;> omega)) (by decide) (by decide)
              try simp only [Int32.reduceToInt] at h_995
              obtain ⟨v_996, h_997⟩ : ∃ v9 : Int32, (562 : Int32) + v_993 = v9 := ⟨_, rfl⟩
              refine v_iadd hC dX12_holds_82 h_997 ?_
              have h_998 := add_v h_997 (by first | omega | (simp only [Int32.lt_iff_toInt_lt, Int32.le_iff_toInt_le, Int32.reduceToInt, ← Int32.toInt_inj, true_and, and_true, or_true, true_or, false_or, or_false, false_and, and_false, not_true_eq_false, not_false_eq_true] <;> omega)) (by first | omega | (simp only [Int32.lt_iff_toInt_lt, Int32.le_iff_toInt_le, Int32.reduceToInt, ← Int32.toInt_inj, true_and, and_true, or_true, true_or, false_or, or_false, false_and, and_false, not_true_eq_false, not_false_eq_true] <;> omega))
              try simp only [Int32.reduceToInt] at h_998
              obtain ⟨v_999, h_1000⟩ : ∃ v9 : Int32, g_w (v_996 : Int32).toNatClampNeg = v9 := ⟨_, rfl⟩
              refine v_iald hC m_21 e_w (vp_in_iff.mpr (by first | omega | (simp only [Int32.lt_iff_toInt_lt, Int32.le_iff_toInt_le, Int32.reduceToInt, ← Int32.toInt_inj, true_and, and_true, or_true, true_or, false_or, or_false, false_and, and_false, not_true_eq_false, not_false_eq_true] <;> omega))) h_1000 dX12_holds_83 ?_
              refine v_iconst hC dX12_holds_84 (v := 3) (by decide) ?_
              refine v_icmp_ne hC dX12_holds_85 (tgt := 120) (by decide) (fun h_1001 => ?_) (fun h_1001 => ?_)
              · simp only [Int32.lt_iff_toInt_lt, Int32.le_iff_toInt_le, Int32.reduceToInt, ← Int32.toInt_inj] at h_1001
                refine v_iload hC dX12_holds_120 rfl ?_
                refine v_iconst hC dX12_holds_122 (v := 4) (by decide) ?_
                have jn_1003 : ∀ (v_1004 : Int64) (v_1005 : Int64), V z E 11 0 0 L f 133 [(2, .int i_957), (9, .long i_958), (8, .int v_765), (6, .long v_1004), (4, .long v_1005), (3, .int v_67), (0, .ref a_0), (1, .int a_1)] [] := by
                  intro v_1004 v_1005
                  refine v_iload hC dX12_holds_133 rfl ?_
                  refine v_iconst hC dX12_holds_135 (v := 2) (by decide) ?_
                  refine v_icmp_ne hC dX12_holds_136 (tgt := 147) (by decide) (fun h_1006 => ?_) (fun h_1006 => ?_)
                  · simp only [Int32.lt_iff_toInt_lt, Int32.le_iff_toInt_le, Int32.reduceToInt, ← Int32.toInt_inj] at h_1006
                    refine v_lload hC dX12_holds_147 rfl ?_
                    refine v_lload hC dX12_holds_149 rfl ?_
                    obtain ⟨v_1007, h_1008⟩ : ∃ v9 : Int64, v_1004 + i_958 = v9 := ⟨_, rfl⟩
                    refine v_ladd hC dX12_holds_151 h_1008 ?_
                    refine v_lstore hC dX12_holds_152 (by decide) (lv' := [(6, .long v_1007), (2, .int i_957), (9, .long i_958), (8, .int v_765), (4, .long v_1005), (3, .int v_67), (0, .ref a_0), (1, .int a_1)]) rfl ?_
                    refine v_lload hC dX12_holds_154 rfl ?_
                    refine v_ldc2 hC kl_X12_398 dX12_holds_156 ?_
                    refine v_ldc2 hC kl_X12_400 dX12_holds_159 ?_
                    refine v_si hC (rest := []) mt_X12_in (p_X12_in hW) mx_X12_in ml_X12_79 (by decide) rfl (cells1 := 0) (slots1 := 0) (by decide) (by decide) (Nat.le_of_ble_eq_true rfl) (Nat.le_of_ble_eq_true rfl) rfl (Nat.le_of_ble_eq_true rfl) dX12_holds_162 (fun r_1009 L_1010 f_1011 h_1012 => ?_)
                    obtain ⟨rfl, rfl, b_1013, x_1014⟩ := h_1012
                    try simp only [Int32.reduceToInt, Int64.reduceToInt] at x_1014
                    refine v_if_ne hC dX12_holds_165 (tgt := 170) (by decide) (fun h_1017 => ?_) (fun h_1017 => ?_)
                    · simp only [Int32.lt_iff_toInt_lt, Int32.le_iff_toInt_le, Int32.reduceToInt, ← Int32.toInt_inj] at h_1017
                      refine v_goto hC dX12_holds_170 (tgt := 38) (by decide) ?_
                      refine v_pick [0, 4, 5, 1, 6, 7] rfl ?_
                      exact ih_728 v_1007 v_1005 i_957 (by first | omega | (simp only [Int32.lt_iff_toInt_lt, Int32.le_iff_toInt_le, Int32.reduceToInt, ← Int32.toInt_inj, true_and, and_true, or_true, true_or, false_or, or_false, false_and, and_false, not_true_eq_false, not_false_eq_true] <;> omega)) (by first | omega | (simp only [Int32.lt_iff_toInt_lt, Int32.le_iff_toInt_le, Int32.reduceToInt, ← Int32.toInt_inj, true_and, and_true, or_true, true_or, false_or, or_false, false_and, and_false, not_true_eq_false, not_false_eq_true] <;> omega))
                    · simp only [Int32.lt_iff_toInt_lt, Int32.le_iff_toInt_le, Int32.reduceToInt, ← Int32.toInt_inj] at h_1017
                      refine v_iconst hC dX12_holds_168 (v := 0) (by decide) ?_
                      exact hR _ _ _ _ _ _ _ dX12_holds_169 rfl (Nat.le_of_ble_eq_true rfl) (Nat.le_of_ble_eq_true rfl) ⟨rfl, rfl, (by decide)⟩
                  · simp only [Int32.lt_iff_toInt_lt, Int32.le_iff_toInt_le, Int32.reduceToInt, ← Int32.toInt_inj] at h_1006
                    refine v_lload hC dX12_holds_139 rfl ?_
                    refine v_lload hC dX12_holds_141 rfl ?_
                    obtain ⟨v_1018, h_1019⟩ : ∃ v9 : Int64, v_1004 - i_958 = v9 := ⟨_, rfl⟩
                    refine v_lsub hC dX12_holds_143 h_1019 ?_
                    refine v_goto hC dX12_holds_144 (tgt := 152) (by decide) ?_
                    refine v_lstore hC dX12_holds_152 (by decide) (lv' := [(6, .long v_1018), (2, .int i_957), (9, .long i_958), (8, .int v_765), (4, .long v_1005), (3, .int v_67), (0, .ref a_0), (1, .int a_1)]) rfl ?_
                    refine v_lload hC dX12_holds_154 rfl ?_
                    refine v_ldc2 hC kl_X12_398 dX12_holds_156 ?_
                    refine v_ldc2 hC kl_X12_400 dX12_holds_159 ?_
                    refine v_si hC (rest := []) mt_X12_in (p_X12_in hW) mx_X12_in ml_X12_79 (by decide) rfl (cells1 := 0) (slots1 := 0) (by decide) (by decide) (Nat.le_of_ble_eq_true rfl) (Nat.le_of_ble_eq_true rfl) rfl (Nat.le_of_ble_eq_true rfl) dX12_holds_162 (fun r_1020 L_1021 f_1022 h_1023 => ?_)
                    obtain ⟨rfl, rfl, b_1024, x_1025⟩ := h_1023
                    try simp only [Int32.reduceToInt, Int64.reduceToInt] at x_1025
                    refine v_if_ne hC dX12_holds_165 (tgt := 170) (by decide) (fun h_1028 => ?_) (fun h_1028 => ?_)
                    · simp only [Int32.lt_iff_toInt_lt, Int32.le_iff_toInt_le, Int32.reduceToInt, ← Int32.toInt_inj] at h_1028
                      refine v_goto hC dX12_holds_170 (tgt := 38) (by decide) ?_
                      refine v_pick [0, 4, 5, 1, 6, 7] rfl ?_
                      exact ih_728 v_1018 v_1005 i_957 (by first | omega | (simp only [Int32.lt_iff_toInt_lt, Int32.le_iff_toInt_le, Int32.reduceToInt, ← Int32.toInt_inj, true_and, and_true, or_true, true_or, false_or, or_false, false_and, and_false, not_true_eq_false, not_false_eq_true] <;> omega)) (by first | omega | (simp only [Int32.lt_iff_toInt_lt, Int32.le_iff_toInt_le, Int32.reduceToInt, ← Int32.toInt_inj, true_and, and_true, or_true, true_or, false_or, or_false, false_and, and_false, not_true_eq_false, not_false_eq_true] <;> omega))
                    · simp only [Int32.lt_iff_toInt_lt, Int32.le_iff_toInt_le, Int32.reduceToInt, ← Int32.toInt_inj] at h_1028
                      refine v_iconst hC dX12_holds_168 (v := 0) (by decide) ?_
                      exact hR _ _ _ _ _ _ _ dX12_holds_169 rfl (Nat.le_of_ble_eq_true rfl) (Nat.le_of_ble_eq_true rfl) ⟨rfl, rfl, (by decide)⟩
                refine v_icmp_ne hC dX12_holds_123 (tgt := 133) (by decide) (fun h_1002 => ?_) (fun h_1002 => ?_)
                · simp only [Int32.lt_iff_toInt_lt, Int32.le_iff_toInt_le, Int32.reduceToInt, ← Int32.toInt_inj] at h_1002
                  refine v_pick [0, 1, 2, 3, 4, 5, 6, 7] rfl ?_
                  exact jn_1003 i_722 i_723
                · simp only [Int32.lt_iff_toInt_lt, Int32.le_iff_toInt_le, Int32.reduceToInt, ← Int32.toInt_inj] at h_1002
                  refine v_lload hC dX12_holds_126 rfl ?_
                  refine v_lstore hC dX12_holds_128 (by decide) (lv' := [(4, .long i_722), (2, .int i_957), (9, .long i_958), (8, .int v_765), (6, .long i_722), (3, .int v_67), (0, .ref a_0), (1, .int a_1)]) rfl ?_
                  refine v_lconst hC dX12_holds_130 (v := 0) (by decide) ?_
                  refine v_lstore hC dX12_holds_131 (by decide) (lv' := [(6, .long 0), (4, .long i_722), (2, .int i_957), (9, .long i_958), (8, .int v_765), (3, .int v_67), (0, .ref a_0), (1, .int a_1)]) rfl ?_
                  refine v_pick [2, 3, 4, 0, 1, 5, 6, 7] rfl ?_
                  exact jn_1003 0 i_722
              · simp only [Int32.lt_iff_toInt_lt, Int32.le_iff_toInt_le, Int32.reduceToInt, ← Int32.toInt_inj] at h_1001
                refine v_lload hC dX12_holds_88 rfl ?_
                refine v_aload_n hC dX12_holds_90 rfl ?_
                refine v_iload_n hC dX12_holds_91 rfl ?_
                refine v_vj hC (rest := [.long i_958]) m_1 e_25 rfl mi_X12_partOf ms_X12_partOf (p_X12_partOf hW k_0 (by first | omega | (simp only [Int32.lt_iff_toInt_lt, Int32.le_iff_toInt_le, Int32.reduceToInt, ← Int32.toInt_inj, true_and, and_true, or_true, true_or, false_or, or_false, false_and, and_false, not_true_eq_false, not_false_eq_true] <;> omega)) e_w o_w) mx_X12_partOf ml_X12_394 (by decide) rfl (cells1 := 0) (slots1 := 0) (by decide) (by decide) (Nat.le_of_ble_eq_true rfl) (Nat.le_of_ble_eq_true rfl) rfl (Nat.le_of_ble_eq_true rfl) dX12_holds_92 (fun r_1029 L_1030 f_1031 h_1032 => ?_)
                obtain ⟨rfl, rfl⟩ := h_1032
                obtain ⟨v_1035, h_1036⟩ : ∃ v9 : Int64, i_958 * r_1029 = v9 := ⟨_, rfl⟩
                refine v_lmul hC dX12_holds_95 h_1036 ?_
                refine v_lstore hC dX12_holds_96 (by decide) (lv' := [(9, .long v_1035), (2, .int i_957), (8, .int v_765), (6, .long i_722), (4, .long i_723), (3, .int v_67), (0, .ref a_0), (1, .int a_1)]) rfl ?_
                refine v_lload hC dX12_holds_98 rfl ?_
                refine v_ldc2 hC kl_X12_398 dX12_holds_100 ?_
                refine v_ldc2 hC kl_X12_400 dX12_holds_103 ?_
                refine v_si hC (rest := []) mt_X12_in (p_X12_in hW) mx_X12_in ml_X12_79 (by decide) rfl (cells1 := 0) (slots1 := 0) (by decide) (by decide) (Nat.le_of_ble_eq_true rfl) (Nat.le_of_ble_eq_true rfl) rfl (Nat.le_of_ble_eq_true rfl) dX12_holds_106 (fun r_1037 L_1038 f_1039 h_1040 => ?_)
                obtain ⟨rfl, rfl, b_1041, x_1042⟩ := h_1040
                try simp only [Int32.reduceToInt, Int64.reduceToInt] at x_1042
                refine v_if_ne hC dX12_holds_109 (tgt := 114) (by decide) (fun h_1045 => ?_) (fun h_1045 => ?_)
                · simp only [Int32.lt_iff_toInt_lt, Int32.le_iff_toInt_le, Int32.reduceToInt, ← Int32.toInt_inj] at h_1045
                  obtain ⟨v_1046, h_1047⟩ : ∃ v9 : Int32, i_957 + Int32.ofInt 1 = v9 := ⟨_, rfl⟩
                  have h_1048 := add_v (b := 1) h_1047 (by first | omega | (simp only [Int32.lt_iff_toInt_lt, Int32.le_iff_toInt_le, Int32.reduceToInt, ← Int32.toInt_inj, true_and, and_true, or_true, true_or, false_or, or_false, false_and, and_false, not_true_eq_false, not_false_eq_true] <;> omega)) (by first | omega | (simp only [Int32.lt_iff_toInt_lt, Int32.le_iff_toInt_le, Int32.reduceToInt, ← Int32.toInt_inj, true_and, and_true, or_true, true_or, false_or, or_false, false_and, and_false, not_true_eq_false, not_false_eq_true] <;> omega))
                  simp only [Int32.reduceToInt] at h_1048
                  refine v_iinc hC dX12_holds_114 (k := 1) rfl (v := v_1046) h_1047 (by decide) (lv' := [(2, .int v_1046), (9, .long v_1035), (8, .int v_765), (6, .long i_722), (4, .long i_723), (3, .int v_67), (0, .ref a_0), (1, .int a_1)]) rfl ?_
                  refine v_goto hC dX12_holds_117 (tgt := 67) (by decide) ?_
                  refine v_pick [0, 1, 2, 3, 4, 5, 6, 7] rfl ?_
                  exact ih_963 v_1046 (by first | omega | (simp only [Int32.lt_iff_toInt_lt, Int32.le_iff_toInt_le, Int32.reduceToInt, ← Int32.toInt_inj, true_and, and_true, or_true, true_or, false_or, or_false, false_and, and_false, not_true_eq_false, not_false_eq_true] <;> omega)) v_1035 (by first | omega | (simp only [Int32.lt_iff_toInt_lt, Int32.le_iff_toInt_le, Int32.reduceToInt, ← Int32.toInt_inj, true_and, and_true, or_true, true_or, false_or, or_false, false_and, and_false, not_true_eq_false, not_false_eq_true] <;> omega)) (by first | omega | (simp only [Int32.lt_iff_toInt_lt, Int32.le_iff_toInt_le, Int32.reduceToInt, ← Int32.toInt_inj, true_and, and_true, or_true, true_or, false_or, or_false, false_and, and_false, not_true_eq_false, not_false_eq_true] <;> omega))
                · simp only [Int32.lt_iff_toInt_lt, Int32.le_iff_toInt_le, Int32.reduceToInt, ← Int32.toInt_inj] at h_1045
                  refine v_iconst hC dX12_holds_112 (v := 0) (by decide) ?_
                  exact hR _ _ _ _ _ _ _ dX12_holds_113 rfl (Nat.le_of_ble_eq_true rfl) (Nat.le_of_ble_eq_true rfl) ⟨rfl, rfl, (by decide)⟩
        refine v_pick [0, 1, 2, 3, 4, 5, 6, 7] rfl ?_
        exact lp_961 152 v_773 (by first | omega | (simp only [Int32.lt_iff_toInt_lt, Int32.le_iff_toInt_le, Int32.reduceToInt, ← Int32.toInt_inj, true_and, and_true, or_true, true_or, false_or, or_false, false_and, and_false, not_true_eq_false, not_false_eq_true] <;> omega)) r_767 (by first | omega | (simp only [Int32.lt_iff_toInt_lt, Int32.le_iff_toInt_le, Int32.reduceToInt, ← Int32.toInt_inj, true_and, and_true, or_true, true_or, false_or, or_false, false_and, and_false, not_true_eq_false, not_false_eq_true] <;> omega)) (by first | omega | (simp only [Int32.lt_iff_toInt_lt, Int32.le_iff_toInt_le, Int32.reduceToInt, ← Int32.toInt_inj, true_and, and_true, or_true, true_or, false_or, or_false, false_and, and_false, not_true_eq_false, not_false_eq_true] <;> omega))
  refine v_pick [0, 1, 2, 3, 4, 5] rfl ?_
  exact lp_726 152 0 0 v_53 (by first | omega | (simp only [Int32.lt_iff_toInt_lt, Int32.le_iff_toInt_le, Int32.reduceToInt, ← Int32.toInt_inj, true_and, and_true, or_true, true_or, false_or, or_false, false_and, and_false, not_true_eq_false, not_false_eq_true] <;> omega)) (by first | omega | (simp only [Int32.lt_iff_toInt_lt, Int32.le_iff_toInt_le, Int32.reduceToInt, ← Int32.toInt_inj, true_and, and_true, or_true, true_or, false_or, or_false, false_and, and_false, not_true_eq_false, not_false_eq_true] <;> omega))
set_option maxRecDepth 100000 in
set_option maxHeartbeats 4000000 in
theorem p_X12_stopping {l : Launch} {E : Ez} {L : List Nat} {f : Nat → va_E} {T : Nat → va_E → Prop} {a_0 : Nat} {q : Nat → Nat} {g_w : Nat → Int32} (hW : WT T L f) (k_0 : isM T L E a_0 q) (e_w : f (q 1) = aI E 2076 g_w) (o_w : WOK g_w) : CI l yX12_stopping cX12_stopping 4 .int 4 0 0 E [.ref a_0] L f (fun r L1 f1 => L = L1 ∧ WT T L f1 ∧ FR [108] f f1 ∧ ((-1) ≤ r.toInt ∧ r.toInt ≤ 2147483646)) := by
  refine ci_of (by decide) (Nat.le_of_ble_eq_true rfl) (fun z hz hnm hC hR => ?_)
  have hC : Cx z E cX12_stopping RX12 4 4 0 0 := hC
  subst hz
  show V z E 4 0 0 L f 0 [(0, .ref a_0)] []
  obtain ⟨m_1, t_2, k_3, k_4, k_5, k_6, k_7, k_8, k_9, k_10, k_11, k_12, k_13, k_14, k_15, k_16, k_17, k_18, k_19, k_20⟩ := id k_0
  obtain ⟨m_21, t_22⟩ := id k_3
  have b_23 := o_w.r0
  have b_24 := o_w.w0
  have ts_1 := o_w.tst.1
  have ts_3 := Int32.toInt_lt (g_w 3)
  refine v_aload_n hC dX12_stopping_0 rfl ?_
  obtain ⟨v_26, v_27, v_29, v_31, v_33, v_35, v_37, v_38, v_39, v_40, v_42, e_25, b_28, b_30, b_32, b_34, b_36, b_41, b_43⟩ := hW.at m_1 t_2
  refine v_vv hC (rest := []) m_1 e_25 rfl mi_X12_countAll ms_X12_countAll (p_X12_countAll hW k_0 e_w o_w) mx_X12_countAll ml_X12_391 (by decide) rfl (cells1 := 0) (slots1 := 0) (by decide) (by decide) (Nat.le_of_ble_eq_true rfl) (Nat.le_of_ble_eq_true rfl) rfl (Nat.le_of_ble_eq_true rfl) dX12_stopping_1 (fun L_45 f_46 h_47 => ?_)
  obtain ⟨rfl, hW_48, hF_49⟩ := h_47
  have hf_50 := hF_49.at e_w rfl
  have hf_51 := hF_49.at e_25 rfl
  refine v_iconst hC dX12_stopping_4 (v := 0) (by decide) ?_
  refine v_istore_n hC dX12_stopping_5 (by decide) (lv' := [(1, .int 0), (0, .ref a_0)]) rfl ?_
  have lp_1240 : ∀ (n_1241 : Nat) (i_1238 : Int32) (b_1239 : (0 ≤ i_1238.toInt)) (hm_1243 : 2147483647 - i_1238.toInt < (n_1241 : Int)), V z E 4 0 0 L f_46 6 [(1, .int i_1238), (0, .ref a_0)] [] := by
    intro n_1241
    induction n_1241 with
    | zero =>
      intro i_1238 b_1239 hm_1243
      have rg9 := Int32.toInt_lt i_1238
      exfalso; omega
    | succ n_1241 ih_1242 =>
      intro i_1238 b_1239 hm_1243
      refine v_iload_n hC dX12_stopping_6 rfl ?_
      refine v_aload_n hC dX12_stopping_7 rfl ?_
      refine v_get hC fl_X12_13 m_1 hf_51 rfl dX12_stopping_8 ?_
      refine v_iconst hC dX12_stopping_11 (v := 3) (by decide) ?_
      refine v_iald hC m_21 hf_50 (vp_in_iff.mpr (by decide)) (v := g_w 3) rfl dX12_stopping_12 ?_
      refine v_icmp_ge hC dX12_stopping_13 (tgt := 82) (by decide) (fun h_1244 => ?_) (fun h_1244 => ?_)
      · simp only [Int32.lt_iff_toInt_lt, Int32.le_iff_toInt_le, Int32.reduceToInt, ← Int32.toInt_inj] at h_1244
        refine v_iconst hC dX12_stopping_82 (v := (-1)) (by decide) ?_
        exact hR _ _ _ _ _ _ _ dX12_stopping_83 rfl (Nat.le_of_ble_eq_true rfl) (Nat.le_of_ble_eq_true rfl) ⟨rfl, hW_48, (hF_49.mono rfl), (by decide)⟩
      · simp only [Int32.lt_iff_toInt_lt, Int32.le_iff_toInt_le, Int32.reduceToInt, ← Int32.toInt_inj] at h_1244
        refine v_iconst hC dX12_stopping_16 (v := 1) (by decide) ?_
        refine v_istore_n hC dX12_stopping_17 (by decide) (lv' := [(2, .int 1), (1, .int i_1238), (0, .ref a_0)]) rfl ?_
        refine v_iconst hC dX12_stopping_18 (v := 0) (by decide) ?_
        refine v_istore_n hC dX12_stopping_19 (by decide) (lv' := [(3, .int 0), (2, .int 1), (1, .int i_1238), (0, .ref a_0)]) rfl ?_
        have lp_1400 : ∀ (n_1401 : Nat) (i_1396 : Int32) (b_1398 : (0 ≤ i_1396.toInt ∧ i_1396.toInt ≤ 100)) (i_1397 : Int32) (b_1399 : (0 ≤ i_1397.toInt ∧ i_1397.toInt ≤ 1)) (hm_1403 : 100 - i_1396.toInt < (n_1401 : Int)), V z E 4 0 0 L f_46 20 [(3, .int i_1396), (2, .int i_1397), (1, .int i_1238), (0, .ref a_0)] [] := by
          intro n_1401
          induction n_1401 with
          | zero =>
            intro i_1396 b_1398 i_1397 b_1399 hm_1403
            exfalso; omega
          | succ n_1401 ih_1402 =>
            intro i_1396 b_1398 i_1397 b_1399 hm_1403
            refine v_iload_n hC dX12_stopping_20 rfl ?_
            refine v_aload_n hC dX12_stopping_21 rfl ?_
            refine v_get hC fl_X12_13 m_1 hf_51 rfl dX12_stopping_22 ?_
            refine v_iconst hC dX12_stopping_25 (v := 4) (by decide) ?_
            refine v_iald hC m_21 hf_50 (vp_in_iff.mpr (by decide)) (v := g_w 4) rfl dX12_stopping_26 ?_
            refine v_icmp_ge hC dX12_stopping_27 (tgt := 70) (by decide) (fun h_1404 => ?_) (fun h_1404 => ?_)
            · simp only [Int32.lt_iff_toInt_lt, Int32.le_iff_toInt_le, Int32.reduceToInt, ← Int32.toInt_inj] at h_1404
              refine v_iload_n hC dX12_stopping_70 rfl ?_
              refine v_if_eq hC dX12_stopping_71 (tgt := 76) (by decide) (fun h_1405 => ?_) (fun h_1405 => ?_)
              · simp only [Int32.lt_iff_toInt_lt, Int32.le_iff_toInt_le, Int32.reduceToInt, ← Int32.toInt_inj] at h_1405
                obtain ⟨v_1406, h_1407⟩ : ∃ v9 : Int32, i_1238 + Int32.ofInt 1 = v9 := ⟨_, rfl⟩
                have h_1408 := add_v (b := 1) h_1407 (by first | omega | (simp only [Int32.lt_iff_toInt_lt, Int32.le_iff_toInt_le, Int32.reduceToInt, ← Int32.toInt_inj, true_and, and_true, or_true, true_or, false_or, or_false, false_and, and_false, not_true_eq_false, not_false_eq_true] <;> omega)) (by first | omega | (simp only [Int32.lt_iff_toInt_lt, Int32.le_iff_toInt_le, Int32.reduceToInt, ← Int32.toInt_inj, true_and, and_true, or_true, true_or, false_or, or_false, false_and, and_false, not_true_eq_false, not_false_eq_true] <;> omega))
                simp only [Int32.reduceToInt] at h_1408
                refine v_iinc hC dX12_stopping_76 (k := 2) rfl (v := v_1406) h_1407 (by decide) (lv' := [(1, .int v_1406), (3, .int i_1396), (2, .int i_1397), (0, .ref a_0)]) rfl ?_
                refine v_goto hC dX12_stopping_79 (tgt := 6) (by decide) ?_
                refine v_pick [0, 3] rfl ?_
                exact ih_1242 v_1406 (by first | omega | (simp only [Int32.lt_iff_toInt_lt, Int32.le_iff_toInt_le, Int32.reduceToInt, ← Int32.toInt_inj, true_and, and_true, or_true, true_or, false_or, or_false, false_and, and_false, not_true_eq_false, not_false_eq_true] <;> omega)) (by first | omega | (simp only [Int32.lt_iff_toInt_lt, Int32.le_iff_toInt_le, Int32.reduceToInt, ← Int32.toInt_inj, true_and, and_true, or_true, true_or, false_or, or_false, false_and, and_false, not_true_eq_false, not_false_eq_true] <;> omega))
              · simp only [Int32.lt_iff_toInt_lt, Int32.le_iff_toInt_le, Int32.reduceToInt, ← Int32.toInt_inj] at h_1405
                refine v_iload_n hC dX12_stopping_74 rfl ?_
                exact hR _ _ _ _ _ _ _ dX12_stopping_75 rfl (Nat.le_of_ble_eq_true rfl) (Nat.le_of_ble_eq_true rfl) ⟨rfl, hW_48, (hF_49.mono rfl), (by first | omega | (simp only [Int32.lt_iff_toInt_lt, Int32.le_iff_toInt_le, Int32.reduceToInt, ← Int32.toInt_inj, true_and, and_true, or_true, true_or, false_or, or_false, false_and, and_false, not_true_eq_false, not_false_eq_true] <;> omega))⟩
            · simp only [Int32.lt_iff_toInt_lt, Int32.le_iff_toInt_le, Int32.reduceToInt, ← Int32.toInt_inj] at h_1404
              refine v_iload_n hC dX12_stopping_30 rfl ?_
              refine v_if_eq hC dX12_stopping_31 (tgt := 62) (by decide) (fun h_1409 => ?_) (fun h_1409 => ?_)
              · simp only [Int32.lt_iff_toInt_lt, Int32.le_iff_toInt_le, Int32.reduceToInt, ← Int32.toInt_inj] at h_1409
                refine v_iconst hC dX12_stopping_62 (v := 0) (by decide) ?_
                refine v_istore_n hC dX12_stopping_63 (by decide) (lv' := [(2, .int 0), (3, .int i_1396), (1, .int i_1238), (0, .ref a_0)]) rfl ?_
                obtain ⟨v_1410, h_1411⟩ : ∃ v9 : Int32, i_1396 + Int32.ofInt 1 = v9 := ⟨_, rfl⟩
                have h_1412 := add_v (b := 1) h_1411 (by first | omega | (simp only [Int32.lt_iff_toInt_lt, Int32.le_iff_toInt_le, Int32.reduceToInt, ← Int32.toInt_inj, true_and, and_true, or_true, true_or, false_or, or_false, false_and, and_false, not_true_eq_false, not_false_eq_true] <;> omega)) (by first | omega | (simp only [Int32.lt_iff_toInt_lt, Int32.le_iff_toInt_le, Int32.reduceToInt, ← Int32.toInt_inj, true_and, and_true, or_true, true_or, false_or, or_false, false_and, and_false, not_true_eq_false, not_false_eq_true] <;> omega))
                simp only [Int32.reduceToInt] at h_1412
                refine v_iinc hC dX12_stopping_64 (k := 1) rfl (v := v_1410) h_1411 (by decide) (lv' := [(3, .int v_1410), (2, .int 0), (1, .int i_1238), (0, .ref a_0)]) rfl ?_
                refine v_goto hC dX12_stopping_67 (tgt := 20) (by decide) ?_
                refine v_pick [0, 1, 2, 3] rfl ?_
                exact ih_1402 v_1410 (by first | omega | (simp only [Int32.lt_iff_toInt_lt, Int32.le_iff_toInt_le, Int32.reduceToInt, ← Int32.toInt_inj, true_and, and_true, or_true, true_or, false_or, or_false, false_and, and_false, not_true_eq_false, not_false_eq_true] <;> omega)) 0 (by decide) (by first | omega | (simp only [Int32.lt_iff_toInt_lt, Int32.le_iff_toInt_le, Int32.reduceToInt, ← Int32.toInt_inj, true_and, and_true, or_true, true_or, false_or, or_false, false_and, and_false, not_true_eq_false, not_false_eq_true] <;> omega))
              · simp only [Int32.lt_iff_toInt_lt, Int32.le_iff_toInt_le, Int32.reduceToInt, ← Int32.toInt_inj] at h_1409
                refine v_aload_n hC dX12_stopping_34 rfl ?_
                refine v_get hC fl_X12_13 m_1 hf_51 rfl dX12_stopping_35 ?_
                refine v_sipush hC dX12_stopping_38 (v := 162) (by decide) ?_
                refine v_iconst hC dX12_stopping_41 (v := 4) (by decide) ?_
                refine v_iload_n hC dX12_stopping_42 rfl ?_
                obtain ⟨v_1413, h_1414⟩ : ∃ v9 : Int32, (4 : Int32) * i_1396 = v9 := ⟨_, rfl⟩
                refine v_imul hC dX12_stopping_43 h_1414 ?_
                have h_1415 := mul_v 4 99 396 h_1414 (by decide) (by first | omega | (simp only [Int32.lt_iff_toInt_lt, Int32.le_iff_toInt_le, Int32.reduceToInt, ← Int32.toInt_inj, true_and, and_true, or_true, true_or, false_or, or_false, false_and, and_false, not_true_eq_false, not_false_eq_true] <;> omega)) (by decide) (by decide)
                try simp only [Int32.reduceToInt] at h_1415
                obtain ⟨v_1416, h_1417⟩ : ∃ v9 : Int32, (162 : Int32) + v_1413 = v9 := ⟨_, rfl⟩
                refine v_iadd hC dX12_stopping_44 h_1417 ?_
                have h_1418 := add_v h_1417 (by first | omega | (simp only [Int32.lt_iff_toInt_lt, Int32.le_iff_toInt_le, Int32.reduceToInt, ← Int32.toInt_inj, true_and, and_true, or_true, true_or, false_or, or_false, false_and, and_false, not_true_eq_false, not_false_eq_true] <;> omega)) (by first | omega | (simp only [Int32.lt_iff_toInt_lt, Int32.le_iff_toInt_le, Int32.reduceToInt, ← Int32.toInt_inj, true_and, and_true, or_true, true_or, false_or, or_false, false_and, and_false, not_true_eq_false, not_false_eq_true] <;> omega))
                try simp only [Int32.reduceToInt] at h_1418
                obtain ⟨v_1419, h_1420⟩ : ∃ v9 : Int32, g_w (v_1416 : Int32).toNatClampNeg = v9 := ⟨_, rfl⟩
                refine v_iald hC m_21 hf_50 (vp_in_iff.mpr (by first | omega | (simp only [Int32.lt_iff_toInt_lt, Int32.le_iff_toInt_le, Int32.reduceToInt, ← Int32.toInt_inj, true_and, and_true, or_true, true_or, false_or, or_false, false_and, and_false, not_true_eq_false, not_false_eq_true] <;> omega))) h_1420 dX12_stopping_45 ?_
                refine v_iload_n hC dX12_stopping_46 rfl ?_
                refine v_icmp_ne hC dX12_stopping_47 (tgt := 58) (by decide) (fun h_1421 => ?_) (fun h_1421 => ?_)
                · simp only [Int32.lt_iff_toInt_lt, Int32.le_iff_toInt_le, Int32.reduceToInt, ← Int32.toInt_inj] at h_1421
                  refine v_iconst hC dX12_stopping_58 (v := 1) (by decide) ?_
                  refine v_goto hC dX12_stopping_59 (tgt := 63) (by decide) ?_
                  refine v_istore_n hC dX12_stopping_63 (by decide) (lv' := [(2, .int 1), (3, .int i_1396), (1, .int i_1238), (0, .ref a_0)]) rfl ?_
                  obtain ⟨v_1422, h_1423⟩ : ∃ v9 : Int32, i_1396 + Int32.ofInt 1 = v9 := ⟨_, rfl⟩
                  have h_1424 := add_v (b := 1) h_1423 (by first | omega | (simp only [Int32.lt_iff_toInt_lt, Int32.le_iff_toInt_le, Int32.reduceToInt, ← Int32.toInt_inj, true_and, and_true, or_true, true_or, false_or, or_false, false_and, and_false, not_true_eq_false, not_false_eq_true] <;> omega)) (by first | omega | (simp only [Int32.lt_iff_toInt_lt, Int32.le_iff_toInt_le, Int32.reduceToInt, ← Int32.toInt_inj, true_and, and_true, or_true, true_or, false_or, or_false, false_and, and_false, not_true_eq_false, not_false_eq_true] <;> omega))
                  simp only [Int32.reduceToInt] at h_1424
                  refine v_iinc hC dX12_stopping_64 (k := 1) rfl (v := v_1422) h_1423 (by decide) (lv' := [(3, .int v_1422), (2, .int 1), (1, .int i_1238), (0, .ref a_0)]) rfl ?_
                  refine v_goto hC dX12_stopping_67 (tgt := 20) (by decide) ?_
                  refine v_pick [0, 1, 2, 3] rfl ?_
                  exact ih_1402 v_1422 (by first | omega | (simp only [Int32.lt_iff_toInt_lt, Int32.le_iff_toInt_le, Int32.reduceToInt, ← Int32.toInt_inj, true_and, and_true, or_true, true_or, false_or, or_false, false_and, and_false, not_true_eq_false, not_false_eq_true] <;> omega)) 1 (by decide) (by first | omega | (simp only [Int32.lt_iff_toInt_lt, Int32.le_iff_toInt_le, Int32.reduceToInt, ← Int32.toInt_inj, true_and, and_true, or_true, true_or, false_or, or_false, false_and, and_false, not_true_eq_false, not_false_eq_true] <;> omega))
                · simp only [Int32.lt_iff_toInt_lt, Int32.le_iff_toInt_le, Int32.reduceToInt, ← Int32.toInt_inj] at h_1421
                  refine v_aload_n hC dX12_stopping_50 rfl ?_
                  refine v_iload_n hC dX12_stopping_51 rfl ?_
                  refine v_vi hC (rest := []) m_1 hf_51 rfl mi_X12_holds ms_X12_holds (p_X12_holds hW_48 k_0 (by first | omega | (simp only [Int32.lt_iff_toInt_lt, Int32.le_iff_toInt_le, Int32.reduceToInt, ← Int32.toInt_inj, true_and, and_true, or_true, true_or, false_or, or_false, false_and, and_false, not_true_eq_false, not_false_eq_true] <;> omega)) hf_50 o_w (by first | omega | (simp only [Int32.lt_iff_toInt_lt, Int32.le_iff_toInt_le, Int32.reduceToInt, ← Int32.toInt_inj, true_and, and_true, or_true, true_or, false_or, or_false, false_and, and_false, not_true_eq_false, not_false_eq_true] <;> omega))) mx_X12_holds ml_X12_402 (by decide) rfl (cells1 := 0) (slots1 := 0) (by decide) (by decide) (Nat.le_of_ble_eq_true rfl) (Nat.le_of_ble_eq_true rfl) rfl (Nat.le_of_ble_eq_true rfl) dX12_stopping_52 (fun r_1425 L_1426 f_1427 h_1428 => ?_)
                  obtain ⟨rfl, rfl, b_1429⟩ := h_1428
                  refine v_if_eq hC dX12_stopping_55 (tgt := 62) (by decide) (fun h_1432 => ?_) (fun h_1432 => ?_)
                  · simp only [Int32.lt_iff_toInt_lt, Int32.le_iff_toInt_le, Int32.reduceToInt, ← Int32.toInt_inj] at h_1432
                    refine v_iconst hC dX12_stopping_62 (v := 0) (by decide) ?_
                    refine v_istore_n hC dX12_stopping_63 (by decide) (lv' := [(2, .int 0), (3, .int i_1396), (1, .int i_1238), (0, .ref a_0)]) rfl ?_
                    obtain ⟨v_1433, h_1434⟩ : ∃ v9 : Int32, i_1396 + Int32.ofInt 1 = v9 := ⟨_, rfl⟩
                    have h_1435 := add_v (b := 1) h_1434 (by first | omega | (simp only [Int32.lt_iff_toInt_lt, Int32.le_iff_toInt_le, Int32.reduceToInt, ← Int32.toInt_inj, true_and, and_true, or_true, true_or, false_or, or_false, false_and, and_false, not_true_eq_false, not_false_eq_true] <;> omega)) (by first | omega | (simp only [Int32.lt_iff_toInt_lt, Int32.le_iff_toInt_le, Int32.reduceToInt, ← Int32.toInt_inj, true_and, and_true, or_true, true_or, false_or, or_false, false_and, and_false, not_true_eq_false, not_false_eq_true] <;> omega))
                    simp only [Int32.reduceToInt] at h_1435
                    refine v_iinc hC dX12_stopping_64 (k := 1) rfl (v := v_1433) h_1434 (by decide) (lv' := [(3, .int v_1433), (2, .int 0), (1, .int i_1238), (0, .ref a_0)]) rfl ?_
                    refine v_goto hC dX12_stopping_67 (tgt := 20) (by decide) ?_
                    refine v_pick [0, 1, 2, 3] rfl ?_
                    exact ih_1402 v_1433 (by first | omega | (simp only [Int32.lt_iff_toInt_lt, Int32.le_iff_toInt_le, Int32.reduceToInt, ← Int32.toInt_inj, true_and, and_true, or_true, true_or, false_or, or_false, false_and, and_false, not_true_eq_false, not_false_eq_true] <;> omega)) 0 (by decide) (by first | omega | (simp only [Int32.lt_iff_toInt_lt, Int32.le_iff_toInt_le, Int32.reduceToInt, ← Int32.toInt_inj, true_and, and_true, or_true, true_or, false_or, or_false, false_and, and_false, not_true_eq_false, not_false_eq_true] <;> omega))
                  · simp only [Int32.lt_iff_toInt_lt, Int32.le_iff_toInt_le, Int32.reduceToInt, ← Int32.toInt_inj] at h_1432
                    refine v_iconst hC dX12_stopping_58 (v := 1) (by decide) ?_
                    refine v_goto hC dX12_stopping_59 (tgt := 63) (by decide) ?_
                    refine v_istore_n hC dX12_stopping_63 (by decide) (lv' := [(2, .int 1), (3, .int i_1396), (1, .int i_1238), (0, .ref a_0)]) rfl ?_
                    obtain ⟨v_1436, h_1437⟩ : ∃ v9 : Int32, i_1396 + Int32.ofInt 1 = v9 := ⟨_, rfl⟩
                    have h_1438 := add_v (b := 1) h_1437 (by first | omega | (simp only [Int32.lt_iff_toInt_lt, Int32.le_iff_toInt_le, Int32.reduceToInt, ← Int32.toInt_inj, true_and, and_true, or_true, true_or, false_or, or_false, false_and, and_false, not_true_eq_false, not_false_eq_true] <;> omega)) (by first | omega | (simp only [Int32.lt_iff_toInt_lt, Int32.le_iff_toInt_le, Int32.reduceToInt, ← Int32.toInt_inj, true_and, and_true, or_true, true_or, false_or, or_false, false_and, and_false, not_true_eq_false, not_false_eq_true] <;> omega))
                    simp only [Int32.reduceToInt] at h_1438
                    refine v_iinc hC dX12_stopping_64 (k := 1) rfl (v := v_1436) h_1437 (by decide) (lv' := [(3, .int v_1436), (2, .int 1), (1, .int i_1238), (0, .ref a_0)]) rfl ?_
                    refine v_goto hC dX12_stopping_67 (tgt := 20) (by decide) ?_
                    refine v_pick [0, 1, 2, 3] rfl ?_
                    exact ih_1402 v_1436 (by first | omega | (simp only [Int32.lt_iff_toInt_lt, Int32.le_iff_toInt_le, Int32.reduceToInt, ← Int32.toInt_inj, true_and, and_true, or_true, true_or, false_or, or_false, false_and, and_false, not_true_eq_false, not_false_eq_true] <;> omega)) 1 (by decide) (by first | omega | (simp only [Int32.lt_iff_toInt_lt, Int32.le_iff_toInt_le, Int32.reduceToInt, ← Int32.toInt_inj, true_and, and_true, or_true, true_or, false_or, or_false, false_and, and_false, not_true_eq_false, not_false_eq_true] <;> omega))
        refine v_pick [0, 1, 2, 3] rfl ?_
        exact lp_1400 102 0 (by decide) 1 (by decide) (by decide)
  refine v_pick [0, 1] rfl ?_
  exact lp_1240 2147483649 0 (by decide) (by decide)
set_option maxRecDepth 100000 in
set_option maxHeartbeats 4000000 in
theorem p_X12_stops {l : Launch} {E : Ez} {L : List Nat} {f : Nat → va_E} {T : Nat → va_E → Prop} {a_0 : Nat} {a_1 : Int32} {q : Nat → Nat} {g_w : Nat → Int32} (hW : WT T L f) (k_0 : isM T L E a_0 q) (e_w : f (q 1) = aI E 2076 g_w) (o_w : WOK g_w) : CI l yX12_stops cX12_stops 3 .int 5 0 0 E [.ref a_0, .int a_1] L f (fun r L1 f1 => L = L1 ∧ WT T L f1 ∧ FR [108, 356] f f1 ∧ ((-6) ≤ r.toInt ∧ r.toInt ≤ 2147483646) ∧ (¬ r.toInt = 0 ∨ (0 ≤ a_1.toInt ∧ a_1.toInt ≤ 3))) := by
  refine ci_of (by decide) (Nat.le_of_ble_eq_true rfl) (fun z hz hnm hC hR => ?_)
  have hC : Cx z E cX12_stops RX12 3 5 0 0 := hC
  subst hz
  show V z E 3 0 0 L f 0 [(0, .ref a_0), (1, .int a_1)] []
  obtain ⟨m_1, t_2, k_3, k_4, k_5, k_6, k_7, k_8, k_9, k_10, k_11, k_12, k_13, k_14, k_15, k_16, k_17, k_18, k_19, k_20⟩ := id k_0
  obtain ⟨m_21, t_22⟩ := id k_3
  have b_23 := o_w.r0
  have b_24 := o_w.w0
  refine v_aload_n hC dX12_stops_0 rfl ?_
  refine v_iload_n hC dX12_stops_1 rfl ?_
  obtain ⟨v_26, v_27, v_29, v_31, v_33, v_35, v_37, v_38, v_39, v_40, v_42, e_25, b_28, b_30, b_32, b_34, b_36, b_41, b_43⟩ := hW.at m_1 t_2
  refine v_vi hC (rest := []) m_1 e_25 rfl mi_X12_asksCloth ms_X12_asksCloth (p_X12_asksCloth hW k_0 e_w o_w) mx_X12_asksCloth ml_X12_376 (by decide) rfl (cells1 := 0) (slots1 := 0) (by decide) (by decide) (Nat.le_of_ble_eq_true rfl) (Nat.le_of_ble_eq_true rfl) rfl (Nat.le_of_ble_eq_true rfl) dX12_stops_2 (fun r_44 L_45 f_46 h_47 => ?_)
  obtain ⟨rfl, rfl, b_48, h_49⟩ := h_47
  refine v_istore_n hC dX12_stops_5 (by decide) (lv' := [(2, .int r_44), (0, .ref a_0), (1, .int a_1)]) rfl ?_
  refine v_iload_n hC dX12_stops_6 rfl ?_
  refine v_if_ge hC dX12_stops_7 (tgt := 12) (by decide) (fun h_52 => ?_) (fun h_52 => ?_)
  · simp only [Int32.lt_iff_toInt_lt, Int32.le_iff_toInt_le, Int32.reduceToInt, ← Int32.toInt_inj] at h_52
    refine v_aload_n hC dX12_stops_12 rfl ?_
    refine v_iload_n hC dX12_stops_13 rfl ?_
    refine v_vv hC (rest := []) m_1 e_25 rfl mi_X12_takes0 ms_X12_takes0 (p_X12_takes0 hW k_0 (by first | omega | (simp only [Int32.lt_iff_toInt_lt, Int32.le_iff_toInt_le, Int32.reduceToInt, ← Int32.toInt_inj, true_and, and_true, or_true, true_or, false_or, or_false, false_and, and_false, not_true_eq_false, not_false_eq_true] <;> omega)) e_w o_w) mx_X12_takes0 ml_X12_363 (by decide) rfl (cells1 := 0) (slots1 := 0) (by decide) (by decide) (Nat.le_of_ble_eq_true rfl) (Nat.le_of_ble_eq_true rfl) rfl (Nat.le_of_ble_eq_true rfl) dX12_stops_14 (fun L_54 f_55 h_56 => ?_)
    obtain ⟨rfl, hW_57, hF_58⟩ := h_56
    have hf_59 := hF_58.at e_w rfl
    have hf_60 := hF_58.at e_25 rfl
    refine v_aload_n hC dX12_stops_17 rfl ?_
    refine v_vi hC (rest := []) m_1 hf_60 rfl mi_X12_stopping ms_X12_stopping (p_X12_stopping hW_57 k_0 hf_59 o_w) mx_X12_stopping ml_X12_405 (by decide) rfl (cells1 := 0) (slots1 := 0) (by decide) (by decide) (Nat.le_of_ble_eq_true rfl) (Nat.le_of_ble_eq_true rfl) rfl (Nat.le_of_ble_eq_true rfl) dX12_stops_18 (fun r_61 L_62 f_63 h_64 => ?_)
    obtain ⟨rfl, hW_66, hF_67, b_65⟩ := h_64
    have hf_68 := hF_67.at hf_59 rfl
    have hf_69 := hF_67.at hf_60 rfl
    exact hR _ _ _ _ _ _ _ dX12_stops_21 rfl (Nat.le_of_ble_eq_true rfl) (Nat.le_of_ble_eq_true rfl) ⟨rfl, hW_66, ((hF_58.tr hF_67).mono rfl), (by first | omega | (simp only [Int32.lt_iff_toInt_lt, Int32.le_iff_toInt_le, Int32.reduceToInt, ← Int32.toInt_inj, true_and, and_true, or_true, true_or, false_or, or_false, false_and, and_false, not_true_eq_false, not_false_eq_true] <;> omega)), (.inr (by first | omega | (simp only [Int32.lt_iff_toInt_lt, Int32.le_iff_toInt_le, Int32.reduceToInt, ← Int32.toInt_inj, true_and, and_true, or_true, true_or, false_or, or_false, false_and, and_false, not_true_eq_false, not_false_eq_true] <;> omega)))⟩
  · simp only [Int32.lt_iff_toInt_lt, Int32.le_iff_toInt_le, Int32.reduceToInt, ← Int32.toInt_inj] at h_52
    refine v_iload_n hC dX12_stops_10 rfl ?_
    exact hR _ _ _ _ _ _ _ dX12_stops_11 rfl (Nat.le_of_ble_eq_true rfl) (Nat.le_of_ble_eq_true rfl) ⟨rfl, hW, FR.rf, (by first | omega | (simp only [Int32.lt_iff_toInt_lt, Int32.le_iff_toInt_le, Int32.reduceToInt, ← Int32.toInt_inj, true_and, and_true, or_true, true_or, false_or, or_false, false_and, and_false, not_true_eq_false, not_false_eq_true] <;> omega)), (by first | omega | (simp only [Int32.lt_iff_toInt_lt, Int32.le_iff_toInt_le, Int32.reduceToInt, ← Int32.toInt_inj, true_and, and_true, or_true, true_or, false_or, or_false, false_and, and_false, not_true_eq_false, not_false_eq_true] <;> omega))⟩
set_option maxRecDepth 100000 in
set_option maxHeartbeats 4000000 in
theorem p_X12_odds {l : Launch} {E : Ez} {L : List Nat} {f : Nat → va_E} {T : Nat → va_E → Prop} {a_0 : Nat} {a_1 : Int32} {a_2 : Int32} {q : Nat → Nat} {g_w : Nat → Int32} (hW : WT T L f) (k_0 : isM T L E a_0 q) (e_w : f (q 1) = aI E 2076 g_w) (o_w : WOK g_w) : CI l yX12_odds cX12_odds 6 .int 5 0 0 E [.ref a_0, .int a_1, .int a_2] L f (fun r L1 f1 => L = L1 ∧ WT T L f1 ∧ FR [108, 356] f f1 ∧ (¬ r.toInt = 0 ∨ (0 ≤ a_1.toInt ∧ a_1.toInt ≤ 2000000000)) ∧ (¬ r.toInt = 0 ∨ (1 ≤ a_2.toInt ∧ a_2.toInt ≤ 50))) := by
  refine ci_of (by decide) (Nat.le_of_ble_eq_true rfl) (fun z hz hnm hC hR => ?_)
  have hC : Cx z E cX12_odds RX12 6 5 0 0 := hC
  subst hz
  show V z E 6 0 0 L f 0 [(0, .ref a_0), (1, .int a_1), (2, .int a_2)] []
  obtain ⟨m_1, t_2, k_3, k_4, k_5, k_6, k_7, k_8, k_9, k_10, k_11, k_12, k_13, k_14, k_15, k_16, k_17, k_18, k_19, k_20⟩ := id k_0
  obtain ⟨m_21, t_22⟩ := id k_3
  have b_23 := o_w.r0
  have b_24 := o_w.w0
  refine v_iload_n hC dX12_odds_0 rfl ?_
  refine v_si hC (rest := []) mt_X12_isSeed (p_X12_isSeed hW) mx_X12_isSeed ml_X12_322 (by decide) rfl (cells1 := 0) (slots1 := 0) (by decide) (by decide) (Nat.le_of_ble_eq_true rfl) (Nat.le_of_ble_eq_true rfl) rfl (Nat.le_of_ble_eq_true rfl) dX12_odds_1 (fun r_25 L_26 f_27 h_28 => ?_)
  obtain ⟨rfl, rfl, b_29, h_30⟩ := h_28
  refine v_if_eq hC dX12_odds_4 (tgt := 19) (by decide) (fun h_33 => ?_) (fun h_33 => ?_)
  · simp only [Int32.lt_iff_toInt_lt, Int32.le_iff_toInt_le, Int32.reduceToInt, ← Int32.toInt_inj] at h_33
    refine v_bipush hC dX12_odds_19 (v := (-2)) (by decide) ?_
    exact hR _ _ _ _ _ _ _ dX12_odds_21 rfl (Nat.le_of_ble_eq_true rfl) (Nat.le_of_ble_eq_true rfl) ⟨rfl, hW, FR.rf, (.inl (by decide)), (.inl (by decide))⟩
  · simp only [Int32.lt_iff_toInt_lt, Int32.le_iff_toInt_le, Int32.reduceToInt, ← Int32.toInt_inj] at h_33
    refine v_iload_n hC dX12_odds_7 rfl ?_
    obtain ⟨v_34, h_35⟩ : ∃ v9 : Int64, a_2.toInt64 = v9 := ⟨_, rfl⟩
    refine v_i2l hC dX12_odds_8 h_35 ?_
    have h_36 : v_34.toInt = a_2.toInt := by rw [← h_35]; exact Int32.toInt_toInt64 _
    refine v_lconst hC dX12_odds_9 (v := 1) (by decide) ?_
    refine v_ldc2 hC kl_X12_408 dX12_odds_10 ?_
    refine v_si hC (rest := []) mt_X12_in (p_X12_in hW) mx_X12_in ml_X12_79 (by decide) rfl (cells1 := 0) (slots1 := 0) (by decide) (by decide) (Nat.le_of_ble_eq_true rfl) (Nat.le_of_ble_eq_true rfl) rfl (Nat.le_of_ble_eq_true rfl) dX12_odds_13 (fun r_37 L_38 f_39 h_40 => ?_)
    obtain ⟨rfl, rfl, b_41, x_42⟩ := h_40
    try simp only [Int32.reduceToInt, Int64.reduceToInt] at x_42
    refine v_if_ne hC dX12_odds_16 (tgt := 22) (by decide) (fun h_45 => ?_) (fun h_45 => ?_)
    · simp only [Int32.lt_iff_toInt_lt, Int32.le_iff_toInt_le, Int32.reduceToInt, ← Int32.toInt_inj] at h_45
      refine v_aload_n hC dX12_odds_22 rfl ?_
      obtain ⟨v_47, v_48, v_50, v_52, v_54, v_56, v_58, v_59, v_60, v_61, v_63, e_46, b_49, b_51, b_53, b_55, b_57, b_62, b_64⟩ := hW.at m_1 t_2
      refine v_vi hC (rest := []) m_1 e_46 rfl mi_X12_hasPattern ms_X12_hasPattern (p_X12_hasPattern hW k_0 e_w o_w) mx_X12_hasPattern ml_X12_325 (by decide) rfl (cells1 := 0) (slots1 := 0) (by decide) (by decide) (Nat.le_of_ble_eq_true rfl) (Nat.le_of_ble_eq_true rfl) rfl (Nat.le_of_ble_eq_true rfl) dX12_odds_23 (fun r_65 L_66 f_67 h_68 => ?_)
      obtain ⟨rfl, rfl, b_69, x_70⟩ := h_68
      try simp only [Int32.reduceToInt, Int64.reduceToInt] at x_70
      refine v_if_ne hC dX12_odds_26 (tgt := 32) (by decide) (fun h_73 => ?_) (fun h_73 => ?_)
      · simp only [Int32.lt_iff_toInt_lt, Int32.le_iff_toInt_le, Int32.reduceToInt, ← Int32.toInt_inj] at h_73
        refine v_iconst hC dX12_odds_32 (v := 0) (by decide) ?_
        refine v_istore_n hC dX12_odds_33 (by decide) (lv' := [(3, .int 0), (0, .ref a_0), (1, .int a_1), (2, .int a_2)]) rfl ?_
        refine v_iconst hC dX12_odds_34 (v := 0) (by decide) ?_
        refine v_istore hC dX12_odds_35 (by decide) (lv' := [(4, .int 0), (3, .int 0), (0, .ref a_0), (1, .int a_1), (2, .int a_2)]) rfl ?_
        have lp_580 : ∀ (n_581 : Nat) (f_574 : Nat → va_E) (hW_575 : WT T L f_574) (hF_576 : FR [108, 356] f f_574) (i_572 : Int32) (b_579 : (0 ≤ i_572.toInt ∧ i_572.toInt ≤ 50)) (i_573 : Int32) (hm_583 : 50 - i_572.toInt < (n_581 : Int)), V z E 6 0 0 L f_574 37 [(4, .int i_572), (3, .int i_573), (0, .ref a_0), (1, .int a_1), (2, .int a_2)] [] := by
          intro n_581
          induction n_581 with
          | zero =>
            intro f_574 hW_575 hF_576 i_572 b_579 i_573 hm_583
            have hf_577 := hF_576.at e_w rfl
            have hf_578 := hF_576.at e_46 rfl
            exfalso; omega
          | succ n_581 ih_582 =>
            intro f_574 hW_575 hF_576 i_572 b_579 i_573 hm_583
            have hf_577 := hF_576.at e_w rfl
            have hf_578 := hF_576.at e_46 rfl
            refine v_iload hC dX12_odds_37 rfl ?_
            refine v_iload_n hC dX12_odds_39 rfl ?_
            refine v_icmp_ge hC dX12_odds_40 (tgt := 77) (by decide) (fun h_584 => ?_) (fun h_584 => ?_)
            · simp only [Int32.lt_iff_toInt_lt, Int32.le_iff_toInt_le, Int32.reduceToInt, ← Int32.toInt_inj] at h_584
              refine v_iload_n hC dX12_odds_77 rfl ?_
              exact hR _ _ _ _ _ _ _ dX12_odds_78 rfl (Nat.le_of_ble_eq_true rfl) (Nat.le_of_ble_eq_true rfl) ⟨rfl, hW_575, (hF_576.mono rfl), (.inr (by first | omega | (simp only [Int32.lt_iff_toInt_lt, Int32.le_iff_toInt_le, Int32.reduceToInt, ← Int32.toInt_inj, true_and, and_true, or_true, true_or, false_or, or_false, false_and, and_false, not_true_eq_false, not_false_eq_true] <;> omega))), (.inr (by first | omega | (simp only [Int32.lt_iff_toInt_lt, Int32.le_iff_toInt_le, Int32.reduceToInt, ← Int32.toInt_inj, true_and, and_true, or_true, true_or, false_or, or_false, false_and, and_false, not_true_eq_false, not_false_eq_true] <;> omega)))⟩
            · simp only [Int32.lt_iff_toInt_lt, Int32.le_iff_toInt_le, Int32.reduceToInt, ← Int32.toInt_inj] at h_584
              refine v_aload_n hC dX12_odds_43 rfl ?_
              refine v_iload_n hC dX12_odds_44 rfl ?_
              obtain ⟨v_585, h_586⟩ : ∃ v9 : Int64, a_1.toInt64 = v9 := ⟨_, rfl⟩
              refine v_i2l hC dX12_odds_45 h_586 ?_
              have h_587 : v_585.toInt = a_1.toInt := by rw [← h_586]; exact Int32.toInt_toInt64 _
              refine v_iload hC dX12_odds_46 rfl ?_
              obtain ⟨v_588, h_589⟩ : ∃ v9 : Int64, i_572.toInt64 = v9 := ⟨_, rfl⟩
              refine v_i2l hC dX12_odds_48 h_589 ?_
              have h_590 : v_588.toInt = i_572.toInt := by rw [← h_589]; exact Int32.toInt_toInt64 _
              obtain ⟨v_591, h_592⟩ : ∃ v9 : Int64, v_585 + v_588 = v9 := ⟨_, rfl⟩
              refine v_ladd hC dX12_odds_49 h_592 ?_
              have h_593 := ladd_v h_592 h_586 h_589
              refine v_vi hC (rest := []) m_1 hf_578 rfl mi_X12_knits ms_X12_knits (p_X12_knits hW_575 k_0 hf_577 o_w) mx_X12_knits ml_X12_328 (by decide) rfl (cells1 := 0) (slots1 := 0) (by decide) (by decide) (Nat.le_of_ble_eq_true rfl) (Nat.le_of_ble_eq_true rfl) rfl (Nat.le_of_ble_eq_true rfl) dX12_odds_50 (fun r_594 L_595 f_596 h_597 => ?_)
              obtain ⟨rfl, hW_598, hF_599⟩ := h_597
              have hf_600 := hF_599.at hf_577 rfl
              have hf_601 := hF_599.at hf_578 rfl
              refine v_istore hC dX12_odds_53 (by decide) (lv' := [(5, .int r_594), (4, .int i_572), (3, .int i_573), (0, .ref a_0), (1, .int a_1), (2, .int a_2)]) rfl ?_
              refine v_iload_n hC dX12_odds_55 rfl ?_
              refine v_aload_n hC dX12_odds_56 rfl ?_
              refine v_vi hC (rest := [.int i_573]) m_1 hf_601 rfl mi_X12_stopping ms_X12_stopping (p_X12_stopping hW_598 k_0 hf_600 o_w) mx_X12_stopping ml_X12_405 (by decide) rfl (cells1 := 0) (slots1 := 0) (by decide) (by decide) (Nat.le_of_ble_eq_true rfl) (Nat.le_of_ble_eq_true rfl) rfl (Nat.le_of_ble_eq_true rfl) dX12_odds_57 (fun r_602 L_603 f_604 h_605 => ?_)
              obtain ⟨rfl, hW_607, hF_608, b_606⟩ := h_605
              have hf_609 := hF_608.at hf_600 rfl
              have hf_610 := hF_608.at hf_601 rfl
              refine v_iconst hC dX12_odds_60 (v := (-1)) (by decide) ?_
              refine v_icmp_ne hC dX12_odds_61 (tgt := 68) (by decide) (fun h_611 => ?_) (fun h_611 => ?_)
              · simp only [Int32.lt_iff_toInt_lt, Int32.le_iff_toInt_le, Int32.reduceToInt, ← Int32.toInt_inj] at h_611
                refine v_iconst hC dX12_odds_68 (v := 1) (by decide) ?_
                obtain ⟨v_612, h_613⟩ : ∃ v9 : Int32, i_573 + 1 = v9 := ⟨_, rfl⟩
                refine v_iadd hC dX12_odds_69 h_613 ?_
                refine v_istore_n hC dX12_odds_70 (by decide) (lv' := [(3, .int v_612), (5, .int r_594), (4, .int i_572), (0, .ref a_0), (1, .int a_1), (2, .int a_2)]) rfl ?_
                obtain ⟨v_615, h_616⟩ : ∃ v9 : Int32, i_572 + Int32.ofInt 1 = v9 := ⟨_, rfl⟩
                have h_617 := add_v (b := 1) h_616 (by first | omega | (simp only [Int32.lt_iff_toInt_lt, Int32.le_iff_toInt_le, Int32.reduceToInt, ← Int32.toInt_inj, true_and, and_true, or_true, true_or, false_or, or_false, false_and, and_false, not_true_eq_false, not_false_eq_true] <;> omega)) (by first | omega | (simp only [Int32.lt_iff_toInt_lt, Int32.le_iff_toInt_le, Int32.reduceToInt, ← Int32.toInt_inj, true_and, and_true, or_true, true_or, false_or, or_false, false_and, and_false, not_true_eq_false, not_false_eq_true] <;> omega))
                simp only [Int32.reduceToInt] at h_617
                refine v_iinc hC dX12_odds_71 (k := 2) rfl (v := v_615) h_616 (by decide) (lv' := [(4, .int v_615), (3, .int v_612), (5, .int r_594), (0, .ref a_0), (1, .int a_1), (2, .int a_2)]) rfl ?_
                refine v_goto hC dX12_odds_74 (tgt := 37) (by decide) ?_
                refine v_pick [0, 1, 3, 4, 5] rfl ?_
                exact ih_582 f_604 hW_607 (((hF_576.tr hF_599).tr hF_608).mono rfl) v_615 (by first | omega | (simp only [Int32.lt_iff_toInt_lt, Int32.le_iff_toInt_le, Int32.reduceToInt, ← Int32.toInt_inj, true_and, and_true, or_true, true_or, false_or, or_false, false_and, and_false, not_true_eq_false, not_false_eq_true] <;> omega)) v_612 (by first | omega | (simp only [Int32.lt_iff_toInt_lt, Int32.le_iff_toInt_le, Int32.reduceToInt, ← Int32.toInt_inj, true_and, and_true, or_true, true_or, false_or, or_false, false_and, and_false, not_true_eq_false, not_false_eq_true] <;> omega))
              · simp only [Int32.lt_iff_toInt_lt, Int32.le_iff_toInt_le, Int32.reduceToInt, ← Int32.toInt_inj] at h_611
                refine v_iconst hC dX12_odds_64 (v := 0) (by decide) ?_
                refine v_goto hC dX12_odds_65 (tgt := 69) (by decide) ?_
                obtain ⟨v_618, h_619⟩ : ∃ v9 : Int32, i_573 + 0 = v9 := ⟨_, rfl⟩
                refine v_iadd hC dX12_odds_69 h_619 ?_
                have rg_621 := Int32.toInt_lt i_573
                have rg_622 := Int32.le_toInt i_573
                have h_620 := add_v h_619 (by first | omega | (simp only [Int32.lt_iff_toInt_lt, Int32.le_iff_toInt_le, Int32.reduceToInt, ← Int32.toInt_inj, true_and, and_true, or_true, true_or, false_or, or_false, false_and, and_false, not_true_eq_false, not_false_eq_true] <;> omega)) (by first | omega | (simp only [Int32.lt_iff_toInt_lt, Int32.le_iff_toInt_le, Int32.reduceToInt, ← Int32.toInt_inj, true_and, and_true, or_true, true_or, false_or, or_false, false_and, and_false, not_true_eq_false, not_false_eq_true] <;> omega))
                try simp only [Int32.reduceToInt] at h_620
                refine v_istore_n hC dX12_odds_70 (by decide) (lv' := [(3, .int v_618), (5, .int r_594), (4, .int i_572), (0, .ref a_0), (1, .int a_1), (2, .int a_2)]) rfl ?_
                obtain ⟨v_623, h_624⟩ : ∃ v9 : Int32, i_572 + Int32.ofInt 1 = v9 := ⟨_, rfl⟩
                have h_625 := add_v (b := 1) h_624 (by first | omega | (simp only [Int32.lt_iff_toInt_lt, Int32.le_iff_toInt_le, Int32.reduceToInt, ← Int32.toInt_inj, true_and, and_true, or_true, true_or, false_or, or_false, false_and, and_false, not_true_eq_false, not_false_eq_true] <;> omega)) (by first | omega | (simp only [Int32.lt_iff_toInt_lt, Int32.le_iff_toInt_le, Int32.reduceToInt, ← Int32.toInt_inj, true_and, and_true, or_true, true_or, false_or, or_false, false_and, and_false, not_true_eq_false, not_false_eq_true] <;> omega))
                simp only [Int32.reduceToInt] at h_625
                refine v_iinc hC dX12_odds_71 (k := 2) rfl (v := v_623) h_624 (by decide) (lv' := [(4, .int v_623), (3, .int v_618), (5, .int r_594), (0, .ref a_0), (1, .int a_1), (2, .int a_2)]) rfl ?_
                refine v_goto hC dX12_odds_74 (tgt := 37) (by decide) ?_
                refine v_pick [0, 1, 3, 4, 5] rfl ?_
                exact ih_582 f_604 hW_607 (((hF_576.tr hF_599).tr hF_608).mono rfl) v_623 (by first | omega | (simp only [Int32.lt_iff_toInt_lt, Int32.le_iff_toInt_le, Int32.reduceToInt, ← Int32.toInt_inj, true_and, and_true, or_true, true_or, false_or, or_false, false_and, and_false, not_true_eq_false, not_false_eq_true] <;> omega)) v_618 (by first | omega | (simp only [Int32.lt_iff_toInt_lt, Int32.le_iff_toInt_le, Int32.reduceToInt, ← Int32.toInt_inj, true_and, and_true, or_true, true_or, false_or, or_false, false_and, and_false, not_true_eq_false, not_false_eq_true] <;> omega))
        refine v_pick [0, 1, 2, 3, 4] rfl ?_
        exact lp_580 52 f hW FR.rf 0 (by decide) 0 (by decide)
      · simp only [Int32.lt_iff_toInt_lt, Int32.le_iff_toInt_le, Int32.reduceToInt, ← Int32.toInt_inj] at h_73
        refine v_bipush hC dX12_odds_29 (v := (-6)) (by decide) ?_
        exact hR _ _ _ _ _ _ _ dX12_odds_31 rfl (Nat.le_of_ble_eq_true rfl) (Nat.le_of_ble_eq_true rfl) ⟨rfl, hW, FR.rf, (.inl (by decide)), (.inl (by decide))⟩
    · simp only [Int32.lt_iff_toInt_lt, Int32.le_iff_toInt_le, Int32.reduceToInt, ← Int32.toInt_inj] at h_45
      refine v_bipush hC dX12_odds_19 (v := (-2)) (by decide) ?_
      exact hR _ _ _ _ _ _ _ dX12_odds_21 rfl (Nat.le_of_ble_eq_true rfl) (Nat.le_of_ble_eq_true rfl) ⟨rfl, hW, FR.rf, (.inl (by decide)), (.inl (by decide))⟩
set_option maxRecDepth 100000 in
set_option maxHeartbeats 4000000 in
theorem p_X12_isSaid {l : Launch} {E : Ez} {L : List Nat} {f : Nat → va_E} {T : Nat → va_E → Prop} {a_0 : Nat} {q : Nat → Nat} {g_w : Nat → Int32} (hW : WT T L f) (k_0 : isM T L E a_0 q) (e_w : f (q 1) = aI E 2076 g_w) (o_w : WOK g_w) : CI l yX12_isSaid cX12_isSaid 3 .boolean 0 0 0 E [.ref a_0] L f (fun r L1 f1 => L = L1 ∧ f = f1 ∧ (0 ≤ r.toInt ∧ r.toInt ≤ 1) ∧ (r.toInt = 0 ∨ 1 ≤ fld (f a_0) 20)) := by
  refine ci_of (by decide) (Nat.le_of_ble_eq_true rfl) (fun z hz hnm hC hR => ?_)
  have hC : Cx z E cX12_isSaid RX12 3 0 0 0 := hC
  subst hz
  show V z E 3 0 0 L f 0 [(0, .ref a_0)] []
  obtain ⟨m_1, t_2, k_3, k_4, k_5, k_6, k_7, k_8, k_9, k_10, k_11, k_12, k_13, k_14, k_15, k_16, k_17, k_18, k_19, k_20⟩ := id k_0
  obtain ⟨m_21, t_22⟩ := id k_3
  have b_23 := o_w.r0
  have b_24 := o_w.w0
  obtain ⟨v_26, v_27, v_29, v_31, v_33, v_35, v_37, v_38, v_39, v_40, v_42, e_25, b_28, b_30, b_32, b_34, b_36, b_41, b_43⟩ := hW.at m_1 t_2
  have mz_44 : fld (f a_0) 20 = v_42.toInt := by rw [e_25]; rfl
  refine v_aload_n hC dX12_isSaid_0 rfl ?_
  refine v_get hC fl_X12_49 m_1 e_25 rfl dX12_isSaid_1 ?_
  refine v_if_le hC dX12_isSaid_4 (tgt := 11) (by decide) (fun h_45 => ?_) (fun h_45 => ?_)
  · simp only [Int32.lt_iff_toInt_lt, Int32.le_iff_toInt_le, Int32.reduceToInt, ← Int32.toInt_inj] at h_45
    refine v_iconst hC dX12_isSaid_11 (v := 0) (by decide) ?_
    refine v_istore_n hC dX12_isSaid_12 (by decide) (lv' := [(1, .int 0), (0, .ref a_0)]) rfl ?_
    refine v_iconst hC dX12_isSaid_13 (v := 0) (by decide) ?_
    refine v_istore_n hC dX12_isSaid_14 (by decide) (lv' := [(2, .int 0), (1, .int 0), (0, .ref a_0)]) rfl ?_
    have lp_88 : ∀ (n_89 : Nat) (i_83 : Int32) (b_85 : (0 ≤ i_83.toInt)) (i_84 : Int32) (b_86 : (0 ≤ i_84.toInt ∧ i_84.toInt ≤ 1)) (nv_87 : (i_84.toInt = 0 ∨ 1 ≤ v_42.toInt)) (hm_91 : 0 < (n_89 : Int)), V z E 3 0 0 L f 15 [(2, .int i_83), (1, .int i_84), (0, .ref a_0)] [] := by
      intro n_89
      induction n_89 with
      | zero =>
        intro i_83 b_85 i_84 b_86 nv_87 hm_91
        exfalso; omega
      | succ n_89 ih_90 =>
        intro i_83 b_85 i_84 b_86 nv_87 hm_91
        refine v_iload_n hC dX12_isSaid_15 rfl ?_
        refine v_aload_n hC dX12_isSaid_16 rfl ?_
        refine v_get hC fl_X12_49 m_1 e_25 rfl dX12_isSaid_17 ?_
        refine v_icmp_ge_t hC dX12_isSaid_20 (tgt := 50) (by decide) (by first | omega | (simp only [Int32.lt_iff_toInt_lt, Int32.le_iff_toInt_le, Int32.reduceToInt, ← Int32.toInt_inj, true_and, and_true, or_true, true_or, false_or, or_false, false_and, and_false, not_true_eq_false, not_false_eq_true] <;> omega)) ?_
        refine v_iload_n hC dX12_isSaid_50 rfl ?_
        exact hR _ _ _ _ _ _ _ dX12_isSaid_51 (nar01 (by first | omega | (simp only [Int32.lt_iff_toInt_lt, Int32.le_iff_toInt_le, Int32.reduceToInt, ← Int32.toInt_inj, true_and, and_true, or_true, true_or, false_or, or_false, false_and, and_false, not_true_eq_false, not_false_eq_true] <;> omega))) (Nat.le_of_ble_eq_true rfl) (Nat.le_of_ble_eq_true rfl) ⟨rfl, rfl, (by first | omega | (simp only [Int32.lt_iff_toInt_lt, Int32.le_iff_toInt_le, Int32.reduceToInt, ← Int32.toInt_inj, true_and, and_true, or_true, true_or, false_or, or_false, false_and, and_false, not_true_eq_false, not_false_eq_true] <;> omega)), (by rw [mz_44] <;> first | omega | (simp only [Int32.lt_iff_toInt_lt, Int32.le_iff_toInt_le, Int32.reduceToInt, ← Int32.toInt_inj, true_and, and_true, or_true, true_or, false_or, or_false, false_and, and_false, not_true_eq_false, not_false_eq_true] <;> omega))⟩
    refine v_pick [0, 1, 2] rfl ?_
    exact lp_88 1 0 (by decide) 0 (by decide) (by first | omega | (simp only [Int32.lt_iff_toInt_lt, Int32.le_iff_toInt_le, Int32.reduceToInt, ← Int32.toInt_inj, true_and, and_true, or_true, true_or, false_or, or_false, false_and, and_false, not_true_eq_false, not_false_eq_true] <;> omega)) (by decide)
  · simp only [Int32.lt_iff_toInt_lt, Int32.le_iff_toInt_le, Int32.reduceToInt, ← Int32.toInt_inj] at h_45
    refine v_iconst hC dX12_isSaid_7 (v := 1) (by decide) ?_
    refine v_goto hC dX12_isSaid_8 (tgt := 12) (by decide) ?_
    refine v_istore_n hC dX12_isSaid_12 (by decide) (lv' := [(1, .int 1), (0, .ref a_0)]) rfl ?_
    refine v_iconst hC dX12_isSaid_13 (v := 0) (by decide) ?_
    refine v_istore_n hC dX12_isSaid_14 (by decide) (lv' := [(2, .int 0), (1, .int 1), (0, .ref a_0)]) rfl ?_
    have lp_170 : ∀ (n_171 : Nat) (i_165 : Int32) (b_167 : (0 ≤ i_165.toInt ∧ i_165.toInt ≤ 100)) (i_166 : Int32) (b_168 : (0 ≤ i_166.toInt ∧ i_166.toInt ≤ 1)) (nv_169 : (i_166.toInt = 0 ∨ 1 ≤ v_42.toInt)) (hm_173 : 100 - i_165.toInt < (n_171 : Int)), V z E 3 0 0 L f 15 [(2, .int i_165), (1, .int i_166), (0, .ref a_0)] [] := by
      intro n_171
      induction n_171 with
      | zero =>
        intro i_165 b_167 i_166 b_168 nv_169 hm_173
        exfalso; omega
      | succ n_171 ih_172 =>
        intro i_165 b_167 i_166 b_168 nv_169 hm_173
        refine v_iload_n hC dX12_isSaid_15 rfl ?_
        refine v_aload_n hC dX12_isSaid_16 rfl ?_
        refine v_get hC fl_X12_49 m_1 e_25 rfl dX12_isSaid_17 ?_
        refine v_icmp_ge hC dX12_isSaid_20 (tgt := 50) (by decide) (fun h_174 => ?_) (fun h_174 => ?_)
        · simp only [Int32.lt_iff_toInt_lt, Int32.le_iff_toInt_le, Int32.reduceToInt, ← Int32.toInt_inj] at h_174
          refine v_iload_n hC dX12_isSaid_50 rfl ?_
          exact hR _ _ _ _ _ _ _ dX12_isSaid_51 (nar01 (by first | omega | (simp only [Int32.lt_iff_toInt_lt, Int32.le_iff_toInt_le, Int32.reduceToInt, ← Int32.toInt_inj, true_and, and_true, or_true, true_or, false_or, or_false, false_and, and_false, not_true_eq_false, not_false_eq_true] <;> omega))) (Nat.le_of_ble_eq_true rfl) (Nat.le_of_ble_eq_true rfl) ⟨rfl, rfl, (by first | omega | (simp only [Int32.lt_iff_toInt_lt, Int32.le_iff_toInt_le, Int32.reduceToInt, ← Int32.toInt_inj, true_and, and_true, or_true, true_or, false_or, or_false, false_and, and_false, not_true_eq_false, not_false_eq_true] <;> omega)), (by rw [mz_44] <;> first | omega | (simp only [Int32.lt_iff_toInt_lt, Int32.le_iff_toInt_le, Int32.reduceToInt, ← Int32.toInt_inj, true_and, and_true, or_true, true_or, false_or, or_false, false_and, and_false, not_true_eq_false, not_false_eq_true] <;> omega))⟩
        · simp only [Int32.lt_iff_toInt_lt, Int32.le_iff_toInt_le, Int32.reduceToInt, ← Int32.toInt_inj] at h_174
          refine v_iload_n hC dX12_isSaid_23 rfl ?_
          refine v_if_eq hC dX12_isSaid_24 (tgt := 42) (by decide) (fun h_175 => ?_) (fun h_175 => ?_)
          · simp only [Int32.lt_iff_toInt_lt, Int32.le_iff_toInt_le, Int32.reduceToInt, ← Int32.toInt_inj] at h_175
            refine v_iconst hC dX12_isSaid_42 (v := 0) (by decide) ?_
            refine v_istore_n hC dX12_isSaid_43 (by decide) (lv' := [(1, .int 0), (2, .int i_165), (0, .ref a_0)]) rfl ?_
            obtain ⟨v_176, h_177⟩ : ∃ v9 : Int32, i_165 + Int32.ofInt 1 = v9 := ⟨_, rfl⟩
            have h_178 := add_v (b := 1) h_177 (by first | omega | (simp only [Int32.lt_iff_toInt_lt, Int32.le_iff_toInt_le, Int32.reduceToInt, ← Int32.toInt_inj, true_and, and_true, or_true, true_or, false_or, or_false, false_and, and_false, not_true_eq_false, not_false_eq_true] <;> omega)) (by first | omega | (simp only [Int32.lt_iff_toInt_lt, Int32.le_iff_toInt_le, Int32.reduceToInt, ← Int32.toInt_inj, true_and, and_true, or_true, true_or, false_or, or_false, false_and, and_false, not_true_eq_false, not_false_eq_true] <;> omega))
            simp only [Int32.reduceToInt] at h_178
            refine v_iinc hC dX12_isSaid_44 (k := 1) rfl (v := v_176) h_177 (by decide) (lv' := [(2, .int v_176), (1, .int 0), (0, .ref a_0)]) rfl ?_
            refine v_goto hC dX12_isSaid_47 (tgt := 15) (by decide) ?_
            refine v_pick [0, 1, 2] rfl ?_
            exact ih_172 v_176 (by first | omega | (simp only [Int32.lt_iff_toInt_lt, Int32.le_iff_toInt_le, Int32.reduceToInt, ← Int32.toInt_inj, true_and, and_true, or_true, true_or, false_or, or_false, false_and, and_false, not_true_eq_false, not_false_eq_true] <;> omega)) 0 (by decide) (by first | omega | (simp only [Int32.lt_iff_toInt_lt, Int32.le_iff_toInt_le, Int32.reduceToInt, ← Int32.toInt_inj, true_and, and_true, or_true, true_or, false_or, or_false, false_and, and_false, not_true_eq_false, not_false_eq_true] <;> omega)) (by first | omega | (simp only [Int32.lt_iff_toInt_lt, Int32.le_iff_toInt_le, Int32.reduceToInt, ← Int32.toInt_inj, true_and, and_true, or_true, true_or, false_or, or_false, false_and, and_false, not_true_eq_false, not_false_eq_true] <;> omega))
          · simp only [Int32.lt_iff_toInt_lt, Int32.le_iff_toInt_le, Int32.reduceToInt, ← Int32.toInt_inj] at h_175
            refine v_aload_n hC dX12_isSaid_27 rfl ?_
            refine v_get hC fl_X12_46 m_1 e_25 rfl dX12_isSaid_28 ?_
            refine v_iload_n hC dX12_isSaid_31 rfl ?_
            obtain ⟨m_179, t_180⟩ := id k_12
            obtain ⟨g_182, e_181⟩ := hW.at m_179 t_180
            obtain ⟨v_183, h_184⟩ : ∃ v9 : Int32, g_182 (i_165 : Int32).toNatClampNeg = v9 := ⟨_, rfl⟩
            refine v_iald hC m_179 e_181 (vp_in_iff.mpr (by first | omega | (simp only [Int32.lt_iff_toInt_lt, Int32.le_iff_toInt_le, Int32.reduceToInt, ← Int32.toInt_inj, true_and, and_true, or_true, true_or, false_or, or_false, false_and, and_false, not_true_eq_false, not_false_eq_true] <;> omega))) h_184 dX12_isSaid_32 ?_
            refine v_bipush hC dX12_isSaid_33 (v := 99) (by decide) ?_
            refine v_icmp_eq hC dX12_isSaid_35 (tgt := 42) (by decide) (fun h_185 => ?_) (fun h_185 => ?_)
            · simp only [Int32.lt_iff_toInt_lt, Int32.le_iff_toInt_le, Int32.reduceToInt, ← Int32.toInt_inj] at h_185
              refine v_iconst hC dX12_isSaid_42 (v := 0) (by decide) ?_
              refine v_istore_n hC dX12_isSaid_43 (by decide) (lv' := [(1, .int 0), (2, .int i_165), (0, .ref a_0)]) rfl ?_
              obtain ⟨v_186, h_187⟩ : ∃ v9 : Int32, i_165 + Int32.ofInt 1 = v9 := ⟨_, rfl⟩
              have h_188 := add_v (b := 1) h_187 (by first | omega | (simp only [Int32.lt_iff_toInt_lt, Int32.le_iff_toInt_le, Int32.reduceToInt, ← Int32.toInt_inj, true_and, and_true, or_true, true_or, false_or, or_false, false_and, and_false, not_true_eq_false, not_false_eq_true] <;> omega)) (by first | omega | (simp only [Int32.lt_iff_toInt_lt, Int32.le_iff_toInt_le, Int32.reduceToInt, ← Int32.toInt_inj, true_and, and_true, or_true, true_or, false_or, or_false, false_and, and_false, not_true_eq_false, not_false_eq_true] <;> omega))
              simp only [Int32.reduceToInt] at h_188
              refine v_iinc hC dX12_isSaid_44 (k := 1) rfl (v := v_186) h_187 (by decide) (lv' := [(2, .int v_186), (1, .int 0), (0, .ref a_0)]) rfl ?_
              refine v_goto hC dX12_isSaid_47 (tgt := 15) (by decide) ?_
              refine v_pick [0, 1, 2] rfl ?_
              exact ih_172 v_186 (by first | omega | (simp only [Int32.lt_iff_toInt_lt, Int32.le_iff_toInt_le, Int32.reduceToInt, ← Int32.toInt_inj, true_and, and_true, or_true, true_or, false_or, or_false, false_and, and_false, not_true_eq_false, not_false_eq_true] <;> omega)) 0 (by decide) (by first | omega | (simp only [Int32.lt_iff_toInt_lt, Int32.le_iff_toInt_le, Int32.reduceToInt, ← Int32.toInt_inj, true_and, and_true, or_true, true_or, false_or, or_false, false_and, and_false, not_true_eq_false, not_false_eq_true] <;> omega)) (by first | omega | (simp only [Int32.lt_iff_toInt_lt, Int32.le_iff_toInt_le, Int32.reduceToInt, ← Int32.toInt_inj, true_and, and_true, or_true, true_or, false_or, or_false, false_and, and_false, not_true_eq_false, not_false_eq_true] <;> omega))
            · simp only [Int32.lt_iff_toInt_lt, Int32.le_iff_toInt_le, Int32.reduceToInt, ← Int32.toInt_inj] at h_185
              refine v_iconst hC dX12_isSaid_38 (v := 1) (by decide) ?_
              refine v_goto hC dX12_isSaid_39 (tgt := 43) (by decide) ?_
              refine v_istore_n hC dX12_isSaid_43 (by decide) (lv' := [(1, .int 1), (2, .int i_165), (0, .ref a_0)]) rfl ?_
              obtain ⟨v_189, h_190⟩ : ∃ v9 : Int32, i_165 + Int32.ofInt 1 = v9 := ⟨_, rfl⟩
              have h_191 := add_v (b := 1) h_190 (by first | omega | (simp only [Int32.lt_iff_toInt_lt, Int32.le_iff_toInt_le, Int32.reduceToInt, ← Int32.toInt_inj, true_and, and_true, or_true, true_or, false_or, or_false, false_and, and_false, not_true_eq_false, not_false_eq_true] <;> omega)) (by first | omega | (simp only [Int32.lt_iff_toInt_lt, Int32.le_iff_toInt_le, Int32.reduceToInt, ← Int32.toInt_inj, true_and, and_true, or_true, true_or, false_or, or_false, false_and, and_false, not_true_eq_false, not_false_eq_true] <;> omega))
              simp only [Int32.reduceToInt] at h_191
              refine v_iinc hC dX12_isSaid_44 (k := 1) rfl (v := v_189) h_190 (by decide) (lv' := [(2, .int v_189), (1, .int 1), (0, .ref a_0)]) rfl ?_
              refine v_goto hC dX12_isSaid_47 (tgt := 15) (by decide) ?_
              refine v_pick [0, 1, 2] rfl ?_
              exact ih_172 v_189 (by first | omega | (simp only [Int32.lt_iff_toInt_lt, Int32.le_iff_toInt_le, Int32.reduceToInt, ← Int32.toInt_inj, true_and, and_true, or_true, true_or, false_or, or_false, false_and, and_false, not_true_eq_false, not_false_eq_true] <;> omega)) 1 (by decide) (by first | omega | (simp only [Int32.lt_iff_toInt_lt, Int32.le_iff_toInt_le, Int32.reduceToInt, ← Int32.toInt_inj, true_and, and_true, or_true, true_or, false_or, or_false, false_and, and_false, not_true_eq_false, not_false_eq_true] <;> omega)) (by first | omega | (simp only [Int32.lt_iff_toInt_lt, Int32.le_iff_toInt_le, Int32.reduceToInt, ← Int32.toInt_inj, true_and, and_true, or_true, true_or, false_or, or_false, false_and, and_false, not_true_eq_false, not_false_eq_true] <;> omega))
    refine v_pick [0, 1, 2] rfl ?_
    exact lp_170 102 0 (by decide) 1 (by decide) (by first | omega | (simp only [Int32.lt_iff_toInt_lt, Int32.le_iff_toInt_le, Int32.reduceToInt, ← Int32.toInt_inj, true_and, and_true, or_true, true_or, false_or, or_false, false_and, and_false, not_true_eq_false, not_false_eq_true] <;> omega)) (by decide)
set_option maxRecDepth 100000 in
set_option maxHeartbeats 4000000 in
theorem p_X12_carries {l : Launch} {E : Ez} {L : List Nat} {f : Nat → va_E} {T : Nat → va_E → Prop} {a_0 : Nat} {a_1 : Int32} {a_2 : Int32} {a_3 : Int32} {q : Nat → Nat} {g_w : Nat → Int32} (hW : WT T L f) (k_0 : isM T L E a_0 q) (e_w : f (q 1) = aI E 2076 g_w) (o_w : WOK g_w) : CI l yX12_carries cX12_carries 7 .int 6 0 0 E [.ref a_0, .int a_1, .int a_2, .int a_3] L f (fun r L1 f1 => L = L1 ∧ WT T L f1 ∧ FR [12, 108, 356] f f1 ∧ (¬ r.toInt = 0 ∨ (0 ≤ a_1.toInt ∧ a_1.toInt ≤ 5)) ∧ (¬ r.toInt = 0 ∨ (0 ≤ a_2.toInt ∧ a_2.toInt ≤ 2000000000)) ∧ (¬ r.toInt = 0 ∨ (1 ≤ a_3.toInt ∧ a_3.toInt ≤ 50))) := by
  refine ci_of (by decide) (Nat.le_of_ble_eq_true rfl) (fun z hz hnm hC hR => ?_)
  have hC : Cx z E cX12_carries RX12 7 6 0 0 := hC
  subst hz
  show V z E 7 0 0 L f 0 [(0, .ref a_0), (1, .int a_1), (2, .int a_2), (3, .int a_3)] []
  obtain ⟨m_1, t_2, k_3, k_4, k_5, k_6, k_7, k_8, k_9, k_10, k_11, k_12, k_13, k_14, k_15, k_16, k_17, k_18, k_19, k_20⟩ := id k_0
  obtain ⟨m_21, t_22⟩ := id k_3
  have b_23 := o_w.r0
  have b_24 := o_w.w0
  refine v_iload_n hC dX12_carries_0 rfl ?_
  refine v_si hC (rest := []) mt_X12_isWay (p_X12_isWay hW) mx_X12_isWay ml_X12_221 (by decide) rfl (cells1 := 0) (slots1 := 0) (by decide) (by decide) (Nat.le_of_ble_eq_true rfl) (Nat.le_of_ble_eq_true rfl) rfl (Nat.le_of_ble_eq_true rfl) dX12_carries_1 (fun r_25 L_26 f_27 h_28 => ?_)
  obtain ⟨rfl, rfl, b_29, h_30⟩ := h_28
  refine v_if_eq hC dX12_carries_4 (tgt := 26) (by decide) (fun h_33 => ?_) (fun h_33 => ?_)
  · simp only [Int32.lt_iff_toInt_lt, Int32.le_iff_toInt_le, Int32.reduceToInt, ← Int32.toInt_inj] at h_33
    refine v_bipush hC dX12_carries_26 (v := (-2)) (by decide) ?_
    exact hR _ _ _ _ _ _ _ dX12_carries_28 rfl (Nat.le_of_ble_eq_true rfl) (Nat.le_of_ble_eq_true rfl) ⟨rfl, hW, FR.rf, (.inl (by decide)), (.inl (by decide)), (.inl (by decide))⟩
  · simp only [Int32.lt_iff_toInt_lt, Int32.le_iff_toInt_le, Int32.reduceToInt, ← Int32.toInt_inj] at h_33
    refine v_iload_n hC dX12_carries_7 rfl ?_
    refine v_si hC (rest := []) mt_X12_isSeed (p_X12_isSeed hW) mx_X12_isSeed ml_X12_322 (by decide) rfl (cells1 := 0) (slots1 := 0) (by decide) (by decide) (Nat.le_of_ble_eq_true rfl) (Nat.le_of_ble_eq_true rfl) rfl (Nat.le_of_ble_eq_true rfl) dX12_carries_8 (fun r_34 L_35 f_36 h_37 => ?_)
    obtain ⟨rfl, rfl, b_38, h_39⟩ := h_37
    refine v_if_eq hC dX12_carries_11 (tgt := 26) (by decide) (fun h_42 => ?_) (fun h_42 => ?_)
    · simp only [Int32.lt_iff_toInt_lt, Int32.le_iff_toInt_le, Int32.reduceToInt, ← Int32.toInt_inj] at h_42
      refine v_bipush hC dX12_carries_26 (v := (-2)) (by decide) ?_
      exact hR _ _ _ _ _ _ _ dX12_carries_28 rfl (Nat.le_of_ble_eq_true rfl) (Nat.le_of_ble_eq_true rfl) ⟨rfl, hW, FR.rf, (.inl (by decide)), (.inl (by decide)), (.inl (by decide))⟩
    · simp only [Int32.lt_iff_toInt_lt, Int32.le_iff_toInt_le, Int32.reduceToInt, ← Int32.toInt_inj] at h_42
      refine v_iload_n hC dX12_carries_14 rfl ?_
      obtain ⟨v_43, h_44⟩ : ∃ v9 : Int64, a_3.toInt64 = v9 := ⟨_, rfl⟩
      refine v_i2l hC dX12_carries_15 h_44 ?_
      have h_45 : v_43.toInt = a_3.toInt := by rw [← h_44]; exact Int32.toInt_toInt64 _
      refine v_lconst hC dX12_carries_16 (v := 1) (by decide) ?_
      refine v_ldc2 hC kl_X12_408 dX12_carries_17 ?_
      refine v_si hC (rest := []) mt_X12_in (p_X12_in hW) mx_X12_in ml_X12_79 (by decide) rfl (cells1 := 0) (slots1 := 0) (by decide) (by decide) (Nat.le_of_ble_eq_true rfl) (Nat.le_of_ble_eq_true rfl) rfl (Nat.le_of_ble_eq_true rfl) dX12_carries_20 (fun r_46 L_47 f_48 h_49 => ?_)
      obtain ⟨rfl, rfl, b_50, x_51⟩ := h_49
      try simp only [Int32.reduceToInt, Int64.reduceToInt] at x_51
      refine v_if_ne hC dX12_carries_23 (tgt := 29) (by decide) (fun h_54 => ?_) (fun h_54 => ?_)
      · simp only [Int32.lt_iff_toInt_lt, Int32.le_iff_toInt_le, Int32.reduceToInt, ← Int32.toInt_inj] at h_54
        refine v_aload_n hC dX12_carries_29 rfl ?_
        obtain ⟨v_56, v_57, v_59, v_61, v_63, v_65, v_67, v_68, v_69, v_70, v_72, e_55, b_58, b_60, b_62, b_64, b_66, b_71, b_73⟩ := hW.at m_1 t_2
        refine v_vi hC (rest := []) m_1 e_55 rfl mi_X12_hasPattern ms_X12_hasPattern (p_X12_hasPattern hW k_0 e_w o_w) mx_X12_hasPattern ml_X12_325 (by decide) rfl (cells1 := 0) (slots1 := 0) (by decide) (by decide) (Nat.le_of_ble_eq_true rfl) (Nat.le_of_ble_eq_true rfl) rfl (Nat.le_of_ble_eq_true rfl) dX12_carries_30 (fun r_74 L_75 f_76 h_77 => ?_)
        obtain ⟨rfl, rfl, b_78, x_79⟩ := h_77
        try simp only [Int32.reduceToInt, Int64.reduceToInt] at x_79
        refine v_if_eq hC dX12_carries_33 (tgt := 44) (by decide) (fun h_82 => ?_) (fun h_82 => ?_)
        · simp only [Int32.lt_iff_toInt_lt, Int32.le_iff_toInt_le, Int32.reduceToInt, ← Int32.toInt_inj] at h_82
          refine v_bipush hC dX12_carries_44 (v := (-6)) (by decide) ?_
          exact hR _ _ _ _ _ _ _ dX12_carries_46 rfl (Nat.le_of_ble_eq_true rfl) (Nat.le_of_ble_eq_true rfl) ⟨rfl, hW, FR.rf, (.inl (by decide)), (.inl (by decide)), (.inl (by decide))⟩
        · simp only [Int32.lt_iff_toInt_lt, Int32.le_iff_toInt_le, Int32.reduceToInt, ← Int32.toInt_inj] at h_82
          refine v_aload_n hC dX12_carries_36 rfl ?_
          refine v_iload_n hC dX12_carries_37 rfl ?_
          refine v_vi hC (rest := []) m_1 e_55 rfl mi_X12_isTold ms_X12_isTold (p_X12_isTold hW k_0 (by first | omega | (simp only [Int32.lt_iff_toInt_lt, Int32.le_iff_toInt_le, Int32.reduceToInt, ← Int32.toInt_inj, true_and, and_true, or_true, true_or, false_or, or_false, false_and, and_false, not_true_eq_false, not_false_eq_true] <;> omega)) e_w o_w) mx_X12_isTold ml_X12_354 (by decide) rfl (cells1 := 0) (slots1 := 0) (by decide) (by decide) (Nat.le_of_ble_eq_true rfl) (Nat.le_of_ble_eq_true rfl) rfl (Nat.le_of_ble_eq_true rfl) dX12_carries_38 (fun r_83 L_84 f_85 h_86 => ?_)
          obtain ⟨rfl, rfl, b_87, x_88⟩ := h_86
          try simp only [Int32.reduceToInt, Int64.reduceToInt] at x_88
          refine v_if_ne hC dX12_carries_41 (tgt := 47) (by decide) (fun h_91 => ?_) (fun h_91 => ?_)
          · simp only [Int32.lt_iff_toInt_lt, Int32.le_iff_toInt_le, Int32.reduceToInt, ← Int32.toInt_inj] at h_91
            refine v_aload_n hC dX12_carries_47 rfl ?_
            refine v_vi hC (rest := []) m_1 e_55 rfl mi_X12_isSaid ms_X12_isSaid (p_X12_isSaid hW k_0 e_w o_w) mx_X12_isSaid ml_X12_410 (by decide) rfl (cells1 := 0) (slots1 := 0) (by decide) (by decide) (Nat.le_of_ble_eq_true rfl) (Nat.le_of_ble_eq_true rfl) rfl (Nat.le_of_ble_eq_true rfl) dX12_carries_48 (fun r_92 L_93 f_94 h_95 => ?_)
            obtain ⟨rfl, rfl, b_96, x_97⟩ := h_95
            have fe_100 : fld (f a_0) 20 = (v_72 : Int32).toInt := by rw [e_55]; rfl
            rw [fe_100] at x_97
            try simp only [Int32.reduceToInt, Int64.reduceToInt] at x_97
            refine v_if_ne hC dX12_carries_51 (tgt := 57) (by decide) (fun h_101 => ?_) (fun h_101 => ?_)
            · simp only [Int32.lt_iff_toInt_lt, Int32.le_iff_toInt_le, Int32.reduceToInt, ← Int32.toInt_inj] at h_101
              refine v_iconst hC dX12_carries_57 (v := 5) (by decide) ?_
              refine v_aload_n hC dX12_carries_58 rfl ?_
              refine v_get hC fl_X12_49 m_1 e_55 rfl dX12_carries_59 ?_
              refine v_iconst hC dX12_carries_62 (v := 1) (by decide) ?_
              obtain ⟨v_102, h_103⟩ : ∃ v9 : Int32, v_72 + 1 = v9 := ⟨_, rfl⟩
              refine v_iadd hC dX12_carries_63 h_103 ?_
              have h_104 := add_v h_103 (by first | omega | (simp only [Int32.lt_iff_toInt_lt, Int32.le_iff_toInt_le, Int32.reduceToInt, ← Int32.toInt_inj, true_and, and_true, or_true, true_or, false_or, or_false, false_and, and_false, not_true_eq_false, not_false_eq_true] <;> omega)) (by first | omega | (simp only [Int32.lt_iff_toInt_lt, Int32.le_iff_toInt_le, Int32.reduceToInt, ← Int32.toInt_inj, true_and, and_true, or_true, true_or, false_or, or_false, false_and, and_false, not_true_eq_false, not_false_eq_true] <;> omega))
              try simp only [Int32.reduceToInt] at h_104
              obtain ⟨v_105, h_106⟩ : ∃ v9 : Int32, (5 : Int32) * v_102 = v9 := ⟨_, rfl⟩
              refine v_imul hC dX12_carries_64 h_106 ?_
              have h_107 := mul_v 5 101 505 h_106 (by decide) (by first | omega | (simp only [Int32.lt_iff_toInt_lt, Int32.le_iff_toInt_le, Int32.reduceToInt, ← Int32.toInt_inj, true_and, and_true, or_true, true_or, false_or, or_false, false_and, and_false, not_true_eq_false, not_false_eq_true] <;> omega)) (by decide) (by decide)
              try simp only [Int32.reduceToInt] at h_107
              refine v_aload_n hC dX12_carries_65 rfl ?_
              refine v_iload_n hC dX12_carries_66 rfl ?_
              refine v_vi hC (rest := [.int v_105]) m_1 e_55 rfl mi_X12_roomOf ms_X12_roomOf (p_X12_roomOf hW k_0 (by first | omega | (simp only [Int32.lt_iff_toInt_lt, Int32.le_iff_toInt_le, Int32.reduceToInt, ← Int32.toInt_inj, true_and, and_true, or_true, true_or, false_or, or_false, false_and, and_false, not_true_eq_false, not_false_eq_true] <;> omega)) e_w o_w (by first | omega | (simp only [Int32.lt_iff_toInt_lt, Int32.le_iff_toInt_le, Int32.reduceToInt, ← Int32.toInt_inj, true_and, and_true, or_true, true_or, false_or, or_false, false_and, and_false, not_true_eq_false, not_false_eq_true] <;> omega))) mx_X12_roomOf ml_X12_241 (by decide) rfl (cells1 := 0) (slots1 := 0) (by decide) (by decide) (Nat.le_of_ble_eq_true rfl) (Nat.le_of_ble_eq_true rfl) rfl (Nat.le_of_ble_eq_true rfl) dX12_carries_67 (fun r_108 L_109 f_110 h_111 => ?_)
              obtain ⟨rfl, hW_116, hF_117, b_112, x_113, x_114, x_115⟩ := h_111
              have fe_118 : fld (f a_0) 20 = (v_72 : Int32).toInt := by rw [e_55]; rfl
              have hf_119 := hF_117.at e_w rfl
              rw [fe_118] at x_115
              obtain ⟨v_121, v_122, v_124, v_126, v_128, v_130, v_132, v_133, v_134, v_135, v_137, e_120, b_123, b_125, b_127, b_129, b_131, b_136, b_138⟩ := hW_116.at m_1 t_2
              have fe_139 : fld (f_110 a_0) 20 = (v_137 : Int32).toInt := by rw [e_120]; rfl
              rw [fe_139] at x_115
              try simp only [Int32.reduceToInt, Int64.reduceToInt] at x_113
              try simp only [Int32.reduceToInt, Int64.reduceToInt] at x_114
              try simp only [Int32.reduceToInt, Int64.reduceToInt] at x_115
              refine v_icmp_le hC dX12_carries_70 (tgt := 76) (by decide) (fun h_140 => ?_) (fun h_140 => ?_)
              · simp only [Int32.lt_iff_toInt_lt, Int32.le_iff_toInt_le, Int32.reduceToInt, ← Int32.toInt_inj] at h_140
                refine v_iconst hC dX12_carries_76 (v := 0) (by decide) ?_
                refine v_istore hC dX12_carries_77 (by decide) (lv' := [(4, .int 0), (0, .ref a_0), (1, .int a_1), (2, .int a_2), (3, .int a_3)]) rfl ?_
                refine v_iconst hC dX12_carries_79 (v := 0) (by decide) ?_
                refine v_istore hC dX12_carries_80 (by decide) (lv' := [(5, .int 0), (4, .int 0), (0, .ref a_0), (1, .int a_1), (2, .int a_2), (3, .int a_3)]) rfl ?_
                have lp_757 : ∀ (n_758 : Nat) (f_751 : Nat → va_E) (hW_752 : WT T L f_751) (hF_753 : FR [108, 356] f_110 f_751) (i_749 : Int32) (b_756 : (0 ≤ i_749.toInt ∧ i_749.toInt ≤ 50)) (i_750 : Int32) (hm_760 : 50 - i_749.toInt < (n_758 : Int)), V z E 7 0 0 L f_751 82 [(5, .int i_749), (4, .int i_750), (0, .ref a_0), (1, .int a_1), (2, .int a_2), (3, .int a_3)] [] := by
                  intro n_758
                  induction n_758 with
                  | zero =>
                    intro f_751 hW_752 hF_753 i_749 b_756 i_750 hm_760
                    have hf_754 := hF_753.at hf_119 rfl
                    have hf_755 := hF_753.at e_120 rfl
                    exfalso; omega
                  | succ n_758 ih_759 =>
                    intro f_751 hW_752 hF_753 i_749 b_756 i_750 hm_760
                    have hf_754 := hF_753.at hf_119 rfl
                    have hf_755 := hF_753.at e_120 rfl
                    refine v_iload hC dX12_carries_82 rfl ?_
                    refine v_iload_n hC dX12_carries_84 rfl ?_
                    refine v_icmp_ge hC dX12_carries_85 (tgt := 138) (by decide) (fun h_761 => ?_) (fun h_761 => ?_)
                    · simp only [Int32.lt_iff_toInt_lt, Int32.le_iff_toInt_le, Int32.reduceToInt, ← Int32.toInt_inj] at h_761
                      refine v_iload hC dX12_carries_138 rfl ?_
                      exact hR _ _ _ _ _ _ _ dX12_carries_140 rfl (Nat.le_of_ble_eq_true rfl) (Nat.le_of_ble_eq_true rfl) ⟨rfl, hW_752, ((hF_117.tr hF_753).mono rfl), (.inr (by first | omega | (simp only [Int32.lt_iff_toInt_lt, Int32.le_iff_toInt_le, Int32.reduceToInt, ← Int32.toInt_inj, true_and, and_true, or_true, true_or, false_or, or_false, false_and, and_false, not_true_eq_false, not_false_eq_true] <;> omega))), (.inr (by first | omega | (simp only [Int32.lt_iff_toInt_lt, Int32.le_iff_toInt_le, Int32.reduceToInt, ← Int32.toInt_inj, true_and, and_true, or_true, true_or, false_or, or_false, false_and, and_false, not_true_eq_false, not_false_eq_true] <;> omega))), (.inr (by first | omega | (simp only [Int32.lt_iff_toInt_lt, Int32.le_iff_toInt_le, Int32.reduceToInt, ← Int32.toInt_inj, true_and, and_true, or_true, true_or, false_or, or_false, false_and, and_false, not_true_eq_false, not_false_eq_true] <;> omega)))⟩
                    · simp only [Int32.lt_iff_toInt_lt, Int32.le_iff_toInt_le, Int32.reduceToInt, ← Int32.toInt_inj] at h_761
                      refine v_aload_n hC dX12_carries_88 rfl ?_
                      refine v_iload_n hC dX12_carries_89 rfl ?_
                      obtain ⟨v_762, h_763⟩ : ∃ v9 : Int64, a_2.toInt64 = v9 := ⟨_, rfl⟩
                      refine v_i2l hC dX12_carries_90 h_763 ?_
                      have h_764 : v_762.toInt = a_2.toInt := by rw [← h_763]; exact Int32.toInt_toInt64 _
                      refine v_iload hC dX12_carries_91 rfl ?_
                      obtain ⟨v_765, h_766⟩ : ∃ v9 : Int64, i_749.toInt64 = v9 := ⟨_, rfl⟩
                      refine v_i2l hC dX12_carries_93 h_766 ?_
                      have h_767 : v_765.toInt = i_749.toInt := by rw [← h_766]; exact Int32.toInt_toInt64 _
                      obtain ⟨v_768, h_769⟩ : ∃ v9 : Int64, v_762 + v_765 = v9 := ⟨_, rfl⟩
                      refine v_ladd hC dX12_carries_94 h_769 ?_
                      have h_770 := ladd_v h_769 h_763 h_766
                      refine v_vi hC (rest := []) m_1 hf_755 rfl mi_X12_knits ms_X12_knits (p_X12_knits hW_752 k_0 hf_754 o_w) mx_X12_knits ml_X12_328 (by decide) rfl (cells1 := 0) (slots1 := 0) (by decide) (by decide) (Nat.le_of_ble_eq_true rfl) (Nat.le_of_ble_eq_true rfl) rfl (Nat.le_of_ble_eq_true rfl) dX12_carries_95 (fun r_771 L_772 f_773 h_774 => ?_)
                      obtain ⟨rfl, hW_775, hF_776⟩ := h_774
                      have hf_777 := hF_776.at hf_754 rfl
                      have hf_778 := hF_776.at hf_755 rfl
                      refine v_aload_n hC dX12_carries_98 rfl ?_
                      refine v_iload_n hC dX12_carries_99 rfl ?_
                      refine v_aload_n hC dX12_carries_100 rfl ?_
                      refine v_get hC fl_X12_46 m_1 hf_778 rfl dX12_carries_101 ?_
                      refine v_aload_n hC dX12_carries_104 rfl ?_
                      refine v_get hC fl_X12_49 m_1 hf_778 rfl dX12_carries_105 ?_
                      refine v_vi hC (rest := [.int r_771]) m_1 hf_778 rfl mi_X12_puts ms_X12_puts (p_X12_puts hW_775 k_0 (by first | omega | (simp only [Int32.lt_iff_toInt_lt, Int32.le_iff_toInt_le, Int32.reduceToInt, ← Int32.toInt_inj, true_and, and_true, or_true, true_or, false_or, or_false, false_and, and_false, not_true_eq_false, not_false_eq_true] <;> omega)) k_12 (by first | omega | (simp only [Int32.lt_iff_toInt_lt, Int32.le_iff_toInt_le, Int32.reduceToInt, ← Int32.toInt_inj, true_and, and_true, or_true, true_or, false_or, or_false, false_and, and_false, not_true_eq_false, not_false_eq_true] <;> omega)) hf_777 o_w (by first | omega | (simp only [Int32.lt_iff_toInt_lt, Int32.le_iff_toInt_le, Int32.reduceToInt, ← Int32.toInt_inj, true_and, and_true, or_true, true_or, false_or, or_false, false_and, and_false, not_true_eq_false, not_false_eq_true] <;> omega)) (fun i9 p9 q9 => x_113 i9 p9 (by omega)) (by first | omega | (simp only [Int32.lt_iff_toInt_lt, Int32.le_iff_toInt_le, Int32.reduceToInt, ← Int32.toInt_inj, true_and, and_true, or_true, true_or, false_or, or_false, false_and, and_false, not_true_eq_false, not_false_eq_true] <;> omega))) mx_X12_puts ml_X12_366 (by decide) rfl (cells1 := 0) (slots1 := 0) (by decide) (by decide) (Nat.le_of_ble_eq_true rfl) (Nat.le_of_ble_eq_true rfl) rfl (Nat.le_of_ble_eq_true rfl) dX12_carries_108 (fun r_779 L_780 f_781 h_782 => ?_)
                      obtain ⟨rfl, hW_783, hF_784⟩ := h_782
                      have hf_785 := hF_784.at hf_777 rfl
                      have hf_786 := hF_784.at hf_778 rfl
                      obtain ⟨v_787, h_788⟩ : ∃ v9 : Int32, r_771 + r_779 = v9 := ⟨_, rfl⟩
                      refine v_iadd hC dX12_carries_111 h_788 ?_
                      refine v_istore hC dX12_carries_112 (by decide) (lv' := [(6, .int v_787), (5, .int i_749), (4, .int i_750), (0, .ref a_0), (1, .int a_1), (2, .int a_2), (3, .int a_3)]) rfl ?_
                      refine v_iload hC dX12_carries_114 rfl ?_
                      refine v_aload_n hC dX12_carries_116 rfl ?_
                      refine v_vi hC (rest := [.int i_750]) m_1 hf_786 rfl mi_X12_stopping ms_X12_stopping (p_X12_stopping hW_783 k_0 hf_785 o_w) mx_X12_stopping ml_X12_405 (by decide) rfl (cells1 := 0) (slots1 := 0) (by decide) (by decide) (Nat.le_of_ble_eq_true rfl) (Nat.le_of_ble_eq_true rfl) rfl (Nat.le_of_ble_eq_true rfl) dX12_carries_117 (fun r_790 L_791 f_792 h_793 => ?_)
                      obtain ⟨rfl, hW_795, hF_796, b_794⟩ := h_793
                      have hf_797 := hF_796.at hf_785 rfl
                      have hf_798 := hF_796.at hf_786 rfl
                      refine v_iconst hC dX12_carries_120 (v := (-1)) (by decide) ?_
                      refine v_icmp_ne hC dX12_carries_121 (tgt := 128) (by decide) (fun h_799 => ?_) (fun h_799 => ?_)
                      · simp only [Int32.lt_iff_toInt_lt, Int32.le_iff_toInt_le, Int32.reduceToInt, ← Int32.toInt_inj] at h_799
                        refine v_iconst hC dX12_carries_128 (v := 1) (by decide) ?_
                        obtain ⟨v_800, h_801⟩ : ∃ v9 : Int32, i_750 + 1 = v9 := ⟨_, rfl⟩
                        refine v_iadd hC dX12_carries_129 h_801 ?_
                        refine v_istore hC dX12_carries_130 (by decide) (lv' := [(4, .int v_800), (6, .int v_787), (5, .int i_749), (0, .ref a_0), (1, .int a_1), (2, .int a_2), (3, .int a_3)]) rfl ?_
                        obtain ⟨v_803, h_804⟩ : ∃ v9 : Int32, i_749 + Int32.ofInt 1 = v9 := ⟨_, rfl⟩
                        have h_805 := add_v (b := 1) h_804 (by first | omega | (simp only [Int32.lt_iff_toInt_lt, Int32.le_iff_toInt_le, Int32.reduceToInt, ← Int32.toInt_inj, true_and, and_true, or_true, true_or, false_or, or_false, false_and, and_false, not_true_eq_false, not_false_eq_true] <;> omega)) (by first | omega | (simp only [Int32.lt_iff_toInt_lt, Int32.le_iff_toInt_le, Int32.reduceToInt, ← Int32.toInt_inj, true_and, and_true, or_true, true_or, false_or, or_false, false_and, and_false, not_true_eq_false, not_false_eq_true] <;> omega))
                        simp only [Int32.reduceToInt] at h_805
                        refine v_iinc hC dX12_carries_132 (k := 2) rfl (v := v_803) h_804 (by decide) (lv' := [(5, .int v_803), (4, .int v_800), (6, .int v_787), (0, .ref a_0), (1, .int a_1), (2, .int a_2), (3, .int a_3)]) rfl ?_
                        refine v_goto hC dX12_carries_135 (tgt := 82) (by decide) ?_
                        refine v_pick [0, 1, 3, 4, 5, 6] rfl ?_
                        exact ih_759 f_792 hW_795 ((((hF_753.tr hF_776).tr hF_784).tr hF_796).mono rfl) v_803 (by first | omega | (simp only [Int32.lt_iff_toInt_lt, Int32.le_iff_toInt_le, Int32.reduceToInt, ← Int32.toInt_inj, true_and, and_true, or_true, true_or, false_or, or_false, false_and, and_false, not_true_eq_false, not_false_eq_true] <;> omega)) v_800 (by first | omega | (simp only [Int32.lt_iff_toInt_lt, Int32.le_iff_toInt_le, Int32.reduceToInt, ← Int32.toInt_inj, true_and, and_true, or_true, true_or, false_or, or_false, false_and, and_false, not_true_eq_false, not_false_eq_true] <;> omega))
                      · simp only [Int32.lt_iff_toInt_lt, Int32.le_iff_toInt_le, Int32.reduceToInt, ← Int32.toInt_inj] at h_799
                        refine v_iconst hC dX12_carries_124 (v := 0) (by decide) ?_
                        refine v_goto hC dX12_carries_125 (tgt := 129) (by decide) ?_
                        obtain ⟨v_806, h_807⟩ : ∃ v9 : Int32, i_750 + 0 = v9 := ⟨_, rfl⟩
                        refine v_iadd hC dX12_carries_129 h_807 ?_
                        have rg_809 := Int32.toInt_lt i_750
                        have rg_810 := Int32.le_toInt i_750
                        have h_808 := add_v h_807 (by first | omega | (simp only [Int32.lt_iff_toInt_lt, Int32.le_iff_toInt_le, Int32.reduceToInt, ← Int32.toInt_inj, true_and, and_true, or_true, true_or, false_or, or_false, false_and, and_false, not_true_eq_false, not_false_eq_true] <;> omega)) (by first | omega | (simp only [Int32.lt_iff_toInt_lt, Int32.le_iff_toInt_le, Int32.reduceToInt, ← Int32.toInt_inj, true_and, and_true, or_true, true_or, false_or, or_false, false_and, and_false, not_true_eq_false, not_false_eq_true] <;> omega))
                        try simp only [Int32.reduceToInt] at h_808
                        refine v_istore hC dX12_carries_130 (by decide) (lv' := [(4, .int v_806), (6, .int v_787), (5, .int i_749), (0, .ref a_0), (1, .int a_1), (2, .int a_2), (3, .int a_3)]) rfl ?_
                        obtain ⟨v_811, h_812⟩ : ∃ v9 : Int32, i_749 + Int32.ofInt 1 = v9 := ⟨_, rfl⟩
                        have h_813 := add_v (b := 1) h_812 (by first | omega | (simp only [Int32.lt_iff_toInt_lt, Int32.le_iff_toInt_le, Int32.reduceToInt, ← Int32.toInt_inj, true_and, and_true, or_true, true_or, false_or, or_false, false_and, and_false, not_true_eq_false, not_false_eq_true] <;> omega)) (by first | omega | (simp only [Int32.lt_iff_toInt_lt, Int32.le_iff_toInt_le, Int32.reduceToInt, ← Int32.toInt_inj, true_and, and_true, or_true, true_or, false_or, or_false, false_and, and_false, not_true_eq_false, not_false_eq_true] <;> omega))
                        simp only [Int32.reduceToInt] at h_813
                        refine v_iinc hC dX12_carries_132 (k := 2) rfl (v := v_811) h_812 (by decide) (lv' := [(5, .int v_811), (4, .int v_806), (6, .int v_787), (0, .ref a_0), (1, .int a_1), (2, .int a_2), (3, .int a_3)]) rfl ?_
                        refine v_goto hC dX12_carries_135 (tgt := 82) (by decide) ?_
                        refine v_pick [0, 1, 3, 4, 5, 6] rfl ?_
                        exact ih_759 f_792 hW_795 ((((hF_753.tr hF_776).tr hF_784).tr hF_796).mono rfl) v_811 (by first | omega | (simp only [Int32.lt_iff_toInt_lt, Int32.le_iff_toInt_le, Int32.reduceToInt, ← Int32.toInt_inj, true_and, and_true, or_true, true_or, false_or, or_false, false_and, and_false, not_true_eq_false, not_false_eq_true] <;> omega)) v_806 (by first | omega | (simp only [Int32.lt_iff_toInt_lt, Int32.le_iff_toInt_le, Int32.reduceToInt, ← Int32.toInt_inj, true_and, and_true, or_true, true_or, false_or, or_false, false_and, and_false, not_true_eq_false, not_false_eq_true] <;> omega))
                refine v_pick [0, 1, 2, 3, 4, 5] rfl ?_
                exact lp_757 52 f_110 hW_116 FR.rf 0 (by decide) 0 (by decide)
              · simp only [Int32.lt_iff_toInt_lt, Int32.le_iff_toInt_le, Int32.reduceToInt, ← Int32.toInt_inj] at h_140
                refine v_bipush hC dX12_carries_73 (v := (-3)) (by decide) ?_
                exact hR _ _ _ _ _ _ _ dX12_carries_75 rfl (Nat.le_of_ble_eq_true rfl) (Nat.le_of_ble_eq_true rfl) ⟨rfl, hW_116, (hF_117.mono rfl), (.inl (by decide)), (.inl (by decide)), (.inl (by decide))⟩
            · simp only [Int32.lt_iff_toInt_lt, Int32.le_iff_toInt_le, Int32.reduceToInt, ← Int32.toInt_inj] at h_101
              refine v_bipush hC dX12_carries_54 (v := (-5)) (by decide) ?_
              exact hR _ _ _ _ _ _ _ dX12_carries_56 rfl (Nat.le_of_ble_eq_true rfl) (Nat.le_of_ble_eq_true rfl) ⟨rfl, hW, FR.rf, (.inl (by decide)), (.inl (by decide)), (.inl (by decide))⟩
          · simp only [Int32.lt_iff_toInt_lt, Int32.le_iff_toInt_le, Int32.reduceToInt, ← Int32.toInt_inj] at h_91
            refine v_bipush hC dX12_carries_44 (v := (-6)) (by decide) ?_
            exact hR _ _ _ _ _ _ _ dX12_carries_46 rfl (Nat.le_of_ble_eq_true rfl) (Nat.le_of_ble_eq_true rfl) ⟨rfl, hW, FR.rf, (.inl (by decide)), (.inl (by decide)), (.inl (by decide))⟩
      · simp only [Int32.lt_iff_toInt_lt, Int32.le_iff_toInt_le, Int32.reduceToInt, ← Int32.toInt_inj] at h_54
        refine v_bipush hC dX12_carries_26 (v := (-2)) (by decide) ?_
        exact hR _ _ _ _ _ _ _ dX12_carries_28 rfl (Nat.le_of_ble_eq_true rfl) (Nat.le_of_ble_eq_true rfl) ⟨rfl, hW, FR.rf, (.inl (by decide)), (.inl (by decide)), (.inl (by decide))⟩
set_option maxRecDepth 100000 in
set_option maxHeartbeats 4000000 in
theorem p_X12_suffers {l : Launch} {E : Ez} {L : List Nat} {f : Nat → va_E} {T : Nat → va_E → Prop} {a_0 : Nat} {q : Nat → Nat} {g_w : Nat → Int32} (hW : WT T L f) (k_0 : isM T L E a_0 q) (e_w : f (q 1) = aI E 2076 g_w) (o_w : WOK g_w) : CV l yX12_suffers cX12_suffers 7 2 0 0 E [.ref a_0] L f (fun L1 f1 => L = L1 ∧ WT T L f1 ∧ FR [356] f f1) := by
  refine cv_of (by decide) (Nat.le_of_ble_eq_true rfl) (fun z hz hnm hC hR => ?_)
  have hC : Cx z E cX12_suffers RX12 7 2 0 0 := hC
  subst hz
  show V z E 7 0 0 L f 0 [(0, .ref a_0)] []
  obtain ⟨m_1, t_2, k_3, k_4, k_5, k_6, k_7, k_8, k_9, k_10, k_11, k_12, k_13, k_14, k_15, k_16, k_17, k_18, k_19, k_20⟩ := id k_0
  obtain ⟨m_21, t_22⟩ := id k_3
  have b_23 := o_w.r0
  have b_24 := o_w.w0
  have ls_1 := o_w.los.1
  refine v_iconst hC dX12_suffers_0 (v := 0) (by decide) ?_
  refine v_istore_n hC dX12_suffers_1 (by decide) (lv' := [(1, .int 0), (0, .ref a_0)]) rfl ?_
  have lp_4405 : ∀ (n_4406 : Nat) (f_4400 : Nat → va_E) (hW_4401 : WT T L f_4400) (hF_4402 : FR [356] f f_4400) (i_4399 : Int32) (b_4404 : (0 ≤ i_4399.toInt ∧ i_4399.toInt ≤ 12)) (hm_4408 : 12 - i_4399.toInt < (n_4406 : Int)), V z E 7 0 0 L f_4400 2 [(1, .int i_4399), (0, .ref a_0)] [] := by
    intro n_4406
    induction n_4406 with
    | zero =>
      intro f_4400 hW_4401 hF_4402 i_4399 b_4404 hm_4408
      have hf_4403 := hF_4402.at e_w rfl
      exfalso; omega
    | succ n_4406 ih_4407 =>
      intro f_4400 hW_4401 hF_4402 i_4399 b_4404 hm_4408
      have hf_4403 := hF_4402.at e_w rfl
      refine v_iload_n hC dX12_suffers_2 rfl ?_
      refine v_aload_n hC dX12_suffers_3 rfl ?_
      obtain ⟨v_4410, v_4411, v_4413, v_4415, v_4417, v_4419, v_4421, v_4422, v_4423, v_4424, v_4426, e_4409, b_4412, b_4414, b_4416, b_4418, b_4420, b_4425, b_4427⟩ := hW_4401.at m_1 t_2
      refine v_get hC fl_X12_13 m_1 e_4409 rfl dX12_suffers_4 ?_
      refine v_bipush hC dX12_suffers_7 (v := 6) (by decide) ?_
      refine v_iald hC m_21 hf_4403 (vp_in_iff.mpr (by decide)) (v := g_w 6) rfl dX12_suffers_9 ?_
      refine v_icmp_ge hC dX12_suffers_10 (tgt := 194) (by decide) (fun h_4428 => ?_) (fun h_4428 => ?_)
      · simp only [Int32.lt_iff_toInt_lt, Int32.le_iff_toInt_le, Int32.reduceToInt, ← Int32.toInt_inj] at h_4428
        exact hR _ _ _ _ _ _ dX12_suffers_194 (Nat.le_of_ble_eq_true rfl) (Nat.le_of_ble_eq_true rfl) ⟨rfl, hW_4401, (hF_4402.mono rfl)⟩
      · simp only [Int32.lt_iff_toInt_lt, Int32.le_iff_toInt_le, Int32.reduceToInt, ← Int32.toInt_inj] at h_4428
        refine v_aload_n hC dX12_suffers_13 rfl ?_
        refine v_get hC fl_X12_13 m_1 e_4409 rfl dX12_suffers_14 ?_
        refine v_sipush hC dX12_suffers_17 (v := 1012) (by decide) ?_
        refine v_iconst hC dX12_suffers_20 (v := 3) (by decide) ?_
        refine v_iload_n hC dX12_suffers_21 rfl ?_
        obtain ⟨v_4429, h_4430⟩ : ∃ v9 : Int32, (3 : Int32) * i_4399 = v9 := ⟨_, rfl⟩
        refine v_imul hC dX12_suffers_22 h_4430 ?_
        have h_4431 := mul_v 3 11 33 h_4430 (by decide) (by first | omega | (simp only [Int32.lt_iff_toInt_lt, Int32.le_iff_toInt_le, Int32.reduceToInt, ← Int32.toInt_inj, true_and, and_true, or_true, true_or, false_or, or_false, false_and, and_false, not_true_eq_false, not_false_eq_true] <;> omega)) (by decide) (by decide)
        try simp only [Int32.reduceToInt] at h_4431
        obtain ⟨v_4432, h_4433⟩ : ∃ v9 : Int32, (1012 : Int32) + v_4429 = v9 := ⟨_, rfl⟩
        refine v_iadd hC dX12_suffers_23 h_4433 ?_
        have h_4434 := add_v h_4433 (by first | omega | (simp only [Int32.lt_iff_toInt_lt, Int32.le_iff_toInt_le, Int32.reduceToInt, ← Int32.toInt_inj, true_and, and_true, or_true, true_or, false_or, or_false, false_and, and_false, not_true_eq_false, not_false_eq_true] <;> omega)) (by first | omega | (simp only [Int32.lt_iff_toInt_lt, Int32.le_iff_toInt_le, Int32.reduceToInt, ← Int32.toInt_inj, true_and, and_true, or_true, true_or, false_or, or_false, false_and, and_false, not_true_eq_false, not_false_eq_true] <;> omega))
        try simp only [Int32.reduceToInt] at h_4434
        obtain ⟨v_4435, h_4436⟩ : ∃ v9 : Int32, g_w (v_4432 : Int32).toNatClampNeg = v9 := ⟨_, rfl⟩
        refine v_iald hC m_21 hf_4403 (vp_in_iff.mpr (by first | omega | (simp only [Int32.lt_iff_toInt_lt, Int32.le_iff_toInt_le, Int32.reduceToInt, ← Int32.toInt_inj, true_and, and_true, or_true, true_or, false_or, or_false, false_and, and_false, not_true_eq_false, not_false_eq_true] <;> omega))) h_4436 dX12_suffers_24 ?_
        refine v_istore_n hC dX12_suffers_25 (by decide) (lv' := [(2, .int v_4435), (1, .int i_4399), (0, .ref a_0)]) rfl ?_
        refine v_aload_n hC dX12_suffers_26 rfl ?_
        refine v_get hC fl_X12_13 m_1 e_4409 rfl dX12_suffers_27 ?_
        refine v_sipush hC dX12_suffers_30 (v := 1012) (by decide) ?_
        refine v_iconst hC dX12_suffers_33 (v := 3) (by decide) ?_
        refine v_iload_n hC dX12_suffers_34 rfl ?_
        obtain ⟨v_4437, h_4438⟩ : ∃ v9 : Int32, (3 : Int32) * i_4399 = v9 := ⟨_, rfl⟩
        refine v_imul hC dX12_suffers_35 h_4438 ?_
        have h_4439 := mul_v 3 11 33 h_4438 (by decide) (by first | omega | (simp only [Int32.lt_iff_toInt_lt, Int32.le_iff_toInt_le, Int32.reduceToInt, ← Int32.toInt_inj, true_and, and_true, or_true, true_or, false_or, or_false, false_and, and_false, not_true_eq_false, not_false_eq_true] <;> omega)) (by decide) (by decide)
        try simp only [Int32.reduceToInt] at h_4439
        obtain ⟨v_4440, h_4441⟩ : ∃ v9 : Int32, (1012 : Int32) + v_4437 = v9 := ⟨_, rfl⟩
        refine v_iadd hC dX12_suffers_36 h_4441 ?_
        have h_4442 := add_v h_4441 (by first | omega | (simp only [Int32.lt_iff_toInt_lt, Int32.le_iff_toInt_le, Int32.reduceToInt, ← Int32.toInt_inj, true_and, and_true, or_true, true_or, false_or, or_false, false_and, and_false, not_true_eq_false, not_false_eq_true] <;> omega)) (by first | omega | (simp only [Int32.lt_iff_toInt_lt, Int32.le_iff_toInt_le, Int32.reduceToInt, ← Int32.toInt_inj, true_and, and_true, or_true, true_or, false_or, or_false, false_and, and_false, not_true_eq_false, not_false_eq_true] <;> omega))
        try simp only [Int32.reduceToInt] at h_4442
        refine v_iconst hC dX12_suffers_37 (v := 1) (by decide) ?_
        obtain ⟨v_4443, h_4444⟩ : ∃ v9 : Int32, v_4440 + 1 = v9 := ⟨_, rfl⟩
        refine v_iadd hC dX12_suffers_38 h_4444 ?_
        have h_4445 := add_v h_4444 (by first | omega | (simp only [Int32.lt_iff_toInt_lt, Int32.le_iff_toInt_le, Int32.reduceToInt, ← Int32.toInt_inj, true_and, and_true, or_true, true_or, false_or, or_false, false_and, and_false, not_true_eq_false, not_false_eq_true] <;> omega)) (by first | omega | (simp only [Int32.lt_iff_toInt_lt, Int32.le_iff_toInt_le, Int32.reduceToInt, ← Int32.toInt_inj, true_and, and_true, or_true, true_or, false_or, or_false, false_and, and_false, not_true_eq_false, not_false_eq_true] <;> omega))
        try simp only [Int32.reduceToInt] at h_4445
        obtain ⟨v_4446, h_4447⟩ : ∃ v9 : Int32, g_w (v_4443 : Int32).toNatClampNeg = v9 := ⟨_, rfl⟩
        refine v_iald hC m_21 hf_4403 (vp_in_iff.mpr (by first | omega | (simp only [Int32.lt_iff_toInt_lt, Int32.le_iff_toInt_le, Int32.reduceToInt, ← Int32.toInt_inj, true_and, and_true, or_true, true_or, false_or, or_false, false_and, and_false, not_true_eq_false, not_false_eq_true] <;> omega))) h_4447 dX12_suffers_39 ?_
        have b_4448 := los_at o_w (i := v_4432) (i2 := v_4443) (l := i_4399) (by omega) (by omega) (by omega) (by omega)
        rw [h_4436, h_4447] at b_4448
        refine v_istore_n hC dX12_suffers_40 (by decide) (lv' := [(3, .int v_4446), (2, .int v_4435), (1, .int i_4399), (0, .ref a_0)]) rfl ?_
        refine v_aload_n hC dX12_suffers_41 rfl ?_
        refine v_get hC fl_X12_13 m_1 e_4409 rfl dX12_suffers_42 ?_
        refine v_sipush hC dX12_suffers_45 (v := 1012) (by decide) ?_
        refine v_iconst hC dX12_suffers_48 (v := 3) (by decide) ?_
        refine v_iload_n hC dX12_suffers_49 rfl ?_
        obtain ⟨v_4449, h_4450⟩ : ∃ v9 : Int32, (3 : Int32) * i_4399 = v9 := ⟨_, rfl⟩
        refine v_imul hC dX12_suffers_50 h_4450 ?_
        have h_4451 := mul_v 3 11 33 h_4450 (by decide) (by first | omega | (simp only [Int32.lt_iff_toInt_lt, Int32.le_iff_toInt_le, Int32.reduceToInt, ← Int32.toInt_inj, true_and, and_true, or_true, true_or, false_or, or_false, false_and, and_false, not_true_eq_false, not_false_eq_true] <;> omega)) (by decide) (by decide)
        try simp only [Int32.reduceToInt] at h_4451
        obtain ⟨v_4452, h_4453⟩ : ∃ v9 : Int32, (1012 : Int32) + v_4449 = v9 := ⟨_, rfl⟩
        refine v_iadd hC dX12_suffers_51 h_4453 ?_
        have h_4454 := add_v h_4453 (by first | omega | (simp only [Int32.lt_iff_toInt_lt, Int32.le_iff_toInt_le, Int32.reduceToInt, ← Int32.toInt_inj, true_and, and_true, or_true, true_or, false_or, or_false, false_and, and_false, not_true_eq_false, not_false_eq_true] <;> omega)) (by first | omega | (simp only [Int32.lt_iff_toInt_lt, Int32.le_iff_toInt_le, Int32.reduceToInt, ← Int32.toInt_inj, true_and, and_true, or_true, true_or, false_or, or_false, false_and, and_false, not_true_eq_false, not_false_eq_true] <;> omega))
        try simp only [Int32.reduceToInt] at h_4454
        refine v_iconst hC dX12_suffers_52 (v := 2) (by decide) ?_
        obtain ⟨v_4455, h_4456⟩ : ∃ v9 : Int32, v_4452 + 2 = v9 := ⟨_, rfl⟩
        refine v_iadd hC dX12_suffers_53 h_4456 ?_
        have h_4457 := add_v h_4456 (by first | omega | (simp only [Int32.lt_iff_toInt_lt, Int32.le_iff_toInt_le, Int32.reduceToInt, ← Int32.toInt_inj, true_and, and_true, or_true, true_or, false_or, or_false, false_and, and_false, not_true_eq_false, not_false_eq_true] <;> omega)) (by first | omega | (simp only [Int32.lt_iff_toInt_lt, Int32.le_iff_toInt_le, Int32.reduceToInt, ← Int32.toInt_inj, true_and, and_true, or_true, true_or, false_or, or_false, false_and, and_false, not_true_eq_false, not_false_eq_true] <;> omega))
        try simp only [Int32.reduceToInt] at h_4457
        obtain ⟨v_4458, h_4459⟩ : ∃ v9 : Int32, g_w (v_4455 : Int32).toNatClampNeg = v9 := ⟨_, rfl⟩
        refine v_iald hC m_21 hf_4403 (vp_in_iff.mpr (by first | omega | (simp only [Int32.lt_iff_toInt_lt, Int32.le_iff_toInt_le, Int32.reduceToInt, ← Int32.toInt_inj, true_and, and_true, or_true, true_or, false_or, or_false, false_and, and_false, not_true_eq_false, not_false_eq_true] <;> omega))) h_4459 dX12_suffers_54 ?_
        refine v_istore hC dX12_suffers_55 (by decide) (lv' := [(4, .int v_4458), (3, .int v_4446), (2, .int v_4435), (1, .int i_4399), (0, .ref a_0)]) rfl ?_
        refine v_iconst hC dX12_suffers_57 (v := 0) (by decide) ?_
        refine v_istore hC dX12_suffers_58 (by decide) (lv' := [(5, .int 0), (4, .int v_4458), (3, .int v_4446), (2, .int v_4435), (1, .int i_4399), (0, .ref a_0)]) rfl ?_
        have lp_5293 : ∀ (n_5294 : Nat) (f_5287 : Nat → va_E) (hW_5288 : WT T L f_5287) (hF_5289 : FR [356] f_4400 f_5287) (i_5286 : Int32) (b_5292 : (0 ≤ i_5286.toInt ∧ i_5286.toInt ≤ 256)) (hm_5296 : 256 - i_5286.toInt < (n_5294 : Int)), V z E 7 0 0 L f_5287 60 [(5, .int i_5286), (4, .int v_4458), (3, .int v_4446), (2, .int v_4435), (1, .int i_4399), (0, .ref a_0)] [] := by
          intro n_5294
          induction n_5294 with
          | zero =>
            intro f_5287 hW_5288 hF_5289 i_5286 b_5292 hm_5296
            have hf_5290 := hF_5289.at hf_4403 rfl
            have hf_5291 := hF_5289.at e_4409 rfl
            exfalso; omega
          | succ n_5294 ih_5295 =>
            intro f_5287 hW_5288 hF_5289 i_5286 b_5292 hm_5296
            have hf_5290 := hF_5289.at hf_4403 rfl
            have hf_5291 := hF_5289.at e_4409 rfl
            refine v_iload hC dX12_suffers_60 rfl ?_
            refine v_aload_n hC dX12_suffers_62 rfl ?_
            refine v_vi hC (rest := [.int i_5286]) m_1 hf_5291 rfl mi_X12_area ms_X12_area (p_X12_area hW_5288 k_0 hf_5290 o_w) mx_X12_area ml_X12_203 (by decide) rfl (cells1 := 0) (slots1 := 0) (by decide) (by decide) (Nat.le_of_ble_eq_true rfl) (Nat.le_of_ble_eq_true rfl) rfl (Nat.le_of_ble_eq_true rfl) dX12_suffers_63 (fun r_5297 L_5298 f_5299 h_5300 => ?_)
            obtain ⟨rfl, rfl, rfl⟩ := h_5300
            have ar_5303 := area_v o_w
            refine v_icmp_ge hC dX12_suffers_66 (tgt := 188) (by decide) (fun h_5304 => ?_) (fun h_5304 => ?_)
            · simp only [Int32.lt_iff_toInt_lt, Int32.le_iff_toInt_le, Int32.reduceToInt, ← Int32.toInt_inj] at h_5304
              obtain ⟨v_5305, h_5306⟩ : ∃ v9 : Int32, i_4399 + Int32.ofInt 1 = v9 := ⟨_, rfl⟩
              have h_5307 := add_v (b := 1) h_5306 (by first | omega | (simp only [Int32.lt_iff_toInt_lt, Int32.le_iff_toInt_le, Int32.reduceToInt, ← Int32.toInt_inj, true_and, and_true, or_true, true_or, false_or, or_false, false_and, and_false, not_true_eq_false, not_false_eq_true] <;> omega)) (by first | omega | (simp only [Int32.lt_iff_toInt_lt, Int32.le_iff_toInt_le, Int32.reduceToInt, ← Int32.toInt_inj, true_and, and_true, or_true, true_or, false_or, or_false, false_and, and_false, not_true_eq_false, not_false_eq_true] <;> omega))
              simp only [Int32.reduceToInt] at h_5307
              refine v_iinc hC dX12_suffers_188 (k := 4) rfl (v := v_5305) h_5306 (by decide) (lv' := [(1, .int v_5305), (5, .int i_5286), (4, .int v_4458), (3, .int v_4446), (2, .int v_4435), (0, .ref a_0)]) rfl ?_
              refine v_goto hC dX12_suffers_191 (tgt := 2) (by decide) ?_
              refine v_pick [0, 5] rfl ?_
              exact ih_4407 f_5287 hW_5288 ((hF_4402.tr hF_5289).mono rfl) v_5305 (by first | omega | (simp only [Int32.lt_iff_toInt_lt, Int32.le_iff_toInt_le, Int32.reduceToInt, ← Int32.toInt_inj, true_and, and_true, or_true, true_or, false_or, or_false, false_and, and_false, not_true_eq_false, not_false_eq_true] <;> omega)) (by first | omega | (simp only [Int32.lt_iff_toInt_lt, Int32.le_iff_toInt_le, Int32.reduceToInt, ← Int32.toInt_inj, true_and, and_true, or_true, true_or, false_or, or_false, false_and, and_false, not_true_eq_false, not_false_eq_true] <;> omega))
            · simp only [Int32.lt_iff_toInt_lt, Int32.le_iff_toInt_le, Int32.reduceToInt, ← Int32.toInt_inj] at h_5304
              have pq_5308 : 1 ≤ (g_w 0).toInt ∧ 1 ≤ (g_w 1).toInt := by omega
              refine v_iload_n hC dX12_suffers_69 rfl ?_
              have jn_5374 : ∀ (v_5375 : Int32) (b_5376 : (0 ≤ v_5375.toInt ∧ v_5375.toInt ≤ 1)), V z E 7 0 0 L f_5287 143 [(5, .int i_5286), (4, .int v_4458), (3, .int v_4446), (2, .int v_4435), (1, .int i_4399), (0, .ref a_0)] [.int v_5375] := by
                intro v_5375 b_5376
                refine v_istore hC dX12_suffers_143 (by decide) (lv' := [(6, .int v_5375), (5, .int i_5286), (4, .int v_4458), (3, .int v_4446), (2, .int v_4435), (1, .int i_4399), (0, .ref a_0)]) rfl ?_
                refine v_iload hC dX12_suffers_145 rfl ?_
                have jn_5390 : ∀ (f_5391 : Nat → va_E) (hW_5392 : WT T L f_5391) (hF_5393 : FR [356] f_5287 f_5391) , V z E 7 0 0 L f_5391 158 [(5, .int i_5286), (4, .int v_4458), (3, .int v_4446), (2, .int v_4435), (1, .int i_4399), (0, .ref a_0)] [] := by
                  intro f_5391 hW_5392 hF_5393
                  have hf_5394 := hF_5393.at hf_5290 rfl
                  have hf_5395 := hF_5393.at hf_5291 rfl
                  refine v_iload_n hC dX12_suffers_158 rfl ?_
                  refine v_iconst hC dX12_suffers_159 (v := 3) (by decide) ?_
                  refine v_icmp_ne hC dX12_suffers_160 (tgt := 182) (by decide) (fun h_5396 => ?_) (fun h_5396 => ?_)
                  · simp only [Int32.lt_iff_toInt_lt, Int32.le_iff_toInt_le, Int32.reduceToInt, ← Int32.toInt_inj] at h_5396
                    obtain ⟨v_5397, h_5398⟩ : ∃ v9 : Int32, i_5286 + Int32.ofInt 1 = v9 := ⟨_, rfl⟩
                    have h_5399 := add_v (b := 1) h_5398 (by first | omega | (simp only [Int32.lt_iff_toInt_lt, Int32.le_iff_toInt_le, Int32.reduceToInt, ← Int32.toInt_inj, true_and, and_true, or_true, true_or, false_or, or_false, false_and, and_false, not_true_eq_false, not_false_eq_true] <;> omega)) (by first | omega | (simp only [Int32.lt_iff_toInt_lt, Int32.le_iff_toInt_le, Int32.reduceToInt, ← Int32.toInt_inj, true_and, and_true, or_true, true_or, false_or, or_false, false_and, and_false, not_true_eq_false, not_false_eq_true] <;> omega))
                    simp only [Int32.reduceToInt] at h_5399
                    refine v_iinc hC dX12_suffers_182 (k := 0) rfl (v := v_5397) h_5398 (by decide) (lv' := [(5, .int v_5397), (4, .int v_4458), (3, .int v_4446), (2, .int v_4435), (1, .int i_4399), (0, .ref a_0)]) rfl ?_
                    refine v_goto hC dX12_suffers_185 (tgt := 60) (by decide) ?_
                    refine v_pick [0, 1, 2, 3, 4, 5] rfl ?_
                    exact ih_5295 f_5391 hW_5392 ((hF_5289.tr hF_5393).mono rfl) v_5397 (by first | omega | (simp only [Int32.lt_iff_toInt_lt, Int32.le_iff_toInt_le, Int32.reduceToInt, ← Int32.toInt_inj, true_and, and_true, or_true, true_or, false_or, or_false, false_and, and_false, not_true_eq_false, not_false_eq_true] <;> omega)) (by first | omega | (simp only [Int32.lt_iff_toInt_lt, Int32.le_iff_toInt_le, Int32.reduceToInt, ← Int32.toInt_inj, true_and, and_true, or_true, true_or, false_or, or_false, false_and, and_false, not_true_eq_false, not_false_eq_true] <;> omega))
                  · simp only [Int32.lt_iff_toInt_lt, Int32.le_iff_toInt_le, Int32.reduceToInt, ← Int32.toInt_inj] at h_5396
                    refine v_aload_n hC dX12_suffers_163 rfl ?_
                    refine v_get hC fl_X12_37 m_1 hf_5395 rfl dX12_suffers_164 ?_
                    refine v_iload hC dX12_suffers_167 rfl ?_
                    obtain ⟨m_5400, t_5401⟩ := id k_9
                    obtain ⟨g_5403, e_5402⟩ := hW_5392.at m_5400 t_5401
                    obtain ⟨v_5404, h_5405⟩ : ∃ v9 : Int32, g_5403 (i_5286 : Int32).toNatClampNeg = v9 := ⟨_, rfl⟩
                    refine v_iald hC m_5400 e_5402 (vp_in_iff.mpr (by first | omega | (simp only [Int32.lt_iff_toInt_lt, Int32.le_iff_toInt_le, Int32.reduceToInt, ← Int32.toInt_inj, true_and, and_true, or_true, true_or, false_or, or_false, false_and, and_false, not_true_eq_false, not_false_eq_true] <;> omega))) h_5405 dX12_suffers_169 ?_
                    refine v_iconst hC dX12_suffers_170 (v := 2) (by decide) ?_
                    refine v_icmp_ne hC dX12_suffers_171 (tgt := 182) (by decide) (fun h_5406 => ?_) (fun h_5406 => ?_)
                    · simp only [Int32.lt_iff_toInt_lt, Int32.le_iff_toInt_le, Int32.reduceToInt, ← Int32.toInt_inj] at h_5406
                      obtain ⟨v_5407, h_5408⟩ : ∃ v9 : Int32, i_5286 + Int32.ofInt 1 = v9 := ⟨_, rfl⟩
                      have h_5409 := add_v (b := 1) h_5408 (by first | omega | (simp only [Int32.lt_iff_toInt_lt, Int32.le_iff_toInt_le, Int32.reduceToInt, ← Int32.toInt_inj, true_and, and_true, or_true, true_or, false_or, or_false, false_and, and_false, not_true_eq_false, not_false_eq_true] <;> omega)) (by first | omega | (simp only [Int32.lt_iff_toInt_lt, Int32.le_iff_toInt_le, Int32.reduceToInt, ← Int32.toInt_inj, true_and, and_true, or_true, true_or, false_or, or_false, false_and, and_false, not_true_eq_false, not_false_eq_true] <;> omega))
                      simp only [Int32.reduceToInt] at h_5409
                      refine v_iinc hC dX12_suffers_182 (k := 0) rfl (v := v_5407) h_5408 (by decide) (lv' := [(5, .int v_5407), (4, .int v_4458), (3, .int v_4446), (2, .int v_4435), (1, .int i_4399), (0, .ref a_0)]) rfl ?_
                      refine v_goto hC dX12_suffers_185 (tgt := 60) (by decide) ?_
                      refine v_pick [0, 1, 2, 3, 4, 5] rfl ?_
                      exact ih_5295 f_5391 hW_5392 ((hF_5289.tr hF_5393).mono rfl) v_5407 (by first | omega | (simp only [Int32.lt_iff_toInt_lt, Int32.le_iff_toInt_le, Int32.reduceToInt, ← Int32.toInt_inj, true_and, and_true, or_true, true_or, false_or, or_false, false_and, and_false, not_true_eq_false, not_false_eq_true] <;> omega)) (by first | omega | (simp only [Int32.lt_iff_toInt_lt, Int32.le_iff_toInt_le, Int32.reduceToInt, ← Int32.toInt_inj, true_and, and_true, or_true, true_or, false_or, or_false, false_and, and_false, not_true_eq_false, not_false_eq_true] <;> omega))
                    · simp only [Int32.lt_iff_toInt_lt, Int32.le_iff_toInt_le, Int32.reduceToInt, ← Int32.toInt_inj] at h_5406
                      refine v_aload_n hC dX12_suffers_174 rfl ?_
                      refine v_get hC fl_X12_37 m_1 hf_5395 rfl dX12_suffers_175 ?_
                      refine v_iload hC dX12_suffers_178 rfl ?_
                      refine v_iconst hC dX12_suffers_180 (v := 0) (by decide) ?_
                      refine v_iast hC m_5400 e_5402 (vp_in_iff.mpr (by first | omega | (simp only [Int32.lt_iff_toInt_lt, Int32.le_iff_toInt_le, Int32.reduceToInt, ← Int32.toInt_inj, true_and, and_true, or_true, true_or, false_or, or_false, false_and, and_false, not_true_eq_false, not_false_eq_true] <;> omega))) dX12_suffers_181 (fun f_5410 hf_5411 hk_5412 => ?_)
                      have hW_5414 := hW_5392.up hf_5411 hk_5412 t_5401 ⟨_, rfl⟩
                      obtain ⟨g_5413, hf_5411⟩ : ∃ g9, f_5410 (q 15) = aI E 256 g9 := ⟨_, hf_5411⟩
                      have hf_5415 := (hk_5412 (q 1) (ne_kd hf_5394 e_5402 rfl)).trans hf_5394
                      have hf_5416 := (hk_5412 a_0 (ne_kd hf_5395 e_5402 rfl)).trans hf_5395
                      have fr_5417 := FR.w hk_5412 e_5402 (k := 356) rfl
                      obtain ⟨v_5418, h_5419⟩ : ∃ v9 : Int32, i_5286 + Int32.ofInt 1 = v9 := ⟨_, rfl⟩
                      have h_5420 := add_v (b := 1) h_5419 (by first | omega | (simp only [Int32.lt_iff_toInt_lt, Int32.le_iff_toInt_le, Int32.reduceToInt, ← Int32.toInt_inj, true_and, and_true, or_true, true_or, false_or, or_false, false_and, and_false, not_true_eq_false, not_false_eq_true] <;> omega)) (by first | omega | (simp only [Int32.lt_iff_toInt_lt, Int32.le_iff_toInt_le, Int32.reduceToInt, ← Int32.toInt_inj, true_and, and_true, or_true, true_or, false_or, or_false, false_and, and_false, not_true_eq_false, not_false_eq_true] <;> omega))
                      simp only [Int32.reduceToInt] at h_5420
                      refine v_iinc hC dX12_suffers_182 (k := 0) rfl (v := v_5418) h_5419 (by decide) (lv' := [(5, .int v_5418), (4, .int v_4458), (3, .int v_4446), (2, .int v_4435), (1, .int i_4399), (0, .ref a_0)]) rfl ?_
                      refine v_goto hC dX12_suffers_185 (tgt := 60) (by decide) ?_
                      refine v_pick [0, 1, 2, 3, 4, 5] rfl ?_
                      exact ih_5295 f_5410 hW_5414 (((hF_5289.tr hF_5393).tr fr_5417).mono rfl) v_5418 (by first | omega | (simp only [Int32.lt_iff_toInt_lt, Int32.le_iff_toInt_le, Int32.reduceToInt, ← Int32.toInt_inj, true_and, and_true, or_true, true_or, false_or, or_false, false_and, and_false, not_true_eq_false, not_false_eq_true] <;> omega)) (by first | omega | (simp only [Int32.lt_iff_toInt_lt, Int32.le_iff_toInt_le, Int32.reduceToInt, ← Int32.toInt_inj, true_and, and_true, or_true, true_or, false_or, or_false, false_and, and_false, not_true_eq_false, not_false_eq_true] <;> omega))
                refine v_if_eq hC dX12_suffers_147 (tgt := 158) (by decide) (fun h_5377 => ?_) (fun h_5377 => ?_)
                · simp only [Int32.lt_iff_toInt_lt, Int32.le_iff_toInt_le, Int32.reduceToInt, ← Int32.toInt_inj] at h_5377
                  refine v_pick [1, 2, 3, 4, 5, 6] rfl ?_
                  exact jn_5390 f_5287 hW_5288 FR.rf
                · simp only [Int32.lt_iff_toInt_lt, Int32.le_iff_toInt_le, Int32.reduceToInt, ← Int32.toInt_inj] at h_5377
                  refine v_aload_n hC dX12_suffers_150 rfl ?_
                  refine v_get hC fl_X12_37 m_1 hf_5291 rfl dX12_suffers_151 ?_
                  refine v_iload hC dX12_suffers_154 rfl ?_
                  refine v_iconst hC dX12_suffers_156 (v := 4) (by decide) ?_
                  obtain ⟨m_5421, t_5422⟩ := id k_9
                  obtain ⟨g_5424, e_5423⟩ := hW_5288.at m_5421 t_5422
                  refine v_iast hC m_5421 e_5423 (vp_in_iff.mpr (by first | omega | (simp only [Int32.lt_iff_toInt_lt, Int32.le_iff_toInt_le, Int32.reduceToInt, ← Int32.toInt_inj, true_and, and_true, or_true, true_or, false_or, or_false, false_and, and_false, not_true_eq_false, not_false_eq_true] <;> omega))) dX12_suffers_157 (fun f_5425 hf_5426 hk_5427 => ?_)
                  have hW_5429 := hW_5288.up hf_5426 hk_5427 t_5422 ⟨_, rfl⟩
                  obtain ⟨g_5428, hf_5426⟩ : ∃ g9, f_5425 (q 15) = aI E 256 g9 := ⟨_, hf_5426⟩
                  have hf_5430 := (hk_5427 (q 1) (ne_kd hf_5290 e_5423 rfl)).trans hf_5290
                  have hf_5431 := (hk_5427 a_0 (ne_kd hf_5291 e_5423 rfl)).trans hf_5291
                  have fr_5432 := FR.w hk_5427 e_5423 (k := 356) rfl
                  refine v_pick [1, 2, 3, 4, 5, 6] rfl ?_
                  exact jn_5390 f_5425 hW_5429 (fr_5432.mono rfl)
              refine v_if_ne hC dX12_suffers_70 (tgt := 92) (by decide) (fun h_5309 => ?_) (fun h_5309 => ?_)
              · simp only [Int32.lt_iff_toInt_lt, Int32.le_iff_toInt_le, Int32.reduceToInt, ← Int32.toInt_inj] at h_5309
                refine v_iload_n hC dX12_suffers_92 rfl ?_
                refine v_iconst hC dX12_suffers_93 (v := 1) (by decide) ?_
                refine v_icmp_ne hC dX12_suffers_94 (tgt := 116) (by decide) (fun h_5433 => ?_) (fun h_5433 => ?_)
                · simp only [Int32.lt_iff_toInt_lt, Int32.le_iff_toInt_le, Int32.reduceToInt, ← Int32.toInt_inj] at h_5433
                  refine v_iload_n hC dX12_suffers_116 rfl ?_
                  refine v_iconst hC dX12_suffers_117 (v := 2) (by decide) ?_
                  refine v_icmp_ne hC dX12_suffers_118 (tgt := 142) (by decide) (fun h_5434 => ?_) (fun h_5434 => ?_)
                  · simp only [Int32.lt_iff_toInt_lt, Int32.le_iff_toInt_le, Int32.reduceToInt, ← Int32.toInt_inj] at h_5434
                    refine v_iconst hC dX12_suffers_142 (v := 0) (by decide) ?_
                    refine v_pick [0, 1, 2, 3, 4, 5] rfl ?_
                    exact jn_5374 0 (by decide)
                  · simp only [Int32.lt_iff_toInt_lt, Int32.le_iff_toInt_le, Int32.reduceToInt, ← Int32.toInt_inj] at h_5434
                    refine v_iload hC dX12_suffers_121 rfl ?_
                    refine v_iload hC dX12_suffers_123 rfl ?_
                    refine v_icmp_lt hC dX12_suffers_125 (tgt := 142) (by decide) (fun h_5435 => ?_) (fun h_5435 => ?_)
                    · simp only [Int32.lt_iff_toInt_lt, Int32.le_iff_toInt_le, Int32.reduceToInt, ← Int32.toInt_inj] at h_5435
                      refine v_iconst hC dX12_suffers_142 (v := 0) (by decide) ?_
                      refine v_pick [0, 1, 2, 3, 4, 5] rfl ?_
                      exact jn_5374 0 (by decide)
                    · simp only [Int32.lt_iff_toInt_lt, Int32.le_iff_toInt_le, Int32.reduceToInt, ← Int32.toInt_inj] at h_5435
                      refine v_iload hC dX12_suffers_128 rfl ?_
                      refine v_iload hC dX12_suffers_130 rfl ?_
                      obtain ⟨v_5436, h_5437⟩ : ∃ v9 : Int32, i_5286 - v_4458 = v9 := ⟨_, rfl⟩
                      refine v_isub hC dX12_suffers_132 h_5437 ?_
                      refine v_iload_n hC dX12_suffers_133 rfl ?_
                      obtain ⟨v_5439, h_5440⟩ : ∃ v9 : Int32, v_5436 - v_5436 / v_4446 * v_4446 = v9 := ⟨_, rfl⟩
                      refine v_irem hC dX12_suffers_134 (by first | omega | (simp only [Int32.lt_iff_toInt_lt, Int32.le_iff_toInt_le, Int32.reduceToInt, ← Int32.toInt_inj, true_and, and_true, or_true, true_or, false_or, or_false, false_and, and_false, not_true_eq_false, not_false_eq_true] <;> omega)) h_5440 ?_
                      refine v_if_ne hC dX12_suffers_135 (tgt := 142) (by decide) (fun h_5442 => ?_) (fun h_5442 => ?_)
                      · simp only [Int32.lt_iff_toInt_lt, Int32.le_iff_toInt_le, Int32.reduceToInt, ← Int32.toInt_inj] at h_5442
                        refine v_iconst hC dX12_suffers_142 (v := 0) (by decide) ?_
                        refine v_pick [0, 1, 2, 3, 4, 5] rfl ?_
                        exact jn_5374 0 (by decide)
                      · simp only [Int32.lt_iff_toInt_lt, Int32.le_iff_toInt_le, Int32.reduceToInt, ← Int32.toInt_inj] at h_5442
                        refine v_iconst hC dX12_suffers_138 (v := 1) (by decide) ?_
                        refine v_goto hC dX12_suffers_139 (tgt := 143) (by decide) ?_
                        refine v_pick [0, 1, 2, 3, 4, 5] rfl ?_
                        exact jn_5374 1 (by decide)
                · simp only [Int32.lt_iff_toInt_lt, Int32.le_iff_toInt_le, Int32.reduceToInt, ← Int32.toInt_inj] at h_5433
                  refine v_iload hC dX12_suffers_97 rfl ?_
                  refine v_aload_n hC dX12_suffers_99 rfl ?_
                  refine v_vi hC (rest := [.int i_5286]) m_1 hf_5291 rfl mi_X12_wide ms_X12_wide (p_X12_wide hW_5288 k_0 hf_5290 o_w) mx_X12_wide ml_X12_87 (by decide) rfl (cells1 := 0) (slots1 := 0) (by decide) (by decide) (Nat.le_of_ble_eq_true rfl) (Nat.le_of_ble_eq_true rfl) rfl (Nat.le_of_ble_eq_true rfl) dX12_suffers_100 (fun r_5443 L_5444 f_5445 h_5446 => ?_)
                  obtain ⟨rfl, rfl, rfl⟩ := h_5446
                  obtain ⟨v_5449, h_5450⟩ : ∃ v9 : Int32, i_5286 - i_5286 / (g_w 1) * (g_w 1) = v9 := ⟨_, rfl⟩
                  refine v_irem hC dX12_suffers_103 (by first | omega | (simp only [Int32.lt_iff_toInt_lt, Int32.le_iff_toInt_le, Int32.reduceToInt, ← Int32.toInt_inj, true_and, and_true, or_true, true_or, false_or, or_false, false_and, and_false, not_true_eq_false, not_false_eq_true] <;> omega)) h_5450 ?_
                  have h_5451 := rem_v h_5450 (by first | omega | (simp only [Int32.lt_iff_toInt_lt, Int32.le_iff_toInt_le, Int32.reduceToInt, ← Int32.toInt_inj, true_and, and_true, or_true, true_or, false_or, or_false, false_and, and_false, not_true_eq_false, not_false_eq_true] <;> omega)) (by first | omega | (simp only [Int32.lt_iff_toInt_lt, Int32.le_iff_toInt_le, Int32.reduceToInt, ← Int32.toInt_inj, true_and, and_true, or_true, true_or, false_or, or_false, false_and, and_false, not_true_eq_false, not_false_eq_true] <;> omega))
                  obtain ⟨v_5452, h_5453⟩ : ∃ v9 : Int64, v_5449.toInt64 = v9 := ⟨_, rfl⟩
                  refine v_i2l hC dX12_suffers_104 h_5453 ?_
                  have h_5454 : v_5452.toInt = v_5449.toInt := by rw [← h_5453]; exact Int32.toInt_toInt64 _
                  refine v_iload_n hC dX12_suffers_105 rfl ?_
                  obtain ⟨v_5455, h_5456⟩ : ∃ v9 : Int64, v_4446.toInt64 = v9 := ⟨_, rfl⟩
                  refine v_i2l hC dX12_suffers_106 h_5456 ?_
                  have h_5457 : v_5455.toInt = v_4446.toInt := by rw [← h_5456]; exact Int32.toInt_toInt64 _
                  refine v_iload hC dX12_suffers_107 rfl ?_
                  obtain ⟨v_5458, h_5459⟩ : ∃ v9 : Int64, v_4458.toInt64 = v9 := ⟨_, rfl⟩
                  refine v_i2l hC dX12_suffers_109 h_5459 ?_
                  have h_5460 : v_5458.toInt = v_4458.toInt := by rw [← h_5459]; exact Int32.toInt_toInt64 _
                  refine v_si hC (rest := []) mt_X12_in (p_X12_in hW_5288) mx_X12_in ml_X12_79 (by decide) rfl (cells1 := 0) (slots1 := 0) (by decide) (by decide) (Nat.le_of_ble_eq_true rfl) (Nat.le_of_ble_eq_true rfl) rfl (Nat.le_of_ble_eq_true rfl) dX12_suffers_110 (fun r_5461 L_5462 f_5463 h_5464 => ?_)
                  obtain ⟨rfl, rfl, b_5465, x_5466⟩ := h_5464
                  try simp only [Int32.reduceToInt, Int64.reduceToInt] at x_5466
                  refine v_if_ne hC dX12_suffers_113 (tgt := 138) (by decide) (fun h_5469 => ?_) (fun h_5469 => ?_)
                  · simp only [Int32.lt_iff_toInt_lt, Int32.le_iff_toInt_le, Int32.reduceToInt, ← Int32.toInt_inj] at h_5469
                    refine v_iconst hC dX12_suffers_138 (v := 1) (by decide) ?_
                    refine v_goto hC dX12_suffers_139 (tgt := 143) (by decide) ?_
                    refine v_pick [0, 1, 2, 3, 4, 5] rfl ?_
                    exact jn_5374 1 (by decide)
                  · simp only [Int32.lt_iff_toInt_lt, Int32.le_iff_toInt_le, Int32.reduceToInt, ← Int32.toInt_inj] at h_5469
                    refine v_iload_n hC dX12_suffers_116 rfl ?_
                    refine v_iconst hC dX12_suffers_117 (v := 2) (by decide) ?_
                    refine v_icmp_ne_t hC dX12_suffers_118 (tgt := 142) (by decide) (by first | omega | (simp only [Int32.lt_iff_toInt_lt, Int32.le_iff_toInt_le, Int32.reduceToInt, ← Int32.toInt_inj, true_and, and_true, or_true, true_or, false_or, or_false, false_and, and_false, not_true_eq_false, not_false_eq_true] <;> omega)) ?_
                    refine v_iconst hC dX12_suffers_142 (v := 0) (by decide) ?_
                    refine v_pick [0, 1, 2, 3, 4, 5] rfl ?_
                    exact jn_5374 0 (by decide)
              · simp only [Int32.lt_iff_toInt_lt, Int32.le_iff_toInt_le, Int32.reduceToInt, ← Int32.toInt_inj] at h_5309
                refine v_iload hC dX12_suffers_73 rfl ?_
                refine v_aload_n hC dX12_suffers_75 rfl ?_
                refine v_vi hC (rest := [.int i_5286]) m_1 hf_5291 rfl mi_X12_wide ms_X12_wide (p_X12_wide hW_5288 k_0 hf_5290 o_w) mx_X12_wide ml_X12_87 (by decide) rfl (cells1 := 0) (slots1 := 0) (by decide) (by decide) (Nat.le_of_ble_eq_true rfl) (Nat.le_of_ble_eq_true rfl) rfl (Nat.le_of_ble_eq_true rfl) dX12_suffers_76 (fun r_5470 L_5471 f_5472 h_5473 => ?_)
                obtain ⟨rfl, rfl, rfl⟩ := h_5473
                obtain ⟨v_5476, h_5477⟩ : ∃ v9 : Int32, i_5286 / (g_w 1) = v9 := ⟨_, rfl⟩
                refine v_idiv hC dX12_suffers_79 (by first | omega | (simp only [Int32.lt_iff_toInt_lt, Int32.le_iff_toInt_le, Int32.reduceToInt, ← Int32.toInt_inj, true_and, and_true, or_true, true_or, false_or, or_false, false_and, and_false, not_true_eq_false, not_false_eq_true] <;> omega)) h_5477 ?_
                have h_5478 := div_v h_5477 (by first | omega | (simp only [Int32.lt_iff_toInt_lt, Int32.le_iff_toInt_le, Int32.reduceToInt, ← Int32.toInt_inj, true_and, and_true, or_true, true_or, false_or, or_false, false_and, and_false, not_true_eq_false, not_false_eq_true] <;> omega)) (by first | omega | (simp only [Int32.lt_iff_toInt_lt, Int32.le_iff_toInt_le, Int32.reduceToInt, ← Int32.toInt_inj, true_and, and_true, or_true, true_or, false_or, or_false, false_and, and_false, not_true_eq_false, not_false_eq_true] <;> omega))
                obtain ⟨v_5479, h_5480⟩ : ∃ v9 : Int64, v_5476.toInt64 = v9 := ⟨_, rfl⟩
                refine v_i2l hC dX12_suffers_80 h_5480 ?_
                have h_5481 : v_5479.toInt = v_5476.toInt := by rw [← h_5480]; exact Int32.toInt_toInt64 _
                refine v_iload_n hC dX12_suffers_81 rfl ?_
                obtain ⟨v_5482, h_5483⟩ : ∃ v9 : Int64, v_4446.toInt64 = v9 := ⟨_, rfl⟩
                refine v_i2l hC dX12_suffers_82 h_5483 ?_
                have h_5484 : v_5482.toInt = v_4446.toInt := by rw [← h_5483]; exact Int32.toInt_toInt64 _
                refine v_iload hC dX12_suffers_83 rfl ?_
                obtain ⟨v_5485, h_5486⟩ : ∃ v9 : Int64, v_4458.toInt64 = v9 := ⟨_, rfl⟩
                refine v_i2l hC dX12_suffers_85 h_5486 ?_
                have h_5487 : v_5485.toInt = v_4458.toInt := by rw [← h_5486]; exact Int32.toInt_toInt64 _
                refine v_si hC (rest := []) mt_X12_in (p_X12_in hW_5288) mx_X12_in ml_X12_79 (by decide) rfl (cells1 := 0) (slots1 := 0) (by decide) (by decide) (Nat.le_of_ble_eq_true rfl) (Nat.le_of_ble_eq_true rfl) rfl (Nat.le_of_ble_eq_true rfl) dX12_suffers_86 (fun r_5488 L_5489 f_5490 h_5491 => ?_)
                obtain ⟨rfl, rfl, b_5492, x_5493⟩ := h_5491
                try simp only [Int32.reduceToInt, Int64.reduceToInt] at x_5493
                refine v_if_ne hC dX12_suffers_89 (tgt := 138) (by decide) (fun h_5496 => ?_) (fun h_5496 => ?_)
                · simp only [Int32.lt_iff_toInt_lt, Int32.le_iff_toInt_le, Int32.reduceToInt, ← Int32.toInt_inj] at h_5496
                  refine v_iconst hC dX12_suffers_138 (v := 1) (by decide) ?_
                  refine v_goto hC dX12_suffers_139 (tgt := 143) (by decide) ?_
                  refine v_pick [0, 1, 2, 3, 4, 5] rfl ?_
                  exact jn_5374 1 (by decide)
                · simp only [Int32.lt_iff_toInt_lt, Int32.le_iff_toInt_le, Int32.reduceToInt, ← Int32.toInt_inj] at h_5496
                  refine v_iload_n hC dX12_suffers_92 rfl ?_
                  refine v_iconst hC dX12_suffers_93 (v := 1) (by decide) ?_
                  refine v_icmp_ne_t hC dX12_suffers_94 (tgt := 116) (by decide) (by first | omega | (simp only [Int32.lt_iff_toInt_lt, Int32.le_iff_toInt_le, Int32.reduceToInt, ← Int32.toInt_inj, true_and, and_true, or_true, true_or, false_or, or_false, false_and, and_false, not_true_eq_false, not_false_eq_true] <;> omega)) ?_
                  refine v_iload_n hC dX12_suffers_116 rfl ?_
                  refine v_iconst hC dX12_suffers_117 (v := 2) (by decide) ?_
                  refine v_icmp_ne_t hC dX12_suffers_118 (tgt := 142) (by decide) (by first | omega | (simp only [Int32.lt_iff_toInt_lt, Int32.le_iff_toInt_le, Int32.reduceToInt, ← Int32.toInt_inj, true_and, and_true, or_true, true_or, false_or, or_false, false_and, and_false, not_true_eq_false, not_false_eq_true] <;> omega)) ?_
                  refine v_iconst hC dX12_suffers_142 (v := 0) (by decide) ?_
                  refine v_pick [0, 1, 2, 3, 4, 5] rfl ?_
                  exact jn_5374 0 (by decide)
        refine v_pick [0, 1, 2, 3, 4, 5] rfl ?_
        exact lp_5293 258 f_4400 hW_4401 FR.rf 0 (by decide) (by decide)
  refine v_pick [0, 1] rfl ?_
  exact lp_4405 14 f hW FR.rf 0 (by decide) (by decide)
set_option maxRecDepth 100000 in
set_option maxHeartbeats 4000000 in
theorem p_X12_isReadAgain {l : Launch} {E : Ez} {L : List Nat} {f : Nat → va_E} {T : Nat → va_E → Prop} {a_0 : Nat} {a_1 : Int32} {q : Nat → Nat} {g_w : Nat → Int32} (hW : WT T L f) (k_0 : isM T L E a_0 q) (g_1 : (0 ≤ a_1.toInt ∧ a_1.toInt ≤ 5)) (e_w : f (q 1) = aI E 2076 g_w) (o_w : WOK g_w) (htold : (wv g_w a_1 0).toInt = 1) : CI l yX12_isReadAgain cX12_isReadAgain 4 .boolean 5 0 0 E [.ref a_0, .int a_1] L f (fun r L1 f1 => L = L1 ∧ WT T L f1 ∧ FR [12, 200, 356] f f1 ∧ (0 ≤ r.toInt ∧ r.toInt ≤ 1) ∧ fld (f1 a_0) 20 = fld (f a_0) 20) := by
  refine ci_of (by decide) (Nat.le_of_ble_eq_true rfl) (fun z hz hnm hC hR => ?_)
  have hC : Cx z E cX12_isReadAgain RX12 4 5 0 0 := hC
  subst hz
  show V z E 4 0 0 L f 0 [(0, .ref a_0), (1, .int a_1)] []
  obtain ⟨m_1, t_2, k_3, k_4, k_5, k_6, k_7, k_8, k_9, k_10, k_11, k_12, k_13, k_14, k_15, k_16, k_17, k_18, k_19, k_20⟩ := id k_0
  obtain ⟨m_21, t_22⟩ := id k_3
  have b_23 := o_w.r0
  have b_24 := o_w.w0
  obtain ⟨v_26, v_27, v_29, v_31, v_33, v_35, v_37, v_38, v_39, v_40, v_42, e_25, b_28, b_30, b_32, b_34, b_36, b_41, b_43⟩ := hW.at m_1 t_2
  have mz_44 : fld (f a_0) 20 = v_42.toInt := by rw [e_25]; rfl
  refine v_aload_n hC dX12_isReadAgain_0 rfl ?_
  refine v_iload_n hC dX12_isReadAgain_1 rfl ?_
  refine v_vi hC (rest := []) m_1 e_25 rfl mi_X12_reads ms_X12_reads (p_X12_reads hW k_0 (by first | omega | (simp only [Int32.lt_iff_toInt_lt, Int32.le_iff_toInt_le, Int32.reduceToInt, ← Int32.toInt_inj, true_and, and_true, or_true, true_or, false_or, or_false, false_and, and_false, not_true_eq_false, not_false_eq_true] <;> omega)) e_w o_w (by first | omega | (simp only [Int32.lt_iff_toInt_lt, Int32.le_iff_toInt_le, Int32.reduceToInt, ← Int32.toInt_inj, true_and, and_true, or_true, true_or, false_or, or_false, false_and, and_false, not_true_eq_false, not_false_eq_true] <;> omega))) mx_X12_reads ml_X12_373 (by decide) rfl (cells1 := 0) (slots1 := 0) (by decide) (by decide) (Nat.le_of_ble_eq_true rfl) (Nat.le_of_ble_eq_true rfl) rfl (Nat.le_of_ble_eq_true rfl) dX12_isReadAgain_2 (fun r_45 L_46 f_47 h_48 => ?_)
  obtain ⟨rfl, hW_51, hF_52, b_49, x_50⟩ := h_48
  have fe_53 : fld (f a_0) 20 = (v_42 : Int32).toInt := by rw [e_25]; rfl
  have hf_54 := hF_52.at e_w rfl
  rw [fe_53] at x_50
  obtain ⟨v_56, v_57, v_59, v_61, v_63, v_65, v_67, v_68, v_69, v_70, v_72, e_55, b_58, b_60, b_62, b_64, b_66, b_71, b_73⟩ := hW_51.at m_1 t_2
  have fe_74 : fld (f_47 a_0) 20 = (v_72 : Int32).toInt := by rw [e_55]; rfl
  rw [fe_74] at x_50
  try simp only [Int32.reduceToInt, Int64.reduceToInt] at x_50
  refine v_aload_n hC dX12_isReadAgain_5 rfl ?_
  refine v_get hC fl_X12_49 m_1 e_55 rfl dX12_isReadAgain_6 ?_
  have jn_76 : ∀ (v_77 : Int32) (b_78 : (0 ≤ v_77.toInt ∧ v_77.toInt ≤ 1)), V z E 4 0 0 L f_47 17 [(0, .ref a_0)] [.int v_77] := by
    intro v_77 b_78
    refine v_istore_n hC dX12_isReadAgain_17 (by decide) (lv' := [(2, .int v_77), (0, .ref a_0)]) rfl ?_
    refine v_iconst hC dX12_isReadAgain_18 (v := 0) (by decide) ?_
    refine v_istore_n hC dX12_isReadAgain_19 (by decide) (lv' := [(3, .int 0), (2, .int v_77), (0, .ref a_0)]) rfl ?_
    have lp_167 : ∀ (n_168 : Nat) (i_163 : Int32) (b_165 : (0 ≤ i_163.toInt ∧ i_163.toInt ≤ 100)) (i_164 : Int32) (b_166 : (0 ≤ i_164.toInt ∧ i_164.toInt ≤ 1)) (hm_170 : 100 - i_163.toInt < (n_168 : Int)), V z E 4 0 0 L f_47 20 [(3, .int i_163), (2, .int i_164), (0, .ref a_0)] [] := by
      intro n_168
      induction n_168 with
      | zero =>
        intro i_163 b_165 i_164 b_166 hm_170
        exfalso; omega
      | succ n_168 ih_169 =>
        intro i_163 b_165 i_164 b_166 hm_170
        refine v_iload_n hC dX12_isReadAgain_20 rfl ?_
        refine v_aload_n hC dX12_isReadAgain_21 rfl ?_
        refine v_get hC fl_X12_49 m_1 e_55 rfl dX12_isReadAgain_22 ?_
        refine v_icmp_ge hC dX12_isReadAgain_25 (tgt := 59) (by decide) (fun h_171 => ?_) (fun h_171 => ?_)
        · simp only [Int32.lt_iff_toInt_lt, Int32.le_iff_toInt_le, Int32.reduceToInt, ← Int32.toInt_inj] at h_171
          refine v_iload_n hC dX12_isReadAgain_59 rfl ?_
          have fe_172 : fld (f_47 a_0) 20 = (v_72 : Int32).toInt := by rw [e_55]; rfl
          exact hR _ _ _ _ _ _ _ dX12_isReadAgain_60 (nar01 (by first | omega | (simp only [Int32.lt_iff_toInt_lt, Int32.le_iff_toInt_le, Int32.reduceToInt, ← Int32.toInt_inj, true_and, and_true, or_true, true_or, false_or, or_false, false_and, and_false, not_true_eq_false, not_false_eq_true] <;> omega))) (Nat.le_of_ble_eq_true rfl) (Nat.le_of_ble_eq_true rfl) ⟨rfl, hW_51, (hF_52.mono rfl), (by first | omega | (simp only [Int32.lt_iff_toInt_lt, Int32.le_iff_toInt_le, Int32.reduceToInt, ← Int32.toInt_inj, true_and, and_true, or_true, true_or, false_or, or_false, false_and, and_false, not_true_eq_false, not_false_eq_true] <;> omega)), (by rw [fe_172, mz_44] <;> first | omega | (simp only [Int32.lt_iff_toInt_lt, Int32.le_iff_toInt_le, Int32.reduceToInt, ← Int32.toInt_inj, true_and, and_true, or_true, true_or, false_or, or_false, false_and, and_false, not_true_eq_false, not_false_eq_true] <;> omega))⟩
        · simp only [Int32.lt_iff_toInt_lt, Int32.le_iff_toInt_le, Int32.reduceToInt, ← Int32.toInt_inj] at h_171
          refine v_iload_n hC dX12_isReadAgain_28 rfl ?_
          refine v_if_eq hC dX12_isReadAgain_29 (tgt := 59) (by decide) (fun h_173 => ?_) (fun h_173 => ?_)
          · simp only [Int32.lt_iff_toInt_lt, Int32.le_iff_toInt_le, Int32.reduceToInt, ← Int32.toInt_inj] at h_173
            refine v_iload_n hC dX12_isReadAgain_59 rfl ?_
            have fe_174 : fld (f_47 a_0) 20 = (v_72 : Int32).toInt := by rw [e_55]; rfl
            exact hR _ _ _ _ _ _ _ dX12_isReadAgain_60 (nar01 (by first | omega | (simp only [Int32.lt_iff_toInt_lt, Int32.le_iff_toInt_le, Int32.reduceToInt, ← Int32.toInt_inj, true_and, and_true, or_true, true_or, false_or, or_false, false_and, and_false, not_true_eq_false, not_false_eq_true] <;> omega))) (Nat.le_of_ble_eq_true rfl) (Nat.le_of_ble_eq_true rfl) ⟨rfl, hW_51, (hF_52.mono rfl), (by first | omega | (simp only [Int32.lt_iff_toInt_lt, Int32.le_iff_toInt_le, Int32.reduceToInt, ← Int32.toInt_inj, true_and, and_true, or_true, true_or, false_or, or_false, false_and, and_false, not_true_eq_false, not_false_eq_true] <;> omega)), (by rw [fe_174, mz_44] <;> first | omega | (simp only [Int32.lt_iff_toInt_lt, Int32.le_iff_toInt_le, Int32.reduceToInt, ← Int32.toInt_inj, true_and, and_true, or_true, true_or, false_or, or_false, false_and, and_false, not_true_eq_false, not_false_eq_true] <;> omega))⟩
          · simp only [Int32.lt_iff_toInt_lt, Int32.le_iff_toInt_le, Int32.reduceToInt, ← Int32.toInt_inj] at h_173
            refine v_aload_n hC dX12_isReadAgain_32 rfl ?_
            refine v_get hC fl_X12_52 m_1 e_55 rfl dX12_isReadAgain_33 ?_
            refine v_iload_n hC dX12_isReadAgain_36 rfl ?_
            obtain ⟨m_175, t_176⟩ := id k_13
            obtain ⟨g_178, e_177⟩ := hW_51.at m_175 t_176
            obtain ⟨v_179, h_180⟩ : ∃ v9 : Int32, g_178 (i_163 : Int32).toNatClampNeg = v9 := ⟨_, rfl⟩
            refine v_iald hC m_175 e_177 (vp_in_iff.mpr (by first | omega | (simp only [Int32.lt_iff_toInt_lt, Int32.le_iff_toInt_le, Int32.reduceToInt, ← Int32.toInt_inj, true_and, and_true, or_true, true_or, false_or, or_false, false_and, and_false, not_true_eq_false, not_false_eq_true] <;> omega))) h_180 dX12_isReadAgain_37 ?_
            refine v_aload_n hC dX12_isReadAgain_38 rfl ?_
            refine v_get hC fl_X12_46 m_1 e_55 rfl dX12_isReadAgain_39 ?_
            refine v_iload_n hC dX12_isReadAgain_42 rfl ?_
            obtain ⟨m_181, t_182⟩ := id k_12
            obtain ⟨g_184, e_183⟩ := hW_51.at m_181 t_182
            obtain ⟨v_185, h_186⟩ : ∃ v9 : Int32, g_184 (i_163 : Int32).toNatClampNeg = v9 := ⟨_, rfl⟩
            refine v_iald hC m_181 e_183 (vp_in_iff.mpr (by first | omega | (simp only [Int32.lt_iff_toInt_lt, Int32.le_iff_toInt_le, Int32.reduceToInt, ← Int32.toInt_inj, true_and, and_true, or_true, true_or, false_or, or_false, false_and, and_false, not_true_eq_false, not_false_eq_true] <;> omega))) h_186 dX12_isReadAgain_43 ?_
            refine v_icmp_ne hC dX12_isReadAgain_44 (tgt := 51) (by decide) (fun h_187 => ?_) (fun h_187 => ?_)
            · simp only [Int32.lt_iff_toInt_lt, Int32.le_iff_toInt_le, Int32.reduceToInt, ← Int32.toInt_inj] at h_187
              refine v_iconst hC dX12_isReadAgain_51 (v := 0) (by decide) ?_
              refine v_istore_n hC dX12_isReadAgain_52 (by decide) (lv' := [(2, .int 0), (3, .int i_163), (0, .ref a_0)]) rfl ?_
              obtain ⟨v_188, h_189⟩ : ∃ v9 : Int32, i_163 + Int32.ofInt 1 = v9 := ⟨_, rfl⟩
              have h_190 := add_v (b := 1) h_189 (by first | omega | (simp only [Int32.lt_iff_toInt_lt, Int32.le_iff_toInt_le, Int32.reduceToInt, ← Int32.toInt_inj, true_and, and_true, or_true, true_or, false_or, or_false, false_and, and_false, not_true_eq_false, not_false_eq_true] <;> omega)) (by first | omega | (simp only [Int32.lt_iff_toInt_lt, Int32.le_iff_toInt_le, Int32.reduceToInt, ← Int32.toInt_inj, true_and, and_true, or_true, true_or, false_or, or_false, false_and, and_false, not_true_eq_false, not_false_eq_true] <;> omega))
              simp only [Int32.reduceToInt] at h_190
              refine v_iinc hC dX12_isReadAgain_53 (k := 1) rfl (v := v_188) h_189 (by decide) (lv' := [(3, .int v_188), (2, .int 0), (0, .ref a_0)]) rfl ?_
              refine v_goto hC dX12_isReadAgain_56 (tgt := 20) (by decide) ?_
              refine v_pick [0, 1, 2] rfl ?_
              exact ih_169 v_188 (by first | omega | (simp only [Int32.lt_iff_toInt_lt, Int32.le_iff_toInt_le, Int32.reduceToInt, ← Int32.toInt_inj, true_and, and_true, or_true, true_or, false_or, or_false, false_and, and_false, not_true_eq_false, not_false_eq_true] <;> omega)) 0 (by decide) (by first | omega | (simp only [Int32.lt_iff_toInt_lt, Int32.le_iff_toInt_le, Int32.reduceToInt, ← Int32.toInt_inj, true_and, and_true, or_true, true_or, false_or, or_false, false_and, and_false, not_true_eq_false, not_false_eq_true] <;> omega))
            · simp only [Int32.lt_iff_toInt_lt, Int32.le_iff_toInt_le, Int32.reduceToInt, ← Int32.toInt_inj] at h_187
              refine v_iconst hC dX12_isReadAgain_47 (v := 1) (by decide) ?_
              refine v_goto hC dX12_isReadAgain_48 (tgt := 52) (by decide) ?_
              refine v_istore_n hC dX12_isReadAgain_52 (by decide) (lv' := [(2, .int 1), (3, .int i_163), (0, .ref a_0)]) rfl ?_
              obtain ⟨v_191, h_192⟩ : ∃ v9 : Int32, i_163 + Int32.ofInt 1 = v9 := ⟨_, rfl⟩
              have h_193 := add_v (b := 1) h_192 (by first | omega | (simp only [Int32.lt_iff_toInt_lt, Int32.le_iff_toInt_le, Int32.reduceToInt, ← Int32.toInt_inj, true_and, and_true, or_true, true_or, false_or, or_false, false_and, and_false, not_true_eq_false, not_false_eq_true] <;> omega)) (by first | omega | (simp only [Int32.lt_iff_toInt_lt, Int32.le_iff_toInt_le, Int32.reduceToInt, ← Int32.toInt_inj, true_and, and_true, or_true, true_or, false_or, or_false, false_and, and_false, not_true_eq_false, not_false_eq_true] <;> omega))
              simp only [Int32.reduceToInt] at h_193
              refine v_iinc hC dX12_isReadAgain_53 (k := 1) rfl (v := v_191) h_192 (by decide) (lv' := [(3, .int v_191), (2, .int 1), (0, .ref a_0)]) rfl ?_
              refine v_goto hC dX12_isReadAgain_56 (tgt := 20) (by decide) ?_
              refine v_pick [0, 1, 2] rfl ?_
              exact ih_169 v_191 (by first | omega | (simp only [Int32.lt_iff_toInt_lt, Int32.le_iff_toInt_le, Int32.reduceToInt, ← Int32.toInt_inj, true_and, and_true, or_true, true_or, false_or, or_false, false_and, and_false, not_true_eq_false, not_false_eq_true] <;> omega)) 1 (by decide) (by first | omega | (simp only [Int32.lt_iff_toInt_lt, Int32.le_iff_toInt_le, Int32.reduceToInt, ← Int32.toInt_inj, true_and, and_true, or_true, true_or, false_or, or_false, false_and, and_false, not_true_eq_false, not_false_eq_true] <;> omega))
    refine v_pick [0, 1, 2] rfl ?_
    exact lp_167 102 0 (by decide) v_77 (by first | omega | (simp only [Int32.lt_iff_toInt_lt, Int32.le_iff_toInt_le, Int32.reduceToInt, ← Int32.toInt_inj, true_and, and_true, or_true, true_or, false_or, or_false, false_and, and_false, not_true_eq_false, not_false_eq_true] <;> omega)) (by decide)
  refine v_icmp_ne hC dX12_isReadAgain_9 (tgt := 16) (by decide) (fun h_75 => ?_) (fun h_75 => ?_)
  · simp only [Int32.lt_iff_toInt_lt, Int32.le_iff_toInt_le, Int32.reduceToInt, ← Int32.toInt_inj] at h_75
    refine v_iconst hC dX12_isReadAgain_16 (v := 0) (by decide) ?_
    refine v_pick [0] rfl ?_
    exact jn_76 0 (by decide)
  · simp only [Int32.lt_iff_toInt_lt, Int32.le_iff_toInt_le, Int32.reduceToInt, ← Int32.toInt_inj] at h_75
    refine v_iconst hC dX12_isReadAgain_12 (v := 1) (by decide) ?_
    refine v_goto hC dX12_isReadAgain_13 (tgt := 17) (by decide) ?_
    refine v_pick [0] rfl ?_
    exact jn_76 1 (by decide)
set_option maxRecDepth 100000 in
set_option maxHeartbeats 4000000 in
theorem p_X12_best {l : Launch} {E : Ez} {L : List Nat} {f : Nat → va_E} {T : Nat → va_E → Prop} {a_0 : Nat} {a_1 : Int32} {q : Nat → Nat} {g_w : Nat → Int32} (hW : WT T L f) (k_0 : isM T L E a_0 q) (e_w : f (q 1) = aI E 2076 g_w) (o_w : WOK g_w) : CI l yX12_best cX12_best 7 .int 6 0 0 E [.ref a_0, .int a_1] L f (fun r L1 f1 => L = L1 ∧ WT T L f1 ∧ FR [12, 108, 200, 356] f f1 ∧ ((-6) ≤ r.toInt ∧ r.toInt ≤ 5) ∧ (¬ r.toInt = 0 ∨ (0 ≤ a_1.toInt ∧ a_1.toInt ≤ 3))) := by
  refine ci_of (by decide) (Nat.le_of_ble_eq_true rfl) (fun z hz hnm hC hR => ?_)
  have hC : Cx z E cX12_best RX12 7 6 0 0 := hC
  subst hz
  show V z E 7 0 0 L f 0 [(0, .ref a_0), (1, .int a_1)] []
  obtain ⟨m_1, t_2, k_3, k_4, k_5, k_6, k_7, k_8, k_9, k_10, k_11, k_12, k_13, k_14, k_15, k_16, k_17, k_18, k_19, k_20⟩ := id k_0
  obtain ⟨m_21, t_22⟩ := id k_3
  have b_23 := o_w.r0
  have b_24 := o_w.w0
  refine v_aload_n hC dX12_best_0 rfl ?_
  refine v_iload_n hC dX12_best_1 rfl ?_
  obtain ⟨v_26, v_27, v_29, v_31, v_33, v_35, v_37, v_38, v_39, v_40, v_42, e_25, b_28, b_30, b_32, b_34, b_36, b_41, b_43⟩ := hW.at m_1 t_2
  refine v_vi hC (rest := []) m_1 e_25 rfl mi_X12_asksCloth ms_X12_asksCloth (p_X12_asksCloth hW k_0 e_w o_w) mx_X12_asksCloth ml_X12_376 (by decide) rfl (cells1 := 0) (slots1 := 0) (by decide) (by decide) (Nat.le_of_ble_eq_true rfl) (Nat.le_of_ble_eq_true rfl) rfl (Nat.le_of_ble_eq_true rfl) dX12_best_2 (fun r_44 L_45 f_46 h_47 => ?_)
  obtain ⟨rfl, rfl, b_48, h_49⟩ := h_47
  refine v_istore_n hC dX12_best_5 (by decide) (lv' := [(2, .int r_44), (0, .ref a_0), (1, .int a_1)]) rfl ?_
  refine v_iload_n hC dX12_best_6 rfl ?_
  refine v_if_ge hC dX12_best_7 (tgt := 12) (by decide) (fun h_52 => ?_) (fun h_52 => ?_)
  · simp only [Int32.lt_iff_toInt_lt, Int32.le_iff_toInt_le, Int32.reduceToInt, ← Int32.toInt_inj] at h_52
    refine v_aload_n hC dX12_best_12 rfl ?_
    refine v_vi hC (rest := []) m_1 e_25 rfl mi_X12_isSaid ms_X12_isSaid (p_X12_isSaid hW k_0 e_w o_w) mx_X12_isSaid ml_X12_410 (by decide) rfl (cells1 := 0) (slots1 := 0) (by decide) (by decide) (Nat.le_of_ble_eq_true rfl) (Nat.le_of_ble_eq_true rfl) rfl (Nat.le_of_ble_eq_true rfl) dX12_best_13 (fun r_53 L_54 f_55 h_56 => ?_)
    obtain ⟨rfl, rfl, b_57, x_58⟩ := h_56
    have fe_61 : fld (f a_0) 20 = (v_42 : Int32).toInt := by rw [e_25]; rfl
    rw [fe_61] at x_58
    try simp only [Int32.reduceToInt, Int64.reduceToInt] at x_58
    refine v_if_ne hC dX12_best_16 (tgt := 22) (by decide) (fun h_62 => ?_) (fun h_62 => ?_)
    · simp only [Int32.lt_iff_toInt_lt, Int32.le_iff_toInt_le, Int32.reduceToInt, ← Int32.toInt_inj] at h_62
      refine v_iconst hC dX12_best_22 (v := (-1)) (by decide) ?_
      refine v_istore_n hC dX12_best_23 (by decide) (lv' := [(3, .int (-1)), (2, .int r_44), (0, .ref a_0), (1, .int a_1)]) rfl ?_
      refine v_iconst hC dX12_best_24 (v := 0) (by decide) ?_
      refine v_istore hC dX12_best_25 (by decide) (lv' := [(4, .int 0), (3, .int (-1)), (2, .int r_44), (0, .ref a_0), (1, .int a_1)]) rfl ?_
      refine v_iconst hC dX12_best_27 (v := 0) (by decide) ?_
      refine v_istore hC dX12_best_28 (by decide) (lv' := [(5, .int 0), (4, .int 0), (3, .int (-1)), (2, .int r_44), (0, .ref a_0), (1, .int a_1)]) rfl ?_
      have lp_1980 : ∀ (n_1981 : Nat) (f_1973 : Nat → va_E) (hW_1974 : WT T L f_1973) (hF_1975 : FR [12, 108, 200, 356] f f_1973) (i_1970 : Int32) (b_1977 : (0 ≤ i_1970.toInt ∧ i_1970.toInt ≤ 6)) (i_1971 : Int32) (i_1972 : Int32) (b_1978 : ((-1) ≤ i_1972.toInt ∧ i_1972.toInt ≤ 5)) (nv_1979 : 1 ≤ fld (f_1973 a_0) 20) (hm_1983 : 6 - i_1970.toInt < (n_1981 : Int)), V z E 7 0 0 L f_1973 30 [(5, .int i_1970), (4, .int i_1971), (3, .int i_1972), (0, .ref a_0), (1, .int a_1)] [] := by
        intro n_1981
        induction n_1981 with
        | zero =>
          intro f_1973 hW_1974 hF_1975 i_1970 b_1977 i_1971 i_1972 b_1978 nv_1979 hm_1983
          have hf_1976 := hF_1975.at e_w rfl
          obtain ⟨v_1985, v_1986, v_1988, v_1990, v_1992, v_1994, v_1996, v_1997, v_1998, v_1999, v_2001, e_1984, b_1987, b_1989, b_1991, b_1993, b_1995, b_2000, b_2002⟩ := hW_1974.at m_1 t_2
          have fe_2003 : fld (f_1973 a_0) 20 = (v_2001 : Int32).toInt := by rw [e_1984]; rfl
          rw [fe_2003] at nv_1979
          exfalso; omega
        | succ n_1981 ih_1982 =>
          intro f_1973 hW_1974 hF_1975 i_1970 b_1977 i_1971 i_1972 b_1978 nv_1979 hm_1983
          have hf_1976 := hF_1975.at e_w rfl
          obtain ⟨v_1985, v_1986, v_1988, v_1990, v_1992, v_1994, v_1996, v_1997, v_1998, v_1999, v_2001, e_1984, b_1987, b_1989, b_1991, b_1993, b_1995, b_2000, b_2002⟩ := hW_1974.at m_1 t_2
          have fe_2003 : fld (f_1973 a_0) 20 = (v_2001 : Int32).toInt := by rw [e_1984]; rfl
          rw [fe_2003] at nv_1979
          refine v_iload hC dX12_best_30 rfl ?_
          refine v_bipush hC dX12_best_32 (v := 6) (by decide) ?_
          refine v_icmp_ge hC dX12_best_34 (tgt := 139) (by decide) (fun h_2004 => ?_) (fun h_2004 => ?_)
          · simp only [Int32.lt_iff_toInt_lt, Int32.le_iff_toInt_le, Int32.reduceToInt, ← Int32.toInt_inj] at h_2004
            refine v_iload_n hC dX12_best_139 rfl ?_
            exact hR _ _ _ _ _ _ _ dX12_best_140 rfl (Nat.le_of_ble_eq_true rfl) (Nat.le_of_ble_eq_true rfl) ⟨rfl, hW_1974, (hF_1975.mono rfl), (by first | omega | (simp only [Int32.lt_iff_toInt_lt, Int32.le_iff_toInt_le, Int32.reduceToInt, ← Int32.toInt_inj, true_and, and_true, or_true, true_or, false_or, or_false, false_and, and_false, not_true_eq_false, not_false_eq_true] <;> omega)), (.inr (by first | omega | (simp only [Int32.lt_iff_toInt_lt, Int32.le_iff_toInt_le, Int32.reduceToInt, ← Int32.toInt_inj, true_and, and_true, or_true, true_or, false_or, or_false, false_and, and_false, not_true_eq_false, not_false_eq_true] <;> omega)))⟩
          · simp only [Int32.lt_iff_toInt_lt, Int32.le_iff_toInt_le, Int32.reduceToInt, ← Int32.toInt_inj] at h_2004
            refine v_aload_n hC dX12_best_37 rfl ?_
            refine v_iload hC dX12_best_38 rfl ?_
            refine v_vi hC (rest := []) m_1 e_1984 rfl mi_X12_isTold ms_X12_isTold (p_X12_isTold hW_1974 k_0 (by first | omega | (simp only [Int32.lt_iff_toInt_lt, Int32.le_iff_toInt_le, Int32.reduceToInt, ← Int32.toInt_inj, true_and, and_true, or_true, true_or, false_or, or_false, false_and, and_false, not_true_eq_false, not_false_eq_true] <;> omega)) hf_1976 o_w) mx_X12_isTold ml_X12_354 (by decide) rfl (cells1 := 0) (slots1 := 0) (by decide) (by decide) (Nat.le_of_ble_eq_true rfl) (Nat.le_of_ble_eq_true rfl) rfl (Nat.le_of_ble_eq_true rfl) dX12_best_40 (fun r_2005 L_2006 f_2007 h_2008 => ?_)
            obtain ⟨rfl, rfl, b_2009, x_2010⟩ := h_2008
            try simp only [Int32.reduceToInt, Int64.reduceToInt] at x_2010
            refine v_if_eq hC dX12_best_43 (tgt := 133) (by decide) (fun h_2013 => ?_) (fun h_2013 => ?_)
            · simp only [Int32.lt_iff_toInt_lt, Int32.le_iff_toInt_le, Int32.reduceToInt, ← Int32.toInt_inj] at h_2013
              obtain ⟨v_2014, h_2015⟩ : ∃ v9 : Int32, i_1970 + Int32.ofInt 1 = v9 := ⟨_, rfl⟩
              have h_2016 := add_v (b := 1) h_2015 (by first | omega | (simp only [Int32.lt_iff_toInt_lt, Int32.le_iff_toInt_le, Int32.reduceToInt, ← Int32.toInt_inj, true_and, and_true, or_true, true_or, false_or, or_false, false_and, and_false, not_true_eq_false, not_false_eq_true] <;> omega)) (by first | omega | (simp only [Int32.lt_iff_toInt_lt, Int32.le_iff_toInt_le, Int32.reduceToInt, ← Int32.toInt_inj, true_and, and_true, or_true, true_or, false_or, or_false, false_and, and_false, not_true_eq_false, not_false_eq_true] <;> omega))
              simp only [Int32.reduceToInt] at h_2016
              refine v_iinc hC dX12_best_133 (k := 0) rfl (v := v_2014) h_2015 (by decide) (lv' := [(5, .int v_2014), (4, .int i_1971), (3, .int i_1972), (0, .ref a_0), (1, .int a_1)]) rfl ?_
              refine v_goto hC dX12_best_136 (tgt := 30) (by decide) ?_
              refine v_pick [0, 1, 2, 3, 4] rfl ?_
              have fe_2017 : fld (f_1973 a_0) 20 = (v_2001 : Int32).toInt := by rw [e_1984]; rfl
              exact ih_1982 f_1973 hW_1974 (hF_1975.mono rfl) v_2014 (by first | omega | (simp only [Int32.lt_iff_toInt_lt, Int32.le_iff_toInt_le, Int32.reduceToInt, ← Int32.toInt_inj, true_and, and_true, or_true, true_or, false_or, or_false, false_and, and_false, not_true_eq_false, not_false_eq_true] <;> omega)) i_1971 i_1972 (by first | omega | (simp only [Int32.lt_iff_toInt_lt, Int32.le_iff_toInt_le, Int32.reduceToInt, ← Int32.toInt_inj, true_and, and_true, or_true, true_or, false_or, or_false, false_and, and_false, not_true_eq_false, not_false_eq_true] <;> omega)) (by rw [fe_2017] <;> first | omega | (simp only [Int32.lt_iff_toInt_lt, Int32.le_iff_toInt_le, Int32.reduceToInt, ← Int32.toInt_inj, true_and, and_true, or_true, true_or, false_or, or_false, false_and, and_false, not_true_eq_false, not_false_eq_true] <;> omega)) (by first | omega | (simp only [Int32.lt_iff_toInt_lt, Int32.le_iff_toInt_le, Int32.reduceToInt, ← Int32.toInt_inj, true_and, and_true, or_true, true_or, false_or, or_false, false_and, and_false, not_true_eq_false, not_false_eq_true] <;> omega))
            · simp only [Int32.lt_iff_toInt_lt, Int32.le_iff_toInt_le, Int32.reduceToInt, ← Int32.toInt_inj] at h_2013
              refine v_iconst hC dX12_best_46 (v := 5) (by decide) ?_
              refine v_aload_n hC dX12_best_47 rfl ?_
              refine v_get hC fl_X12_49 m_1 e_1984 rfl dX12_best_48 ?_
              refine v_iconst hC dX12_best_51 (v := 1) (by decide) ?_
              obtain ⟨v_2018, h_2019⟩ : ∃ v9 : Int32, v_2001 + 1 = v9 := ⟨_, rfl⟩
              refine v_iadd hC dX12_best_52 h_2019 ?_
              have h_2020 := add_v h_2019 (by first | omega | (simp only [Int32.lt_iff_toInt_lt, Int32.le_iff_toInt_le, Int32.reduceToInt, ← Int32.toInt_inj, true_and, and_true, or_true, true_or, false_or, or_false, false_and, and_false, not_true_eq_false, not_false_eq_true] <;> omega)) (by first | omega | (simp only [Int32.lt_iff_toInt_lt, Int32.le_iff_toInt_le, Int32.reduceToInt, ← Int32.toInt_inj, true_and, and_true, or_true, true_or, false_or, or_false, false_and, and_false, not_true_eq_false, not_false_eq_true] <;> omega))
              try simp only [Int32.reduceToInt] at h_2020
              obtain ⟨v_2021, h_2022⟩ : ∃ v9 : Int32, (5 : Int32) * v_2018 = v9 := ⟨_, rfl⟩
              refine v_imul hC dX12_best_53 h_2022 ?_
              have h_2023 := mul_v 5 101 505 h_2022 (by decide) (by first | omega | (simp only [Int32.lt_iff_toInt_lt, Int32.le_iff_toInt_le, Int32.reduceToInt, ← Int32.toInt_inj, true_and, and_true, or_true, true_or, false_or, or_false, false_and, and_false, not_true_eq_false, not_false_eq_true] <;> omega)) (by decide) (by decide)
              try simp only [Int32.reduceToInt] at h_2023
              refine v_aload_n hC dX12_best_54 rfl ?_
              refine v_iload hC dX12_best_55 rfl ?_
              refine v_vi hC (rest := [.int v_2021]) m_1 e_1984 rfl mi_X12_roomOf ms_X12_roomOf (p_X12_roomOf hW_1974 k_0 (by first | omega | (simp only [Int32.lt_iff_toInt_lt, Int32.le_iff_toInt_le, Int32.reduceToInt, ← Int32.toInt_inj, true_and, and_true, or_true, true_or, false_or, or_false, false_and, and_false, not_true_eq_false, not_false_eq_true] <;> omega)) hf_1976 o_w (by first | omega | (simp only [Int32.lt_iff_toInt_lt, Int32.le_iff_toInt_le, Int32.reduceToInt, ← Int32.toInt_inj, true_and, and_true, or_true, true_or, false_or, or_false, false_and, and_false, not_true_eq_false, not_false_eq_true] <;> omega))) mx_X12_roomOf ml_X12_241 (by decide) rfl (cells1 := 0) (slots1 := 0) (by decide) (by decide) (Nat.le_of_ble_eq_true rfl) (Nat.le_of_ble_eq_true rfl) rfl (Nat.le_of_ble_eq_true rfl) dX12_best_57 (fun r_2024 L_2025 f_2026 h_2027 => ?_)
              obtain ⟨rfl, hW_2032, hF_2033, b_2028, x_2029, x_2030, x_2031⟩ := h_2027
              have fe_2034 : fld (f_1973 a_0) 20 = (v_2001 : Int32).toInt := by rw [e_1984]; rfl
              have hf_2035 := hF_2033.at hf_1976 rfl
              rw [fe_2034] at x_2031
              obtain ⟨v_2037, v_2038, v_2040, v_2042, v_2044, v_2046, v_2048, v_2049, v_2050, v_2051, v_2053, e_2036, b_2039, b_2041, b_2043, b_2045, b_2047, b_2052, b_2054⟩ := hW_2032.at m_1 t_2
              have fe_2055 : fld (f_2026 a_0) 20 = (v_2053 : Int32).toInt := by rw [e_2036]; rfl
              rw [fe_2055] at x_2031
              try simp only [Int32.reduceToInt, Int64.reduceToInt] at x_2029
              try simp only [Int32.reduceToInt, Int64.reduceToInt] at x_2030
              try simp only [Int32.reduceToInt, Int64.reduceToInt] at x_2031
              refine v_icmp_le hC dX12_best_60 (tgt := 66) (by decide) (fun h_2056 => ?_) (fun h_2056 => ?_)
              · simp only [Int32.lt_iff_toInt_lt, Int32.le_iff_toInt_le, Int32.reduceToInt, ← Int32.toInt_inj] at h_2056
                refine v_aload_n hC dX12_best_66 rfl ?_
                refine v_iload_n hC dX12_best_67 rfl ?_
                refine v_vv hC (rest := []) m_1 e_2036 rfl mi_X12_takes0 ms_X12_takes0 (p_X12_takes0 hW_2032 k_0 (by first | omega | (simp only [Int32.lt_iff_toInt_lt, Int32.le_iff_toInt_le, Int32.reduceToInt, ← Int32.toInt_inj, true_and, and_true, or_true, true_or, false_or, or_false, false_and, and_false, not_true_eq_false, not_false_eq_true] <;> omega)) hf_2035 o_w) mx_X12_takes0 ml_X12_363 (by decide) rfl (cells1 := 0) (slots1 := 0) (by decide) (by decide) (Nat.le_of_ble_eq_true rfl) (Nat.le_of_ble_eq_true rfl) rfl (Nat.le_of_ble_eq_true rfl) dX12_best_68 (fun L_2058 f_2059 h_2060 => ?_)
                obtain ⟨rfl, hW_2061, hF_2062⟩ := h_2060
                have hf_2063 := hF_2062.at hf_2035 rfl
                have hf_2064 := hF_2062.at e_2036 rfl
                refine v_aload_n hC dX12_best_71 rfl ?_
                refine v_iload hC dX12_best_72 rfl ?_
                refine v_aload_n hC dX12_best_74 rfl ?_
                refine v_get hC fl_X12_46 m_1 hf_2064 rfl dX12_best_75 ?_
                refine v_aload_n hC dX12_best_78 rfl ?_
                refine v_get hC fl_X12_49 m_1 hf_2064 rfl dX12_best_79 ?_
                refine v_vi hC (rest := []) m_1 hf_2064 rfl mi_X12_puts ms_X12_puts (p_X12_puts hW_2061 k_0 (by first | omega | (simp only [Int32.lt_iff_toInt_lt, Int32.le_iff_toInt_le, Int32.reduceToInt, ← Int32.toInt_inj, true_and, and_true, or_true, true_or, false_or, or_false, false_and, and_false, not_true_eq_false, not_false_eq_true] <;> omega)) k_12 (by first | omega | (simp only [Int32.lt_iff_toInt_lt, Int32.le_iff_toInt_le, Int32.reduceToInt, ← Int32.toInt_inj, true_and, and_true, or_true, true_or, false_or, or_false, false_and, and_false, not_true_eq_false, not_false_eq_true] <;> omega)) hf_2063 o_w (by first | omega | (simp only [Int32.lt_iff_toInt_lt, Int32.le_iff_toInt_le, Int32.reduceToInt, ← Int32.toInt_inj, true_and, and_true, or_true, true_or, false_or, or_false, false_and, and_false, not_true_eq_false, not_false_eq_true] <;> omega)) (fun i9 p9 q9 => x_2029 i9 p9 (by omega)) (by first | omega | (simp only [Int32.lt_iff_toInt_lt, Int32.le_iff_toInt_le, Int32.reduceToInt, ← Int32.toInt_inj, true_and, and_true, or_true, true_or, false_or, or_false, false_and, and_false, not_true_eq_false, not_false_eq_true] <;> omega))) mx_X12_puts ml_X12_366 (by decide) rfl (cells1 := 0) (slots1 := 0) (by decide) (by decide) (Nat.le_of_ble_eq_true rfl) (Nat.le_of_ble_eq_true rfl) rfl (Nat.le_of_ble_eq_true rfl) dX12_best_82 (fun r_2065 L_2066 f_2067 h_2068 => ?_)
                obtain ⟨rfl, hW_2069, hF_2070⟩ := h_2068
                have hf_2071 := hF_2070.at hf_2063 rfl
                have hf_2072 := hF_2070.at hf_2064 rfl
                refine v_istore hC dX12_best_85 (by decide) (lv' := [(6, .int r_2065), (5, .int i_1970), (4, .int i_1971), (3, .int i_1972), (0, .ref a_0), (1, .int a_1)]) rfl ?_
                refine v_iload_n hC dX12_best_87 rfl ?_
                refine v_iconst hC dX12_best_88 (v := (-1)) (by decide) ?_
                refine v_icmp_eq hC dX12_best_89 (tgt := 99) (by decide) (fun h_2073 => ?_) (fun h_2073 => ?_)
                · simp only [Int32.lt_iff_toInt_lt, Int32.le_iff_toInt_le, Int32.reduceToInt, ← Int32.toInt_inj] at h_2073
                  refine v_aload_n hC dX12_best_99 rfl ?_
                  refine v_vi hC (rest := []) m_1 hf_2072 rfl mi_X12_stopping ms_X12_stopping (p_X12_stopping hW_2069 k_0 hf_2071 o_w) mx_X12_stopping ml_X12_405 (by decide) rfl (cells1 := 0) (slots1 := 0) (by decide) (by decide) (Nat.le_of_ble_eq_true rfl) (Nat.le_of_ble_eq_true rfl) rfl (Nat.le_of_ble_eq_true rfl) dX12_best_100 (fun r_2074 L_2075 f_2076 h_2077 => ?_)
                  obtain ⟨rfl, hW_2079, hF_2080, b_2078⟩ := h_2077
                  have hf_2081 := hF_2080.at hf_2071 rfl
                  have hf_2082 := hF_2080.at hf_2072 rfl
                  refine v_iconst hC dX12_best_103 (v := (-1)) (by decide) ?_
                  refine v_icmp_eq hC dX12_best_104 (tgt := 110) (by decide) (fun h_2083 => ?_) (fun h_2083 => ?_)
                  · simp only [Int32.lt_iff_toInt_lt, Int32.le_iff_toInt_le, Int32.reduceToInt, ← Int32.toInt_inj] at h_2083
                    refine v_aload_n hC dX12_best_110 rfl ?_
                    refine v_vv hC (rest := []) m_1 hf_2082 rfl mi_X12_suffers ms_X12_suffers (p_X12_suffers hW_2079 k_0 hf_2081 o_w) mx_X12_suffers ml_X12_413 (by decide) rfl (cells1 := 0) (slots1 := 0) (by decide) (by decide) (Nat.le_of_ble_eq_true rfl) (Nat.le_of_ble_eq_true rfl) rfl (Nat.le_of_ble_eq_true rfl) dX12_best_111 (fun L_2085 f_2086 h_2087 => ?_)
                    obtain ⟨rfl, hW_2088, hF_2089⟩ := h_2087
                    have hf_2090 := hF_2089.at hf_2081 rfl
                    have hf_2091 := hF_2089.at hf_2082 rfl
                    refine v_aload_n hC dX12_best_114 rfl ?_
                    refine v_iload hC dX12_best_115 rfl ?_
                    refine v_vi hC (rest := []) m_1 hf_2091 rfl mi_X12_isReadAgain ms_X12_isReadAgain (p_X12_isReadAgain hW_2088 k_0 (by first | omega | (simp only [Int32.lt_iff_toInt_lt, Int32.le_iff_toInt_le, Int32.reduceToInt, ← Int32.toInt_inj, true_and, and_true, or_true, true_or, false_or, or_false, false_and, and_false, not_true_eq_false, not_false_eq_true] <;> omega)) hf_2090 o_w (by first | omega | (simp only [Int32.lt_iff_toInt_lt, Int32.le_iff_toInt_le, Int32.reduceToInt, ← Int32.toInt_inj, true_and, and_true, or_true, true_or, false_or, or_false, false_and, and_false, not_true_eq_false, not_false_eq_true] <;> omega))) mx_X12_isReadAgain ml_X12_416 (by decide) rfl (cells1 := 0) (slots1 := 0) (by decide) (by decide) (Nat.le_of_ble_eq_true rfl) (Nat.le_of_ble_eq_true rfl) rfl (Nat.le_of_ble_eq_true rfl) dX12_best_117 (fun r_2092 L_2093 f_2094 h_2095 => ?_)
                    obtain ⟨rfl, hW_2098, hF_2099, b_2096, x_2097⟩ := h_2095
                    have fe_2100 : fld (f_2086 a_0) 20 = (v_2053 : Int32).toInt := by rw [hf_2091]; rfl
                    have hf_2101 := hF_2099.at hf_2090 rfl
                    rw [fe_2100] at x_2097
                    obtain ⟨v_2103, v_2104, v_2106, v_2108, v_2110, v_2112, v_2114, v_2115, v_2116, v_2117, v_2119, e_2102, b_2105, b_2107, b_2109, b_2111, b_2113, b_2118, b_2120⟩ := hW_2098.at m_1 t_2
                    have fe_2121 : fld (f_2094 a_0) 20 = (v_2119 : Int32).toInt := by rw [e_2102]; rfl
                    rw [fe_2121] at x_2097
                    try simp only [Int32.reduceToInt, Int64.reduceToInt] at x_2097
                    refine v_if_ne hC dX12_best_120 (tgt := 126) (by decide) (fun h_2122 => ?_) (fun h_2122 => ?_)
                    · simp only [Int32.lt_iff_toInt_lt, Int32.le_iff_toInt_le, Int32.reduceToInt, ← Int32.toInt_inj] at h_2122
                      refine v_iload hC dX12_best_126 rfl ?_
                      refine v_istore_n hC dX12_best_128 (by decide) (lv' := [(3, .int i_1970), (6, .int r_2065), (5, .int i_1970), (4, .int i_1971), (0, .ref a_0), (1, .int a_1)]) rfl ?_
                      refine v_iload hC dX12_best_129 rfl ?_
                      refine v_istore hC dX12_best_131 (by decide) (lv' := [(4, .int r_2065), (3, .int i_1970), (6, .int r_2065), (5, .int i_1970), (0, .ref a_0), (1, .int a_1)]) rfl ?_
                      obtain ⟨v_2123, h_2124⟩ : ∃ v9 : Int32, i_1970 + Int32.ofInt 1 = v9 := ⟨_, rfl⟩
                      have h_2125 := add_v (b := 1) h_2124 (by first | omega | (simp only [Int32.lt_iff_toInt_lt, Int32.le_iff_toInt_le, Int32.reduceToInt, ← Int32.toInt_inj, true_and, and_true, or_true, true_or, false_or, or_false, false_and, and_false, not_true_eq_false, not_false_eq_true] <;> omega)) (by first | omega | (simp only [Int32.lt_iff_toInt_lt, Int32.le_iff_toInt_le, Int32.reduceToInt, ← Int32.toInt_inj, true_and, and_true, or_true, true_or, false_or, or_false, false_and, and_false, not_true_eq_false, not_false_eq_true] <;> omega))
                      simp only [Int32.reduceToInt] at h_2125
                      refine v_iinc hC dX12_best_133 (k := 3) rfl (v := v_2123) h_2124 (by decide) (lv' := [(5, .int v_2123), (4, .int r_2065), (3, .int i_1970), (6, .int r_2065), (0, .ref a_0), (1, .int a_1)]) rfl ?_
                      refine v_goto hC dX12_best_136 (tgt := 30) (by decide) ?_
                      refine v_pick [0, 1, 2, 4, 5] rfl ?_
                      have fe_2126 : fld (f_2094 a_0) 20 = (v_2119 : Int32).toInt := by rw [e_2102]; rfl
                      exact ih_1982 f_2094 hW_2098 (((((((hF_1975.tr hF_2033).tr hF_2062).tr hF_2070).tr hF_2080).tr hF_2089).tr hF_2099).mono rfl) v_2123 (by first | omega | (simp only [Int32.lt_iff_toInt_lt, Int32.le_iff_toInt_le, Int32.reduceToInt, ← Int32.toInt_inj, true_and, and_true, or_true, true_or, false_or, or_false, false_and, and_false, not_true_eq_false, not_false_eq_true] <;> omega)) r_2065 i_1970 (by first | omega | (simp only [Int32.lt_iff_toInt_lt, Int32.le_iff_toInt_le, Int32.reduceToInt, ← Int32.toInt_inj, true_and, and_true, or_true, true_or, false_or, or_false, false_and, and_false, not_true_eq_false, not_false_eq_true] <;> omega)) (by rw [fe_2126] <;> first | omega | (simp only [Int32.lt_iff_toInt_lt, Int32.le_iff_toInt_le, Int32.reduceToInt, ← Int32.toInt_inj, true_and, and_true, or_true, true_or, false_or, or_false, false_and, and_false, not_true_eq_false, not_false_eq_true] <;> omega)) (by first | omega | (simp only [Int32.lt_iff_toInt_lt, Int32.le_iff_toInt_le, Int32.reduceToInt, ← Int32.toInt_inj, true_and, and_true, or_true, true_or, false_or, or_false, false_and, and_false, not_true_eq_false, not_false_eq_true] <;> omega))
                    · simp only [Int32.lt_iff_toInt_lt, Int32.le_iff_toInt_le, Int32.reduceToInt, ← Int32.toInt_inj] at h_2122
                      refine v_goto hC dX12_best_123 (tgt := 133) (by decide) ?_
                      obtain ⟨v_2127, h_2128⟩ : ∃ v9 : Int32, i_1970 + Int32.ofInt 1 = v9 := ⟨_, rfl⟩
                      have h_2129 := add_v (b := 1) h_2128 (by first | omega | (simp only [Int32.lt_iff_toInt_lt, Int32.le_iff_toInt_le, Int32.reduceToInt, ← Int32.toInt_inj, true_and, and_true, or_true, true_or, false_or, or_false, false_and, and_false, not_true_eq_false, not_false_eq_true] <;> omega)) (by first | omega | (simp only [Int32.lt_iff_toInt_lt, Int32.le_iff_toInt_le, Int32.reduceToInt, ← Int32.toInt_inj, true_and, and_true, or_true, true_or, false_or, or_false, false_and, and_false, not_true_eq_false, not_false_eq_true] <;> omega))
                      simp only [Int32.reduceToInt] at h_2129
                      refine v_iinc hC dX12_best_133 (k := 1) rfl (v := v_2127) h_2128 (by decide) (lv' := [(5, .int v_2127), (6, .int r_2065), (4, .int i_1971), (3, .int i_1972), (0, .ref a_0), (1, .int a_1)]) rfl ?_
                      refine v_goto hC dX12_best_136 (tgt := 30) (by decide) ?_
                      refine v_pick [0, 2, 3, 4, 5] rfl ?_
                      have fe_2130 : fld (f_2094 a_0) 20 = (v_2119 : Int32).toInt := by rw [e_2102]; rfl
                      exact ih_1982 f_2094 hW_2098 (((((((hF_1975.tr hF_2033).tr hF_2062).tr hF_2070).tr hF_2080).tr hF_2089).tr hF_2099).mono rfl) v_2127 (by first | omega | (simp only [Int32.lt_iff_toInt_lt, Int32.le_iff_toInt_le, Int32.reduceToInt, ← Int32.toInt_inj, true_and, and_true, or_true, true_or, false_or, or_false, false_and, and_false, not_true_eq_false, not_false_eq_true] <;> omega)) i_1971 i_1972 (by first | omega | (simp only [Int32.lt_iff_toInt_lt, Int32.le_iff_toInt_le, Int32.reduceToInt, ← Int32.toInt_inj, true_and, and_true, or_true, true_or, false_or, or_false, false_and, and_false, not_true_eq_false, not_false_eq_true] <;> omega)) (by rw [fe_2130] <;> first | omega | (simp only [Int32.lt_iff_toInt_lt, Int32.le_iff_toInt_le, Int32.reduceToInt, ← Int32.toInt_inj, true_and, and_true, or_true, true_or, false_or, or_false, false_and, and_false, not_true_eq_false, not_false_eq_true] <;> omega)) (by first | omega | (simp only [Int32.lt_iff_toInt_lt, Int32.le_iff_toInt_le, Int32.reduceToInt, ← Int32.toInt_inj, true_and, and_true, or_true, true_or, false_or, or_false, false_and, and_false, not_true_eq_false, not_false_eq_true] <;> omega))
                  · simp only [Int32.lt_iff_toInt_lt, Int32.le_iff_toInt_le, Int32.reduceToInt, ← Int32.toInt_inj] at h_2083
                    refine v_goto hC dX12_best_107 (tgt := 133) (by decide) ?_
                    obtain ⟨v_2131, h_2132⟩ : ∃ v9 : Int32, i_1970 + Int32.ofInt 1 = v9 := ⟨_, rfl⟩
                    have h_2133 := add_v (b := 1) h_2132 (by first | omega | (simp only [Int32.lt_iff_toInt_lt, Int32.le_iff_toInt_le, Int32.reduceToInt, ← Int32.toInt_inj, true_and, and_true, or_true, true_or, false_or, or_false, false_and, and_false, not_true_eq_false, not_false_eq_true] <;> omega)) (by first | omega | (simp only [Int32.lt_iff_toInt_lt, Int32.le_iff_toInt_le, Int32.reduceToInt, ← Int32.toInt_inj, true_and, and_true, or_true, true_or, false_or, or_false, false_and, and_false, not_true_eq_false, not_false_eq_true] <;> omega))
                    simp only [Int32.reduceToInt] at h_2133
                    refine v_iinc hC dX12_best_133 (k := 1) rfl (v := v_2131) h_2132 (by decide) (lv' := [(5, .int v_2131), (6, .int r_2065), (4, .int i_1971), (3, .int i_1972), (0, .ref a_0), (1, .int a_1)]) rfl ?_
                    refine v_goto hC dX12_best_136 (tgt := 30) (by decide) ?_
                    refine v_pick [0, 2, 3, 4, 5] rfl ?_
                    have fe_2134 : fld (f_2076 a_0) 20 = (v_2053 : Int32).toInt := by rw [hf_2082]; rfl
                    exact ih_1982 f_2076 hW_2079 (((((hF_1975.tr hF_2033).tr hF_2062).tr hF_2070).tr hF_2080).mono rfl) v_2131 (by first | omega | (simp only [Int32.lt_iff_toInt_lt, Int32.le_iff_toInt_le, Int32.reduceToInt, ← Int32.toInt_inj, true_and, and_true, or_true, true_or, false_or, or_false, false_and, and_false, not_true_eq_false, not_false_eq_true] <;> omega)) i_1971 i_1972 (by first | omega | (simp only [Int32.lt_iff_toInt_lt, Int32.le_iff_toInt_le, Int32.reduceToInt, ← Int32.toInt_inj, true_and, and_true, or_true, true_or, false_or, or_false, false_and, and_false, not_true_eq_false, not_false_eq_true] <;> omega)) (by rw [fe_2134] <;> first | omega | (simp only [Int32.lt_iff_toInt_lt, Int32.le_iff_toInt_le, Int32.reduceToInt, ← Int32.toInt_inj, true_and, and_true, or_true, true_or, false_or, or_false, false_and, and_false, not_true_eq_false, not_false_eq_true] <;> omega)) (by first | omega | (simp only [Int32.lt_iff_toInt_lt, Int32.le_iff_toInt_le, Int32.reduceToInt, ← Int32.toInt_inj, true_and, and_true, or_true, true_or, false_or, or_false, false_and, and_false, not_true_eq_false, not_false_eq_true] <;> omega))
                · simp only [Int32.lt_iff_toInt_lt, Int32.le_iff_toInt_le, Int32.reduceToInt, ← Int32.toInt_inj] at h_2073
                  refine v_iload hC dX12_best_92 rfl ?_
                  refine v_iload hC dX12_best_94 rfl ?_
                  refine v_icmp_ge hC dX12_best_96 (tgt := 133) (by decide) (fun h_2135 => ?_) (fun h_2135 => ?_)
                  · simp only [Int32.lt_iff_toInt_lt, Int32.le_iff_toInt_le, Int32.reduceToInt, ← Int32.toInt_inj] at h_2135
                    obtain ⟨v_2136, h_2137⟩ : ∃ v9 : Int32, i_1970 + Int32.ofInt 1 = v9 := ⟨_, rfl⟩
                    have h_2138 := add_v (b := 1) h_2137 (by first | omega | (simp only [Int32.lt_iff_toInt_lt, Int32.le_iff_toInt_le, Int32.reduceToInt, ← Int32.toInt_inj, true_and, and_true, or_true, true_or, false_or, or_false, false_and, and_false, not_true_eq_false, not_false_eq_true] <;> omega)) (by first | omega | (simp only [Int32.lt_iff_toInt_lt, Int32.le_iff_toInt_le, Int32.reduceToInt, ← Int32.toInt_inj, true_and, and_true, or_true, true_or, false_or, or_false, false_and, and_false, not_true_eq_false, not_false_eq_true] <;> omega))
                    simp only [Int32.reduceToInt] at h_2138
                    refine v_iinc hC dX12_best_133 (k := 1) rfl (v := v_2136) h_2137 (by decide) (lv' := [(5, .int v_2136), (6, .int r_2065), (4, .int i_1971), (3, .int i_1972), (0, .ref a_0), (1, .int a_1)]) rfl ?_
                    refine v_goto hC dX12_best_136 (tgt := 30) (by decide) ?_
                    refine v_pick [0, 2, 3, 4, 5] rfl ?_
                    have fe_2139 : fld (f_2067 a_0) 20 = (v_2053 : Int32).toInt := by rw [hf_2072]; rfl
                    exact ih_1982 f_2067 hW_2069 ((((hF_1975.tr hF_2033).tr hF_2062).tr hF_2070).mono rfl) v_2136 (by first | omega | (simp only [Int32.lt_iff_toInt_lt, Int32.le_iff_toInt_le, Int32.reduceToInt, ← Int32.toInt_inj, true_and, and_true, or_true, true_or, false_or, or_false, false_and, and_false, not_true_eq_false, not_false_eq_true] <;> omega)) i_1971 i_1972 (by first | omega | (simp only [Int32.lt_iff_toInt_lt, Int32.le_iff_toInt_le, Int32.reduceToInt, ← Int32.toInt_inj, true_and, and_true, or_true, true_or, false_or, or_false, false_and, and_false, not_true_eq_false, not_false_eq_true] <;> omega)) (by rw [fe_2139] <;> first | omega | (simp only [Int32.lt_iff_toInt_lt, Int32.le_iff_toInt_le, Int32.reduceToInt, ← Int32.toInt_inj, true_and, and_true, or_true, true_or, false_or, or_false, false_and, and_false, not_true_eq_false, not_false_eq_true] <;> omega)) (by first | omega | (simp only [Int32.lt_iff_toInt_lt, Int32.le_iff_toInt_le, Int32.reduceToInt, ← Int32.toInt_inj, true_and, and_true, or_true, true_or, false_or, or_false, false_and, and_false, not_true_eq_false, not_false_eq_true] <;> omega))
                  · simp only [Int32.lt_iff_toInt_lt, Int32.le_iff_toInt_le, Int32.reduceToInt, ← Int32.toInt_inj] at h_2135
                    refine v_aload_n hC dX12_best_99 rfl ?_
                    refine v_vi hC (rest := []) m_1 hf_2072 rfl mi_X12_stopping ms_X12_stopping (p_X12_stopping hW_2069 k_0 hf_2071 o_w) mx_X12_stopping ml_X12_405 (by decide) rfl (cells1 := 0) (slots1 := 0) (by decide) (by decide) (Nat.le_of_ble_eq_true rfl) (Nat.le_of_ble_eq_true rfl) rfl (Nat.le_of_ble_eq_true rfl) dX12_best_100 (fun r_2140 L_2141 f_2142 h_2143 => ?_)
                    obtain ⟨rfl, hW_2145, hF_2146, b_2144⟩ := h_2143
                    have hf_2147 := hF_2146.at hf_2071 rfl
                    have hf_2148 := hF_2146.at hf_2072 rfl
                    refine v_iconst hC dX12_best_103 (v := (-1)) (by decide) ?_
                    refine v_icmp_eq hC dX12_best_104 (tgt := 110) (by decide) (fun h_2149 => ?_) (fun h_2149 => ?_)
                    · simp only [Int32.lt_iff_toInt_lt, Int32.le_iff_toInt_le, Int32.reduceToInt, ← Int32.toInt_inj] at h_2149
                      refine v_aload_n hC dX12_best_110 rfl ?_
                      refine v_vv hC (rest := []) m_1 hf_2148 rfl mi_X12_suffers ms_X12_suffers (p_X12_suffers hW_2145 k_0 hf_2147 o_w) mx_X12_suffers ml_X12_413 (by decide) rfl (cells1 := 0) (slots1 := 0) (by decide) (by decide) (Nat.le_of_ble_eq_true rfl) (Nat.le_of_ble_eq_true rfl) rfl (Nat.le_of_ble_eq_true rfl) dX12_best_111 (fun L_2151 f_2152 h_2153 => ?_)
                      obtain ⟨rfl, hW_2154, hF_2155⟩ := h_2153
                      have hf_2156 := hF_2155.at hf_2147 rfl
                      have hf_2157 := hF_2155.at hf_2148 rfl
                      refine v_aload_n hC dX12_best_114 rfl ?_
                      refine v_iload hC dX12_best_115 rfl ?_
                      refine v_vi hC (rest := []) m_1 hf_2157 rfl mi_X12_isReadAgain ms_X12_isReadAgain (p_X12_isReadAgain hW_2154 k_0 (by first | omega | (simp only [Int32.lt_iff_toInt_lt, Int32.le_iff_toInt_le, Int32.reduceToInt, ← Int32.toInt_inj, true_and, and_true, or_true, true_or, false_or, or_false, false_and, and_false, not_true_eq_false, not_false_eq_true] <;> omega)) hf_2156 o_w (by first | omega | (simp only [Int32.lt_iff_toInt_lt, Int32.le_iff_toInt_le, Int32.reduceToInt, ← Int32.toInt_inj, true_and, and_true, or_true, true_or, false_or, or_false, false_and, and_false, not_true_eq_false, not_false_eq_true] <;> omega))) mx_X12_isReadAgain ml_X12_416 (by decide) rfl (cells1 := 0) (slots1 := 0) (by decide) (by decide) (Nat.le_of_ble_eq_true rfl) (Nat.le_of_ble_eq_true rfl) rfl (Nat.le_of_ble_eq_true rfl) dX12_best_117 (fun r_2158 L_2159 f_2160 h_2161 => ?_)
                      obtain ⟨rfl, hW_2164, hF_2165, b_2162, x_2163⟩ := h_2161
                      have fe_2166 : fld (f_2152 a_0) 20 = (v_2053 : Int32).toInt := by rw [hf_2157]; rfl
                      have hf_2167 := hF_2165.at hf_2156 rfl
                      rw [fe_2166] at x_2163
                      obtain ⟨v_2169, v_2170, v_2172, v_2174, v_2176, v_2178, v_2180, v_2181, v_2182, v_2183, v_2185, e_2168, b_2171, b_2173, b_2175, b_2177, b_2179, b_2184, b_2186⟩ := hW_2164.at m_1 t_2
                      have fe_2187 : fld (f_2160 a_0) 20 = (v_2185 : Int32).toInt := by rw [e_2168]; rfl
                      rw [fe_2187] at x_2163
                      try simp only [Int32.reduceToInt, Int64.reduceToInt] at x_2163
                      refine v_if_ne hC dX12_best_120 (tgt := 126) (by decide) (fun h_2188 => ?_) (fun h_2188 => ?_)
                      · simp only [Int32.lt_iff_toInt_lt, Int32.le_iff_toInt_le, Int32.reduceToInt, ← Int32.toInt_inj] at h_2188
                        refine v_iload hC dX12_best_126 rfl ?_
                        refine v_istore_n hC dX12_best_128 (by decide) (lv' := [(3, .int i_1970), (6, .int r_2065), (5, .int i_1970), (4, .int i_1971), (0, .ref a_0), (1, .int a_1)]) rfl ?_
                        refine v_iload hC dX12_best_129 rfl ?_
                        refine v_istore hC dX12_best_131 (by decide) (lv' := [(4, .int r_2065), (3, .int i_1970), (6, .int r_2065), (5, .int i_1970), (0, .ref a_0), (1, .int a_1)]) rfl ?_
                        obtain ⟨v_2189, h_2190⟩ : ∃ v9 : Int32, i_1970 + Int32.ofInt 1 = v9 := ⟨_, rfl⟩
                        have h_2191 := add_v (b := 1) h_2190 (by first | omega | (simp only [Int32.lt_iff_toInt_lt, Int32.le_iff_toInt_le, Int32.reduceToInt, ← Int32.toInt_inj, true_and, and_true, or_true, true_or, false_or, or_false, false_and, and_false, not_true_eq_false, not_false_eq_true] <;> omega)) (by first | omega | (simp only [Int32.lt_iff_toInt_lt, Int32.le_iff_toInt_le, Int32.reduceToInt, ← Int32.toInt_inj, true_and, and_true, or_true, true_or, false_or, or_false, false_and, and_false, not_true_eq_false, not_false_eq_true] <;> omega))
                        simp only [Int32.reduceToInt] at h_2191
                        refine v_iinc hC dX12_best_133 (k := 3) rfl (v := v_2189) h_2190 (by decide) (lv' := [(5, .int v_2189), (4, .int r_2065), (3, .int i_1970), (6, .int r_2065), (0, .ref a_0), (1, .int a_1)]) rfl ?_
                        refine v_goto hC dX12_best_136 (tgt := 30) (by decide) ?_
                        refine v_pick [0, 1, 2, 4, 5] rfl ?_
                        have fe_2192 : fld (f_2160 a_0) 20 = (v_2185 : Int32).toInt := by rw [e_2168]; rfl
                        exact ih_1982 f_2160 hW_2164 (((((((hF_1975.tr hF_2033).tr hF_2062).tr hF_2070).tr hF_2146).tr hF_2155).tr hF_2165).mono rfl) v_2189 (by first | omega | (simp only [Int32.lt_iff_toInt_lt, Int32.le_iff_toInt_le, Int32.reduceToInt, ← Int32.toInt_inj, true_and, and_true, or_true, true_or, false_or, or_false, false_and, and_false, not_true_eq_false, not_false_eq_true] <;> omega)) r_2065 i_1970 (by first | omega | (simp only [Int32.lt_iff_toInt_lt, Int32.le_iff_toInt_le, Int32.reduceToInt, ← Int32.toInt_inj, true_and, and_true, or_true, true_or, false_or, or_false, false_and, and_false, not_true_eq_false, not_false_eq_true] <;> omega)) (by rw [fe_2192] <;> first | omega | (simp only [Int32.lt_iff_toInt_lt, Int32.le_iff_toInt_le, Int32.reduceToInt, ← Int32.toInt_inj, true_and, and_true, or_true, true_or, false_or, or_false, false_and, and_false, not_true_eq_false, not_false_eq_true] <;> omega)) (by first | omega | (simp only [Int32.lt_iff_toInt_lt, Int32.le_iff_toInt_le, Int32.reduceToInt, ← Int32.toInt_inj, true_and, and_true, or_true, true_or, false_or, or_false, false_and, and_false, not_true_eq_false, not_false_eq_true] <;> omega))
                      · simp only [Int32.lt_iff_toInt_lt, Int32.le_iff_toInt_le, Int32.reduceToInt, ← Int32.toInt_inj] at h_2188
                        refine v_goto hC dX12_best_123 (tgt := 133) (by decide) ?_
                        obtain ⟨v_2193, h_2194⟩ : ∃ v9 : Int32, i_1970 + Int32.ofInt 1 = v9 := ⟨_, rfl⟩
                        have h_2195 := add_v (b := 1) h_2194 (by first | omega | (simp only [Int32.lt_iff_toInt_lt, Int32.le_iff_toInt_le, Int32.reduceToInt, ← Int32.toInt_inj, true_and, and_true, or_true, true_or, false_or, or_false, false_and, and_false, not_true_eq_false, not_false_eq_true] <;> omega)) (by first | omega | (simp only [Int32.lt_iff_toInt_lt, Int32.le_iff_toInt_le, Int32.reduceToInt, ← Int32.toInt_inj, true_and, and_true, or_true, true_or, false_or, or_false, false_and, and_false, not_true_eq_false, not_false_eq_true] <;> omega))
                        simp only [Int32.reduceToInt] at h_2195
                        refine v_iinc hC dX12_best_133 (k := 1) rfl (v := v_2193) h_2194 (by decide) (lv' := [(5, .int v_2193), (6, .int r_2065), (4, .int i_1971), (3, .int i_1972), (0, .ref a_0), (1, .int a_1)]) rfl ?_
                        refine v_goto hC dX12_best_136 (tgt := 30) (by decide) ?_
                        refine v_pick [0, 2, 3, 4, 5] rfl ?_
                        have fe_2196 : fld (f_2160 a_0) 20 = (v_2185 : Int32).toInt := by rw [e_2168]; rfl
                        exact ih_1982 f_2160 hW_2164 (((((((hF_1975.tr hF_2033).tr hF_2062).tr hF_2070).tr hF_2146).tr hF_2155).tr hF_2165).mono rfl) v_2193 (by first | omega | (simp only [Int32.lt_iff_toInt_lt, Int32.le_iff_toInt_le, Int32.reduceToInt, ← Int32.toInt_inj, true_and, and_true, or_true, true_or, false_or, or_false, false_and, and_false, not_true_eq_false, not_false_eq_true] <;> omega)) i_1971 i_1972 (by first | omega | (simp only [Int32.lt_iff_toInt_lt, Int32.le_iff_toInt_le, Int32.reduceToInt, ← Int32.toInt_inj, true_and, and_true, or_true, true_or, false_or, or_false, false_and, and_false, not_true_eq_false, not_false_eq_true] <;> omega)) (by rw [fe_2196] <;> first | omega | (simp only [Int32.lt_iff_toInt_lt, Int32.le_iff_toInt_le, Int32.reduceToInt, ← Int32.toInt_inj, true_and, and_true, or_true, true_or, false_or, or_false, false_and, and_false, not_true_eq_false, not_false_eq_true] <;> omega)) (by first | omega | (simp only [Int32.lt_iff_toInt_lt, Int32.le_iff_toInt_le, Int32.reduceToInt, ← Int32.toInt_inj, true_and, and_true, or_true, true_or, false_or, or_false, false_and, and_false, not_true_eq_false, not_false_eq_true] <;> omega))
                    · simp only [Int32.lt_iff_toInt_lt, Int32.le_iff_toInt_le, Int32.reduceToInt, ← Int32.toInt_inj] at h_2149
                      refine v_goto hC dX12_best_107 (tgt := 133) (by decide) ?_
                      obtain ⟨v_2197, h_2198⟩ : ∃ v9 : Int32, i_1970 + Int32.ofInt 1 = v9 := ⟨_, rfl⟩
                      have h_2199 := add_v (b := 1) h_2198 (by first | omega | (simp only [Int32.lt_iff_toInt_lt, Int32.le_iff_toInt_le, Int32.reduceToInt, ← Int32.toInt_inj, true_and, and_true, or_true, true_or, false_or, or_false, false_and, and_false, not_true_eq_false, not_false_eq_true] <;> omega)) (by first | omega | (simp only [Int32.lt_iff_toInt_lt, Int32.le_iff_toInt_le, Int32.reduceToInt, ← Int32.toInt_inj, true_and, and_true, or_true, true_or, false_or, or_false, false_and, and_false, not_true_eq_false, not_false_eq_true] <;> omega))
                      simp only [Int32.reduceToInt] at h_2199
                      refine v_iinc hC dX12_best_133 (k := 1) rfl (v := v_2197) h_2198 (by decide) (lv' := [(5, .int v_2197), (6, .int r_2065), (4, .int i_1971), (3, .int i_1972), (0, .ref a_0), (1, .int a_1)]) rfl ?_
                      refine v_goto hC dX12_best_136 (tgt := 30) (by decide) ?_
                      refine v_pick [0, 2, 3, 4, 5] rfl ?_
                      have fe_2200 : fld (f_2142 a_0) 20 = (v_2053 : Int32).toInt := by rw [hf_2148]; rfl
                      exact ih_1982 f_2142 hW_2145 (((((hF_1975.tr hF_2033).tr hF_2062).tr hF_2070).tr hF_2146).mono rfl) v_2197 (by first | omega | (simp only [Int32.lt_iff_toInt_lt, Int32.le_iff_toInt_le, Int32.reduceToInt, ← Int32.toInt_inj, true_and, and_true, or_true, true_or, false_or, or_false, false_and, and_false, not_true_eq_false, not_false_eq_true] <;> omega)) i_1971 i_1972 (by first | omega | (simp only [Int32.lt_iff_toInt_lt, Int32.le_iff_toInt_le, Int32.reduceToInt, ← Int32.toInt_inj, true_and, and_true, or_true, true_or, false_or, or_false, false_and, and_false, not_true_eq_false, not_false_eq_true] <;> omega)) (by rw [fe_2200] <;> first | omega | (simp only [Int32.lt_iff_toInt_lt, Int32.le_iff_toInt_le, Int32.reduceToInt, ← Int32.toInt_inj, true_and, and_true, or_true, true_or, false_or, or_false, false_and, and_false, not_true_eq_false, not_false_eq_true] <;> omega)) (by first | omega | (simp only [Int32.lt_iff_toInt_lt, Int32.le_iff_toInt_le, Int32.reduceToInt, ← Int32.toInt_inj, true_and, and_true, or_true, true_or, false_or, or_false, false_and, and_false, not_true_eq_false, not_false_eq_true] <;> omega))
              · simp only [Int32.lt_iff_toInt_lt, Int32.le_iff_toInt_le, Int32.reduceToInt, ← Int32.toInt_inj] at h_2056
                refine v_goto hC dX12_best_63 (tgt := 133) (by decide) ?_
                obtain ⟨v_2201, h_2202⟩ : ∃ v9 : Int32, i_1970 + Int32.ofInt 1 = v9 := ⟨_, rfl⟩
                have h_2203 := add_v (b := 1) h_2202 (by first | omega | (simp only [Int32.lt_iff_toInt_lt, Int32.le_iff_toInt_le, Int32.reduceToInt, ← Int32.toInt_inj, true_and, and_true, or_true, true_or, false_or, or_false, false_and, and_false, not_true_eq_false, not_false_eq_true] <;> omega)) (by first | omega | (simp only [Int32.lt_iff_toInt_lt, Int32.le_iff_toInt_le, Int32.reduceToInt, ← Int32.toInt_inj, true_and, and_true, or_true, true_or, false_or, or_false, false_and, and_false, not_true_eq_false, not_false_eq_true] <;> omega))
                simp only [Int32.reduceToInt] at h_2203
                refine v_iinc hC dX12_best_133 (k := 0) rfl (v := v_2201) h_2202 (by decide) (lv' := [(5, .int v_2201), (4, .int i_1971), (3, .int i_1972), (0, .ref a_0), (1, .int a_1)]) rfl ?_
                refine v_goto hC dX12_best_136 (tgt := 30) (by decide) ?_
                refine v_pick [0, 1, 2, 3, 4] rfl ?_
                have fe_2204 : fld (f_2026 a_0) 20 = (v_2053 : Int32).toInt := by rw [e_2036]; rfl
                exact ih_1982 f_2026 hW_2032 ((hF_1975.tr hF_2033).mono rfl) v_2201 (by first | omega | (simp only [Int32.lt_iff_toInt_lt, Int32.le_iff_toInt_le, Int32.reduceToInt, ← Int32.toInt_inj, true_and, and_true, or_true, true_or, false_or, or_false, false_and, and_false, not_true_eq_false, not_false_eq_true] <;> omega)) i_1971 i_1972 (by first | omega | (simp only [Int32.lt_iff_toInt_lt, Int32.le_iff_toInt_le, Int32.reduceToInt, ← Int32.toInt_inj, true_and, and_true, or_true, true_or, false_or, or_false, false_and, and_false, not_true_eq_false, not_false_eq_true] <;> omega)) (by rw [fe_2204] <;> first | omega | (simp only [Int32.lt_iff_toInt_lt, Int32.le_iff_toInt_le, Int32.reduceToInt, ← Int32.toInt_inj, true_and, and_true, or_true, true_or, false_or, or_false, false_and, and_false, not_true_eq_false, not_false_eq_true] <;> omega)) (by first | omega | (simp only [Int32.lt_iff_toInt_lt, Int32.le_iff_toInt_le, Int32.reduceToInt, ← Int32.toInt_inj, true_and, and_true, or_true, true_or, false_or, or_false, false_and, and_false, not_true_eq_false, not_false_eq_true] <;> omega))
      refine v_pick [0, 1, 2, 4, 5] rfl ?_
      have fe_2205 : fld (f a_0) 20 = (v_42 : Int32).toInt := by rw [e_25]; rfl
      exact lp_1980 8 f hW FR.rf 0 (by decide) 0 (-1) (by decide) (by rw [fe_2205] <;> first | omega | (simp only [Int32.lt_iff_toInt_lt, Int32.le_iff_toInt_le, Int32.reduceToInt, ← Int32.toInt_inj, true_and, and_true, or_true, true_or, false_or, or_false, false_and, and_false, not_true_eq_false, not_false_eq_true] <;> omega)) (by decide)
    · simp only [Int32.lt_iff_toInt_lt, Int32.le_iff_toInt_le, Int32.reduceToInt, ← Int32.toInt_inj] at h_62
      refine v_bipush hC dX12_best_19 (v := (-5)) (by decide) ?_
      exact hR _ _ _ _ _ _ _ dX12_best_21 rfl (Nat.le_of_ble_eq_true rfl) (Nat.le_of_ble_eq_true rfl) ⟨rfl, hW, FR.rf, (by decide), (.inl (by decide))⟩
  · simp only [Int32.lt_iff_toInt_lt, Int32.le_iff_toInt_le, Int32.reduceToInt, ← Int32.toInt_inj] at h_52
    refine v_iload_n hC dX12_best_10 rfl ?_
    exact hR _ _ _ _ _ _ _ dX12_best_11 rfl (Nat.le_of_ble_eq_true rfl) (Nat.le_of_ble_eq_true rfl) ⟨rfl, hW, FR.rf, (by first | omega | (simp only [Int32.lt_iff_toInt_lt, Int32.le_iff_toInt_le, Int32.reduceToInt, ← Int32.toInt_inj, true_and, and_true, or_true, true_or, false_or, or_false, false_and, and_false, not_true_eq_false, not_false_eq_true] <;> omega)), (by first | omega | (simp only [Int32.lt_iff_toInt_lt, Int32.le_iff_toInt_le, Int32.reduceToInt, ← Int32.toInt_inj, true_and, and_true, or_true, true_or, false_or, or_false, false_and, and_false, not_true_eq_false, not_false_eq_true] <;> omega))⟩
set_option maxRecDepth 100000 in
set_option maxHeartbeats 4000000 in
theorem p_X12_lose {l : Launch} {E : Ez} {L : List Nat} {f : Nat → va_E} {T : Nat → va_E → Prop} {a_0 : Nat} {a_1 : Int32} {q : Nat → Nat} {g_w : Nat → Int32} (hW : WT T L f) (k_0 : isM T L E a_0 q) (e_w : f (q 1) = aI E 2076 g_w) (o_w : WOK g_w) : CI l yX12_lose cX12_lose 5 .int 3 0 0 E [.ref a_0, .int a_1] L f (fun r L1 f1 => L = L1 ∧ WT T L f1 ∧ FR [356, 2176] f f1 ∧ (¬ r.toInt = 0 ∨ (0 ≤ a_1.toInt ∧ a_1.toInt ≤ 3))) := by
  refine ci_of (by decide) (Nat.le_of_ble_eq_true rfl) (fun z hz hnm hC hR => ?_)
  have hC : Cx z E cX12_lose RX12 5 3 0 0 := hC
  subst hz
  show V z E 5 0 0 L f 0 [(0, .ref a_0), (1, .int a_1)] []
  obtain ⟨m_1, t_2, k_3, k_4, k_5, k_6, k_7, k_8, k_9, k_10, k_11, k_12, k_13, k_14, k_15, k_16, k_17, k_18, k_19, k_20⟩ := id k_0
  obtain ⟨m_21, t_22⟩ := id k_3
  have b_23 := o_w.r0
  have b_24 := o_w.w0
  refine v_aload_n hC dX12_lose_0 rfl ?_
  refine v_iload_n hC dX12_lose_1 rfl ?_
  obtain ⟨v_26, v_27, v_29, v_31, v_33, v_35, v_37, v_38, v_39, v_40, v_42, e_25, b_28, b_30, b_32, b_34, b_36, b_41, b_43⟩ := hW.at m_1 t_2
  refine v_vi hC (rest := []) m_1 e_25 rfl mi_X12_asksCloth ms_X12_asksCloth (p_X12_asksCloth hW k_0 e_w o_w) mx_X12_asksCloth ml_X12_376 (by decide) rfl (cells1 := 0) (slots1 := 0) (by decide) (by decide) (Nat.le_of_ble_eq_true rfl) (Nat.le_of_ble_eq_true rfl) rfl (Nat.le_of_ble_eq_true rfl) dX12_lose_2 (fun r_44 L_45 f_46 h_47 => ?_)
  obtain ⟨rfl, rfl, b_48, h_49⟩ := h_47
  refine v_istore_n hC dX12_lose_5 (by decide) (lv' := [(2, .int r_44), (0, .ref a_0), (1, .int a_1)]) rfl ?_
  refine v_iload_n hC dX12_lose_6 rfl ?_
  refine v_if_ge hC dX12_lose_7 (tgt := 12) (by decide) (fun h_52 => ?_) (fun h_52 => ?_)
  · simp only [Int32.lt_iff_toInt_lt, Int32.le_iff_toInt_le, Int32.reduceToInt, ← Int32.toInt_inj] at h_52
    refine v_aload_n hC dX12_lose_12 rfl ?_
    refine v_iload_n hC dX12_lose_13 rfl ?_
    refine v_vv hC (rest := []) m_1 e_25 rfl mi_X12_takes0 ms_X12_takes0 (p_X12_takes0 hW k_0 (by first | omega | (simp only [Int32.lt_iff_toInt_lt, Int32.le_iff_toInt_le, Int32.reduceToInt, ← Int32.toInt_inj, true_and, and_true, or_true, true_or, false_or, or_false, false_and, and_false, not_true_eq_false, not_false_eq_true] <;> omega)) e_w o_w) mx_X12_takes0 ml_X12_363 (by decide) rfl (cells1 := 0) (slots1 := 0) (by decide) (by decide) (Nat.le_of_ble_eq_true rfl) (Nat.le_of_ble_eq_true rfl) rfl (Nat.le_of_ble_eq_true rfl) dX12_lose_14 (fun L_54 f_55 h_56 => ?_)
    obtain ⟨rfl, hW_57, hF_58⟩ := h_56
    have hf_59 := hF_58.at e_w rfl
    have hf_60 := hF_58.at e_25 rfl
    refine v_aload_n hC dX12_lose_17 rfl ?_
    refine v_vv hC (rest := []) m_1 hf_60 rfl mi_X12_suffers ms_X12_suffers (p_X12_suffers hW_57 k_0 hf_59 o_w) mx_X12_suffers ml_X12_413 (by decide) rfl (cells1 := 0) (slots1 := 0) (by decide) (by decide) (Nat.le_of_ble_eq_true rfl) (Nat.le_of_ble_eq_true rfl) rfl (Nat.le_of_ble_eq_true rfl) dX12_lose_18 (fun L_62 f_63 h_64 => ?_)
    obtain ⟨rfl, hW_65, hF_66⟩ := h_64
    have hf_67 := hF_66.at hf_59 rfl
    have hf_68 := hF_66.at hf_60 rfl
    refine v_aload_n hC dX12_lose_21 rfl ?_
    refine v_iload_n hC dX12_lose_22 rfl ?_
    refine v_vv hC (rest := []) m_1 hf_68 rfl mi_X12_gives ms_X12_gives (p_X12_gives hW_65 k_0 (by first | omega | (simp only [Int32.lt_iff_toInt_lt, Int32.le_iff_toInt_le, Int32.reduceToInt, ← Int32.toInt_inj, true_and, and_true, or_true, true_or, false_or, or_false, false_and, and_false, not_true_eq_false, not_false_eq_true] <;> omega)) hf_67 o_w) mx_X12_gives ml_X12_332 (by decide) rfl (cells1 := 0) (slots1 := 0) (by decide) (by decide) (Nat.le_of_ble_eq_true rfl) (Nat.le_of_ble_eq_true rfl) rfl (Nat.le_of_ble_eq_true rfl) dX12_lose_23 (fun L_70 f_71 h_72 => ?_)
    obtain ⟨rfl, hW_73, hF_74⟩ := h_72
    have hf_75 := hF_74.at hf_68 rfl
    refine v_iconst hC dX12_lose_26 (v := 0) (by decide) ?_
    refine v_istore_n hC dX12_lose_27 (by decide) (lv' := [(3, .int 0), (2, .int r_44), (0, .ref a_0), (1, .int a_1)]) rfl ?_
    refine v_iconst hC dX12_lose_28 (v := 0) (by decide) ?_
    refine v_istore hC dX12_lose_29 (by decide) (lv' := [(4, .int 0), (3, .int 0), (2, .int r_44), (0, .ref a_0), (1, .int a_1)]) rfl ?_
    have lp_415 : ∀ (n_416 : Nat) (i_412 : Int32) (b_414 : (0 ≤ i_412.toInt ∧ i_412.toInt ≤ 256)) (i_413 : Int32) (hm_418 : 256 - i_412.toInt < (n_416 : Int)), V z E 5 0 0 L f_71 31 [(4, .int i_412), (3, .int i_413), (0, .ref a_0)] [] := by
      intro n_416
      induction n_416 with
      | zero =>
        intro i_412 b_414 i_413 hm_418
        exfalso; omega
      | succ n_416 ih_417 =>
        intro i_412 b_414 i_413 hm_418
        refine v_iload hC dX12_lose_31 rfl ?_
        refine v_aload_n hC dX12_lose_33 rfl ?_
        obtain ⟨g_420, e_419, ok_421⟩ := hW_73.at m_21 t_22
        have b_422 := ok_421.r0
        have b_423 := ok_421.w0
        refine v_vi hC (rest := [.int i_412]) m_1 hf_75 rfl mi_X12_area ms_X12_area (p_X12_area hW_73 k_0 e_419 ok_421) mx_X12_area ml_X12_203 (by decide) rfl (cells1 := 0) (slots1 := 0) (by decide) (by decide) (Nat.le_of_ble_eq_true rfl) (Nat.le_of_ble_eq_true rfl) rfl (Nat.le_of_ble_eq_true rfl) dX12_lose_34 (fun r_424 L_425 f_426 h_427 => ?_)
        obtain ⟨rfl, rfl, rfl⟩ := h_427
        have ar_430 := area_v ok_421
        refine v_icmp_ge hC dX12_lose_37 (tgt := 65) (by decide) (fun h_431 => ?_) (fun h_431 => ?_)
        · simp only [Int32.lt_iff_toInt_lt, Int32.le_iff_toInt_le, Int32.reduceToInt, ← Int32.toInt_inj] at h_431
          refine v_iload_n hC dX12_lose_65 rfl ?_
          exact hR _ _ _ _ _ _ _ dX12_lose_66 rfl (Nat.le_of_ble_eq_true rfl) (Nat.le_of_ble_eq_true rfl) ⟨rfl, hW_73, (((hF_58.tr hF_66).tr hF_74).mono rfl), (.inr (by first | omega | (simp only [Int32.lt_iff_toInt_lt, Int32.le_iff_toInt_le, Int32.reduceToInt, ← Int32.toInt_inj, true_and, and_true, or_true, true_or, false_or, or_false, false_and, and_false, not_true_eq_false, not_false_eq_true] <;> omega)))⟩
        · simp only [Int32.lt_iff_toInt_lt, Int32.le_iff_toInt_le, Int32.reduceToInt, ← Int32.toInt_inj] at h_431
          refine v_iload_n hC dX12_lose_40 rfl ?_
          refine v_aload_n hC dX12_lose_41 rfl ?_
          refine v_get hC fl_X12_37 m_1 hf_75 rfl dX12_lose_42 ?_
          refine v_iload hC dX12_lose_45 rfl ?_
          obtain ⟨m_432, t_433⟩ := id k_9
          obtain ⟨g_435, e_434⟩ := hW_73.at m_432 t_433
          obtain ⟨v_436, h_437⟩ : ∃ v9 : Int32, g_435 (i_412 : Int32).toNatClampNeg = v9 := ⟨_, rfl⟩
          refine v_iald hC m_432 e_434 (vp_in_iff.mpr (by first | omega | (simp only [Int32.lt_iff_toInt_lt, Int32.le_iff_toInt_le, Int32.reduceToInt, ← Int32.toInt_inj, true_and, and_true, or_true, true_or, false_or, or_false, false_and, and_false, not_true_eq_false, not_false_eq_true] <;> omega))) h_437 dX12_lose_47 ?_
          refine v_iconst hC dX12_lose_48 (v := 4) (by decide) ?_
          refine v_icmp_ne hC dX12_lose_49 (tgt := 56) (by decide) (fun h_438 => ?_) (fun h_438 => ?_)
          · simp only [Int32.lt_iff_toInt_lt, Int32.le_iff_toInt_le, Int32.reduceToInt, ← Int32.toInt_inj] at h_438
            refine v_iconst hC dX12_lose_56 (v := 0) (by decide) ?_
            obtain ⟨v_439, h_440⟩ : ∃ v9 : Int32, i_413 + 0 = v9 := ⟨_, rfl⟩
            refine v_iadd hC dX12_lose_57 h_440 ?_
            have rg_442 := Int32.toInt_lt i_413
            have rg_443 := Int32.le_toInt i_413
            have h_441 := add_v h_440 (by first | omega | (simp only [Int32.lt_iff_toInt_lt, Int32.le_iff_toInt_le, Int32.reduceToInt, ← Int32.toInt_inj, true_and, and_true, or_true, true_or, false_or, or_false, false_and, and_false, not_true_eq_false, not_false_eq_true] <;> omega)) (by first | omega | (simp only [Int32.lt_iff_toInt_lt, Int32.le_iff_toInt_le, Int32.reduceToInt, ← Int32.toInt_inj, true_and, and_true, or_true, true_or, false_or, or_false, false_and, and_false, not_true_eq_false, not_false_eq_true] <;> omega))
            try simp only [Int32.reduceToInt] at h_441
            refine v_istore_n hC dX12_lose_58 (by decide) (lv' := [(3, .int v_439), (4, .int i_412), (0, .ref a_0)]) rfl ?_
            obtain ⟨v_444, h_445⟩ : ∃ v9 : Int32, i_412 + Int32.ofInt 1 = v9 := ⟨_, rfl⟩
            have h_446 := add_v (b := 1) h_445 (by first | omega | (simp only [Int32.lt_iff_toInt_lt, Int32.le_iff_toInt_le, Int32.reduceToInt, ← Int32.toInt_inj, true_and, and_true, or_true, true_or, false_or, or_false, false_and, and_false, not_true_eq_false, not_false_eq_true] <;> omega)) (by first | omega | (simp only [Int32.lt_iff_toInt_lt, Int32.le_iff_toInt_le, Int32.reduceToInt, ← Int32.toInt_inj, true_and, and_true, or_true, true_or, false_or, or_false, false_and, and_false, not_true_eq_false, not_false_eq_true] <;> omega))
            simp only [Int32.reduceToInt] at h_446
            refine v_iinc hC dX12_lose_59 (k := 1) rfl (v := v_444) h_445 (by decide) (lv' := [(4, .int v_444), (3, .int v_439), (0, .ref a_0)]) rfl ?_
            refine v_goto hC dX12_lose_62 (tgt := 31) (by decide) ?_
            refine v_pick [0, 1, 2] rfl ?_
            exact ih_417 v_444 (by first | omega | (simp only [Int32.lt_iff_toInt_lt, Int32.le_iff_toInt_le, Int32.reduceToInt, ← Int32.toInt_inj, true_and, and_true, or_true, true_or, false_or, or_false, false_and, and_false, not_true_eq_false, not_false_eq_true] <;> omega)) v_439 (by first | omega | (simp only [Int32.lt_iff_toInt_lt, Int32.le_iff_toInt_le, Int32.reduceToInt, ← Int32.toInt_inj, true_and, and_true, or_true, true_or, false_or, or_false, false_and, and_false, not_true_eq_false, not_false_eq_true] <;> omega))
          · simp only [Int32.lt_iff_toInt_lt, Int32.le_iff_toInt_le, Int32.reduceToInt, ← Int32.toInt_inj] at h_438
            refine v_iconst hC dX12_lose_52 (v := 1) (by decide) ?_
            refine v_goto hC dX12_lose_53 (tgt := 57) (by decide) ?_
            obtain ⟨v_447, h_448⟩ : ∃ v9 : Int32, i_413 + 1 = v9 := ⟨_, rfl⟩
            refine v_iadd hC dX12_lose_57 h_448 ?_
            refine v_istore_n hC dX12_lose_58 (by decide) (lv' := [(3, .int v_447), (4, .int i_412), (0, .ref a_0)]) rfl ?_
            obtain ⟨v_450, h_451⟩ : ∃ v9 : Int32, i_412 + Int32.ofInt 1 = v9 := ⟨_, rfl⟩
            have h_452 := add_v (b := 1) h_451 (by first | omega | (simp only [Int32.lt_iff_toInt_lt, Int32.le_iff_toInt_le, Int32.reduceToInt, ← Int32.toInt_inj, true_and, and_true, or_true, true_or, false_or, or_false, false_and, and_false, not_true_eq_false, not_false_eq_true] <;> omega)) (by first | omega | (simp only [Int32.lt_iff_toInt_lt, Int32.le_iff_toInt_le, Int32.reduceToInt, ← Int32.toInt_inj, true_and, and_true, or_true, true_or, false_or, or_false, false_and, and_false, not_true_eq_false, not_false_eq_true] <;> omega))
            simp only [Int32.reduceToInt] at h_452
            refine v_iinc hC dX12_lose_59 (k := 1) rfl (v := v_450) h_451 (by decide) (lv' := [(4, .int v_450), (3, .int v_447), (0, .ref a_0)]) rfl ?_
            refine v_goto hC dX12_lose_62 (tgt := 31) (by decide) ?_
            refine v_pick [0, 1, 2] rfl ?_
            exact ih_417 v_450 (by first | omega | (simp only [Int32.lt_iff_toInt_lt, Int32.le_iff_toInt_le, Int32.reduceToInt, ← Int32.toInt_inj, true_and, and_true, or_true, true_or, false_or, or_false, false_and, and_false, not_true_eq_false, not_false_eq_true] <;> omega)) v_447 (by first | omega | (simp only [Int32.lt_iff_toInt_lt, Int32.le_iff_toInt_le, Int32.reduceToInt, ← Int32.toInt_inj, true_and, and_true, or_true, true_or, false_or, or_false, false_and, and_false, not_true_eq_false, not_false_eq_true] <;> omega))
    refine v_pick [0, 1, 3] rfl ?_
    exact lp_415 258 0 (by decide) 0 (by decide)
  · simp only [Int32.lt_iff_toInt_lt, Int32.le_iff_toInt_le, Int32.reduceToInt, ← Int32.toInt_inj] at h_52
    refine v_iload_n hC dX12_lose_10 rfl ?_
    exact hR _ _ _ _ _ _ _ dX12_lose_11 rfl (Nat.le_of_ble_eq_true rfl) (Nat.le_of_ble_eq_true rfl) ⟨rfl, hW, FR.rf, (by first | omega | (simp only [Int32.lt_iff_toInt_lt, Int32.le_iff_toInt_le, Int32.reduceToInt, ← Int32.toInt_inj, true_and, and_true, or_true, true_or, false_or, or_false, false_and, and_false, not_true_eq_false, not_false_eq_true] <;> omega))⟩
set_option maxRecDepth 100000 in
set_option maxHeartbeats 4000000 in
theorem p_X12_alike {l : Launch} {E : Ez} {L : List Nat} {f : Nat → va_E} {T : Nat → va_E → Prop} {a_0 : Nat} {a_1 : Int32} {a_2 : Int32} {q : Nat → Nat} {g_w : Nat → Int32} (hW : WT T L f) (k_0 : isM T L E a_0 q) (e_w : f (q 1) = aI E 2076 g_w) (o_w : WOK g_w) : CI l yX12_alike cX12_alike 6 .int 3 0 0 E [.ref a_0, .int a_1, .int a_2] L f (fun r L1 f1 => L = L1 ∧ f = f1 ∧ (¬ r.toInt = 0 ∨ (0 ≤ a_1.toInt ∧ a_1.toInt ≤ 3)) ∧ (¬ r.toInt = 0 ∨ (0 ≤ a_2.toInt ∧ a_2.toInt ≤ 3))) := by
  refine ci_of (by decide) (Nat.le_of_ble_eq_true rfl) (fun z hz hnm hC hR => ?_)
  have hC : Cx z E cX12_alike RX12 6 3 0 0 := hC
  subst hz
  show V z E 6 0 0 L f 0 [(0, .ref a_0), (1, .int a_1), (2, .int a_2)] []
  obtain ⟨m_1, t_2, k_3, k_4, k_5, k_6, k_7, k_8, k_9, k_10, k_11, k_12, k_13, k_14, k_15, k_16, k_17, k_18, k_19, k_20⟩ := id k_0
  obtain ⟨m_21, t_22⟩ := id k_3
  have b_23 := o_w.r0
  have b_24 := o_w.w0
  refine v_aload_n hC dX12_alike_0 rfl ?_
  refine v_iload_n hC dX12_alike_1 rfl ?_
  refine v_iload_n hC dX12_alike_2 rfl ?_
  obtain ⟨v_26, v_27, v_29, v_31, v_33, v_35, v_37, v_38, v_39, v_40, v_42, e_25, b_28, b_30, b_32, b_34, b_36, b_41, b_43⟩ := hW.at m_1 t_2
  refine v_vi hC (rest := []) m_1 e_25 rfl mi_X12_asksTwo ms_X12_asksTwo (p_X12_asksTwo hW k_0 e_w o_w) mx_X12_asksTwo ml_X12_419 (by decide) rfl (cells1 := 0) (slots1 := 0) (by decide) (by decide) (Nat.le_of_ble_eq_true rfl) (Nat.le_of_ble_eq_true rfl) rfl (Nat.le_of_ble_eq_true rfl) dX12_alike_3 (fun r_44 L_45 f_46 h_47 => ?_)
  obtain ⟨rfl, rfl, b_48, h_49, h_50⟩ := h_47
  refine v_istore_n hC dX12_alike_6 (by decide) (lv' := [(3, .int r_44), (0, .ref a_0), (1, .int a_1), (2, .int a_2)]) rfl ?_
  refine v_iload_n hC dX12_alike_7 rfl ?_
  refine v_if_ge hC dX12_alike_8 (tgt := 13) (by decide) (fun h_53 => ?_) (fun h_53 => ?_)
  · simp only [Int32.lt_iff_toInt_lt, Int32.le_iff_toInt_le, Int32.reduceToInt, ← Int32.toInt_inj] at h_53
    refine v_iconst hC dX12_alike_13 (v := 0) (by decide) ?_
    refine v_istore hC dX12_alike_14 (by decide) (lv' := [(4, .int 0), (3, .int r_44), (0, .ref a_0), (1, .int a_1), (2, .int a_2)]) rfl ?_
    refine v_iconst hC dX12_alike_16 (v := 0) (by decide) ?_
    refine v_istore hC dX12_alike_17 (by decide) (lv' := [(5, .int 0), (4, .int 0), (3, .int r_44), (0, .ref a_0), (1, .int a_1), (2, .int a_2)]) rfl ?_
    have lp_666 : ∀ (n_667 : Nat) (i_663 : Int32) (b_665 : (0 ≤ i_663.toInt ∧ i_663.toInt ≤ 256)) (i_664 : Int32) (hm_669 : 256 - i_663.toInt < (n_667 : Int)), V z E 6 0 0 L f 19 [(5, .int i_663), (4, .int i_664), (0, .ref a_0), (1, .int a_1), (2, .int a_2)] [] := by
      intro n_667
      induction n_667 with
      | zero =>
        intro i_663 b_665 i_664 hm_669
        exfalso; omega
      | succ n_667 ih_668 =>
        intro i_663 b_665 i_664 hm_669
        refine v_iload hC dX12_alike_19 rfl ?_
        refine v_aload_n hC dX12_alike_21 rfl ?_
        refine v_vi hC (rest := [.int i_663]) m_1 e_25 rfl mi_X12_area ms_X12_area (p_X12_area hW k_0 e_w o_w) mx_X12_area ml_X12_203 (by decide) rfl (cells1 := 0) (slots1 := 0) (by decide) (by decide) (Nat.le_of_ble_eq_true rfl) (Nat.le_of_ble_eq_true rfl) rfl (Nat.le_of_ble_eq_true rfl) dX12_alike_22 (fun r_670 L_671 f_672 h_673 => ?_)
        obtain ⟨rfl, rfl, rfl⟩ := h_673
        have ar_676 := area_v o_w
        refine v_icmp_ge hC dX12_alike_25 (tgt := 81) (by decide) (fun h_677 => ?_) (fun h_677 => ?_)
        · simp only [Int32.lt_iff_toInt_lt, Int32.le_iff_toInt_le, Int32.reduceToInt, ← Int32.toInt_inj] at h_677
          refine v_iload hC dX12_alike_81 rfl ?_
          exact hR _ _ _ _ _ _ _ dX12_alike_83 rfl (Nat.le_of_ble_eq_true rfl) (Nat.le_of_ble_eq_true rfl) ⟨rfl, rfl, (.inr (by first | omega | (simp only [Int32.lt_iff_toInt_lt, Int32.le_iff_toInt_le, Int32.reduceToInt, ← Int32.toInt_inj, true_and, and_true, or_true, true_or, false_or, or_false, false_and, and_false, not_true_eq_false, not_false_eq_true] <;> omega))), (.inr (by first | omega | (simp only [Int32.lt_iff_toInt_lt, Int32.le_iff_toInt_le, Int32.reduceToInt, ← Int32.toInt_inj, true_and, and_true, or_true, true_or, false_or, or_false, false_and, and_false, not_true_eq_false, not_false_eq_true] <;> omega)))⟩
        · simp only [Int32.lt_iff_toInt_lt, Int32.le_iff_toInt_le, Int32.reduceToInt, ← Int32.toInt_inj] at h_677
          refine v_iload hC dX12_alike_28 rfl ?_
          refine v_aload_n hC dX12_alike_30 rfl ?_
          refine v_iload hC dX12_alike_31 rfl ?_
          refine v_vi hC (rest := [.int i_664]) m_1 e_25 rfl mi_X12_isFree ms_X12_isFree (p_X12_isFree hW k_0 (by first | omega | (simp only [Int32.lt_iff_toInt_lt, Int32.le_iff_toInt_le, Int32.reduceToInt, ← Int32.toInt_inj, true_and, and_true, or_true, true_or, false_or, or_false, false_and, and_false, not_true_eq_false, not_false_eq_true] <;> omega)) e_w o_w (by first | omega | (simp only [Int32.lt_iff_toInt_lt, Int32.le_iff_toInt_le, Int32.reduceToInt, ← Int32.toInt_inj, true_and, and_true, or_true, true_or, false_or, or_false, false_and, and_false, not_true_eq_false, not_false_eq_true] <;> omega))) mx_X12_isFree ml_X12_206 (by decide) rfl (cells1 := 0) (slots1 := 0) (by decide) (by decide) (Nat.le_of_ble_eq_true rfl) (Nat.le_of_ble_eq_true rfl) rfl (Nat.le_of_ble_eq_true rfl) dX12_alike_33 (fun r_678 L_679 f_680 h_681 => ?_)
          obtain ⟨rfl, rfl, b_682⟩ := h_681
          refine v_if_eq hC dX12_alike_36 (tgt := 71) (by decide) (fun h_685 => ?_) (fun h_685 => ?_)
          · simp only [Int32.lt_iff_toInt_lt, Int32.le_iff_toInt_le, Int32.reduceToInt, ← Int32.toInt_inj] at h_685
            refine v_iconst hC dX12_alike_71 (v := 0) (by decide) ?_
            obtain ⟨v_686, h_687⟩ : ∃ v9 : Int32, i_664 + 0 = v9 := ⟨_, rfl⟩
            refine v_iadd hC dX12_alike_72 h_687 ?_
            have rg_689 := Int32.toInt_lt i_664
            have rg_690 := Int32.le_toInt i_664
            have h_688 := add_v h_687 (by first | omega | (simp only [Int32.lt_iff_toInt_lt, Int32.le_iff_toInt_le, Int32.reduceToInt, ← Int32.toInt_inj, true_and, and_true, or_true, true_or, false_or, or_false, false_and, and_false, not_true_eq_false, not_false_eq_true] <;> omega)) (by first | omega | (simp only [Int32.lt_iff_toInt_lt, Int32.le_iff_toInt_le, Int32.reduceToInt, ← Int32.toInt_inj, true_and, and_true, or_true, true_or, false_or, or_false, false_and, and_false, not_true_eq_false, not_false_eq_true] <;> omega))
            try simp only [Int32.reduceToInt] at h_688
            refine v_istore hC dX12_alike_73 (by decide) (lv' := [(4, .int v_686), (5, .int i_663), (0, .ref a_0), (1, .int a_1), (2, .int a_2)]) rfl ?_
            obtain ⟨v_691, h_692⟩ : ∃ v9 : Int32, i_663 + Int32.ofInt 1 = v9 := ⟨_, rfl⟩
            have h_693 := add_v (b := 1) h_692 (by first | omega | (simp only [Int32.lt_iff_toInt_lt, Int32.le_iff_toInt_le, Int32.reduceToInt, ← Int32.toInt_inj, true_and, and_true, or_true, true_or, false_or, or_false, false_and, and_false, not_true_eq_false, not_false_eq_true] <;> omega)) (by first | omega | (simp only [Int32.lt_iff_toInt_lt, Int32.le_iff_toInt_le, Int32.reduceToInt, ← Int32.toInt_inj, true_and, and_true, or_true, true_or, false_or, or_false, false_and, and_false, not_true_eq_false, not_false_eq_true] <;> omega))
            simp only [Int32.reduceToInt] at h_693
            refine v_iinc hC dX12_alike_75 (k := 1) rfl (v := v_691) h_692 (by decide) (lv' := [(5, .int v_691), (4, .int v_686), (0, .ref a_0), (1, .int a_1), (2, .int a_2)]) rfl ?_
            refine v_goto hC dX12_alike_78 (tgt := 19) (by decide) ?_
            refine v_pick [0, 1, 2, 3, 4] rfl ?_
            exact ih_668 v_691 (by first | omega | (simp only [Int32.lt_iff_toInt_lt, Int32.le_iff_toInt_le, Int32.reduceToInt, ← Int32.toInt_inj, true_and, and_true, or_true, true_or, false_or, or_false, false_and, and_false, not_true_eq_false, not_false_eq_true] <;> omega)) v_686 (by first | omega | (simp only [Int32.lt_iff_toInt_lt, Int32.le_iff_toInt_le, Int32.reduceToInt, ← Int32.toInt_inj, true_and, and_true, or_true, true_or, false_or, or_false, false_and, and_false, not_true_eq_false, not_false_eq_true] <;> omega))
          · simp only [Int32.lt_iff_toInt_lt, Int32.le_iff_toInt_le, Int32.reduceToInt, ← Int32.toInt_inj] at h_685
            refine v_aload_n hC dX12_alike_39 rfl ?_
            refine v_iload_n hC dX12_alike_40 rfl ?_
            refine v_iload hC dX12_alike_41 rfl ?_
            refine v_vi hC (rest := [.int i_664]) m_1 e_25 rfl mi_X12_stands ms_X12_stands (p_X12_stands hW k_0 (by first | omega | (simp only [Int32.lt_iff_toInt_lt, Int32.le_iff_toInt_le, Int32.reduceToInt, ← Int32.toInt_inj, true_and, and_true, or_true, true_or, false_or, or_false, false_and, and_false, not_true_eq_false, not_false_eq_true] <;> omega)) (by first | omega | (simp only [Int32.lt_iff_toInt_lt, Int32.le_iff_toInt_le, Int32.reduceToInt, ← Int32.toInt_inj, true_and, and_true, or_true, true_or, false_or, or_false, false_and, and_false, not_true_eq_false, not_false_eq_true] <;> omega)) e_w o_w) mx_X12_stands ml_X12_301 (by decide) rfl (cells1 := 0) (slots1 := 0) (by decide) (by decide) (Nat.le_of_ble_eq_true rfl) (Nat.le_of_ble_eq_true rfl) rfl (Nat.le_of_ble_eq_true rfl) dX12_alike_43 (fun r_694 L_695 f_696 h_697 => ?_)
            obtain ⟨rfl, rfl⟩ := h_697
            refine v_iconst hC dX12_alike_46 (v := 4) (by decide) ?_
            refine v_icmp_eq hC dX12_alike_47 (tgt := 71) (by decide) (fun h_700 => ?_) (fun h_700 => ?_)
            · simp only [Int32.lt_iff_toInt_lt, Int32.le_iff_toInt_le, Int32.reduceToInt, ← Int32.toInt_inj] at h_700
              refine v_iconst hC dX12_alike_71 (v := 0) (by decide) ?_
              obtain ⟨v_701, h_702⟩ : ∃ v9 : Int32, i_664 + 0 = v9 := ⟨_, rfl⟩
              refine v_iadd hC dX12_alike_72 h_702 ?_
              have rg_704 := Int32.toInt_lt i_664
              have rg_705 := Int32.le_toInt i_664
              have h_703 := add_v h_702 (by first | omega | (simp only [Int32.lt_iff_toInt_lt, Int32.le_iff_toInt_le, Int32.reduceToInt, ← Int32.toInt_inj, true_and, and_true, or_true, true_or, false_or, or_false, false_and, and_false, not_true_eq_false, not_false_eq_true] <;> omega)) (by first | omega | (simp only [Int32.lt_iff_toInt_lt, Int32.le_iff_toInt_le, Int32.reduceToInt, ← Int32.toInt_inj, true_and, and_true, or_true, true_or, false_or, or_false, false_and, and_false, not_true_eq_false, not_false_eq_true] <;> omega))
              try simp only [Int32.reduceToInt] at h_703
              refine v_istore hC dX12_alike_73 (by decide) (lv' := [(4, .int v_701), (5, .int i_663), (0, .ref a_0), (1, .int a_1), (2, .int a_2)]) rfl ?_
              obtain ⟨v_706, h_707⟩ : ∃ v9 : Int32, i_663 + Int32.ofInt 1 = v9 := ⟨_, rfl⟩
              have h_708 := add_v (b := 1) h_707 (by first | omega | (simp only [Int32.lt_iff_toInt_lt, Int32.le_iff_toInt_le, Int32.reduceToInt, ← Int32.toInt_inj, true_and, and_true, or_true, true_or, false_or, or_false, false_and, and_false, not_true_eq_false, not_false_eq_true] <;> omega)) (by first | omega | (simp only [Int32.lt_iff_toInt_lt, Int32.le_iff_toInt_le, Int32.reduceToInt, ← Int32.toInt_inj, true_and, and_true, or_true, true_or, false_or, or_false, false_and, and_false, not_true_eq_false, not_false_eq_true] <;> omega))
              simp only [Int32.reduceToInt] at h_708
              refine v_iinc hC dX12_alike_75 (k := 1) rfl (v := v_706) h_707 (by decide) (lv' := [(5, .int v_706), (4, .int v_701), (0, .ref a_0), (1, .int a_1), (2, .int a_2)]) rfl ?_
              refine v_goto hC dX12_alike_78 (tgt := 19) (by decide) ?_
              refine v_pick [0, 1, 2, 3, 4] rfl ?_
              exact ih_668 v_706 (by first | omega | (simp only [Int32.lt_iff_toInt_lt, Int32.le_iff_toInt_le, Int32.reduceToInt, ← Int32.toInt_inj, true_and, and_true, or_true, true_or, false_or, or_false, false_and, and_false, not_true_eq_false, not_false_eq_true] <;> omega)) v_701 (by first | omega | (simp only [Int32.lt_iff_toInt_lt, Int32.le_iff_toInt_le, Int32.reduceToInt, ← Int32.toInt_inj, true_and, and_true, or_true, true_or, false_or, or_false, false_and, and_false, not_true_eq_false, not_false_eq_true] <;> omega))
            · simp only [Int32.lt_iff_toInt_lt, Int32.le_iff_toInt_le, Int32.reduceToInt, ← Int32.toInt_inj] at h_700
              refine v_aload_n hC dX12_alike_50 rfl ?_
              refine v_iload_n hC dX12_alike_51 rfl ?_
              refine v_iload hC dX12_alike_52 rfl ?_
              refine v_vi hC (rest := [.int i_664]) m_1 e_25 rfl mi_X12_stands ms_X12_stands (p_X12_stands hW k_0 (by first | omega | (simp only [Int32.lt_iff_toInt_lt, Int32.le_iff_toInt_le, Int32.reduceToInt, ← Int32.toInt_inj, true_and, and_true, or_true, true_or, false_or, or_false, false_and, and_false, not_true_eq_false, not_false_eq_true] <;> omega)) (by first | omega | (simp only [Int32.lt_iff_toInt_lt, Int32.le_iff_toInt_le, Int32.reduceToInt, ← Int32.toInt_inj, true_and, and_true, or_true, true_or, false_or, or_false, false_and, and_false, not_true_eq_false, not_false_eq_true] <;> omega)) e_w o_w) mx_X12_stands ml_X12_301 (by decide) rfl (cells1 := 0) (slots1 := 0) (by decide) (by decide) (Nat.le_of_ble_eq_true rfl) (Nat.le_of_ble_eq_true rfl) rfl (Nat.le_of_ble_eq_true rfl) dX12_alike_54 (fun r_709 L_710 f_711 h_712 => ?_)
              obtain ⟨rfl, rfl⟩ := h_712
              refine v_aload_n hC dX12_alike_57 rfl ?_
              refine v_iload_n hC dX12_alike_58 rfl ?_
              refine v_iload hC dX12_alike_59 rfl ?_
              refine v_vi hC (rest := [.int r_709, .int i_664]) m_1 e_25 rfl mi_X12_stands ms_X12_stands (p_X12_stands hW k_0 (by first | omega | (simp only [Int32.lt_iff_toInt_lt, Int32.le_iff_toInt_le, Int32.reduceToInt, ← Int32.toInt_inj, true_and, and_true, or_true, true_or, false_or, or_false, false_and, and_false, not_true_eq_false, not_false_eq_true] <;> omega)) (by first | omega | (simp only [Int32.lt_iff_toInt_lt, Int32.le_iff_toInt_le, Int32.reduceToInt, ← Int32.toInt_inj, true_and, and_true, or_true, true_or, false_or, or_false, false_and, and_false, not_true_eq_false, not_false_eq_true] <;> omega)) e_w o_w) mx_X12_stands ml_X12_301 (by decide) rfl (cells1 := 0) (slots1 := 0) (by decide) (by decide) (Nat.le_of_ble_eq_true rfl) (Nat.le_of_ble_eq_true rfl) rfl (Nat.le_of_ble_eq_true rfl) dX12_alike_61 (fun r_715 L_716 f_717 h_718 => ?_)
              obtain ⟨rfl, rfl⟩ := h_718
              refine v_icmp_ne hC dX12_alike_64 (tgt := 71) (by decide) (fun h_721 => ?_) (fun h_721 => ?_)
              · simp only [Int32.lt_iff_toInt_lt, Int32.le_iff_toInt_le, Int32.reduceToInt, ← Int32.toInt_inj] at h_721
                refine v_iconst hC dX12_alike_71 (v := 0) (by decide) ?_
                obtain ⟨v_722, h_723⟩ : ∃ v9 : Int32, i_664 + 0 = v9 := ⟨_, rfl⟩
                refine v_iadd hC dX12_alike_72 h_723 ?_
                have rg_725 := Int32.toInt_lt i_664
                have rg_726 := Int32.le_toInt i_664
                have h_724 := add_v h_723 (by first | omega | (simp only [Int32.lt_iff_toInt_lt, Int32.le_iff_toInt_le, Int32.reduceToInt, ← Int32.toInt_inj, true_and, and_true, or_true, true_or, false_or, or_false, false_and, and_false, not_true_eq_false, not_false_eq_true] <;> omega)) (by first | omega | (simp only [Int32.lt_iff_toInt_lt, Int32.le_iff_toInt_le, Int32.reduceToInt, ← Int32.toInt_inj, true_and, and_true, or_true, true_or, false_or, or_false, false_and, and_false, not_true_eq_false, not_false_eq_true] <;> omega))
                try simp only [Int32.reduceToInt] at h_724
                refine v_istore hC dX12_alike_73 (by decide) (lv' := [(4, .int v_722), (5, .int i_663), (0, .ref a_0), (1, .int a_1), (2, .int a_2)]) rfl ?_
                obtain ⟨v_727, h_728⟩ : ∃ v9 : Int32, i_663 + Int32.ofInt 1 = v9 := ⟨_, rfl⟩
                have h_729 := add_v (b := 1) h_728 (by first | omega | (simp only [Int32.lt_iff_toInt_lt, Int32.le_iff_toInt_le, Int32.reduceToInt, ← Int32.toInt_inj, true_and, and_true, or_true, true_or, false_or, or_false, false_and, and_false, not_true_eq_false, not_false_eq_true] <;> omega)) (by first | omega | (simp only [Int32.lt_iff_toInt_lt, Int32.le_iff_toInt_le, Int32.reduceToInt, ← Int32.toInt_inj, true_and, and_true, or_true, true_or, false_or, or_false, false_and, and_false, not_true_eq_false, not_false_eq_true] <;> omega))
                simp only [Int32.reduceToInt] at h_729
                refine v_iinc hC dX12_alike_75 (k := 1) rfl (v := v_727) h_728 (by decide) (lv' := [(5, .int v_727), (4, .int v_722), (0, .ref a_0), (1, .int a_1), (2, .int a_2)]) rfl ?_
                refine v_goto hC dX12_alike_78 (tgt := 19) (by decide) ?_
                refine v_pick [0, 1, 2, 3, 4] rfl ?_
                exact ih_668 v_727 (by first | omega | (simp only [Int32.lt_iff_toInt_lt, Int32.le_iff_toInt_le, Int32.reduceToInt, ← Int32.toInt_inj, true_and, and_true, or_true, true_or, false_or, or_false, false_and, and_false, not_true_eq_false, not_false_eq_true] <;> omega)) v_722 (by first | omega | (simp only [Int32.lt_iff_toInt_lt, Int32.le_iff_toInt_le, Int32.reduceToInt, ← Int32.toInt_inj, true_and, and_true, or_true, true_or, false_or, or_false, false_and, and_false, not_true_eq_false, not_false_eq_true] <;> omega))
              · simp only [Int32.lt_iff_toInt_lt, Int32.le_iff_toInt_le, Int32.reduceToInt, ← Int32.toInt_inj] at h_721
                refine v_iconst hC dX12_alike_67 (v := 1) (by decide) ?_
                refine v_goto hC dX12_alike_68 (tgt := 72) (by decide) ?_
                obtain ⟨v_730, h_731⟩ : ∃ v9 : Int32, i_664 + 1 = v9 := ⟨_, rfl⟩
                refine v_iadd hC dX12_alike_72 h_731 ?_
                refine v_istore hC dX12_alike_73 (by decide) (lv' := [(4, .int v_730), (5, .int i_663), (0, .ref a_0), (1, .int a_1), (2, .int a_2)]) rfl ?_
                obtain ⟨v_733, h_734⟩ : ∃ v9 : Int32, i_663 + Int32.ofInt 1 = v9 := ⟨_, rfl⟩
                have h_735 := add_v (b := 1) h_734 (by first | omega | (simp only [Int32.lt_iff_toInt_lt, Int32.le_iff_toInt_le, Int32.reduceToInt, ← Int32.toInt_inj, true_and, and_true, or_true, true_or, false_or, or_false, false_and, and_false, not_true_eq_false, not_false_eq_true] <;> omega)) (by first | omega | (simp only [Int32.lt_iff_toInt_lt, Int32.le_iff_toInt_le, Int32.reduceToInt, ← Int32.toInt_inj, true_and, and_true, or_true, true_or, false_or, or_false, false_and, and_false, not_true_eq_false, not_false_eq_true] <;> omega))
                simp only [Int32.reduceToInt] at h_735
                refine v_iinc hC dX12_alike_75 (k := 1) rfl (v := v_733) h_734 (by decide) (lv' := [(5, .int v_733), (4, .int v_730), (0, .ref a_0), (1, .int a_1), (2, .int a_2)]) rfl ?_
                refine v_goto hC dX12_alike_78 (tgt := 19) (by decide) ?_
                refine v_pick [0, 1, 2, 3, 4] rfl ?_
                exact ih_668 v_733 (by first | omega | (simp only [Int32.lt_iff_toInt_lt, Int32.le_iff_toInt_le, Int32.reduceToInt, ← Int32.toInt_inj, true_and, and_true, or_true, true_or, false_or, or_false, false_and, and_false, not_true_eq_false, not_false_eq_true] <;> omega)) v_730 (by first | omega | (simp only [Int32.lt_iff_toInt_lt, Int32.le_iff_toInt_le, Int32.reduceToInt, ← Int32.toInt_inj, true_and, and_true, or_true, true_or, false_or, or_false, false_and, and_false, not_true_eq_false, not_false_eq_true] <;> omega))
    refine v_pick [0, 1, 3, 4, 5] rfl ?_
    exact lp_666 258 0 (by decide) 0 (by decide)
  · simp only [Int32.lt_iff_toInt_lt, Int32.le_iff_toInt_le, Int32.reduceToInt, ← Int32.toInt_inj] at h_53
    refine v_iload_n hC dX12_alike_11 rfl ?_
    exact hR _ _ _ _ _ _ _ dX12_alike_12 rfl (Nat.le_of_ble_eq_true rfl) (Nat.le_of_ble_eq_true rfl) ⟨rfl, rfl, (by first | omega | (simp only [Int32.lt_iff_toInt_lt, Int32.le_iff_toInt_le, Int32.reduceToInt, ← Int32.toInt_inj, true_and, and_true, or_true, true_or, false_or, or_false, false_and, and_false, not_true_eq_false, not_false_eq_true] <;> omega)), (by first | omega | (simp only [Int32.lt_iff_toInt_lt, Int32.le_iff_toInt_le, Int32.reduceToInt, ← Int32.toInt_inj, true_and, and_true, or_true, true_or, false_or, or_false, false_and, and_false, not_true_eq_false, not_false_eq_true] <;> omega))⟩
set_option maxRecDepth 100000 in
set_option maxHeartbeats 4000000 in
theorem p_X12_same {l : Launch} {E : Ez} {L : List Nat} {f : Nat → va_E} {T : Nat → va_E → Prop} {a_0 : Nat} {a_1 : Int32} {a_2 : Int32} {a_3 : Int32} {q : Nat → Nat} {g_w : Nat → Int32} (hW : WT T L f) (k_0 : isM T L E a_0 q) (e_w : f (q 1) = aI E 2076 g_w) (o_w : WOK g_w) : CI l yX12_same cX12_same 8 .int 4 0 0 E [.ref a_0, .int a_1, .int a_2, .int a_3] L f (fun r L1 f1 => L = L1 ∧ WT T L f1 ∧ FR [12, 356] f f1 ∧ (¬ r.toInt = 0 ∨ (0 ≤ a_1.toInt ∧ a_1.toInt ≤ 3)) ∧ (¬ r.toInt = 0 ∨ (0 ≤ a_2.toInt ∧ a_2.toInt ≤ 3)) ∧ (¬ r.toInt = 0 ∨ (0 ≤ a_3.toInt ∧ a_3.toInt ≤ 5))) := by
  refine ci_of (by decide) (Nat.le_of_ble_eq_true rfl) (fun z hz hnm hC hR => ?_)
  have hC : Cx z E cX12_same RX12 8 4 0 0 := hC
  subst hz
  show V z E 8 0 0 L f 0 [(0, .ref a_0), (1, .int a_1), (2, .int a_2), (3, .int a_3)] []
  obtain ⟨m_1, t_2, k_3, k_4, k_5, k_6, k_7, k_8, k_9, k_10, k_11, k_12, k_13, k_14, k_15, k_16, k_17, k_18, k_19, k_20⟩ := id k_0
  obtain ⟨m_21, t_22⟩ := id k_3
  have b_23 := o_w.r0
  have b_24 := o_w.w0
  refine v_iload_n hC dX12_same_0 rfl ?_
  refine v_si hC (rest := []) mt_X12_isWay (p_X12_isWay hW) mx_X12_isWay ml_X12_221 (by decide) rfl (cells1 := 0) (slots1 := 0) (by decide) (by decide) (Nat.le_of_ble_eq_true rfl) (Nat.le_of_ble_eq_true rfl) rfl (Nat.le_of_ble_eq_true rfl) dX12_same_1 (fun r_25 L_26 f_27 h_28 => ?_)
  obtain ⟨rfl, rfl, b_29, h_30⟩ := h_28
  refine v_if_ne hC dX12_same_4 (tgt := 10) (by decide) (fun h_33 => ?_) (fun h_33 => ?_)
  · simp only [Int32.lt_iff_toInt_lt, Int32.le_iff_toInt_le, Int32.reduceToInt, ← Int32.toInt_inj] at h_33
    refine v_aload_n hC dX12_same_10 rfl ?_
    refine v_iload_n hC dX12_same_11 rfl ?_
    refine v_iload_n hC dX12_same_12 rfl ?_
    obtain ⟨v_35, v_36, v_38, v_40, v_42, v_44, v_46, v_47, v_48, v_49, v_51, e_34, b_37, b_39, b_41, b_43, b_45, b_50, b_52⟩ := hW.at m_1 t_2
    refine v_vi hC (rest := []) m_1 e_34 rfl mi_X12_asksTwo ms_X12_asksTwo (p_X12_asksTwo hW k_0 e_w o_w) mx_X12_asksTwo ml_X12_419 (by decide) rfl (cells1 := 0) (slots1 := 0) (by decide) (by decide) (Nat.le_of_ble_eq_true rfl) (Nat.le_of_ble_eq_true rfl) rfl (Nat.le_of_ble_eq_true rfl) dX12_same_13 (fun r_53 L_54 f_55 h_56 => ?_)
    obtain ⟨rfl, rfl, b_57, h_58, h_59⟩ := h_56
    refine v_istore hC dX12_same_16 (by decide) (lv' := [(4, .int r_53), (0, .ref a_0), (1, .int a_1), (2, .int a_2), (3, .int a_3)]) rfl ?_
    refine v_iload hC dX12_same_18 rfl ?_
    refine v_if_ge hC dX12_same_20 (tgt := 26) (by decide) (fun h_62 => ?_) (fun h_62 => ?_)
    · simp only [Int32.lt_iff_toInt_lt, Int32.le_iff_toInt_le, Int32.reduceToInt, ← Int32.toInt_inj] at h_62
      refine v_aload_n hC dX12_same_26 rfl ?_
      refine v_iload_n hC dX12_same_27 rfl ?_
      refine v_vi hC (rest := []) m_1 e_34 rfl mi_X12_isTold ms_X12_isTold (p_X12_isTold hW k_0 (by first | omega | (simp only [Int32.lt_iff_toInt_lt, Int32.le_iff_toInt_le, Int32.reduceToInt, ← Int32.toInt_inj, true_and, and_true, or_true, true_or, false_or, or_false, false_and, and_false, not_true_eq_false, not_false_eq_true] <;> omega)) e_w o_w) mx_X12_isTold ml_X12_354 (by decide) rfl (cells1 := 0) (slots1 := 0) (by decide) (by decide) (Nat.le_of_ble_eq_true rfl) (Nat.le_of_ble_eq_true rfl) rfl (Nat.le_of_ble_eq_true rfl) dX12_same_28 (fun r_63 L_64 f_65 h_66 => ?_)
      obtain ⟨rfl, rfl, b_67, x_68⟩ := h_66
      try simp only [Int32.reduceToInt, Int64.reduceToInt] at x_68
      refine v_if_ne hC dX12_same_31 (tgt := 37) (by decide) (fun h_71 => ?_) (fun h_71 => ?_)
      · simp only [Int32.lt_iff_toInt_lt, Int32.le_iff_toInt_le, Int32.reduceToInt, ← Int32.toInt_inj] at h_71
        refine v_aload_n hC dX12_same_37 rfl ?_
        refine v_iload_n hC dX12_same_38 rfl ?_
        refine v_vi hC (rest := []) m_1 e_34 rfl mi_X12_roomOf ms_X12_roomOf (p_X12_roomOf hW k_0 (by first | omega | (simp only [Int32.lt_iff_toInt_lt, Int32.le_iff_toInt_le, Int32.reduceToInt, ← Int32.toInt_inj, true_and, and_true, or_true, true_or, false_or, or_false, false_and, and_false, not_true_eq_false, not_false_eq_true] <;> omega)) e_w o_w (by first | omega | (simp only [Int32.lt_iff_toInt_lt, Int32.le_iff_toInt_le, Int32.reduceToInt, ← Int32.toInt_inj, true_and, and_true, or_true, true_or, false_or, or_false, false_and, and_false, not_true_eq_false, not_false_eq_true] <;> omega))) mx_X12_roomOf ml_X12_241 (by decide) rfl (cells1 := 0) (slots1 := 0) (by decide) (by decide) (Nat.le_of_ble_eq_true rfl) (Nat.le_of_ble_eq_true rfl) rfl (Nat.le_of_ble_eq_true rfl) dX12_same_39 (fun r_72 L_73 f_74 h_75 => ?_)
        obtain ⟨rfl, hW_80, hF_81, b_76, x_77, x_78, x_79⟩ := h_75
        have fe_82 : fld (f a_0) 20 = (v_51 : Int32).toInt := by rw [e_34]; rfl
        have hf_83 := hF_81.at e_w rfl
        rw [fe_82] at x_79
        obtain ⟨v_85, v_86, v_88, v_90, v_92, v_94, v_96, v_97, v_98, v_99, v_101, e_84, b_87, b_89, b_91, b_93, b_95, b_100, b_102⟩ := hW_80.at m_1 t_2
        have fe_103 : fld (f_74 a_0) 20 = (v_101 : Int32).toInt := by rw [e_84]; rfl
        rw [fe_103] at x_79
        try simp only [Int32.reduceToInt, Int64.reduceToInt] at x_77
        try simp only [Int32.reduceToInt, Int64.reduceToInt] at x_78
        try simp only [Int32.reduceToInt, Int64.reduceToInt] at x_79
        refine v_istore hC dX12_same_42 (by decide) (lv' := [(5, .int r_72), (4, .int r_53), (0, .ref a_0), (1, .int a_1), (2, .int a_2), (3, .int a_3)]) rfl ?_
        refine v_aload_n hC dX12_same_44 rfl ?_
        refine v_iload_n hC dX12_same_45 rfl ?_
        refine v_vv hC (rest := []) m_1 e_84 rfl mi_X12_takes0 ms_X12_takes0 (p_X12_takes0 hW_80 k_0 (by first | omega | (simp only [Int32.lt_iff_toInt_lt, Int32.le_iff_toInt_le, Int32.reduceToInt, ← Int32.toInt_inj, true_and, and_true, or_true, true_or, false_or, or_false, false_and, and_false, not_true_eq_false, not_false_eq_true] <;> omega)) hf_83 o_w) mx_X12_takes0 ml_X12_363 (by decide) rfl (cells1 := 0) (slots1 := 0) (by decide) (by decide) (Nat.le_of_ble_eq_true rfl) (Nat.le_of_ble_eq_true rfl) rfl (Nat.le_of_ble_eq_true rfl) dX12_same_46 (fun L_105 f_106 h_107 => ?_)
        obtain ⟨rfl, hW_108, hF_109⟩ := h_107
        have hf_110 := hF_109.at hf_83 rfl
        have hf_111 := hF_109.at e_84 rfl
        refine v_iconst hC dX12_same_49 (v := 0) (by decide) ?_
        refine v_istore hC dX12_same_50 (by decide) (lv' := [(6, .int 0), (5, .int r_72), (4, .int r_53), (0, .ref a_0), (1, .int a_1), (2, .int a_2), (3, .int a_3)]) rfl ?_
        have lp_2077 : ∀ (n_2078 : Nat) (f_2071 : Nat → va_E) (hW_2072 : WT T L f_2071) (hF_2073 : FR [356] f_106 f_2071) (i_2070 : Int32) (b_2076 : (0 ≤ i_2070.toInt ∧ i_2070.toInt ≤ 256)) (hm_2080 : 256 - i_2070.toInt < (n_2078 : Int)), V z E 8 0 0 L f_2071 52 [(6, .int i_2070), (5, .int r_72), (0, .ref a_0), (2, .int a_2), (3, .int a_3)] [] := by
          intro n_2078
          induction n_2078 with
          | zero =>
            intro f_2071 hW_2072 hF_2073 i_2070 b_2076 hm_2080
            have hf_2074 := hF_2073.at hf_110 rfl
            have hf_2075 := hF_2073.at hf_111 rfl
            exfalso; omega
          | succ n_2078 ih_2079 =>
            intro f_2071 hW_2072 hF_2073 i_2070 b_2076 hm_2080
            have hf_2074 := hF_2073.at hf_110 rfl
            have hf_2075 := hF_2073.at hf_111 rfl
            refine v_iload hC dX12_same_52 rfl ?_
            refine v_iload hC dX12_same_54 rfl ?_
            refine v_icmp_ge hC dX12_same_56 (tgt := 79) (by decide) (fun h_2081 => ?_) (fun h_2081 => ?_)
            · simp only [Int32.lt_iff_toInt_lt, Int32.le_iff_toInt_le, Int32.reduceToInt, ← Int32.toInt_inj] at h_2081
              refine v_aload_n hC dX12_same_79 rfl ?_
              refine v_iload_n hC dX12_same_80 rfl ?_
              refine v_vv hC (rest := []) m_1 hf_2075 rfl mi_X12_takes0 ms_X12_takes0 (p_X12_takes0 hW_2072 k_0 (by first | omega | (simp only [Int32.lt_iff_toInt_lt, Int32.le_iff_toInt_le, Int32.reduceToInt, ← Int32.toInt_inj, true_and, and_true, or_true, true_or, false_or, or_false, false_and, and_false, not_true_eq_false, not_false_eq_true] <;> omega)) hf_2074 o_w) mx_X12_takes0 ml_X12_363 (by decide) rfl (cells1 := 0) (slots1 := 0) (by decide) (by decide) (Nat.le_of_ble_eq_true rfl) (Nat.le_of_ble_eq_true rfl) rfl (Nat.le_of_ble_eq_true rfl) dX12_same_81 (fun L_2105 f_2106 h_2107 => ?_)
              obtain ⟨rfl, hW_2108, hF_2109⟩ := h_2107
              have hf_2110 := hF_2109.at hf_2074 rfl
              have hf_2111 := hF_2109.at hf_2075 rfl
              refine v_iconst hC dX12_same_84 (v := 0) (by decide) ?_
              refine v_istore hC dX12_same_85 (by decide) (lv' := [(6, .int 0), (5, .int r_72), (0, .ref a_0), (2, .int a_2), (3, .int a_3)]) rfl ?_
              refine v_iconst hC dX12_same_87 (v := 0) (by decide) ?_
              refine v_istore hC dX12_same_88 (by decide) (lv' := [(7, .int 0), (6, .int 0), (5, .int r_72), (0, .ref a_0), (2, .int a_2), (3, .int a_3)]) rfl ?_
              have lp_2498 : ∀ (n_2499 : Nat) (i_2495 : Int32) (b_2497 : (0 ≤ i_2495.toInt ∧ i_2495.toInt ≤ 256)) (i_2496 : Int32) (hm_2501 : 256 - i_2495.toInt < (n_2499 : Int)), V z E 8 0 0 L f_2106 90 [(7, .int i_2495), (6, .int i_2496), (5, .int r_72), (0, .ref a_0), (3, .int a_3)] [] := by
                intro n_2499
                induction n_2499 with
                | zero =>
                  intro i_2495 b_2497 i_2496 hm_2501
                  exfalso; omega
                | succ n_2499 ih_2500 =>
                  intro i_2495 b_2497 i_2496 hm_2501
                  refine v_iload hC dX12_same_90 rfl ?_
                  refine v_iload hC dX12_same_92 rfl ?_
                  refine v_icmp_ge hC dX12_same_94 (tgt := 141) (by decide) (fun h_2502 => ?_) (fun h_2502 => ?_)
                  · simp only [Int32.lt_iff_toInt_lt, Int32.le_iff_toInt_le, Int32.reduceToInt, ← Int32.toInt_inj] at h_2502
                    refine v_iload hC dX12_same_141 rfl ?_
                    exact hR _ _ _ _ _ _ _ dX12_same_143 rfl (Nat.le_of_ble_eq_true rfl) (Nat.le_of_ble_eq_true rfl) ⟨rfl, hW_2108, ((((hF_81.tr hF_109).tr hF_2073).tr hF_2109).mono rfl), (.inr (by first | omega | (simp only [Int32.lt_iff_toInt_lt, Int32.le_iff_toInt_le, Int32.reduceToInt, ← Int32.toInt_inj, true_and, and_true, or_true, true_or, false_or, or_false, false_and, and_false, not_true_eq_false, not_false_eq_true] <;> omega))), (.inr (by first | omega | (simp only [Int32.lt_iff_toInt_lt, Int32.le_iff_toInt_le, Int32.reduceToInt, ← Int32.toInt_inj, true_and, and_true, or_true, true_or, false_or, or_false, false_and, and_false, not_true_eq_false, not_false_eq_true] <;> omega))), (.inr (by first | omega | (simp only [Int32.lt_iff_toInt_lt, Int32.le_iff_toInt_le, Int32.reduceToInt, ← Int32.toInt_inj, true_and, and_true, or_true, true_or, false_or, or_false, false_and, and_false, not_true_eq_false, not_false_eq_true] <;> omega)))⟩
                  · simp only [Int32.lt_iff_toInt_lt, Int32.le_iff_toInt_le, Int32.reduceToInt, ← Int32.toInt_inj] at h_2502
                    refine v_iload hC dX12_same_97 rfl ?_
                    refine v_aload_n hC dX12_same_99 rfl ?_
                    refine v_get hC fl_X12_58 m_1 hf_2111 rfl dX12_same_100 ?_
                    refine v_iload hC dX12_same_103 rfl ?_
                    obtain ⟨m_2503, t_2504⟩ := id k_15
                    obtain ⟨g_2506, e_2505⟩ := hW_2108.at m_2503 t_2504
                    obtain ⟨v_2507, h_2508⟩ : ∃ v9 : Int32, g_2506 (i_2495 : Int32).toNatClampNeg = v9 := ⟨_, rfl⟩
                    refine v_iald hC m_2503 e_2505 (vp_in_iff.mpr (by first | omega | (simp only [Int32.lt_iff_toInt_lt, Int32.le_iff_toInt_le, Int32.reduceToInt, ← Int32.toInt_inj, true_and, and_true, or_true, true_or, false_or, or_false, false_and, and_false, not_true_eq_false, not_false_eq_true] <;> omega))) h_2508 dX12_same_105 ?_
                    refine v_iconst hC dX12_same_106 (v := 2) (by decide) ?_
                    refine v_icmp_ge hC dX12_same_107 (tgt := 131) (by decide) (fun h_2509 => ?_) (fun h_2509 => ?_)
                    · simp only [Int32.lt_iff_toInt_lt, Int32.le_iff_toInt_le, Int32.reduceToInt, ← Int32.toInt_inj] at h_2509
                      refine v_iconst hC dX12_same_131 (v := 0) (by decide) ?_
                      obtain ⟨v_2510, h_2511⟩ : ∃ v9 : Int32, i_2496 + 0 = v9 := ⟨_, rfl⟩
                      refine v_iadd hC dX12_same_132 h_2511 ?_
                      have rg_2513 := Int32.toInt_lt i_2496
                      have rg_2514 := Int32.le_toInt i_2496
                      have h_2512 := add_v h_2511 (by first | omega | (simp only [Int32.lt_iff_toInt_lt, Int32.le_iff_toInt_le, Int32.reduceToInt, ← Int32.toInt_inj, true_and, and_true, or_true, true_or, false_or, or_false, false_and, and_false, not_true_eq_false, not_false_eq_true] <;> omega)) (by first | omega | (simp only [Int32.lt_iff_toInt_lt, Int32.le_iff_toInt_le, Int32.reduceToInt, ← Int32.toInt_inj, true_and, and_true, or_true, true_or, false_or, or_false, false_and, and_false, not_true_eq_false, not_false_eq_true] <;> omega))
                      try simp only [Int32.reduceToInt] at h_2512
                      refine v_istore hC dX12_same_133 (by decide) (lv' := [(6, .int v_2510), (7, .int i_2495), (5, .int r_72), (0, .ref a_0), (3, .int a_3)]) rfl ?_
                      obtain ⟨v_2515, h_2516⟩ : ∃ v9 : Int32, i_2495 + Int32.ofInt 1 = v9 := ⟨_, rfl⟩
                      have h_2517 := add_v (b := 1) h_2516 (by first | omega | (simp only [Int32.lt_iff_toInt_lt, Int32.le_iff_toInt_le, Int32.reduceToInt, ← Int32.toInt_inj, true_and, and_true, or_true, true_or, false_or, or_false, false_and, and_false, not_true_eq_false, not_false_eq_true] <;> omega)) (by first | omega | (simp only [Int32.lt_iff_toInt_lt, Int32.le_iff_toInt_le, Int32.reduceToInt, ← Int32.toInt_inj, true_and, and_true, or_true, true_or, false_or, or_false, false_and, and_false, not_true_eq_false, not_false_eq_true] <;> omega))
                      simp only [Int32.reduceToInt] at h_2517
                      refine v_iinc hC dX12_same_135 (k := 1) rfl (v := v_2515) h_2516 (by decide) (lv' := [(7, .int v_2515), (6, .int v_2510), (5, .int r_72), (0, .ref a_0), (3, .int a_3)]) rfl ?_
                      refine v_goto hC dX12_same_138 (tgt := 90) (by decide) ?_
                      refine v_pick [0, 1, 2, 3, 4] rfl ?_
                      exact ih_2500 v_2515 (by first | omega | (simp only [Int32.lt_iff_toInt_lt, Int32.le_iff_toInt_le, Int32.reduceToInt, ← Int32.toInt_inj, true_and, and_true, or_true, true_or, false_or, or_false, false_and, and_false, not_true_eq_false, not_false_eq_true] <;> omega)) v_2510 (by first | omega | (simp only [Int32.lt_iff_toInt_lt, Int32.le_iff_toInt_le, Int32.reduceToInt, ← Int32.toInt_inj, true_and, and_true, or_true, true_or, false_or, or_false, false_and, and_false, not_true_eq_false, not_false_eq_true] <;> omega))
                    · simp only [Int32.lt_iff_toInt_lt, Int32.le_iff_toInt_le, Int32.reduceToInt, ← Int32.toInt_inj] at h_2509
                      refine v_aload_n hC dX12_same_110 rfl ?_
                      refine v_get hC fl_X12_58 m_1 hf_2111 rfl dX12_same_111 ?_
                      refine v_iload hC dX12_same_114 rfl ?_
                      obtain ⟨v_2518, h_2519⟩ : ∃ v9 : Int32, g_2506 (i_2495 : Int32).toNatClampNeg = v9 := ⟨_, rfl⟩
                      refine v_iald hC m_2503 e_2505 (vp_in_iff.mpr (by first | omega | (simp only [Int32.lt_iff_toInt_lt, Int32.le_iff_toInt_le, Int32.reduceToInt, ← Int32.toInt_inj, true_and, and_true, or_true, true_or, false_or, or_false, false_and, and_false, not_true_eq_false, not_false_eq_true] <;> omega))) h_2519 dX12_same_116 ?_
                      refine v_aload_n hC dX12_same_117 rfl ?_
                      refine v_iload_n hC dX12_same_118 rfl ?_
                      refine v_iload hC dX12_same_119 rfl ?_
                      refine v_vi hC (rest := [.int v_2518, .int i_2496]) m_1 hf_2111 rfl mi_X12_bitOf ms_X12_bitOf (p_X12_bitOf hW_2108 k_0 (by first | omega | (simp only [Int32.lt_iff_toInt_lt, Int32.le_iff_toInt_le, Int32.reduceToInt, ← Int32.toInt_inj, true_and, and_true, or_true, true_or, false_or, or_false, false_and, and_false, not_true_eq_false, not_false_eq_true] <;> omega)) (by first | omega | (simp only [Int32.lt_iff_toInt_lt, Int32.le_iff_toInt_le, Int32.reduceToInt, ← Int32.toInt_inj, true_and, and_true, or_true, true_or, false_or, or_false, false_and, and_false, not_true_eq_false, not_false_eq_true] <;> omega)) hf_2110 o_w (by first | omega | (simp only [Int32.lt_iff_toInt_lt, Int32.le_iff_toInt_le, Int32.reduceToInt, ← Int32.toInt_inj, true_and, and_true, or_true, true_or, false_or, or_false, false_and, and_false, not_true_eq_false, not_false_eq_true] <;> omega)) (x_77 _ (by omega) (by omega))) mx_X12_bitOf ml_X12_370 (by decide) rfl (cells1 := 0) (slots1 := 0) (by decide) (by decide) (Nat.le_of_ble_eq_true rfl) (Nat.le_of_ble_eq_true rfl) rfl (Nat.le_of_ble_eq_true rfl) dX12_same_121 (fun r_2520 L_2521 f_2522 h_2523 => ?_)
                      obtain ⟨rfl, rfl, b_2524⟩ := h_2523
                      refine v_icmp_ne hC dX12_same_124 (tgt := 131) (by decide) (fun h_2527 => ?_) (fun h_2527 => ?_)
                      · simp only [Int32.lt_iff_toInt_lt, Int32.le_iff_toInt_le, Int32.reduceToInt, ← Int32.toInt_inj] at h_2527
                        refine v_iconst hC dX12_same_131 (v := 0) (by decide) ?_
                        obtain ⟨v_2528, h_2529⟩ : ∃ v9 : Int32, i_2496 + 0 = v9 := ⟨_, rfl⟩
                        refine v_iadd hC dX12_same_132 h_2529 ?_
                        have rg_2531 := Int32.toInt_lt i_2496
                        have rg_2532 := Int32.le_toInt i_2496
                        have h_2530 := add_v h_2529 (by first | omega | (simp only [Int32.lt_iff_toInt_lt, Int32.le_iff_toInt_le, Int32.reduceToInt, ← Int32.toInt_inj, true_and, and_true, or_true, true_or, false_or, or_false, false_and, and_false, not_true_eq_false, not_false_eq_true] <;> omega)) (by first | omega | (simp only [Int32.lt_iff_toInt_lt, Int32.le_iff_toInt_le, Int32.reduceToInt, ← Int32.toInt_inj, true_and, and_true, or_true, true_or, false_or, or_false, false_and, and_false, not_true_eq_false, not_false_eq_true] <;> omega))
                        try simp only [Int32.reduceToInt] at h_2530
                        refine v_istore hC dX12_same_133 (by decide) (lv' := [(6, .int v_2528), (7, .int i_2495), (5, .int r_72), (0, .ref a_0), (3, .int a_3)]) rfl ?_
                        obtain ⟨v_2533, h_2534⟩ : ∃ v9 : Int32, i_2495 + Int32.ofInt 1 = v9 := ⟨_, rfl⟩
                        have h_2535 := add_v (b := 1) h_2534 (by first | omega | (simp only [Int32.lt_iff_toInt_lt, Int32.le_iff_toInt_le, Int32.reduceToInt, ← Int32.toInt_inj, true_and, and_true, or_true, true_or, false_or, or_false, false_and, and_false, not_true_eq_false, not_false_eq_true] <;> omega)) (by first | omega | (simp only [Int32.lt_iff_toInt_lt, Int32.le_iff_toInt_le, Int32.reduceToInt, ← Int32.toInt_inj, true_and, and_true, or_true, true_or, false_or, or_false, false_and, and_false, not_true_eq_false, not_false_eq_true] <;> omega))
                        simp only [Int32.reduceToInt] at h_2535
                        refine v_iinc hC dX12_same_135 (k := 1) rfl (v := v_2533) h_2534 (by decide) (lv' := [(7, .int v_2533), (6, .int v_2528), (5, .int r_72), (0, .ref a_0), (3, .int a_3)]) rfl ?_
                        refine v_goto hC dX12_same_138 (tgt := 90) (by decide) ?_
                        refine v_pick [0, 1, 2, 3, 4] rfl ?_
                        exact ih_2500 v_2533 (by first | omega | (simp only [Int32.lt_iff_toInt_lt, Int32.le_iff_toInt_le, Int32.reduceToInt, ← Int32.toInt_inj, true_and, and_true, or_true, true_or, false_or, or_false, false_and, and_false, not_true_eq_false, not_false_eq_true] <;> omega)) v_2528 (by first | omega | (simp only [Int32.lt_iff_toInt_lt, Int32.le_iff_toInt_le, Int32.reduceToInt, ← Int32.toInt_inj, true_and, and_true, or_true, true_or, false_or, or_false, false_and, and_false, not_true_eq_false, not_false_eq_true] <;> omega))
                      · simp only [Int32.lt_iff_toInt_lt, Int32.le_iff_toInt_le, Int32.reduceToInt, ← Int32.toInt_inj] at h_2527
                        refine v_iconst hC dX12_same_127 (v := 1) (by decide) ?_
                        refine v_goto hC dX12_same_128 (tgt := 132) (by decide) ?_
                        obtain ⟨v_2536, h_2537⟩ : ∃ v9 : Int32, i_2496 + 1 = v9 := ⟨_, rfl⟩
                        refine v_iadd hC dX12_same_132 h_2537 ?_
                        refine v_istore hC dX12_same_133 (by decide) (lv' := [(6, .int v_2536), (7, .int i_2495), (5, .int r_72), (0, .ref a_0), (3, .int a_3)]) rfl ?_
                        obtain ⟨v_2539, h_2540⟩ : ∃ v9 : Int32, i_2495 + Int32.ofInt 1 = v9 := ⟨_, rfl⟩
                        have h_2541 := add_v (b := 1) h_2540 (by first | omega | (simp only [Int32.lt_iff_toInt_lt, Int32.le_iff_toInt_le, Int32.reduceToInt, ← Int32.toInt_inj, true_and, and_true, or_true, true_or, false_or, or_false, false_and, and_false, not_true_eq_false, not_false_eq_true] <;> omega)) (by first | omega | (simp only [Int32.lt_iff_toInt_lt, Int32.le_iff_toInt_le, Int32.reduceToInt, ← Int32.toInt_inj, true_and, and_true, or_true, true_or, false_or, or_false, false_and, and_false, not_true_eq_false, not_false_eq_true] <;> omega))
                        simp only [Int32.reduceToInt] at h_2541
                        refine v_iinc hC dX12_same_135 (k := 1) rfl (v := v_2539) h_2540 (by decide) (lv' := [(7, .int v_2539), (6, .int v_2536), (5, .int r_72), (0, .ref a_0), (3, .int a_3)]) rfl ?_
                        refine v_goto hC dX12_same_138 (tgt := 90) (by decide) ?_
                        refine v_pick [0, 1, 2, 3, 4] rfl ?_
                        exact ih_2500 v_2539 (by first | omega | (simp only [Int32.lt_iff_toInt_lt, Int32.le_iff_toInt_le, Int32.reduceToInt, ← Int32.toInt_inj, true_and, and_true, or_true, true_or, false_or, or_false, false_and, and_false, not_true_eq_false, not_false_eq_true] <;> omega)) v_2536 (by first | omega | (simp only [Int32.lt_iff_toInt_lt, Int32.le_iff_toInt_le, Int32.reduceToInt, ← Int32.toInt_inj, true_and, and_true, or_true, true_or, false_or, or_false, false_and, and_false, not_true_eq_false, not_false_eq_true] <;> omega))
              refine v_pick [0, 1, 2, 3, 5] rfl ?_
              exact lp_2498 258 0 (by decide) 0 (by decide)
            · simp only [Int32.lt_iff_toInt_lt, Int32.le_iff_toInt_le, Int32.reduceToInt, ← Int32.toInt_inj] at h_2081
              refine v_aload_n hC dX12_same_59 rfl ?_
              refine v_get hC fl_X12_58 m_1 hf_2075 rfl dX12_same_60 ?_
              refine v_iload hC dX12_same_63 rfl ?_
              refine v_aload_n hC dX12_same_65 rfl ?_
              refine v_iload_n hC dX12_same_66 rfl ?_
              refine v_iload hC dX12_same_67 rfl ?_
              refine v_vi hC (rest := [.int i_2070, .ref (q 23)]) m_1 hf_2075 rfl mi_X12_bitOf ms_X12_bitOf (p_X12_bitOf hW_2072 k_0 (by first | omega | (simp only [Int32.lt_iff_toInt_lt, Int32.le_iff_toInt_le, Int32.reduceToInt, ← Int32.toInt_inj, true_and, and_true, or_true, true_or, false_or, or_false, false_and, and_false, not_true_eq_false, not_false_eq_true] <;> omega)) (by first | omega | (simp only [Int32.lt_iff_toInt_lt, Int32.le_iff_toInt_le, Int32.reduceToInt, ← Int32.toInt_inj, true_and, and_true, or_true, true_or, false_or, or_false, false_and, and_false, not_true_eq_false, not_false_eq_true] <;> omega)) hf_2074 o_w (by first | omega | (simp only [Int32.lt_iff_toInt_lt, Int32.le_iff_toInt_le, Int32.reduceToInt, ← Int32.toInt_inj, true_and, and_true, or_true, true_or, false_or, or_false, false_and, and_false, not_true_eq_false, not_false_eq_true] <;> omega)) (x_77 _ (by omega) (by omega))) mx_X12_bitOf ml_X12_370 (by decide) rfl (cells1 := 0) (slots1 := 0) (by decide) (by decide) (Nat.le_of_ble_eq_true rfl) (Nat.le_of_ble_eq_true rfl) rfl (Nat.le_of_ble_eq_true rfl) dX12_same_69 (fun r_2542 L_2543 f_2544 h_2545 => ?_)
              obtain ⟨rfl, rfl, b_2546⟩ := h_2545
              obtain ⟨m_2549, t_2550⟩ := id k_15
              obtain ⟨g_2552, e_2551⟩ := hW_2072.at m_2549 t_2550
              refine v_iast hC m_2549 e_2551 (vp_in_iff.mpr (by first | omega | (simp only [Int32.lt_iff_toInt_lt, Int32.le_iff_toInt_le, Int32.reduceToInt, ← Int32.toInt_inj, true_and, and_true, or_true, true_or, false_or, or_false, false_and, and_false, not_true_eq_false, not_false_eq_true] <;> omega))) dX12_same_72 (fun f_2553 hf_2554 hk_2555 => ?_)
              have hW_2557 := hW_2072.up hf_2554 hk_2555 t_2550 ⟨_, rfl⟩
              obtain ⟨g_2556, hf_2554⟩ : ∃ g9, f_2553 (q 23) = aI E 256 g9 := ⟨_, hf_2554⟩
              have hf_2558 := (hk_2555 (q 1) (ne_kd hf_2074 e_2551 rfl)).trans hf_2074
              have hf_2559 := (hk_2555 a_0 (ne_kd hf_2075 e_2551 rfl)).trans hf_2075
              have fr_2560 := FR.w hk_2555 e_2551 (k := 356) rfl
              obtain ⟨v_2561, h_2562⟩ : ∃ v9 : Int32, i_2070 + Int32.ofInt 1 = v9 := ⟨_, rfl⟩
              have h_2563 := add_v (b := 1) h_2562 (by first | omega | (simp only [Int32.lt_iff_toInt_lt, Int32.le_iff_toInt_le, Int32.reduceToInt, ← Int32.toInt_inj, true_and, and_true, or_true, true_or, false_or, or_false, false_and, and_false, not_true_eq_false, not_false_eq_true] <;> omega)) (by first | omega | (simp only [Int32.lt_iff_toInt_lt, Int32.le_iff_toInt_le, Int32.reduceToInt, ← Int32.toInt_inj, true_and, and_true, or_true, true_or, false_or, or_false, false_and, and_false, not_true_eq_false, not_false_eq_true] <;> omega))
              simp only [Int32.reduceToInt] at h_2563
              refine v_iinc hC dX12_same_73 (k := 0) rfl (v := v_2561) h_2562 (by decide) (lv' := [(6, .int v_2561), (5, .int r_72), (0, .ref a_0), (2, .int a_2), (3, .int a_3)]) rfl ?_
              refine v_goto hC dX12_same_76 (tgt := 52) (by decide) ?_
              refine v_pick [0, 1, 2, 3, 4] rfl ?_
              exact ih_2079 f_2553 hW_2557 ((hF_2073.tr fr_2560).mono rfl) v_2561 (by first | omega | (simp only [Int32.lt_iff_toInt_lt, Int32.le_iff_toInt_le, Int32.reduceToInt, ← Int32.toInt_inj, true_and, and_true, or_true, true_or, false_or, or_false, false_and, and_false, not_true_eq_false, not_false_eq_true] <;> omega)) (by first | omega | (simp only [Int32.lt_iff_toInt_lt, Int32.le_iff_toInt_le, Int32.reduceToInt, ← Int32.toInt_inj, true_and, and_true, or_true, true_or, false_or, or_false, false_and, and_false, not_true_eq_false, not_false_eq_true] <;> omega))
        refine v_pick [0, 1, 3, 5, 6] rfl ?_
        exact lp_2077 258 f_106 hW_108 FR.rf 0 (by decide) (by decide)
      · simp only [Int32.lt_iff_toInt_lt, Int32.le_iff_toInt_le, Int32.reduceToInt, ← Int32.toInt_inj] at h_71
        refine v_bipush hC dX12_same_34 (v := (-6)) (by decide) ?_
        exact hR _ _ _ _ _ _ _ dX12_same_36 rfl (Nat.le_of_ble_eq_true rfl) (Nat.le_of_ble_eq_true rfl) ⟨rfl, hW, FR.rf, (.inl (by decide)), (.inl (by decide)), (.inl (by decide))⟩
    · simp only [Int32.lt_iff_toInt_lt, Int32.le_iff_toInt_le, Int32.reduceToInt, ← Int32.toInt_inj] at h_62
      refine v_iload hC dX12_same_23 rfl ?_
      exact hR _ _ _ _ _ _ _ dX12_same_25 rfl (Nat.le_of_ble_eq_true rfl) (Nat.le_of_ble_eq_true rfl) ⟨rfl, hW, FR.rf, (by first | omega | (simp only [Int32.lt_iff_toInt_lt, Int32.le_iff_toInt_le, Int32.reduceToInt, ← Int32.toInt_inj, true_and, and_true, or_true, true_or, false_or, or_false, false_and, and_false, not_true_eq_false, not_false_eq_true] <;> omega)), (by first | omega | (simp only [Int32.lt_iff_toInt_lt, Int32.le_iff_toInt_le, Int32.reduceToInt, ← Int32.toInt_inj, true_and, and_true, or_true, true_or, false_or, or_false, false_and, and_false, not_true_eq_false, not_false_eq_true] <;> omega)), (.inr (by first | omega | (simp only [Int32.lt_iff_toInt_lt, Int32.le_iff_toInt_le, Int32.reduceToInt, ← Int32.toInt_inj, true_and, and_true, or_true, true_or, false_or, or_false, false_and, and_false, not_true_eq_false, not_false_eq_true] <;> omega)))⟩
  · simp only [Int32.lt_iff_toInt_lt, Int32.le_iff_toInt_le, Int32.reduceToInt, ← Int32.toInt_inj] at h_33
    refine v_bipush hC dX12_same_7 (v := (-2)) (by decide) ?_
    exact hR _ _ _ _ _ _ _ dX12_same_9 rfl (Nat.le_of_ble_eq_true rfl) (Nat.le_of_ble_eq_true rfl) ⟨rfl, hW, FR.rf, (.inl (by decide)), (.inl (by decide)), (.inl (by decide))⟩
set_option maxRecDepth 100000 in
set_option maxHeartbeats 4000000 in
theorem p_X12_unravels {l : Launch} {E : Ez} {L : List Nat} {f : Nat → va_E} {T : Nat → va_E → Prop} {a_0 : Nat} {q : Nat → Nat} {g_w : Nat → Int32} (hW : WT T L f) (k_0 : isM T L E a_0 q) (e_w : f (q 1) = aI E 2076 g_w) (o_w : WOK g_w) : CI l yX12_unravels cX12_unravels 5 .int 1 0 0 E [.ref a_0] L f (fun r L1 f1 => L = L1 ∧ WT T L f1 ∧ FR [356] f f1 ∧ (0 ≤ r.toInt ∧ r.toInt ≤ 256)) := by
  refine ci_of (by decide) (Nat.le_of_ble_eq_true rfl) (fun z hz hnm hC hR => ?_)
  have hC : Cx z E cX12_unravels RX12 5 1 0 0 := hC
  subst hz
  show V z E 5 0 0 L f 0 [(0, .ref a_0)] []
  obtain ⟨m_1, t_2, k_3, k_4, k_5, k_6, k_7, k_8, k_9, k_10, k_11, k_12, k_13, k_14, k_15, k_16, k_17, k_18, k_19, k_20⟩ := id k_0
  obtain ⟨m_21, t_22⟩ := id k_3
  have b_23 := o_w.r0
  have b_24 := o_w.w0
  refine v_iconst hC dX12_unravels_0 (v := 0) (by decide) ?_
  refine v_istore_n hC dX12_unravels_1 (by decide) (lv' := [(1, .int 0), (0, .ref a_0)]) rfl ?_
  refine v_aload_n hC dX12_unravels_2 rfl ?_
  obtain ⟨v_26, v_27, v_29, v_31, v_33, v_35, v_37, v_38, v_39, v_40, v_42, e_25, b_28, b_30, b_32, b_34, b_36, b_41, b_43⟩ := hW.at m_1 t_2
  refine v_vi hC (rest := []) m_1 e_25 rfl mi_X12_rows ms_X12_rows (p_X12_rows hW k_0 e_w o_w) mx_X12_rows ml_X12_83 (by decide) rfl (cells1 := 0) (slots1 := 0) (by decide) (by decide) (Nat.le_of_ble_eq_true rfl) (Nat.le_of_ble_eq_true rfl) rfl (Nat.le_of_ble_eq_true rfl) dX12_unravels_3 (fun r_44 L_45 f_46 h_47 => ?_)
  obtain ⟨rfl, rfl, rfl⟩ := h_47
  refine v_iconst hC dX12_unravels_6 (v := 1) (by decide) ?_
  obtain ⟨v_50, h_51⟩ : ∃ v9 : Int32, (g_w 0) - 1 = v9 := ⟨_, rfl⟩
  refine v_isub hC dX12_unravels_7 h_51 ?_
  have h_52 := sub_v h_51 (by first | omega | (simp only [Int32.lt_iff_toInt_lt, Int32.le_iff_toInt_le, Int32.reduceToInt, ← Int32.toInt_inj, true_and, and_true, or_true, true_or, false_or, or_false, false_and, and_false, not_true_eq_false, not_false_eq_true] <;> omega)) (by first | omega | (simp only [Int32.lt_iff_toInt_lt, Int32.le_iff_toInt_le, Int32.reduceToInt, ← Int32.toInt_inj, true_and, and_true, or_true, true_or, false_or, or_false, false_and, and_false, not_true_eq_false, not_false_eq_true] <;> omega))
  try simp only [Int32.reduceToInt] at h_52
  refine v_istore_n hC dX12_unravels_8 (by decide) (lv' := [(2, .int v_50), (1, .int 0), (0, .ref a_0)]) rfl ?_
  have lp_2933 : ∀ (n_2934 : Nat) (f_2925 : Nat → va_E) (hW_2926 : WT T L f_2925) (hF_2927 : FR [356] f f_2925) (i_2923 : Int32) (b_2930 : ((-1) ≤ i_2923.toInt ∧ i_2923.toInt ≤ 15)) (i_2924 : Int32) (b_2931 : (0 ≤ i_2924.toInt ∧ i_2924.toInt ≤ 256)) (nv_2932 : i_2924.toInt ≤ 16 * (15 - i_2923.toInt)) (hm_2936 : i_2923.toInt - (-1) < (n_2934 : Int)), V z E 5 0 0 L f_2925 9 [(2, .int i_2923), (1, .int i_2924), (0, .ref a_0)] [] := by
    intro n_2934
    induction n_2934 with
    | zero =>
      intro f_2925 hW_2926 hF_2927 i_2923 b_2930 i_2924 b_2931 nv_2932 hm_2936
      have hf_2928 := hF_2927.at e_w rfl
      have hf_2929 := hF_2927.at e_25 rfl
      exfalso; omega
    | succ n_2934 ih_2935 =>
      intro f_2925 hW_2926 hF_2927 i_2923 b_2930 i_2924 b_2931 nv_2932 hm_2936
      have hf_2928 := hF_2927.at e_w rfl
      have hf_2929 := hF_2927.at e_25 rfl
      refine v_iload_n hC dX12_unravels_9 rfl ?_
      refine v_if_lt hC dX12_unravels_10 (tgt := 88) (by decide) (fun h_2937 => ?_) (fun h_2937 => ?_)
      · simp only [Int32.lt_iff_toInt_lt, Int32.le_iff_toInt_le, Int32.reduceToInt, ← Int32.toInt_inj] at h_2937
        refine v_iload_n hC dX12_unravels_88 rfl ?_
        exact hR _ _ _ _ _ _ _ dX12_unravels_89 rfl (Nat.le_of_ble_eq_true rfl) (Nat.le_of_ble_eq_true rfl) ⟨rfl, hW_2926, (hF_2927.mono rfl), (by first | omega | (simp only [Int32.lt_iff_toInt_lt, Int32.le_iff_toInt_le, Int32.reduceToInt, ← Int32.toInt_inj, true_and, and_true, or_true, true_or, false_or, or_false, false_and, and_false, not_true_eq_false, not_false_eq_true] <;> omega))⟩
      · simp only [Int32.lt_iff_toInt_lt, Int32.le_iff_toInt_le, Int32.reduceToInt, ← Int32.toInt_inj] at h_2937
        refine v_iconst hC dX12_unravels_13 (v := 0) (by decide) ?_
        refine v_istore_n hC dX12_unravels_14 (by decide) (lv' := [(3, .int 0), (2, .int i_2923), (1, .int i_2924), (0, .ref a_0)]) rfl ?_
        have lp_3322 : ∀ (n_3323 : Nat) (f_3314 : Nat → va_E) (hW_3315 : WT T L f_3314) (hF_3316 : FR [356] f_2925 f_3314) (i_3312 : Int32) (b_3319 : (0 ≤ i_3312.toInt ∧ i_3312.toInt ≤ 16)) (i_3313 : Int32) (b_3320 : (0 ≤ i_3313.toInt ∧ i_3313.toInt ≤ 256)) (nv_3321 : i_3313.toInt ≤ 16 * (15 - i_2923.toInt) + i_3312.toInt) (hm_3325 : 16 - i_3312.toInt < (n_3323 : Int)), V z E 5 0 0 L f_3314 15 [(3, .int i_3312), (2, .int i_2923), (1, .int i_3313), (0, .ref a_0)] [] := by
          intro n_3323
          induction n_3323 with
          | zero =>
            intro f_3314 hW_3315 hF_3316 i_3312 b_3319 i_3313 b_3320 nv_3321 hm_3325
            have hf_3317 := hF_3316.at hf_2928 rfl
            have hf_3318 := hF_3316.at hf_2929 rfl
            exfalso; omega
          | succ n_3323 ih_3324 =>
            intro f_3314 hW_3315 hF_3316 i_3312 b_3319 i_3313 b_3320 nv_3321 hm_3325
            have hf_3317 := hF_3316.at hf_2928 rfl
            have hf_3318 := hF_3316.at hf_2929 rfl
            refine v_iload_n hC dX12_unravels_15 rfl ?_
            refine v_aload_n hC dX12_unravels_16 rfl ?_
            refine v_vi hC (rest := [.int i_3312]) m_1 hf_3318 rfl mi_X12_wide ms_X12_wide (p_X12_wide hW_3315 k_0 hf_3317 o_w) mx_X12_wide ml_X12_87 (by decide) rfl (cells1 := 0) (slots1 := 0) (by decide) (by decide) (Nat.le_of_ble_eq_true rfl) (Nat.le_of_ble_eq_true rfl) rfl (Nat.le_of_ble_eq_true rfl) dX12_unravels_17 (fun r_3326 L_3327 f_3328 h_3329 => ?_)
            obtain ⟨rfl, rfl, rfl⟩ := h_3329
            refine v_icmp_ge hC dX12_unravels_20 (tgt := 82) (by decide) (fun h_3332 => ?_) (fun h_3332 => ?_)
            · simp only [Int32.lt_iff_toInt_lt, Int32.le_iff_toInt_le, Int32.reduceToInt, ← Int32.toInt_inj] at h_3332
              obtain ⟨v_3333, h_3334⟩ : ∃ v9 : Int32, i_2923 + Int32.ofInt (-1) = v9 := ⟨_, rfl⟩
              have h_3335 := add_v (b := (-1)) h_3334 (by first | omega | (simp only [Int32.lt_iff_toInt_lt, Int32.le_iff_toInt_le, Int32.reduceToInt, ← Int32.toInt_inj, true_and, and_true, or_true, true_or, false_or, or_false, false_and, and_false, not_true_eq_false, not_false_eq_true] <;> omega)) (by first | omega | (simp only [Int32.lt_iff_toInt_lt, Int32.le_iff_toInt_le, Int32.reduceToInt, ← Int32.toInt_inj, true_and, and_true, or_true, true_or, false_or, or_false, false_and, and_false, not_true_eq_false, not_false_eq_true] <;> omega))
              simp only [Int32.reduceToInt] at h_3335
              refine v_iinc hC dX12_unravels_82 (k := 1) rfl (v := v_3333) h_3334 (by decide) (lv' := [(2, .int v_3333), (3, .int i_3312), (1, .int i_3313), (0, .ref a_0)]) rfl ?_
              refine v_goto hC dX12_unravels_85 (tgt := 9) (by decide) ?_
              refine v_pick [0, 2, 3] rfl ?_
              exact ih_2935 f_3314 hW_3315 ((hF_2927.tr hF_3316).mono rfl) v_3333 (by first | omega | (simp only [Int32.lt_iff_toInt_lt, Int32.le_iff_toInt_le, Int32.reduceToInt, ← Int32.toInt_inj, true_and, and_true, or_true, true_or, false_or, or_false, false_and, and_false, not_true_eq_false, not_false_eq_true] <;> omega)) i_3313 (by first | omega | (simp only [Int32.lt_iff_toInt_lt, Int32.le_iff_toInt_le, Int32.reduceToInt, ← Int32.toInt_inj, true_and, and_true, or_true, true_or, false_or, or_false, false_and, and_false, not_true_eq_false, not_false_eq_true] <;> omega)) (by first | omega | (simp only [Int32.lt_iff_toInt_lt, Int32.le_iff_toInt_le, Int32.reduceToInt, ← Int32.toInt_inj, true_and, and_true, or_true, true_or, false_or, or_false, false_and, and_false, not_true_eq_false, not_false_eq_true] <;> omega)) (by first | omega | (simp only [Int32.lt_iff_toInt_lt, Int32.le_iff_toInt_le, Int32.reduceToInt, ← Int32.toInt_inj, true_and, and_true, or_true, true_or, false_or, or_false, false_and, and_false, not_true_eq_false, not_false_eq_true] <;> omega))
            · simp only [Int32.lt_iff_toInt_lt, Int32.le_iff_toInt_le, Int32.reduceToInt, ← Int32.toInt_inj] at h_3332
              refine v_aload_n hC dX12_unravels_23 rfl ?_
              refine v_get hC fl_X12_37 m_1 hf_3318 rfl dX12_unravels_24 ?_
              refine v_iload_n hC dX12_unravels_27 rfl ?_
              refine v_aload_n hC dX12_unravels_28 rfl ?_
              refine v_vi hC (rest := [.int i_2923, .ref (q 15)]) m_1 hf_3318 rfl mi_X12_wide ms_X12_wide (p_X12_wide hW_3315 k_0 hf_3317 o_w) mx_X12_wide ml_X12_87 (by decide) rfl (cells1 := 0) (slots1 := 0) (by decide) (by decide) (Nat.le_of_ble_eq_true rfl) (Nat.le_of_ble_eq_true rfl) rfl (Nat.le_of_ble_eq_true rfl) dX12_unravels_29 (fun r_3336 L_3337 f_3338 h_3339 => ?_)
              obtain ⟨rfl, rfl, rfl⟩ := h_3339
              obtain ⟨v_3342, h_3343⟩ : ∃ v9 : Int32, i_2923 * (g_w 1) = v9 := ⟨_, rfl⟩
              refine v_imul hC dX12_unravels_32 h_3343 ?_
              have h_3344 := mul_v 15 16 240 h_3343 (by first | omega | (simp only [Int32.lt_iff_toInt_lt, Int32.le_iff_toInt_le, Int32.reduceToInt, ← Int32.toInt_inj, true_and, and_true, or_true, true_or, false_or, or_false, false_and, and_false, not_true_eq_false, not_false_eq_true] <;> omega)) (by first | omega | (simp only [Int32.lt_iff_toInt_lt, Int32.le_iff_toInt_le, Int32.reduceToInt, ← Int32.toInt_inj, true_and, and_true, or_true, true_or, false_or, or_false, false_and, and_false, not_true_eq_false, not_false_eq_true] <;> omega)) (by decide) (by decide)
              refine v_iload_n hC dX12_unravels_33 rfl ?_
              refine v_iconst hC dX12_unravels_34 (v := 2) (by decide) ?_
              obtain ⟨v_3345, h_3346⟩ : ∃ v9 : Int32, i_2923 - i_2923 / 2 * 2 = v9 := ⟨_, rfl⟩
              refine v_irem hC dX12_unravels_35 (by decide) h_3346 ?_
              have h_3347 := rem_v h_3346 (by first | omega | (simp only [Int32.lt_iff_toInt_lt, Int32.le_iff_toInt_le, Int32.reduceToInt, ← Int32.toInt_inj, true_and, and_true, or_true, true_or, false_or, or_false, false_and, and_false, not_true_eq_false, not_false_eq_true] <;> omega)) (by decide)
              try simp only [Int32.reduceToInt] at h_3347
              refine v_iconst hC dX12_unravels_36 (v := 1) (by decide) ?_
              have jn_3362 : ∀ (v_3363 : Int32) (b_3364 : (0 ≤ v_3363.toInt ∧ v_3363.toInt ≤ 15)), V z E 5 0 0 L f_3314 52 [(3, .int i_3312), (2, .int i_2923), (1, .int i_3313), (0, .ref a_0)] [.int v_3363, .int v_3342, .ref (q 15)] := by
                intro v_3363 b_3364
                obtain ⟨v_3365, h_3366⟩ : ∃ v9 : Int32, v_3342 + v_3363 = v9 := ⟨_, rfl⟩
                refine v_iadd hC dX12_unravels_52 h_3366 ?_
                have h_3367 := add_v h_3366 (by first | omega | (simp only [Int32.lt_iff_toInt_lt, Int32.le_iff_toInt_le, Int32.reduceToInt, ← Int32.toInt_inj, true_and, and_true, or_true, true_or, false_or, or_false, false_and, and_false, not_true_eq_false, not_false_eq_true] <;> omega)) (by first | omega | (simp only [Int32.lt_iff_toInt_lt, Int32.le_iff_toInt_le, Int32.reduceToInt, ← Int32.toInt_inj, true_and, and_true, or_true, true_or, false_or, or_false, false_and, and_false, not_true_eq_false, not_false_eq_true] <;> omega))
                obtain ⟨m_3368, t_3369⟩ := id k_9
                obtain ⟨g_3371, e_3370⟩ := hW_3315.at m_3368 t_3369
                obtain ⟨v_3372, h_3373⟩ : ∃ v9 : Int32, g_3371 (v_3365 : Int32).toNatClampNeg = v9 := ⟨_, rfl⟩
                refine v_iald hC m_3368 e_3370 (vp_in_iff.mpr (by first | omega | (simp only [Int32.lt_iff_toInt_lt, Int32.le_iff_toInt_le, Int32.reduceToInt, ← Int32.toInt_inj, true_and, and_true, or_true, true_or, false_or, or_false, false_and, and_false, not_true_eq_false, not_false_eq_true] <;> omega))) h_3373 dX12_unravels_53 ?_
                refine v_istore hC dX12_unravels_54 (by decide) (lv' := [(4, .int v_3372), (3, .int i_3312), (2, .int i_2923), (1, .int i_3313), (0, .ref a_0)]) rfl ?_
                refine v_iload hC dX12_unravels_56 rfl ?_
                refine v_iconst hC dX12_unravels_58 (v := 4) (by decide) ?_
                refine v_icmp_ne hC dX12_unravels_59 (tgt := 65) (by decide) (fun h_3374 => ?_) (fun h_3374 => ?_)
                · simp only [Int32.lt_iff_toInt_lt, Int32.le_iff_toInt_le, Int32.reduceToInt, ← Int32.toInt_inj] at h_3374
                  refine v_aload_n hC dX12_unravels_65 rfl ?_
                  refine v_get hC fl_X12_61 m_1 hf_3318 rfl dX12_unravels_66 ?_
                  refine v_iload_n hC dX12_unravels_69 rfl ?_
                  refine v_iload hC dX12_unravels_70 rfl ?_
                  obtain ⟨m_3375, t_3376⟩ := id k_16
                  obtain ⟨g_3378, e_3377⟩ := hW_3315.at m_3375 t_3376
                  refine v_iast hC m_3375 e_3377 (vp_in_iff.mpr (by first | omega | (simp only [Int32.lt_iff_toInt_lt, Int32.le_iff_toInt_le, Int32.reduceToInt, ← Int32.toInt_inj, true_and, and_true, or_true, true_or, false_or, or_false, false_and, and_false, not_true_eq_false, not_false_eq_true] <;> omega))) dX12_unravels_72 (fun f_3379 hf_3380 hk_3381 => ?_)
                  have hW_3383 := hW_3315.up hf_3380 hk_3381 t_3376 ⟨_, rfl⟩
                  obtain ⟨g_3382, hf_3380⟩ : ∃ g9, f_3379 (q 24) = aI E 256 g9 := ⟨_, hf_3380⟩
                  have hf_3384 := (hk_3381 (q 1) (ne_kd hf_3317 e_3377 rfl)).trans hf_3317
                  have hf_3385 := (hk_3381 a_0 (ne_kd hf_3318 e_3377 rfl)).trans hf_3318
                  have fr_3386 := FR.w hk_3381 e_3377 (k := 356) rfl
                  obtain ⟨v_3387, h_3388⟩ : ∃ v9 : Int32, i_3313 + Int32.ofInt 1 = v9 := ⟨_, rfl⟩
                  have h_3389 := add_v (b := 1) h_3388 (by first | omega | (simp only [Int32.lt_iff_toInt_lt, Int32.le_iff_toInt_le, Int32.reduceToInt, ← Int32.toInt_inj, true_and, and_true, or_true, true_or, false_or, or_false, false_and, and_false, not_true_eq_false, not_false_eq_true] <;> omega)) (by first | omega | (simp only [Int32.lt_iff_toInt_lt, Int32.le_iff_toInt_le, Int32.reduceToInt, ← Int32.toInt_inj, true_and, and_true, or_true, true_or, false_or, or_false, false_and, and_false, not_true_eq_false, not_false_eq_true] <;> omega))
                  simp only [Int32.reduceToInt] at h_3389
                  refine v_iinc hC dX12_unravels_73 (k := 3) rfl (v := v_3387) h_3388 (by decide) (lv' := [(1, .int v_3387), (4, .int v_3372), (3, .int i_3312), (2, .int i_2923), (0, .ref a_0)]) rfl ?_
                  obtain ⟨v_3390, h_3391⟩ : ∃ v9 : Int32, i_3312 + Int32.ofInt 1 = v9 := ⟨_, rfl⟩
                  have h_3392 := add_v (b := 1) h_3391 (by first | omega | (simp only [Int32.lt_iff_toInt_lt, Int32.le_iff_toInt_le, Int32.reduceToInt, ← Int32.toInt_inj, true_and, and_true, or_true, true_or, false_or, or_false, false_and, and_false, not_true_eq_false, not_false_eq_true] <;> omega)) (by first | omega | (simp only [Int32.lt_iff_toInt_lt, Int32.le_iff_toInt_le, Int32.reduceToInt, ← Int32.toInt_inj, true_and, and_true, or_true, true_or, false_or, or_false, false_and, and_false, not_true_eq_false, not_false_eq_true] <;> omega))
                  simp only [Int32.reduceToInt] at h_3392
                  refine v_iinc hC dX12_unravels_76 (k := 2) rfl (v := v_3390) h_3391 (by decide) (lv' := [(3, .int v_3390), (1, .int v_3387), (4, .int v_3372), (2, .int i_2923), (0, .ref a_0)]) rfl ?_
                  refine v_goto hC dX12_unravels_79 (tgt := 15) (by decide) ?_
                  refine v_pick [0, 3, 1, 4] rfl ?_
                  exact ih_3324 f_3379 hW_3383 ((hF_3316.tr fr_3386).mono rfl) v_3390 (by first | omega | (simp only [Int32.lt_iff_toInt_lt, Int32.le_iff_toInt_le, Int32.reduceToInt, ← Int32.toInt_inj, true_and, and_true, or_true, true_or, false_or, or_false, false_and, and_false, not_true_eq_false, not_false_eq_true] <;> omega)) v_3387 (by first | omega | (simp only [Int32.lt_iff_toInt_lt, Int32.le_iff_toInt_le, Int32.reduceToInt, ← Int32.toInt_inj, true_and, and_true, or_true, true_or, false_or, or_false, false_and, and_false, not_true_eq_false, not_false_eq_true] <;> omega)) (by first | omega | (simp only [Int32.lt_iff_toInt_lt, Int32.le_iff_toInt_le, Int32.reduceToInt, ← Int32.toInt_inj, true_and, and_true, or_true, true_or, false_or, or_false, false_and, and_false, not_true_eq_false, not_false_eq_true] <;> omega)) (by first | omega | (simp only [Int32.lt_iff_toInt_lt, Int32.le_iff_toInt_le, Int32.reduceToInt, ← Int32.toInt_inj, true_and, and_true, or_true, true_or, false_or, or_false, false_and, and_false, not_true_eq_false, not_false_eq_true] <;> omega))
                · simp only [Int32.lt_iff_toInt_lt, Int32.le_iff_toInt_le, Int32.reduceToInt, ← Int32.toInt_inj] at h_3374
                  refine v_goto hC dX12_unravels_62 (tgt := 76) (by decide) ?_
                  obtain ⟨v_3393, h_3394⟩ : ∃ v9 : Int32, i_3312 + Int32.ofInt 1 = v9 := ⟨_, rfl⟩
                  have h_3395 := add_v (b := 1) h_3394 (by first | omega | (simp only [Int32.lt_iff_toInt_lt, Int32.le_iff_toInt_le, Int32.reduceToInt, ← Int32.toInt_inj, true_and, and_true, or_true, true_or, false_or, or_false, false_and, and_false, not_true_eq_false, not_false_eq_true] <;> omega)) (by first | omega | (simp only [Int32.lt_iff_toInt_lt, Int32.le_iff_toInt_le, Int32.reduceToInt, ← Int32.toInt_inj, true_and, and_true, or_true, true_or, false_or, or_false, false_and, and_false, not_true_eq_false, not_false_eq_true] <;> omega))
                  simp only [Int32.reduceToInt] at h_3395
                  refine v_iinc hC dX12_unravels_76 (k := 1) rfl (v := v_3393) h_3394 (by decide) (lv' := [(3, .int v_3393), (4, .int v_3372), (2, .int i_2923), (1, .int i_3313), (0, .ref a_0)]) rfl ?_
                  refine v_goto hC dX12_unravels_79 (tgt := 15) (by decide) ?_
                  refine v_pick [0, 2, 3, 4] rfl ?_
                  exact ih_3324 f_3314 hW_3315 (hF_3316.mono rfl) v_3393 (by first | omega | (simp only [Int32.lt_iff_toInt_lt, Int32.le_iff_toInt_le, Int32.reduceToInt, ← Int32.toInt_inj, true_and, and_true, or_true, true_or, false_or, or_false, false_and, and_false, not_true_eq_false, not_false_eq_true] <;> omega)) i_3313 (by first | omega | (simp only [Int32.lt_iff_toInt_lt, Int32.le_iff_toInt_le, Int32.reduceToInt, ← Int32.toInt_inj, true_and, and_true, or_true, true_or, false_or, or_false, false_and, and_false, not_true_eq_false, not_false_eq_true] <;> omega)) (by first | omega | (simp only [Int32.lt_iff_toInt_lt, Int32.le_iff_toInt_le, Int32.reduceToInt, ← Int32.toInt_inj, true_and, and_true, or_true, true_or, false_or, or_false, false_and, and_false, not_true_eq_false, not_false_eq_true] <;> omega)) (by first | omega | (simp only [Int32.lt_iff_toInt_lt, Int32.le_iff_toInt_le, Int32.reduceToInt, ← Int32.toInt_inj, true_and, and_true, or_true, true_or, false_or, or_false, false_and, and_false, not_true_eq_false, not_false_eq_true] <;> omega))
              refine v_icmp_ne hC dX12_unravels_37 (tgt := 44) (by decide) (fun h_3348 => ?_) (fun h_3348 => ?_)
              · simp only [Int32.lt_iff_toInt_lt, Int32.le_iff_toInt_le, Int32.reduceToInt, ← Int32.toInt_inj] at h_3348
                refine v_aload_n hC dX12_unravels_44 rfl ?_
                refine v_vi hC (rest := [.int v_3342, .ref (q 15)]) m_1 hf_3318 rfl mi_X12_wide ms_X12_wide (p_X12_wide hW_3315 k_0 hf_3317 o_w) mx_X12_wide ml_X12_87 (by decide) rfl (cells1 := 0) (slots1 := 0) (by decide) (by decide) (Nat.le_of_ble_eq_true rfl) (Nat.le_of_ble_eq_true rfl) rfl (Nat.le_of_ble_eq_true rfl) dX12_unravels_45 (fun r_3396 L_3397 f_3398 h_3399 => ?_)
                obtain ⟨rfl, rfl, rfl⟩ := h_3399
                refine v_iconst hC dX12_unravels_48 (v := 1) (by decide) ?_
                obtain ⟨v_3402, h_3403⟩ : ∃ v9 : Int32, (g_w 1) - 1 = v9 := ⟨_, rfl⟩
                refine v_isub hC dX12_unravels_49 h_3403 ?_
                have h_3404 := sub_v h_3403 (by first | omega | (simp only [Int32.lt_iff_toInt_lt, Int32.le_iff_toInt_le, Int32.reduceToInt, ← Int32.toInt_inj, true_and, and_true, or_true, true_or, false_or, or_false, false_and, and_false, not_true_eq_false, not_false_eq_true] <;> omega)) (by first | omega | (simp only [Int32.lt_iff_toInt_lt, Int32.le_iff_toInt_le, Int32.reduceToInt, ← Int32.toInt_inj, true_and, and_true, or_true, true_or, false_or, or_false, false_and, and_false, not_true_eq_false, not_false_eq_true] <;> omega))
                try simp only [Int32.reduceToInt] at h_3404
                refine v_iload_n hC dX12_unravels_50 rfl ?_
                obtain ⟨v_3405, h_3406⟩ : ∃ v9 : Int32, v_3402 - i_3312 = v9 := ⟨_, rfl⟩
                refine v_isub hC dX12_unravels_51 h_3406 ?_
                have h_3407 := sub_v h_3406 (by first | omega | (simp only [Int32.lt_iff_toInt_lt, Int32.le_iff_toInt_le, Int32.reduceToInt, ← Int32.toInt_inj, true_and, and_true, or_true, true_or, false_or, or_false, false_and, and_false, not_true_eq_false, not_false_eq_true] <;> omega)) (by first | omega | (simp only [Int32.lt_iff_toInt_lt, Int32.le_iff_toInt_le, Int32.reduceToInt, ← Int32.toInt_inj, true_and, and_true, or_true, true_or, false_or, or_false, false_and, and_false, not_true_eq_false, not_false_eq_true] <;> omega))
                have b_3408 : (0 ≤ v_3405.toInt ∧ v_3405.toInt ≤ 15) := (by first | omega | (simp only [Int32.lt_iff_toInt_lt, Int32.le_iff_toInt_le, Int32.reduceToInt, ← Int32.toInt_inj, true_and, and_true, or_true, true_or, false_or, or_false, false_and, and_false, not_true_eq_false, not_false_eq_true] <;> omega))
                refine v_pick [0, 1, 2, 3] rfl ?_
                exact jn_3362 v_3405 (by first | omega | (simp only [Int32.lt_iff_toInt_lt, Int32.le_iff_toInt_le, Int32.reduceToInt, ← Int32.toInt_inj, true_and, and_true, or_true, true_or, false_or, or_false, false_and, and_false, not_true_eq_false, not_false_eq_true] <;> omega))
              · simp only [Int32.lt_iff_toInt_lt, Int32.le_iff_toInt_le, Int32.reduceToInt, ← Int32.toInt_inj] at h_3348
                refine v_iload_n hC dX12_unravels_40 rfl ?_
                refine v_goto hC dX12_unravels_41 (tgt := 52) (by decide) ?_
                refine v_pick [0, 1, 2, 3] rfl ?_
                exact jn_3362 i_3312 (by first | omega | (simp only [Int32.lt_iff_toInt_lt, Int32.le_iff_toInt_le, Int32.reduceToInt, ← Int32.toInt_inj, true_and, and_true, or_true, true_or, false_or, or_false, false_and, and_false, not_true_eq_false, not_false_eq_true] <;> omega))
        refine v_pick [0, 1, 2, 3] rfl ?_
        exact lp_3322 18 f_2925 hW_2926 FR.rf 0 (by decide) i_2924 (by first | omega | (simp only [Int32.lt_iff_toInt_lt, Int32.le_iff_toInt_le, Int32.reduceToInt, ← Int32.toInt_inj, true_and, and_true, or_true, true_or, false_or, or_false, false_and, and_false, not_true_eq_false, not_false_eq_true] <;> omega)) (by first | omega | (simp only [Int32.lt_iff_toInt_lt, Int32.le_iff_toInt_le, Int32.reduceToInt, ← Int32.toInt_inj, true_and, and_true, or_true, true_or, false_or, or_false, false_and, and_false, not_true_eq_false, not_false_eq_true] <;> omega)) (by decide)
  refine v_pick [0, 1, 2] rfl ?_
  exact lp_2933 18 f hW FR.rf v_50 (by first | omega | (simp only [Int32.lt_iff_toInt_lt, Int32.le_iff_toInt_le, Int32.reduceToInt, ← Int32.toInt_inj, true_and, and_true, or_true, true_or, false_or, or_false, false_and, and_false, not_true_eq_false, not_false_eq_true] <;> omega)) 0 (by decide) (by first | omega | (simp only [Int32.lt_iff_toInt_lt, Int32.le_iff_toInt_le, Int32.reduceToInt, ← Int32.toInt_inj, true_and, and_true, or_true, true_or, false_or, or_false, false_and, and_false, not_true_eq_false, not_false_eq_true] <;> omega)) (by first | omega | (simp only [Int32.lt_iff_toInt_lt, Int32.le_iff_toInt_le, Int32.reduceToInt, ← Int32.toInt_inj, true_and, and_true, or_true, true_or, false_or, or_false, false_and, and_false, not_true_eq_false, not_false_eq_true] <;> omega))
set_option maxRecDepth 100000 in
set_option maxHeartbeats 4000000 in
theorem p_X12_ball {l : Launch} {E : Ez} {L : List Nat} {f : Nat → va_E} {T : Nat → va_E → Prop} {a_0 : Nat} {a_1 : Int32} {a_2 : Int32} {q : Nat → Nat} {g_w : Nat → Int32} (hW : WT T L f) (k_0 : isM T L E a_0 q) (e_w : f (q 1) = aI E 2076 g_w) (o_w : WOK g_w) : CI l yX12_ball cX12_ball 4 .int 3 0 0 E [.ref a_0, .int a_1, .int a_2] L f (fun r L1 f1 => L = L1 ∧ WT T L f1 ∧ FR [356] f f1 ∧ (¬ r.toInt = 0 ∨ (0 ≤ a_1.toInt ∧ a_1.toInt ≤ 3)) ∧ (¬ r.toInt = 0 ∨ (0 ≤ a_2.toInt ∧ a_2.toInt ≤ 255))) := by
  refine ci_of (by decide) (Nat.le_of_ble_eq_true rfl) (fun z hz hnm hC hR => ?_)
  have hC : Cx z E cX12_ball RX12 4 3 0 0 := hC
  subst hz
  show V z E 4 0 0 L f 0 [(0, .ref a_0), (1, .int a_1), (2, .int a_2)] []
  obtain ⟨m_1, t_2, k_3, k_4, k_5, k_6, k_7, k_8, k_9, k_10, k_11, k_12, k_13, k_14, k_15, k_16, k_17, k_18, k_19, k_20⟩ := id k_0
  obtain ⟨m_21, t_22⟩ := id k_3
  have b_23 := o_w.r0
  have b_24 := o_w.w0
  refine v_aload_n hC dX12_ball_0 rfl ?_
  refine v_iload_n hC dX12_ball_1 rfl ?_
  obtain ⟨v_26, v_27, v_29, v_31, v_33, v_35, v_37, v_38, v_39, v_40, v_42, e_25, b_28, b_30, b_32, b_34, b_36, b_41, b_43⟩ := hW.at m_1 t_2
  refine v_vi hC (rest := []) m_1 e_25 rfl mi_X12_asksCloth ms_X12_asksCloth (p_X12_asksCloth hW k_0 e_w o_w) mx_X12_asksCloth ml_X12_376 (by decide) rfl (cells1 := 0) (slots1 := 0) (by decide) (by decide) (Nat.le_of_ble_eq_true rfl) (Nat.le_of_ble_eq_true rfl) rfl (Nat.le_of_ble_eq_true rfl) dX12_ball_2 (fun r_44 L_45 f_46 h_47 => ?_)
  obtain ⟨rfl, rfl, b_48, h_49⟩ := h_47
  refine v_istore_n hC dX12_ball_5 (by decide) (lv' := [(3, .int r_44), (0, .ref a_0), (1, .int a_1), (2, .int a_2)]) rfl ?_
  refine v_iload_n hC dX12_ball_6 rfl ?_
  refine v_if_ge hC dX12_ball_7 (tgt := 12) (by decide) (fun h_52 => ?_) (fun h_52 => ?_)
  · simp only [Int32.lt_iff_toInt_lt, Int32.le_iff_toInt_le, Int32.reduceToInt, ← Int32.toInt_inj] at h_52
    refine v_aload_n hC dX12_ball_12 rfl ?_
    refine v_iload_n hC dX12_ball_13 rfl ?_
    refine v_vv hC (rest := []) m_1 e_25 rfl mi_X12_takes0 ms_X12_takes0 (p_X12_takes0 hW k_0 (by first | omega | (simp only [Int32.lt_iff_toInt_lt, Int32.le_iff_toInt_le, Int32.reduceToInt, ← Int32.toInt_inj, true_and, and_true, or_true, true_or, false_or, or_false, false_and, and_false, not_true_eq_false, not_false_eq_true] <;> omega)) e_w o_w) mx_X12_takes0 ml_X12_363 (by decide) rfl (cells1 := 0) (slots1 := 0) (by decide) (by decide) (Nat.le_of_ble_eq_true rfl) (Nat.le_of_ble_eq_true rfl) rfl (Nat.le_of_ble_eq_true rfl) dX12_ball_14 (fun L_54 f_55 h_56 => ?_)
    obtain ⟨rfl, hW_57, hF_58⟩ := h_56
    have hf_59 := hF_58.at e_w rfl
    have hf_60 := hF_58.at e_25 rfl
    refine v_iload_n hC dX12_ball_17 rfl ?_
    obtain ⟨v_61, h_62⟩ : ∃ v9 : Int64, a_2.toInt64 = v9 := ⟨_, rfl⟩
    refine v_i2l hC dX12_ball_18 h_62 ?_
    have h_63 : v_61.toInt = a_2.toInt := by rw [← h_62]; exact Int32.toInt_toInt64 _
    refine v_lconst hC dX12_ball_19 (v := 0) (by decide) ?_
    refine v_aload_n hC dX12_ball_20 rfl ?_
    refine v_vi hC (rest := [.long 0, .long v_61]) m_1 hf_60 rfl mi_X12_unravels ms_X12_unravels (p_X12_unravels hW_57 k_0 hf_59 o_w) mx_X12_unravels ml_X12_422 (by decide) rfl (cells1 := 0) (slots1 := 0) (by decide) (by decide) (Nat.le_of_ble_eq_true rfl) (Nat.le_of_ble_eq_true rfl) rfl (Nat.le_of_ble_eq_true rfl) dX12_ball_21 (fun r_64 L_65 f_66 h_67 => ?_)
    obtain ⟨rfl, hW_69, hF_70, b_68⟩ := h_67
    have hf_71 := hF_70.at hf_59 rfl
    have hf_72 := hF_70.at hf_60 rfl
    refine v_iconst hC dX12_ball_24 (v := 1) (by decide) ?_
    obtain ⟨v_73, h_74⟩ : ∃ v9 : Int32, r_64 - 1 = v9 := ⟨_, rfl⟩
    refine v_isub hC dX12_ball_25 h_74 ?_
    have h_75 := sub_v h_74 (by first | omega | (simp only [Int32.lt_iff_toInt_lt, Int32.le_iff_toInt_le, Int32.reduceToInt, ← Int32.toInt_inj, true_and, and_true, or_true, true_or, false_or, or_false, false_and, and_false, not_true_eq_false, not_false_eq_true] <;> omega)) (by first | omega | (simp only [Int32.lt_iff_toInt_lt, Int32.le_iff_toInt_le, Int32.reduceToInt, ← Int32.toInt_inj, true_and, and_true, or_true, true_or, false_or, or_false, false_and, and_false, not_true_eq_false, not_false_eq_true] <;> omega))
    try simp only [Int32.reduceToInt] at h_75
    obtain ⟨v_76, h_77⟩ : ∃ v9 : Int64, v_73.toInt64 = v9 := ⟨_, rfl⟩
    refine v_i2l hC dX12_ball_26 h_77 ?_
    have h_78 : v_76.toInt = v_73.toInt := by rw [← h_77]; exact Int32.toInt_toInt64 _
    refine v_si hC (rest := []) mt_X12_in (p_X12_in hW_69) mx_X12_in ml_X12_79 (by decide) rfl (cells1 := 0) (slots1 := 0) (by decide) (by decide) (Nat.le_of_ble_eq_true rfl) (Nat.le_of_ble_eq_true rfl) rfl (Nat.le_of_ble_eq_true rfl) dX12_ball_27 (fun r_79 L_80 f_81 h_82 => ?_)
    obtain ⟨rfl, rfl, b_83, x_84⟩ := h_82
    try simp only [Int32.reduceToInt, Int64.reduceToInt] at x_84
    refine v_if_eq hC dX12_ball_30 (tgt := 42) (by decide) (fun h_87 => ?_) (fun h_87 => ?_)
    · simp only [Int32.lt_iff_toInt_lt, Int32.le_iff_toInt_le, Int32.reduceToInt, ← Int32.toInt_inj] at h_87
      refine v_iconst hC dX12_ball_42 (v := (-1)) (by decide) ?_
      exact hR _ _ _ _ _ _ _ dX12_ball_43 rfl (Nat.le_of_ble_eq_true rfl) (Nat.le_of_ble_eq_true rfl) ⟨rfl, hW_69, ((hF_58.tr hF_70).mono rfl), (.inl (by decide)), (.inl (by decide))⟩
    · simp only [Int32.lt_iff_toInt_lt, Int32.le_iff_toInt_le, Int32.reduceToInt, ← Int32.toInt_inj] at h_87
      refine v_aload_n hC dX12_ball_33 rfl ?_
      refine v_get hC fl_X12_61 m_1 hf_72 rfl dX12_ball_34 ?_
      refine v_iload_n hC dX12_ball_37 rfl ?_
      obtain ⟨m_88, t_89⟩ := id k_16
      obtain ⟨g_91, e_90⟩ := hW_69.at m_88 t_89
      obtain ⟨v_92, h_93⟩ : ∃ v9 : Int32, g_91 (a_2 : Int32).toNatClampNeg = v9 := ⟨_, rfl⟩
      refine v_iald hC m_88 e_90 (vp_in_iff.mpr (by first | omega | (simp only [Int32.lt_iff_toInt_lt, Int32.le_iff_toInt_le, Int32.reduceToInt, ← Int32.toInt_inj, true_and, and_true, or_true, true_or, false_or, or_false, false_and, and_false, not_true_eq_false, not_false_eq_true] <;> omega))) h_93 dX12_ball_38 ?_
      refine v_goto hC dX12_ball_39 (tgt := 43) (by decide) ?_
      exact hR _ _ _ _ _ _ _ dX12_ball_43 rfl (Nat.le_of_ble_eq_true rfl) (Nat.le_of_ble_eq_true rfl) ⟨rfl, hW_69, ((hF_58.tr hF_70).mono rfl), (.inr (by first | omega | (simp only [Int32.lt_iff_toInt_lt, Int32.le_iff_toInt_le, Int32.reduceToInt, ← Int32.toInt_inj, true_and, and_true, or_true, true_or, false_or, or_false, false_and, and_false, not_true_eq_false, not_false_eq_true] <;> omega))), (.inr (by first | omega | (simp only [Int32.lt_iff_toInt_lt, Int32.le_iff_toInt_le, Int32.reduceToInt, ← Int32.toInt_inj, true_and, and_true, or_true, true_or, false_or, or_false, false_and, and_false, not_true_eq_false, not_false_eq_true] <;> omega)))⟩
  · simp only [Int32.lt_iff_toInt_lt, Int32.le_iff_toInt_le, Int32.reduceToInt, ← Int32.toInt_inj] at h_52
    refine v_iload_n hC dX12_ball_10 rfl ?_
    exact hR _ _ _ _ _ _ _ dX12_ball_11 rfl (Nat.le_of_ble_eq_true rfl) (Nat.le_of_ble_eq_true rfl) ⟨rfl, hW, FR.rf, (by first | omega | (simp only [Int32.lt_iff_toInt_lt, Int32.le_iff_toInt_le, Int32.reduceToInt, ← Int32.toInt_inj, true_and, and_true, or_true, true_or, false_or, or_false, false_and, and_false, not_true_eq_false, not_false_eq_true] <;> omega)), (by first | omega | (simp only [Int32.lt_iff_toInt_lt, Int32.le_iff_toInt_le, Int32.reduceToInt, ← Int32.toInt_inj, true_and, and_true, or_true, true_or, false_or, or_false, false_and, and_false, not_true_eq_false, not_false_eq_true] <;> omega))⟩
