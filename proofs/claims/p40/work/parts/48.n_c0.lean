set_option maxRecDepth 100000 in
set_option maxHeartbeats 8000000 in
theorem p_X12_knit {l : Launch} {E : Ez} {L : List Nat} {f : Nat → va_E} {T : Nat → va_E → Prop} {a_0 : Nat} {a_1 : Int32} {a_2 : Int32} {q : Nat → Nat} {g_w : Nat → Int32} (hW : WT T L f) (k_0 : isM T L E a_0 q) (e_w : f (q 1) = aI E 2076 g_w) (o_w : WOK g_w) : CI l yX12_knit cX12_knit 4 .int 4 0 0 E [.ref a_0, .int a_1, .int a_2] L f (fun r L1 f1 => L = L1 ∧ WT T L f1 ∧ FR [356, 2176] f f1 ∧ (¬ r.toInt = 0 ∨ (0 ≤ a_1.toInt ∧ a_1.toInt ≤ 3)) ∧ (¬ r.toInt = 0 ∨ (0 ≤ a_2.toInt ∧ a_2.toInt ≤ 2000000000))) := by
  refine ci_of (by decide) (Nat.le_of_ble_eq_true rfl) (fun z hz hnm hC hR => ?_)
  have hC : Cx z E cX12_knit RX12 4 4 0 0 := hC
  subst hz
  show V z E 4 0 0 L f 0 [(0, .ref a_0), (1, .int a_1), (2, .int a_2)] []
  obtain ⟨m_1, t_2, nq_21, k_3, k_4, k_5, k_6, k_7, k_8, k_9, k_10, k_11, k_12, k_13, k_14, k_15, k_16, k_17, k_18, k_19, k_20⟩ := id k_0
  obtain ⟨m_22, t_23⟩ := id k_3
  have b_24 := o_w.r0
  have b_25 := o_w.w0
  refine v_iload_n hC dX12_knit_0 rfl ?_
  refine v_si hC (rest := []) mt_X12_isCloth (p_X12_isCloth hW) mx_X12_isCloth ml_X12_319 (by decide) rfl (cells1 := 0) (slots1 := 0) (by decide) (by decide) (Nat.le_of_ble_eq_true rfl) (Nat.le_of_ble_eq_true rfl) rfl (Nat.le_of_ble_eq_true rfl) dX12_knit_1 (fun r_26 L_27 f_28 h_29 => ?_)
  obtain ⟨rfl, rfl, b_30, h_31⟩ := h_29
  refine v_if_eq hC dX12_knit_4 (tgt := 14) (by decide) (fun h_34 => ?_) (fun h_34 => ?_)
  · simp only [Int32.lt_iff_toInt_lt, Int32.le_iff_toInt_le, Int32.reduceToInt, ← Int32.toInt_inj] at h_34
    refine v_bipush hC dX12_knit_14 (v := (-2)) (by decide) ?_
    exact hR _ _ _ _ _ _ _ dX12_knit_16 rfl (Nat.le_of_ble_eq_true rfl) (Nat.le_of_ble_eq_true rfl) ⟨rfl, hW, FR.rf, (.inl (by decide)), (.inl (by decide))⟩
  · simp only [Int32.lt_iff_toInt_lt, Int32.le_iff_toInt_le, Int32.reduceToInt, ← Int32.toInt_inj] at h_34
    refine v_iload_n hC dX12_knit_7 rfl ?_
    refine v_si hC (rest := []) mt_X12_isSeed (p_X12_isSeed hW) mx_X12_isSeed ml_X12_322 (by decide) rfl (cells1 := 0) (slots1 := 0) (by decide) (by decide) (Nat.le_of_ble_eq_true rfl) (Nat.le_of_ble_eq_true rfl) rfl (Nat.le_of_ble_eq_true rfl) dX12_knit_8 (fun r_35 L_36 f_37 h_38 => ?_)
    obtain ⟨rfl, rfl, b_39, h_40⟩ := h_38
    refine v_if_ne hC dX12_knit_11 (tgt := 17) (by decide) (fun h_43 => ?_) (fun h_43 => ?_)
    · simp only [Int32.lt_iff_toInt_lt, Int32.le_iff_toInt_le, Int32.reduceToInt, ← Int32.toInt_inj] at h_43
      refine v_aload_n hC dX12_knit_17 rfl ?_
      obtain ⟨v_45, v_46, v_48, v_50, v_52, v_54, v_56, v_57, v_58, v_59, v_61, e_44, b_47, b_49, b_51, b_53, b_55, b_60, b_62⟩ := hW.at m_1 t_2
      refine v_vi hC (rest := []) m_1 e_44 rfl mi_X12_hasPattern ms_X12_hasPattern (p_X12_hasPattern hW k_0 e_w o_w) mx_X12_hasPattern ml_X12_325 (by decide) rfl (cells1 := 0) (slots1 := 0) (by decide) (by decide) (Nat.le_of_ble_eq_true rfl) (Nat.le_of_ble_eq_true rfl) rfl (Nat.le_of_ble_eq_true rfl) dX12_knit_18 (fun r_63 L_64 f_65 h_66 => ?_)
      obtain ⟨rfl, rfl, b_67, x_68⟩ := h_66
      try simp only [Int32.reduceToInt, Int64.reduceToInt] at x_68
      refine v_if_ne hC dX12_knit_21 (tgt := 27) (by decide) (fun h_71 => ?_) (fun h_71 => ?_)
      · simp only [Int32.lt_iff_toInt_lt, Int32.le_iff_toInt_le, Int32.reduceToInt, ← Int32.toInt_inj] at h_71
        refine v_aload_n hC dX12_knit_27 rfl ?_
        refine v_iload_n hC dX12_knit_28 rfl ?_
        obtain ⟨v_72, h_73⟩ : ∃ v9 : Int64, a_2.toInt64 = v9 := ⟨_, rfl⟩
        refine v_i2l hC dX12_knit_29 h_73 ?_
        have h_74 : v_72.toInt = a_2.toInt := by rw [← h_73]; exact Int32.toInt_toInt64 _
        refine v_vi hC (rest := []) m_1 e_44 rfl mi_X12_knits ms_X12_knits (p_X12_knits hW k_0 e_w o_w) mx_X12_knits ml_X12_328 (by decide) rfl (cells1 := 0) (slots1 := 0) (by decide) (by decide) (Nat.le_of_ble_eq_true rfl) (Nat.le_of_ble_eq_true rfl) rfl (Nat.le_of_ble_eq_true rfl) dX12_knit_30 (fun r_75 L_76 f_77 h_78 => ?_)
        obtain ⟨rfl, hW_79, hF_80⟩ := h_78
        have hf_81 := hF_80.at e_w rfl
        have hf_82 := hF_80.at e_44 rfl
        refine v_istore_n hC dX12_knit_33 (by decide) (lv' := [(3, .int r_75), (0, .ref a_0), (1, .int a_1), (2, .int a_2)]) rfl ?_
        refine v_aload_n hC dX12_knit_34 rfl ?_
        refine v_iload_n hC dX12_knit_35 rfl ?_
        refine v_vv hC (rest := []) m_1 hf_82 rfl mi_X12_gives ms_X12_gives (p_X12_gives hW_79 k_0 (by first | omega | (simp only [Int32.lt_iff_toInt_lt, Int32.le_iff_toInt_le, Int32.reduceToInt, ← Int32.toInt_inj, true_and, and_true, or_true, true_or, false_or, or_false, false_and, and_false, not_true_eq_false, not_false_eq_true] <;> omega)) hf_81 o_w) mx_X12_gives ml_X12_332 (by decide) rfl (cells1 := 0) (slots1 := 0) (by decide) (by decide) (Nat.le_of_ble_eq_true rfl) (Nat.le_of_ble_eq_true rfl) rfl (Nat.le_of_ble_eq_true rfl) dX12_knit_36 (fun L_84 f_85 h_86 => ?_)
        obtain ⟨rfl, hW_87, hF_88⟩ := h_86
        have hf_89 := hF_88.at hf_82 rfl
        refine v_iload_n hC dX12_knit_39 rfl ?_
        exact hR _ _ _ _ _ _ _ dX12_knit_40 rfl (Nat.le_of_ble_eq_true rfl) (Nat.le_of_ble_eq_true rfl) ⟨rfl, hW_87, ((hF_80.tr hF_88).mono rfl), (.inr (by first | omega | (simp only [Int32.lt_iff_toInt_lt, Int32.le_iff_toInt_le, Int32.reduceToInt, ← Int32.toInt_inj, true_and, and_true, or_true, true_or, false_or, or_false, false_and, and_false, not_true_eq_false, not_false_eq_true] <;> omega))), (.inr (by first | omega | (simp only [Int32.lt_iff_toInt_lt, Int32.le_iff_toInt_le, Int32.reduceToInt, ← Int32.toInt_inj, true_and, and_true, or_true, true_or, false_or, or_false, false_and, and_false, not_true_eq_false, not_false_eq_true] <;> omega)))⟩
      · simp only [Int32.lt_iff_toInt_lt, Int32.le_iff_toInt_le, Int32.reduceToInt, ← Int32.toInt_inj] at h_71
        refine v_bipush hC dX12_knit_24 (v := (-6)) (by decide) ?_
        exact hR _ _ _ _ _ _ _ dX12_knit_26 rfl (Nat.le_of_ble_eq_true rfl) (Nat.le_of_ble_eq_true rfl) ⟨rfl, hW, FR.rf, (.inl (by decide)), (.inl (by decide))⟩
    · simp only [Int32.lt_iff_toInt_lt, Int32.le_iff_toInt_le, Int32.reduceToInt, ← Int32.toInt_inj] at h_43
      refine v_bipush hC dX12_knit_14 (v := (-2)) (by decide) ?_
      exact hR _ _ _ _ _ _ _ dX12_knit_16 rfl (Nat.le_of_ble_eq_true rfl) (Nat.le_of_ble_eq_true rfl) ⟨rfl, hW, FR.rf, (.inl (by decide)), (.inl (by decide))⟩
