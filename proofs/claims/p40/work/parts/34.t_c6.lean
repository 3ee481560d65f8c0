set_option maxRecDepth 100000 in
set_option maxHeartbeats 8000000 in
theorem p_X11_counts {l : Launch} {E : Ez} {L : List Nat} {f : Nat → va_E} {T : Nat → va_E → Prop} {a_0 : Nat} {a_1 : Int32} {a_2 : Int32} (hW : WT T L f) (k_0 : isX T L E a_0) : CI l yX11_counts cX11_counts 3 .int 3 0 0 E [.ref a_0, .int a_1, .int a_2] L f (fun r L1 f1 => L = L1 ∧ WT T L f1 ∧ FR [1, 6, 105, 116, 356] f f1 ∧ (¬ r.toInt = 0 ∨ (0 ≤ a_1.toInt ∧ a_1.toInt ≤ 3)) ∧ (¬ r.toInt = 0 ∨ (0 ≤ a_2.toInt ∧ a_2.toInt ≤ 7))) := by
  refine ci_of (by decide) (Nat.le_of_ble_eq_true rfl) (fun z hz hnm hC hR => ?_)
  have hC : Cx z E cX11_counts RX11 3 3 0 0 := hC
  subst hz
  show V z E 3 0 0 L f 0 [(0, .ref a_0), (1, .int a_1), (2, .int a_2)] []
  refine v_iload_n hC dX11_counts_0 rfl ?_
  refine v_si hC (rest := []) mt_X11_isCloth (p_X11_isCloth hW) mx_X11_isCloth ml_X11_181 (by decide) rfl (cells1 := 0) (slots1 := 0) (by decide) (by decide) (Nat.le_of_ble_eq_true rfl) (Nat.le_of_ble_eq_true rfl) rfl (Nat.le_of_ble_eq_true rfl) dX11_counts_1 (fun r_1 L_2 f_3 h_4 => ?_)
  obtain ⟨rfl, rfl, b_5, h_6⟩ := h_4
  refine v_if_eq hC dX11_counts_4 (tgt := 17) (by decide) (fun h_9 => ?_) (fun h_9 => ?_)
  · simp only [Int32.lt_iff_toInt_lt, Int32.le_iff_toInt_le, Int32.reduceToInt, ← Int32.toInt_inj] at h_9
    refine v_bipush hC dX11_counts_17 (v := (-2)) (by decide) ?_
    exact hR _ _ _ _ _ _ _ dX11_counts_19 rfl (Nat.le_of_ble_eq_true rfl) (Nat.le_of_ble_eq_true rfl) ⟨rfl, hW, FR.rf, (.inl (by decide)), (.inl (by decide))⟩
  · simp only [Int32.lt_iff_toInt_lt, Int32.le_iff_toInt_le, Int32.reduceToInt, ← Int32.toInt_inj] at h_9
    refine v_iload_n hC dX11_counts_7 rfl ?_
    refine v_if_lt hC dX11_counts_8 (tgt := 17) (by decide) (fun h_10 => ?_) (fun h_10 => ?_)
    · simp only [Int32.lt_iff_toInt_lt, Int32.le_iff_toInt_le, Int32.reduceToInt, ← Int32.toInt_inj] at h_10
      refine v_bipush hC dX11_counts_17 (v := (-2)) (by decide) ?_
      exact hR _ _ _ _ _ _ _ dX11_counts_19 rfl (Nat.le_of_ble_eq_true rfl) (Nat.le_of_ble_eq_true rfl) ⟨rfl, hW, FR.rf, (.inl (by decide)), (.inl (by decide))⟩
    · simp only [Int32.lt_iff_toInt_lt, Int32.le_iff_toInt_le, Int32.reduceToInt, ← Int32.toInt_inj] at h_10
      refine v_iload_n hC dX11_counts_11 rfl ?_
      refine v_bipush hC dX11_counts_12 (v := 8) (by decide) ?_
      refine v_icmp_lt hC dX11_counts_14 (tgt := 20) (by decide) (fun h_11 => ?_) (fun h_11 => ?_)
      · simp only [Int32.lt_iff_toInt_lt, Int32.le_iff_toInt_le, Int32.reduceToInt, ← Int32.toInt_inj] at h_11
        refine v_aload_n hC dX11_counts_20 rfl ?_
        refine v_iload_n hC dX11_counts_21 rfl ?_
        obtain ⟨m_12, q_14, q_15, q_16, q_17, q_18, q_19, q_20, q_21, q_22, q_23, q_24, q_25, q_26, q_27, t_13, k_28, k_29, k_30, k_31, k_32, k_33, k_34, k_35, k_36, k_37, k_38, k_39, k_40, k_41⟩ := id k_0
        have e_42 : f a_0 = ob 11 [.ref q_14, .ref q_15, .ref q_16, .ref q_17, .ref q_18, .ref q_19, .ref q_20, .ref q_21, .ref q_22, .ref q_23, .ref q_24, .ref q_25, .ref q_26, .ref q_27] := hW.at m_12 t_13
        refine v_vi hC (rest := []) m_12 e_42 rfl mi_X11_hasCloth ms_X11_hasCloth (p_X11_hasCloth hW k_0) mx_X11_hasCloth ml_X11_239 (by decide) rfl (cells1 := 0) (slots1 := 0) (by decide) (by decide) (Nat.le_of_ble_eq_true rfl) (Nat.le_of_ble_eq_true rfl) rfl (Nat.le_of_ble_eq_true rfl) dX11_counts_22 (fun r_43 L_44 f_45 h_46 => ?_)
        obtain ⟨rfl, rfl, b_47, h_48⟩ := h_46
        refine v_if_ne hC dX11_counts_25 (tgt := 31) (by decide) (fun h_51 => ?_) (fun h_51 => ?_)
        · simp only [Int32.lt_iff_toInt_lt, Int32.le_iff_toInt_le, Int32.reduceToInt, ← Int32.toInt_inj] at h_51
          refine v_aload_n hC dX11_counts_31 rfl ?_
          refine v_get hC fl_X11_92 m_12 e_42 rfl dX11_counts_32 ?_
          refine v_aload_n hC dX11_counts_35 rfl ?_
          refine v_get hC fl_X11_19 m_12 e_42 rfl dX11_counts_36 ?_
          obtain ⟨m_52, q_54, q_55, q_56, q_57, q_58, q_59, t_53, k_60, k_61, k_62, k_63, k_64, k_65⟩ := id k_29
          have e_66 : f q_15 = ob 0 [.ref q_54, .ref q_55, .ref q_56, .ref q_57, .ref q_58, .ref q_59] := hW.at m_52 t_53
          refine v_getN hC fn_X11_116 m_52 e_66 rfl dX11_counts_39 ?_
          refine v_aload_n hC dX11_counts_42 rfl ?_
          refine v_get hC fl_X11_19 m_12 e_42 rfl dX11_counts_43 ?_
          refine v_getN hC fn_X11_190 m_52 e_66 rfl dX11_counts_46 ?_
          refine v_iload_n hC dX11_counts_49 rfl ?_
          obtain ⟨m_67, g_69, t_68, k_70⟩ := id k_65
          have e_71 : f q_59 = aR E 5 4 g_69 := hW.at m_67 t_68
          obtain ⟨q_72, h_73, k_74⟩ := k_70 (a_1 : Int32).toNatClampNeg (clamp_lt (vp_in_iff.mpr (by first | omega | (simp only [Int32.lt_iff_toInt_lt, Int32.le_iff_toInt_le, Int32.reduceToInt, ← Int32.toInt_inj, true_and, and_true, or_true, true_or, false_or, or_false, false_and, and_false, not_true_eq_false, not_false_eq_true] <;> omega))))
          refine v_aald hC m_67 e_71 rfl (vp_in_iff.mpr (by first | omega | (simp only [Int32.lt_iff_toInt_lt, Int32.le_iff_toInt_le, Int32.reduceToInt, ← Int32.toInt_inj, true_and, and_true, or_true, true_or, false_or, or_false, false_and, and_false, not_true_eq_false, not_false_eq_true] <;> omega))) (v := .ref q_72) (by rw [h_73]; rfl) dX11_counts_50 ?_
          obtain ⟨m_75, q_77, q_78, q_79, q_80, q_81, t_76, k_82, k_83, k_84, k_85, k_86⟩ := id k_41
          obtain ⟨v_88, v_89, v_91, v_93, v_94, e_87, b_90, b_92⟩ := hW.at m_75 t_76
          refine v_vv hC (rest := []) m_75 e_87 rfl mi_X6_countOver ms_X6_countOver (p_X6_countOver hW k_41 k_60 k_74) mx_X6_countOver ml_X11_265 (by decide) rfl (cells1 := 0) (slots1 := 0) (by decide) (by decide) (Nat.le_of_ble_eq_true rfl) (Nat.le_of_ble_eq_true rfl) rfl (Nat.le_of_ble_eq_true rfl) dX11_counts_51 (fun L_96 f_97 h_98 => ?_)
          obtain ⟨rfl, hW_99, hF_100⟩ := h_98
          have hf_101 := hF_100.at e_42 rfl
          have hf_102 := hF_100.at e_66 rfl
          have hf_103 := hF_100.at e_71 rfl
          refine v_aload_n hC dX11_counts_54 rfl ?_
          refine v_get hC fl_X11_92 m_12 hf_101 rfl dX11_counts_55 ?_
          refine v_iload_n hC dX11_counts_58 rfl ?_
          obtain ⟨v_105, v_106, v_108, v_110, v_111, e_104, b_107, b_109⟩ := hW_99.at m_75 t_76
          refine v_vi hC (rest := []) m_75 e_104 rfl mi_X6_valueOf ms_X6_valueOf (p_X6_valueOf hW_99 k_41) mx_X6_valueOf ml_X11_269 (by decide) rfl (cells1 := 0) (slots1 := 0) (by decide) (by decide) (Nat.le_of_ble_eq_true rfl) (Nat.le_of_ble_eq_true rfl) rfl (Nat.le_of_ble_eq_true rfl) dX11_counts_59 (fun r_112 L_113 f_114 h_115 => ?_)
          obtain ⟨rfl, rfl, h_116⟩ := h_115
          exact hR _ _ _ _ _ _ _ dX11_counts_62 rfl (Nat.le_of_ble_eq_true rfl) (Nat.le_of_ble_eq_true rfl) ⟨rfl, hW_99, (hF_100.mono rfl), (.inr (by first | omega | (simp only [Int32.lt_iff_toInt_lt, Int32.le_iff_toInt_le, Int32.reduceToInt, ← Int32.toInt_inj, true_and, and_true, or_true, true_or, false_or, or_false, false_and, and_false, not_true_eq_false, not_false_eq_true] <;> omega))), (.inr (by first | omega | (simp only [Int32.lt_iff_toInt_lt, Int32.le_iff_toInt_le, Int32.reduceToInt, ← Int32.toInt_inj, true_and, and_true, or_true, true_or, false_or, or_false, false_and, and_false, not_true_eq_false, not_false_eq_true] <;> omega)))⟩
        · simp only [Int32.lt_iff_toInt_lt, Int32.le_iff_toInt_le, Int32.reduceToInt, ← Int32.toInt_inj] at h_51
          refine v_bipush hC dX11_counts_28 (v := (-6)) (by decide) ?_
          exact hR _ _ _ _ _ _ _ dX11_counts_30 rfl (Nat.le_of_ble_eq_true rfl) (Nat.le_of_ble_eq_true rfl) ⟨rfl, hW, FR.rf, (.inl (by decide)), (.inl (by decide))⟩
      · simp only [Int32.lt_iff_toInt_lt, Int32.le_iff_toInt_le, Int32.reduceToInt, ← Int32.toInt_inj] at h_11
        refine v_bipush hC dX11_counts_17 (v := (-2)) (by decide) ?_
        exact hR _ _ _ _ _ _ _ dX11_counts_19 rfl (Nat.le_of_ble_eq_true rfl) (Nat.le_of_ble_eq_true rfl) ⟨rfl, hW, FR.rf, (.inl (by decide)), (.inl (by decide))⟩
set_option maxRecDepth 100000 in
set_option maxHeartbeats 8000000 in
theorem p_X11_lineThatStops {l : Launch} {E : Ez} {L : List Nat} {f : Nat → va_E} {T : Nat → va_E → Prop} {a_0 : Nat} {a_1 : Nat} (hW : WT T L f) (k_0 : isX T L E a_0) (k_1 : isClo T L E a_1) : CI l yX11_lineThatStops cX11_lineThatStops 2 .int 5 0 0 E [.ref a_0, .ref a_1] L f (fun r L1 f1 => L = L1 ∧ WT T L f1 ∧ FR [1, 6, 105, 116, 356] f f1) := by
  refine ci_of (by decide) (Nat.le_of_ble_eq_true rfl) (fun z hz hnm hC hR => ?_)
  have hC : Cx z E cX11_lineThatStops RX11 2 5 0 0 := hC
  subst hz
  show V z E 2 0 0 L f 0 [(0, .ref a_0), (1, .ref a_1)] []
  refine v_aload_n hC dX11_lineThatStops_0 rfl ?_
  obtain ⟨m_1, q_3, q_4, q_5, q_6, q_7, q_8, q_9, q_10, q_11, q_12, q_13, q_14, q_15, q_16, t_2, k_17, k_18, k_19, k_20, k_21, k_22, k_23, k_24, k_25, k_26, k_27, k_28, k_29, k_30⟩ := id k_0
  have e_31 : f a_0 = ob 11 [.ref q_3, .ref q_4, .ref q_5, .ref q_6, .ref q_7, .ref q_8, .ref q_9, .ref q_10, .ref q_11, .ref q_12, .ref q_13, .ref q_14, .ref q_15, .ref q_16] := hW.at m_1 t_2
  refine v_get hC fl_X11_92 m_1 e_31 rfl dX11_lineThatStops_1 ?_
  refine v_aload_n hC dX11_lineThatStops_4 rfl ?_
  refine v_get hC fl_X11_19 m_1 e_31 rfl dX11_lineThatStops_5 ?_
  obtain ⟨m_32, q_34, q_35, q_36, q_37, q_38, q_39, t_33, k_40, k_41, k_42, k_43, k_44, k_45⟩ := id k_18
  have e_46 : f q_4 = ob 0 [.ref q_34, .ref q_35, .ref q_36, .ref q_37, .ref q_38, .ref q_39] := hW.at m_32 t_33
  refine v_getN hC fn_X11_116 m_32 e_46 rfl dX11_lineThatStops_8 ?_
  refine v_aload_n hC dX11_lineThatStops_11 rfl ?_
  obtain ⟨m_47, q_49, q_50, q_51, q_52, q_53, t_48, k_54, k_55, k_56, k_57, k_58⟩ := id k_30
  obtain ⟨v_60, v_61, v_63, v_65, v_66, e_59, b_62, b_64⟩ := hW.at m_47 t_48
  refine v_vv hC (rest := []) m_47 e_59 rfl mi_X6_countOver ms_X6_countOver (p_X6_countOver hW k_30 k_40 k_1) mx_X6_countOver ml_X11_265 (by decide) rfl (cells1 := 0) (slots1 := 0) (by decide) (by decide) (Nat.le_of_ble_eq_true rfl) (Nat.le_of_ble_eq_true rfl) rfl (Nat.le_of_ble_eq_true rfl) dX11_lineThatStops_12 (fun L_68 f_69 h_70 => ?_)
  obtain ⟨rfl, hW_71, hF_72⟩ := h_70
  have hf_73 := hF_72.at e_31 rfl
  have hf_74 := hF_72.at e_46 rfl
  refine v_aload_n hC dX11_lineThatStops_15 rfl ?_
  refine v_get hC fl_X11_19 m_1 hf_73 rfl dX11_lineThatStops_16 ?_
  refine v_getN hC fn_X11_158 m_32 hf_74 rfl dX11_lineThatStops_19 ?_
  refine v_aload_n hC dX11_lineThatStops_22 rfl ?_
  refine v_get hC fl_X11_92 m_1 hf_73 rfl dX11_lineThatStops_23 ?_
  obtain ⟨m_75, q_77, t_76, k_78⟩ := id k_43
  obtain ⟨v_80, v_82, e_79, b_81⟩ := hW_71.at m_75 t_76
  refine v_vi hC (rest := []) m_75 e_79 rfl mi_X9_lineThatStops ms_X9_lineThatStops (p_X9_lineThatStops hW_71 k_43 k_30) mx_X9_lineThatStops ml_X11_425 (by decide) rfl (cells1 := 0) (slots1 := 0) (by decide) (by decide) (Nat.le_of_ble_eq_true rfl) (Nat.le_of_ble_eq_true rfl) rfl (Nat.le_of_ble_eq_true rfl) dX11_lineThatStops_26 (fun r_83 L_84 f_85 h_86 => ?_)
  obtain ⟨rfl, rfl⟩ := h_86
  exact hR _ _ _ _ _ _ _ dX11_lineThatStops_29 rfl (Nat.le_of_ble_eq_true rfl) (Nat.le_of_ble_eq_true rfl) ⟨rfl, hW_71, (hF_72.mono rfl)⟩
set_option maxRecDepth 100000 in
set_option maxHeartbeats 8000000 in
theorem p_X11_stops {l : Launch} {E : Ez} {L : List Nat} {f : Nat → va_E} {T : Nat → va_E → Prop} {a_0 : Nat} {a_1 : Int32} (hW : WT T L f) (k_0 : isX T L E a_0) : CI l yX11_stops cX11_stops 3 .int 6 0 0 E [.ref a_0, .int a_1] L f (fun r L1 f1 => L = L1 ∧ WT T L f1 ∧ FR [1, 6, 105, 116, 356] f f1 ∧ (¬ r.toInt = 0 ∨ (0 ≤ a_1.toInt ∧ a_1.toInt ≤ 3))) := by
  refine ci_of (by decide) (Nat.le_of_ble_eq_true rfl) (fun z hz hnm hC hR => ?_)
  have hC : Cx z E cX11_stops RX11 3 6 0 0 := hC
  subst hz
  show V z E 3 0 0 L f 0 [(0, .ref a_0), (1, .int a_1)] []
  refine v_aload_n hC dX11_stops_0 rfl ?_
  refine v_iload_n hC dX11_stops_1 rfl ?_
  obtain ⟨m_1, q_3, q_4, q_5, q_6, q_7, q_8, q_9, q_10, q_11, q_12, q_13, q_14, q_15, q_16, t_2, k_17, k_18, k_19, k_20, k_21, k_22, k_23, k_24, k_25, k_26, k_27, k_28, k_29, k_30⟩ := id k_0
  have e_31 : f a_0 = ob 11 [.ref q_3, .ref q_4, .ref q_5, .ref q_6, .ref q_7, .ref q_8, .ref q_9, .ref q_10, .ref q_11, .ref q_12, .ref q_13, .ref q_14, .ref q_15, .ref q_16] := hW.at m_1 t_2
  refine v_vi hC (rest := []) m_1 e_31 rfl mi_X11_refusalOfCloth ms_X11_refusalOfCloth (p_X11_refusalOfCloth hW k_0) mx_X11_refusalOfCloth ml_X11_229 (by decide) rfl (cells1 := 0) (slots1 := 0) (by decide) (by decide) (Nat.le_of_ble_eq_true rfl) (Nat.le_of_ble_eq_true rfl) rfl (Nat.le_of_ble_eq_true rfl) dX11_stops_2 (fun r_32 L_33 f_34 h_35 => ?_)
  obtain ⟨rfl, rfl, b_36, h_37⟩ := h_35
  refine v_istore_n hC dX11_stops_5 (by decide) (lv' := [(2, .int r_32), (0, .ref a_0), (1, .int a_1)]) rfl ?_
  refine v_iload_n hC dX11_stops_6 rfl ?_
  refine v_if_eq hC dX11_stops_7 (tgt := 14) (by decide) (fun h_40 => ?_) (fun h_40 => ?_)
  · simp only [Int32.lt_iff_toInt_lt, Int32.le_iff_toInt_le, Int32.reduceToInt, ← Int32.toInt_inj] at h_40
    refine v_aload_n hC dX11_stops_14 rfl ?_
    refine v_aload_n hC dX11_stops_15 rfl ?_
    refine v_get hC fl_X11_19 m_1 e_31 rfl dX11_stops_16 ?_
    obtain ⟨m_41, q_43, q_44, q_45, q_46, q_47, q_48, t_42, k_49, k_50, k_51, k_52, k_53, k_54⟩ := id k_18
    have e_55 : f q_4 = ob 0 [.ref q_43, .ref q_44, .ref q_45, .ref q_46, .ref q_47, .ref q_48] := hW.at m_41 t_42
    refine v_getN hC fn_X11_190 m_41 e_55 rfl dX11_stops_19 ?_
    refine v_iload_n hC dX11_stops_22 rfl ?_
    obtain ⟨m_56, g_58, t_57, k_59⟩ := id k_54
    have e_60 : f q_48 = aR E 5 4 g_58 := hW.at m_56 t_57
    obtain ⟨q_61, h_62, k_63⟩ := k_59 (a_1 : Int32).toNatClampNeg (clamp_lt (vp_in_iff.mpr (by first | omega | (simp only [Int32.lt_iff_toInt_lt, Int32.le_iff_toInt_le, Int32.reduceToInt, ← Int32.toInt_inj, true_and, and_true, or_true, true_or, false_or, or_false, false_and, and_false, not_true_eq_false, not_false_eq_true] <;> omega))))
    refine v_aald hC m_56 e_60 rfl (vp_in_iff.mpr (by first | omega | (simp only [Int32.lt_iff_toInt_lt, Int32.le_iff_toInt_le, Int32.reduceToInt, ← Int32.toInt_inj, true_and, and_true, or_true, true_or, false_or, or_false, false_and, and_false, not_true_eq_false, not_false_eq_true] <;> omega))) (v := .ref q_61) (by rw [h_62]; rfl) dX11_stops_23 ?_
    refine v_vi hC (rest := []) m_1 e_31 rfl mi_X11_lineThatStops ms_X11_lineThatStops (p_X11_lineThatStops hW k_0 k_63) mx_X11_lineThatStops ml_X11_272 (by decide) rfl (cells1 := 0) (slots1 := 0) (by decide) (by decide) (Nat.le_of_ble_eq_true rfl) (Nat.le_of_ble_eq_true rfl) rfl (Nat.le_of_ble_eq_true rfl) dX11_stops_24 (fun r_64 L_65 f_66 h_67 => ?_)
    obtain ⟨rfl, hW_68, hF_69⟩ := h_67
    have hf_70 := hF_69.at e_31 rfl
    have hf_71 := hF_69.at e_55 rfl
    have hf_72 := hF_69.at e_60 rfl
    exact hR _ _ _ _ _ _ _ dX11_stops_27 rfl (Nat.le_of_ble_eq_true rfl) (Nat.le_of_ble_eq_true rfl) ⟨rfl, hW_68, (hF_69.mono rfl), (.inr (by first | omega | (simp only [Int32.lt_iff_toInt_lt, Int32.le_iff_toInt_le, Int32.reduceToInt, ← Int32.toInt_inj, true_and, and_true, or_true, true_or, false_or, or_false, false_and, and_false, not_true_eq_false, not_false_eq_true] <;> omega)))⟩
  · simp only [Int32.lt_iff_toInt_lt, Int32.le_iff_toInt_le, Int32.reduceToInt, ← Int32.toInt_inj] at h_40
    refine v_iload_n hC dX11_stops_10 rfl ?_
    refine v_goto hC dX11_stops_11 (tgt := 27) (by decide) ?_
    exact hR _ _ _ _ _ _ _ dX11_stops_27 rfl (Nat.le_of_ble_eq_true rfl) (Nat.le_of_ble_eq_true rfl) ⟨rfl, hW, FR.rf, (by first | omega | (simp only [Int32.lt_iff_toInt_lt, Int32.le_iff_toInt_le, Int32.reduceToInt, ← Int32.toInt_inj, true_and, and_true, or_true, true_or, false_or, or_false, false_and, and_false, not_true_eq_false, not_false_eq_true] <;> omega))⟩
set_option maxRecDepth 100000 in
set_option maxHeartbeats 8000000 in
theorem p_X11_isManyKnitted {l : Launch} {E : Ez} {L : List Nat} {f : Nat → va_E} {T : Nat → va_E → Prop} {a_0 : Int32} (hW : WT T L f) : CI l yX11_isManyKnitted cX11_isManyKnitted 1 .boolean 0 0 0 E [.int a_0] L f (fun r L1 f1 => L = L1 ∧ f = f1 ∧ (0 ≤ r.toInt ∧ r.toInt ≤ 1) ∧ (r.toInt = 0 ∨ (1 ≤ a_0.toInt ∧ a_0.toInt ≤ 50))) := by
  refine ci_of (by decide) (Nat.le_of_ble_eq_true rfl) (fun z hz hnm hC hR => ?_)
  have hC : Cx z E cX11_isManyKnitted RX11 1 0 0 0 := hC
  subst hz
  show V z E 1 0 0 L f 0 [(0, .int a_0)] []
  refine v_iload_n hC dX11_isManyKnitted_0 rfl ?_
  refine v_iconst hC dX11_isManyKnitted_1 (v := 1) (by decide) ?_
  refine v_icmp_lt hC dX11_isManyKnitted_2 (tgt := 15) (by decide) (fun h_1 => ?_) (fun h_1 => ?_)
  · simp only [Int32.lt_iff_toInt_lt, Int32.le_iff_toInt_le, Int32.reduceToInt, ← Int32.toInt_inj] at h_1
    refine v_iconst hC dX11_isManyKnitted_15 (v := 0) (by decide) ?_
    exact hR _ _ _ _ _ _ _ dX11_isManyKnitted_16 rfl (Nat.le_of_ble_eq_true rfl) (Nat.le_of_ble_eq_true rfl) ⟨rfl, rfl, (by decide), (.inl (by decide))⟩
  · simp only [Int32.lt_iff_toInt_lt, Int32.le_iff_toInt_le, Int32.reduceToInt, ← Int32.toInt_inj] at h_1
    refine v_iload_n hC dX11_isManyKnitted_5 rfl ?_
    refine v_bipush hC dX11_isManyKnitted_6 (v := 50) (by decide) ?_
    refine v_icmp_gt hC dX11_isManyKnitted_8 (tgt := 15) (by decide) (fun h_2 => ?_) (fun h_2 => ?_)
    · simp only [Int32.lt_iff_toInt_lt, Int32.le_iff_toInt_le, Int32.reduceToInt, ← Int32.toInt_inj] at h_2
      refine v_iconst hC dX11_isManyKnitted_15 (v := 0) (by decide) ?_
      exact hR _ _ _ _ _ _ _ dX11_isManyKnitted_16 rfl (Nat.le_of_ble_eq_true rfl) (Nat.le_of_ble_eq_true rfl) ⟨rfl, rfl, (by decide), (.inl (by decide))⟩
    · simp only [Int32.lt_iff_toInt_lt, Int32.le_iff_toInt_le, Int32.reduceToInt, ← Int32.toInt_inj] at h_2
      refine v_iconst hC dX11_isManyKnitted_11 (v := 1) (by decide) ?_
      refine v_goto hC dX11_isManyKnitted_12 (tgt := 16) (by decide) ?_
      exact hR _ _ _ _ _ _ _ dX11_isManyKnitted_16 rfl (Nat.le_of_ble_eq_true rfl) (Nat.le_of_ble_eq_true rfl) ⟨rfl, rfl, (by decide), (.inr (by first | omega | (simp only [Int32.lt_iff_toInt_lt, Int32.le_iff_toInt_le, Int32.reduceToInt, ← Int32.toInt_inj, true_and, and_true, or_true, true_or, false_or, or_false, false_and, and_false, not_true_eq_false, not_false_eq_true] <;> omega)))⟩
set_option maxRecDepth 100000 in
set_option maxHeartbeats 8000000 in
theorem p_X11_odds {l : Launch} {E : Ez} {L : List Nat} {f : Nat → va_E} {T : Nat → va_E → Prop} {a_0 : Nat} {a_1 : Int32} {a_2 : Int32} (hW : WT T L f) (k_0 : isX T L E a_0) : CI l yX11_odds cX11_odds 5 .int 6 0 0 E [.ref a_0, .int a_1, .int a_2] L f (fun r L1 f1 => L = L1 ∧ WT T L f1 ∧ FR [1, 6, 105, 116, 356] f f1 ∧ (¬ r.toInt = 0 ∨ (0 ≤ a_1.toInt ∧ a_1.toInt ≤ 2000000000)) ∧ (¬ r.toInt = 0 ∨ (1 ≤ a_2.toInt ∧ a_2.toInt ≤ 50))) := by
  refine ci_of (by decide) (Nat.le_of_ble_eq_true rfl) (fun z hz hnm hC hR => ?_)
  have hC : Cx z E cX11_odds RX11 5 6 0 0 := hC
  subst hz
  show V z E 5 0 0 L f 0 [(0, .ref a_0), (1, .int a_1), (2, .int a_2)] []
  refine v_iload_n hC dX11_odds_0 rfl ?_
  refine v_si hC (rest := []) mt_X11_isSeed (p_X11_isSeed hW) mx_X11_isSeed ml_X11_184 (by decide) rfl (cells1 := 0) (slots1 := 0) (by decide) (by decide) (Nat.le_of_ble_eq_true rfl) (Nat.le_of_ble_eq_true rfl) rfl (Nat.le_of_ble_eq_true rfl) dX11_odds_1 (fun r_1 L_2 f_3 h_4 => ?_)
  obtain ⟨rfl, rfl, b_5, h_6⟩ := h_4
  refine v_if_eq hC dX11_odds_4 (tgt := 14) (by decide) (fun h_9 => ?_) (fun h_9 => ?_)
  · simp only [Int32.lt_iff_toInt_lt, Int32.le_iff_toInt_le, Int32.reduceToInt, ← Int32.toInt_inj] at h_9
    refine v_bipush hC dX11_odds_14 (v := (-2)) (by decide) ?_
    exact hR _ _ _ _ _ _ _ dX11_odds_16 rfl (Nat.le_of_ble_eq_true rfl) (Nat.le_of_ble_eq_true rfl) ⟨rfl, hW, FR.rf, (.inl (by decide)), (.inl (by decide))⟩
  · simp only [Int32.lt_iff_toInt_lt, Int32.le_iff_toInt_le, Int32.reduceToInt, ← Int32.toInt_inj] at h_9
    refine v_iload_n hC dX11_odds_7 rfl ?_
    refine v_si hC (rest := []) mt_X11_isManyKnitted (p_X11_isManyKnitted hW) mx_X11_isManyKnitted ml_X11_276 (by decide) rfl (cells1 := 0) (slots1 := 0) (by decide) (by decide) (Nat.le_of_ble_eq_true rfl) (Nat.le_of_ble_eq_true rfl) rfl (Nat.le_of_ble_eq_true rfl) dX11_odds_8 (fun r_10 L_11 f_12 h_13 => ?_)
    obtain ⟨rfl, rfl, b_14, h_15⟩ := h_13
    refine v_if_ne hC dX11_odds_11 (tgt := 17) (by decide) (fun h_18 => ?_) (fun h_18 => ?_)
    · simp only [Int32.lt_iff_toInt_lt, Int32.le_iff_toInt_le, Int32.reduceToInt, ← Int32.toInt_inj] at h_18
      refine v_aload_n hC dX11_odds_17 rfl ?_
      obtain ⟨m_19, q_21, q_22, q_23, q_24, q_25, q_26, q_27, q_28, q_29, q_30, q_31, q_32, q_33, q_34, t_20, k_35, k_36, k_37, k_38, k_39, k_40, k_41, k_42, k_43, k_44, k_45, k_46, k_47, k_48⟩ := id k_0
      have e_49 : f a_0 = ob 11 [.ref q_21, .ref q_22, .ref q_23, .ref q_24, .ref q_25, .ref q_26, .ref q_27, .ref q_28, .ref q_29, .ref q_30, .ref q_31, .ref q_32, .ref q_33, .ref q_34] := hW.at m_19 t_20
      refine v_get hC fl_X11_19 m_19 e_49 rfl dX11_odds_18 ?_
      obtain ⟨m_50, q_52, q_53, q_54, q_55, q_56, q_57, t_51, k_58, k_59, k_60, k_61, k_62, k_63⟩ := id k_36
      have e_64 : f q_22 = ob 0 [.ref q_52, .ref q_53, .ref q_54, .ref q_55, .ref q_56, .ref q_57] := hW.at m_50 t_51
      refine v_getN hC fn_X11_116 m_50 e_64 rfl dX11_odds_21 ?_
      obtain ⟨m_65, q_67, q_68, t_66, k_69, k_70⟩ := id k_58
      obtain ⟨v_72, v_74, v_76, e_71, b_73, b_75, b_77⟩ := hW.at m_65 t_66
      refine v_vi hC (rest := []) m_65 e_71 rfl mi_X4_isThere ms_X4_isThere (p_X4_isThere hW k_58) mx_X4_isThere ml_X11_187 (by decide) rfl (cells1 := 0) (slots1 := 0) (by decide) (by decide) (Nat.le_of_ble_eq_true rfl) (Nat.le_of_ble_eq_true rfl) rfl (Nat.le_of_ble_eq_true rfl) dX11_odds_24 (fun r_78 L_79 f_80 h_81 => ?_)
      obtain ⟨rfl, rfl, b_82⟩ := h_81
      refine v_if_ne hC dX11_odds_27 (tgt := 33) (by decide) (fun h_85 => ?_) (fun h_85 => ?_)
      · simp only [Int32.lt_iff_toInt_lt, Int32.le_iff_toInt_le, Int32.reduceToInt, ← Int32.toInt_inj] at h_85
        refine v_iconst hC dX11_odds_33 (v := 0) (by decide) ?_
        refine v_istore_n hC dX11_odds_34 (by decide) (lv' := [(3, .int 0), (0, .ref a_0), (1, .int a_1), (2, .int a_2)]) rfl ?_
        refine v_iconst hC dX11_odds_35 (v := 0) (by decide) ?_
        refine v_istore hC dX11_odds_36 (by decide) (lv' := [(4, .int 0), (3, .int 0), (0, .ref a_0), (1, .int a_1), (2, .int a_2)]) rfl ?_
        have lp_578 : ∀ (n_579 : Nat) (f_571 : Nat → va_E) (hW_572 : WT T L f_571) (hF_573 : FR [1, 6, 105, 116, 356] f f_571) (i_569 : Int32) (b_577 : (0 ≤ i_569.toInt ∧ i_569.toInt ≤ 50)) (i_570 : Int32) (hm_581 : 50 - i_569.toInt < (n_579 : Int)), V z E 5 0 0 L f_571 38 [(4, .int i_569), (3, .int i_570), (0, .ref a_0), (1, .int a_1), (2, .int a_2)] [] := by
          intro n_579
          induction n_579 with
          | zero =>
            intro f_571 hW_572 hF_573 i_569 b_577 i_570 hm_581
            have hf_574 := hF_573.at e_49 rfl
            have hf_575 := hF_573.at e_64 rfl
            have hf_576 := hF_573.at e_71 rfl
            exfalso; omega
          | succ n_579 ih_580 =>
            intro f_571 hW_572 hF_573 i_569 b_577 i_570 hm_581
            have hf_574 := hF_573.at e_49 rfl
            have hf_575 := hF_573.at e_64 rfl
            have hf_576 := hF_573.at e_71 rfl
            refine v_iload hC dX11_odds_38 rfl ?_
            refine v_iload_n hC dX11_odds_40 rfl ?_
            refine v_icmp_ge hC dX11_odds_41 (tgt := 91) (by decide) (fun h_582 => ?_) (fun h_582 => ?_)
            · simp only [Int32.lt_iff_toInt_lt, Int32.le_iff_toInt_le, Int32.reduceToInt, ← Int32.toInt_inj] at h_582
              refine v_iload_n hC dX11_odds_91 rfl ?_
              exact hR _ _ _ _ _ _ _ dX11_odds_92 rfl (Nat.le_of_ble_eq_true rfl) (Nat.le_of_ble_eq_true rfl) ⟨rfl, hW_572, (hF_573.mono rfl), (.inr (by first | omega | (simp only [Int32.lt_iff_toInt_lt, Int32.le_iff_toInt_le, Int32.reduceToInt, ← Int32.toInt_inj, true_and, and_true, or_true, true_or, false_or, or_false, false_and, and_false, not_true_eq_false, not_false_eq_true] <;> omega))), (.inr (by first | omega | (simp only [Int32.lt_iff_toInt_lt, Int32.le_iff_toInt_le, Int32.reduceToInt, ← Int32.toInt_inj, true_and, and_true, or_true, true_or, false_or, or_false, false_and, and_false, not_true_eq_false, not_false_eq_true] <;> omega)))⟩
            · simp only [Int32.lt_iff_toInt_lt, Int32.le_iff_toInt_le, Int32.reduceToInt, ← Int32.toInt_inj] at h_582
              refine v_aload_n hC dX11_odds_44 rfl ?_
              refine v_get hC fl_X11_85 m_19 hf_574 rfl dX11_odds_45 ?_
              refine v_aload_n hC dX11_odds_48 rfl ?_
              refine v_get hC fl_X11_19 m_19 hf_574 rfl dX11_odds_49 ?_
              refine v_getN hC fn_X11_116 m_50 hf_575 rfl dX11_odds_52 ?_
              refine v_aload_n hC dX11_odds_55 rfl ?_
              refine v_get hC fl_X11_19 m_19 hf_574 rfl dX11_odds_56 ?_
              refine v_getN hC fn_X11_133 m_50 hf_575 rfl dX11_odds_59 ?_
              refine v_iload_n hC dX11_odds_62 rfl ?_
              refine v_iload hC dX11_odds_63 rfl ?_
              obtain ⟨v_583, h_584⟩ : ∃ v9 : Int32, a_1 + i_569 = v9 := ⟨_, rfl⟩
              refine v_iadd hC dX11_odds_65 h_584 ?_
              have h_585 := add_v h_584 (by first | omega | (simp only [Int32.lt_iff_toInt_lt, Int32.le_iff_toInt_le, Int32.reduceToInt, ← Int32.toInt_inj, true_and, and_true, or_true, true_or, false_or, or_false, false_and, and_false, not_true_eq_false, not_false_eq_true] <;> omega)) (by first | omega | (simp only [Int32.lt_iff_toInt_lt, Int32.le_iff_toInt_le, Int32.reduceToInt, ← Int32.toInt_inj, true_and, and_true, or_true, true_or, false_or, or_false, false_and, and_false, not_true_eq_false, not_false_eq_true] <;> omega))
              obtain ⟨m_586, q_588, t_587, k_589⟩ := id k_47
              obtain ⟨v_591, e_590, b_592⟩ := hW_572.at m_586 t_587
              refine v_vi hC (rest := []) m_586 e_590 rfl mi_X1_knitBy ms_X1_knitBy (p_X1_knitBy hW_572 k_47 k_58 k_59) mx_X1_knitBy ml_X11_194 (by decide) rfl (cells1 := 0) (slots1 := 0) (by decide) (by decide) (Nat.le_of_ble_eq_true rfl) (Nat.le_of_ble_eq_true rfl) rfl (Nat.le_of_ble_eq_true rfl) dX11_odds_66 (fun r_593 L_594 f_595 h_596 => ?_)
              obtain ⟨rfl, hW_597, hF_598⟩ := h_596
              have hf_599 := hF_598.at hf_574 rfl
              have hf_600 := hF_598.at hf_575 rfl
              have hf_601 := hF_598.at hf_576 rfl
              refine v_pop hC dX11_odds_69 rfl ?_
              refine v_aload_n hC dX11_odds_70 rfl ?_
              refine v_aload_n hC dX11_odds_71 rfl ?_
              refine v_get hC fl_X11_85 m_19 hf_599 rfl dX11_odds_72 ?_
              refine v_vi hC (rest := []) m_19 hf_599 rfl mi_X11_lineThatStops ms_X11_lineThatStops (p_X11_lineThatStops hW_597 k_0 k_47) mx_X11_lineThatStops ml_X11_272 (by decide) rfl (cells1 := 0) (slots1 := 0) (by decide) (by decide) (Nat.le_of_ble_eq_true rfl) (Nat.le_of_ble_eq_true rfl) rfl (Nat.le_of_ble_eq_true rfl) dX11_odds_75 (fun r_602 L_603 f_604 h_605 => ?_)
              obtain ⟨rfl, hW_606, hF_607⟩ := h_605
              have hf_608 := hF_607.at hf_599 rfl
              have hf_609 := hF_607.at hf_600 rfl
              have hf_610 := hF_607.at hf_601 rfl
              refine v_iconst hC dX11_odds_78 (v := (-1)) (by decide) ?_
              refine v_icmp_eq hC dX11_odds_79 (tgt := 85) (by decide) (fun h_611 => ?_) (fun h_611 => ?_)
              · simp only [Int32.lt_iff_toInt_lt, Int32.le_iff_toInt_le, Int32.reduceToInt, ← Int32.toInt_inj] at h_611
                obtain ⟨v_612, h_613⟩ : ∃ v9 : Int32, i_569 + Int32.ofInt 1 = v9 := ⟨_, rfl⟩
                have h_614 := add_v (b := 1) h_613 (by first | omega | (simp only [Int32.lt_iff_toInt_lt, Int32.le_iff_toInt_le, Int32.reduceToInt, ← Int32.toInt_inj, true_and, and_true, or_true, true_or, false_or, or_false, false_and, and_false, not_true_eq_false, not_false_eq_true] <;> omega)) (by first | omega | (simp only [Int32.lt_iff_toInt_lt, Int32.le_iff_toInt_le, Int32.reduceToInt, ← Int32.toInt_inj, true_and, and_true, or_true, true_or, false_or, or_false, false_and, and_false, not_true_eq_false, not_false_eq_true] <;> omega))
                simp only [Int32.reduceToInt] at h_614
                refine v_iinc hC dX11_odds_85 (k := 0) rfl (v := v_612) h_613 (by decide) (lv' := [(4, .int v_612), (3, .int i_570), (0, .ref a_0), (1, .int a_1), (2, .int a_2)]) rfl ?_
                refine v_goto hC dX11_odds_88 (tgt := 38) (by decide) ?_
                refine v_pick [0, 1, 2, 3, 4] rfl ?_
                exact ih_580 f_604 hW_606 (((hF_573.tr hF_598).tr hF_607).mono rfl) v_612 (by first | omega | (simp only [Int32.lt_iff_toInt_lt, Int32.le_iff_toInt_le, Int32.reduceToInt, ← Int32.toInt_inj, true_and, and_true, or_true, true_or, false_or, or_false, false_and, and_false, not_true_eq_false, not_false_eq_true] <;> omega)) i_570 (by first | omega | (simp only [Int32.lt_iff_toInt_lt, Int32.le_iff_toInt_le, Int32.reduceToInt, ← Int32.toInt_inj, true_and, and_true, or_true, true_or, false_or, or_false, false_and, and_false, not_true_eq_false, not_false_eq_true] <;> omega))
              · simp only [Int32.lt_iff_toInt_lt, Int32.le_iff_toInt_le, Int32.reduceToInt, ← Int32.toInt_inj] at h_611
                obtain ⟨v_615, h_616⟩ : ∃ v9 : Int32, i_570 + Int32.ofInt 1 = v9 := ⟨_, rfl⟩
                refine v_iinc hC dX11_odds_82 (k := 1) rfl (v := v_615) h_616 (by decide) (lv' := [(3, .int v_615), (4, .int i_569), (0, .ref a_0), (1, .int a_1), (2, .int a_2)]) rfl ?_
                obtain ⟨v_617, h_618⟩ : ∃ v9 : Int32, i_569 + Int32.ofInt 1 = v9 := ⟨_, rfl⟩
                have h_619 := add_v (b := 1) h_618 (by first | omega | (simp only [Int32.lt_iff_toInt_lt, Int32.le_iff_toInt_le, Int32.reduceToInt, ← Int32.toInt_inj, true_and, and_true, or_true, true_or, false_or, or_false, false_and, and_false, not_true_eq_false, not_false_eq_true] <;> omega)) (by first | omega | (simp only [Int32.lt_iff_toInt_lt, Int32.le_iff_toInt_le, Int32.reduceToInt, ← Int32.toInt_inj, true_and, and_true, or_true, true_or, false_or, or_false, false_and, and_false, not_true_eq_false, not_false_eq_true] <;> omega))
                simp only [Int32.reduceToInt] at h_619
                refine v_iinc hC dX11_odds_85 (k := 1) rfl (v := v_617) h_618 (by decide) (lv' := [(4, .int v_617), (3, .int v_615), (0, .ref a_0), (1, .int a_1), (2, .int a_2)]) rfl ?_
                refine v_goto hC dX11_odds_88 (tgt := 38) (by decide) ?_
                refine v_pick [0, 1, 2, 3, 4] rfl ?_
                exact ih_580 f_604 hW_606 (((hF_573.tr hF_598).tr hF_607).mono rfl) v_617 (by first | omega | (simp only [Int32.lt_iff_toInt_lt, Int32.le_iff_toInt_le, Int32.reduceToInt, ← Int32.toInt_inj, true_and, and_true, or_true, true_or, false_or, or_false, false_and, and_false, not_true_eq_false, not_false_eq_true] <;> omega)) v_615 (by first | omega | (simp only [Int32.lt_iff_toInt_lt, Int32.le_iff_toInt_le, Int32.reduceToInt, ← Int32.toInt_inj, true_and, and_true, or_true, true_or, false_or, or_false, false_and, and_false, not_true_eq_false, not_false_eq_true] <;> omega))
        refine v_pick [0, 1, 2, 3, 4] rfl ?_
        exact lp_578 52 f hW FR.rf 0 (by decide) 0 (by decide)
      · simp only [Int32.lt_iff_toInt_lt, Int32.le_iff_toInt_le, Int32.reduceToInt, ← Int32.toInt_inj] at h_85
        refine v_bipush hC dX11_odds_30 (v := (-6)) (by decide) ?_
        exact hR _ _ _ _ _ _ _ dX11_odds_32 rfl (Nat.le_of_ble_eq_true rfl) (Nat.le_of_ble_eq_true rfl) ⟨rfl, hW, FR.rf, (.inl (by decide)), (.inl (by decide))⟩
    · simp only [Int32.lt_iff_toInt_lt, Int32.le_iff_toInt_le, Int32.reduceToInt, ← Int32.toInt_inj] at h_18
      refine v_bipush hC dX11_odds_14 (v := (-2)) (by decide) ?_
      exact hR _ _ _ _ _ _ _ dX11_odds_16 rfl (Nat.le_of_ble_eq_true rfl) (Nat.le_of_ble_eq_true rfl) ⟨rfl, hW, FR.rf, (.inl (by decide)), (.inl (by decide))⟩
set_option maxRecDepth 100000 in
set_option maxHeartbeats 8000000 in
theorem p_X11_carries {l : Launch} {E : Ez} {L : List Nat} {f : Nat → va_E} {T : Nat → va_E → Prop} {a_0 : Nat} {a_1 : Int32} {a_2 : Int32} {a_3 : Int32} (hW : WT T L f) (k_0 : isX T L E a_0) : CI l yX11_carries cX11_carries 6 .int 6 0 0 E [.ref a_0, .int a_1, .int a_2, .int a_3] L f (fun r L1 f1 => L = L1 ∧ WT T L f1 ∧ FR [1, 6, 8, 105, 116, 356] f f1 ∧ (¬ r.toInt = 0 ∨ (0 ≤ a_1.toInt ∧ a_1.toInt ≤ 5)) ∧ (¬ r.toInt = 0 ∨ (0 ≤ a_2.toInt ∧ a_2.toInt ≤ 2000000000)) ∧ (¬ r.toInt = 0 ∨ (1 ≤ a_3.toInt ∧ a_3.toInt ≤ 50))) := by
  refine ci_of (by decide) (Nat.le_of_ble_eq_true rfl) (fun z hz hnm hC hR => ?_)
  have hC : Cx z E cX11_carries RX11 6 6 0 0 := hC
  subst hz
  show V z E 6 0 0 L f 0 [(0, .ref a_0), (1, .int a_1), (2, .int a_2), (3, .int a_3)] []
  refine v_iload_n hC dX11_carries_0 rfl ?_
  refine v_si hC (rest := []) mt_X11_isWay (p_X11_isWay hW) mx_X11_isWay ml_X11_142 (by decide) rfl (cells1 := 0) (slots1 := 0) (by decide) (by decide) (Nat.le_of_ble_eq_true rfl) (Nat.le_of_ble_eq_true rfl) rfl (Nat.le_of_ble_eq_true rfl) dX11_carries_1 (fun r_1 L_2 f_3 h_4 => ?_)
  obtain ⟨rfl, rfl, b_5, h_6⟩ := h_4
  refine v_if_eq hC dX11_carries_4 (tgt := 21) (by decide) (fun h_9 => ?_) (fun h_9 => ?_)
  · simp only [Int32.lt_iff_toInt_lt, Int32.le_iff_toInt_le, Int32.reduceToInt, ← Int32.toInt_inj] at h_9
    refine v_bipush hC dX11_carries_21 (v := (-2)) (by decide) ?_
    exact hR _ _ _ _ _ _ _ dX11_carries_23 rfl (Nat.le_of_ble_eq_true rfl) (Nat.le_of_ble_eq_true rfl) ⟨rfl, hW, FR.rf, (.inl (by decide)), (.inl (by decide)), (.inl (by decide))⟩
  · simp only [Int32.lt_iff_toInt_lt, Int32.le_iff_toInt_le, Int32.reduceToInt, ← Int32.toInt_inj] at h_9
    refine v_iload_n hC dX11_carries_7 rfl ?_
    refine v_si hC (rest := []) mt_X11_isSeed (p_X11_isSeed hW) mx_X11_isSeed ml_X11_184 (by decide) rfl (cells1 := 0) (slots1 := 0) (by decide) (by decide) (Nat.le_of_ble_eq_true rfl) (Nat.le_of_ble_eq_true rfl) rfl (Nat.le_of_ble_eq_true rfl) dX11_carries_8 (fun r_10 L_11 f_12 h_13 => ?_)
    obtain ⟨rfl, rfl, b_14, h_15⟩ := h_13
    refine v_if_eq hC dX11_carries_11 (tgt := 21) (by decide) (fun h_18 => ?_) (fun h_18 => ?_)
    · simp only [Int32.lt_iff_toInt_lt, Int32.le_iff_toInt_le, Int32.reduceToInt, ← Int32.toInt_inj] at h_18
      refine v_bipush hC dX11_carries_21 (v := (-2)) (by decide) ?_
      exact hR _ _ _ _ _ _ _ dX11_carries_23 rfl (Nat.le_of_ble_eq_true rfl) (Nat.le_of_ble_eq_true rfl) ⟨rfl, hW, FR.rf, (.inl (by decide)), (.inl (by decide)), (.inl (by decide))⟩
    · simp only [Int32.lt_iff_toInt_lt, Int32.le_iff_toInt_le, Int32.reduceToInt, ← Int32.toInt_inj] at h_18
      refine v_iload_n hC dX11_carries_14 rfl ?_
      refine v_si hC (rest := []) mt_X11_isManyKnitted (p_X11_isManyKnitted hW) mx_X11_isManyKnitted ml_X11_276 (by decide) rfl (cells1 := 0) (slots1 := 0) (by decide) (by decide) (Nat.le_of_ble_eq_true rfl) (Nat.le_of_ble_eq_true rfl) rfl (Nat.le_of_ble_eq_true rfl) dX11_carries_15 (fun r_19 L_20 f_21 h_22 => ?_)
      obtain ⟨rfl, rfl, b_23, h_24⟩ := h_22
      refine v_if_ne hC dX11_carries_18 (tgt := 24) (by decide) (fun h_27 => ?_) (fun h_27 => ?_)
      · simp only [Int32.lt_iff_toInt_lt, Int32.le_iff_toInt_le, Int32.reduceToInt, ← Int32.toInt_inj] at h_27
        refine v_aload_n hC dX11_carries_24 rfl ?_
        obtain ⟨m_28, q_30, q_31, q_32, q_33, q_34, q_35, q_36, q_37, q_38, q_39, q_40, q_41, q_42, q_43, t_29, k_44, k_45, k_46, k_47, k_48, k_49, k_50, k_51, k_52, k_53, k_54, k_55, k_56, k_57⟩ := id k_0
        have e_58 : f a_0 = ob 11 [.ref q_30, .ref q_31, .ref q_32, .ref q_33, .ref q_34, .ref q_35, .ref q_36, .ref q_37, .ref q_38, .ref q_39, .ref q_40, .ref q_41, .ref q_42, .ref q_43] := hW.at m_28 t_29
        refine v_get hC fl_X11_19 m_28 e_58 rfl dX11_carries_25 ?_
        obtain ⟨m_59, q_61, q_62, q_63, q_64, q_65, q_66, t_60, k_67, k_68, k_69, k_70, k_71, k_72⟩ := id k_45
        have e_73 : f q_31 = ob 0 [.ref q_61, .ref q_62, .ref q_63, .ref q_64, .ref q_65, .ref q_66] := hW.at m_59 t_60
        refine v_getN hC fn_X11_116 m_59 e_73 rfl dX11_carries_28 ?_
        obtain ⟨m_74, q_76, q_77, t_75, k_78, k_79⟩ := id k_67
        obtain ⟨v_81, v_83, v_85, e_80, b_82, b_84, b_86⟩ := hW.at m_74 t_75
        refine v_vi hC (rest := []) m_74 e_80 rfl mi_X4_isThere ms_X4_isThere (p_X4_isThere hW k_67) mx_X4_isThere ml_X11_187 (by decide) rfl (cells1 := 0) (slots1 := 0) (by decide) (by decide) (Nat.le_of_ble_eq_true rfl) (Nat.le_of_ble_eq_true rfl) rfl (Nat.le_of_ble_eq_true rfl) dX11_carries_31 (fun r_87 L_88 f_89 h_90 => ?_)
        obtain ⟨rfl, rfl, b_91⟩ := h_90
        refine v_if_eq hC dX11_carries_34 (tgt := 52) (by decide) (fun h_94 => ?_) (fun h_94 => ?_)
        · simp only [Int32.lt_iff_toInt_lt, Int32.le_iff_toInt_le, Int32.reduceToInt, ← Int32.toInt_inj] at h_94
          refine v_bipush hC dX11_carries_52 (v := (-6)) (by decide) ?_
          exact hR _ _ _ _ _ _ _ dX11_carries_54 rfl (Nat.le_of_ble_eq_true rfl) (Nat.le_of_ble_eq_true rfl) ⟨rfl, hW, FR.rf, (.inl (by decide)), (.inl (by decide)), (.inl (by decide))⟩
        · simp only [Int32.lt_iff_toInt_lt, Int32.le_iff_toInt_le, Int32.reduceToInt, ← Int32.toInt_inj] at h_94
          refine v_aload_n hC dX11_carries_37 rfl ?_
          refine v_get hC fl_X11_19 m_28 e_58 rfl dX11_carries_38 ?_
          refine v_getN hC fn_X11_146 m_59 e_73 rfl dX11_carries_41 ?_
          refine v_iload_n hC dX11_carries_44 rfl ?_
          obtain ⟨m_95, g_97, t_96, k_98⟩ := id k_69
          have e_99 : f q_63 = aR E 7 6 g_97 := hW.at m_95 t_96
          obtain ⟨q_100, h_101, k_102⟩ := k_98 (a_1 : Int32).toNatClampNeg (clamp_lt (vp_in_iff.mpr (by first | omega | (simp only [Int32.lt_iff_toInt_lt, Int32.le_iff_toInt_le, Int32.reduceToInt, ← Int32.toInt_inj, true_and, and_true, or_true, true_or, false_or, or_false, false_and, and_false, not_true_eq_false, not_false_eq_true] <;> omega))))
          refine v_aald hC m_95 e_99 rfl (vp_in_iff.mpr (by first | omega | (simp only [Int32.lt_iff_toInt_lt, Int32.le_iff_toInt_le, Int32.reduceToInt, ← Int32.toInt_inj, true_and, and_true, or_true, true_or, false_or, or_false, false_and, and_false, not_true_eq_false, not_false_eq_true] <;> omega))) (v := .ref q_100) (by rw [h_101]; rfl) dX11_carries_45 ?_
          obtain ⟨m_103, t_104⟩ := id k_102
          obtain ⟨v_106, v_108, v_109, v_110, v_112, v_114, v_116, e_105, b_107, b_111, b_113, b_115, b_117⟩ := hW.at m_103 t_104
          refine v_getN hC fn_X11_232 m_103 e_105 rfl dX11_carries_46 ?_
          refine v_if_ne hC dX11_carries_49 (tgt := 55) (by decide) (fun h_118 => ?_) (fun h_118 => ?_)
          · simp only [Int32.lt_iff_toInt_lt, Int32.le_iff_toInt_le, Int32.reduceToInt, ← Int32.toInt_inj] at h_118
            refine v_aload_n hC dX11_carries_55 rfl ?_
            refine v_get hC fl_X11_30 m_28 e_58 rfl dX11_carries_56 ?_
            obtain ⟨m_119, q_121, t_120, k_122⟩ := id k_47
            obtain ⟨v_124, e_123, b_125⟩ := hW.at m_119 t_120
            refine v_vi hC (rest := []) m_119 e_123 rfl mi_X2_isSure ms_X2_isSure (p_X2_isSure hW k_47) mx_X2_isSure ml_X11_279 (by decide) rfl (cells1 := 0) (slots1 := 0) (by decide) (by decide) (Nat.le_of_ble_eq_true rfl) (Nat.le_of_ble_eq_true rfl) rfl (Nat.le_of_ble_eq_true rfl) dX11_carries_59 (fun r_126 L_127 f_128 h_129 => ?_)
            obtain ⟨rfl, rfl, b_130⟩ := h_129
            refine v_if_ne hC dX11_carries_62 (tgt := 68) (by decide) (fun h_133 => ?_) (fun h_133 => ?_)
            · simp only [Int32.lt_iff_toInt_lt, Int32.le_iff_toInt_le, Int32.reduceToInt, ← Int32.toInt_inj] at h_133
              refine v_aload_n hC dX11_carries_68 rfl ?_
              refine v_get hC fl_X11_78 m_28 e_58 rfl dX11_carries_69 ?_
              refine v_aload_n hC dX11_carries_72 rfl ?_
              refine v_get hC fl_X11_19 m_28 e_58 rfl dX11_carries_73 ?_
              refine v_getN hC fn_X11_146 m_59 e_73 rfl dX11_carries_76 ?_
              refine v_iload_n hC dX11_carries_79 rfl ?_
              obtain ⟨q_134, h_135, k_136⟩ := k_98 (a_1 : Int32).toNatClampNeg (clamp_lt (vp_in_iff.mpr (by first | omega | (simp only [Int32.lt_iff_toInt_lt, Int32.le_iff_toInt_le, Int32.reduceToInt, ← Int32.toInt_inj, true_and, and_true, or_true, true_or, false_or, or_false, false_and, and_false, not_true_eq_false, not_false_eq_true] <;> omega))))
              refine v_aald hC m_95 e_99 rfl (vp_in_iff.mpr (by first | omega | (simp only [Int32.lt_iff_toInt_lt, Int32.le_iff_toInt_le, Int32.reduceToInt, ← Int32.toInt_inj, true_and, and_true, or_true, true_or, false_or, or_false, false_and, and_false, not_true_eq_false, not_false_eq_true] <;> omega))) (v := .ref q_134) (by rw [h_135]; rfl) dX11_carries_80 ?_
              refine v_aload_n hC dX11_carries_81 rfl ?_
              refine v_get hC fl_X11_19 m_28 e_58 rfl dX11_carries_82 ?_
              refine v_getN hC fn_X11_116 m_59 e_73 rfl dX11_carries_85 ?_
              obtain ⟨m_137, q_139, t_138, k_140⟩ := id k_55
              obtain ⟨v_142, v_144, v_146, v_148, e_141, b_143, b_145, b_147, b_149⟩ := hW.at m_137 t_138
              refine v_vv hC (rest := []) m_137 e_141 rfl mi_X8_follow ms_X8_follow (p_X8_follow hW k_55 k_136 k_67) mx_X8_follow ml_X11_218 (by decide) rfl (cells1 := 0) (slots1 := 0) (by decide) (by decide) (Nat.le_of_ble_eq_true rfl) (Nat.le_of_ble_eq_true rfl) rfl (Nat.le_of_ble_eq_true rfl) dX11_carries_88 (fun L_151 f_152 h_153 => ?_)
              obtain ⟨rfl, hW_154, hF_155⟩ := h_153
              have hf_156 := hF_155.at e_58 rfl
              have hf_157 := hF_155.at e_73 rfl
              have hf_158 := hF_155.at e_80 rfl
              have hf_159 := hF_155.at e_99 rfl
              have hf_160 := hF_155.at e_105 rfl
              have hf_161 := hF_155.at e_123 rfl
              refine v_aload_n hC dX11_carries_91 rfl ?_
              refine v_get hC fl_X11_78 m_28 hf_156 rfl dX11_carries_92 ?_
              refine v_aload_n hC dX11_carries_95 rfl ?_
              refine v_get hC fl_X11_30 m_28 hf_156 rfl dX11_carries_96 ?_
              refine v_getN hC fn_X11_213 m_119 hf_161 rfl dX11_carries_99 ?_
              obtain ⟨v_163, v_165, v_167, v_169, e_162, b_164, b_166, b_168, b_170⟩ := hW_154.at m_137 t_138
              refine v_vi hC (rest := []) m_137 e_162 rfl mi_X8_hasRoomFor ms_X8_hasRoomFor (p_X8_hasRoomFor hW_154 k_55) mx_X8_hasRoomFor ml_X11_282 (by decide) rfl (cells1 := 0) (slots1 := 0) (by decide) (by decide) (Nat.le_of_ble_eq_true rfl) (Nat.le_of_ble_eq_true rfl) rfl (Nat.le_of_ble_eq_true rfl) dX11_carries_102 (fun r_171 L_172 f_173 h_174 => ?_)
              obtain ⟨rfl, rfl, b_175⟩ := h_174
              refine v_if_ne hC dX11_carries_105 (tgt := 111) (by decide) (fun h_178 => ?_) (fun h_178 => ?_)
              · simp only [Int32.lt_iff_toInt_lt, Int32.le_iff_toInt_le, Int32.reduceToInt, ← Int32.toInt_inj] at h_178
                refine v_iconst hC dX11_carries_111 (v := 0) (by decide) ?_
                refine v_istore hC dX11_carries_112 (by decide) (lv' := [(4, .int 0), (0, .ref a_0), (1, .int a_1), (2, .int a_2), (3, .int a_3)]) rfl ?_
                refine v_iconst hC dX11_carries_114 (v := 0) (by decide) ?_
                refine v_istore hC dX11_carries_115 (by decide) (lv' := [(5, .int 0), (4, .int 0), (0, .ref a_0), (1, .int a_1), (2, .int a_2), (3, .int a_3)]) rfl ?_
                have lp_925 : ∀ (n_926 : Nat) (f_914 : Nat → va_E) (hW_915 : WT T L f_914) (hF_916 : FR [1, 6, 105, 116, 356] f_152 f_914) (i_912 : Int32) (b_924 : (0 ≤ i_912.toInt ∧ i_912.toInt ≤ 50)) (i_913 : Int32) (hm_928 : 50 - i_912.toInt < (n_926 : Int)), V z E 6 0 0 L f_914 117 [(5, .int i_912), (4, .int i_913), (0, .ref a_0), (2, .int a_2), (3, .int a_3)] [] := by
                  intro n_926
                  induction n_926 with
                  | zero =>
                    intro f_914 hW_915 hF_916 i_912 b_924 i_913 hm_928
                    have hf_917 := hF_916.at hf_156 rfl
                    have hf_918 := hF_916.at hf_157 rfl
                    have hf_919 := hF_916.at hf_158 rfl
                    have hf_920 := hF_916.at hf_159 rfl
                    have hf_921 := hF_916.at hf_160 rfl
                    have hf_922 := hF_916.at hf_161 rfl
                    have hf_923 := hF_916.at e_162 rfl
                    exfalso; omega
                  | succ n_926 ih_927 =>
                    intro f_914 hW_915 hF_916 i_912 b_924 i_913 hm_928
                    have hf_917 := hF_916.at hf_156 rfl
                    have hf_918 := hF_916.at hf_157 rfl
                    have hf_919 := hF_916.at hf_158 rfl
                    have hf_920 := hF_916.at hf_159 rfl
                    have hf_921 := hF_916.at hf_160 rfl
                    have hf_922 := hF_916.at hf_161 rfl
                    have hf_923 := hF_916.at e_162 rfl
                    refine v_iload hC dX11_carries_117 rfl ?_
                    refine v_iload_n hC dX11_carries_119 rfl ?_
                    refine v_icmp_ge hC dX11_carries_120 (tgt := 193) (by decide) (fun h_929 => ?_) (fun h_929 => ?_)
                    · simp only [Int32.lt_iff_toInt_lt, Int32.le_iff_toInt_le, Int32.reduceToInt, ← Int32.toInt_inj] at h_929
                      refine v_iload hC dX11_carries_193 rfl ?_
                      exact hR _ _ _ _ _ _ _ dX11_carries_195 rfl (Nat.le_of_ble_eq_true rfl) (Nat.le_of_ble_eq_true rfl) ⟨rfl, hW_915, ((hF_155.tr hF_916).mono rfl), (.inr (by first | omega | (simp only [Int32.lt_iff_toInt_lt, Int32.le_iff_toInt_le, Int32.reduceToInt, ← Int32.toInt_inj, true_and, and_true, or_true, true_or, false_or, or_false, false_and, and_false, not_true_eq_false, not_false_eq_true] <;> omega))), (.inr (by first | omega | (simp only [Int32.lt_iff_toInt_lt, Int32.le_iff_toInt_le, Int32.reduceToInt, ← Int32.toInt_inj, true_and, and_true, or_true, true_or, false_or, or_false, false_and, and_false, not_true_eq_false, not_false_eq_true] <;> omega))), (.inr (by first | omega | (simp only [Int32.lt_iff_toInt_lt, Int32.le_iff_toInt_le, Int32.reduceToInt, ← Int32.toInt_inj, true_and, and_true, or_true, true_or, false_or, or_false, false_and, and_false, not_true_eq_false, not_false_eq_true] <;> omega)))⟩
                    · simp only [Int32.lt_iff_toInt_lt, Int32.le_iff_toInt_le, Int32.reduceToInt, ← Int32.toInt_inj] at h_929
                      refine v_aload_n hC dX11_carries_123 rfl ?_
                      refine v_get hC fl_X11_85 m_28 hf_917 rfl dX11_carries_124 ?_
                      refine v_aload_n hC dX11_carries_127 rfl ?_
                      refine v_get hC fl_X11_19 m_28 hf_917 rfl dX11_carries_128 ?_
                      refine v_getN hC fn_X11_116 m_59 hf_918 rfl dX11_carries_131 ?_
                      refine v_aload_n hC dX11_carries_134 rfl ?_
                      refine v_get hC fl_X11_19 m_28 hf_917 rfl dX11_carries_135 ?_
                      refine v_getN hC fn_X11_133 m_59 hf_918 rfl dX11_carries_138 ?_
                      refine v_iload_n hC dX11_carries_141 rfl ?_
                      refine v_iload hC dX11_carries_142 rfl ?_
                      obtain ⟨v_930, h_931⟩ : ∃ v9 : Int32, a_2 + i_912 = v9 := ⟨_, rfl⟩
                      refine v_iadd hC dX11_carries_144 h_931 ?_
                      have h_932 := add_v h_931 (by first | omega | (simp only [Int32.lt_iff_toInt_lt, Int32.le_iff_toInt_le, Int32.reduceToInt, ← Int32.toInt_inj, true_and, and_true, or_true, true_or, false_or, or_false, false_and, and_false, not_true_eq_false, not_false_eq_true] <;> omega)) (by first | omega | (simp only [Int32.lt_iff_toInt_lt, Int32.le_iff_toInt_le, Int32.reduceToInt, ← Int32.toInt_inj, true_and, and_true, or_true, true_or, false_or, or_false, false_and, and_false, not_true_eq_false, not_false_eq_true] <;> omega))
                      obtain ⟨m_933, q_935, t_934, k_936⟩ := id k_56
                      obtain ⟨v_938, e_937, b_939⟩ := hW_915.at m_933 t_934
                      refine v_vi hC (rest := []) m_933 e_937 rfl mi_X1_knitBy ms_X1_knitBy (p_X1_knitBy hW_915 k_56 k_67 k_68) mx_X1_knitBy ml_X11_194 (by decide) rfl (cells1 := 0) (slots1 := 0) (by decide) (by decide) (Nat.le_of_ble_eq_true rfl) (Nat.le_of_ble_eq_true rfl) rfl (Nat.le_of_ble_eq_true rfl) dX11_carries_145 (fun r_940 L_941 f_942 h_943 => ?_)
                      obtain ⟨rfl, hW_944, hF_945⟩ := h_943
                      have hf_946 := hF_945.at hf_917 rfl
                      have hf_947 := hF_945.at hf_918 rfl
                      have hf_948 := hF_945.at hf_919 rfl
                      have hf_949 := hF_945.at hf_920 rfl
                      have hf_950 := hF_945.at hf_921 rfl
                      have hf_951 := hF_945.at hf_922 rfl
                      have hf_952 := hF_945.at hf_923 rfl
                      refine v_pop hC dX11_carries_148 rfl ?_
                      refine v_aload_n hC dX11_carries_149 rfl ?_
                      refine v_get hC fl_X11_30 m_28 hf_946 rfl dX11_carries_150 ?_
                      refine v_aload_n hC dX11_carries_153 rfl ?_
                      refine v_get hC fl_X11_85 m_28 hf_946 rfl dX11_carries_154 ?_
                      refine v_aload_n hC dX11_carries_157 rfl ?_
                      refine v_get hC fl_X11_19 m_28 hf_946 rfl dX11_carries_158 ?_
                      refine v_getN hC fn_X11_116 m_59 hf_947 rfl dX11_carries_161 ?_
                      refine v_aload_n hC dX11_carries_164 rfl ?_
                      refine v_get hC fl_X11_78 m_28 hf_946 rfl dX11_carries_165 ?_
                      refine v_vi hC (rest := []) m_119 hf_951 rfl mi_X2_weaveInto ms_X2_weaveInto (p_X2_weaveInto hW_944 k_47 k_56 k_67 k_55) mx_X2_weaveInto ml_X11_283 (by decide) rfl (cells1 := 0) (slots1 := 0) (by decide) (by decide) (Nat.le_of_ble_eq_true rfl) (Nat.le_of_ble_eq_true rfl) rfl (Nat.le_of_ble_eq_true rfl) dX11_carries_168 (fun r_953 L_954 f_955 h_956 => ?_)
                      obtain ⟨rfl, hW_957, hF_958⟩ := h_956
                      have hf_959 := hF_958.at hf_946 rfl
                      have hf_960 := hF_958.at hf_947 rfl
                      have hf_961 := hF_958.at hf_948 rfl
                      have hf_962 := hF_958.at hf_949 rfl
                      have hf_963 := hF_958.at hf_950 rfl
                      have hf_964 := hF_958.at hf_951 rfl
                      have hf_965 := hF_958.at hf_952 rfl
                      refine v_pop hC dX11_carries_171 rfl ?_
                      refine v_aload_n hC dX11_carries_172 rfl ?_
                      refine v_aload_n hC dX11_carries_173 rfl ?_
                      refine v_get hC fl_X11_85 m_28 hf_959 rfl dX11_carries_174 ?_
                      refine v_vi hC (rest := []) m_28 hf_959 rfl mi_X11_lineThatStops ms_X11_lineThatStops (p_X11_lineThatStops hW_957 k_0 k_56) mx_X11_lineThatStops ml_X11_272 (by decide) rfl (cells1 := 0) (slots1 := 0) (by decide) (by decide) (Nat.le_of_ble_eq_true rfl) (Nat.le_of_ble_eq_true rfl) rfl (Nat.le_of_ble_eq_true rfl) dX11_carries_177 (fun r_966 L_967 f_968 h_969 => ?_)
                      obtain ⟨rfl, hW_970, hF_971⟩ := h_969
                      have hf_972 := hF_971.at hf_959 rfl
                      have hf_973 := hF_971.at hf_960 rfl
                      have hf_974 := hF_971.at hf_961 rfl
                      have hf_975 := hF_971.at hf_962 rfl
                      have hf_976 := hF_971.at hf_963 rfl
                      have hf_977 := hF_971.at hf_964 rfl
                      have hf_978 := hF_971.at hf_965 rfl
                      refine v_iconst hC dX11_carries_180 (v := (-1)) (by decide) ?_
                      refine v_icmp_eq hC dX11_carries_181 (tgt := 187) (by decide) (fun h_979 => ?_) (fun h_979 => ?_)
                      · simp only [Int32.lt_iff_toInt_lt, Int32.le_iff_toInt_le, Int32.reduceToInt, ← Int32.toInt_inj] at h_979
                        obtain ⟨v_980, h_981⟩ : ∃ v9 : Int32, i_912 + Int32.ofInt 1 = v9 := ⟨_, rfl⟩
                        have h_982 := add_v (b := 1) h_981 (by first | omega | (simp only [Int32.lt_iff_toInt_lt, Int32.le_iff_toInt_le, Int32.reduceToInt, ← Int32.toInt_inj, true_and, and_true, or_true, true_or, false_or, or_false, false_and, and_false, not_true_eq_false, not_false_eq_true] <;> omega)) (by first | omega | (simp only [Int32.lt_iff_toInt_lt, Int32.le_iff_toInt_le, Int32.reduceToInt, ← Int32.toInt_inj, true_and, and_true, or_true, true_or, false_or, or_false, false_and, and_false, not_true_eq_false, not_false_eq_true] <;> omega))
                        simp only [Int32.reduceToInt] at h_982
                        refine v_iinc hC dX11_carries_187 (k := 0) rfl (v := v_980) h_981 (by decide) (lv' := [(5, .int v_980), (4, .int i_913), (0, .ref a_0), (2, .int a_2), (3, .int a_3)]) rfl ?_
                        refine v_goto hC dX11_carries_190 (tgt := 117) (by decide) ?_
                        refine v_pick [0, 1, 2, 3, 4] rfl ?_
                        exact ih_927 f_968 hW_970 ((((hF_916.tr hF_945).tr hF_958).tr hF_971).mono rfl) v_980 (by first | omega | (simp only [Int32.lt_iff_toInt_lt, Int32.le_iff_toInt_le, Int32.reduceToInt, ← Int32.toInt_inj, true_and, and_true, or_true, true_or, false_or, or_false, false_and, and_false, not_true_eq_false, not_false_eq_true] <;> omega)) i_913 (by first | omega | (simp only [Int32.lt_iff_toInt_lt, Int32.le_iff_toInt_le, Int32.reduceToInt, ← Int32.toInt_inj, true_and, and_true, or_true, true_or, false_or, or_false, false_and, and_false, not_true_eq_false, not_false_eq_true] <;> omega))
                      · simp only [Int32.lt_iff_toInt_lt, Int32.le_iff_toInt_le, Int32.reduceToInt, ← Int32.toInt_inj] at h_979
                        obtain ⟨v_983, h_984⟩ : ∃ v9 : Int32, i_913 + Int32.ofInt 1 = v9 := ⟨_, rfl⟩
                        refine v_iinc hC dX11_carries_184 (k := 1) rfl (v := v_983) h_984 (by decide) (lv' := [(4, .int v_983), (5, .int i_912), (0, .ref a_0), (2, .int a_2), (3, .int a_3)]) rfl ?_
                        obtain ⟨v_985, h_986⟩ : ∃ v9 : Int32, i_912 + Int32.ofInt 1 = v9 := ⟨_, rfl⟩
                        have h_987 := add_v (b := 1) h_986 (by first | omega | (simp only [Int32.lt_iff_toInt_lt, Int32.le_iff_toInt_le, Int32.reduceToInt, ← Int32.toInt_inj, true_and, and_true, or_true, true_or, false_or, or_false, false_and, and_false, not_true_eq_false, not_false_eq_true] <;> omega)) (by first | omega | (simp only [Int32.lt_iff_toInt_lt, Int32.le_iff_toInt_le, Int32.reduceToInt, ← Int32.toInt_inj, true_and, and_true, or_true, true_or, false_or, or_false, false_and, and_false, not_true_eq_false, not_false_eq_true] <;> omega))
                        simp only [Int32.reduceToInt] at h_987
                        refine v_iinc hC dX11_carries_187 (k := 1) rfl (v := v_985) h_986 (by decide) (lv' := [(5, .int v_985), (4, .int v_983), (0, .ref a_0), (2, .int a_2), (3, .int a_3)]) rfl ?_
                        refine v_goto hC dX11_carries_190 (tgt := 117) (by decide) ?_
                        refine v_pick [0, 1, 2, 3, 4] rfl ?_
                        exact ih_927 f_968 hW_970 ((((hF_916.tr hF_945).tr hF_958).tr hF_971).mono rfl) v_985 (by first | omega | (simp only [Int32.lt_iff_toInt_lt, Int32.le_iff_toInt_le, Int32.reduceToInt, ← Int32.toInt_inj, true_and, and_true, or_true, true_or, false_or, or_false, false_and, and_false, not_true_eq_false, not_false_eq_true] <;> omega)) v_983 (by first | omega | (simp only [Int32.lt_iff_toInt_lt, Int32.le_iff_toInt_le, Int32.reduceToInt, ← Int32.toInt_inj, true_and, and_true, or_true, true_or, false_or, or_false, false_and, and_false, not_true_eq_false, not_false_eq_true] <;> omega))
                refine v_pick [0, 1, 2, 4, 5] rfl ?_
                exact lp_925 52 f_152 hW_154 FR.rf 0 (by decide) 0 (by decide)
              · simp only [Int32.lt_iff_toInt_lt, Int32.le_iff_toInt_le, Int32.reduceToInt, ← Int32.toInt_inj] at h_178
                refine v_bipush hC dX11_carries_108 (v := (-3)) (by decide) ?_
                exact hR _ _ _ _ _ _ _ dX11_carries_110 rfl (Nat.le_of_ble_eq_true rfl) (Nat.le_of_ble_eq_true rfl) ⟨rfl, hW_154, (hF_155.mono rfl), (.inl (by decide)), (.inl (by decide)), (.inl (by decide))⟩
            · simp only [Int32.lt_iff_toInt_lt, Int32.le_iff_toInt_le, Int32.reduceToInt, ← Int32.toInt_inj] at h_133
              refine v_bipush hC dX11_carries_65 (v := (-5)) (by decide) ?_
              exact hR _ _ _ _ _ _ _ dX11_carries_67 rfl (Nat.le_of_ble_eq_true rfl) (Nat.le_of_ble_eq_true rfl) ⟨rfl, hW, FR.rf, (.inl (by decide)), (.inl (by decide)), (.inl (by decide))⟩
          · simp only [Int32.lt_iff_toInt_lt, Int32.le_iff_toInt_le, Int32.reduceToInt, ← Int32.toInt_inj] at h_118
            refine v_bipush hC dX11_carries_52 (v := (-6)) (by decide) ?_
            exact hR _ _ _ _ _ _ _ dX11_carries_54 rfl (Nat.le_of_ble_eq_true rfl) (Nat.le_of_ble_eq_true rfl) ⟨rfl, hW, FR.rf, (.inl (by decide)), (.inl (by decide)), (.inl (by decide))⟩
      · simp only [Int32.lt_iff_toInt_lt, Int32.le_iff_toInt_le, Int32.reduceToInt, ← Int32.toInt_inj] at h_27
        refine v_bipush hC dX11_carries_21 (v := (-2)) (by decide) ?_
        exact hR _ _ _ _ _ _ _ dX11_carries_23 rfl (Nat.le_of_ble_eq_true rfl) (Nat.le_of_ble_eq_true rfl) ⟨rfl, hW, FR.rf, (.inl (by decide)), (.inl (by decide)), (.inl (by decide))⟩
set_option maxRecDepth 100000 in
set_option maxHeartbeats 8000000 in
theorem p_X11_changesByWay {l : Launch} {E : Ez} {L : List Nat} {f : Nat → va_E} {T : Nat → va_E → Prop} {a_0 : Nat} {a_1 : Nat} {a_2 : Nat} (hW : WT T L f) (k_0 : isX T L E a_0) (k_1 : isClo T L E a_1) (k_2 : isWay T L E a_2) : CI l yX11_changesByWay cX11_changesByWay 4 .int 5 0 0 E [.ref a_0, .ref a_1, .ref a_2] L f (fun r L1 f1 => L = L1 ∧ WT T L f1 ∧ FR [1, 2, 6, 8, 105, 116, 151, 356] f f1) := by
  refine ci_of (by decide) (Nat.le_of_ble_eq_true rfl) (fun z hz hnm hC hR => ?_)
  have hC : Cx z E cX11_changesByWay RX11 4 5 0 0 := hC
  subst hz
  show V z E 4 0 0 L f 0 [(0, .ref a_0), (1, .ref a_1), (2, .ref a_2)] []
  refine v_aload_n hC dX11_changesByWay_0 rfl ?_
  obtain ⟨m_1, q_3, q_4, q_5, q_6, q_7, q_8, q_9, q_10, q_11, q_12, q_13, q_14, q_15, q_16, t_2, k_17, k_18, k_19, k_20, k_21, k_22, k_23, k_24, k_25, k_26, k_27, k_28, k_29, k_30⟩ := id k_0
  have e_31 : f a_0 = ob 11 [.ref q_3, .ref q_4, .ref q_5, .ref q_6, .ref q_7, .ref q_8, .ref q_9, .ref q_10, .ref q_11, .ref q_12, .ref q_13, .ref q_14, .ref q_15, .ref q_16] := hW.at m_1 t_2
  refine v_get hC fl_X11_78 m_1 e_31 rfl dX11_changesByWay_1 ?_
  refine v_aload_n hC dX11_changesByWay_4 rfl ?_
  refine v_aload_n hC dX11_changesByWay_5 rfl ?_
  refine v_get hC fl_X11_19 m_1 e_31 rfl dX11_changesByWay_6 ?_
  obtain ⟨m_32, q_34, q_35, q_36, q_37, q_38, q_39, t_33, k_40, k_41, k_42, k_43, k_44, k_45⟩ := id k_18
  have e_46 : f q_4 = ob 0 [.ref q_34, .ref q_35, .ref q_36, .ref q_37, .ref q_38, .ref q_39] := hW.at m_32 t_33
  refine v_getN hC fn_X11_116 m_32 e_46 rfl dX11_changesByWay_9 ?_
  obtain ⟨m_47, q_49, t_48, k_50⟩ := id k_28
  obtain ⟨v_52, v_54, v_56, v_58, e_51, b_53, b_55, b_57, b_59⟩ := hW.at m_47 t_48
  refine v_vv hC (rest := []) m_47 e_51 rfl mi_X8_follow ms_X8_follow (p_X8_follow hW k_28 k_2 k_40) mx_X8_follow ml_X11_218 (by decide) rfl (cells1 := 0) (slots1 := 0) (by decide) (by decide) (Nat.le_of_ble_eq_true rfl) (Nat.le_of_ble_eq_true rfl) rfl (Nat.le_of_ble_eq_true rfl) dX11_changesByWay_12 (fun L_61 f_62 h_63 => ?_)
  obtain ⟨rfl, hW_64, hF_65⟩ := h_63
  have hf_66 := hF_65.at e_31 rfl
  have hf_67 := hF_65.at e_46 rfl
  refine v_aload_n hC dX11_changesByWay_15 rfl ?_
  obtain ⟨m_68, t_69⟩ := id k_2
  obtain ⟨v_71, v_73, v_74, v_75, v_77, v_79, v_81, e_70, b_72, b_76, b_78, b_80, b_82⟩ := hW_64.at m_68 t_69
  refine v_getN hC fn_X11_232 m_68 e_70 rfl dX11_changesByWay_16 ?_
  refine v_if_eq hC dX11_changesByWay_19 (tgt := 39) (by decide) (fun h_83 => ?_) (fun h_83 => ?_)
  · simp only [Int32.lt_iff_toInt_lt, Int32.le_iff_toInt_le, Int32.reduceToInt, ← Int32.toInt_inj] at h_83
    refine v_iconst hC dX11_changesByWay_39 (v := (-1)) (by decide) ?_
    exact hR _ _ _ _ _ _ _ dX11_changesByWay_40 rfl (Nat.le_of_ble_eq_true rfl) (Nat.le_of_ble_eq_true rfl) ⟨rfl, hW_64, (hF_65.mono rfl)⟩
  · simp only [Int32.lt_iff_toInt_lt, Int32.le_iff_toInt_le, Int32.reduceToInt, ← Int32.toInt_inj] at h_83
    refine v_aload_n hC dX11_changesByWay_22 rfl ?_
    refine v_get hC fl_X11_78 m_1 hf_66 rfl dX11_changesByWay_23 ?_
    refine v_aload_n hC dX11_changesByWay_26 rfl ?_
    refine v_get hC fl_X11_30 m_1 hf_66 rfl dX11_changesByWay_27 ?_
    obtain ⟨m_84, q_86, t_85, k_87⟩ := id k_20
    obtain ⟨v_89, e_88, b_90⟩ := hW_64.at m_84 t_85
    refine v_getN hC fn_X11_213 m_84 e_88 rfl dX11_changesByWay_30 ?_
    obtain ⟨v_92, v_94, v_96, v_98, e_91, b_93, b_95, b_97, b_99⟩ := hW_64.at m_47 t_48
    refine v_vi hC (rest := []) m_47 e_91 rfl mi_X8_hasRoomFor ms_X8_hasRoomFor (p_X8_hasRoomFor hW_64 k_28) mx_X8_hasRoomFor ml_X11_282 (by decide) rfl (cells1 := 0) (slots1 := 0) (by decide) (by decide) (Nat.le_of_ble_eq_true rfl) (Nat.le_of_ble_eq_true rfl) rfl (Nat.le_of_ble_eq_true rfl) dX11_changesByWay_33 (fun r_100 L_101 f_102 h_103 => ?_)
    obtain ⟨rfl, rfl, b_104⟩ := h_103
    refine v_if_ne hC dX11_changesByWay_36 (tgt := 41) (by decide) (fun h_107 => ?_) (fun h_107 => ?_)
    · simp only [Int32.lt_iff_toInt_lt, Int32.le_iff_toInt_le, Int32.reduceToInt, ← Int32.toInt_inj] at h_107
      refine v_aload_n hC dX11_changesByWay_41 rfl ?_
      refine v_get hC fl_X11_85 m_1 hf_66 rfl dX11_changesByWay_42 ?_
      refine v_aload_n hC dX11_changesByWay_45 rfl ?_
      obtain ⟨m_108, q_110, t_109, k_111⟩ := id k_29
      obtain ⟨v_113, e_112, b_114⟩ := hW_64.at m_108 t_109
      refine v_vv hC (rest := []) m_108 e_112 rfl mi_X1_takeFrom ms_X1_takeFrom (p_X1_takeFrom hW_64 k_29 k_1) mx_X1_takeFrom ml_X11_318 (by decide) rfl (cells1 := 0) (slots1 := 0) (by decide) (by decide) (Nat.le_of_ble_eq_true rfl) (Nat.le_of_ble_eq_true rfl) rfl (Nat.le_of_ble_eq_true rfl) dX11_changesByWay_46 (fun L_116 f_117 h_118 => ?_)
      obtain ⟨rfl, hW_119, hF_120⟩ := h_118
      have hf_121 := hF_120.at hf_66 rfl
      have hf_122 := hF_120.at hf_67 rfl
      have hf_123 := hF_120.at e_70 rfl
      have hf_124 := hF_120.at e_88 rfl
      have hf_125 := hF_120.at e_91 rfl
      refine v_aload_n hC dX11_changesByWay_49 rfl ?_
      refine v_get hC fl_X11_30 m_1 hf_121 rfl dX11_changesByWay_50 ?_
      refine v_aload_n hC dX11_changesByWay_53 rfl ?_
      refine v_get hC fl_X11_85 m_1 hf_121 rfl dX11_changesByWay_54 ?_
      refine v_aload_n hC dX11_changesByWay_57 rfl ?_
      refine v_get hC fl_X11_19 m_1 hf_121 rfl dX11_changesByWay_58 ?_
      refine v_getN hC fn_X11_116 m_32 hf_122 rfl dX11_changesByWay_61 ?_
      refine v_aload_n hC dX11_changesByWay_64 rfl ?_
      refine v_get hC fl_X11_78 m_1 hf_121 rfl dX11_changesByWay_65 ?_
      refine v_vi hC (rest := []) m_84 hf_124 rfl mi_X2_weaveInto ms_X2_weaveInto (p_X2_weaveInto hW_119 k_20 k_29 k_40 k_28) mx_X2_weaveInto ml_X11_283 (by decide) rfl (cells1 := 0) (slots1 := 0) (by decide) (by decide) (Nat.le_of_ble_eq_true rfl) (Nat.le_of_ble_eq_true rfl) rfl (Nat.le_of_ble_eq_true rfl) dX11_changesByWay_68 (fun r_126 L_127 f_128 h_129 => ?_)
      obtain ⟨rfl, hW_130, hF_131⟩ := h_129
      have hf_132 := hF_131.at hf_121 rfl
      have hf_133 := hF_131.at hf_122 rfl
      have hf_134 := hF_131.at hf_123 rfl
      have hf_135 := hF_131.at hf_124 rfl
      have hf_136 := hF_131.at hf_125 rfl
      refine v_istore_n hC dX11_changesByWay_71 (by decide) (lv' := [(3, .int r_126), (0, .ref a_0), (1, .ref a_1), (2, .ref a_2)]) rfl ?_
      refine v_aload_n hC dX11_changesByWay_72 rfl ?_
      refine v_get hC fl_X11_92 m_1 hf_132 rfl dX11_changesByWay_73 ?_
      refine v_aload_n hC dX11_changesByWay_76 rfl ?_
      refine v_get hC fl_X11_19 m_1 hf_132 rfl dX11_changesByWay_77 ?_
      refine v_getN hC fn_X11_116 m_32 hf_133 rfl dX11_changesByWay_80 ?_
      refine v_aload_n hC dX11_changesByWay_83 rfl ?_
      refine v_get hC fl_X11_85 m_1 hf_132 rfl dX11_changesByWay_84 ?_
      obtain ⟨m_137, q_139, q_140, q_141, q_142, q_143, t_138, k_144, k_145, k_146, k_147, k_148⟩ := id k_30
      obtain ⟨v_150, v_151, v_153, v_155, v_156, e_149, b_152, b_154⟩ := hW_130.at m_137 t_138
      refine v_vv hC (rest := []) m_137 e_149 rfl mi_X6_countOver ms_X6_countOver (p_X6_countOver hW_130 k_30 k_40 k_29) mx_X6_countOver ml_X11_265 (by decide) rfl (cells1 := 0) (slots1 := 0) (by decide) (by decide) (Nat.le_of_ble_eq_true rfl) (Nat.le_of_ble_eq_true rfl) rfl (Nat.le_of_ble_eq_true rfl) dX11_changesByWay_87 (fun L_158 f_159 h_160 => ?_)
      obtain ⟨rfl, hW_161, hF_162⟩ := h_160
      have hf_163 := hF_162.at hf_132 rfl
      have hf_164 := hF_162.at hf_133 rfl
      have hf_165 := hF_162.at hf_134 rfl
      have hf_166 := hF_162.at hf_135 rfl
      have hf_167 := hF_162.at hf_136 rfl
      refine v_aload_n hC dX11_changesByWay_90 rfl ?_
      refine v_get hC fl_X11_19 m_1 hf_163 rfl dX11_changesByWay_91 ?_
      refine v_getN hC fn_X11_158 m_32 hf_164 rfl dX11_changesByWay_94 ?_
      refine v_aload_n hC dX11_changesByWay_97 rfl ?_
      refine v_get hC fl_X11_92 m_1 hf_163 rfl dX11_changesByWay_98 ?_
      obtain ⟨m_168, q_170, t_169, k_171⟩ := id k_43
      obtain ⟨v_173, v_175, e_172, b_174⟩ := hW_161.at m_168 t_169
      refine v_vi hC (rest := []) m_168 e_172 rfl mi_X9_lineThatStops ms_X9_lineThatStops (p_X9_lineThatStops hW_161 k_43 k_30) mx_X9_lineThatStops ml_X11_425 (by decide) rfl (cells1 := 0) (slots1 := 0) (by decide) (by decide) (Nat.le_of_ble_eq_true rfl) (Nat.le_of_ble_eq_true rfl) rfl (Nat.le_of_ble_eq_true rfl) dX11_changesByWay_101 (fun r_176 L_177 f_178 h_179 => ?_)
      obtain ⟨rfl, rfl⟩ := h_179
      refine v_iconst hC dX11_changesByWay_104 (v := (-1)) (by decide) ?_
      refine v_icmp_eq hC dX11_changesByWay_105 (tgt := 110) (by decide) (fun h_182 => ?_) (fun h_182 => ?_)
      · simp only [Int32.lt_iff_toInt_lt, Int32.le_iff_toInt_le, Int32.reduceToInt, ← Int32.toInt_inj] at h_182
        refine v_aload_n hC dX11_changesByWay_110 rfl ?_
        refine v_get hC fl_X11_19 m_1 hf_163 rfl dX11_changesByWay_111 ?_
        refine v_getN hC fn_X11_168 m_32 hf_164 rfl dX11_changesByWay_114 ?_
        refine v_aload_n hC dX11_changesByWay_117 rfl ?_
        refine v_get hC fl_X11_85 m_1 hf_163 rfl dX11_changesByWay_118 ?_
        refine v_aload_n hC dX11_changesByWay_121 rfl ?_
        refine v_get hC fl_X11_19 m_1 hf_163 rfl dX11_changesByWay_122 ?_
        refine v_getN hC fn_X11_116 m_32 hf_164 rfl dX11_changesByWay_125 ?_
        obtain ⟨m_183, q_185, q_186, q_187, t_184, k_188, k_189, k_190⟩ := id k_44
        obtain ⟨v_192, e_191, b_193⟩ := hW_161.at m_183 t_184
        refine v_vv hC (rest := []) m_183 e_191 rfl mi_X3_wear ms_X3_wear (p_X3_wear hW_161 k_44 k_29 k_40) mx_X3_wear ml_X11_290 (by decide) rfl (cells1 := 0) (slots1 := 0) (by decide) (by decide) (Nat.le_of_ble_eq_true rfl) (Nat.le_of_ble_eq_true rfl) rfl (Nat.le_of_ble_eq_true rfl) dX11_changesByWay_128 (fun L_195 f_196 h_197 => ?_)
        obtain ⟨rfl, hW_198, hF_199⟩ := h_197
        have hf_200 := hF_199.at hf_163 rfl
        have hf_201 := hF_199.at hf_164 rfl
        have hf_202 := hF_199.at hf_165 rfl
        have hf_203 := hF_199.at hf_166 rfl
        have hf_204 := hF_199.at hf_167 rfl
        have hf_205 := hF_199.at e_172 rfl
        have hf_206 := hF_199.at e_191 rfl
        refine v_aload_n hC dX11_changesByWay_131 rfl ?_
        refine v_get hC fl_X11_72 m_1 hf_200 rfl dX11_changesByWay_132 ?_
        refine v_aload_n hC dX11_changesByWay_135 rfl ?_
        refine v_get hC fl_X11_85 m_1 hf_200 rfl dX11_changesByWay_136 ?_
        refine v_aload_n hC dX11_changesByWay_139 rfl ?_
        refine v_get hC fl_X11_78 m_1 hf_200 rfl dX11_changesByWay_140 ?_
        obtain ⟨m_207, q_209, t_208, k_210⟩ := id k_27
        obtain ⟨v_212, e_211, b_213⟩ := hW_198.at m_207 t_208
        refine v_vi hC (rest := []) m_207 e_211 rfl mi_X2_hear ms_X2_hear (p_X2_hear hW_198 k_27 k_29 k_28) mx_X2_hear ml_X11_421 (by decide) rfl (cells1 := 0) (slots1 := 0) (by decide) (by decide) (Nat.le_of_ble_eq_true rfl) (Nat.le_of_ble_eq_true rfl) rfl (Nat.le_of_ble_eq_true rfl) dX11_changesByWay_143 (fun r_214 L_215 f_216 h_217 => ?_)
        obtain ⟨rfl, hW_219, hF_220, b_218⟩ := h_217
        have hf_221 := hF_220.at hf_200 rfl
        have hf_222 := hF_220.at hf_201 rfl
        have hf_223 := hF_220.at hf_202 rfl
        have hf_224 := hF_220.at hf_204 rfl
        have hf_225 := hF_220.at hf_205 rfl
        have hf_226 := hF_220.at hf_206 rfl
        refine v_if_eq hC dX11_changesByWay_146 (tgt := 167) (by decide) (fun h_227 => ?_) (fun h_227 => ?_)
        · simp only [Int32.lt_iff_toInt_lt, Int32.le_iff_toInt_le, Int32.reduceToInt, ← Int32.toInt_inj] at h_227
          refine v_iconst hC dX11_changesByWay_167 (v := (-1)) (by decide) ?_
          exact hR _ _ _ _ _ _ _ dX11_changesByWay_168 rfl (Nat.le_of_ble_eq_true rfl) (Nat.le_of_ble_eq_true rfl) ⟨rfl, hW_219, ((((((hF_65.tr hF_120).tr hF_131).tr hF_162).tr hF_199).tr hF_220).mono rfl)⟩
        · simp only [Int32.lt_iff_toInt_lt, Int32.le_iff_toInt_le, Int32.reduceToInt, ← Int32.toInt_inj] at h_227
          refine v_aload_n hC dX11_changesByWay_149 rfl ?_
          refine v_get hC fl_X11_72 m_1 hf_221 rfl dX11_changesByWay_150 ?_
          refine v_aload_n hC dX11_changesByWay_153 rfl ?_
          refine v_get hC fl_X11_30 m_1 hf_221 rfl dX11_changesByWay_154 ?_
          obtain ⟨v_229, e_228, b_230⟩ := hW_219.at m_207 t_208
          refine v_vi hC (rest := []) m_207 e_228 rfl mi_X2_isAs ms_X2_isAs (p_X2_isAs hW_219 k_27 k_20) mx_X2_isAs ml_X11_428 (by decide) rfl (cells1 := 0) (slots1 := 0) (by decide) (by decide) (Nat.le_of_ble_eq_true rfl) (Nat.le_of_ble_eq_true rfl) rfl (Nat.le_of_ble_eq_true rfl) dX11_changesByWay_157 (fun r_231 L_232 f_233 h_234 => ?_)
          obtain ⟨rfl, rfl, b_235⟩ := h_234
          refine v_if_eq hC dX11_changesByWay_160 (tgt := 167) (by decide) (fun h_238 => ?_) (fun h_238 => ?_)
          · simp only [Int32.lt_iff_toInt_lt, Int32.le_iff_toInt_le, Int32.reduceToInt, ← Int32.toInt_inj] at h_238
            refine v_iconst hC dX11_changesByWay_167 (v := (-1)) (by decide) ?_
            exact hR _ _ _ _ _ _ _ dX11_changesByWay_168 rfl (Nat.le_of_ble_eq_true rfl) (Nat.le_of_ble_eq_true rfl) ⟨rfl, hW_219, ((((((hF_65.tr hF_120).tr hF_131).tr hF_162).tr hF_199).tr hF_220).mono rfl)⟩
          · simp only [Int32.lt_iff_toInt_lt, Int32.le_iff_toInt_le, Int32.reduceToInt, ← Int32.toInt_inj] at h_238
            refine v_iload_n hC dX11_changesByWay_163 rfl ?_
            refine v_goto hC dX11_changesByWay_164 (tgt := 168) (by decide) ?_
            exact hR _ _ _ _ _ _ _ dX11_changesByWay_168 rfl (Nat.le_of_ble_eq_true rfl) (Nat.le_of_ble_eq_true rfl) ⟨rfl, hW_219, ((((((hF_65.tr hF_120).tr hF_131).tr hF_162).tr hF_199).tr hF_220).mono rfl)⟩
      · simp only [Int32.lt_iff_toInt_lt, Int32.le_iff_toInt_le, Int32.reduceToInt, ← Int32.toInt_inj] at h_182
        refine v_iconst hC dX11_changesByWay_108 (v := (-1)) (by decide) ?_
        exact hR _ _ _ _ _ _ _ dX11_changesByWay_109 rfl (Nat.le_of_ble_eq_true rfl) (Nat.le_of_ble_eq_true rfl) ⟨rfl, hW_161, ((((hF_65.tr hF_120).tr hF_131).tr hF_162).mono rfl)⟩
    · simp only [Int32.lt_iff_toInt_lt, Int32.le_iff_toInt_le, Int32.reduceToInt, ← Int32.toInt_inj] at h_107
      refine v_iconst hC dX11_changesByWay_39 (v := (-1)) (by decide) ?_
      exact hR _ _ _ _ _ _ _ dX11_changesByWay_40 rfl (Nat.le_of_ble_eq_true rfl) (Nat.le_of_ble_eq_true rfl) ⟨rfl, hW_64, (hF_65.mono rfl)⟩
set_option maxRecDepth 100000 in
set_option maxHeartbeats 8000000 in
theorem p_X11_best {l : Launch} {E : Ez} {L : List Nat} {f : Nat → va_E} {T : Nat → va_E → Prop} {a_0 : Nat} {a_1 : Int32} (hW : WT T L f) (k_0 : isX T L E a_0) : CI l yX11_best cX11_best 7 .int 6 0 0 E [.ref a_0, .int a_1] L f (fun r L1 f1 => L = L1 ∧ WT T L f1 ∧ FR [1, 2, 6, 8, 105, 116, 151, 356] f f1 ∧ ((-6) ≤ r.toInt ∧ r.toInt ≤ 5) ∧ (¬ r.toInt = 0 ∨ (0 ≤ a_1.toInt ∧ a_1.toInt ≤ 3))) := by
  refine ci_of (by decide) (Nat.le_of_ble_eq_true rfl) (fun z hz hnm hC hR => ?_)
  have hC : Cx z E cX11_best RX11 7 6 0 0 := hC
  subst hz
  show V z E 7 0 0 L f 0 [(0, .ref a_0), (1, .int a_1)] []
  refine v_aload_n hC dX11_best_0 rfl ?_
  refine v_iload_n hC dX11_best_1 rfl ?_
  obtain ⟨m_1, q_3, q_4, q_5, q_6, q_7, q_8, q_9, q_10, q_11, q_12, q_13, q_14, q_15, q_16, t_2, k_17, k_18, k_19, k_20, k_21, k_22, k_23, k_24, k_25, k_26, k_27, k_28, k_29, k_30⟩ := id k_0
  have e_31 : f a_0 = ob 11 [.ref q_3, .ref q_4, .ref q_5, .ref q_6, .ref q_7, .ref q_8, .ref q_9, .ref q_10, .ref q_11, .ref q_12, .ref q_13, .ref q_14, .ref q_15, .ref q_16] := hW.at m_1 t_2
  refine v_vi hC (rest := []) m_1 e_31 rfl mi_X11_refusalOfCloth ms_X11_refusalOfCloth (p_X11_refusalOfCloth hW k_0) mx_X11_refusalOfCloth ml_X11_229 (by decide) rfl (cells1 := 0) (slots1 := 0) (by decide) (by decide) (Nat.le_of_ble_eq_true rfl) (Nat.le_of_ble_eq_true rfl) rfl (Nat.le_of_ble_eq_true rfl) dX11_best_2 (fun r_32 L_33 f_34 h_35 => ?_)
  obtain ⟨rfl, rfl, b_36, h_37⟩ := h_35
  refine v_istore_n hC dX11_best_5 (by decide) (lv' := [(2, .int r_32), (0, .ref a_0), (1, .int a_1)]) rfl ?_
  refine v_iload_n hC dX11_best_6 rfl ?_
  refine v_if_eq hC dX11_best_7 (tgt := 12) (by decide) (fun h_40 => ?_) (fun h_40 => ?_)
  · simp only [Int32.lt_iff_toInt_lt, Int32.le_iff_toInt_le, Int32.reduceToInt, ← Int32.toInt_inj] at h_40
    refine v_aload_n hC dX11_best_12 rfl ?_
    refine v_get hC fl_X11_30 m_1 e_31 rfl dX11_best_13 ?_
    obtain ⟨m_41, q_43, t_42, k_44⟩ := id k_20
    obtain ⟨v_46, e_45, b_47⟩ := hW.at m_41 t_42
    refine v_vi hC (rest := []) m_41 e_45 rfl mi_X2_isSure ms_X2_isSure (p_X2_isSure hW k_20) mx_X2_isSure ml_X11_279 (by decide) rfl (cells1 := 0) (slots1 := 0) (by decide) (by decide) (Nat.le_of_ble_eq_true rfl) (Nat.le_of_ble_eq_true rfl) rfl (Nat.le_of_ble_eq_true rfl) dX11_best_16 (fun r_48 L_49 f_50 h_51 => ?_)
    obtain ⟨rfl, rfl, b_52⟩ := h_51
    refine v_if_ne hC dX11_best_19 (tgt := 25) (by decide) (fun h_55 => ?_) (fun h_55 => ?_)
    · simp only [Int32.lt_iff_toInt_lt, Int32.le_iff_toInt_le, Int32.reduceToInt, ← Int32.toInt_inj] at h_55
      refine v_iconst hC dX11_best_25 (v := (-1)) (by decide) ?_
      refine v_istore_n hC dX11_best_26 (by decide) (lv' := [(3, .int (-1)), (2, .int r_32), (0, .ref a_0), (1, .int a_1)]) rfl ?_
      refine v_sipush hC dX11_best_27 (v := 257) (by decide) ?_
      refine v_istore hC dX11_best_30 (by decide) (lv' := [(4, .int 257), (3, .int (-1)), (2, .int r_32), (0, .ref a_0), (1, .int a_1)]) rfl ?_
      refine v_iconst hC dX11_best_32 (v := 0) (by decide) ?_
      refine v_istore hC dX11_best_33 (by decide) (lv' := [(5, .int 0), (4, .int 257), (3, .int (-1)), (2, .int r_32), (0, .ref a_0), (1, .int a_1)]) rfl ?_
      have lp_565 : ∀ (n_566 : Nat) (f_558 : Nat → va_E) (hW_559 : WT T L f_558) (hF_560 : FR [1, 2, 6, 8, 105, 116, 151, 356] f f_558) (i_555 : Int32) (b_562 : (0 ≤ i_555.toInt ∧ i_555.toInt ≤ 6)) (i_556 : Int32) (b_563 : (i_556.toInt ≤ 257)) (i_557 : Int32) (b_564 : ((-1) ≤ i_557.toInt ∧ i_557.toInt ≤ 5)) (hm_568 : 6 - i_555.toInt < (n_566 : Int)), V z E 7 0 0 L f_558 35 [(5, .int i_555), (4, .int i_556), (3, .int i_557), (0, .ref a_0), (1, .int a_1)] [] := by
        intro n_566
        induction n_566 with
        | zero =>
          intro f_558 hW_559 hF_560 i_555 b_562 i_556 b_563 i_557 b_564 hm_568
          have hf_561 := hF_560.at e_31 rfl
          exfalso; omega
        | succ n_566 ih_567 =>
          intro f_558 hW_559 hF_560 i_555 b_562 i_556 b_563 i_557 b_564 hm_568
          have hf_561 := hF_560.at e_31 rfl
          refine v_iload hC dX11_best_35 rfl ?_
          refine v_bipush hC dX11_best_37 (v := 6) (by decide) ?_
          refine v_icmp_ge hC dX11_best_39 (tgt := 93) (by decide) (fun h_569 => ?_) (fun h_569 => ?_)
          · simp only [Int32.lt_iff_toInt_lt, Int32.le_iff_toInt_le, Int32.reduceToInt, ← Int32.toInt_inj] at h_569
            refine v_iload_n hC dX11_best_93 rfl ?_
            exact hR _ _ _ _ _ _ _ dX11_best_94 rfl (Nat.le_of_ble_eq_true rfl) (Nat.le_of_ble_eq_true rfl) ⟨rfl, hW_559, (hF_560.mono rfl), (by first | omega | (simp only [Int32.lt_iff_toInt_lt, Int32.le_iff_toInt_le, Int32.reduceToInt, ← Int32.toInt_inj, true_and, and_true, or_true, true_or, false_or, or_false, false_and, and_false, not_true_eq_false, not_false_eq_true] <;> omega)), (.inr (by first | omega | (simp only [Int32.lt_iff_toInt_lt, Int32.le_iff_toInt_le, Int32.reduceToInt, ← Int32.toInt_inj, true_and, and_true, or_true, true_or, false_or, or_false, false_and, and_false, not_true_eq_false, not_false_eq_true] <;> omega)))⟩
          · simp only [Int32.lt_iff_toInt_lt, Int32.le_iff_toInt_le, Int32.reduceToInt, ← Int32.toInt_inj] at h_569
            refine v_aload_n hC dX11_best_42 rfl ?_
            refine v_aload_n hC dX11_best_43 rfl ?_
            refine v_get hC fl_X11_19 m_1 hf_561 rfl dX11_best_44 ?_
            obtain ⟨m_570, q_572, q_573, q_574, q_575, q_576, q_577, t_571, k_578, k_579, k_580, k_581, k_582, k_583⟩ := id k_18
            have e_584 : f_558 q_4 = ob 0 [.ref q_572, .ref q_573, .ref q_574, .ref q_575, .ref q_576, .ref q_577] := hW_559.at m_570 t_571
            refine v_getN hC fn_X11_190 m_570 e_584 rfl dX11_best_47 ?_
            refine v_iload_n hC dX11_best_50 rfl ?_
            obtain ⟨m_585, g_587, t_586, k_588⟩ := id k_583
            have e_589 : f_558 q_577 = aR E 5 4 g_587 := hW_559.at m_585 t_586
            obtain ⟨q_590, h_591, k_592⟩ := k_588 (a_1 : Int32).toNatClampNeg (clamp_lt (vp_in_iff.mpr (by first | omega | (simp only [Int32.lt_iff_toInt_lt, Int32.le_iff_toInt_le, Int32.reduceToInt, ← Int32.toInt_inj, true_and, and_true, or_true, true_or, false_or, or_false, false_and, and_false, not_true_eq_false, not_false_eq_true] <;> omega))))
            refine v_aald hC m_585 e_589 rfl (vp_in_iff.mpr (by first | omega | (simp only [Int32.lt_iff_toInt_lt, Int32.le_iff_toInt_le, Int32.reduceToInt, ← Int32.toInt_inj, true_and, and_true, or_true, true_or, false_or, or_false, false_and, and_false, not_true_eq_false, not_false_eq_true] <;> omega))) (v := .ref q_590) (by rw [h_591]; rfl) dX11_best_51 ?_
            refine v_aload_n hC dX11_best_52 rfl ?_
            refine v_get hC fl_X11_19 m_1 hf_561 rfl dX11_best_53 ?_
            refine v_getN hC fn_X11_146 m_570 e_584 rfl dX11_best_56 ?_
            refine v_iload hC dX11_best_59 rfl ?_
            obtain ⟨m_593, g_595, t_594, k_596⟩ := id k_580
            have e_597 : f_558 q_574 = aR E 7 6 g_595 := hW_559.at m_593 t_594
            obtain ⟨q_598, h_599, k_600⟩ := k_596 (i_555 : Int32).toNatClampNeg (clamp_lt (vp_in_iff.mpr (by first | omega | (simp only [Int32.lt_iff_toInt_lt, Int32.le_iff_toInt_le, Int32.reduceToInt, ← Int32.toInt_inj, true_and, and_true, or_true, true_or, false_or, or_false, false_and, and_false, not_true_eq_false, not_false_eq_true] <;> omega))))
            refine v_aald hC m_593 e_597 rfl (vp_in_iff.mpr (by first | omega | (simp only [Int32.lt_iff_toInt_lt, Int32.le_iff_toInt_le, Int32.reduceToInt, ← Int32.toInt_inj, true_and, and_true, or_true, true_or, false_or, or_false, false_and, and_false, not_true_eq_false, not_false_eq_true] <;> omega))) (v := .ref q_598) (by rw [h_599]; rfl) dX11_best_61 ?_
            refine v_vi hC (rest := []) m_1 hf_561 rfl mi_X11_changesByWay ms_X11_changesByWay (p_X11_changesByWay hW_559 k_0 k_592 k_600) mx_X11_changesByWay ml_X11_287 (by decide) rfl (cells1 := 0) (slots1 := 0) (by decide) (by decide) (Nat.le_of_ble_eq_true rfl) (Nat.le_of_ble_eq_true rfl) rfl (Nat.le_of_ble_eq_true rfl) dX11_best_62 (fun r_601 L_602 f_603 h_604 => ?_)
            obtain ⟨rfl, hW_605, hF_606⟩ := h_604
            have hf_607 := hF_606.at hf_561 rfl
            have hf_608 := hF_606.at e_584 rfl
            have hf_609 := hF_606.at e_589 rfl
            have hf_610 := hF_606.at e_597 rfl
            refine v_istore hC dX11_best_65 (by decide) (lv' := [(6, .int r_601), (5, .int i_555), (4, .int i_556), (3, .int i_557), (0, .ref a_0), (1, .int a_1)]) rfl ?_
            refine v_iload hC dX11_best_67 rfl ?_
            refine v_iconst hC dX11_best_69 (v := (-1)) (by decide) ?_
            refine v_icmp_eq hC dX11_best_70 (tgt := 87) (by decide) (fun h_611 => ?_) (fun h_611 => ?_)
            · simp only [Int32.lt_iff_toInt_lt, Int32.le_iff_toInt_le, Int32.reduceToInt, ← Int32.toInt_inj] at h_611
              obtain ⟨v_612, h_613⟩ : ∃ v9 : Int32, i_555 + Int32.ofInt 1 = v9 := ⟨_, rfl⟩
              have h_614 := add_v (b := 1) h_613 (by first | omega | (simp only [Int32.lt_iff_toInt_lt, Int32.le_iff_toInt_le, Int32.reduceToInt, ← Int32.toInt_inj, true_and, and_true, or_true, true_or, false_or, or_false, false_and, and_false, not_true_eq_false, not_false_eq_true] <;> omega)) (by first | omega | (simp only [Int32.lt_iff_toInt_lt, Int32.le_iff_toInt_le, Int32.reduceToInt, ← Int32.toInt_inj, true_and, and_true, or_true, true_or, false_or, or_false, false_and, and_false, not_true_eq_false, not_false_eq_true] <;> omega))
              simp only [Int32.reduceToInt] at h_614
              refine v_iinc hC dX11_best_87 (k := 1) rfl (v := v_612) h_613 (by decide) (lv' := [(5, .int v_612), (6, .int r_601), (4, .int i_556), (3, .int i_557), (0, .ref a_0), (1, .int a_1)]) rfl ?_
              refine v_goto hC dX11_best_90 (tgt := 35) (by decide) ?_
              refine v_pick [0, 2, 3, 4, 5] rfl ?_
              exact ih_567 f_603 hW_605 ((hF_560.tr hF_606).mono rfl) v_612 (by first | omega | (simp only [Int32.lt_iff_toInt_lt, Int32.le_iff_toInt_le, Int32.reduceToInt, ← Int32.toInt_inj, true_and, and_true, or_true, true_or, false_or, or_false, false_and, and_false, not_true_eq_false, not_false_eq_true] <;> omega)) i_556 (by first | omega | (simp only [Int32.lt_iff_toInt_lt, Int32.le_iff_toInt_le, Int32.reduceToInt, ← Int32.toInt_inj, true_and, and_true, or_true, true_or, false_or, or_false, false_and, and_false, not_true_eq_false, not_false_eq_true] <;> omega)) i_557 (by first | omega | (simp only [Int32.lt_iff_toInt_lt, Int32.le_iff_toInt_le, Int32.reduceToInt, ← Int32.toInt_inj, true_and, and_true, or_true, true_or, false_or, or_false, false_and, and_false, not_true_eq_false, not_false_eq_true] <;> omega)) (by first | omega | (simp only [Int32.lt_iff_toInt_lt, Int32.le_iff_toInt_le, Int32.reduceToInt, ← Int32.toInt_inj, true_and, and_true, or_true, true_or, false_or, or_false, false_and, and_false, not_true_eq_false, not_false_eq_true] <;> omega))
            · simp only [Int32.lt_iff_toInt_lt, Int32.le_iff_toInt_le, Int32.reduceToInt, ← Int32.toInt_inj] at h_611
              refine v_iload hC dX11_best_73 rfl ?_
              refine v_iload hC dX11_best_75 rfl ?_
              refine v_icmp_ge hC dX11_best_77 (tgt := 87) (by decide) (fun h_615 => ?_) (fun h_615 => ?_)
              · simp only [Int32.lt_iff_toInt_lt, Int32.le_iff_toInt_le, Int32.reduceToInt, ← Int32.toInt_inj] at h_615
                obtain ⟨v_616, h_617⟩ : ∃ v9 : Int32, i_555 + Int32.ofInt 1 = v9 := ⟨_, rfl⟩
                have h_618 := add_v (b := 1) h_617 (by first | omega | (simp only [Int32.lt_iff_toInt_lt, Int32.le_iff_toInt_le, Int32.reduceToInt, ← Int32.toInt_inj, true_and, and_true, or_true, true_or, false_or, or_false, false_and, and_false, not_true_eq_false, not_false_eq_true] <;> omega)) (by first | omega | (simp only [Int32.lt_iff_toInt_lt, Int32.le_iff_toInt_le, Int32.reduceToInt, ← Int32.toInt_inj, true_and, and_true, or_true, true_or, false_or, or_false, false_and, and_false, not_true_eq_false, not_false_eq_true] <;> omega))
                simp only [Int32.reduceToInt] at h_618
                refine v_iinc hC dX11_best_87 (k := 1) rfl (v := v_616) h_617 (by decide) (lv' := [(5, .int v_616), (6, .int r_601), (4, .int i_556), (3, .int i_557), (0, .ref a_0), (1, .int a_1)]) rfl ?_
                refine v_goto hC dX11_best_90 (tgt := 35) (by decide) ?_
                refine v_pick [0, 2, 3, 4, 5] rfl ?_
                exact ih_567 f_603 hW_605 ((hF_560.tr hF_606).mono rfl) v_616 (by first | omega | (simp only [Int32.lt_iff_toInt_lt, Int32.le_iff_toInt_le, Int32.reduceToInt, ← Int32.toInt_inj, true_and, and_true, or_true, true_or, false_or, or_false, false_and, and_false, not_true_eq_false, not_false_eq_true] <;> omega)) i_556 (by first | omega | (simp only [Int32.lt_iff_toInt_lt, Int32.le_iff_toInt_le, Int32.reduceToInt, ← Int32.toInt_inj, true_and, and_true, or_true, true_or, false_or, or_false, false_and, and_false, not_true_eq_false, not_false_eq_true] <;> omega)) i_557 (by first | omega | (simp only [Int32.lt_iff_toInt_lt, Int32.le_iff_toInt_le, Int32.reduceToInt, ← Int32.toInt_inj, true_and, and_true, or_true, true_or, false_or, or_false, false_and, and_false, not_true_eq_false, not_false_eq_true] <;> omega)) (by first | omega | (simp only [Int32.lt_iff_toInt_lt, Int32.le_iff_toInt_le, Int32.reduceToInt, ← Int32.toInt_inj, true_and, and_true, or_true, true_or, false_or, or_false, false_and, and_false, not_true_eq_false, not_false_eq_true] <;> omega))
              · simp only [Int32.lt_iff_toInt_lt, Int32.le_iff_toInt_le, Int32.reduceToInt, ← Int32.toInt_inj] at h_615
                refine v_iload hC dX11_best_80 rfl ?_
                refine v_istore_n hC dX11_best_82 (by decide) (lv' := [(3, .int i_555), (6, .int r_601), (5, .int i_555), (4, .int i_556), (0, .ref a_0), (1, .int a_1)]) rfl ?_
                refine v_iload hC dX11_best_83 rfl ?_
                refine v_istore hC dX11_best_85 (by decide) (lv' := [(4, .int r_601), (3, .int i_555), (6, .int r_601), (5, .int i_555), (0, .ref a_0), (1, .int a_1)]) rfl ?_
                obtain ⟨v_619, h_620⟩ : ∃ v9 : Int32, i_555 + Int32.ofInt 1 = v9 := ⟨_, rfl⟩
                have h_621 := add_v (b := 1) h_620 (by first | omega | (simp only [Int32.lt_iff_toInt_lt, Int32.le_iff_toInt_le, Int32.reduceToInt, ← Int32.toInt_inj, true_and, and_true, or_true, true_or, false_or, or_false, false_and, and_false, not_true_eq_false, not_false_eq_true] <;> omega)) (by first | omega | (simp only [Int32.lt_iff_toInt_lt, Int32.le_iff_toInt_le, Int32.reduceToInt, ← Int32.toInt_inj, true_and, and_true, or_true, true_or, false_or, or_false, false_and, and_false, not_true_eq_false, not_false_eq_true] <;> omega))
                simp only [Int32.reduceToInt] at h_621
                refine v_iinc hC dX11_best_87 (k := 3) rfl (v := v_619) h_620 (by decide) (lv' := [(5, .int v_619), (4, .int r_601), (3, .int i_555), (6, .int r_601), (0, .ref a_0), (1, .int a_1)]) rfl ?_
                refine v_goto hC dX11_best_90 (tgt := 35) (by decide) ?_
                refine v_pick [0, 1, 2, 4, 5] rfl ?_
                exact ih_567 f_603 hW_605 ((hF_560.tr hF_606).mono rfl) v_619 (by first | omega | (simp only [Int32.lt_iff_toInt_lt, Int32.le_iff_toInt_le, Int32.reduceToInt, ← Int32.toInt_inj, true_and, and_true, or_true, true_or, false_or, or_false, false_and, and_false, not_true_eq_false, not_false_eq_true] <;> omega)) r_601 (by first | omega | (simp only [Int32.lt_iff_toInt_lt, Int32.le_iff_toInt_le, Int32.reduceToInt, ← Int32.toInt_inj, true_and, and_true, or_true, true_or, false_or, or_false, false_and, and_false, not_true_eq_false, not_false_eq_true] <;> omega)) i_555 (by first | omega | (simp only [Int32.lt_iff_toInt_lt, Int32.le_iff_toInt_le, Int32.reduceToInt, ← Int32.toInt_inj, true_and, and_true, or_true, true_or, false_or, or_false, false_and, and_false, not_true_eq_false, not_false_eq_true] <;> omega)) (by first | omega | (simp only [Int32.lt_iff_toInt_lt, Int32.le_iff_toInt_le, Int32.reduceToInt, ← Int32.toInt_inj, true_and, and_true, or_true, true_or, false_or, or_false, false_and, and_false, not_true_eq_false, not_false_eq_true] <;> omega))
      refine v_pick [0, 1, 2, 4, 5] rfl ?_
      exact lp_565 8 f hW FR.rf 0 (by decide) 257 (by decide) (-1) (by decide) (by decide)
    · simp only [Int32.lt_iff_toInt_lt, Int32.le_iff_toInt_le, Int32.reduceToInt, ← Int32.toInt_inj] at h_55
      refine v_bipush hC dX11_best_22 (v := (-5)) (by decide) ?_
      exact hR _ _ _ _ _ _ _ dX11_best_24 rfl (Nat.le_of_ble_eq_true rfl) (Nat.le_of_ble_eq_true rfl) ⟨rfl, hW, FR.rf, (by decide), (.inl (by decide))⟩
  · simp only [Int32.lt_iff_toInt_lt, Int32.le_iff_toInt_le, Int32.reduceToInt, ← Int32.toInt_inj] at h_40
    refine v_iload_n hC dX11_best_10 rfl ?_
    exact hR _ _ _ _ _ _ _ dX11_best_11 rfl (Nat.le_of_ble_eq_true rfl) (Nat.le_of_ble_eq_true rfl) ⟨rfl, hW, FR.rf, (by first | omega | (simp only [Int32.lt_iff_toInt_lt, Int32.le_iff_toInt_le, Int32.reduceToInt, ← Int32.toInt_inj, true_and, and_true, or_true, true_or, false_or, or_false, false_and, and_false, not_true_eq_false, not_false_eq_true] <;> omega)), (by first | omega | (simp only [Int32.lt_iff_toInt_lt, Int32.le_iff_toInt_le, Int32.reduceToInt, ← Int32.toInt_inj, true_and, and_true, or_true, true_or, false_or, or_false, false_and, and_false, not_true_eq_false, not_false_eq_true] <;> omega))⟩
set_option maxRecDepth 100000 in
set_option maxHeartbeats 8000000 in
theorem p_X11_lose {l : Launch} {E : Ez} {L : List Nat} {f : Nat → va_E} {T : Nat → va_E → Prop} {a_0 : Nat} {a_1 : Int32} (hW : WT T L f) (k_0 : isX T L E a_0) : CI l yX11_lose cX11_lose 3 .int 3 0 0 E [.ref a_0, .int a_1] L f (fun r L1 f1 => L = L1 ∧ WT T L f1 ∧ FR [356] f f1 ∧ (¬ r.toInt = 0 ∨ (0 ≤ a_1.toInt ∧ a_1.toInt ≤ 3))) := by
  refine ci_of (by decide) (Nat.le_of_ble_eq_true rfl) (fun z hz hnm hC hR => ?_)
  have hC : Cx z E cX11_lose RX11 3 3 0 0 := hC
  subst hz
  show V z E 3 0 0 L f 0 [(0, .ref a_0), (1, .int a_1)] []
  refine v_aload_n hC dX11_lose_0 rfl ?_
  refine v_iload_n hC dX11_lose_1 rfl ?_
  obtain ⟨m_1, q_3, q_4, q_5, q_6, q_7, q_8, q_9, q_10, q_11, q_12, q_13, q_14, q_15, q_16, t_2, k_17, k_18, k_19, k_20, k_21, k_22, k_23, k_24, k_25, k_26, k_27, k_28, k_29, k_30⟩ := id k_0
  have e_31 : f a_0 = ob 11 [.ref q_3, .ref q_4, .ref q_5, .ref q_6, .ref q_7, .ref q_8, .ref q_9, .ref q_10, .ref q_11, .ref q_12, .ref q_13, .ref q_14, .ref q_15, .ref q_16] := hW.at m_1 t_2
  refine v_vi hC (rest := []) m_1 e_31 rfl mi_X11_refusalOfCloth ms_X11_refusalOfCloth (p_X11_refusalOfCloth hW k_0) mx_X11_refusalOfCloth ml_X11_229 (by decide) rfl (cells1 := 0) (slots1 := 0) (by decide) (by decide) (Nat.le_of_ble_eq_true rfl) (Nat.le_of_ble_eq_true rfl) rfl (Nat.le_of_ble_eq_true rfl) dX11_lose_2 (fun r_32 L_33 f_34 h_35 => ?_)
  obtain ⟨rfl, rfl, b_36, h_37⟩ := h_35
  refine v_istore_n hC dX11_lose_5 (by decide) (lv' := [(2, .int r_32), (0, .ref a_0), (1, .int a_1)]) rfl ?_
  refine v_iload_n hC dX11_lose_6 rfl ?_
  refine v_if_eq hC dX11_lose_7 (tgt := 12) (by decide) (fun h_40 => ?_) (fun h_40 => ?_)
  · simp only [Int32.lt_iff_toInt_lt, Int32.le_iff_toInt_le, Int32.reduceToInt, ← Int32.toInt_inj] at h_40
    refine v_aload_n hC dX11_lose_12 rfl ?_
    refine v_get hC fl_X11_19 m_1 e_31 rfl dX11_lose_13 ?_
    obtain ⟨m_41, q_43, q_44, q_45, q_46, q_47, q_48, t_42, k_49, k_50, k_51, k_52, k_53, k_54⟩ := id k_18
    have e_55 : f q_4 = ob 0 [.ref q_43, .ref q_44, .ref q_45, .ref q_46, .ref q_47, .ref q_48] := hW.at m_41 t_42
    refine v_getN hC fn_X11_168 m_41 e_55 rfl dX11_lose_16 ?_
    refine v_aload_n hC dX11_lose_19 rfl ?_
    refine v_get hC fl_X11_19 m_1 e_31 rfl dX11_lose_20 ?_
    refine v_getN hC fn_X11_190 m_41 e_55 rfl dX11_lose_23 ?_
    refine v_iload_n hC dX11_lose_26 rfl ?_
    obtain ⟨m_56, g_58, t_57, k_59⟩ := id k_54
    have e_60 : f q_48 = aR E 5 4 g_58 := hW.at m_56 t_57
    obtain ⟨q_61, h_62, k_63⟩ := k_59 (a_1 : Int32).toNatClampNeg (clamp_lt (vp_in_iff.mpr (by first | omega | (simp only [Int32.lt_iff_toInt_lt, Int32.le_iff_toInt_le, Int32.reduceToInt, ← Int32.toInt_inj, true_and, and_true, or_true, true_or, false_or, or_false, false_and, and_false, not_true_eq_false, not_false_eq_true] <;> omega))))
    refine v_aald hC m_56 e_60 rfl (vp_in_iff.mpr (by first | omega | (simp only [Int32.lt_iff_toInt_lt, Int32.le_iff_toInt_le, Int32.reduceToInt, ← Int32.toInt_inj, true_and, and_true, or_true, true_or, false_or, or_false, false_and, and_false, not_true_eq_false, not_false_eq_true] <;> omega))) (v := .ref q_61) (by rw [h_62]; rfl) dX11_lose_27 ?_
    refine v_aload_n hC dX11_lose_28 rfl ?_
    refine v_get hC fl_X11_19 m_1 e_31 rfl dX11_lose_29 ?_
    refine v_getN hC fn_X11_116 m_41 e_55 rfl dX11_lose_32 ?_
    obtain ⟨m_64, q_66, q_67, q_68, t_65, k_69, k_70, k_71⟩ := id k_53
    obtain ⟨v_73, e_72, b_74⟩ := hW.at m_64 t_65
    refine v_vv hC (rest := []) m_64 e_72 rfl mi_X3_wear ms_X3_wear (p_X3_wear hW k_53 k_63 k_49) mx_X3_wear ml_X11_290 (by decide) rfl (cells1 := 0) (slots1 := 0) (by decide) (by decide) (Nat.le_of_ble_eq_true rfl) (Nat.le_of_ble_eq_true rfl) rfl (Nat.le_of_ble_eq_true rfl) dX11_lose_35 (fun L_76 f_77 h_78 => ?_)
    obtain ⟨rfl, hW_79, hF_80⟩ := h_78
    have hf_81 := hF_80.at e_31 rfl
    have hf_82 := hF_80.at e_55 rfl
    have hf_83 := hF_80.at e_60 rfl
    have hf_84 := hF_80.at e_72 rfl
    refine v_aload_n hC dX11_lose_38 rfl ?_
    refine v_get hC fl_X11_19 m_1 hf_81 rfl dX11_lose_39 ?_
    refine v_getN hC fn_X11_190 m_41 hf_82 rfl dX11_lose_42 ?_
    refine v_iload_n hC dX11_lose_45 rfl ?_
    obtain ⟨q_85, h_86, k_87⟩ := k_59 (a_1 : Int32).toNatClampNeg (clamp_lt (vp_in_iff.mpr (by first | omega | (simp only [Int32.lt_iff_toInt_lt, Int32.le_iff_toInt_le, Int32.reduceToInt, ← Int32.toInt_inj, true_and, and_true, or_true, true_or, false_or, or_false, false_and, and_false, not_true_eq_false, not_false_eq_true] <;> omega))))
    refine v_aald hC m_56 hf_83 rfl (vp_in_iff.mpr (by first | omega | (simp only [Int32.lt_iff_toInt_lt, Int32.le_iff_toInt_le, Int32.reduceToInt, ← Int32.toInt_inj, true_and, and_true, or_true, true_or, false_or, or_false, false_and, and_false, not_true_eq_false, not_false_eq_true] <;> omega))) (v := .ref q_85) (by rw [h_86]; rfl) dX11_lose_46 ?_
    refine v_aload_n hC dX11_lose_47 rfl ?_
    refine v_get hC fl_X11_19 m_1 hf_81 rfl dX11_lose_48 ?_
    refine v_getN hC fn_X11_116 m_41 hf_82 rfl dX11_lose_51 ?_
    obtain ⟨m_88, q_90, t_89, k_91⟩ := id k_87
    obtain ⟨v_93, e_92, b_94⟩ := hW_79.at m_88 t_89
    refine v_vi hC (rest := []) m_88 e_92 rfl mi_X1_lostPlaces ms_X1_lostPlaces (p_X1_lostPlaces hW_79 k_87 k_49) mx_X1_lostPlaces ml_X11_294 (by decide) rfl (cells1 := 0) (slots1 := 0) (by decide) (by decide) (Nat.le_of_ble_eq_true rfl) (Nat.le_of_ble_eq_true rfl) rfl (Nat.le_of_ble_eq_true rfl) dX11_lose_54 (fun r_95 L_96 f_97 h_98 => ?_)
    obtain ⟨rfl, rfl⟩ := h_98
    exact hR _ _ _ _ _ _ _ dX11_lose_57 rfl (Nat.le_of_ble_eq_true rfl) (Nat.le_of_ble_eq_true rfl) ⟨rfl, hW_79, (hF_80.mono rfl), (.inr (by first | omega | (simp only [Int32.lt_iff_toInt_lt, Int32.le_iff_toInt_le, Int32.reduceToInt, ← Int32.toInt_inj, true_and, and_true, or_true, true_or, false_or, or_false, false_and, and_false, not_true_eq_false, not_false_eq_true] <;> omega)))⟩
  · simp only [Int32.lt_iff_toInt_lt, Int32.le_iff_toInt_le, Int32.reduceToInt, ← Int32.toInt_inj] at h_40
    refine v_iload_n hC dX11_lose_10 rfl ?_
    exact hR _ _ _ _ _ _ _ dX11_lose_11 rfl (Nat.le_of_ble_eq_true rfl) (Nat.le_of_ble_eq_true rfl) ⟨rfl, hW, FR.rf, (by first | omega | (simp only [Int32.lt_iff_toInt_lt, Int32.le_iff_toInt_le, Int32.reduceToInt, ← Int32.toInt_inj, true_and, and_true, or_true, true_or, false_or, or_false, false_and, and_false, not_true_eq_false, not_false_eq_true] <;> omega))⟩
set_option maxRecDepth 100000 in
set_option maxHeartbeats 8000000 in
theorem p_X11_refusalOfCloths {l : Launch} {E : Ez} {L : List Nat} {f : Nat → va_E} {T : Nat → va_E → Prop} {a_0 : Nat} {a_1 : Int32} {a_2 : Int32} (hW : WT T L f) (k_0 : isX T L E a_0) : CI l yX11_refusalOfCloths cX11_refusalOfCloths 3 .int 2 0 0 E [.ref a_0, .int a_1, .int a_2] L f (fun r L1 f1 => L = L1 ∧ f = f1 ∧ ((-6) ≤ r.toInt ∧ r.toInt ≤ 0) ∧ (¬ r.toInt = 0 ∨ (0 ≤ a_1.toInt ∧ a_1.toInt ≤ 3)) ∧ (¬ r.toInt = 0 ∨ (0 ≤ a_2.toInt ∧ a_2.toInt ≤ 3))) := by
  refine ci_of (by decide) (Nat.le_of_ble_eq_true rfl) (fun z hz hnm hC hR => ?_)
  have hC : Cx z E cX11_refusalOfCloths RX11 3 2 0 0 := hC
  subst hz
  show V z E 3 0 0 L f 0 [(0, .ref a_0), (1, .int a_1), (2, .int a_2)] []
  refine v_iload_n hC dX11_refusalOfCloths_0 rfl ?_
  refine v_si hC (rest := []) mt_X11_isCloth (p_X11_isCloth hW) mx_X11_isCloth ml_X11_181 (by decide) rfl (cells1 := 0) (slots1 := 0) (by decide) (by decide) (Nat.le_of_ble_eq_true rfl) (Nat.le_of_ble_eq_true rfl) rfl (Nat.le_of_ble_eq_true rfl) dX11_refusalOfCloths_1 (fun r_1 L_2 f_3 h_4 => ?_)
  obtain ⟨rfl, rfl, b_5, h_6⟩ := h_4
  refine v_if_eq hC dX11_refusalOfCloths_4 (tgt := 14) (by decide) (fun h_9 => ?_) (fun h_9 => ?_)
  · simp only [Int32.lt_iff_toInt_lt, Int32.le_iff_toInt_le, Int32.reduceToInt, ← Int32.toInt_inj] at h_9
    refine v_bipush hC dX11_refusalOfCloths_14 (v := (-2)) (by decide) ?_
    exact hR _ _ _ _ _ _ _ dX11_refusalOfCloths_16 rfl (Nat.le_of_ble_eq_true rfl) (Nat.le_of_ble_eq_true rfl) ⟨rfl, rfl, (by decide), (.inl (by decide)), (.inl (by decide))⟩
  · simp only [Int32.lt_iff_toInt_lt, Int32.le_iff_toInt_le, Int32.reduceToInt, ← Int32.toInt_inj] at h_9
    refine v_iload_n hC dX11_refusalOfCloths_7 rfl ?_
    refine v_si hC (rest := []) mt_X11_isCloth (p_X11_isCloth hW) mx_X11_isCloth ml_X11_181 (by decide) rfl (cells1 := 0) (slots1 := 0) (by decide) (by decide) (Nat.le_of_ble_eq_true rfl) (Nat.le_of_ble_eq_true rfl) rfl (Nat.le_of_ble_eq_true rfl) dX11_refusalOfCloths_8 (fun r_10 L_11 f_12 h_13 => ?_)
    obtain ⟨rfl, rfl, b_14, h_15⟩ := h_13
    refine v_if_ne hC dX11_refusalOfCloths_11 (tgt := 17) (by decide) (fun h_18 => ?_) (fun h_18 => ?_)
    · simp only [Int32.lt_iff_toInt_lt, Int32.le_iff_toInt_le, Int32.reduceToInt, ← Int32.toInt_inj] at h_18
      refine v_aload_n hC dX11_refusalOfCloths_17 rfl ?_
      refine v_iload_n hC dX11_refusalOfCloths_18 rfl ?_
      obtain ⟨m_19, q_21, q_22, q_23, q_24, q_25, q_26, q_27, q_28, q_29, q_30, q_31, q_32, q_33, q_34, t_20, k_35, k_36, k_37, k_38, k_39, k_40, k_41, k_42, k_43, k_44, k_45, k_46, k_47, k_48⟩ := id k_0
      have e_49 : f a_0 = ob 11 [.ref q_21, .ref q_22, .ref q_23, .ref q_24, .ref q_25, .ref q_26, .ref q_27, .ref q_28, .ref q_29, .ref q_30, .ref q_31, .ref q_32, .ref q_33, .ref q_34] := hW.at m_19 t_20
      refine v_vi hC (rest := []) m_19 e_49 rfl mi_X11_hasCloth ms_X11_hasCloth (p_X11_hasCloth hW k_0) mx_X11_hasCloth ml_X11_239 (by decide) rfl (cells1 := 0) (slots1 := 0) (by decide) (by decide) (Nat.le_of_ble_eq_true rfl) (Nat.le_of_ble_eq_true rfl) rfl (Nat.le_of_ble_eq_true rfl) dX11_refusalOfCloths_19 (fun r_50 L_51 f_52 h_53 => ?_)
      obtain ⟨rfl, rfl, b_54, h_55⟩ := h_53
      refine v_if_eq hC dX11_refusalOfCloths_22 (tgt := 37) (by decide) (fun h_58 => ?_) (fun h_58 => ?_)
      · simp only [Int32.lt_iff_toInt_lt, Int32.le_iff_toInt_le, Int32.reduceToInt, ← Int32.toInt_inj] at h_58
        refine v_bipush hC dX11_refusalOfCloths_37 (v := (-6)) (by decide) ?_
        exact hR _ _ _ _ _ _ _ dX11_refusalOfCloths_39 rfl (Nat.le_of_ble_eq_true rfl) (Nat.le_of_ble_eq_true rfl) ⟨rfl, rfl, (by decide), (.inl (by decide)), (.inl (by decide))⟩
      · simp only [Int32.lt_iff_toInt_lt, Int32.le_iff_toInt_le, Int32.reduceToInt, ← Int32.toInt_inj] at h_58
        refine v_aload_n hC dX11_refusalOfCloths_25 rfl ?_
        refine v_iload_n hC dX11_refusalOfCloths_26 rfl ?_
        refine v_vi hC (rest := []) m_19 e_49 rfl mi_X11_hasCloth ms_X11_hasCloth (p_X11_hasCloth hW k_0) mx_X11_hasCloth ml_X11_239 (by decide) rfl (cells1 := 0) (slots1 := 0) (by decide) (by decide) (Nat.le_of_ble_eq_true rfl) (Nat.le_of_ble_eq_true rfl) rfl (Nat.le_of_ble_eq_true rfl) dX11_refusalOfCloths_27 (fun r_59 L_60 f_61 h_62 => ?_)
        obtain ⟨rfl, rfl, b_63, h_64⟩ := h_62
        refine v_if_eq hC dX11_refusalOfCloths_30 (tgt := 37) (by decide) (fun h_67 => ?_) (fun h_67 => ?_)
        · simp only [Int32.lt_iff_toInt_lt, Int32.le_iff_toInt_le, Int32.reduceToInt, ← Int32.toInt_inj] at h_67
          refine v_bipush hC dX11_refusalOfCloths_37 (v := (-6)) (by decide) ?_
          exact hR _ _ _ _ _ _ _ dX11_refusalOfCloths_39 rfl (Nat.le_of_ble_eq_true rfl) (Nat.le_of_ble_eq_true rfl) ⟨rfl, rfl, (by decide), (.inl (by decide)), (.inl (by decide))⟩
        · simp only [Int32.lt_iff_toInt_lt, Int32.le_iff_toInt_le, Int32.reduceToInt, ← Int32.toInt_inj] at h_67
          refine v_iconst hC dX11_refusalOfCloths_33 (v := 0) (by decide) ?_
          refine v_goto hC dX11_refusalOfCloths_34 (tgt := 39) (by decide) ?_
          exact hR _ _ _ _ _ _ _ dX11_refusalOfCloths_39 rfl (Nat.le_of_ble_eq_true rfl) (Nat.le_of_ble_eq_true rfl) ⟨rfl, rfl, (by decide), (.inr (by first | omega | (simp only [Int32.lt_iff_toInt_lt, Int32.le_iff_toInt_le, Int32.reduceToInt, ← Int32.toInt_inj, true_and, and_true, or_true, true_or, false_or, or_false, false_and, and_false, not_true_eq_false, not_false_eq_true] <;> omega))), (.inr (by first | omega | (simp only [Int32.lt_iff_toInt_lt, Int32.le_iff_toInt_le, Int32.reduceToInt, ← Int32.toInt_inj, true_and, and_true, or_true, true_or, false_or, or_false, false_and, and_false, not_true_eq_false, not_false_eq_true] <;> omega)))⟩
    · simp only [Int32.lt_iff_toInt_lt, Int32.le_iff_toInt_le, Int32.reduceToInt, ← Int32.toInt_inj] at h_18
      refine v_bipush hC dX11_refusalOfCloths_14 (v := (-2)) (by decide) ?_
      exact hR _ _ _ _ _ _ _ dX11_refusalOfCloths_16 rfl (Nat.le_of_ble_eq_true rfl) (Nat.le_of_ble_eq_true rfl) ⟨rfl, rfl, (by decide), (.inl (by decide)), (.inl (by decide))⟩
set_option maxRecDepth 100000 in
set_option maxHeartbeats 8000000 in
theorem p_X11_alike {l : Launch} {E : Ez} {L : List Nat} {f : Nat → va_E} {T : Nat → va_E → Prop} {a_0 : Nat} {a_1 : Int32} {a_2 : Int32} (hW : WT T L f) (k_0 : isX T L E a_0) : CI l yX11_alike cX11_alike 8 .int 3 0 0 E [.ref a_0, .int a_1, .int a_2] L f (fun r L1 f1 => L = L1 ∧ f = f1 ∧ (¬ r.toInt = 0 ∨ (0 ≤ a_1.toInt ∧ a_1.toInt ≤ 3)) ∧ (¬ r.toInt = 0 ∨ (0 ≤ a_2.toInt ∧ a_2.toInt ≤ 3))) := by
  refine ci_of (by decide) (Nat.le_of_ble_eq_true rfl) (fun z hz hnm hC hR => ?_)
  have hC : Cx z E cX11_alike RX11 8 3 0 0 := hC
  subst hz
  show V z E 8 0 0 L f 0 [(0, .ref a_0), (1, .int a_1), (2, .int a_2)] []
  refine v_aload_n hC dX11_alike_0 rfl ?_
  refine v_iload_n hC dX11_alike_1 rfl ?_
  refine v_iload_n hC dX11_alike_2 rfl ?_
  obtain ⟨m_1, q_3, q_4, q_5, q_6, q_7, q_8, q_9, q_10, q_11, q_12, q_13, q_14, q_15, q_16, t_2, k_17, k_18, k_19, k_20, k_21, k_22, k_23, k_24, k_25, k_26, k_27, k_28, k_29, k_30⟩ := id k_0
  have e_31 : f a_0 = ob 11 [.ref q_3, .ref q_4, .ref q_5, .ref q_6, .ref q_7, .ref q_8, .ref q_9, .ref q_10, .ref q_11, .ref q_12, .ref q_13, .ref q_14, .ref q_15, .ref q_16] := hW.at m_1 t_2
  refine v_vi hC (rest := []) m_1 e_31 rfl mi_X11_refusalOfCloths ms_X11_refusalOfCloths (p_X11_refusalOfCloths hW k_0) mx_X11_refusalOfCloths ml_X11_298 (by decide) rfl (cells1 := 0) (slots1 := 0) (by decide) (by decide) (Nat.le_of_ble_eq_true rfl) (Nat.le_of_ble_eq_true rfl) rfl (Nat.le_of_ble_eq_true rfl) dX11_alike_3 (fun r_32 L_33 f_34 h_35 => ?_)
  obtain ⟨rfl, rfl, b_36, h_37, h_38⟩ := h_35
  refine v_istore_n hC dX11_alike_6 (by decide) (lv' := [(3, .int r_32), (0, .ref a_0), (1, .int a_1), (2, .int a_2)]) rfl ?_
  refine v_iload_n hC dX11_alike_7 rfl ?_
  refine v_if_eq hC dX11_alike_8 (tgt := 13) (by decide) (fun h_41 => ?_) (fun h_41 => ?_)
  · simp only [Int32.lt_iff_toInt_lt, Int32.le_iff_toInt_le, Int32.reduceToInt, ← Int32.toInt_inj] at h_41
    refine v_iconst hC dX11_alike_13 (v := 0) (by decide) ?_
    refine v_istore hC dX11_alike_14 (by decide) (lv' := [(4, .int 0), (3, .int r_32), (0, .ref a_0), (1, .int a_1), (2, .int a_2)]) rfl ?_
    refine v_iconst hC dX11_alike_16 (v := 0) (by decide) ?_
    refine v_istore hC dX11_alike_17 (by decide) (lv' := [(5, .int 0), (4, .int 0), (3, .int r_32), (0, .ref a_0), (1, .int a_1), (2, .int a_2)]) rfl ?_
    have lp_878 : ∀ (n_879 : Nat) (i_875 : Int32) (b_877 : (0 ≤ i_875.toInt ∧ i_875.toInt ≤ 256)) (i_876 : Int32) (hm_881 : 256 - i_875.toInt < (n_879 : Int)), V z E 8 0 0 L f 19 [(5, .int i_875), (4, .int i_876), (0, .ref a_0), (1, .int a_1), (2, .int a_2)] [] := by
      intro n_879
      induction n_879 with
      | zero =>
        intro i_875 b_877 i_876 hm_881
        exfalso; omega
      | succ n_879 ih_880 =>
        intro i_875 b_877 i_876 hm_881
        refine v_iload hC dX11_alike_19 rfl ?_
        refine v_aload_n hC dX11_alike_21 rfl ?_
        refine v_get hC fl_X11_19 m_1 e_31 rfl dX11_alike_22 ?_
        obtain ⟨m_882, q_884, q_885, q_886, q_887, q_888, q_889, t_883, k_890, k_891, k_892, k_893, k_894, k_895⟩ := id k_18
        have e_896 : f q_4 = ob 0 [.ref q_884, .ref q_885, .ref q_886, .ref q_887, .ref q_888, .ref q_889] := hW.at m_882 t_883
        refine v_getN hC fn_X11_116 m_882 e_896 rfl dX11_alike_25 ?_
        obtain ⟨m_897, q_899, q_900, t_898, k_901, k_902⟩ := id k_890
        obtain ⟨v_904, v_906, v_908, e_903, b_905, b_907, b_909⟩ := hW.at m_897 t_898
        refine v_getN hC fn_X11_126 m_897 e_903 rfl dX11_alike_28 ?_
        refine v_icmp_ge hC dX11_alike_31 (tgt := 98) (by decide) (fun h_910 => ?_) (fun h_910 => ?_)
        · simp only [Int32.lt_iff_toInt_lt, Int32.le_iff_toInt_le, Int32.reduceToInt, ← Int32.toInt_inj] at h_910
          refine v_iload hC dX11_alike_98 rfl ?_
          exact hR _ _ _ _ _ _ _ dX11_alike_100 rfl (Nat.le_of_ble_eq_true rfl) (Nat.le_of_ble_eq_true rfl) ⟨rfl, rfl, (.inr (by first | omega | (simp only [Int32.lt_iff_toInt_lt, Int32.le_iff_toInt_le, Int32.reduceToInt, ← Int32.toInt_inj, true_and, and_true, or_true, true_or, false_or, or_false, false_and, and_false, not_true_eq_false, not_false_eq_true] <;> omega))), (.inr (by first | omega | (simp only [Int32.lt_iff_toInt_lt, Int32.le_iff_toInt_le, Int32.reduceToInt, ← Int32.toInt_inj, true_and, and_true, or_true, true_or, false_or, or_false, false_and, and_false, not_true_eq_false, not_false_eq_true] <;> omega)))⟩
        · simp only [Int32.lt_iff_toInt_lt, Int32.le_iff_toInt_le, Int32.reduceToInt, ← Int32.toInt_inj] at h_910
          refine v_aload_n hC dX11_alike_34 rfl ?_
          refine v_get hC fl_X11_19 m_1 e_31 rfl dX11_alike_35 ?_
          refine v_getN hC fn_X11_116 m_882 e_896 rfl dX11_alike_38 ?_
          refine v_iload hC dX11_alike_41 rfl ?_
          refine v_vi hC (rest := []) m_897 e_903 rfl mi_X4_freePlace ms_X4_freePlace (p_X4_freePlace hW k_890) mx_X4_freePlace ml_X11_301 (by decide) rfl (cells1 := 0) (slots1 := 0) (by decide) (by decide) (Nat.le_of_ble_eq_true rfl) (Nat.le_of_ble_eq_true rfl) rfl (Nat.le_of_ble_eq_true rfl) dX11_alike_43 (fun r_911 L_912 f_913 h_914 => ?_)
          obtain ⟨rfl, rfl, h_915⟩ := h_914
          refine v_istore hC dX11_alike_46 (by decide) (lv' := [(6, .int r_911), (5, .int i_875), (4, .int i_876), (0, .ref a_0), (1, .int a_1), (2, .int a_2)]) rfl ?_
          refine v_aload_n hC dX11_alike_48 rfl ?_
          refine v_get hC fl_X11_19 m_1 e_31 rfl dX11_alike_49 ?_
          refine v_getN hC fn_X11_190 m_882 e_896 rfl dX11_alike_52 ?_
          refine v_iload_n hC dX11_alike_55 rfl ?_
          obtain ⟨m_918, g_920, t_919, k_921⟩ := id k_895
          have e_922 : f q_889 = aR E 5 4 g_920 := hW.at m_918 t_919
          obtain ⟨q_923, h_924, k_925⟩ := k_921 (a_1 : Int32).toNatClampNeg (clamp_lt (vp_in_iff.mpr (by first | omega | (simp only [Int32.lt_iff_toInt_lt, Int32.le_iff_toInt_le, Int32.reduceToInt, ← Int32.toInt_inj, true_and, and_true, or_true, true_or, false_or, or_false, false_and, and_false, not_true_eq_false, not_false_eq_true] <;> omega))))
          refine v_aald hC m_918 e_922 rfl (vp_in_iff.mpr (by first | omega | (simp only [Int32.lt_iff_toInt_lt, Int32.le_iff_toInt_le, Int32.reduceToInt, ← Int32.toInt_inj, true_and, and_true, or_true, true_or, false_or, or_false, false_and, and_false, not_true_eq_false, not_false_eq_true] <;> omega))) (v := .ref q_923) (by rw [h_924]; rfl) dX11_alike_56 ?_
          refine v_iload hC dX11_alike_57 rfl ?_
          obtain ⟨m_926, q_928, t_927, k_929⟩ := id k_925
          obtain ⟨v_931, e_930, b_932⟩ := hW.at m_926 t_927
          refine v_vi hC (rest := []) m_926 e_930 rfl mi_X1_stitchAt ms_X1_stitchAt (p_X1_stitchAt hW k_925) mx_X1_stitchAt ml_X11_242 (by decide) rfl (cells1 := 0) (slots1 := 0) (by decide) (by decide) (Nat.le_of_ble_eq_true rfl) (Nat.le_of_ble_eq_true rfl) rfl (Nat.le_of_ble_eq_true rfl) dX11_alike_59 (fun r_933 L_934 f_935 h_936 => ?_)
          obtain ⟨rfl, rfl, h_937⟩ := h_936
          refine v_istore hC dX11_alike_62 (by decide) (lv' := [(7, .int r_933), (6, .int r_911), (5, .int i_875), (4, .int i_876), (0, .ref a_0), (1, .int a_1), (2, .int a_2)]) rfl ?_
          refine v_iload hC dX11_alike_64 rfl ?_
          refine v_iconst hC dX11_alike_66 (v := 4) (by decide) ?_
          refine v_icmp_eq hC dX11_alike_67 (tgt := 92) (by decide) (fun h_940 => ?_) (fun h_940 => ?_)
          · simp only [Int32.lt_iff_toInt_lt, Int32.le_iff_toInt_le, Int32.reduceToInt, ← Int32.toInt_inj] at h_940
            obtain ⟨v_941, h_942⟩ : ∃ v9 : Int32, i_875 + Int32.ofInt 1 = v9 := ⟨_, rfl⟩
            have h_943 := add_v (b := 1) h_942 (by first | omega | (simp only [Int32.lt_iff_toInt_lt, Int32.le_iff_toInt_le, Int32.reduceToInt, ← Int32.toInt_inj, true_and, and_true, or_true, true_or, false_or, or_false, false_and, and_false, not_true_eq_false, not_false_eq_true] <;> omega)) (by first | omega | (simp only [Int32.lt_iff_toInt_lt, Int32.le_iff_toInt_le, Int32.reduceToInt, ← Int32.toInt_inj, true_and, and_true, or_true, true_or, false_or, or_false, false_and, and_false, not_true_eq_false, not_false_eq_true] <;> omega))
            simp only [Int32.reduceToInt] at h_943
            refine v_iinc hC dX11_alike_92 (k := 2) rfl (v := v_941) h_942 (by decide) (lv' := [(5, .int v_941), (7, .int r_933), (6, .int r_911), (4, .int i_876), (0, .ref a_0), (1, .int a_1), (2, .int a_2)]) rfl ?_
            refine v_goto hC dX11_alike_95 (tgt := 19) (by decide) ?_
            refine v_pick [0, 3, 4, 5, 6] rfl ?_
            exact ih_880 v_941 (by first | omega | (simp only [Int32.lt_iff_toInt_lt, Int32.le_iff_toInt_le, Int32.reduceToInt, ← Int32.toInt_inj, true_and, and_true, or_true, true_or, false_or, or_false, false_and, and_false, not_true_eq_false, not_false_eq_true] <;> omega)) i_876 (by first | omega | (simp only [Int32.lt_iff_toInt_lt, Int32.le_iff_toInt_le, Int32.reduceToInt, ← Int32.toInt_inj, true_and, and_true, or_true, true_or, false_or, or_false, false_and, and_false, not_true_eq_false, not_false_eq_true] <;> omega))
          · simp only [Int32.lt_iff_toInt_lt, Int32.le_iff_toInt_le, Int32.reduceToInt, ← Int32.toInt_inj] at h_940
            refine v_iload hC dX11_alike_70 rfl ?_
            refine v_aload_n hC dX11_alike_72 rfl ?_
            refine v_get hC fl_X11_19 m_1 e_31 rfl dX11_alike_73 ?_
            refine v_getN hC fn_X11_190 m_882 e_896 rfl dX11_alike_76 ?_
            refine v_iload_n hC dX11_alike_79 rfl ?_
            obtain ⟨q_944, h_945, k_946⟩ := k_921 (a_2 : Int32).toNatClampNeg (clamp_lt (vp_in_iff.mpr (by first | omega | (simp only [Int32.lt_iff_toInt_lt, Int32.le_iff_toInt_le, Int32.reduceToInt, ← Int32.toInt_inj, true_and, and_true, or_true, true_or, false_or, or_false, false_and, and_false, not_true_eq_false, not_false_eq_true] <;> omega))))
            refine v_aald hC m_918 e_922 rfl (vp_in_iff.mpr (by first | omega | (simp only [Int32.lt_iff_toInt_lt, Int32.le_iff_toInt_le, Int32.reduceToInt, ← Int32.toInt_inj, true_and, and_true, or_true, true_or, false_or, or_false, false_and, and_false, not_true_eq_false, not_false_eq_true] <;> omega))) (v := .ref q_944) (by rw [h_945]; rfl) dX11_alike_80 ?_
            refine v_iload hC dX11_alike_81 rfl ?_
            obtain ⟨m_947, q_949, t_948, k_950⟩ := id k_946
            obtain ⟨v_952, e_951, b_953⟩ := hW.at m_947 t_948
            refine v_vi hC (rest := [.int r_933]) m_947 e_951 rfl mi_X1_stitchAt ms_X1_stitchAt (p_X1_stitchAt hW k_946) mx_X1_stitchAt ml_X11_242 (by decide) rfl (cells1 := 0) (slots1 := 0) (by decide) (by decide) (Nat.le_of_ble_eq_true rfl) (Nat.le_of_ble_eq_true rfl) rfl (Nat.le_of_ble_eq_true rfl) dX11_alike_83 (fun r_954 L_955 f_956 h_957 => ?_)
            obtain ⟨rfl, rfl, h_958⟩ := h_957
            refine v_icmp_ne hC dX11_alike_86 (tgt := 92) (by decide) (fun h_961 => ?_) (fun h_961 => ?_)
            · simp only [Int32.lt_iff_toInt_lt, Int32.le_iff_toInt_le, Int32.reduceToInt, ← Int32.toInt_inj] at h_961
              obtain ⟨v_962, h_963⟩ : ∃ v9 : Int32, i_875 + Int32.ofInt 1 = v9 := ⟨_, rfl⟩
              have h_964 := add_v (b := 1) h_963 (by first | omega | (simp only [Int32.lt_iff_toInt_lt, Int32.le_iff_toInt_le, Int32.reduceToInt, ← Int32.toInt_inj, true_and, and_true, or_true, true_or, false_or, or_false, false_and, and_false, not_true_eq_false, not_false_eq_true] <;> omega)) (by first | omega | (simp only [Int32.lt_iff_toInt_lt, Int32.le_iff_toInt_le, Int32.reduceToInt, ← Int32.toInt_inj, true_and, and_true, or_true, true_or, false_or, or_false, false_and, and_false, not_true_eq_false, not_false_eq_true] <;> omega))
              simp only [Int32.reduceToInt] at h_964
              refine v_iinc hC dX11_alike_92 (k := 2) rfl (v := v_962) h_963 (by decide) (lv' := [(5, .int v_962), (7, .int r_933), (6, .int r_911), (4, .int i_876), (0, .ref a_0), (1, .int a_1), (2, .int a_2)]) rfl ?_
              refine v_goto hC dX11_alike_95 (tgt := 19) (by decide) ?_
              refine v_pick [0, 3, 4, 5, 6] rfl ?_
              exact ih_880 v_962 (by first | omega | (simp only [Int32.lt_iff_toInt_lt, Int32.le_iff_toInt_le, Int32.reduceToInt, ← Int32.toInt_inj, true_and, and_true, or_true, true_or, false_or, or_false, false_and, and_false, not_true_eq_false, not_false_eq_true] <;> omega)) i_876 (by first | omega | (simp only [Int32.lt_iff_toInt_lt, Int32.le_iff_toInt_le, Int32.reduceToInt, ← Int32.toInt_inj, true_and, and_true, or_true, true_or, false_or, or_false, false_and, and_false, not_true_eq_false, not_false_eq_true] <;> omega))
            · simp only [Int32.lt_iff_toInt_lt, Int32.le_iff_toInt_le, Int32.reduceToInt, ← Int32.toInt_inj] at h_961
              obtain ⟨v_965, h_966⟩ : ∃ v9 : Int32, i_876 + Int32.ofInt 1 = v9 := ⟨_, rfl⟩
              refine v_iinc hC dX11_alike_89 (k := 3) rfl (v := v_965) h_966 (by decide) (lv' := [(4, .int v_965), (7, .int r_933), (6, .int r_911), (5, .int i_875), (0, .ref a_0), (1, .int a_1), (2, .int a_2)]) rfl ?_
              obtain ⟨v_967, h_968⟩ : ∃ v9 : Int32, i_875 + Int32.ofInt 1 = v9 := ⟨_, rfl⟩
              have h_969 := add_v (b := 1) h_968 (by first | omega | (simp only [Int32.lt_iff_toInt_lt, Int32.le_iff_toInt_le, Int32.reduceToInt, ← Int32.toInt_inj, true_and, and_true, or_true, true_or, false_or, or_false, false_and, and_false, not_true_eq_false, not_false_eq_true] <;> omega)) (by first | omega | (simp only [Int32.lt_iff_toInt_lt, Int32.le_iff_toInt_le, Int32.reduceToInt, ← Int32.toInt_inj, true_and, and_true, or_true, true_or, false_or, or_false, false_and, and_false, not_true_eq_false, not_false_eq_true] <;> omega))
              simp only [Int32.reduceToInt] at h_969
              refine v_iinc hC dX11_alike_92 (k := 3) rfl (v := v_967) h_968 (by decide) (lv' := [(5, .int v_967), (4, .int v_965), (7, .int r_933), (6, .int r_911), (0, .ref a_0), (1, .int a_1), (2, .int a_2)]) rfl ?_
              refine v_goto hC dX11_alike_95 (tgt := 19) (by decide) ?_
              refine v_pick [0, 1, 4, 5, 6] rfl ?_
              exact ih_880 v_967 (by first | omega | (simp only [Int32.lt_iff_toInt_lt, Int32.le_iff_toInt_le, Int32.reduceToInt, ← Int32.toInt_inj, true_and, and_true, or_true, true_or, false_or, or_false, false_and, and_false, not_true_eq_false, not_false_eq_true] <;> omega)) v_965 (by first | omega | (simp only [Int32.lt_iff_toInt_lt, Int32.le_iff_toInt_le, Int32.reduceToInt, ← Int32.toInt_inj, true_and, and_true, or_true, true_or, false_or, or_false, false_and, and_false, not_true_eq_false, not_false_eq_true] <;> omega))
    refine v_pick [0, 1, 3, 4, 5] rfl ?_
    exact lp_878 258 0 (by decide) 0 (by decide)
  · simp only [Int32.lt_iff_toInt_lt, Int32.le_iff_toInt_le, Int32.reduceToInt, ← Int32.toInt_inj] at h_41
    refine v_iload_n hC dX11_alike_11 rfl ?_
    exact hR _ _ _ _ _ _ _ dX11_alike_12 rfl (Nat.le_of_ble_eq_true rfl) (Nat.le_of_ble_eq_true rfl) ⟨rfl, rfl, (by first | omega | (simp only [Int32.lt_iff_toInt_lt, Int32.le_iff_toInt_le, Int32.reduceToInt, ← Int32.toInt_inj, true_and, and_true, or_true, true_or, false_or, or_false, false_and, and_false, not_true_eq_false, not_false_eq_true] <;> omega)), (by first | omega | (simp only [Int32.lt_iff_toInt_lt, Int32.le_iff_toInt_le, Int32.reduceToInt, ← Int32.toInt_inj, true_and, and_true, or_true, true_or, false_or, or_false, false_and, and_false, not_true_eq_false, not_false_eq_true] <;> omega))⟩
set_option maxRecDepth 100000 in
set_option maxHeartbeats 8000000 in
theorem p_X11_same {l : Launch} {E : Ez} {L : List Nat} {f : Nat → va_E} {T : Nat → va_E → Prop} {a_0 : Nat} {a_1 : Int32} {a_2 : Int32} {a_3 : Int32} (hW : WT T L f) (k_0 : isX T L E a_0) : CI l yX11_same cX11_same 7 .int 3 0 0 E [.ref a_0, .int a_1, .int a_2, .int a_3] L f (fun r L1 f1 => L = L1 ∧ WT T L f1 ∧ FR [8, 356] f f1 ∧ (¬ r.toInt = 0 ∨ (0 ≤ a_1.toInt ∧ a_1.toInt ≤ 3)) ∧ (¬ r.toInt = 0 ∨ (0 ≤ a_2.toInt ∧ a_2.toInt ≤ 3)) ∧ (¬ r.toInt = 0 ∨ (0 ≤ a_3.toInt ∧ a_3.toInt ≤ 5))) := by
  refine ci_of (by decide) (Nat.le_of_ble_eq_true rfl) (fun z hz hnm hC hR => ?_)
  have hC : Cx z E cX11_same RX11 7 3 0 0 := hC
  subst hz
  show V z E 7 0 0 L f 0 [(0, .ref a_0), (1, .int a_1), (2, .int a_2), (3, .int a_3)] []
  refine v_iload_n hC dX11_same_0 rfl ?_
  refine v_si hC (rest := []) mt_X11_isCloth (p_X11_isCloth hW) mx_X11_isCloth ml_X11_181 (by decide) rfl (cells1 := 0) (slots1 := 0) (by decide) (by decide) (Nat.le_of_ble_eq_true rfl) (Nat.le_of_ble_eq_true rfl) rfl (Nat.le_of_ble_eq_true rfl) dX11_same_1 (fun r_1 L_2 f_3 h_4 => ?_)
  obtain ⟨rfl, rfl, b_5, h_6⟩ := h_4
  refine v_if_eq hC dX11_same_4 (tgt := 21) (by decide) (fun h_9 => ?_) (fun h_9 => ?_)
  · simp only [Int32.lt_iff_toInt_lt, Int32.le_iff_toInt_le, Int32.reduceToInt, ← Int32.toInt_inj] at h_9
    refine v_bipush hC dX11_same_21 (v := (-2)) (by decide) ?_
    exact hR _ _ _ _ _ _ _ dX11_same_23 rfl (Nat.le_of_ble_eq_true rfl) (Nat.le_of_ble_eq_true rfl) ⟨rfl, hW, FR.rf, (.inl (by decide)), (.inl (by decide)), (.inl (by decide))⟩
  · simp only [Int32.lt_iff_toInt_lt, Int32.le_iff_toInt_le, Int32.reduceToInt, ← Int32.toInt_inj] at h_9
    refine v_iload_n hC dX11_same_7 rfl ?_
    refine v_si hC (rest := []) mt_X11_isCloth (p_X11_isCloth hW) mx_X11_isCloth ml_X11_181 (by decide) rfl (cells1 := 0) (slots1 := 0) (by decide) (by decide) (Nat.le_of_ble_eq_true rfl) (Nat.le_of_ble_eq_true rfl) rfl (Nat.le_of_ble_eq_true rfl) dX11_same_8 (fun r_10 L_11 f_12 h_13 => ?_)
    obtain ⟨rfl, rfl, b_14, h_15⟩ := h_13
    refine v_if_eq hC dX11_same_11 (tgt := 21) (by decide) (fun h_18 => ?_) (fun h_18 => ?_)
    · simp only [Int32.lt_iff_toInt_lt, Int32.le_iff_toInt_le, Int32.reduceToInt, ← Int32.toInt_inj] at h_18
      refine v_bipush hC dX11_same_21 (v := (-2)) (by decide) ?_
      exact hR _ _ _ _ _ _ _ dX11_same_23 rfl (Nat.le_of_ble_eq_true rfl) (Nat.le_of_ble_eq_true rfl) ⟨rfl, hW, FR.rf, (.inl (by decide)), (.inl (by decide)), (.inl (by decide))⟩
    · simp only [Int32.lt_iff_toInt_lt, Int32.le_iff_toInt_le, Int32.reduceToInt, ← Int32.toInt_inj] at h_18
      refine v_iload_n hC dX11_same_14 rfl ?_
      refine v_si hC (rest := []) mt_X11_isWay (p_X11_isWay hW) mx_X11_isWay ml_X11_142 (by decide) rfl (cells1 := 0) (slots1 := 0) (by decide) (by decide) (Nat.le_of_ble_eq_true rfl) (Nat.le_of_ble_eq_true rfl) rfl (Nat.le_of_ble_eq_true rfl) dX11_same_15 (fun r_19 L_20 f_21 h_22 => ?_)
      obtain ⟨rfl, rfl, b_23, h_24⟩ := h_22
      refine v_if_ne hC dX11_same_18 (tgt := 24) (by decide) (fun h_27 => ?_) (fun h_27 => ?_)
      · simp only [Int32.lt_iff_toInt_lt, Int32.le_iff_toInt_le, Int32.reduceToInt, ← Int32.toInt_inj] at h_27
        refine v_aload_n hC dX11_same_24 rfl ?_
        refine v_iload_n hC dX11_same_25 rfl ?_
        obtain ⟨m_28, q_30, q_31, q_32, q_33, q_34, q_35, q_36, q_37, q_38, q_39, q_40, q_41, q_42, q_43, t_29, k_44, k_45, k_46, k_47, k_48, k_49, k_50, k_51, k_52, k_53, k_54, k_55, k_56, k_57⟩ := id k_0
        have e_58 : f a_0 = ob 11 [.ref q_30, .ref q_31, .ref q_32, .ref q_33, .ref q_34, .ref q_35, .ref q_36, .ref q_37, .ref q_38, .ref q_39, .ref q_40, .ref q_41, .ref q_42, .ref q_43] := hW.at m_28 t_29
        refine v_vi hC (rest := []) m_28 e_58 rfl mi_X11_hasCloth ms_X11_hasCloth (p_X11_hasCloth hW k_0) mx_X11_hasCloth ml_X11_239 (by decide) rfl (cells1 := 0) (slots1 := 0) (by decide) (by decide) (Nat.le_of_ble_eq_true rfl) (Nat.le_of_ble_eq_true rfl) rfl (Nat.le_of_ble_eq_true rfl) dX11_same_26 (fun r_59 L_60 f_61 h_62 => ?_)
        obtain ⟨rfl, rfl, b_63, h_64⟩ := h_62
        refine v_if_eq hC dX11_same_29 (tgt := 55) (by decide) (fun h_67 => ?_) (fun h_67 => ?_)
        · simp only [Int32.lt_iff_toInt_lt, Int32.le_iff_toInt_le, Int32.reduceToInt, ← Int32.toInt_inj] at h_67
          refine v_bipush hC dX11_same_55 (v := (-6)) (by decide) ?_
          exact hR _ _ _ _ _ _ _ dX11_same_57 rfl (Nat.le_of_ble_eq_true rfl) (Nat.le_of_ble_eq_true rfl) ⟨rfl, hW, FR.rf, (.inl (by decide)), (.inl (by decide)), (.inl (by decide))⟩
        · simp only [Int32.lt_iff_toInt_lt, Int32.le_iff_toInt_le, Int32.reduceToInt, ← Int32.toInt_inj] at h_67
          refine v_aload_n hC dX11_same_32 rfl ?_
          refine v_iload_n hC dX11_same_33 rfl ?_
          refine v_vi hC (rest := []) m_28 e_58 rfl mi_X11_hasCloth ms_X11_hasCloth (p_X11_hasCloth hW k_0) mx_X11_hasCloth ml_X11_239 (by decide) rfl (cells1 := 0) (slots1 := 0) (by decide) (by decide) (Nat.le_of_ble_eq_true rfl) (Nat.le_of_ble_eq_true rfl) rfl (Nat.le_of_ble_eq_true rfl) dX11_same_34 (fun r_68 L_69 f_70 h_71 => ?_)
          obtain ⟨rfl, rfl, b_72, h_73⟩ := h_71
          refine v_if_eq hC dX11_same_37 (tgt := 55) (by decide) (fun h_76 => ?_) (fun h_76 => ?_)
          · simp only [Int32.lt_iff_toInt_lt, Int32.le_iff_toInt_le, Int32.reduceToInt, ← Int32.toInt_inj] at h_76
            refine v_bipush hC dX11_same_55 (v := (-6)) (by decide) ?_
            exact hR _ _ _ _ _ _ _ dX11_same_57 rfl (Nat.le_of_ble_eq_true rfl) (Nat.le_of_ble_eq_true rfl) ⟨rfl, hW, FR.rf, (.inl (by decide)), (.inl (by decide)), (.inl (by decide))⟩
          · simp only [Int32.lt_iff_toInt_lt, Int32.le_iff_toInt_le, Int32.reduceToInt, ← Int32.toInt_inj] at h_76
            refine v_aload_n hC dX11_same_40 rfl ?_
            refine v_get hC fl_X11_19 m_28 e_58 rfl dX11_same_41 ?_
            obtain ⟨m_77, q_79, q_80, q_81, q_82, q_83, q_84, t_78, k_85, k_86, k_87, k_88, k_89, k_90⟩ := id k_45
            have e_91 : f q_31 = ob 0 [.ref q_79, .ref q_80, .ref q_81, .ref q_82, .ref q_83, .ref q_84] := hW.at m_77 t_78
            refine v_getN hC fn_X11_146 m_77 e_91 rfl dX11_same_44 ?_
            refine v_iload_n hC dX11_same_47 rfl ?_
            obtain ⟨m_92, g_94, t_93, k_95⟩ := id k_87
            have e_96 : f q_81 = aR E 7 6 g_94 := hW.at m_92 t_93
            obtain ⟨q_97, h_98, k_99⟩ := k_95 (a_3 : Int32).toNatClampNeg (clamp_lt (vp_in_iff.mpr (by first | omega | (simp only [Int32.lt_iff_toInt_lt, Int32.le_iff_toInt_le, Int32.reduceToInt, ← Int32.toInt_inj, true_and, and_true, or_true, true_or, false_or, or_false, false_and, and_false, not_true_eq_false, not_false_eq_true] <;> omega))))
            refine v_aald hC m_92 e_96 rfl (vp_in_iff.mpr (by first | omega | (simp only [Int32.lt_iff_toInt_lt, Int32.le_iff_toInt_le, Int32.reduceToInt, ← Int32.toInt_inj, true_and, and_true, or_true, true_or, false_or, or_false, false_and, and_false, not_true_eq_false, not_false_eq_true] <;> omega))) (v := .ref q_97) (by rw [h_98]; rfl) dX11_same_48 ?_
            obtain ⟨m_100, t_101⟩ := id k_99
            obtain ⟨v_103, v_105, v_106, v_107, v_109, v_111, v_113, e_102, b_104, b_108, b_110, b_112, b_114⟩ := hW.at m_100 t_101
            refine v_getN hC fn_X11_232 m_100 e_102 rfl dX11_same_49 ?_
            refine v_if_ne hC dX11_same_52 (tgt := 58) (by decide) (fun h_115 => ?_) (fun h_115 => ?_)
            · simp only [Int32.lt_iff_toInt_lt, Int32.le_iff_toInt_le, Int32.reduceToInt, ← Int32.toInt_inj] at h_115
              refine v_aload_n hC dX11_same_58 rfl ?_
              refine v_get hC fl_X11_78 m_28 e_58 rfl dX11_same_59 ?_
              refine v_aload_n hC dX11_same_62 rfl ?_
              refine v_get hC fl_X11_19 m_28 e_58 rfl dX11_same_63 ?_
              refine v_getN hC fn_X11_146 m_77 e_91 rfl dX11_same_66 ?_
              refine v_iload_n hC dX11_same_69 rfl ?_
              obtain ⟨q_116, h_117, k_118⟩ := k_95 (a_3 : Int32).toNatClampNeg (clamp_lt (vp_in_iff.mpr (by first | omega | (simp only [Int32.lt_iff_toInt_lt, Int32.le_iff_toInt_le, Int32.reduceToInt, ← Int32.toInt_inj, true_and, and_true, or_true, true_or, false_or, or_false, false_and, and_false, not_true_eq_false, not_false_eq_true] <;> omega))))
              refine v_aald hC m_92 e_96 rfl (vp_in_iff.mpr (by first | omega | (simp only [Int32.lt_iff_toInt_lt, Int32.le_iff_toInt_le, Int32.reduceToInt, ← Int32.toInt_inj, true_and, and_true, or_true, true_or, false_or, or_false, false_and, and_false, not_true_eq_false, not_false_eq_true] <;> omega))) (v := .ref q_116) (by rw [h_117]; rfl) dX11_same_70 ?_
              refine v_aload_n hC dX11_same_71 rfl ?_
              refine v_get hC fl_X11_19 m_28 e_58 rfl dX11_same_72 ?_
              refine v_getN hC fn_X11_116 m_77 e_91 rfl dX11_same_75 ?_
              obtain ⟨m_119, q_121, t_120, k_122⟩ := id k_55
              obtain ⟨v_124, v_126, v_128, v_130, e_123, b_125, b_127, b_129, b_131⟩ := hW.at m_119 t_120
              refine v_vv hC (rest := []) m_119 e_123 rfl mi_X8_follow ms_X8_follow (p_X8_follow hW k_55 k_118 k_85) mx_X8_follow ml_X11_218 (by decide) rfl (cells1 := 0) (slots1 := 0) (by decide) (by decide) (Nat.le_of_ble_eq_true rfl) (Nat.le_of_ble_eq_true rfl) rfl (Nat.le_of_ble_eq_true rfl) dX11_same_78 (fun L_133 f_134 h_135 => ?_)
              obtain ⟨rfl, hW_136, hF_137⟩ := h_135
              have hf_138 := hF_137.at e_58 rfl
              have hf_139 := hF_137.at e_91 rfl
              have hf_140 := hF_137.at e_96 rfl
              have hf_141 := hF_137.at e_102 rfl
              refine v_iconst hC dX11_same_81 (v := 0) (by decide) ?_
              refine v_istore hC dX11_same_82 (by decide) (lv' := [(4, .int 0), (0, .ref a_0), (1, .int a_1), (2, .int a_2), (3, .int a_3)]) rfl ?_
              refine v_iconst hC dX11_same_84 (v := 0) (by decide) ?_
              refine v_istore hC dX11_same_85 (by decide) (lv' := [(5, .int 0), (4, .int 0), (0, .ref a_0), (1, .int a_1), (2, .int a_2), (3, .int a_3)]) rfl ?_
              have lp_621 : ∀ (n_622 : Nat) (i_618 : Int32) (b_620 : (0 ≤ i_618.toInt ∧ i_618.toInt ≤ 256)) (i_619 : Int32) (hm_624 : 256 - i_618.toInt < (n_622 : Int)), V z E 7 0 0 L f_134 87 [(5, .int i_618), (4, .int i_619), (0, .ref a_0), (1, .int a_1), (2, .int a_2)] [] := by
                intro n_622
                induction n_622 with
                | zero =>
                  intro i_618 b_620 i_619 hm_624
                  exfalso; omega
                | succ n_622 ih_623 =>
                  intro i_618 b_620 i_619 hm_624
                  refine v_iload hC dX11_same_87 rfl ?_
                  refine v_aload_n hC dX11_same_89 rfl ?_
                  refine v_get hC fl_X11_78 m_28 hf_138 rfl dX11_same_90 ?_
                  obtain ⟨v_626, v_628, v_630, v_632, e_625, b_627, b_629, b_631, b_633⟩ := hW_136.at m_119 t_120
                  refine v_getN hC fn_X11_222 m_119 e_625 rfl dX11_same_93 ?_
                  refine v_icmp_ge hC dX11_same_96 (tgt := 157) (by decide) (fun h_634 => ?_) (fun h_634 => ?_)
                  · simp only [Int32.lt_iff_toInt_lt, Int32.le_iff_toInt_le, Int32.reduceToInt, ← Int32.toInt_inj] at h_634
                    refine v_iload hC dX11_same_157 rfl ?_
                    exact hR _ _ _ _ _ _ _ dX11_same_159 rfl (Nat.le_of_ble_eq_true rfl) (Nat.le_of_ble_eq_true rfl) ⟨rfl, hW_136, (hF_137.mono rfl), (.inr (by first | omega | (simp only [Int32.lt_iff_toInt_lt, Int32.le_iff_toInt_le, Int32.reduceToInt, ← Int32.toInt_inj, true_and, and_true, or_true, true_or, false_or, or_false, false_and, and_false, not_true_eq_false, not_false_eq_true] <;> omega))), (.inr (by first | omega | (simp only [Int32.lt_iff_toInt_lt, Int32.le_iff_toInt_le, Int32.reduceToInt, ← Int32.toInt_inj, true_and, and_true, or_true, true_or, false_or, or_false, false_and, and_false, not_true_eq_false, not_false_eq_true] <;> omega))), (.inr (by first | omega | (simp only [Int32.lt_iff_toInt_lt, Int32.le_iff_toInt_le, Int32.reduceToInt, ← Int32.toInt_inj, true_and, and_true, or_true, true_or, false_or, or_false, false_and, and_false, not_true_eq_false, not_false_eq_true] <;> omega)))⟩
                  · simp only [Int32.lt_iff_toInt_lt, Int32.le_iff_toInt_le, Int32.reduceToInt, ← Int32.toInt_inj] at h_634
                    refine v_aload_n hC dX11_same_99 rfl ?_
                    refine v_get hC fl_X11_78 m_28 hf_138 rfl dX11_same_100 ?_
                    refine v_aload_n hC dX11_same_103 rfl ?_
                    refine v_get hC fl_X11_19 m_28 hf_138 rfl dX11_same_104 ?_
                    refine v_getN hC fn_X11_190 m_77 hf_139 rfl dX11_same_107 ?_
                    refine v_iload_n hC dX11_same_110 rfl ?_
                    obtain ⟨m_635, g_637, t_636, k_638⟩ := id k_90
                    have e_639 : f_134 q_84 = aR E 5 4 g_637 := hW_136.at m_635 t_636
                    obtain ⟨q_640, h_641, k_642⟩ := k_638 (a_1 : Int32).toNatClampNeg (clamp_lt (vp_in_iff.mpr (by first | omega | (simp only [Int32.lt_iff_toInt_lt, Int32.le_iff_toInt_le, Int32.reduceToInt, ← Int32.toInt_inj, true_and, and_true, or_true, true_or, false_or, or_false, false_and, and_false, not_true_eq_false, not_false_eq_true] <;> omega))))
                    refine v_aald hC m_635 e_639 rfl (vp_in_iff.mpr (by first | omega | (simp only [Int32.lt_iff_toInt_lt, Int32.le_iff_toInt_le, Int32.reduceToInt, ← Int32.toInt_inj, true_and, and_true, or_true, true_or, false_or, or_false, false_and, and_false, not_true_eq_false, not_false_eq_true] <;> omega))) (v := .ref q_640) (by rw [h_641]; rfl) dX11_same_111 ?_
                    refine v_iload hC dX11_same_112 rfl ?_
                    refine v_vi hC (rest := []) m_119 e_625 rfl mi_X8_bitTells ms_X8_bitTells (p_X8_bitTells hW_136 k_55 k_642) mx_X8_bitTells ml_X11_225 (by decide) rfl (cells1 := 0) (slots1 := 0) (by decide) (by decide) (Nat.le_of_ble_eq_true rfl) (Nat.le_of_ble_eq_true rfl) rfl (Nat.le_of_ble_eq_true rfl) dX11_same_114 (fun r_643 L_644 f_645 h_646 => ?_)
                    obtain ⟨rfl, rfl, b_647⟩ := h_646
                    refine v_istore hC dX11_same_117 (by decide) (lv' := [(6, .int r_643), (5, .int i_618), (4, .int i_619), (0, .ref a_0), (1, .int a_1), (2, .int a_2)]) rfl ?_
                    refine v_iload hC dX11_same_119 rfl ?_
                    refine v_iconst hC dX11_same_121 (v := 2) (by decide) ?_
                    refine v_icmp_eq hC dX11_same_122 (tgt := 151) (by decide) (fun h_650 => ?_) (fun h_650 => ?_)
                    · simp only [Int32.lt_iff_toInt_lt, Int32.le_iff_toInt_le, Int32.reduceToInt, ← Int32.toInt_inj] at h_650
                      obtain ⟨v_651, h_652⟩ : ∃ v9 : Int32, i_618 + Int32.ofInt 1 = v9 := ⟨_, rfl⟩
                      have h_653 := add_v (b := 1) h_652 (by first | omega | (simp only [Int32.lt_iff_toInt_lt, Int32.le_iff_toInt_le, Int32.reduceToInt, ← Int32.toInt_inj, true_and, and_true, or_true, true_or, false_or, or_false, false_and, and_false, not_true_eq_false, not_false_eq_true] <;> omega)) (by first | omega | (simp only [Int32.lt_iff_toInt_lt, Int32.le_iff_toInt_le, Int32.reduceToInt, ← Int32.toInt_inj, true_and, and_true, or_true, true_or, false_or, or_false, false_and, and_false, not_true_eq_false, not_false_eq_true] <;> omega))
                      simp only [Int32.reduceToInt] at h_653
                      refine v_iinc hC dX11_same_151 (k := 1) rfl (v := v_651) h_652 (by decide) (lv' := [(5, .int v_651), (6, .int r_643), (4, .int i_619), (0, .ref a_0), (1, .int a_1), (2, .int a_2)]) rfl ?_
                      refine v_goto hC dX11_same_154 (tgt := 87) (by decide) ?_
                      refine v_pick [0, 2, 3, 4, 5] rfl ?_
                      exact ih_623 v_651 (by first | omega | (simp only [Int32.lt_iff_toInt_lt, Int32.le_iff_toInt_le, Int32.reduceToInt, ← Int32.toInt_inj, true_and, and_true, or_true, true_or, false_or, or_false, false_and, and_false, not_true_eq_false, not_false_eq_true] <;> omega)) i_619 (by first | omega | (simp only [Int32.lt_iff_toInt_lt, Int32.le_iff_toInt_le, Int32.reduceToInt, ← Int32.toInt_inj, true_and, and_true, or_true, true_or, false_or, or_false, false_and, and_false, not_true_eq_false, not_false_eq_true] <;> omega))
                    · simp only [Int32.lt_iff_toInt_lt, Int32.le_iff_toInt_le, Int32.reduceToInt, ← Int32.toInt_inj] at h_650
                      refine v_iload hC dX11_same_125 rfl ?_
                      refine v_aload_n hC dX11_same_127 rfl ?_
                      refine v_get hC fl_X11_78 m_28 hf_138 rfl dX11_same_128 ?_
                      refine v_aload_n hC dX11_same_131 rfl ?_
                      refine v_get hC fl_X11_19 m_28 hf_138 rfl dX11_same_132 ?_
                      refine v_getN hC fn_X11_190 m_77 hf_139 rfl dX11_same_135 ?_
                      refine v_iload_n hC dX11_same_138 rfl ?_
                      obtain ⟨q_654, h_655, k_656⟩ := k_638 (a_2 : Int32).toNatClampNeg (clamp_lt (vp_in_iff.mpr (by first | omega | (simp only [Int32.lt_iff_toInt_lt, Int32.le_iff_toInt_le, Int32.reduceToInt, ← Int32.toInt_inj, true_and, and_true, or_true, true_or, false_or, or_false, false_and, and_false, not_true_eq_false, not_false_eq_true] <;> omega))))
                      refine v_aald hC m_635 e_639 rfl (vp_in_iff.mpr (by first | omega | (simp only [Int32.lt_iff_toInt_lt, Int32.le_iff_toInt_le, Int32.reduceToInt, ← Int32.toInt_inj, true_and, and_true, or_true, true_or, false_or, or_false, false_and, and_false, not_true_eq_false, not_false_eq_true] <;> omega))) (v := .ref q_654) (by rw [h_655]; rfl) dX11_same_139 ?_
                      refine v_iload hC dX11_same_140 rfl ?_
                      refine v_vi hC (rest := [.int r_643]) m_119 e_625 rfl mi_X8_bitTells ms_X8_bitTells (p_X8_bitTells hW_136 k_55 k_656) mx_X8_bitTells ml_X11_225 (by decide) rfl (cells1 := 0) (slots1 := 0) (by decide) (by decide) (Nat.le_of_ble_eq_true rfl) (Nat.le_of_ble_eq_true rfl) rfl (Nat.le_of_ble_eq_true rfl) dX11_same_142 (fun r_657 L_658 f_659 h_660 => ?_)
                      obtain ⟨rfl, rfl, b_661⟩ := h_660
                      refine v_icmp_ne hC dX11_same_145 (tgt := 151) (by decide) (fun h_664 => ?_) (fun h_664 => ?_)
                      · simp only [Int32.lt_iff_toInt_lt, Int32.le_iff_toInt_le, Int32.reduceToInt, ← Int32.toInt_inj] at h_664
                        obtain ⟨v_665, h_666⟩ : ∃ v9 : Int32, i_618 + Int32.ofInt 1 = v9 := ⟨_, rfl⟩
                        have h_667 := add_v (b := 1) h_666 (by first | omega | (simp only [Int32.lt_iff_toInt_lt, Int32.le_iff_toInt_le, Int32.reduceToInt, ← Int32.toInt_inj, true_and, and_true, or_true, true_or, false_or, or_false, false_and, and_false, not_true_eq_false, not_false_eq_true] <;> omega)) (by first | omega | (simp only [Int32.lt_iff_toInt_lt, Int32.le_iff_toInt_le, Int32.reduceToInt, ← Int32.toInt_inj, true_and, and_true, or_true, true_or, false_or, or_false, false_and, and_false, not_true_eq_false, not_false_eq_true] <;> omega))
                        simp only [Int32.reduceToInt] at h_667
                        refine v_iinc hC dX11_same_151 (k := 1) rfl (v := v_665) h_666 (by decide) (lv' := [(5, .int v_665), (6, .int r_643), (4, .int i_619), (0, .ref a_0), (1, .int a_1), (2, .int a_2)]) rfl ?_
                        refine v_goto hC dX11_same_154 (tgt := 87) (by decide) ?_
                        refine v_pick [0, 2, 3, 4, 5] rfl ?_
                        exact ih_623 v_665 (by first | omega | (simp only [Int32.lt_iff_toInt_lt, Int32.le_iff_toInt_le, Int32.reduceToInt, ← Int32.toInt_inj, true_and, and_true, or_true, true_or, false_or, or_false, false_and, and_false, not_true_eq_false, not_false_eq_true] <;> omega)) i_619 (by first | omega | (simp only [Int32.lt_iff_toInt_lt, Int32.le_iff_toInt_le, Int32.reduceToInt, ← Int32.toInt_inj, true_and, and_true, or_true, true_or, false_or, or_false, false_and, and_false, not_true_eq_false, not_false_eq_true] <;> omega))
                      · simp only [Int32.lt_iff_toInt_lt, Int32.le_iff_toInt_le, Int32.reduceToInt, ← Int32.toInt_inj] at h_664
                        obtain ⟨v_668, h_669⟩ : ∃ v9 : Int32, i_619 + Int32.ofInt 1 = v9 := ⟨_, rfl⟩
                        refine v_iinc hC dX11_same_148 (k := 2) rfl (v := v_668) h_669 (by decide) (lv' := [(4, .int v_668), (6, .int r_643), (5, .int i_618), (0, .ref a_0), (1, .int a_1), (2, .int a_2)]) rfl ?_
                        obtain ⟨v_670, h_671⟩ : ∃ v9 : Int32, i_618 + Int32.ofInt 1 = v9 := ⟨_, rfl⟩
                        have h_672 := add_v (b := 1) h_671 (by first | omega | (simp only [Int32.lt_iff_toInt_lt, Int32.le_iff_toInt_le, Int32.reduceToInt, ← Int32.toInt_inj, true_and, and_true, or_true, true_or, false_or, or_false, false_and, and_false, not_true_eq_false, not_false_eq_true] <;> omega)) (by first | omega | (simp only [Int32.lt_iff_toInt_lt, Int32.le_iff_toInt_le, Int32.reduceToInt, ← Int32.toInt_inj, true_and, and_true, or_true, true_or, false_or, or_false, false_and, and_false, not_true_eq_false, not_false_eq_true] <;> omega))
                        simp only [Int32.reduceToInt] at h_672
                        refine v_iinc hC dX11_same_151 (k := 2) rfl (v := v_670) h_671 (by decide) (lv' := [(5, .int v_670), (4, .int v_668), (6, .int r_643), (0, .ref a_0), (1, .int a_1), (2, .int a_2)]) rfl ?_
                        refine v_goto hC dX11_same_154 (tgt := 87) (by decide) ?_
                        refine v_pick [0, 1, 3, 4, 5] rfl ?_
                        exact ih_623 v_670 (by first | omega | (simp only [Int32.lt_iff_toInt_lt, Int32.le_iff_toInt_le, Int32.reduceToInt, ← Int32.toInt_inj, true_and, and_true, or_true, true_or, false_or, or_false, false_and, and_false, not_true_eq_false, not_false_eq_true] <;> omega)) v_668 (by first | omega | (simp only [Int32.lt_iff_toInt_lt, Int32.le_iff_toInt_le, Int32.reduceToInt, ← Int32.toInt_inj, true_and, and_true, or_true, true_or, false_or, or_false, false_and, and_false, not_true_eq_false, not_false_eq_true] <;> omega))
              refine v_pick [0, 1, 2, 3, 4] rfl ?_
              exact lp_621 258 0 (by decide) 0 (by decide)
            · simp only [Int32.lt_iff_toInt_lt, Int32.le_iff_toInt_le, Int32.reduceToInt, ← Int32.toInt_inj] at h_115
              refine v_bipush hC dX11_same_55 (v := (-6)) (by decide) ?_
              exact hR _ _ _ _ _ _ _ dX11_same_57 rfl (Nat.le_of_ble_eq_true rfl) (Nat.le_of_ble_eq_true rfl) ⟨rfl, hW, FR.rf, (.inl (by decide)), (.inl (by decide)), (.inl (by decide))⟩
      · simp only [Int32.lt_iff_toInt_lt, Int32.le_iff_toInt_le, Int32.reduceToInt, ← Int32.toInt_inj] at h_27
        refine v_bipush hC dX11_same_21 (v := (-2)) (by decide) ?_
        exact hR _ _ _ _ _ _ _ dX11_same_23 rfl (Nat.le_of_ble_eq_true rfl) (Nat.le_of_ble_eq_true rfl) ⟨rfl, hW, FR.rf, (.inl (by decide)), (.inl (by decide)), (.inl (by decide))⟩
set_option maxRecDepth 100000 in
set_option maxHeartbeats 8000000 in
theorem p_X11_ball {l : Launch} {E : Ez} {L : List Nat} {f : Nat → va_E} {T : Nat → va_E → Prop} {a_0 : Nat} {a_1 : Int32} {a_2 : Int32} (hW : WT T L f) (k_0 : isX T L E a_0) : CI l yX11_ball cX11_ball 7 .int 3 0 0 E [.ref a_0, .int a_1, .int a_2] L f (fun r L1 f1 => L = L1 ∧ f = f1 ∧ (¬ r.toInt = 0 ∨ (0 ≤ a_1.toInt ∧ a_1.toInt ≤ 3))) := by
  refine ci_of (by decide) (Nat.le_of_ble_eq_true rfl) (fun z hz hnm hC hR => ?_)
  have hC : Cx z E cX11_ball RX11 7 3 0 0 := hC
  subst hz
  show V z E 7 0 0 L f 0 [(0, .ref a_0), (1, .int a_1), (2, .int a_2)] []
  refine v_aload_n hC dX11_ball_0 rfl ?_
  refine v_iload_n hC dX11_ball_1 rfl ?_
  obtain ⟨m_1, q_3, q_4, q_5, q_6, q_7, q_8, q_9, q_10, q_11, q_12, q_13, q_14, q_15, q_16, t_2, k_17, k_18, k_19, k_20, k_21, k_22, k_23, k_24, k_25, k_26, k_27, k_28, k_29, k_30⟩ := id k_0
  have e_31 : f a_0 = ob 11 [.ref q_3, .ref q_4, .ref q_5, .ref q_6, .ref q_7, .ref q_8, .ref q_9, .ref q_10, .ref q_11, .ref q_12, .ref q_13, .ref q_14, .ref q_15, .ref q_16] := hW.at m_1 t_2
  refine v_vi hC (rest := []) m_1 e_31 rfl mi_X11_refusalOfCloth ms_X11_refusalOfCloth (p_X11_refusalOfCloth hW k_0) mx_X11_refusalOfCloth ml_X11_229 (by decide) rfl (cells1 := 0) (slots1 := 0) (by decide) (by decide) (Nat.le_of_ble_eq_true rfl) (Nat.le_of_ble_eq_true rfl) rfl (Nat.le_of_ble_eq_true rfl) dX11_ball_2 (fun r_32 L_33 f_34 h_35 => ?_)
  obtain ⟨rfl, rfl, b_36, h_37⟩ := h_35
  refine v_istore_n hC dX11_ball_5 (by decide) (lv' := [(3, .int r_32), (0, .ref a_0), (1, .int a_1), (2, .int a_2)]) rfl ?_
  refine v_iload_n hC dX11_ball_6 rfl ?_
  refine v_if_eq hC dX11_ball_7 (tgt := 12) (by decide) (fun h_40 => ?_) (fun h_40 => ?_)
  · simp only [Int32.lt_iff_toInt_lt, Int32.le_iff_toInt_le, Int32.reduceToInt, ← Int32.toInt_inj] at h_40
    refine v_iconst hC dX11_ball_12 (v := 0) (by decide) ?_
    refine v_istore hC dX11_ball_13 (by decide) (lv' := [(4, .int 0), (3, .int r_32), (0, .ref a_0), (1, .int a_1), (2, .int a_2)]) rfl ?_
    refine v_aload_n hC dX11_ball_15 rfl ?_
    refine v_get hC fl_X11_19 m_1 e_31 rfl dX11_ball_16 ?_
    obtain ⟨m_41, q_43, q_44, q_45, q_46, q_47, q_48, t_42, k_49, k_50, k_51, k_52, k_53, k_54⟩ := id k_18
    have e_55 : f q_4 = ob 0 [.ref q_43, .ref q_44, .ref q_45, .ref q_46, .ref q_47, .ref q_48] := hW.at m_41 t_42
    refine v_getN hC fn_X11_116 m_41 e_55 rfl dX11_ball_19 ?_
    obtain ⟨m_56, q_58, q_59, t_57, k_60, k_61⟩ := id k_49
    obtain ⟨v_63, v_65, v_67, e_62, b_64, b_66, b_68⟩ := hW.at m_56 t_57
    refine v_vi hC (rest := []) m_56 e_62 rfl mi_X4_places ms_X4_places (p_X4_places hW k_49) mx_X4_places ml_X11_304 (by decide) rfl (cells1 := 0) (slots1 := 0) (by decide) (by decide) (Nat.le_of_ble_eq_true rfl) (Nat.le_of_ble_eq_true rfl) rfl (Nat.le_of_ble_eq_true rfl) dX11_ball_22 (fun r_69 L_70 f_71 h_72 => ?_)
    obtain ⟨rfl, rfl, b_73⟩ := h_72
    refine v_iconst hC dX11_ball_25 (v := 1) (by decide) ?_
    obtain ⟨v_76, h_77⟩ : ∃ v9 : Int32, r_69 - 1 = v9 := ⟨_, rfl⟩
    refine v_isub hC dX11_ball_26 h_77 ?_
    have h_78 := sub_v h_77 (by first | omega | (simp only [Int32.lt_iff_toInt_lt, Int32.le_iff_toInt_le, Int32.reduceToInt, ← Int32.toInt_inj, true_and, and_true, or_true, true_or, false_or, or_false, false_and, and_false, not_true_eq_false, not_false_eq_true] <;> omega)) (by first | omega | (simp only [Int32.lt_iff_toInt_lt, Int32.le_iff_toInt_le, Int32.reduceToInt, ← Int32.toInt_inj, true_and, and_true, or_true, true_or, false_or, or_false, false_and, and_false, not_true_eq_false, not_false_eq_true] <;> omega))
    try simp only [Int32.reduceToInt] at h_78
    refine v_istore hC dX11_ball_27 (by decide) (lv' := [(5, .int v_76), (4, .int 0), (3, .int r_32), (0, .ref a_0), (1, .int a_1), (2, .int a_2)]) rfl ?_
    have lp_571 : ∀ (n_572 : Nat) (i_568 : Int32) (b_570 : ((-1) ≤ i_568.toInt ∧ i_568.toInt ≤ 255)) (i_569 : Int32) (hm_574 : i_568.toInt - (-1) < (n_572 : Int)), V z E 7 0 0 L f 29 [(5, .int i_568), (4, .int i_569), (0, .ref a_0), (1, .int a_1), (2, .int a_2)] [] := by
      intro n_572
      induction n_572 with
      | zero =>
        intro i_568 b_570 i_569 hm_574
        exfalso; omega
      | succ n_572 ih_573 =>
        intro i_568 b_570 i_569 hm_574
        refine v_iload hC dX11_ball_29 rfl ?_
        refine v_if_lt hC dX11_ball_31 (tgt := 84) (by decide) (fun h_575 => ?_) (fun h_575 => ?_)
        · simp only [Int32.lt_iff_toInt_lt, Int32.le_iff_toInt_le, Int32.reduceToInt, ← Int32.toInt_inj] at h_575
          refine v_iconst hC dX11_ball_84 (v := (-1)) (by decide) ?_
          exact hR _ _ _ _ _ _ _ dX11_ball_85 rfl (Nat.le_of_ble_eq_true rfl) (Nat.le_of_ble_eq_true rfl) ⟨rfl, rfl, (.inl (by decide))⟩
        · simp only [Int32.lt_iff_toInt_lt, Int32.le_iff_toInt_le, Int32.reduceToInt, ← Int32.toInt_inj] at h_575
          refine v_aload_n hC dX11_ball_34 rfl ?_
          refine v_get hC fl_X11_19 m_1 e_31 rfl dX11_ball_35 ?_
          refine v_getN hC fn_X11_190 m_41 e_55 rfl dX11_ball_38 ?_
          refine v_iload_n hC dX11_ball_41 rfl ?_
          obtain ⟨m_576, g_578, t_577, k_579⟩ := id k_54
          have e_580 : f q_48 = aR E 5 4 g_578 := hW.at m_576 t_577
          obtain ⟨q_581, h_582, k_583⟩ := k_579 (a_1 : Int32).toNatClampNeg (clamp_lt (vp_in_iff.mpr (by first | omega | (simp only [Int32.lt_iff_toInt_lt, Int32.le_iff_toInt_le, Int32.reduceToInt, ← Int32.toInt_inj, true_and, and_true, or_true, true_or, false_or, or_false, false_and, and_false, not_true_eq_false, not_false_eq_true] <;> omega))))
          refine v_aald hC m_576 e_580 rfl (vp_in_iff.mpr (by first | omega | (simp only [Int32.lt_iff_toInt_lt, Int32.le_iff_toInt_le, Int32.reduceToInt, ← Int32.toInt_inj, true_and, and_true, or_true, true_or, false_or, or_false, false_and, and_false, not_true_eq_false, not_false_eq_true] <;> omega))) (v := .ref q_581) (by rw [h_582]; rfl) dX11_ball_42 ?_
          refine v_aload_n hC dX11_ball_43 rfl ?_
          refine v_get hC fl_X11_19 m_1 e_31 rfl dX11_ball_44 ?_
          refine v_getN hC fn_X11_116 m_41 e_55 rfl dX11_ball_47 ?_
          refine v_iload hC dX11_ball_50 rfl ?_
          refine v_vi hC (rest := [.ref q_581]) m_56 e_62 rfl mi_X4_knittedAs ms_X4_knittedAs (p_X4_knittedAs hW k_49) mx_X4_knittedAs ml_X11_308 (by decide) rfl (cells1 := 0) (slots1 := 0) (by decide) (by decide) (Nat.le_of_ble_eq_true rfl) (Nat.le_of_ble_eq_true rfl) rfl (Nat.le_of_ble_eq_true rfl) dX11_ball_52 (fun r_584 L_585 f_586 h_587 => ?_)
          obtain ⟨rfl, rfl, b_588⟩ := h_587
          obtain ⟨m_591, q_593, t_592, k_594⟩ := id k_583
          obtain ⟨v_596, e_595, b_597⟩ := hW.at m_591 t_592
          refine v_vi hC (rest := []) m_591 e_595 rfl mi_X1_stitchAt ms_X1_stitchAt (p_X1_stitchAt hW k_583) mx_X1_stitchAt ml_X11_242 (by decide) rfl (cells1 := 0) (slots1 := 0) (by decide) (by decide) (Nat.le_of_ble_eq_true rfl) (Nat.le_of_ble_eq_true rfl) rfl (Nat.le_of_ble_eq_true rfl) dX11_ball_55 (fun r_598 L_599 f_600 h_601 => ?_)
          obtain ⟨rfl, rfl, h_602⟩ := h_601
          refine v_istore hC dX11_ball_58 (by decide) (lv' := [(6, .int r_598), (5, .int i_568), (4, .int i_569), (0, .ref a_0), (1, .int a_1), (2, .int a_2)]) rfl ?_
          refine v_iload hC dX11_ball_60 rfl ?_
          refine v_iconst hC dX11_ball_62 (v := 4) (by decide) ?_
          refine v_icmp_eq hC dX11_ball_63 (tgt := 78) (by decide) (fun h_605 => ?_) (fun h_605 => ?_)
          · simp only [Int32.lt_iff_toInt_lt, Int32.le_iff_toInt_le, Int32.reduceToInt, ← Int32.toInt_inj] at h_605
            obtain ⟨v_606, h_607⟩ : ∃ v9 : Int32, i_568 + Int32.ofInt (-1) = v9 := ⟨_, rfl⟩
            have h_608 := add_v (b := (-1)) h_607 (by first | omega | (simp only [Int32.lt_iff_toInt_lt, Int32.le_iff_toInt_le, Int32.reduceToInt, ← Int32.toInt_inj, true_and, and_true, or_true, true_or, false_or, or_false, false_and, and_false, not_true_eq_false, not_false_eq_true] <;> omega)) (by first | omega | (simp only [Int32.lt_iff_toInt_lt, Int32.le_iff_toInt_le, Int32.reduceToInt, ← Int32.toInt_inj, true_and, and_true, or_true, true_or, false_or, or_false, false_and, and_false, not_true_eq_false, not_false_eq_true] <;> omega))
            simp only [Int32.reduceToInt] at h_608
            refine v_iinc hC dX11_ball_78 (k := 1) rfl (v := v_606) h_607 (by decide) (lv' := [(5, .int v_606), (6, .int r_598), (4, .int i_569), (0, .ref a_0), (1, .int a_1), (2, .int a_2)]) rfl ?_
            refine v_goto hC dX11_ball_81 (tgt := 29) (by decide) ?_
            refine v_pick [0, 2, 3, 4, 5] rfl ?_
            exact ih_573 v_606 (by first | omega | (simp only [Int32.lt_iff_toInt_lt, Int32.le_iff_toInt_le, Int32.reduceToInt, ← Int32.toInt_inj, true_and, and_true, or_true, true_or, false_or, or_false, false_and, and_false, not_true_eq_false, not_false_eq_true] <;> omega)) i_569 (by first | omega | (simp only [Int32.lt_iff_toInt_lt, Int32.le_iff_toInt_le, Int32.reduceToInt, ← Int32.toInt_inj, true_and, and_true, or_true, true_or, false_or, or_false, false_and, and_false, not_true_eq_false, not_false_eq_true] <;> omega))
          · simp only [Int32.lt_iff_toInt_lt, Int32.le_iff_toInt_le, Int32.reduceToInt, ← Int32.toInt_inj] at h_605
            refine v_iload hC dX11_ball_66 rfl ?_
            refine v_iload_n hC dX11_ball_68 rfl ?_
            refine v_icmp_ne hC dX11_ball_69 (tgt := 75) (by decide) (fun h_609 => ?_) (fun h_609 => ?_)
            · simp only [Int32.lt_iff_toInt_lt, Int32.le_iff_toInt_le, Int32.reduceToInt, ← Int32.toInt_inj] at h_609
              obtain ⟨v_610, h_611⟩ : ∃ v9 : Int32, i_569 + Int32.ofInt 1 = v9 := ⟨_, rfl⟩
              refine v_iinc hC dX11_ball_75 (k := 2) rfl (v := v_610) h_611 (by decide) (lv' := [(4, .int v_610), (6, .int r_598), (5, .int i_568), (0, .ref a_0), (1, .int a_1), (2, .int a_2)]) rfl ?_
              obtain ⟨v_612, h_613⟩ : ∃ v9 : Int32, i_568 + Int32.ofInt (-1) = v9 := ⟨_, rfl⟩
              have h_614 := add_v (b := (-1)) h_613 (by first | omega | (simp only [Int32.lt_iff_toInt_lt, Int32.le_iff_toInt_le, Int32.reduceToInt, ← Int32.toInt_inj, true_and, and_true, or_true, true_or, false_or, or_false, false_and, and_false, not_true_eq_false, not_false_eq_true] <;> omega)) (by first | omega | (simp only [Int32.lt_iff_toInt_lt, Int32.le_iff_toInt_le, Int32.reduceToInt, ← Int32.toInt_inj, true_and, and_true, or_true, true_or, false_or, or_false, false_and, and_false, not_true_eq_false, not_false_eq_true] <;> omega))
              simp only [Int32.reduceToInt] at h_614
              refine v_iinc hC dX11_ball_78 (k := 2) rfl (v := v_612) h_613 (by decide) (lv' := [(5, .int v_612), (4, .int v_610), (6, .int r_598), (0, .ref a_0), (1, .int a_1), (2, .int a_2)]) rfl ?_
              refine v_goto hC dX11_ball_81 (tgt := 29) (by decide) ?_
              refine v_pick [0, 1, 3, 4, 5] rfl ?_
              exact ih_573 v_612 (by first | omega | (simp only [Int32.lt_iff_toInt_lt, Int32.le_iff_toInt_le, Int32.reduceToInt, ← Int32.toInt_inj, true_and, and_true, or_true, true_or, false_or, or_false, false_and, and_false, not_true_eq_false, not_false_eq_true] <;> omega)) v_610 (by first | omega | (simp only [Int32.lt_iff_toInt_lt, Int32.le_iff_toInt_le, Int32.reduceToInt, ← Int32.toInt_inj, true_and, and_true, or_true, true_or, false_or, or_false, false_and, and_false, not_true_eq_false, not_false_eq_true] <;> omega))
            · simp only [Int32.lt_iff_toInt_lt, Int32.le_iff_toInt_le, Int32.reduceToInt, ← Int32.toInt_inj] at h_609
              refine v_iload hC dX11_ball_72 rfl ?_
              exact hR _ _ _ _ _ _ _ dX11_ball_74 rfl (Nat.le_of_ble_eq_true rfl) (Nat.le_of_ble_eq_true rfl) ⟨rfl, rfl, (.inr (by first | omega | (simp only [Int32.lt_iff_toInt_lt, Int32.le_iff_toInt_le, Int32.reduceToInt, ← Int32.toInt_inj, true_and, and_true, or_true, true_or, false_or, or_false, false_and, and_false, not_true_eq_false, not_false_eq_true] <;> omega)))⟩
    refine v_pick [0, 1, 3, 4, 5] rfl ?_
    exact lp_571 258 v_76 (by first | omega | (simp only [Int32.lt_iff_toInt_lt, Int32.le_iff_toInt_le, Int32.reduceToInt, ← Int32.toInt_inj, true_and, and_true, or_true, true_or, false_or, or_false, false_and, and_false, not_true_eq_false, not_false_eq_true] <;> omega)) 0 (by first | omega | (simp only [Int32.lt_iff_toInt_lt, Int32.le_iff_toInt_le, Int32.reduceToInt, ← Int32.toInt_inj, true_and, and_true, or_true, true_or, false_or, or_false, false_and, and_false, not_true_eq_false, not_false_eq_true] <;> omega))
  · simp only [Int32.lt_iff_toInt_lt, Int32.le_iff_toInt_le, Int32.reduceToInt, ← Int32.toInt_inj] at h_40
    refine v_iload_n hC dX11_ball_10 rfl ?_
    exact hR _ _ _ _ _ _ _ dX11_ball_11 rfl (Nat.le_of_ble_eq_true rfl) (Nat.le_of_ble_eq_true rfl) ⟨rfl, rfl, (by first | omega | (simp only [Int32.lt_iff_toInt_lt, Int32.le_iff_toInt_le, Int32.reduceToInt, ← Int32.toInt_inj, true_and, and_true, or_true, true_or, false_or, or_false, false_and, and_false, not_true_eq_false, not_false_eq_true] <;> omega))⟩
set_option maxRecDepth 100000 in
set_option maxHeartbeats 8000000 in
theorem p_X11_rewind {l : Launch} {E : Ez} {L : List Nat} {f : Nat → va_E} {T : Nat → va_E → Prop} {a_0 : Nat} {a_1 : Int32} {a_2 : Int32} (hW : WT T L f) (k_0 : isX T L E a_0) : CI l yX11_rewind cX11_rewind 5 .int 3 0 0 E [.ref a_0, .int a_1, .int a_2] L f (fun r L1 f1 => L = L1 ∧ WT T L f1 ∧ FR [1, 356] f f1 ∧ (¬ r.toInt = 0 ∨ (0 ≤ a_1.toInt ∧ a_1.toInt ≤ 3)) ∧ (¬ r.toInt = 0 ∨ (0 ≤ a_2.toInt ∧ a_2.toInt ≤ 3))) := by
  refine ci_of (by decide) (Nat.le_of_ble_eq_true rfl) (fun z hz hnm hC hR => ?_)
  have hC : Cx z E cX11_rewind RX11 5 3 0 0 := hC
  subst hz
  show V z E 5 0 0 L f 0 [(0, .ref a_0), (1, .int a_1), (2, .int a_2)] []
  refine v_aload_n hC dX11_rewind_0 rfl ?_
  refine v_iload_n hC dX11_rewind_1 rfl ?_
  refine v_iload_n hC dX11_rewind_2 rfl ?_
  obtain ⟨m_1, q_3, q_4, q_5, q_6, q_7, q_8, q_9, q_10, q_11, q_12, q_13, q_14, q_15, q_16, t_2, k_17, k_18, k_19, k_20, k_21, k_22, k_23, k_24, k_25, k_26, k_27, k_28, k_29, k_30⟩ := id k_0
  have e_31 : f a_0 = ob 11 [.ref q_3, .ref q_4, .ref q_5, .ref q_6, .ref q_7, .ref q_8, .ref q_9, .ref q_10, .ref q_11, .ref q_12, .ref q_13, .ref q_14, .ref q_15, .ref q_16] := hW.at m_1 t_2
  refine v_vi hC (rest := []) m_1 e_31 rfl mi_X11_refusalOfCloths ms_X11_refusalOfCloths (p_X11_refusalOfCloths hW k_0) mx_X11_refusalOfCloths ml_X11_298 (by decide) rfl (cells1 := 0) (slots1 := 0) (by decide) (by decide) (Nat.le_of_ble_eq_true rfl) (Nat.le_of_ble_eq_true rfl) rfl (Nat.le_of_ble_eq_true rfl) dX11_rewind_3 (fun r_32 L_33 f_34 h_35 => ?_)
  obtain ⟨rfl, rfl, b_36, h_37, h_38⟩ := h_35
  refine v_istore_n hC dX11_rewind_6 (by decide) (lv' := [(3, .int r_32), (0, .ref a_0), (1, .int a_1), (2, .int a_2)]) rfl ?_
  refine v_iload_n hC dX11_rewind_7 rfl ?_
  refine v_if_eq hC dX11_rewind_8 (tgt := 13) (by decide) (fun h_41 => ?_) (fun h_41 => ?_)
  · simp only [Int32.lt_iff_toInt_lt, Int32.le_iff_toInt_le, Int32.reduceToInt, ← Int32.toInt_inj] at h_41
    refine v_aload_n hC dX11_rewind_13 rfl ?_
    refine v_get hC fl_X11_85 m_1 e_31 rfl dX11_rewind_14 ?_
    refine v_aload_n hC dX11_rewind_17 rfl ?_
    refine v_get hC fl_X11_19 m_1 e_31 rfl dX11_rewind_18 ?_
    obtain ⟨m_42, q_44, q_45, q_46, q_47, q_48, q_49, t_43, k_50, k_51, k_52, k_53, k_54, k_55⟩ := id k_18
    have e_56 : f q_4 = ob 0 [.ref q_44, .ref q_45, .ref q_46, .ref q_47, .ref q_48, .ref q_49] := hW.at m_42 t_43
    refine v_getN hC fn_X11_190 m_42 e_56 rfl dX11_rewind_21 ?_
    refine v_iload_n hC dX11_rewind_24 rfl ?_
    obtain ⟨m_57, g_59, t_58, k_60⟩ := id k_55
    have e_61 : f q_49 = aR E 5 4 g_59 := hW.at m_57 t_58
    obtain ⟨q_62, h_63, k_64⟩ := k_60 (a_1 : Int32).toNatClampNeg (clamp_lt (vp_in_iff.mpr (by first | omega | (simp only [Int32.lt_iff_toInt_lt, Int32.le_iff_toInt_le, Int32.reduceToInt, ← Int32.toInt_inj, true_and, and_true, or_true, true_or, false_or, or_false, false_and, and_false, not_true_eq_false, not_false_eq_true] <;> omega))))
    refine v_aald hC m_57 e_61 rfl (vp_in_iff.mpr (by first | omega | (simp only [Int32.lt_iff_toInt_lt, Int32.le_iff_toInt_le, Int32.reduceToInt, ← Int32.toInt_inj, true_and, and_true, or_true, true_or, false_or, or_false, false_and, and_false, not_true_eq_false, not_false_eq_true] <;> omega))) (v := .ref q_62) (by rw [h_63]; rfl) dX11_rewind_25 ?_
    refine v_aload_n hC dX11_rewind_26 rfl ?_
    refine v_get hC fl_X11_19 m_1 e_31 rfl dX11_rewind_27 ?_
    refine v_getN hC fn_X11_116 m_42 e_56 rfl dX11_rewind_30 ?_
    obtain ⟨m_65, q_67, t_66, k_68⟩ := id k_29
    obtain ⟨v_70, e_69, b_71⟩ := hW.at m_65 t_66
    refine v_vv hC (rest := []) m_65 e_69 rfl mi_X1_knitBackFrom ms_X1_knitBackFrom (p_X1_knitBackFrom hW k_29 k_64 k_50) mx_X1_knitBackFrom ml_X11_311 (by decide) rfl (cells1 := 0) (slots1 := 0) (by decide) (by decide) (Nat.le_of_ble_eq_true rfl) (Nat.le_of_ble_eq_true rfl) rfl (Nat.le_of_ble_eq_true rfl) dX11_rewind_33 (fun L_73 f_74 h_75 => ?_)
    obtain ⟨rfl, hW_76, hF_77⟩ := h_75
    have hf_78 := hF_77.at e_31 rfl
    have hf_79 := hF_77.at e_56 rfl
    have hf_80 := hF_77.at e_61 rfl
    refine v_aload_n hC dX11_rewind_36 rfl ?_
    refine v_get hC fl_X11_85 m_1 hf_78 rfl dX11_rewind_37 ?_
    refine v_aload_n hC dX11_rewind_40 rfl ?_
    refine v_get hC fl_X11_19 m_1 hf_78 rfl dX11_rewind_41 ?_
    refine v_getN hC fn_X11_190 m_42 hf_79 rfl dX11_rewind_44 ?_
    refine v_iload_n hC dX11_rewind_47 rfl ?_
    obtain ⟨q_81, h_82, k_83⟩ := k_60 (a_1 : Int32).toNatClampNeg (clamp_lt (vp_in_iff.mpr (by first | omega | (simp only [Int32.lt_iff_toInt_lt, Int32.le_iff_toInt_le, Int32.reduceToInt, ← Int32.toInt_inj, true_and, and_true, or_true, true_or, false_or, or_false, false_and, and_false, not_true_eq_false, not_false_eq_true] <;> omega))))
    refine v_aald hC m_57 hf_80 rfl (vp_in_iff.mpr (by first | omega | (simp only [Int32.lt_iff_toInt_lt, Int32.le_iff_toInt_le, Int32.reduceToInt, ← Int32.toInt_inj, true_and, and_true, or_true, true_or, false_or, or_false, false_and, and_false, not_true_eq_false, not_false_eq_true] <;> omega))) (v := .ref q_81) (by rw [h_82]; rfl) dX11_rewind_48 ?_
    refine v_aload_n hC dX11_rewind_49 rfl ?_
    refine v_get hC fl_X11_19 m_1 hf_78 rfl dX11_rewind_50 ?_
    refine v_getN hC fn_X11_116 m_42 hf_79 rfl dX11_rewind_53 ?_
    obtain ⟨v_85, e_84, b_86⟩ := hW_76.at m_65 t_66
    refine v_vi hC (rest := []) m_65 e_84 rfl mi_X1_placesUnlike ms_X1_placesUnlike (p_X1_placesUnlike hW_76 k_29 k_83 k_50) mx_X1_placesUnlike ml_X11_314 (by decide) rfl (cells1 := 0) (slots1 := 0) (by decide) (by decide) (Nat.le_of_ble_eq_true rfl) (Nat.le_of_ble_eq_true rfl) rfl (Nat.le_of_ble_eq_true rfl) dX11_rewind_56 (fun r_87 L_88 f_89 h_90 => ?_)
    obtain ⟨rfl, rfl⟩ := h_90
    refine v_istore hC dX11_rewind_59 (by decide) (lv' := [(4, .int r_87), (3, .int r_32), (0, .ref a_0), (1, .int a_1), (2, .int a_2)]) rfl ?_
    refine v_aload_n hC dX11_rewind_61 rfl ?_
    refine v_get hC fl_X11_19 m_1 hf_78 rfl dX11_rewind_62 ?_
    refine v_getN hC fn_X11_190 m_42 hf_79 rfl dX11_rewind_65 ?_
    refine v_iload_n hC dX11_rewind_68 rfl ?_
    obtain ⟨q_93, h_94, k_95⟩ := k_60 (a_2 : Int32).toNatClampNeg (clamp_lt (vp_in_iff.mpr (by first | omega | (simp only [Int32.lt_iff_toInt_lt, Int32.le_iff_toInt_le, Int32.reduceToInt, ← Int32.toInt_inj, true_and, and_true, or_true, true_or, false_or, or_false, false_and, and_false, not_true_eq_false, not_false_eq_true] <;> omega))))
    refine v_aald hC m_57 hf_80 rfl (vp_in_iff.mpr (by first | omega | (simp only [Int32.lt_iff_toInt_lt, Int32.le_iff_toInt_le, Int32.reduceToInt, ← Int32.toInt_inj, true_and, and_true, or_true, true_or, false_or, or_false, false_and, and_false, not_true_eq_false, not_false_eq_true] <;> omega))) (v := .ref q_93) (by rw [h_94]; rfl) dX11_rewind_69 ?_
    refine v_aload_n hC dX11_rewind_70 rfl ?_
    refine v_get hC fl_X11_85 m_1 hf_78 rfl dX11_rewind_71 ?_
    obtain ⟨m_96, q_98, t_97, k_99⟩ := id k_95
    obtain ⟨v_101, e_100, b_102⟩ := hW_76.at m_96 t_97
    refine v_vv hC (rest := []) m_96 e_100 rfl mi_X1_takeFrom ms_X1_takeFrom (p_X1_takeFrom hW_76 k_95 k_29) mx_X1_takeFrom ml_X11_318 (by decide) rfl (cells1 := 0) (slots1 := 0) (by decide) (by decide) (Nat.le_of_ble_eq_true rfl) (Nat.le_of_ble_eq_true rfl) rfl (Nat.le_of_ble_eq_true rfl) dX11_rewind_74 (fun L_104 f_105 h_106 => ?_)
    obtain ⟨rfl, hW_107, hF_108⟩ := h_106
    have hf_109 := hF_108.at hf_78 rfl
    have hf_110 := hF_108.at hf_79 rfl
    have hf_111 := hF_108.at hf_80 rfl
    refine v_iload hC dX11_rewind_77 rfl ?_
    exact hR _ _ _ _ _ _ _ dX11_rewind_79 rfl (Nat.le_of_ble_eq_true rfl) (Nat.le_of_ble_eq_true rfl) ⟨rfl, hW_107, ((hF_77.tr hF_108).mono rfl), (.inr (by first | omega | (simp only [Int32.lt_iff_toInt_lt, Int32.le_iff_toInt_le, Int32.reduceToInt, ← Int32.toInt_inj, true_and, and_true, or_true, true_or, false_or, or_false, false_and, and_false, not_true_eq_false, not_false_eq_true] <;> omega))), (.inr (by first | omega | (simp only [Int32.lt_iff_toInt_lt, Int32.le_iff_toInt_le, Int32.reduceToInt, ← Int32.toInt_inj, true_and, and_true, or_true, true_or, false_or, or_false, false_and, and_false, not_true_eq_false, not_false_eq_true] <;> omega)))⟩
  · simp only [Int32.lt_iff_toInt_lt, Int32.le_iff_toInt_le, Int32.reduceToInt, ← Int32.toInt_inj] at h_41
    refine v_iload_n hC dX11_rewind_11 rfl ?_
    exact hR _ _ _ _ _ _ _ dX11_rewind_12 rfl (Nat.le_of_ble_eq_true rfl) (Nat.le_of_ble_eq_true rfl) ⟨rfl, hW, FR.rf, (by first | omega | (simp only [Int32.lt_iff_toInt_lt, Int32.le_iff_toInt_le, Int32.reduceToInt, ← Int32.toInt_inj, true_and, and_true, or_true, true_or, false_or, or_false, false_and, and_false, not_true_eq_false, not_false_eq_true] <;> omega)), (by first | omega | (simp only [Int32.lt_iff_toInt_lt, Int32.le_iff_toInt_le, Int32.reduceToInt, ← Int32.toInt_inj, true_and, and_true, or_true, true_or, false_or, or_false, false_and, and_false, not_true_eq_false, not_false_eq_true] <;> omega))⟩
set_option maxRecDepth 100000 in
set_option maxHeartbeats 8000000 in
theorem p_X11_copy {l : Launch} {E : Ez} {L : List Nat} {f : Nat → va_E} {T : Nat → va_E → Prop} {a_0 : Nat} {a_1 : Int32} {a_2 : Int32} (hW : WT T L f) (k_0 : isX T L E a_0) : CI l yX11_copy cX11_copy 3 .int 2 0 0 E [.ref a_0, .int a_1, .int a_2] L f (fun r L1 f1 => L = L1 ∧ WT T L f1 ∧ FR [1, 356] f f1 ∧ ((-6) ≤ r.toInt ∧ r.toInt ≤ 0) ∧ (¬ r.toInt = 0 ∨ (0 ≤ a_1.toInt ∧ a_1.toInt ≤ 3)) ∧ (¬ r.toInt = 0 ∨ (0 ≤ a_2.toInt ∧ a_2.toInt ≤ 3))) := by
  refine ci_of (by decide) (Nat.le_of_ble_eq_true rfl) (fun z hz hnm hC hR => ?_)
  have hC : Cx z E cX11_copy RX11 3 2 0 0 := hC
  subst hz
  show V z E 3 0 0 L f 0 [(0, .ref a_0), (1, .int a_1), (2, .int a_2)] []
  refine v_iload_n hC dX11_copy_0 rfl ?_
  refine v_si hC (rest := []) mt_X11_isCloth (p_X11_isCloth hW) mx_X11_isCloth ml_X11_181 (by decide) rfl (cells1 := 0) (slots1 := 0) (by decide) (by decide) (Nat.le_of_ble_eq_true rfl) (Nat.le_of_ble_eq_true rfl) rfl (Nat.le_of_ble_eq_true rfl) dX11_copy_1 (fun r_1 L_2 f_3 h_4 => ?_)
  obtain ⟨rfl, rfl, b_5, h_6⟩ := h_4
  refine v_if_eq hC dX11_copy_4 (tgt := 14) (by decide) (fun h_9 => ?_) (fun h_9 => ?_)
  · simp only [Int32.lt_iff_toInt_lt, Int32.le_iff_toInt_le, Int32.reduceToInt, ← Int32.toInt_inj] at h_9
    refine v_bipush hC dX11_copy_14 (v := (-2)) (by decide) ?_
    exact hR _ _ _ _ _ _ _ dX11_copy_16 rfl (Nat.le_of_ble_eq_true rfl) (Nat.le_of_ble_eq_true rfl) ⟨rfl, hW, FR.rf, (by decide), (.inl (by decide)), (.inl (by decide))⟩
  · simp only [Int32.lt_iff_toInt_lt, Int32.le_iff_toInt_le, Int32.reduceToInt, ← Int32.toInt_inj] at h_9
    refine v_iload_n hC dX11_copy_7 rfl ?_
    refine v_si hC (rest := []) mt_X11_isCloth (p_X11_isCloth hW) mx_X11_isCloth ml_X11_181 (by decide) rfl (cells1 := 0) (slots1 := 0) (by decide) (by decide) (Nat.le_of_ble_eq_true rfl) (Nat.le_of_ble_eq_true rfl) rfl (Nat.le_of_ble_eq_true rfl) dX11_copy_8 (fun r_10 L_11 f_12 h_13 => ?_)
    obtain ⟨rfl, rfl, b_14, h_15⟩ := h_13
    refine v_if_ne hC dX11_copy_11 (tgt := 17) (by decide) (fun h_18 => ?_) (fun h_18 => ?_)
    · simp only [Int32.lt_iff_toInt_lt, Int32.le_iff_toInt_le, Int32.reduceToInt, ← Int32.toInt_inj] at h_18
      refine v_aload_n hC dX11_copy_17 rfl ?_
      refine v_iload_n hC dX11_copy_18 rfl ?_
      obtain ⟨m_19, q_21, q_22, q_23, q_24, q_25, q_26, q_27, q_28, q_29, q_30, q_31, q_32, q_33, q_34, t_20, k_35, k_36, k_37, k_38, k_39, k_40, k_41, k_42, k_43, k_44, k_45, k_46, k_47, k_48⟩ := id k_0
      have e_49 : f a_0 = ob 11 [.ref q_21, .ref q_22, .ref q_23, .ref q_24, .ref q_25, .ref q_26, .ref q_27, .ref q_28, .ref q_29, .ref q_30, .ref q_31, .ref q_32, .ref q_33, .ref q_34] := hW.at m_19 t_20
      refine v_vi hC (rest := []) m_19 e_49 rfl mi_X11_hasCloth ms_X11_hasCloth (p_X11_hasCloth hW k_0) mx_X11_hasCloth ml_X11_239 (by decide) rfl (cells1 := 0) (slots1 := 0) (by decide) (by decide) (Nat.le_of_ble_eq_true rfl) (Nat.le_of_ble_eq_true rfl) rfl (Nat.le_of_ble_eq_true rfl) dX11_copy_19 (fun r_50 L_51 f_52 h_53 => ?_)
      obtain ⟨rfl, rfl, b_54, h_55⟩ := h_53
      refine v_if_ne hC dX11_copy_22 (tgt := 28) (by decide) (fun h_58 => ?_) (fun h_58 => ?_)
      · simp only [Int32.lt_iff_toInt_lt, Int32.le_iff_toInt_le, Int32.reduceToInt, ← Int32.toInt_inj] at h_58
        refine v_aload_n hC dX11_copy_28 rfl ?_
        refine v_get hC fl_X11_19 m_19 e_49 rfl dX11_copy_29 ?_
        obtain ⟨m_59, q_61, q_62, q_63, q_64, q_65, q_66, t_60, k_67, k_68, k_69, k_70, k_71, k_72⟩ := id k_36
        have e_73 : f q_22 = ob 0 [.ref q_61, .ref q_62, .ref q_63, .ref q_64, .ref q_65, .ref q_66] := hW.at m_59 t_60
        refine v_getN hC fn_X11_190 m_59 e_73 rfl dX11_copy_32 ?_
        refine v_iload_n hC dX11_copy_35 rfl ?_
        obtain ⟨m_74, g_76, t_75, k_77⟩ := id k_72
        have e_78 : f q_66 = aR E 5 4 g_76 := hW.at m_74 t_75
        obtain ⟨q_79, h_80, k_81⟩ := k_77 (a_2 : Int32).toNatClampNeg (clamp_lt (vp_in_iff.mpr (by first | omega | (simp only [Int32.lt_iff_toInt_lt, Int32.le_iff_toInt_le, Int32.reduceToInt, ← Int32.toInt_inj, true_and, and_true, or_true, true_or, false_or, or_false, false_and, and_false, not_true_eq_false, not_false_eq_true] <;> omega))))
        refine v_aald hC m_74 e_78 rfl (vp_in_iff.mpr (by first | omega | (simp only [Int32.lt_iff_toInt_lt, Int32.le_iff_toInt_le, Int32.reduceToInt, ← Int32.toInt_inj, true_and, and_true, or_true, true_or, false_or, or_false, false_and, and_false, not_true_eq_false, not_false_eq_true] <;> omega))) (v := .ref q_79) (by rw [h_80]; rfl) dX11_copy_36 ?_
        refine v_aload_n hC dX11_copy_37 rfl ?_
        refine v_get hC fl_X11_19 m_19 e_49 rfl dX11_copy_38 ?_
        refine v_getN hC fn_X11_190 m_59 e_73 rfl dX11_copy_41 ?_
        refine v_iload_n hC dX11_copy_44 rfl ?_
        obtain ⟨q_82, h_83, k_84⟩ := k_77 (a_1 : Int32).toNatClampNeg (clamp_lt (vp_in_iff.mpr (by first | omega | (simp only [Int32.lt_iff_toInt_lt, Int32.le_iff_toInt_le, Int32.reduceToInt, ← Int32.toInt_inj, true_and, and_true, or_true, true_or, false_or, or_false, false_and, and_false, not_true_eq_false, not_false_eq_true] <;> omega))))
        refine v_aald hC m_74 e_78 rfl (vp_in_iff.mpr (by first | omega | (simp only [Int32.lt_iff_toInt_lt, Int32.le_iff_toInt_le, Int32.reduceToInt, ← Int32.toInt_inj, true_and, and_true, or_true, true_or, false_or, or_false, false_and, and_false, not_true_eq_false, not_false_eq_true] <;> omega))) (v := .ref q_82) (by rw [h_83]; rfl) dX11_copy_45 ?_
        obtain ⟨m_85, q_87, t_86, k_88⟩ := id k_81
        obtain ⟨v_90, e_89, b_91⟩ := hW.at m_85 t_86
        refine v_vv hC (rest := []) m_85 e_89 rfl mi_X1_takeFrom ms_X1_takeFrom (p_X1_takeFrom hW k_81 k_84) mx_X1_takeFrom ml_X11_318 (by decide) rfl (cells1 := 0) (slots1 := 0) (by decide) (by decide) (Nat.le_of_ble_eq_true rfl) (Nat.le_of_ble_eq_true rfl) rfl (Nat.le_of_ble_eq_true rfl) dX11_copy_46 (fun L_93 f_94 h_95 => ?_)
        obtain ⟨rfl, hW_96, hF_97⟩ := h_95
        have hf_98 := hF_97.at e_49 rfl
        have hf_99 := hF_97.at e_73 rfl
        have hf_100 := hF_97.at e_78 rfl
        refine v_iconst hC dX11_copy_49 (v := 0) (by decide) ?_
        exact hR _ _ _ _ _ _ _ dX11_copy_50 rfl (Nat.le_of_ble_eq_true rfl) (Nat.le_of_ble_eq_true rfl) ⟨rfl, hW_96, (hF_97.mono rfl), (by decide), (.inr (by first | omega | (simp only [Int32.lt_iff_toInt_lt, Int32.le_iff_toInt_le, Int32.reduceToInt, ← Int32.toInt_inj, true_and, and_true, or_true, true_or, false_or, or_false, false_and, and_false, not_true_eq_false, not_false_eq_true] <;> omega))), (.inr (by first | omega | (simp only [Int32.lt_iff_toInt_lt, Int32.le_iff_toInt_le, Int32.reduceToInt, ← Int32.toInt_inj, true_and, and_true, or_true, true_or, false_or, or_false, false_and, and_false, not_true_eq_false, not_false_eq_true] <;> omega)))⟩
      · simp only [Int32.lt_iff_toInt_lt, Int32.le_iff_toInt_le, Int32.reduceToInt, ← Int32.toInt_inj] at h_58
        refine v_bipush hC dX11_copy_25 (v := (-6)) (by decide) ?_
        exact hR _ _ _ _ _ _ _ dX11_copy_27 rfl (Nat.le_of_ble_eq_true rfl) (Nat.le_of_ble_eq_true rfl) ⟨rfl, hW, FR.rf, (by decide), (.inl (by decide)), (.inl (by decide))⟩
    · simp only [Int32.lt_iff_toInt_lt, Int32.le_iff_toInt_le, Int32.reduceToInt, ← Int32.toInt_inj] at h_18
      refine v_bipush hC dX11_copy_14 (v := (-2)) (by decide) ?_
      exact hR _ _ _ _ _ _ _ dX11_copy_16 rfl (Nat.le_of_ble_eq_true rfl) (Nat.le_of_ble_eq_true rfl) ⟨rfl, hW, FR.rf, (by decide), (.inl (by decide)), (.inl (by decide))⟩
set_option maxRecDepth 100000 in
set_option maxHeartbeats 8000000 in
theorem p_X11_turn {l : Launch} {E : Ez} {L : List Nat} {f : Nat → va_E} {T : Nat → va_E → Prop} {a_0 : Nat} {a_1 : Int32} {a_2 : Int32} {a_3 : Int32} (hW : WT T L f) (k_0 : isX T L E a_0) : CI l yX11_turn cX11_turn 6 .int 3 0 0 E [.ref a_0, .int a_1, .int a_2, .int a_3] L f (fun r L1 f1 => L = L1 ∧ WT T L f1 ∧ FR [356] f f1 ∧ ((-6) ≤ r.toInt ∧ r.toInt ≤ 3) ∧ (¬ r.toInt = 0 ∨ (0 ≤ a_1.toInt ∧ a_1.toInt ≤ 3))) := by
  refine ci_of (by decide) (Nat.le_of_ble_eq_true rfl) (fun z hz hnm hC hR => ?_)
  have hC : Cx z E cX11_turn RX11 6 3 0 0 := hC
  subst hz
  show V z E 6 0 0 L f 0 [(0, .ref a_0), (1, .int a_1), (2, .int a_2), (3, .int a_3)] []
  refine v_aload_n hC dX11_turn_0 rfl ?_
  obtain ⟨m_1, q_3, q_4, q_5, q_6, q_7, q_8, q_9, q_10, q_11, q_12, q_13, q_14, q_15, q_16, t_2, k_17, k_18, k_19, k_20, k_21, k_22, k_23, k_24, k_25, k_26, k_27, k_28, k_29, k_30⟩ := id k_0
  have e_31 : f a_0 = ob 11 [.ref q_3, .ref q_4, .ref q_5, .ref q_6, .ref q_7, .ref q_8, .ref q_9, .ref q_10, .ref q_11, .ref q_12, .ref q_13, .ref q_14, .ref q_15, .ref q_16] := hW.at m_1 t_2
  refine v_get hC fl_X11_19 m_1 e_31 rfl dX11_turn_1 ?_
  obtain ⟨m_32, q_34, q_35, q_36, q_37, q_38, q_39, t_33, k_40, k_41, k_42, k_43, k_44, k_45⟩ := id k_18
  have e_46 : f q_4 = ob 0 [.ref q_34, .ref q_35, .ref q_36, .ref q_37, .ref q_38, .ref q_39] := hW.at m_32 t_33
  refine v_getN hC fn_X11_116 m_32 e_46 rfl dX11_turn_4 ?_
  refine v_iload_n hC dX11_turn_7 rfl ?_
  refine v_iload_n hC dX11_turn_8 rfl ?_
  obtain ⟨m_47, q_49, q_50, t_48, k_51, k_52⟩ := id k_40
  obtain ⟨v_54, v_56, v_58, e_53, b_55, b_57, b_59⟩ := hW.at m_47 t_48
  refine v_vi hC (rest := []) m_47 e_53 rfl mi_X4_placeOf ms_X4_placeOf (p_X4_placeOf hW k_40) mx_X4_placeOf ml_X11_236 (by decide) rfl (cells1 := 0) (slots1 := 0) (by decide) (by decide) (Nat.le_of_ble_eq_true rfl) (Nat.le_of_ble_eq_true rfl) rfl (Nat.le_of_ble_eq_true rfl) dX11_turn_9 (fun r_60 L_61 f_62 h_63 => ?_)
  obtain ⟨rfl, rfl, b_64, h_65, h_66⟩ := h_63
  refine v_istore hC dX11_turn_12 (by decide) (lv' := [(4, .int r_60), (0, .ref a_0), (1, .int a_1), (2, .int a_2), (3, .int a_3)]) rfl ?_
  refine v_iload_n hC dX11_turn_14 rfl ?_
  refine v_si hC (rest := []) mt_X11_isCloth (p_X11_isCloth hW) mx_X11_isCloth ml_X11_181 (by decide) rfl (cells1 := 0) (slots1 := 0) (by decide) (by decide) (Nat.le_of_ble_eq_true rfl) (Nat.le_of_ble_eq_true rfl) rfl (Nat.le_of_ble_eq_true rfl) dX11_turn_15 (fun r_69 L_70 f_71 h_72 => ?_)
  obtain ⟨rfl, rfl, b_73, h_74⟩ := h_72
  refine v_if_eq hC dX11_turn_18 (tgt := 37) (by decide) (fun h_77 => ?_) (fun h_77 => ?_)
  · simp only [Int32.lt_iff_toInt_lt, Int32.le_iff_toInt_le, Int32.reduceToInt, ← Int32.toInt_inj] at h_77
    refine v_bipush hC dX11_turn_37 (v := (-2)) (by decide) ?_
    exact hR _ _ _ _ _ _ _ dX11_turn_39 rfl (Nat.le_of_ble_eq_true rfl) (Nat.le_of_ble_eq_true rfl) ⟨rfl, hW, FR.rf, (by decide), (.inl (by decide))⟩
  · simp only [Int32.lt_iff_toInt_lt, Int32.le_iff_toInt_le, Int32.reduceToInt, ← Int32.toInt_inj] at h_77
    refine v_aload_n hC dX11_turn_21 rfl ?_
    refine v_get hC fl_X11_19 m_1 e_31 rfl dX11_turn_22 ?_
    refine v_getN hC fn_X11_116 m_32 e_46 rfl dX11_turn_25 ?_
    refine v_iload hC dX11_turn_28 rfl ?_
    refine v_vi hC (rest := []) m_47 e_53 rfl mi_X4_sortAt ms_X4_sortAt (p_X4_sortAt hW k_40) mx_X4_sortAt ml_X11_245 (by decide) rfl (cells1 := 0) (slots1 := 0) (by decide) (by decide) (Nat.le_of_ble_eq_true rfl) (Nat.le_of_ble_eq_true rfl) rfl (Nat.le_of_ble_eq_true rfl) dX11_turn_30 (fun r_78 L_79 f_80 h_81 => ?_)
    obtain ⟨rfl, rfl, h_82⟩ := h_81
    refine v_iconst hC dX11_turn_33 (v := 2) (by decide) ?_
    refine v_icmp_ge hC dX11_turn_34 (tgt := 40) (by decide) (fun h_85 => ?_) (fun h_85 => ?_)
    · simp only [Int32.lt_iff_toInt_lt, Int32.le_iff_toInt_le, Int32.reduceToInt, ← Int32.toInt_inj] at h_85
      refine v_aload_n hC dX11_turn_40 rfl ?_
      refine v_iload_n hC dX11_turn_41 rfl ?_
      refine v_vi hC (rest := []) m_1 e_31 rfl mi_X11_hasCloth ms_X11_hasCloth (p_X11_hasCloth hW k_0) mx_X11_hasCloth ml_X11_239 (by decide) rfl (cells1 := 0) (slots1 := 0) (by decide) (by decide) (Nat.le_of_ble_eq_true rfl) (Nat.le_of_ble_eq_true rfl) rfl (Nat.le_of_ble_eq_true rfl) dX11_turn_42 (fun r_86 L_87 f_88 h_89 => ?_)
      obtain ⟨rfl, rfl, b_90, h_91⟩ := h_89
      refine v_if_ne hC dX11_turn_45 (tgt := 51) (by decide) (fun h_94 => ?_) (fun h_94 => ?_)
      · simp only [Int32.lt_iff_toInt_lt, Int32.le_iff_toInt_le, Int32.reduceToInt, ← Int32.toInt_inj] at h_94
        refine v_aload_n hC dX11_turn_51 rfl ?_
        refine v_get hC fl_X11_19 m_1 e_31 rfl dX11_turn_52 ?_
        refine v_getN hC fn_X11_190 m_32 e_46 rfl dX11_turn_55 ?_
        refine v_iload_n hC dX11_turn_58 rfl ?_
        obtain ⟨m_95, g_97, t_96, k_98⟩ := id k_45
        have e_99 : f q_39 = aR E 5 4 g_97 := hW.at m_95 t_96
        obtain ⟨q_100, h_101, k_102⟩ := k_98 (a_1 : Int32).toNatClampNeg (clamp_lt (vp_in_iff.mpr (by first | omega | (simp only [Int32.lt_iff_toInt_lt, Int32.le_iff_toInt_le, Int32.reduceToInt, ← Int32.toInt_inj, true_and, and_true, or_true, true_or, false_or, or_false, false_and, and_false, not_true_eq_false, not_false_eq_true] <;> omega))))
        refine v_aald hC m_95 e_99 rfl (vp_in_iff.mpr (by first | omega | (simp only [Int32.lt_iff_toInt_lt, Int32.le_iff_toInt_le, Int32.reduceToInt, ← Int32.toInt_inj, true_and, and_true, or_true, true_or, false_or, or_false, false_and, and_false, not_true_eq_false, not_false_eq_true] <;> omega))) (v := .ref q_100) (by rw [h_101]; rfl) dX11_turn_59 ?_
        refine v_iload hC dX11_turn_60 rfl ?_
        obtain ⟨m_103, q_105, t_104, k_106⟩ := id k_102
        obtain ⟨v_108, e_107, b_109⟩ := hW.at m_103 t_104
        refine v_vi hC (rest := []) m_103 e_107 rfl mi_X1_stitchAt ms_X1_stitchAt (p_X1_stitchAt hW k_102) mx_X1_stitchAt ml_X11_242 (by decide) rfl (cells1 := 0) (slots1 := 0) (by decide) (by decide) (Nat.le_of_ble_eq_true rfl) (Nat.le_of_ble_eq_true rfl) rfl (Nat.le_of_ble_eq_true rfl) dX11_turn_62 (fun r_110 L_111 f_112 h_113 => ?_)
        obtain ⟨rfl, rfl, h_114⟩ := h_113
        refine v_iconst hC dX11_turn_65 (v := 4) (by decide) ?_
        refine v_icmp_ne hC dX11_turn_66 (tgt := 72) (by decide) (fun h_117 => ?_) (fun h_117 => ?_)
        · simp only [Int32.lt_iff_toInt_lt, Int32.le_iff_toInt_le, Int32.reduceToInt, ← Int32.toInt_inj] at h_117
          refine v_aload_n hC dX11_turn_72 rfl ?_
          refine v_get hC fl_X11_19 m_1 e_31 rfl dX11_turn_73 ?_
          refine v_getN hC fn_X11_116 m_32 e_46 rfl dX11_turn_76 ?_
          refine v_iload hC dX11_turn_79 rfl ?_
          refine v_aload_n hC dX11_turn_81 rfl ?_
          refine v_get hC fl_X11_19 m_1 e_31 rfl dX11_turn_82 ?_
          refine v_getN hC fn_X11_190 m_32 e_46 rfl dX11_turn_85 ?_
          refine v_iload_n hC dX11_turn_88 rfl ?_
          obtain ⟨q_118, h_119, k_120⟩ := k_98 (a_1 : Int32).toNatClampNeg (clamp_lt (vp_in_iff.mpr (by first | omega | (simp only [Int32.lt_iff_toInt_lt, Int32.le_iff_toInt_le, Int32.reduceToInt, ← Int32.toInt_inj, true_and, and_true, or_true, true_or, false_or, or_false, false_and, and_false, not_true_eq_false, not_false_eq_true] <;> omega))))
          refine v_aald hC m_95 e_99 rfl (vp_in_iff.mpr (by first | omega | (simp only [Int32.lt_iff_toInt_lt, Int32.le_iff_toInt_le, Int32.reduceToInt, ← Int32.toInt_inj, true_and, and_true, or_true, true_or, false_or, or_false, false_and, and_false, not_true_eq_false, not_false_eq_true] <;> omega))) (v := .ref q_118) (by rw [h_119]; rfl) dX11_turn_89 ?_
          refine v_iload hC dX11_turn_90 rfl ?_
          obtain ⟨m_121, q_123, t_122, k_124⟩ := id k_120
          obtain ⟨v_126, e_125, b_127⟩ := hW.at m_121 t_122
          refine v_vi hC (rest := [.int r_60, .ref q_34]) m_121 e_125 rfl mi_X1_stitchAt ms_X1_stitchAt (p_X1_stitchAt hW k_120) mx_X1_stitchAt ml_X11_242 (by decide) rfl (cells1 := 0) (slots1 := 0) (by decide) (by decide) (Nat.le_of_ble_eq_true rfl) (Nat.le_of_ble_eq_true rfl) rfl (Nat.le_of_ble_eq_true rfl) dX11_turn_92 (fun r_128 L_129 f_130 h_131 => ?_)
          obtain ⟨rfl, rfl, h_132⟩ := h_131
          refine v_vi hC (rest := []) m_47 e_53 rfl mi_X4_turnedOver ms_X4_turnedOver (p_X4_turnedOver hW k_40) mx_X4_turnedOver ml_X11_321 (by decide) rfl (cells1 := 0) (slots1 := 0) (by decide) (by decide) (Nat.le_of_ble_eq_true rfl) (Nat.le_of_ble_eq_true rfl) rfl (Nat.le_of_ble_eq_true rfl) dX11_turn_95 (fun r_135 L_136 f_137 h_138 => ?_)
          obtain ⟨rfl, rfl, b_139, h_140⟩ := h_138
          refine v_istore hC dX11_turn_98 (by decide) (lv' := [(5, .int r_135), (4, .int r_60), (0, .ref a_0), (1, .int a_1), (2, .int a_2), (3, .int a_3)]) rfl ?_
          refine v_aload_n hC dX11_turn_100 rfl ?_
          refine v_get hC fl_X11_19 m_1 e_31 rfl dX11_turn_101 ?_
          refine v_getN hC fn_X11_190 m_32 e_46 rfl dX11_turn_104 ?_
          refine v_iload_n hC dX11_turn_107 rfl ?_
          obtain ⟨q_143, h_144, k_145⟩ := k_98 (a_1 : Int32).toNatClampNeg (clamp_lt (vp_in_iff.mpr (by first | omega | (simp only [Int32.lt_iff_toInt_lt, Int32.le_iff_toInt_le, Int32.reduceToInt, ← Int32.toInt_inj, true_and, and_true, or_true, true_or, false_or, or_false, false_and, and_false, not_true_eq_false, not_false_eq_true] <;> omega))))
          refine v_aald hC m_95 e_99 rfl (vp_in_iff.mpr (by first | omega | (simp only [Int32.lt_iff_toInt_lt, Int32.le_iff_toInt_le, Int32.reduceToInt, ← Int32.toInt_inj, true_and, and_true, or_true, true_or, false_or, or_false, false_and, and_false, not_true_eq_false, not_false_eq_true] <;> omega))) (v := .ref q_143) (by rw [h_144]; rfl) dX11_turn_108 ?_
          refine v_iload hC dX11_turn_109 rfl ?_
          refine v_iload hC dX11_turn_111 rfl ?_
          obtain ⟨m_146, q_148, t_147, k_149⟩ := id k_145
          obtain ⟨v_151, e_150, b_152⟩ := hW.at m_146 t_147
          refine v_vv hC (rest := []) m_146 e_150 rfl mi_X1_setStitch ms_X1_setStitch (p_X1_setStitch hW k_145) mx_X1_setStitch ml_X11_324 (by decide) rfl (cells1 := 0) (slots1 := 0) (by decide) (by decide) (Nat.le_of_ble_eq_true rfl) (Nat.le_of_ble_eq_true rfl) rfl (Nat.le_of_ble_eq_true rfl) dX11_turn_113 (fun L_154 f_155 h_156 => ?_)
          obtain ⟨rfl, hW_157, hF_158⟩ := h_156
          have hf_159 := hF_158.at e_31 rfl
          have hf_160 := hF_158.at e_46 rfl
          have hf_161 := hF_158.at e_53 rfl
          have hf_162 := hF_158.at e_99 rfl
          have hf_163 := hF_158.at e_107 rfl
          have hf_164 := hF_158.at e_125 rfl
          have hf_165 := hF_158.at e_150 rfl
          refine v_iload hC dX11_turn_116 rfl ?_
          exact hR _ _ _ _ _ _ _ dX11_turn_118 rfl (Nat.le_of_ble_eq_true rfl) (Nat.le_of_ble_eq_true rfl) ⟨rfl, hW_157, (hF_158.mono rfl), (by first | omega | (simp only [Int32.lt_iff_toInt_lt, Int32.le_iff_toInt_le, Int32.reduceToInt, ← Int32.toInt_inj, true_and, and_true, or_true, true_or, false_or, or_false, false_and, and_false, not_true_eq_false, not_false_eq_true] <;> omega)), (.inr (by first | omega | (simp only [Int32.lt_iff_toInt_lt, Int32.le_iff_toInt_le, Int32.reduceToInt, ← Int32.toInt_inj, true_and, and_true, or_true, true_or, false_or, or_false, false_and, and_false, not_true_eq_false, not_false_eq_true] <;> omega)))⟩
        · simp only [Int32.lt_iff_toInt_lt, Int32.le_iff_toInt_le, Int32.reduceToInt, ← Int32.toInt_inj] at h_117
          refine v_bipush hC dX11_turn_69 (v := (-5)) (by decide) ?_
          exact hR _ _ _ _ _ _ _ dX11_turn_71 rfl (Nat.le_of_ble_eq_true rfl) (Nat.le_of_ble_eq_true rfl) ⟨rfl, hW, FR.rf, (by decide), (.inl (by decide))⟩
      · simp only [Int32.lt_iff_toInt_lt, Int32.le_iff_toInt_le, Int32.reduceToInt, ← Int32.toInt_inj] at h_94
        refine v_bipush hC dX11_turn_48 (v := (-6)) (by decide) ?_
        exact hR _ _ _ _ _ _ _ dX11_turn_50 rfl (Nat.le_of_ble_eq_true rfl) (Nat.le_of_ble_eq_true rfl) ⟨rfl, hW, FR.rf, (by decide), (.inl (by decide))⟩
    · simp only [Int32.lt_iff_toInt_lt, Int32.le_iff_toInt_le, Int32.reduceToInt, ← Int32.toInt_inj] at h_85
      refine v_bipush hC dX11_turn_37 (v := (-2)) (by decide) ?_
      exact hR _ _ _ _ _ _ _ dX11_turn_39 rfl (Nat.le_of_ble_eq_true rfl) (Nat.le_of_ble_eq_true rfl) ⟨rfl, hW, FR.rf, (by decide), (.inl (by decide))⟩
set_option maxRecDepth 100000 in
set_option maxHeartbeats 8000000 in
theorem p_X11_oneTurnPasses {l : Launch} {E : Ez} {L : List Nat} {f : Nat → va_E} {T : Nat → va_E → Prop} {a_0 : Nat} {a_1 : Nat} {a_2 : Int32} (hW : WT T L f) (k_0 : isX T L E a_0) (k_1 : isClo T L E a_1) (g_2 : (0 ≤ a_2.toInt ∧ a_2.toInt ≤ 257)) : CI l yX11_oneTurnPasses cX11_oneTurnPasses 6 .boolean 5 0 0 E [.ref a_0, .ref a_1, .int a_2] L f (fun r L1 f1 => L = L1 ∧ WT T L f1 ∧ FR [6, 105, 116, 356] f f1 ∧ (0 ≤ r.toInt ∧ r.toInt ≤ 1)) := by
  refine ci_of (by decide) (Nat.le_of_ble_eq_true rfl) (fun z hz hnm hC hR => ?_)
  have hC : Cx z E cX11_oneTurnPasses RX11 6 5 0 0 := hC
  subst hz
  show V z E 6 0 0 L f 0 [(0, .ref a_0), (1, .ref a_1), (2, .int a_2)] []
  refine v_iload_n hC dX11_oneTurnPasses_0 rfl ?_
  refine v_istore_n hC dX11_oneTurnPasses_1 (by decide) (lv' := [(3, .int a_2), (0, .ref a_0), (1, .ref a_1), (2, .int a_2)]) rfl ?_
  have lp_664 : ∀ (n_665 : Nat) (f_660 : Nat → va_E) (hW_661 : WT T L f_660) (hF_662 : FR [6, 105, 116, 356] f f_660) (i_659 : Int32) (b_663 : (0 ≤ i_659.toInt ∧ i_659.toInt ≤ 257)) (hm_667 : 257 - i_659.toInt < (n_665 : Int)), V z E 6 0 0 L f_660 2 [(3, .int i_659), (0, .ref a_0), (1, .ref a_1)] [] := by
    intro n_665
    induction n_665 with
    | zero =>
      intro f_660 hW_661 hF_662 i_659 b_663 hm_667
      exfalso; omega
    | succ n_665 ih_666 =>
      intro f_660 hW_661 hF_662 i_659 b_663 hm_667
      refine v_iload_n hC dX11_oneTurnPasses_2 rfl ?_
      refine v_aload_n hC dX11_oneTurnPasses_3 rfl ?_
      obtain ⟨m_668, q_670, q_671, q_672, q_673, q_674, q_675, q_676, q_677, q_678, q_679, q_680, q_681, q_682, q_683, t_669, k_684, k_685, k_686, k_687, k_688, k_689, k_690, k_691, k_692, k_693, k_694, k_695, k_696, k_697⟩ := id k_0
      have e_698 : f_660 a_0 = ob 11 [.ref q_670, .ref q_671, .ref q_672, .ref q_673, .ref q_674, .ref q_675, .ref q_676, .ref q_677, .ref q_678, .ref q_679, .ref q_680, .ref q_681, .ref q_682, .ref q_683] := hW_661.at m_668 t_669
      refine v_get hC fl_X11_19 m_668 e_698 rfl dX11_oneTurnPasses_4 ?_
      obtain ⟨m_699, q_701, q_702, q_703, q_704, q_705, q_706, t_700, k_707, k_708, k_709, k_710, k_711, k_712⟩ := id k_685
      have e_713 : f_660 q_671 = ob 0 [.ref q_701, .ref q_702, .ref q_703, .ref q_704, .ref q_705, .ref q_706] := hW_661.at m_699 t_700
      refine v_getN hC fn_X11_116 m_699 e_713 rfl dX11_oneTurnPasses_7 ?_
      obtain ⟨m_714, q_716, q_717, t_715, k_718, k_719⟩ := id k_707
      obtain ⟨v_721, v_723, v_725, e_720, b_722, b_724, b_726⟩ := hW_661.at m_714 t_715
      refine v_getN hC fn_X11_126 m_714 e_720 rfl dX11_oneTurnPasses_10 ?_
      refine v_icmp_ge hC dX11_oneTurnPasses_13 (tgt := 103) (by decide) (fun h_727 => ?_) (fun h_727 => ?_)
      · simp only [Int32.lt_iff_toInt_lt, Int32.le_iff_toInt_le, Int32.reduceToInt, ← Int32.toInt_inj] at h_727
        refine v_iconst hC dX11_oneTurnPasses_103 (v := 0) (by decide) ?_
        exact hR _ _ _ _ _ _ _ dX11_oneTurnPasses_104 rfl (Nat.le_of_ble_eq_true rfl) (Nat.le_of_ble_eq_true rfl) ⟨rfl, hW_661, (hF_662.mono rfl), (by decide)⟩
      · simp only [Int32.lt_iff_toInt_lt, Int32.le_iff_toInt_le, Int32.reduceToInt, ← Int32.toInt_inj] at h_727
        refine v_aload_n hC dX11_oneTurnPasses_16 rfl ?_
        refine v_get hC fl_X11_19 m_668 e_698 rfl dX11_oneTurnPasses_17 ?_
        refine v_getN hC fn_X11_116 m_699 e_713 rfl dX11_oneTurnPasses_20 ?_
        refine v_iload_n hC dX11_oneTurnPasses_23 rfl ?_
        refine v_vi hC (rest := []) m_714 e_720 rfl mi_X4_freePlace ms_X4_freePlace (p_X4_freePlace hW_661 k_707) mx_X4_freePlace ml_X11_301 (by decide) rfl (cells1 := 0) (slots1 := 0) (by decide) (by decide) (Nat.le_of_ble_eq_true rfl) (Nat.le_of_ble_eq_true rfl) rfl (Nat.le_of_ble_eq_true rfl) dX11_oneTurnPasses_24 (fun r_728 L_729 f_730 h_731 => ?_)
        obtain ⟨rfl, rfl, h_732⟩ := h_731
        refine v_istore hC dX11_oneTurnPasses_27 (by decide) (lv' := [(4, .int r_728), (3, .int i_659), (0, .ref a_0), (1, .ref a_1)]) rfl ?_
        refine v_aload_n hC dX11_oneTurnPasses_29 rfl ?_
        refine v_iload hC dX11_oneTurnPasses_30 rfl ?_
        obtain ⟨m_735, q_737, t_736, k_738⟩ := id k_1
        obtain ⟨v_740, e_739, b_741⟩ := hW_661.at m_735 t_736
        refine v_vi hC (rest := []) m_735 e_739 rfl mi_X1_stitchAt ms_X1_stitchAt (p_X1_stitchAt hW_661 k_1) mx_X1_stitchAt ml_X11_242 (by decide) rfl (cells1 := 0) (slots1 := 0) (by decide) (by decide) (Nat.le_of_ble_eq_true rfl) (Nat.le_of_ble_eq_true rfl) rfl (Nat.le_of_ble_eq_true rfl) dX11_oneTurnPasses_32 (fun r_742 L_743 f_744 h_745 => ?_)
        obtain ⟨rfl, rfl, h_746⟩ := h_745
        refine v_istore hC dX11_oneTurnPasses_35 (by decide) (lv' := [(5, .int r_742), (4, .int r_728), (3, .int i_659), (0, .ref a_0), (1, .ref a_1)]) rfl ?_
        refine v_iload hC dX11_oneTurnPasses_37 rfl ?_
        refine v_iconst hC dX11_oneTurnPasses_39 (v := 4) (by decide) ?_
        refine v_icmp_eq hC dX11_oneTurnPasses_40 (tgt := 97) (by decide) (fun h_749 => ?_) (fun h_749 => ?_)
        · simp only [Int32.lt_iff_toInt_lt, Int32.le_iff_toInt_le, Int32.reduceToInt, ← Int32.toInt_inj] at h_749
          obtain ⟨v_750, h_751⟩ : ∃ v9 : Int32, i_659 + Int32.ofInt 1 = v9 := ⟨_, rfl⟩
          have h_752 := add_v (b := 1) h_751 (by first | omega | (simp only [Int32.lt_iff_toInt_lt, Int32.le_iff_toInt_le, Int32.reduceToInt, ← Int32.toInt_inj, true_and, and_true, or_true, true_or, false_or, or_false, false_and, and_false, not_true_eq_false, not_false_eq_true] <;> omega)) (by first | omega | (simp only [Int32.lt_iff_toInt_lt, Int32.le_iff_toInt_le, Int32.reduceToInt, ← Int32.toInt_inj, true_and, and_true, or_true, true_or, false_or, or_false, false_and, and_false, not_true_eq_false, not_false_eq_true] <;> omega))
          simp only [Int32.reduceToInt] at h_752
          refine v_iinc hC dX11_oneTurnPasses_97 (k := 2) rfl (v := v_750) h_751 (by decide) (lv' := [(3, .int v_750), (5, .int r_742), (4, .int r_728), (0, .ref a_0), (1, .ref a_1)]) rfl ?_
          refine v_goto hC dX11_oneTurnPasses_100 (tgt := 2) (by decide) ?_
          refine v_pick [0, 3, 4] rfl ?_
          exact ih_666 f_660 hW_661 (hF_662.mono rfl) v_750 (by first | omega | (simp only [Int32.lt_iff_toInt_lt, Int32.le_iff_toInt_le, Int32.reduceToInt, ← Int32.toInt_inj, true_and, and_true, or_true, true_or, false_or, or_false, false_and, and_false, not_true_eq_false, not_false_eq_true] <;> omega)) (by first | omega | (simp only [Int32.lt_iff_toInt_lt, Int32.le_iff_toInt_le, Int32.reduceToInt, ← Int32.toInt_inj, true_and, and_true, or_true, true_or, false_or, or_false, false_and, and_false, not_true_eq_false, not_false_eq_true] <;> omega))
        · simp only [Int32.lt_iff_toInt_lt, Int32.le_iff_toInt_le, Int32.reduceToInt, ← Int32.toInt_inj] at h_749
          refine v_aload_n hC dX11_oneTurnPasses_43 rfl ?_
          refine v_get hC fl_X11_92 m_668 e_698 rfl dX11_oneTurnPasses_44 ?_
          refine v_iload hC dX11_oneTurnPasses_47 rfl ?_
          refine v_aload_n hC dX11_oneTurnPasses_49 rfl ?_
          refine v_get hC fl_X11_19 m_668 e_698 rfl dX11_oneTurnPasses_50 ?_
          refine v_getN hC fn_X11_116 m_699 e_713 rfl dX11_oneTurnPasses_53 ?_
          refine v_iload hC dX11_oneTurnPasses_56 rfl ?_
          refine v_iload hC dX11_oneTurnPasses_58 rfl ?_
          refine v_vi hC (rest := [.int r_728, .ref q_683]) m_714 e_720 rfl mi_X4_turnedOver ms_X4_turnedOver (p_X4_turnedOver hW_661 k_707) mx_X4_turnedOver ml_X11_321 (by decide) rfl (cells1 := 0) (slots1 := 0) (by decide) (by decide) (Nat.le_of_ble_eq_true rfl) (Nat.le_of_ble_eq_true rfl) rfl (Nat.le_of_ble_eq_true rfl) dX11_oneTurnPasses_60 (fun r_753 L_754 f_755 h_756 => ?_)
          obtain ⟨rfl, rfl, b_757, h_758⟩ := h_756
          obtain ⟨m_761, q_763, q_764, q_765, q_766, q_767, t_762, k_768, k_769, k_770, k_771, k_772⟩ := id k_697
          obtain ⟨v_774, v_775, v_777, v_779, v_780, e_773, b_776, b_778⟩ := hW_661.at m_761 t_762
          refine v_vv hC (rest := []) m_761 e_773 rfl mi_X6_change ms_X6_change (p_X6_change hW_661 k_697) mx_X6_change ml_X11_332 (by decide) rfl (cells1 := 0) (slots1 := 0) (by decide) (by decide) (Nat.le_of_ble_eq_true rfl) (Nat.le_of_ble_eq_true rfl) rfl (Nat.le_of_ble_eq_true rfl) dX11_oneTurnPasses_63 (fun L_782 f_783 h_784 => ?_)
          obtain ⟨rfl, hW_785, hF_786⟩ := h_784
          have hf_787 := hF_786.at e_698 rfl
          have hf_788 := hF_786.at e_713 rfl
          have hf_789 := hF_786.at e_720 rfl
          have hf_790 := hF_786.at e_739 rfl
          refine v_aload_n hC dX11_oneTurnPasses_66 rfl ?_
          refine v_get hC fl_X11_19 m_668 hf_787 rfl dX11_oneTurnPasses_67 ?_
          refine v_getN hC fn_X11_158 m_699 hf_788 rfl dX11_oneTurnPasses_70 ?_
          refine v_aload_n hC dX11_oneTurnPasses_73 rfl ?_
          refine v_get hC fl_X11_92 m_668 hf_787 rfl dX11_oneTurnPasses_74 ?_
          obtain ⟨m_791, q_793, t_792, k_794⟩ := id k_710
          obtain ⟨v_796, v_798, e_795, b_797⟩ := hW_785.at m_791 t_792
          refine v_vi hC (rest := []) m_791 e_795 rfl mi_X9_lineThatStops ms_X9_lineThatStops (p_X9_lineThatStops hW_785 k_710 k_697) mx_X9_lineThatStops ml_X11_425 (by decide) rfl (cells1 := 0) (slots1 := 0) (by decide) (by decide) (Nat.le_of_ble_eq_true rfl) (Nat.le_of_ble_eq_true rfl) rfl (Nat.le_of_ble_eq_true rfl) dX11_oneTurnPasses_77 (fun r_799 L_800 f_801 h_802 => ?_)
          obtain ⟨rfl, rfl⟩ := h_802
          refine v_iconst hC dX11_oneTurnPasses_80 (v := (-1)) (by decide) ?_
          refine v_icmp_ne hC dX11_oneTurnPasses_81 (tgt := 86) (by decide) (fun h_805 => ?_) (fun h_805 => ?_)
          · simp only [Int32.lt_iff_toInt_lt, Int32.le_iff_toInt_le, Int32.reduceToInt, ← Int32.toInt_inj] at h_805
            refine v_aload_n hC dX11_oneTurnPasses_86 rfl ?_
            refine v_get hC fl_X11_92 m_668 hf_787 rfl dX11_oneTurnPasses_87 ?_
            refine v_iload hC dX11_oneTurnPasses_90 rfl ?_
            refine v_iload hC dX11_oneTurnPasses_92 rfl ?_
            obtain ⟨v_807, v_808, v_810, v_812, v_813, e_806, b_809, b_811⟩ := hW_785.at m_761 t_762
            refine v_vv hC (rest := []) m_761 e_806 rfl mi_X6_change ms_X6_change (p_X6_change hW_785 k_697) mx_X6_change ml_X11_332 (by decide) rfl (cells1 := 0) (slots1 := 0) (by decide) (by decide) (Nat.le_of_ble_eq_true rfl) (Nat.le_of_ble_eq_true rfl) rfl (Nat.le_of_ble_eq_true rfl) dX11_oneTurnPasses_94 (fun L_815 f_816 h_817 => ?_)
            obtain ⟨rfl, hW_818, hF_819⟩ := h_817
            have hf_820 := hF_819.at hf_787 rfl
            have hf_821 := hF_819.at hf_788 rfl
            have hf_822 := hF_819.at hf_789 rfl
            have hf_823 := hF_819.at hf_790 rfl
            have hf_824 := hF_819.at e_795 rfl
            obtain ⟨v_825, h_826⟩ : ∃ v9 : Int32, i_659 + Int32.ofInt 1 = v9 := ⟨_, rfl⟩
            have h_827 := add_v (b := 1) h_826 (by first | omega | (simp only [Int32.lt_iff_toInt_lt, Int32.le_iff_toInt_le, Int32.reduceToInt, ← Int32.toInt_inj, true_and, and_true, or_true, true_or, false_or, or_false, false_and, and_false, not_true_eq_false, not_false_eq_true] <;> omega)) (by first | omega | (simp only [Int32.lt_iff_toInt_lt, Int32.le_iff_toInt_le, Int32.reduceToInt, ← Int32.toInt_inj, true_and, and_true, or_true, true_or, false_or, or_false, false_and, and_false, not_true_eq_false, not_false_eq_true] <;> omega))
            simp only [Int32.reduceToInt] at h_827
            refine v_iinc hC dX11_oneTurnPasses_97 (k := 2) rfl (v := v_825) h_826 (by decide) (lv' := [(3, .int v_825), (5, .int r_742), (4, .int r_728), (0, .ref a_0), (1, .ref a_1)]) rfl ?_
            refine v_goto hC dX11_oneTurnPasses_100 (tgt := 2) (by decide) ?_
            refine v_pick [0, 3, 4] rfl ?_
            exact ih_666 f_816 hW_818 (((hF_662.tr hF_786).tr hF_819).mono rfl) v_825 (by first | omega | (simp only [Int32.lt_iff_toInt_lt, Int32.le_iff_toInt_le, Int32.reduceToInt, ← Int32.toInt_inj, true_and, and_true, or_true, true_or, false_or, or_false, false_and, and_false, not_true_eq_false, not_false_eq_true] <;> omega)) (by first | omega | (simp only [Int32.lt_iff_toInt_lt, Int32.le_iff_toInt_le, Int32.reduceToInt, ← Int32.toInt_inj, true_and, and_true, or_true, true_or, false_or, or_false, false_and, and_false, not_true_eq_false, not_false_eq_true] <;> omega))
          · simp only [Int32.lt_iff_toInt_lt, Int32.le_iff_toInt_le, Int32.reduceToInt, ← Int32.toInt_inj] at h_805
            refine v_iconst hC dX11_oneTurnPasses_84 (v := 1) (by decide) ?_
            exact hR _ _ _ _ _ _ _ dX11_oneTurnPasses_85 rfl (Nat.le_of_ble_eq_true rfl) (Nat.le_of_ble_eq_true rfl) ⟨rfl, hW_785, ((hF_662.tr hF_786).mono rfl), (by decide)⟩
  refine v_pick [0, 1, 2] rfl ?_
  exact lp_664 259 f hW FR.rf a_2 (by first | omega | (simp only [Int32.lt_iff_toInt_lt, Int32.le_iff_toInt_le, Int32.reduceToInt, ← Int32.toInt_inj, true_and, and_true, or_true, true_or, false_or, or_false, false_and, and_false, not_true_eq_false, not_false_eq_true] <;> omega)) (by first | omega | (simp only [Int32.lt_iff_toInt_lt, Int32.le_iff_toInt_le, Int32.reduceToInt, ← Int32.toInt_inj, true_and, and_true, or_true, true_or, false_or, or_false, false_and, and_false, not_true_eq_false, not_false_eq_true] <;> omega))
set_option maxRecDepth 100000 in
set_option maxHeartbeats 8000000 in
theorem p_X11_mend {l : Launch} {E : Ez} {L : List Nat} {f : Nat → va_E} {T : Nat → va_E → Prop} {a_0 : Nat} {a_1 : Int32} (hW : WT T L f) (k_0 : isX T L E a_0) : CI l yX11_mend cX11_mend 7 .int 6 0 0 E [.ref a_0, .int a_1] L f (fun r L1 f1 => L = L1 ∧ WT T L f1 ∧ FR [1, 6, 105, 116, 356] f f1 ∧ ((-6) ≤ r.toInt ∧ r.toInt ≤ 2) ∧ (¬ r.toInt = 0 ∨ (0 ≤ a_1.toInt ∧ a_1.toInt ≤ 3))) := by
  refine ci_of (by decide) (Nat.le_of_ble_eq_true rfl) (fun z hz hnm hC hR => ?_)
  have hC : Cx z E cX11_mend RX11 7 6 0 0 := hC
  subst hz
  show V z E 7 0 0 L f 0 [(0, .ref a_0), (1, .int a_1)] []
  refine v_aload_n hC dX11_mend_0 rfl ?_
  refine v_iload_n hC dX11_mend_1 rfl ?_
  obtain ⟨m_1, q_3, q_4, q_5, q_6, q_7, q_8, q_9, q_10, q_11, q_12, q_13, q_14, q_15, q_16, t_2, k_17, k_18, k_19, k_20, k_21, k_22, k_23, k_24, k_25, k_26, k_27, k_28, k_29, k_30⟩ := id k_0
  have e_31 : f a_0 = ob 11 [.ref q_3, .ref q_4, .ref q_5, .ref q_6, .ref q_7, .ref q_8, .ref q_9, .ref q_10, .ref q_11, .ref q_12, .ref q_13, .ref q_14, .ref q_15, .ref q_16] := hW.at m_1 t_2
  refine v_vi hC (rest := []) m_1 e_31 rfl mi_X11_refusalOfCloth ms_X11_refusalOfCloth (p_X11_refusalOfCloth hW k_0) mx_X11_refusalOfCloth ml_X11_229 (by decide) rfl (cells1 := 0) (slots1 := 0) (by decide) (by decide) (Nat.le_of_ble_eq_true rfl) (Nat.le_of_ble_eq_true rfl) rfl (Nat.le_of_ble_eq_true rfl) dX11_mend_2 (fun r_32 L_33 f_34 h_35 => ?_)
  obtain ⟨rfl, rfl, b_36, h_37⟩ := h_35
  refine v_istore_n hC dX11_mend_5 (by decide) (lv' := [(2, .int r_32), (0, .ref a_0), (1, .int a_1)]) rfl ?_
  refine v_iload_n hC dX11_mend_6 rfl ?_
  refine v_if_eq hC dX11_mend_7 (tgt := 12) (by decide) (fun h_40 => ?_) (fun h_40 => ?_)
  · simp only [Int32.lt_iff_toInt_lt, Int32.le_iff_toInt_le, Int32.reduceToInt, ← Int32.toInt_inj] at h_40
    refine v_aload_n hC dX11_mend_12 rfl ?_
    refine v_get hC fl_X11_19 m_1 e_31 rfl dX11_mend_13 ?_
    obtain ⟨m_41, q_43, q_44, q_45, q_46, q_47, q_48, t_42, k_49, k_50, k_51, k_52, k_53, k_54⟩ := id k_18
    have e_55 : f q_4 = ob 0 [.ref q_43, .ref q_44, .ref q_45, .ref q_46, .ref q_47, .ref q_48] := hW.at m_41 t_42
    refine v_getN hC fn_X11_190 m_41 e_55 rfl dX11_mend_16 ?_
    refine v_iload_n hC dX11_mend_19 rfl ?_
    obtain ⟨m_56, g_58, t_57, k_59⟩ := id k_54
    have e_60 : f q_48 = aR E 5 4 g_58 := hW.at m_56 t_57
    obtain ⟨q_61, h_62, k_63⟩ := k_59 (a_1 : Int32).toNatClampNeg (clamp_lt (vp_in_iff.mpr (by first | omega | (simp only [Int32.lt_iff_toInt_lt, Int32.le_iff_toInt_le, Int32.reduceToInt, ← Int32.toInt_inj, true_and, and_true, or_true, true_or, false_or, or_false, false_and, and_false, not_true_eq_false, not_false_eq_true] <;> omega))))
    refine v_aald hC m_56 e_60 rfl (vp_in_iff.mpr (by first | omega | (simp only [Int32.lt_iff_toInt_lt, Int32.le_iff_toInt_le, Int32.reduceToInt, ← Int32.toInt_inj, true_and, and_true, or_true, true_or, false_or, or_false, false_and, and_false, not_true_eq_false, not_false_eq_true] <;> omega))) (v := .ref q_61) (by rw [h_62]; rfl) dX11_mend_20 ?_
    refine v_astore_n hC dX11_mend_21 (by decide) (lv' := [(3, .ref q_61), (2, .int r_32), (0, .ref a_0), (1, .int a_1)]) rfl ?_
    refine v_aload_n hC dX11_mend_22 rfl ?_
    refine v_aload_n hC dX11_mend_23 rfl ?_
    refine v_vi hC (rest := []) m_1 e_31 rfl mi_X11_lineThatStops ms_X11_lineThatStops (p_X11_lineThatStops hW k_0 k_63) mx_X11_lineThatStops ml_X11_272 (by decide) rfl (cells1 := 0) (slots1 := 0) (by decide) (by decide) (Nat.le_of_ble_eq_true rfl) (Nat.le_of_ble_eq_true rfl) rfl (Nat.le_of_ble_eq_true rfl) dX11_mend_24 (fun r_64 L_65 f_66 h_67 => ?_)
    obtain ⟨rfl, hW_68, hF_69⟩ := h_67
    have hf_70 := hF_69.at e_31 rfl
    have hf_71 := hF_69.at e_55 rfl
    have hf_72 := hF_69.at e_60 rfl
    refine v_iconst hC dX11_mend_27 (v := (-1)) (by decide) ?_
    refine v_icmp_ne hC dX11_mend_28 (tgt := 33) (by decide) (fun h_73 => ?_) (fun h_73 => ?_)
    · simp only [Int32.lt_iff_toInt_lt, Int32.le_iff_toInt_le, Int32.reduceToInt, ← Int32.toInt_inj] at h_73
      refine v_aload_n hC dX11_mend_33 rfl ?_
      refine v_aload_n hC dX11_mend_34 rfl ?_
      refine v_iconst hC dX11_mend_35 (v := 0) (by decide) ?_
      refine v_vi hC (rest := []) m_1 hf_70 rfl mi_X11_oneTurnPasses ms_X11_oneTurnPasses (p_X11_oneTurnPasses hW_68 k_0 k_63 (by decide)) mx_X11_oneTurnPasses ml_X11_328 (by decide) rfl (cells1 := 0) (slots1 := 0) (by decide) (by decide) (Nat.le_of_ble_eq_true rfl) (Nat.le_of_ble_eq_true rfl) rfl (Nat.le_of_ble_eq_true rfl) dX11_mend_36 (fun r_74 L_75 f_76 h_77 => ?_)
      obtain ⟨rfl, hW_79, hF_80, b_78⟩ := h_77
      have hf_81 := hF_80.at hf_70 rfl
      have hf_82 := hF_80.at hf_71 rfl
      have hf_83 := hF_80.at hf_72 rfl
      refine v_if_eq hC dX11_mend_39 (tgt := 44) (by decide) (fun h_84 => ?_) (fun h_84 => ?_)
      · simp only [Int32.lt_iff_toInt_lt, Int32.le_iff_toInt_le, Int32.reduceToInt, ← Int32.toInt_inj] at h_84
        refine v_iconst hC dX11_mend_44 (v := 0) (by decide) ?_
        refine v_istore hC dX11_mend_45 (by decide) (lv' := [(4, .int 0), (3, .ref q_61), (2, .int r_32), (0, .ref a_0), (1, .int a_1)]) rfl ?_
        have lp_591 : ∀ (n_592 : Nat) (f_584 : Nat → va_E) (hW_585 : WT T L f_584) (hF_586 : FR [6, 105, 116, 356] f_76 f_584) (i_583 : Int32) (b_590 : (0 ≤ i_583.toInt ∧ i_583.toInt ≤ 256)) (hm_594 : 256 - i_583.toInt < (n_592 : Int)), V z E 7 0 0 L f_584 47 [(4, .int i_583), (3, .ref q_61), (0, .ref a_0)] [] := by
          intro n_592
          induction n_592 with
          | zero =>
            intro f_584 hW_585 hF_586 i_583 b_590 hm_594
            have hf_587 := hF_586.at hf_81 rfl
            have hf_588 := hF_586.at hf_82 rfl
            have hf_589 := hF_586.at hf_83 rfl
            exfalso; omega
          | succ n_592 ih_593 =>
            intro f_584 hW_585 hF_586 i_583 b_590 hm_594
            have hf_587 := hF_586.at hf_81 rfl
            have hf_588 := hF_586.at hf_82 rfl
            have hf_589 := hF_586.at hf_83 rfl
            refine v_iload hC dX11_mend_47 rfl ?_
            refine v_aload_n hC dX11_mend_49 rfl ?_
            refine v_get hC fl_X11_19 m_1 hf_587 rfl dX11_mend_50 ?_
            refine v_getN hC fn_X11_116 m_41 hf_588 rfl dX11_mend_53 ?_
            obtain ⟨m_595, q_597, q_598, t_596, k_599, k_600⟩ := id k_49
            obtain ⟨v_602, v_604, v_606, e_601, b_603, b_605, b_607⟩ := hW_585.at m_595 t_596
            refine v_getN hC fn_X11_126 m_595 e_601 rfl dX11_mend_56 ?_
            refine v_icmp_ge hC dX11_mend_59 (tgt := 144) (by decide) (fun h_608 => ?_) (fun h_608 => ?_)
            · simp only [Int32.lt_iff_toInt_lt, Int32.le_iff_toInt_le, Int32.reduceToInt, ← Int32.toInt_inj] at h_608
              refine v_iconst hC dX11_mend_144 (v := (-1)) (by decide) ?_
              exact hR _ _ _ _ _ _ _ dX11_mend_145 rfl (Nat.le_of_ble_eq_true rfl) (Nat.le_of_ble_eq_true rfl) ⟨rfl, hW_585, (((hF_69.tr hF_80).tr hF_586).mono rfl), (by decide), (.inl (by decide))⟩
            · simp only [Int32.lt_iff_toInt_lt, Int32.le_iff_toInt_le, Int32.reduceToInt, ← Int32.toInt_inj] at h_608
              refine v_aload_n hC dX11_mend_62 rfl ?_
              refine v_get hC fl_X11_19 m_1 hf_587 rfl dX11_mend_63 ?_
              refine v_getN hC fn_X11_116 m_41 hf_588 rfl dX11_mend_66 ?_
              refine v_iload hC dX11_mend_69 rfl ?_
              refine v_vi hC (rest := []) m_595 e_601 rfl mi_X4_freePlace ms_X4_freePlace (p_X4_freePlace hW_585 k_49) mx_X4_freePlace ml_X11_301 (by decide) rfl (cells1 := 0) (slots1 := 0) (by decide) (by decide) (Nat.le_of_ble_eq_true rfl) (Nat.le_of_ble_eq_true rfl) rfl (Nat.le_of_ble_eq_true rfl) dX11_mend_71 (fun r_609 L_610 f_611 h_612 => ?_)
              obtain ⟨rfl, rfl, h_613⟩ := h_612
              refine v_istore hC dX11_mend_74 (by decide) (lv' := [(5, .int r_609), (4, .int i_583), (3, .ref q_61), (0, .ref a_0)]) rfl ?_
              refine v_aload_n hC dX11_mend_76 rfl ?_
              refine v_iload hC dX11_mend_77 rfl ?_
              obtain ⟨m_616, q_618, t_617, k_619⟩ := id k_63
              obtain ⟨v_621, e_620, b_622⟩ := hW_585.at m_616 t_617
              refine v_vi hC (rest := []) m_616 e_620 rfl mi_X1_stitchAt ms_X1_stitchAt (p_X1_stitchAt hW_585 k_63) mx_X1_stitchAt ml_X11_242 (by decide) rfl (cells1 := 0) (slots1 := 0) (by decide) (by decide) (Nat.le_of_ble_eq_true rfl) (Nat.le_of_ble_eq_true rfl) rfl (Nat.le_of_ble_eq_true rfl) dX11_mend_79 (fun r_623 L_624 f_625 h_626 => ?_)
              obtain ⟨rfl, rfl, h_627⟩ := h_626
              refine v_istore hC dX11_mend_82 (by decide) (lv' := [(6, .int r_623), (5, .int r_609), (4, .int i_583), (3, .ref q_61), (0, .ref a_0)]) rfl ?_
              refine v_iload hC dX11_mend_84 rfl ?_
              refine v_iconst hC dX11_mend_86 (v := 4) (by decide) ?_
              refine v_icmp_eq hC dX11_mend_87 (tgt := 138) (by decide) (fun h_630 => ?_) (fun h_630 => ?_)
              · simp only [Int32.lt_iff_toInt_lt, Int32.le_iff_toInt_le, Int32.reduceToInt, ← Int32.toInt_inj] at h_630
                obtain ⟨v_631, h_632⟩ : ∃ v9 : Int32, i_583 + Int32.ofInt 1 = v9 := ⟨_, rfl⟩
                have h_633 := add_v (b := 1) h_632 (by first | omega | (simp only [Int32.lt_iff_toInt_lt, Int32.le_iff_toInt_le, Int32.reduceToInt, ← Int32.toInt_inj, true_and, and_true, or_true, true_or, false_or, or_false, false_and, and_false, not_true_eq_false, not_false_eq_true] <;> omega)) (by first | omega | (simp only [Int32.lt_iff_toInt_lt, Int32.le_iff_toInt_le, Int32.reduceToInt, ← Int32.toInt_inj, true_and, and_true, or_true, true_or, false_or, or_false, false_and, and_false, not_true_eq_false, not_false_eq_true] <;> omega))
                simp only [Int32.reduceToInt] at h_633
                refine v_iinc hC dX11_mend_138 (k := 2) rfl (v := v_631) h_632 (by decide) (lv' := [(4, .int v_631), (6, .int r_623), (5, .int r_609), (3, .ref q_61), (0, .ref a_0)]) rfl ?_
                refine v_goto hC dX11_mend_141 (tgt := 47) (by decide) ?_
                refine v_pick [0, 3, 4] rfl ?_
                exact ih_593 f_584 hW_585 (hF_586.mono rfl) v_631 (by first | omega | (simp only [Int32.lt_iff_toInt_lt, Int32.le_iff_toInt_le, Int32.reduceToInt, ← Int32.toInt_inj, true_and, and_true, or_true, true_or, false_or, or_false, false_and, and_false, not_true_eq_false, not_false_eq_true] <;> omega)) (by first | omega | (simp only [Int32.lt_iff_toInt_lt, Int32.le_iff_toInt_le, Int32.reduceToInt, ← Int32.toInt_inj, true_and, and_true, or_true, true_or, false_or, or_false, false_and, and_false, not_true_eq_false, not_false_eq_true] <;> omega))
              · simp only [Int32.lt_iff_toInt_lt, Int32.le_iff_toInt_le, Int32.reduceToInt, ← Int32.toInt_inj] at h_630
                refine v_aload_n hC dX11_mend_90 rfl ?_
                refine v_get hC fl_X11_92 m_1 hf_587 rfl dX11_mend_91 ?_
                refine v_iload hC dX11_mend_94 rfl ?_
                refine v_aload_n hC dX11_mend_96 rfl ?_
                refine v_get hC fl_X11_19 m_1 hf_587 rfl dX11_mend_97 ?_
                refine v_getN hC fn_X11_116 m_41 hf_588 rfl dX11_mend_100 ?_
                refine v_iload hC dX11_mend_103 rfl ?_
                refine v_iload hC dX11_mend_105 rfl ?_
                refine v_vi hC (rest := [.int r_609, .ref q_16]) m_595 e_601 rfl mi_X4_turnedOver ms_X4_turnedOver (p_X4_turnedOver hW_585 k_49) mx_X4_turnedOver ml_X11_321 (by decide) rfl (cells1 := 0) (slots1 := 0) (by decide) (by decide) (Nat.le_of_ble_eq_true rfl) (Nat.le_of_ble_eq_true rfl) rfl (Nat.le_of_ble_eq_true rfl) dX11_mend_107 (fun r_634 L_635 f_636 h_637 => ?_)
                obtain ⟨rfl, rfl, b_638, h_639⟩ := h_637
                obtain ⟨m_642, q_644, q_645, q_646, q_647, q_648, t_643, k_649, k_650, k_651, k_652, k_653⟩ := id k_30
                obtain ⟨v_655, v_656, v_658, v_660, v_661, e_654, b_657, b_659⟩ := hW_585.at m_642 t_643
                refine v_vv hC (rest := []) m_642 e_654 rfl mi_X6_change ms_X6_change (p_X6_change hW_585 k_30) mx_X6_change ml_X11_332 (by decide) rfl (cells1 := 0) (slots1 := 0) (by decide) (by decide) (Nat.le_of_ble_eq_true rfl) (Nat.le_of_ble_eq_true rfl) rfl (Nat.le_of_ble_eq_true rfl) dX11_mend_110 (fun L_663 f_664 h_665 => ?_)
                obtain ⟨rfl, hW_666, hF_667⟩ := h_665
                have hf_668 := hF_667.at hf_587 rfl
                have hf_669 := hF_667.at hf_588 rfl
                have hf_670 := hF_667.at hf_589 rfl
                have hf_671 := hF_667.at e_601 rfl
                have hf_672 := hF_667.at e_620 rfl
                refine v_aload_n hC dX11_mend_113 rfl ?_
                refine v_aload_n hC dX11_mend_114 rfl ?_
                refine v_iload hC dX11_mend_115 rfl ?_
                refine v_iconst hC dX11_mend_117 (v := 1) (by decide) ?_
                obtain ⟨v_673, h_674⟩ : ∃ v9 : Int32, i_583 + 1 = v9 := ⟨_, rfl⟩
                refine v_iadd hC dX11_mend_118 h_674 ?_
                have h_675 := add_v h_674 (by first | omega | (simp only [Int32.lt_iff_toInt_lt, Int32.le_iff_toInt_le, Int32.reduceToInt, ← Int32.toInt_inj, true_and, and_true, or_true, true_or, false_or, or_false, false_and, and_false, not_true_eq_false, not_false_eq_true] <;> omega)) (by first | omega | (simp only [Int32.lt_iff_toInt_lt, Int32.le_iff_toInt_le, Int32.reduceToInt, ← Int32.toInt_inj, true_and, and_true, or_true, true_or, false_or, or_false, false_and, and_false, not_true_eq_false, not_false_eq_true] <;> omega))
                try simp only [Int32.reduceToInt] at h_675
                refine v_vi hC (rest := []) m_1 hf_668 rfl mi_X11_oneTurnPasses ms_X11_oneTurnPasses (p_X11_oneTurnPasses hW_666 k_0 k_63 (by first | omega | (simp only [Int32.lt_iff_toInt_lt, Int32.le_iff_toInt_le, Int32.reduceToInt, ← Int32.toInt_inj, true_and, and_true, or_true, true_or, false_or, or_false, false_and, and_false, not_true_eq_false, not_false_eq_true] <;> omega))) mx_X11_oneTurnPasses ml_X11_328 (by decide) rfl (cells1 := 0) (slots1 := 0) (by decide) (by decide) (Nat.le_of_ble_eq_true rfl) (Nat.le_of_ble_eq_true rfl) rfl (Nat.le_of_ble_eq_true rfl) dX11_mend_119 (fun r_676 L_677 f_678 h_679 => ?_)
                obtain ⟨rfl, hW_681, hF_682, b_680⟩ := h_679
                have hf_683 := hF_682.at hf_668 rfl
                have hf_684 := hF_682.at hf_669 rfl
                have hf_685 := hF_682.at hf_670 rfl
                have hf_686 := hF_682.at hf_671 rfl
                have hf_687 := hF_682.at hf_672 rfl
                refine v_if_eq hC dX11_mend_122 (tgt := 127) (by decide) (fun h_688 => ?_) (fun h_688 => ?_)
                · simp only [Int32.lt_iff_toInt_lt, Int32.le_iff_toInt_le, Int32.reduceToInt, ← Int32.toInt_inj] at h_688
                  refine v_aload_n hC dX11_mend_127 rfl ?_
                  refine v_get hC fl_X11_92 m_1 hf_683 rfl dX11_mend_128 ?_
                  refine v_iload hC dX11_mend_131 rfl ?_
                  refine v_iload hC dX11_mend_133 rfl ?_
                  obtain ⟨v_690, v_691, v_693, v_695, v_696, e_689, b_692, b_694⟩ := hW_681.at m_642 t_643
                  refine v_vv hC (rest := []) m_642 e_689 rfl mi_X6_change ms_X6_change (p_X6_change hW_681 k_30) mx_X6_change ml_X11_332 (by decide) rfl (cells1 := 0) (slots1 := 0) (by decide) (by decide) (Nat.le_of_ble_eq_true rfl) (Nat.le_of_ble_eq_true rfl) rfl (Nat.le_of_ble_eq_true rfl) dX11_mend_135 (fun L_698 f_699 h_700 => ?_)
                  obtain ⟨rfl, hW_701, hF_702⟩ := h_700
                  have hf_703 := hF_702.at hf_683 rfl
                  have hf_704 := hF_702.at hf_684 rfl
                  have hf_705 := hF_702.at hf_685 rfl
                  have hf_706 := hF_702.at hf_686 rfl
                  have hf_707 := hF_702.at hf_687 rfl
                  obtain ⟨v_708, h_709⟩ : ∃ v9 : Int32, i_583 + Int32.ofInt 1 = v9 := ⟨_, rfl⟩
                  have h_710 := add_v (b := 1) h_709 (by first | omega | (simp only [Int32.lt_iff_toInt_lt, Int32.le_iff_toInt_le, Int32.reduceToInt, ← Int32.toInt_inj, true_and, and_true, or_true, true_or, false_or, or_false, false_and, and_false, not_true_eq_false, not_false_eq_true] <;> omega)) (by first | omega | (simp only [Int32.lt_iff_toInt_lt, Int32.le_iff_toInt_le, Int32.reduceToInt, ← Int32.toInt_inj, true_and, and_true, or_true, true_or, false_or, or_false, false_and, and_false, not_true_eq_false, not_false_eq_true] <;> omega))
                  simp only [Int32.reduceToInt] at h_710
                  refine v_iinc hC dX11_mend_138 (k := 2) rfl (v := v_708) h_709 (by decide) (lv' := [(4, .int v_708), (6, .int r_623), (5, .int r_609), (3, .ref q_61), (0, .ref a_0)]) rfl ?_
                  refine v_goto hC dX11_mend_141 (tgt := 47) (by decide) ?_
                  refine v_pick [0, 3, 4] rfl ?_
                  exact ih_593 f_699 hW_701 ((((hF_586.tr hF_667).tr hF_682).tr hF_702).mono rfl) v_708 (by first | omega | (simp only [Int32.lt_iff_toInt_lt, Int32.le_iff_toInt_le, Int32.reduceToInt, ← Int32.toInt_inj, true_and, and_true, or_true, true_or, false_or, or_false, false_and, and_false, not_true_eq_false, not_false_eq_true] <;> omega)) (by first | omega | (simp only [Int32.lt_iff_toInt_lt, Int32.le_iff_toInt_le, Int32.reduceToInt, ← Int32.toInt_inj, true_and, and_true, or_true, true_or, false_or, or_false, false_and, and_false, not_true_eq_false, not_false_eq_true] <;> omega))
                · simp only [Int32.lt_iff_toInt_lt, Int32.le_iff_toInt_le, Int32.reduceToInt, ← Int32.toInt_inj] at h_688
                  refine v_iconst hC dX11_mend_125 (v := 2) (by decide) ?_
                  exact hR _ _ _ _ _ _ _ dX11_mend_126 rfl (Nat.le_of_ble_eq_true rfl) (Nat.le_of_ble_eq_true rfl) ⟨rfl, hW_681, (((((hF_69.tr hF_80).tr hF_586).tr hF_667).tr hF_682).mono rfl), (by decide), (.inl (by decide))⟩
        refine v_pick [0, 1, 3] rfl ?_
        exact lp_591 258 f_76 hW_79 FR.rf 0 (by decide) (by decide)
      · simp only [Int32.lt_iff_toInt_lt, Int32.le_iff_toInt_le, Int32.reduceToInt, ← Int32.toInt_inj] at h_84
        refine v_iconst hC dX11_mend_42 (v := 1) (by decide) ?_
        exact hR _ _ _ _ _ _ _ dX11_mend_43 rfl (Nat.le_of_ble_eq_true rfl) (Nat.le_of_ble_eq_true rfl) ⟨rfl, hW_79, ((hF_69.tr hF_80).mono rfl), (by decide), (.inl (by decide))⟩
    · simp only [Int32.lt_iff_toInt_lt, Int32.le_iff_toInt_le, Int32.reduceToInt, ← Int32.toInt_inj] at h_73
      refine v_iconst hC dX11_mend_31 (v := 0) (by decide) ?_
      exact hR _ _ _ _ _ _ _ dX11_mend_32 rfl (Nat.le_of_ble_eq_true rfl) (Nat.le_of_ble_eq_true rfl) ⟨rfl, hW_68, (hF_69.mono rfl), (by decide), (.inr (by first | omega | (simp only [Int32.lt_iff_toInt_lt, Int32.le_iff_toInt_le, Int32.reduceToInt, ← Int32.toInt_inj, true_and, and_true, or_true, true_or, false_or, or_false, false_and, and_false, not_true_eq_false, not_false_eq_true] <;> omega)))⟩
  · simp only [Int32.lt_iff_toInt_lt, Int32.le_iff_toInt_le, Int32.reduceToInt, ← Int32.toInt_inj] at h_40
    refine v_iload_n hC dX11_mend_10 rfl ?_
    exact hR _ _ _ _ _ _ _ dX11_mend_11 rfl (Nat.le_of_ble_eq_true rfl) (Nat.le_of_ble_eq_true rfl) ⟨rfl, hW, FR.rf, (by first | omega | (simp only [Int32.lt_iff_toInt_lt, Int32.le_iff_toInt_le, Int32.reduceToInt, ← Int32.toInt_inj, true_and, and_true, or_true, true_or, false_or, or_false, false_and, and_false, not_true_eq_false, not_false_eq_true] <;> omega)), (by first | omega | (simp only [Int32.lt_iff_toInt_lt, Int32.le_iff_toInt_le, Int32.reduceToInt, ← Int32.toInt_inj, true_and, and_true, or_true, true_or, false_or, or_false, false_and, and_false, not_true_eq_false, not_false_eq_true] <;> omega))⟩
set_option maxRecDepth 100000 in
set_option maxHeartbeats 8000000 in
theorem p_X11_slotsThere {l : Launch} {E : Ez} {L : List Nat} {f : Nat → va_E} {T : Nat → va_E → Prop} {a_0 : Nat} (hW : WT T L f) (k_0 : isX T L E a_0) : CI l yX11_slotsThere cX11_slotsThere 3 .int 1 0 0 E [.ref a_0] L f (fun r L1 f1 => L = L1 ∧ f = f1) := by
  refine ci_of (by decide) (Nat.le_of_ble_eq_true rfl) (fun z hz hnm hC hR => ?_)
  have hC : Cx z E cX11_slotsThere RX11 3 1 0 0 := hC
  subst hz
  show V z E 3 0 0 L f 0 [(0, .ref a_0)] []
  refine v_iconst hC dX11_slotsThere_0 (v := 0) (by decide) ?_
  refine v_istore_n hC dX11_slotsThere_1 (by decide) (lv' := [(1, .int 0), (0, .ref a_0)]) rfl ?_
  refine v_iconst hC dX11_slotsThere_2 (v := 0) (by decide) ?_
  refine v_istore_n hC dX11_slotsThere_3 (by decide) (lv' := [(2, .int 0), (1, .int 0), (0, .ref a_0)]) rfl ?_
  have lp_638 : ∀ (n_639 : Nat) (i_635 : Int32) (b_637 : (0 ≤ i_635.toInt ∧ i_635.toInt ≤ 4)) (i_636 : Int32) (hm_641 : 4 - i_635.toInt < (n_639 : Int)), V z E 3 0 0 L f 4 [(2, .int i_635), (1, .int i_636), (0, .ref a_0)] [] := by
    intro n_639
    induction n_639 with
    | zero =>
      intro i_635 b_637 i_636 hm_641
      exfalso; omega
    | succ n_639 ih_640 =>
      intro i_635 b_637 i_636 hm_641
      refine v_iload_n hC dX11_slotsThere_4 rfl ?_
      refine v_iconst hC dX11_slotsThere_5 (v := 4) (by decide) ?_
      refine v_icmp_ge hC dX11_slotsThere_6 (tgt := 30) (by decide) (fun h_642 => ?_) (fun h_642 => ?_)
      · simp only [Int32.lt_iff_toInt_lt, Int32.le_iff_toInt_le, Int32.reduceToInt, ← Int32.toInt_inj] at h_642
        refine v_iload_n hC dX11_slotsThere_30 rfl ?_
        exact hR _ _ _ _ _ _ _ dX11_slotsThere_31 rfl (Nat.le_of_ble_eq_true rfl) (Nat.le_of_ble_eq_true rfl) ⟨rfl, rfl⟩
      · simp only [Int32.lt_iff_toInt_lt, Int32.le_iff_toInt_le, Int32.reduceToInt, ← Int32.toInt_inj] at h_642
        refine v_aload_n hC dX11_slotsThere_9 rfl ?_
        obtain ⟨m_643, q_645, q_646, q_647, q_648, q_649, q_650, q_651, q_652, q_653, q_654, q_655, q_656, q_657, q_658, t_644, k_659, k_660, k_661, k_662, k_663, k_664, k_665, k_666, k_667, k_668, k_669, k_670, k_671, k_672⟩ := id k_0
        have e_673 : f a_0 = ob 11 [.ref q_645, .ref q_646, .ref q_647, .ref q_648, .ref q_649, .ref q_650, .ref q_651, .ref q_652, .ref q_653, .ref q_654, .ref q_655, .ref q_656, .ref q_657, .ref q_658] := hW.at m_643 t_644
        refine v_get hC fl_X11_36 m_643 e_673 rfl dX11_slotsThere_10 ?_
        refine v_iload_n hC dX11_slotsThere_13 rfl ?_
        obtain ⟨m_674, g_676, t_675, k_677⟩ := id k_663
        have e_678 : f q_649 = aR E 6 4 g_676 := hW.at m_674 t_675
        obtain ⟨q_679, h_680, k_681⟩ := k_677 (i_635 : Int32).toNatClampNeg (clamp_lt (vp_in_iff.mpr (by first | omega | (simp only [Int32.lt_iff_toInt_lt, Int32.le_iff_toInt_le, Int32.reduceToInt, ← Int32.toInt_inj, true_and, and_true, or_true, true_or, false_or, or_false, false_and, and_false, not_true_eq_false, not_false_eq_true] <;> omega))))
        refine v_aald hC m_674 e_678 rfl (vp_in_iff.mpr (by first | omega | (simp only [Int32.lt_iff_toInt_lt, Int32.le_iff_toInt_le, Int32.reduceToInt, ← Int32.toInt_inj, true_and, and_true, or_true, true_or, false_or, or_false, false_and, and_false, not_true_eq_false, not_false_eq_true] <;> omega))) (v := .ref q_679) (by rw [h_680]; rfl) dX11_slotsThere_14 ?_
        obtain ⟨m_682, q_684, t_683, k_685⟩ := id k_681
        obtain ⟨v_687, v_689, e_686, b_688, b_690⟩ := hW.at m_682 t_683
        refine v_vi hC (rest := []) m_682 e_686 rfl mi_X5_isThere ms_X5_isThere (p_X5_isThere hW k_681) mx_X5_isThere ml_X11_359 (by decide) rfl (cells1 := 0) (slots1 := 0) (by decide) (by decide) (Nat.le_of_ble_eq_true rfl) (Nat.le_of_ble_eq_true rfl) rfl (Nat.le_of_ble_eq_true rfl) dX11_slotsThere_15 (fun r_691 L_692 f_693 h_694 => ?_)
        obtain ⟨rfl, rfl, b_695, x_696⟩ := h_694
        try simp only [Int32.reduceToInt, Int64.reduceToInt] at x_696
        refine v_if_eq hC dX11_slotsThere_18 (tgt := 24) (by decide) (fun h_699 => ?_) (fun h_699 => ?_)
        · simp only [Int32.lt_iff_toInt_lt, Int32.le_iff_toInt_le, Int32.reduceToInt, ← Int32.toInt_inj] at h_699
          obtain ⟨v_700, h_701⟩ : ∃ v9 : Int32, i_635 + Int32.ofInt 1 = v9 := ⟨_, rfl⟩
          have h_702 := add_v (b := 1) h_701 (by first | omega | (simp only [Int32.lt_iff_toInt_lt, Int32.le_iff_toInt_le, Int32.reduceToInt, ← Int32.toInt_inj, true_and, and_true, or_true, true_or, false_or, or_false, false_and, and_false, not_true_eq_false, not_false_eq_true] <;> omega)) (by first | omega | (simp only [Int32.lt_iff_toInt_lt, Int32.le_iff_toInt_le, Int32.reduceToInt, ← Int32.toInt_inj, true_and, and_true, or_true, true_or, false_or, or_false, false_and, and_false, not_true_eq_false, not_false_eq_true] <;> omega))
          simp only [Int32.reduceToInt] at h_702
          refine v_iinc hC dX11_slotsThere_24 (k := 0) rfl (v := v_700) h_701 (by decide) (lv' := [(2, .int v_700), (1, .int i_636), (0, .ref a_0)]) rfl ?_
          refine v_goto hC dX11_slotsThere_27 (tgt := 4) (by decide) ?_
          refine v_pick [0, 1, 2] rfl ?_
          exact ih_640 v_700 (by first | omega | (simp only [Int32.lt_iff_toInt_lt, Int32.le_iff_toInt_le, Int32.reduceToInt, ← Int32.toInt_inj, true_and, and_true, or_true, true_or, false_or, or_false, false_and, and_false, not_true_eq_false, not_false_eq_true] <;> omega)) i_636 (by first | omega | (simp only [Int32.lt_iff_toInt_lt, Int32.le_iff_toInt_le, Int32.reduceToInt, ← Int32.toInt_inj, true_and, and_true, or_true, true_or, false_or, or_false, false_and, and_false, not_true_eq_false, not_false_eq_true] <;> omega))
        · simp only [Int32.lt_iff_toInt_lt, Int32.le_iff_toInt_le, Int32.reduceToInt, ← Int32.toInt_inj] at h_699
          obtain ⟨v_703, h_704⟩ : ∃ v9 : Int32, i_636 + Int32.ofInt 1 = v9 := ⟨_, rfl⟩
          refine v_iinc hC dX11_slotsThere_21 (k := 1) rfl (v := v_703) h_704 (by decide) (lv' := [(1, .int v_703), (2, .int i_635), (0, .ref a_0)]) rfl ?_
          obtain ⟨v_705, h_706⟩ : ∃ v9 : Int32, i_635 + Int32.ofInt 1 = v9 := ⟨_, rfl⟩
          have h_707 := add_v (b := 1) h_706 (by first | omega | (simp only [Int32.lt_iff_toInt_lt, Int32.le_iff_toInt_le, Int32.reduceToInt, ← Int32.toInt_inj, true_and, and_true, or_true, true_or, false_or, or_false, false_and, and_false, not_true_eq_false, not_false_eq_true] <;> omega)) (by first | omega | (simp only [Int32.lt_iff_toInt_lt, Int32.le_iff_toInt_le, Int32.reduceToInt, ← Int32.toInt_inj, true_and, and_true, or_true, true_or, false_or, or_false, false_and, and_false, not_true_eq_false, not_false_eq_true] <;> omega))
          simp only [Int32.reduceToInt] at h_707
          refine v_iinc hC dX11_slotsThere_24 (k := 1) rfl (v := v_705) h_706 (by decide) (lv' := [(2, .int v_705), (1, .int v_703), (0, .ref a_0)]) rfl ?_
          refine v_goto hC dX11_slotsThere_27 (tgt := 4) (by decide) ?_
          refine v_pick [0, 1, 2] rfl ?_
          exact ih_640 v_705 (by first | omega | (simp only [Int32.lt_iff_toInt_lt, Int32.le_iff_toInt_le, Int32.reduceToInt, ← Int32.toInt_inj, true_and, and_true, or_true, true_or, false_or, or_false, false_and, and_false, not_true_eq_false, not_false_eq_true] <;> omega)) v_703 (by first | omega | (simp only [Int32.lt_iff_toInt_lt, Int32.le_iff_toInt_le, Int32.reduceToInt, ← Int32.toInt_inj, true_and, and_true, or_true, true_or, false_or, or_false, false_and, and_false, not_true_eq_false, not_false_eq_true] <;> omega))
  refine v_pick [0, 1, 2] rfl ?_
  exact lp_638 6 0 (by decide) 0 (by decide)
set_option maxRecDepth 100000 in
set_option maxHeartbeats 8000000 in
theorem p_X11_count {l : Launch} {E : Ez} {L : List Nat} {f : Nat → va_E} {T : Nat → va_E → Prop} {a_0 : Nat} {a_1 : Int32} (hW : WT T L f) (k_0 : isX T L E a_0) : CI l yX11_count cX11_count 2 .int 2 0 0 E [.ref a_0, .int a_1] L f (fun r L1 f1 => L = L1 ∧ f = f1 ∧ (¬ r.toInt = 0 ∨ (0 ≤ a_1.toInt ∧ a_1.toInt ≤ 9))) := by
  refine ci_of (by decide) (Nat.le_of_ble_eq_true rfl) (fun z hz hnm hC hR => ?_)
  have hC : Cx z E cX11_count RX11 2 2 0 0 := hC
  subst hz
  show V z E 2 0 0 L f 0 [(0, .ref a_0), (1, .int a_1)] []
  refine v_iload_n hC dX11_count_0 rfl ?_
  by_cases h_1 : a_1 = 0
  · refine v_tableIn hC dX11_count_1 (off := 55) (tgt := 56) (by rw [h_1]; decide) (by rw [h_1]; decide) (by rw [h_1]; rfl) (by decide) ?_
    simp only [Int32.lt_iff_toInt_lt, Int32.le_iff_toInt_le, Int32.reduceToInt, ← Int32.toInt_inj] at h_1
    refine v_aload_n hC dX11_count_56 rfl ?_
    obtain ⟨m_11, q_13, q_14, q_15, q_16, q_17, q_18, q_19, q_20, q_21, q_22, q_23, q_24, q_25, q_26, t_12, k_27, k_28, k_29, k_30, k_31, k_32, k_33, k_34, k_35, k_36, k_37, k_38, k_39, k_40⟩ := id k_0
    have e_41 : f a_0 = ob 11 [.ref q_13, .ref q_14, .ref q_15, .ref q_16, .ref q_17, .ref q_18, .ref q_19, .ref q_20, .ref q_21, .ref q_22, .ref q_23, .ref q_24, .ref q_25, .ref q_26] := hW.at m_11 t_12
    refine v_get hC fl_X11_19 m_11 e_41 rfl dX11_count_57 ?_
    obtain ⟨m_42, q_44, q_45, q_46, q_47, q_48, q_49, t_43, k_50, k_51, k_52, k_53, k_54, k_55⟩ := id k_28
    have e_56 : f q_14 = ob 0 [.ref q_44, .ref q_45, .ref q_46, .ref q_47, .ref q_48, .ref q_49] := hW.at m_42 t_43
    refine v_getN hC fn_X11_116 m_42 e_56 rfl dX11_count_60 ?_
    obtain ⟨m_57, q_59, q_60, t_58, k_61, k_62⟩ := id k_50
    obtain ⟨v_64, v_66, v_68, e_63, b_65, b_67, b_69⟩ := hW.at m_57 t_58
    refine v_getN hC fn_X11_335 m_57 e_63 rfl dX11_count_63 ?_
    exact hR _ _ _ _ _ _ _ dX11_count_66 rfl (Nat.le_of_ble_eq_true rfl) (Nat.le_of_ble_eq_true rfl) ⟨rfl, rfl, (.inr (by first | omega | (simp only [Int32.lt_iff_toInt_lt, Int32.le_iff_toInt_le, Int32.reduceToInt, ← Int32.toInt_inj, true_and, and_true, or_true, true_or, false_or, or_false, false_and, and_false, not_true_eq_false, not_false_eq_true] <;> omega)))⟩
  by_cases h_2 : a_1 = 1
  · refine v_tableIn hC dX11_count_1 (off := 66) (tgt := 67) (by rw [h_2]; decide) (by rw [h_2]; decide) (by rw [h_2]; rfl) (by decide) ?_
    simp only [Int32.lt_iff_toInt_lt, Int32.le_iff_toInt_le, Int32.reduceToInt, ← Int32.toInt_inj] at h_2
    refine v_aload_n hC dX11_count_67 rfl ?_
    obtain ⟨m_70, q_72, q_73, q_74, q_75, q_76, q_77, q_78, q_79, q_80, q_81, q_82, q_83, q_84, q_85, t_71, k_86, k_87, k_88, k_89, k_90, k_91, k_92, k_93, k_94, k_95, k_96, k_97, k_98, k_99⟩ := id k_0
    have e_100 : f a_0 = ob 11 [.ref q_72, .ref q_73, .ref q_74, .ref q_75, .ref q_76, .ref q_77, .ref q_78, .ref q_79, .ref q_80, .ref q_81, .ref q_82, .ref q_83, .ref q_84, .ref q_85] := hW.at m_70 t_71
    refine v_get hC fl_X11_19 m_70 e_100 rfl dX11_count_68 ?_
    obtain ⟨m_101, q_103, q_104, q_105, q_106, q_107, q_108, t_102, k_109, k_110, k_111, k_112, k_113, k_114⟩ := id k_87
    have e_115 : f q_73 = ob 0 [.ref q_103, .ref q_104, .ref q_105, .ref q_106, .ref q_107, .ref q_108] := hW.at m_101 t_102
    refine v_getN hC fn_X11_116 m_101 e_115 rfl dX11_count_71 ?_
    obtain ⟨m_116, q_118, q_119, t_117, k_120, k_121⟩ := id k_109
    obtain ⟨v_123, v_125, v_127, e_122, b_124, b_126, b_128⟩ := hW.at m_116 t_117
    refine v_getN hC fn_X11_338 m_116 e_122 rfl dX11_count_74 ?_
    exact hR _ _ _ _ _ _ _ dX11_count_77 rfl (Nat.le_of_ble_eq_true rfl) (Nat.le_of_ble_eq_true rfl) ⟨rfl, rfl, (.inr (by first | omega | (simp only [Int32.lt_iff_toInt_lt, Int32.le_iff_toInt_le, Int32.reduceToInt, ← Int32.toInt_inj, true_and, and_true, or_true, true_or, false_or, or_false, false_and, and_false, not_true_eq_false, not_false_eq_true] <;> omega)))⟩
  by_cases h_3 : a_1 = 2
  · refine v_tableIn hC dX11_count_1 (off := 77) (tgt := 78) (by rw [h_3]; decide) (by rw [h_3]; decide) (by rw [h_3]; rfl) (by decide) ?_
    simp only [Int32.lt_iff_toInt_lt, Int32.le_iff_toInt_le, Int32.reduceToInt, ← Int32.toInt_inj] at h_3
    refine v_aload_n hC dX11_count_78 rfl ?_
    obtain ⟨m_129, q_131, q_132, q_133, q_134, q_135, q_136, q_137, q_138, q_139, q_140, q_141, q_142, q_143, q_144, t_130, k_145, k_146, k_147, k_148, k_149, k_150, k_151, k_152, k_153, k_154, k_155, k_156, k_157, k_158⟩ := id k_0
    have e_159 : f a_0 = ob 11 [.ref q_131, .ref q_132, .ref q_133, .ref q_134, .ref q_135, .ref q_136, .ref q_137, .ref q_138, .ref q_139, .ref q_140, .ref q_141, .ref q_142, .ref q_143, .ref q_144] := hW.at m_129 t_130
    refine v_get hC fl_X11_19 m_129 e_159 rfl dX11_count_79 ?_
    obtain ⟨m_160, q_162, q_163, q_164, q_165, q_166, q_167, t_161, k_168, k_169, k_170, k_171, k_172, k_173⟩ := id k_146
    have e_174 : f q_132 = ob 0 [.ref q_162, .ref q_163, .ref q_164, .ref q_165, .ref q_166, .ref q_167] := hW.at m_160 t_161
    refine v_getN hC fn_X11_116 m_160 e_174 rfl dX11_count_82 ?_
    obtain ⟨m_175, q_177, q_178, t_176, k_179, k_180⟩ := id k_168
    obtain ⟨v_182, v_184, v_186, e_181, b_183, b_185, b_187⟩ := hW.at m_175 t_176
    refine v_getN hC fn_X11_126 m_175 e_181 rfl dX11_count_85 ?_
    exact hR _ _ _ _ _ _ _ dX11_count_88 rfl (Nat.le_of_ble_eq_true rfl) (Nat.le_of_ble_eq_true rfl) ⟨rfl, rfl, (.inr (by first | omega | (simp only [Int32.lt_iff_toInt_lt, Int32.le_iff_toInt_le, Int32.reduceToInt, ← Int32.toInt_inj, true_and, and_true, or_true, true_or, false_or, or_false, false_and, and_false, not_true_eq_false, not_false_eq_true] <;> omega)))⟩
  by_cases h_4 : a_1 = 3
  · refine v_tableIn hC dX11_count_1 (off := 88) (tgt := 89) (by rw [h_4]; decide) (by rw [h_4]; decide) (by rw [h_4]; rfl) (by decide) ?_
    simp only [Int32.lt_iff_toInt_lt, Int32.le_iff_toInt_le, Int32.reduceToInt, ← Int32.toInt_inj] at h_4
    refine v_aload_n hC dX11_count_89 rfl ?_
    obtain ⟨m_188, q_190, q_191, q_192, q_193, q_194, q_195, q_196, q_197, q_198, q_199, q_200, q_201, q_202, q_203, t_189, k_204, k_205, k_206, k_207, k_208, k_209, k_210, k_211, k_212, k_213, k_214, k_215, k_216, k_217⟩ := id k_0
    have e_218 : f a_0 = ob 11 [.ref q_190, .ref q_191, .ref q_192, .ref q_193, .ref q_194, .ref q_195, .ref q_196, .ref q_197, .ref q_198, .ref q_199, .ref q_200, .ref q_201, .ref q_202, .ref q_203] := hW.at m_188 t_189
    refine v_get hC fl_X11_19 m_188 e_218 rfl dX11_count_90 ?_
    obtain ⟨m_219, q_221, q_222, q_223, q_224, q_225, q_226, t_220, k_227, k_228, k_229, k_230, k_231, k_232⟩ := id k_205
    have e_233 : f q_191 = ob 0 [.ref q_221, .ref q_222, .ref q_223, .ref q_224, .ref q_225, .ref q_226] := hW.at m_219 t_220
    refine v_vi hC (rest := []) m_219 e_233 rfl mi_X0_waysThere ms_X0_waysThere (p_X0_waysThere hW k_205) mx_X0_waysThere ml_X11_341 (by decide) rfl (cells1 := 0) (slots1 := 0) (by decide) (by decide) (Nat.le_of_ble_eq_true rfl) (Nat.le_of_ble_eq_true rfl) rfl (Nat.le_of_ble_eq_true rfl) dX11_count_93 (fun r_234 L_235 f_236 h_237 => ?_)
    obtain ⟨rfl, rfl⟩ := h_237
    exact hR _ _ _ _ _ _ _ dX11_count_96 rfl (Nat.le_of_ble_eq_true rfl) (Nat.le_of_ble_eq_true rfl) ⟨rfl, rfl, (.inr (by first | omega | (simp only [Int32.lt_iff_toInt_lt, Int32.le_iff_toInt_le, Int32.reduceToInt, ← Int32.toInt_inj, true_and, and_true, or_true, true_or, false_or, or_false, false_and, and_false, not_true_eq_false, not_false_eq_true] <;> omega)))⟩
  by_cases h_5 : a_1 = 4
  · refine v_tableIn hC dX11_count_1 (off := 96) (tgt := 97) (by rw [h_5]; decide) (by rw [h_5]; decide) (by rw [h_5]; rfl) (by decide) ?_
    simp only [Int32.lt_iff_toInt_lt, Int32.le_iff_toInt_le, Int32.reduceToInt, ← Int32.toInt_inj] at h_5
    refine v_aload_n hC dX11_count_97 rfl ?_
    obtain ⟨m_240, q_242, q_243, q_244, q_245, q_246, q_247, q_248, q_249, q_250, q_251, q_252, q_253, q_254, q_255, t_241, k_256, k_257, k_258, k_259, k_260, k_261, k_262, k_263, k_264, k_265, k_266, k_267, k_268, k_269⟩ := id k_0
    have e_270 : f a_0 = ob 11 [.ref q_242, .ref q_243, .ref q_244, .ref q_245, .ref q_246, .ref q_247, .ref q_248, .ref q_249, .ref q_250, .ref q_251, .ref q_252, .ref q_253, .ref q_254, .ref q_255] := hW.at m_240 t_241
    refine v_get hC fl_X11_19 m_240 e_270 rfl dX11_count_98 ?_
    obtain ⟨m_271, q_273, q_274, q_275, q_276, q_277, q_278, t_272, k_279, k_280, k_281, k_282, k_283, k_284⟩ := id k_257
    have e_285 : f q_243 = ob 0 [.ref q_273, .ref q_274, .ref q_275, .ref q_276, .ref q_277, .ref q_278] := hW.at m_271 t_272
    refine v_getN hC fn_X11_158 m_271 e_285 rfl dX11_count_101 ?_
    obtain ⟨m_286, q_288, t_287, k_289⟩ := id k_282
    obtain ⟨v_291, v_293, e_290, b_292⟩ := hW.at m_286 t_287
    refine v_getN hC fn_X11_164 m_286 e_290 rfl dX11_count_104 ?_
    exact hR _ _ _ _ _ _ _ dX11_count_107 rfl (Nat.le_of_ble_eq_true rfl) (Nat.le_of_ble_eq_true rfl) ⟨rfl, rfl, (.inr (by first | omega | (simp only [Int32.lt_iff_toInt_lt, Int32.le_iff_toInt_le, Int32.reduceToInt, ← Int32.toInt_inj, true_and, and_true, or_true, true_or, false_or, or_false, false_and, and_false, not_true_eq_false, not_false_eq_true] <;> omega)))⟩
  by_cases h_6 : a_1 = 5
  · refine v_tableIn hC dX11_count_1 (off := 107) (tgt := 108) (by rw [h_6]; decide) (by rw [h_6]; decide) (by rw [h_6]; rfl) (by decide) ?_
    simp only [Int32.lt_iff_toInt_lt, Int32.le_iff_toInt_le, Int32.reduceToInt, ← Int32.toInt_inj] at h_6
    refine v_aload_n hC dX11_count_108 rfl ?_
    obtain ⟨m_294, q_296, q_297, q_298, q_299, q_300, q_301, q_302, q_303, q_304, q_305, q_306, q_307, q_308, q_309, t_295, k_310, k_311, k_312, k_313, k_314, k_315, k_316, k_317, k_318, k_319, k_320, k_321, k_322, k_323⟩ := id k_0
    have e_324 : f a_0 = ob 11 [.ref q_296, .ref q_297, .ref q_298, .ref q_299, .ref q_300, .ref q_301, .ref q_302, .ref q_303, .ref q_304, .ref q_305, .ref q_306, .ref q_307, .ref q_308, .ref q_309] := hW.at m_294 t_295
    refine v_get hC fl_X11_19 m_294 e_324 rfl dX11_count_109 ?_
    obtain ⟨m_325, q_327, q_328, q_329, q_330, q_331, q_332, t_326, k_333, k_334, k_335, k_336, k_337, k_338⟩ := id k_311
    have e_339 : f q_297 = ob 0 [.ref q_327, .ref q_328, .ref q_329, .ref q_330, .ref q_331, .ref q_332] := hW.at m_325 t_326
    refine v_getN hC fn_X11_168 m_325 e_339 rfl dX11_count_112 ?_
    obtain ⟨m_340, q_342, q_343, q_344, t_341, k_345, k_346, k_347⟩ := id k_337
    obtain ⟨v_349, e_348, b_350⟩ := hW.at m_340 t_341
    refine v_getN hC fn_X11_174 m_340 e_348 rfl dX11_count_115 ?_
    exact hR _ _ _ _ _ _ _ dX11_count_118 rfl (Nat.le_of_ble_eq_true rfl) (Nat.le_of_ble_eq_true rfl) ⟨rfl, rfl, (.inr (by first | omega | (simp only [Int32.lt_iff_toInt_lt, Int32.le_iff_toInt_le, Int32.reduceToInt, ← Int32.toInt_inj, true_and, and_true, or_true, true_or, false_or, or_false, false_and, and_false, not_true_eq_false, not_false_eq_true] <;> omega)))⟩
  by_cases h_7 : a_1 = 6
  · refine v_tableIn hC dX11_count_1 (off := 118) (tgt := 119) (by rw [h_7]; decide) (by rw [h_7]; decide) (by rw [h_7]; rfl) (by decide) ?_
    simp only [Int32.lt_iff_toInt_lt, Int32.le_iff_toInt_le, Int32.reduceToInt, ← Int32.toInt_inj] at h_7
    refine v_aload_n hC dX11_count_119 rfl ?_
    obtain ⟨m_351, q_353, q_354, q_355, q_356, q_357, q_358, q_359, q_360, q_361, q_362, q_363, q_364, q_365, q_366, t_352, k_367, k_368, k_369, k_370, k_371, k_372, k_373, k_374, k_375, k_376, k_377, k_378, k_379, k_380⟩ := id k_0
    have e_381 : f a_0 = ob 11 [.ref q_353, .ref q_354, .ref q_355, .ref q_356, .ref q_357, .ref q_358, .ref q_359, .ref q_360, .ref q_361, .ref q_362, .ref q_363, .ref q_364, .ref q_365, .ref q_366] := hW.at m_351 t_352
    refine v_get hC fl_X11_19 m_351 e_381 rfl dX11_count_120 ?_
    obtain ⟨m_382, q_384, q_385, q_386, q_387, q_388, q_389, t_383, k_390, k_391, k_392, k_393, k_394, k_395⟩ := id k_368
    have e_396 : f q_354 = ob 0 [.ref q_384, .ref q_385, .ref q_386, .ref q_387, .ref q_388, .ref q_389] := hW.at m_382 t_383
    refine v_vi hC (rest := []) m_382 e_396 rfl mi_X0_clothsThere ms_X0_clothsThere (p_X0_clothsThere hW k_368) mx_X0_clothsThere ml_X11_344 (by decide) rfl (cells1 := 0) (slots1 := 0) (by decide) (by decide) (Nat.le_of_ble_eq_true rfl) (Nat.le_of_ble_eq_true rfl) rfl (Nat.le_of_ble_eq_true rfl) dX11_count_123 (fun r_397 L_398 f_399 h_400 => ?_)
    obtain ⟨rfl, rfl⟩ := h_400
    exact hR _ _ _ _ _ _ _ dX11_count_126 rfl (Nat.le_of_ble_eq_true rfl) (Nat.le_of_ble_eq_true rfl) ⟨rfl, rfl, (.inr (by first | omega | (simp only [Int32.lt_iff_toInt_lt, Int32.le_iff_toInt_le, Int32.reduceToInt, ← Int32.toInt_inj, true_and, and_true, or_true, true_or, false_or, or_false, false_and, and_false, not_true_eq_false, not_false_eq_true] <;> omega)))⟩
  by_cases h_8 : a_1 = 7
  · refine v_tableIn hC dX11_count_1 (off := 126) (tgt := 127) (by rw [h_8]; decide) (by rw [h_8]; decide) (by rw [h_8]; rfl) (by decide) ?_
    simp only [Int32.lt_iff_toInt_lt, Int32.le_iff_toInt_le, Int32.reduceToInt, ← Int32.toInt_inj] at h_8
    refine v_aload_n hC dX11_count_127 rfl ?_
    obtain ⟨m_403, q_405, q_406, q_407, q_408, q_409, q_410, q_411, q_412, q_413, q_414, q_415, q_416, q_417, q_418, t_404, k_419, k_420, k_421, k_422, k_423, k_424, k_425, k_426, k_427, k_428, k_429, k_430, k_431, k_432⟩ := id k_0
    have e_433 : f a_0 = ob 11 [.ref q_405, .ref q_406, .ref q_407, .ref q_408, .ref q_409, .ref q_410, .ref q_411, .ref q_412, .ref q_413, .ref q_414, .ref q_415, .ref q_416, .ref q_417, .ref q_418] := hW.at m_403 t_404
    refine v_get hC fl_X11_12 m_403 e_433 rfl dX11_count_128 ?_
    obtain ⟨m_434, q_436, t_435, k_437⟩ := id k_419
    obtain ⟨v_439, v_441, v_442, v_444, v_446, v_447, e_438, b_440, b_443, b_445⟩ := hW.at m_434 t_435
    refine v_getN hC fn_X11_105 m_434 e_438 rfl dX11_count_131 ?_
    exact hR _ _ _ _ _ _ _ dX11_count_134 rfl (Nat.le_of_ble_eq_true rfl) (Nat.le_of_ble_eq_true rfl) ⟨rfl, rfl, (.inr (by first | omega | (simp only [Int32.lt_iff_toInt_lt, Int32.le_iff_toInt_le, Int32.reduceToInt, ← Int32.toInt_inj, true_and, and_true, or_true, true_or, false_or, or_false, false_and, and_false, not_true_eq_false, not_false_eq_true] <;> omega)))⟩
  by_cases h_9 : a_1 = 8
  · refine v_tableIn hC dX11_count_1 (off := 134) (tgt := 135) (by rw [h_9]; decide) (by rw [h_9]; decide) (by rw [h_9]; rfl) (by decide) ?_
    simp only [Int32.lt_iff_toInt_lt, Int32.le_iff_toInt_le, Int32.reduceToInt, ← Int32.toInt_inj] at h_9
    refine v_aload_n hC dX11_count_135 rfl ?_
    obtain ⟨m_448, q_450, q_451, q_452, q_453, q_454, q_455, q_456, q_457, q_458, q_459, q_460, q_461, q_462, q_463, t_449, k_464, k_465, k_466, k_467, k_468, k_469, k_470, k_471, k_472, k_473, k_474, k_475, k_476, k_477⟩ := id k_0
    have e_478 : f a_0 = ob 11 [.ref q_450, .ref q_451, .ref q_452, .ref q_453, .ref q_454, .ref q_455, .ref q_456, .ref q_457, .ref q_458, .ref q_459, .ref q_460, .ref q_461, .ref q_462, .ref q_463] := hW.at m_448 t_449
    refine v_get hC fl_X11_30 m_448 e_478 rfl dX11_count_136 ?_
    obtain ⟨m_479, q_481, t_480, k_482⟩ := id k_467
    obtain ⟨v_484, e_483, b_485⟩ := hW.at m_479 t_480
    refine v_getN hC fn_X11_213 m_479 e_483 rfl dX11_count_139 ?_
    exact hR _ _ _ _ _ _ _ dX11_count_142 rfl (Nat.le_of_ble_eq_true rfl) (Nat.le_of_ble_eq_true rfl) ⟨rfl, rfl, (.inr (by first | omega | (simp only [Int32.lt_iff_toInt_lt, Int32.le_iff_toInt_le, Int32.reduceToInt, ← Int32.toInt_inj, true_and, and_true, or_true, true_or, false_or, or_false, false_and, and_false, not_true_eq_false, not_false_eq_true] <;> omega)))⟩
  by_cases h_10 : a_1 = 9
  · refine v_tableIn hC dX11_count_1 (off := 142) (tgt := 143) (by rw [h_10]; decide) (by rw [h_10]; decide) (by rw [h_10]; rfl) (by decide) ?_
    simp only [Int32.lt_iff_toInt_lt, Int32.le_iff_toInt_le, Int32.reduceToInt, ← Int32.toInt_inj] at h_10
    refine v_aload_n hC dX11_count_143 rfl ?_
    obtain ⟨m_486, q_488, q_489, q_490, q_491, q_492, q_493, q_494, q_495, q_496, q_497, q_498, q_499, q_500, q_501, t_487, k_502, k_503, k_504, k_505, k_506, k_507, k_508, k_509, k_510, k_511, k_512, k_513, k_514, k_515⟩ := id k_0
    have e_516 : f a_0 = ob 11 [.ref q_488, .ref q_489, .ref q_490, .ref q_491, .ref q_492, .ref q_493, .ref q_494, .ref q_495, .ref q_496, .ref q_497, .ref q_498, .ref q_499, .ref q_500, .ref q_501] := hW.at m_486 t_487
    refine v_vi hC (rest := []) m_486 e_516 rfl mi_X11_slotsThere ms_X11_slotsThere (p_X11_slotsThere hW k_0) mx_X11_slotsThere ml_X11_347 (by decide) rfl (cells1 := 0) (slots1 := 0) (by decide) (by decide) (Nat.le_of_ble_eq_true rfl) (Nat.le_of_ble_eq_true rfl) rfl (Nat.le_of_ble_eq_true rfl) dX11_count_144 (fun r_517 L_518 f_519 h_520 => ?_)
    obtain ⟨rfl, rfl⟩ := h_520
    exact hR _ _ _ _ _ _ _ dX11_count_147 rfl (Nat.le_of_ble_eq_true rfl) (Nat.le_of_ble_eq_true rfl) ⟨rfl, rfl, (.inr (by first | omega | (simp only [Int32.lt_iff_toInt_lt, Int32.le_iff_toInt_le, Int32.reduceToInt, ← Int32.toInt_inj, true_and, and_true, or_true, true_or, false_or, or_false, false_and, and_false, not_true_eq_false, not_false_eq_true] <;> omega)))⟩
  simp only [Int32.lt_iff_toInt_lt, Int32.le_iff_toInt_le, Int32.reduceToInt, ← Int32.toInt_inj] at h_1 h_2 h_3 h_4 h_5 h_6 h_7 h_8 h_9 h_10
  refine v_tableOut hC dX11_count_1 (tgt := 148) (by omega) (by decide) ?_
  refine v_iconst hC dX11_count_148 (v := (-1)) (by decide) ?_
  exact hR _ _ _ _ _ _ _ dX11_count_149 rfl (Nat.le_of_ble_eq_true rfl) (Nat.le_of_ble_eq_true rfl) ⟨rfl, rfl, (.inl (by decide))⟩
set_option maxRecDepth 100000 in
set_option maxHeartbeats 8000000 in
theorem p_X11_back {l : Launch} {E : Ez} {L : List Nat} {f : Nat → va_E} {T : Nat → va_E → Prop} {a_0 : Nat} {a_1 : Int32} (hW : WT T L f) (k_0 : isX T L E a_0) : CI l yX11_back cX11_back 2 .int 3 0 0 E [.ref a_0, .int a_1] L f (fun r L1 f1 => L = L1 ∧ WT T L f1 ∧ FR [1, 3, 4, 9, 10, 103, 112, 356, 400] f f1 ∧ ((-6) ≤ r.toInt ∧ r.toInt ≤ 0) ∧ (¬ r.toInt = 0 ∨ (0 ≤ a_1.toInt ∧ a_1.toInt ≤ 2))) := by
  refine ci_of (by decide) (Nat.le_of_ble_eq_true rfl) (fun z hz hnm hC hR => ?_)
  have hC : Cx z E cX11_back RX11 2 3 0 0 := hC
  subst hz
  show V z E 2 0 0 L f 0 [(0, .ref a_0), (1, .int a_1)] []
  refine v_iload_n hC dX11_back_0 rfl ?_
  refine v_if_lt hC dX11_back_1 (tgt := 9) (by decide) (fun h_1 => ?_) (fun h_1 => ?_)
  · simp only [Int32.lt_iff_toInt_lt, Int32.le_iff_toInt_le, Int32.reduceToInt, ← Int32.toInt_inj] at h_1
    refine v_bipush hC dX11_back_9 (v := (-2)) (by decide) ?_
    exact hR _ _ _ _ _ _ _ dX11_back_11 rfl (Nat.le_of_ble_eq_true rfl) (Nat.le_of_ble_eq_true rfl) ⟨rfl, hW, FR.rf, (by decide), (.inl (by decide))⟩
  · simp only [Int32.lt_iff_toInt_lt, Int32.le_iff_toInt_le, Int32.reduceToInt, ← Int32.toInt_inj] at h_1
    refine v_iload_n hC dX11_back_4 rfl ?_
    refine v_iconst hC dX11_back_5 (v := 3) (by decide) ?_
    refine v_icmp_lt hC dX11_back_6 (tgt := 12) (by decide) (fun h_2 => ?_) (fun h_2 => ?_)
    · simp only [Int32.lt_iff_toInt_lt, Int32.le_iff_toInt_le, Int32.reduceToInt, ← Int32.toInt_inj] at h_2
      refine v_aload_n hC dX11_back_12 rfl ?_
      obtain ⟨m_3, q_5, q_6, q_7, q_8, q_9, q_10, q_11, q_12, q_13, q_14, q_15, q_16, q_17, q_18, t_4, k_19, k_20, k_21, k_22, k_23, k_24, k_25, k_26, k_27, k_28, k_29, k_30, k_31, k_32⟩ := id k_0
      have e_33 : f a_0 = ob 11 [.ref q_5, .ref q_6, .ref q_7, .ref q_8, .ref q_9, .ref q_10, .ref q_11, .ref q_12, .ref q_13, .ref q_14, .ref q_15, .ref q_16, .ref q_17, .ref q_18] := hW.at m_3 t_4
      refine v_get hC fl_X11_23 m_3 e_33 rfl dX11_back_13 ?_
      refine v_iload_n hC dX11_back_16 rfl ?_
      obtain ⟨m_34, g_36, t_35, k_37⟩ := id k_21
      have e_38 : f q_7 = aR E 4 3 g_36 := hW.at m_34 t_35
      rcases k_37 (a_1 : Int32).toNatClampNeg (clamp_lt (vp_in_iff.mpr (by first | omega | (simp only [Int32.lt_iff_toInt_lt, Int32.le_iff_toInt_le, Int32.reduceToInt, ← Int32.toInt_inj, true_and, and_true, or_true, true_or, false_or, or_false, false_and, and_false, not_true_eq_false, not_false_eq_true] <;> omega)))) with h_40 | ⟨q_39, h_40, k_41⟩
      · refine v_aald hC m_34 e_38 rfl (vp_in_iff.mpr (by first | omega | (simp only [Int32.lt_iff_toInt_lt, Int32.le_iff_toInt_le, Int32.reduceToInt, ← Int32.toInt_inj, true_and, and_true, or_true, true_or, false_or, or_false, false_and, and_false, not_true_eq_false, not_false_eq_true] <;> omega))) (v := .null) (by rw [h_40]; rfl) dX11_back_17 ?_
        refine v_ifnonnullN hC dX11_back_18 ?_
        refine v_bipush hC dX11_back_21 (v := (-6)) (by decide) ?_
        exact hR _ _ _ _ _ _ _ dX11_back_23 rfl (Nat.le_of_ble_eq_true rfl) (Nat.le_of_ble_eq_true rfl) ⟨rfl, hW, FR.rf, (by decide), (.inl (by decide))⟩
      · refine v_aald hC m_34 e_38 rfl (vp_in_iff.mpr (by first | omega | (simp only [Int32.lt_iff_toInt_lt, Int32.le_iff_toInt_le, Int32.reduceToInt, ← Int32.toInt_inj, true_and, and_true, or_true, true_or, false_or, or_false, false_and, and_false, not_true_eq_false, not_false_eq_true] <;> omega))) (v := .ref q_39) (by rw [h_40]; rfl) dX11_back_17 ?_
        refine v_ifnonnull hC dX11_back_18 (tgt := 24) (by decide) ?_
        refine v_aload_n hC dX11_back_24 rfl ?_
        refine v_get hC fl_X11_19 m_3 e_33 rfl dX11_back_25 ?_
        refine v_aload_n hC dX11_back_28 rfl ?_
        refine v_get hC fl_X11_23 m_3 e_33 rfl dX11_back_29 ?_
        refine v_iload_n hC dX11_back_32 rfl ?_
        refine v_aald hC m_34 e_38 rfl (vp_in_iff.mpr (by first | omega | (simp only [Int32.lt_iff_toInt_lt, Int32.le_iff_toInt_le, Int32.reduceToInt, ← Int32.toInt_inj, true_and, and_true, or_true, true_or, false_or, or_false, false_and, and_false, not_true_eq_false, not_false_eq_true] <;> omega))) (v := .ref q_39) (by rw [h_40]; rfl) dX11_back_33 ?_
        obtain ⟨m_51, q_53, q_54, q_55, q_56, q_57, q_58, t_52, k_59, k_60, k_61, k_62, k_63, k_64⟩ := id k_20
        have e_65 : f q_6 = ob 0 [.ref q_53, .ref q_54, .ref q_55, .ref q_56, .ref q_57, .ref q_58] := hW.at m_51 t_52
        refine v_vv hC (rest := []) m_51 e_65 rfl mi_X0_takeFrom ms_X0_takeFrom (p_X0_takeFrom hW k_20 k_41) mx_X0_takeFrom ml_X11_350 (by decide) rfl (cells1 := 0) (slots1 := 0) (by decide) (by decide) (Nat.le_of_ble_eq_true rfl) (Nat.le_of_ble_eq_true rfl) rfl (Nat.le_of_ble_eq_true rfl) dX11_back_34 (fun L_67 f_68 h_69 => ?_)
        obtain ⟨rfl, hW_70, hF_71⟩ := h_69
        have hf_72 := hF_71.at e_33 rfl
        have hf_73 := hF_71.at e_65 rfl
        refine v_iconst hC dX11_back_37 (v := 0) (by decide) ?_
        exact hR _ _ _ _ _ _ _ dX11_back_38 rfl (Nat.le_of_ble_eq_true rfl) (Nat.le_of_ble_eq_true rfl) ⟨rfl, hW_70, (hF_71.mono rfl), (by decide), (.inr (by first | omega | (simp only [Int32.lt_iff_toInt_lt, Int32.le_iff_toInt_le, Int32.reduceToInt, ← Int32.toInt_inj, true_and, and_true, or_true, true_or, false_or, or_false, false_and, and_false, not_true_eq_false, not_false_eq_true] <;> omega)))⟩
    · simp only [Int32.lt_iff_toInt_lt, Int32.le_iff_toInt_le, Int32.reduceToInt, ← Int32.toInt_inj] at h_2
      refine v_bipush hC dX11_back_9 (v := (-2)) (by decide) ?_
      exact hR _ _ _ _ _ _ _ dX11_back_11 rfl (Nat.le_of_ble_eq_true rfl) (Nat.le_of_ble_eq_true rfl) ⟨rfl, hW, FR.rf, (by decide), (.inl (by decide))⟩
set_option maxRecDepth 100000 in
set_option maxHeartbeats 8000000 in
theorem p_X11_isSlot {l : Launch} {E : Ez} {L : List Nat} {f : Nat → va_E} {T : Nat → va_E → Prop} {a_0 : Int32} (hW : WT T L f) : CI l yX11_isSlot cX11_isSlot 1 .boolean 0 0 0 E [.int a_0] L f (fun r L1 f1 => L = L1 ∧ f = f1 ∧ (0 ≤ r.toInt ∧ r.toInt ≤ 1) ∧ (r.toInt = 0 ∨ (0 ≤ a_0.toInt ∧ a_0.toInt ≤ 3)) ∧ ((r.toInt = 1 ∧ 0 ≤ a_0.toInt ∧ a_0.toInt ≤ 3) ∨ (r.toInt = 0 ∧ (a_0.toInt < 0 ∨ 3 < a_0.toInt)))) := by
  refine ci_of (by decide) (Nat.le_of_ble_eq_true rfl) (fun z hz hnm hC hR => ?_)
  have hC : Cx z E cX11_isSlot RX11 1 0 0 0 := hC
  subst hz
  show V z E 1 0 0 L f 0 [(0, .int a_0)] []
  refine v_iload_n hC dX11_isSlot_0 rfl ?_
  refine v_if_lt hC dX11_isSlot_1 (tgt := 13) (by decide) (fun h_1 => ?_) (fun h_1 => ?_)
  · simp only [Int32.lt_iff_toInt_lt, Int32.le_iff_toInt_le, Int32.reduceToInt, ← Int32.toInt_inj] at h_1
    refine v_iconst hC dX11_isSlot_13 (v := 0) (by decide) ?_
    exact hR _ _ _ _ _ _ _ dX11_isSlot_14 rfl (Nat.le_of_ble_eq_true rfl) (Nat.le_of_ble_eq_true rfl) ⟨rfl, rfl, (by decide), (.inl (by decide)), (by first | omega | (simp only [Int32.lt_iff_toInt_lt, Int32.le_iff_toInt_le, Int32.reduceToInt, ← Int32.toInt_inj, true_and, and_true, or_true, true_or, false_or, or_false, false_and, and_false, not_true_eq_false, not_false_eq_true] <;> omega))⟩
  · simp only [Int32.lt_iff_toInt_lt, Int32.le_iff_toInt_le, Int32.reduceToInt, ← Int32.toInt_inj] at h_1
    refine v_iload_n hC dX11_isSlot_4 rfl ?_
    refine v_iconst hC dX11_isSlot_5 (v := 4) (by decide) ?_
    refine v_icmp_ge hC dX11_isSlot_6 (tgt := 13) (by decide) (fun h_2 => ?_) (fun h_2 => ?_)
    · simp only [Int32.lt_iff_toInt_lt, Int32.le_iff_toInt_le, Int32.reduceToInt, ← Int32.toInt_inj] at h_2
      refine v_iconst hC dX11_isSlot_13 (v := 0) (by decide) ?_
      exact hR _ _ _ _ _ _ _ dX11_isSlot_14 rfl (Nat.le_of_ble_eq_true rfl) (Nat.le_of_ble_eq_true rfl) ⟨rfl, rfl, (by decide), (.inl (by decide)), (by first | omega | (simp only [Int32.lt_iff_toInt_lt, Int32.le_iff_toInt_le, Int32.reduceToInt, ← Int32.toInt_inj, true_and, and_true, or_true, true_or, false_or, or_false, false_and, and_false, not_true_eq_false, not_false_eq_true] <;> omega))⟩
    · simp only [Int32.lt_iff_toInt_lt, Int32.le_iff_toInt_le, Int32.reduceToInt, ← Int32.toInt_inj] at h_2
      refine v_iconst hC dX11_isSlot_9 (v := 1) (by decide) ?_
      refine v_goto hC dX11_isSlot_10 (tgt := 14) (by decide) ?_
      exact hR _ _ _ _ _ _ _ dX11_isSlot_14 rfl (Nat.le_of_ble_eq_true rfl) (Nat.le_of_ble_eq_true rfl) ⟨rfl, rfl, (by decide), (.inr (by first | omega | (simp only [Int32.lt_iff_toInt_lt, Int32.le_iff_toInt_le, Int32.reduceToInt, ← Int32.toInt_inj, true_and, and_true, or_true, true_or, false_or, or_false, false_and, and_false, not_true_eq_false, not_false_eq_true] <;> omega))), (by first | omega | (simp only [Int32.lt_iff_toInt_lt, Int32.le_iff_toInt_le, Int32.reduceToInt, ← Int32.toInt_inj, true_and, and_true, or_true, true_or, false_or, or_false, false_and, and_false, not_true_eq_false, not_false_eq_true] <;> omega))⟩
set_option maxRecDepth 100000 in
set_option maxHeartbeats 8000000 in
theorem p_X11_row {l : Launch} {E : Ez} {L : List Nat} {f : Nat → va_E} {T : Nat → va_E → Prop} {a_0 : Nat} {a_1 : Int32} {a_2 : Int32} {a_3 : Int32} (hW : WT T L f) (k_0 : isX T L E a_0) : CI l yX11_row cX11_row 4 .int 2 0 0 E [.ref a_0, .int a_1, .int a_2, .int a_3] L f (fun r L1 f1 => L = L1 ∧ WT T L f1 ∧ FR [5, 160] f f1 ∧ ((-3) ≤ r.toInt ∧ r.toInt ≤ 0) ∧ (¬ r.toInt = 0 ∨ (0 ≤ a_1.toInt ∧ a_1.toInt ≤ 3)) ∧ (¬ r.toInt = 0 ∨ (0 ≤ a_2.toInt ∧ a_2.toInt ≤ 3)) ∧ (¬ r.toInt = 0 ∨ (0 ≤ a_3.toInt ∧ a_3.toInt ≤ 60)) ∧ ((r.toInt = 0 ∧ (0 ≤ a_1.toInt ∧ a_1.toInt ≤ 3) ∧ (0 ≤ a_2.toInt ∧ a_2.toInt ≤ 3) ∧ 0 ≤ a_3.toInt ∧ a_3.toInt ≤ 60) ∨ (r.toInt = -2 ∧ (a_1.toInt < 0 ∨ 3 < a_1.toInt ∨ a_2.toInt < 0 ∨ 3 < a_2.toInt ∨ 60 < a_3.toInt)) ∨ (r.toInt = -3 ∧ (0 ≤ a_1.toInt ∧ a_1.toInt ≤ 3) ∧ (0 ≤ a_2.toInt ∧ a_2.toInt ≤ 3) ∧ a_3.toInt < 0)) ∧ ((¬ r.toInt = 0 ∧ f1 = f) ∨ (r.toInt = 0 ∧ RWX f f1 a_0 a_1 a_2 a_3))) := by
  refine ci_of (by decide) (Nat.le_of_ble_eq_true rfl) (fun z hz hnm hC hR => ?_)
  have hC : Cx z E cX11_row RX11 4 2 0 0 := hC
  subst hz
  show V z E 4 0 0 L f 0 [(0, .ref a_0), (1, .int a_1), (2, .int a_2), (3, .int a_3)] []
  refine v_iload_n hC dX11_row_0 rfl ?_
  refine v_si hC (rest := []) mt_X11_isSlot (p_X11_isSlot hW) mx_X11_isSlot ml_X11_353 (by decide) rfl (cells1 := 0) (slots1 := 0) (by decide) (by decide) (Nat.le_of_ble_eq_true rfl) (Nat.le_of_ble_eq_true rfl) rfl (Nat.le_of_ble_eq_true rfl) dX11_row_1 (fun r_1 L_2 f_3 h_4 => ?_)
  obtain ⟨rfl, rfl, b_5, h_6, x_7⟩ := h_4
  try simp only [Int32.reduceToInt, Int64.reduceToInt] at x_7
  refine v_if_eq hC dX11_row_4 (tgt := 22) (by decide) (fun h_10 => ?_) (fun h_10 => ?_)
  · simp only [Int32.lt_iff_toInt_lt, Int32.le_iff_toInt_le, Int32.reduceToInt, ← Int32.toInt_inj] at h_10
    refine v_bipush hC dX11_row_22 (v := (-2)) (by decide) ?_
    exact hR _ _ _ _ _ _ _ dX11_row_24 rfl (Nat.le_of_ble_eq_true rfl) (Nat.le_of_ble_eq_true rfl) ⟨rfl, hW, FR.rf, (by decide), (.inl (by decide)), (.inl (by decide)), (.inl (by decide)), (by first | omega | (simp only [Int32.lt_iff_toInt_lt, Int32.le_iff_toInt_le, Int32.reduceToInt, ← Int32.toInt_inj, true_and, and_true, or_true, true_or, false_or, or_false, false_and, and_false, not_true_eq_false, not_false_eq_true] <;> omega)), (.inl ⟨by decide, rfl⟩)⟩
  · simp only [Int32.lt_iff_toInt_lt, Int32.le_iff_toInt_le, Int32.reduceToInt, ← Int32.toInt_inj] at h_10
    refine v_iload_n hC dX11_row_7 rfl ?_
    refine v_if_lt hC dX11_row_8 (tgt := 22) (by decide) (fun h_11 => ?_) (fun h_11 => ?_)
    · simp only [Int32.lt_iff_toInt_lt, Int32.le_iff_toInt_le, Int32.reduceToInt, ← Int32.toInt_inj] at h_11
      refine v_bipush hC dX11_row_22 (v := (-2)) (by decide) ?_
      exact hR _ _ _ _ _ _ _ dX11_row_24 rfl (Nat.le_of_ble_eq_true rfl) (Nat.le_of_ble_eq_true rfl) ⟨rfl, hW, FR.rf, (by decide), (.inl (by decide)), (.inl (by decide)), (.inl (by decide)), (by first | omega | (simp only [Int32.lt_iff_toInt_lt, Int32.le_iff_toInt_le, Int32.reduceToInt, ← Int32.toInt_inj, true_and, and_true, or_true, true_or, false_or, or_false, false_and, and_false, not_true_eq_false, not_false_eq_true] <;> omega)), (.inl ⟨by decide, rfl⟩)⟩
    · simp only [Int32.lt_iff_toInt_lt, Int32.le_iff_toInt_le, Int32.reduceToInt, ← Int32.toInt_inj] at h_11
      refine v_iload_n hC dX11_row_11 rfl ?_
      refine v_iconst hC dX11_row_12 (v := 4) (by decide) ?_
      refine v_icmp_ge hC dX11_row_13 (tgt := 22) (by decide) (fun h_12 => ?_) (fun h_12 => ?_)
      · simp only [Int32.lt_iff_toInt_lt, Int32.le_iff_toInt_le, Int32.reduceToInt, ← Int32.toInt_inj] at h_12
        refine v_bipush hC dX11_row_22 (v := (-2)) (by decide) ?_
        exact hR _ _ _ _ _ _ _ dX11_row_24 rfl (Nat.le_of_ble_eq_true rfl) (Nat.le_of_ble_eq_true rfl) ⟨rfl, hW, FR.rf, (by decide), (.inl (by decide)), (.inl (by decide)), (.inl (by decide)), (by first | omega | (simp only [Int32.lt_iff_toInt_lt, Int32.le_iff_toInt_le, Int32.reduceToInt, ← Int32.toInt_inj, true_and, and_true, or_true, true_or, false_or, or_false, false_and, and_false, not_true_eq_false, not_false_eq_true] <;> omega)), (.inl ⟨by decide, rfl⟩)⟩
      · simp only [Int32.lt_iff_toInt_lt, Int32.le_iff_toInt_le, Int32.reduceToInt, ← Int32.toInt_inj] at h_12
        refine v_iload_n hC dX11_row_16 rfl ?_
        refine v_bipush hC dX11_row_17 (v := 60) (by decide) ?_
        refine v_icmp_le hC dX11_row_19 (tgt := 25) (by decide) (fun h_13 => ?_) (fun h_13 => ?_)
        · simp only [Int32.lt_iff_toInt_lt, Int32.le_iff_toInt_le, Int32.reduceToInt, ← Int32.toInt_inj] at h_13
          refine v_iload_n hC dX11_row_25 rfl ?_
          refine v_if_ge hC dX11_row_26 (tgt := 32) (by decide) (fun h_14 => ?_) (fun h_14 => ?_)
          · simp only [Int32.lt_iff_toInt_lt, Int32.le_iff_toInt_le, Int32.reduceToInt, ← Int32.toInt_inj] at h_14
            refine v_aload_n hC dX11_row_32 rfl ?_
            obtain ⟨m_15, q_17, q_18, q_19, q_20, q_21, q_22, q_23, q_24, q_25, q_26, q_27, q_28, q_29, q_30, t_16, k_31, k_32, k_33, k_34, k_35, k_36, k_37, k_38, k_39, k_40, k_41, k_42, k_43, k_44⟩ := id k_0
            have e_45 : f a_0 = ob 11 [.ref q_17, .ref q_18, .ref q_19, .ref q_20, .ref q_21, .ref q_22, .ref q_23, .ref q_24, .ref q_25, .ref q_26, .ref q_27, .ref q_28, .ref q_29, .ref q_30] := hW.at m_15 t_16
            refine v_get hC fl_X11_36 m_15 e_45 rfl dX11_row_33 ?_
            refine v_iload_n hC dX11_row_36 rfl ?_
            obtain ⟨m_46, g_48, t_47, k_49⟩ := id k_35
            have e_50 : f q_21 = aR E 6 4 g_48 := hW.at m_46 t_47
            obtain ⟨q_51, h_52, k_53⟩ := k_49 (a_1 : Int32).toNatClampNeg (clamp_lt (vp_in_iff.mpr (by first | omega | (simp only [Int32.lt_iff_toInt_lt, Int32.le_iff_toInt_le, Int32.reduceToInt, ← Int32.toInt_inj, true_and, and_true, or_true, true_or, false_or, or_false, false_and, and_false, not_true_eq_false, not_false_eq_true] <;> omega))))
            refine v_aald hC m_46 e_50 rfl (vp_in_iff.mpr (by first | omega | (simp only [Int32.lt_iff_toInt_lt, Int32.le_iff_toInt_le, Int32.reduceToInt, ← Int32.toInt_inj, true_and, and_true, or_true, true_or, false_or, or_false, false_and, and_false, not_true_eq_false, not_false_eq_true] <;> omega))) (v := .ref q_51) (by rw [h_52]; rfl) dX11_row_37 ?_
            have zo_54 : zso f a_0 (a_1 : Int32).toNatClampNeg = q_51 := zso_eq f a_0 (by rw [e_45]; rfl) e_50 h_52
            have zf_55 : zsw f a_0 (a_1 : Int32).toNatClampNeg = fld (f q_51) 1 := by unfold zsw; rw [zo_54]
            have zf_56 : zss f a_0 (a_1 : Int32).toNatClampNeg = fld (f q_51) 2 := by unfold zss; rw [zo_54]
            refine v_iload_n hC dX11_row_38 rfl ?_
            refine v_iload_n hC dX11_row_39 rfl ?_
            obtain ⟨m_57, q_59, t_58, k_60⟩ := id k_53
            obtain ⟨v_62, v_64, e_61, b_63, b_65⟩ := hW.at m_57 t_58
            refine v_vv hC (rest := []) m_57 e_61 rfl mi_X5_begin ms_X5_begin (p_X5_begin hW k_53 (by first | omega | (simp only [Int32.lt_iff_toInt_lt, Int32.le_iff_toInt_le, Int32.reduceToInt, ← Int32.toInt_inj, true_and, and_true, or_true, true_or, false_or, or_false, false_and, and_false, not_true_eq_false, not_false_eq_true] <;> omega)) (by first | omega | (simp only [Int32.lt_iff_toInt_lt, Int32.le_iff_toInt_le, Int32.reduceToInt, ← Int32.toInt_inj, true_and, and_true, or_true, true_or, false_or, or_false, false_and, and_false, not_true_eq_false, not_false_eq_true] <;> omega))) mx_X5_begin ml_X11_356 (by decide) rfl (cells1 := 0) (slots1 := 0) (by decide) (by decide) (Nat.le_of_ble_eq_true rfl) (Nat.le_of_ble_eq_true rfl) rfl (Nat.le_of_ble_eq_true rfl) dX11_row_40 (fun L_67 f_68 h_69 => ?_)
            obtain ⟨rfl, hW_71, hF_72, x_70⟩ := h_69
            have hf_73 := hF_72.at e_45 rfl
            have hf_74 := hF_72.at e_50 rfl
            refine v_iconst hC dX11_row_43 (v := 0) (by decide) ?_
            exact hR _ _ _ _ _ _ _ dX11_row_44 rfl (Nat.le_of_ble_eq_true rfl) (Nat.le_of_ble_eq_true rfl) ⟨rfl, hW_71, (hF_72.mono rfl), (by decide), (.inr (by first | omega | (simp only [Int32.lt_iff_toInt_lt, Int32.le_iff_toInt_le, Int32.reduceToInt, ← Int32.toInt_inj, true_and, and_true, or_true, true_or, false_or, or_false, false_and, and_false, not_true_eq_false, not_false_eq_true] <;> omega))), (.inr (by first | omega | (simp only [Int32.lt_iff_toInt_lt, Int32.le_iff_toInt_le, Int32.reduceToInt, ← Int32.toInt_inj, true_and, and_true, or_true, true_or, false_or, or_false, false_and, and_false, not_true_eq_false, not_false_eq_true] <;> omega))), (.inr (by first | omega | (simp only [Int32.lt_iff_toInt_lt, Int32.le_iff_toInt_le, Int32.reduceToInt, ← Int32.toInt_inj, true_and, and_true, or_true, true_or, false_or, or_false, false_and, and_false, not_true_eq_false, not_false_eq_true] <;> omega))), (by first | omega | (simp only [Int32.lt_iff_toInt_lt, Int32.le_iff_toInt_le, Int32.reduceToInt, ← Int32.toInt_inj, true_and, and_true, or_true, true_or, false_or, or_false, false_and, and_false, not_true_eq_false, not_false_eq_true] <;> omega)), (.inr ⟨by decide, by unfold RWX; rw [zo_54]; exact x_70⟩)⟩
          · simp only [Int32.lt_iff_toInt_lt, Int32.le_iff_toInt_le, Int32.reduceToInt, ← Int32.toInt_inj] at h_14
            refine v_bipush hC dX11_row_29 (v := (-3)) (by decide) ?_
            exact hR _ _ _ _ _ _ _ dX11_row_31 rfl (Nat.le_of_ble_eq_true rfl) (Nat.le_of_ble_eq_true rfl) ⟨rfl, hW, FR.rf, (by decide), (.inl (by decide)), (.inl (by decide)), (.inl (by decide)), (by first | omega | (simp only [Int32.lt_iff_toInt_lt, Int32.le_iff_toInt_le, Int32.reduceToInt, ← Int32.toInt_inj, true_and, and_true, or_true, true_or, false_or, or_false, false_and, and_false, not_true_eq_false, not_false_eq_true] <;> omega)), (.inl ⟨by decide, rfl⟩)⟩
        · simp only [Int32.lt_iff_toInt_lt, Int32.le_iff_toInt_le, Int32.reduceToInt, ← Int32.toInt_inj] at h_13
          refine v_bipush hC dX11_row_22 (v := (-2)) (by decide) ?_
          exact hR _ _ _ _ _ _ _ dX11_row_24 rfl (Nat.le_of_ble_eq_true rfl) (Nat.le_of_ble_eq_true rfl) ⟨rfl, hW, FR.rf, (by decide), (.inl (by decide)), (.inl (by decide)), (.inl (by decide)), (by first | omega | (simp only [Int32.lt_iff_toInt_lt, Int32.le_iff_toInt_le, Int32.reduceToInt, ← Int32.toInt_inj, true_and, and_true, or_true, true_or, false_or, or_false, false_and, and_false, not_true_eq_false, not_false_eq_true] <;> omega)), (.inl ⟨by decide, rfl⟩)⟩
set_option maxRecDepth 100000 in
set_option maxHeartbeats 8000000 in
theorem p_X11_write {l : Launch} {E : Ez} {L : List Nat} {f : Nat → va_E} {T : Nat → va_E → Prop} {a_0 : Nat} {a_1 : Int32} {a_2 : Int32} {a_3 : Int64} (hW : WT T L f) (k_0 : isX T L E a_0) : CI l yX11_write cX11_write 5 .int 2 0 0 E [.ref a_0, .int a_1, .int a_2, .long a_3] L f (fun r L1 f1 => L = L1 ∧ WT T L f1 ∧ FR [160] f f1 ∧ ((-7) ≤ r.toInt ∧ r.toInt ≤ 0) ∧ (¬ r.toInt = 0 ∨ (0 ≤ a_1.toInt ∧ a_1.toInt ≤ 3)) ∧ (¬ r.toInt = 0 ∨ (0 ≤ a_2.toInt ∧ a_2.toInt ≤ 60))) := by
  refine ci_of (by decide) (Nat.le_of_ble_eq_true rfl) (fun z hz hnm hC hR => ?_)
  have hC : Cx z E cX11_write RX11 5 2 0 0 := hC
  subst hz
  show V z E 5 0 0 L f 0 [(0, .ref a_0), (1, .int a_1), (2, .int a_2), (3, .long a_3)] []
  refine v_iload_n hC dX11_write_0 rfl ?_
  refine v_si hC (rest := []) mt_X11_isSlot (p_X11_isSlot hW) mx_X11_isSlot ml_X11_353 (by decide) rfl (cells1 := 0) (slots1 := 0) (by decide) (by decide) (Nat.le_of_ble_eq_true rfl) (Nat.le_of_ble_eq_true rfl) rfl (Nat.le_of_ble_eq_true rfl) dX11_write_1 (fun r_1 L_2 f_3 h_4 => ?_)
  obtain ⟨rfl, rfl, b_5, h_6, x_7⟩ := h_4
  try simp only [Int32.reduceToInt, Int64.reduceToInt] at x_7
  refine v_if_ne hC dX11_write_4 (tgt := 10) (by decide) (fun h_10 => ?_) (fun h_10 => ?_)
  · simp only [Int32.lt_iff_toInt_lt, Int32.le_iff_toInt_le, Int32.reduceToInt, ← Int32.toInt_inj] at h_10
    refine v_aload_n hC dX11_write_10 rfl ?_
    obtain ⟨m_11, q_13, q_14, q_15, q_16, q_17, q_18, q_19, q_20, q_21, q_22, q_23, q_24, q_25, q_26, t_12, k_27, k_28, k_29, k_30, k_31, k_32, k_33, k_34, k_35, k_36, k_37, k_38, k_39, k_40⟩ := id k_0
    have e_41 : f a_0 = ob 11 [.ref q_13, .ref q_14, .ref q_15, .ref q_16, .ref q_17, .ref q_18, .ref q_19, .ref q_20, .ref q_21, .ref q_22, .ref q_23, .ref q_24, .ref q_25, .ref q_26] := hW.at m_11 t_12
    refine v_get hC fl_X11_36 m_11 e_41 rfl dX11_write_11 ?_
    refine v_iload_n hC dX11_write_14 rfl ?_
    obtain ⟨m_42, g_44, t_43, k_45⟩ := id k_31
    have e_46 : f q_17 = aR E 6 4 g_44 := hW.at m_42 t_43
    obtain ⟨q_47, h_48, k_49⟩ := k_45 (a_1 : Int32).toNatClampNeg (clamp_lt (vp_in_iff.mpr (by first | omega | (simp only [Int32.lt_iff_toInt_lt, Int32.le_iff_toInt_le, Int32.reduceToInt, ← Int32.toInt_inj, true_and, and_true, or_true, true_or, false_or, or_false, false_and, and_false, not_true_eq_false, not_false_eq_true] <;> omega))))
    refine v_aald hC m_42 e_46 rfl (vp_in_iff.mpr (by first | omega | (simp only [Int32.lt_iff_toInt_lt, Int32.le_iff_toInt_le, Int32.reduceToInt, ← Int32.toInt_inj, true_and, and_true, or_true, true_or, false_or, or_false, false_and, and_false, not_true_eq_false, not_false_eq_true] <;> omega))) (v := .ref q_47) (by rw [h_48]; rfl) dX11_write_15 ?_
    have zo_50 : zso f a_0 (a_1 : Int32).toNatClampNeg = q_47 := zso_eq f a_0 (by rw [e_41]; rfl) e_46 h_48
    have zf_51 : zsw f a_0 (a_1 : Int32).toNatClampNeg = fld (f q_47) 1 := by unfold zsw; rw [zo_50]
    have zf_52 : zss f a_0 (a_1 : Int32).toNatClampNeg = fld (f q_47) 2 := by unfold zss; rw [zo_50]
    obtain ⟨m_53, q_55, t_54, k_56⟩ := id k_49
    obtain ⟨v_58, v_60, e_57, b_59, b_61⟩ := hW.at m_53 t_54
    refine v_vi hC (rest := []) m_53 e_57 rfl mi_X5_isThere ms_X5_isThere (p_X5_isThere hW k_49) mx_X5_isThere ml_X11_359 (by decide) rfl (cells1 := 0) (slots1 := 0) (by decide) (by decide) (Nat.le_of_ble_eq_true rfl) (Nat.le_of_ble_eq_true rfl) rfl (Nat.le_of_ble_eq_true rfl) dX11_write_16 (fun r_62 L_63 f_64 h_65 => ?_)
    obtain ⟨rfl, rfl, b_66, x_67⟩ := h_65
    try simp only [Int32.reduceToInt, Int64.reduceToInt] at x_67
    refine v_if_ne hC dX11_write_19 (tgt := 25) (by decide) (fun h_70 => ?_) (fun h_70 => ?_)
    · simp only [Int32.lt_iff_toInt_lt, Int32.le_iff_toInt_le, Int32.reduceToInt, ← Int32.toInt_inj] at h_70
      refine v_aload_n hC dX11_write_25 rfl ?_
      refine v_get hC fl_X11_36 m_11 e_41 rfl dX11_write_26 ?_
      refine v_iload_n hC dX11_write_29 rfl ?_
      refine v_aald hC m_42 e_46 rfl (vp_in_iff.mpr (by first | omega | (simp only [Int32.lt_iff_toInt_lt, Int32.le_iff_toInt_le, Int32.reduceToInt, ← Int32.toInt_inj, true_and, and_true, or_true, true_or, false_or, or_false, false_and, and_false, not_true_eq_false, not_false_eq_true] <;> omega))) (v := .ref q_47) (by rw [h_48]; rfl) dX11_write_30 ?_
      refine v_iload_n hC dX11_write_31 rfl ?_
      refine v_iconst hC dX11_write_32 (v := 1) (by decide) ?_
      refine v_vi hC (rest := []) m_53 e_57 rfl mi_X5_has ms_X5_has (p_X5_has hW k_49) mx_X5_has ml_X11_360 (by decide) rfl (cells1 := 0) (slots1 := 0) (by decide) (by decide) (Nat.le_of_ble_eq_true rfl) (Nat.le_of_ble_eq_true rfl) rfl (Nat.le_of_ble_eq_true rfl) dX11_write_33 (fun r_74 L_75 f_76 h_77 => ?_)
      obtain ⟨rfl, rfl, b_78, h_79, h_80, x_81, x_82⟩ := h_77
      try simp only [Int32.reduceToInt, Int64.reduceToInt] at x_81
      try simp only [Int32.reduceToInt, Int64.reduceToInt] at x_82
      refine v_if_ne hC dX11_write_36 (tgt := 42) (by decide) (fun h_85 => ?_) (fun h_85 => ?_)
      · simp only [Int32.lt_iff_toInt_lt, Int32.le_iff_toInt_le, Int32.reduceToInt, ← Int32.toInt_inj] at h_85
        refine v_aload_n hC dX11_write_42 rfl ?_
        refine v_get hC fl_X11_36 m_11 e_41 rfl dX11_write_43 ?_
        refine v_iload_n hC dX11_write_46 rfl ?_
        refine v_aald hC m_42 e_46 rfl (vp_in_iff.mpr (by first | omega | (simp only [Int32.lt_iff_toInt_lt, Int32.le_iff_toInt_le, Int32.reduceToInt, ← Int32.toInt_inj, true_and, and_true, or_true, true_or, false_or, or_false, false_and, and_false, not_true_eq_false, not_false_eq_true] <;> omega))) (v := .ref q_47) (by rw [h_48]; rfl) dX11_write_47 ?_
        refine v_iload_n hC dX11_write_48 rfl ?_
        refine v_lload_n hC dX11_write_49 rfl ?_
        refine v_vv hC (rest := []) m_53 e_57 rfl mi_X5_set ms_X5_set (p_X5_set hW k_49) mx_X5_set ml_X11_364 (by decide) rfl (cells1 := 0) (slots1 := 0) (by decide) (by decide) (Nat.le_of_ble_eq_true rfl) (Nat.le_of_ble_eq_true rfl) rfl (Nat.le_of_ble_eq_true rfl) dX11_write_50 (fun L_90 f_91 h_92 => ?_)
        obtain ⟨rfl, hW_93, hF_94⟩ := h_92
        have hf_95 := hF_94.at e_41 rfl
        have hf_96 := hF_94.at e_46 rfl
        have hf_97 := hF_94.at e_57 rfl
        refine v_iconst hC dX11_write_53 (v := 0) (by decide) ?_
        exact hR _ _ _ _ _ _ _ dX11_write_54 rfl (Nat.le_of_ble_eq_true rfl) (Nat.le_of_ble_eq_true rfl) ⟨rfl, hW_93, (hF_94.mono rfl), (by decide), (.inr (by first | omega | (simp only [Int32.lt_iff_toInt_lt, Int32.le_iff_toInt_le, Int32.reduceToInt, ← Int32.toInt_inj, true_and, and_true, or_true, true_or, false_or, or_false, false_and, and_false, not_true_eq_false, not_false_eq_true] <;> omega))), (.inr (by first | omega | (simp only [Int32.lt_iff_toInt_lt, Int32.le_iff_toInt_le, Int32.reduceToInt, ← Int32.toInt_inj, true_and, and_true, or_true, true_or, false_or, or_false, false_and, and_false, not_true_eq_false, not_false_eq_true] <;> omega)))⟩
      · simp only [Int32.lt_iff_toInt_lt, Int32.le_iff_toInt_le, Int32.reduceToInt, ← Int32.toInt_inj] at h_85
        refine v_bipush hC dX11_write_39 (v := (-7)) (by decide) ?_
        exact hR _ _ _ _ _ _ _ dX11_write_41 rfl (Nat.le_of_ble_eq_true rfl) (Nat.le_of_ble_eq_true rfl) ⟨rfl, hW, FR.rf, (by decide), (.inl (by decide)), (.inl (by decide))⟩
    · simp only [Int32.lt_iff_toInt_lt, Int32.le_iff_toInt_le, Int32.reduceToInt, ← Int32.toInt_inj] at h_70
      refine v_bipush hC dX11_write_22 (v := (-6)) (by decide) ?_
      exact hR _ _ _ _ _ _ _ dX11_write_24 rfl (Nat.le_of_ble_eq_true rfl) (Nat.le_of_ble_eq_true rfl) ⟨rfl, hW, FR.rf, (by decide), (.inl (by decide)), (.inl (by decide))⟩
  · simp only [Int32.lt_iff_toInt_lt, Int32.le_iff_toInt_le, Int32.reduceToInt, ← Int32.toInt_inj] at h_10
    refine v_bipush hC dX11_write_7 (v := (-2)) (by decide) ?_
    exact hR _ _ _ _ _ _ _ dX11_write_9 rfl (Nat.le_of_ble_eq_true rfl) (Nat.le_of_ble_eq_true rfl) ⟨rfl, hW, FR.rf, (by decide), (.inl (by decide)), (.inl (by decide))⟩
set_option maxRecDepth 100000 in
set_option maxHeartbeats 8000000 in
theorem p_X11_paste {l : Launch} {E : Ez} {L : List Nat} {f : Nat → va_E} {T : Nat → va_E → Prop} {a_0 : Nat} {a_1 : Int32} {a_2 : Int32} {a_3 : Int32} {a_4 : Int32} {a_5 : Int32} (hW : WT T L f) (k_0 : isX T L E a_0) : CI l yX11_paste cX11_paste 6 .int 1 0 0 E [.ref a_0, .int a_1, .int a_2, .int a_3, .int a_4, .int a_5] L f (fun r L1 f1 => L = L1 ∧ WT T L f1 ∧ FR [160] f f1 ∧ ((-8) ≤ r.toInt ∧ r.toInt ≤ 0) ∧ (¬ r.toInt = 0 ∨ (0 ≤ a_1.toInt ∧ a_1.toInt ≤ 3)) ∧ (¬ r.toInt = 0 ∨ (0 ≤ a_2.toInt ∧ a_2.toInt ≤ 60)) ∧ (¬ r.toInt = 0 ∨ (0 ≤ a_3.toInt ∧ a_3.toInt ≤ 3)) ∧ (¬ r.toInt = 0 ∨ (0 ≤ a_4.toInt ∧ a_4.toInt ≤ 60)) ∧ (¬ r.toInt = 0 ∨ (0 ≤ a_5.toInt ∧ a_5.toInt ≤ 60)) ∧ ((r.toInt = -2 ∧ (a_1.toInt < 0 ∨ 3 < a_1.toInt ∨ a_3.toInt < 0 ∨ 3 < a_3.toInt)) ∨ ((0 ≤ a_1.toInt ∧ a_1.toInt ≤ 3 ∧ 0 ≤ a_3.toInt ∧ a_3.toInt ≤ 3) ∧ ((r.toInt = -6 ∧ (zsw f a_0 a_1.toNatClampNeg = -1 ∨ zsw f a_0 a_3.toNatClampNeg = -1)) ∨ ((¬ zsw f a_0 a_1.toNatClampNeg = -1 ∧ ¬ zsw f a_0 a_3.toNatClampNeg = -1) ∧ ((r.toInt = -8 ∧ ¬ zsw f a_0 a_1.toNatClampNeg = zsw f a_0 a_3.toNatClampNeg) ∨ (zsw f a_0 a_1.toNatClampNeg = zsw f a_0 a_3.toNatClampNeg ∧ ((r.toInt = -7 ∧ (a_2.toInt < 0 ∨ a_4.toInt < 0 ∨ a_5.toInt < 0 ∨ zss f a_0 a_1.toNatClampNeg < a_2.toInt + a_5.toInt ∨ zss f a_0 a_3.toNatClampNeg < a_4.toInt + a_5.toInt)) ∨ (r.toInt = 0 ∧ 0 ≤ a_2.toInt ∧ 0 ≤ a_4.toInt ∧ 0 ≤ a_5.toInt ∧ a_2.toInt + a_5.toInt ≤ zss f a_0 a_1.toNatClampNeg ∧ a_4.toInt + a_5.toInt ≤ zss f a_0 a_3.toNatClampNeg))))))))) := by
  refine ci_of (by decide) (Nat.le_of_ble_eq_true rfl) (fun z hz hnm hC hR => ?_)
  have hC : Cx z E cX11_paste RX11 6 1 0 0 := hC
  subst hz
  show V z E 6 0 0 L f 0 [(0, .ref a_0), (1, .int a_1), (2, .int a_2), (3, .int a_3), (4, .int a_4), (5, .int a_5)] []
  refine v_iload_n hC dX11_paste_0 rfl ?_
  refine v_si hC (rest := []) mt_X11_isSlot (p_X11_isSlot hW) mx_X11_isSlot ml_X11_353 (by decide) rfl (cells1 := 0) (slots1 := 0) (by decide) (by decide) (Nat.le_of_ble_eq_true rfl) (Nat.le_of_ble_eq_true rfl) rfl (Nat.le_of_ble_eq_true rfl) dX11_paste_1 (fun r_1 L_2 f_3 h_4 => ?_)
  obtain ⟨rfl, rfl, b_5, h_6, x_7⟩ := h_4
  try simp only [Int32.reduceToInt, Int64.reduceToInt] at x_7
  refine v_if_eq hC dX11_paste_4 (tgt := 14) (by decide) (fun h_10 => ?_) (fun h_10 => ?_)
  · simp only [Int32.lt_iff_toInt_lt, Int32.le_iff_toInt_le, Int32.reduceToInt, ← Int32.toInt_inj] at h_10
    refine v_bipush hC dX11_paste_14 (v := (-2)) (by decide) ?_
    exact hR _ _ _ _ _ _ _ dX11_paste_16 rfl (Nat.le_of_ble_eq_true rfl) (Nat.le_of_ble_eq_true rfl) ⟨rfl, hW, FR.rf, (by decide), (.inl (by decide)), (.inl (by decide)), (.inl (by decide)), (.inl (by decide)), (.inl (by decide)), (by first | omega | (simp only [Int32.lt_iff_toInt_lt, Int32.le_iff_toInt_le, Int32.reduceToInt, ← Int32.toInt_inj, true_and, and_true, or_true, true_or, false_or, or_false, false_and, and_false, not_true_eq_false, not_false_eq_true] <;> omega))⟩
  · simp only [Int32.lt_iff_toInt_lt, Int32.le_iff_toInt_le, Int32.reduceToInt, ← Int32.toInt_inj] at h_10
    refine v_iload_n hC dX11_paste_7 rfl ?_
    refine v_si hC (rest := []) mt_X11_isSlot (p_X11_isSlot hW) mx_X11_isSlot ml_X11_353 (by decide) rfl (cells1 := 0) (slots1 := 0) (by decide) (by decide) (Nat.le_of_ble_eq_true rfl) (Nat.le_of_ble_eq_true rfl) rfl (Nat.le_of_ble_eq_true rfl) dX11_paste_8 (fun r_11 L_12 f_13 h_14 => ?_)
    obtain ⟨rfl, rfl, b_15, h_16, x_17⟩ := h_14
    try simp only [Int32.reduceToInt, Int64.reduceToInt] at x_17
    refine v_if_ne hC dX11_paste_11 (tgt := 17) (by decide) (fun h_20 => ?_) (fun h_20 => ?_)
    · simp only [Int32.lt_iff_toInt_lt, Int32.le_iff_toInt_le, Int32.reduceToInt, ← Int32.toInt_inj] at h_20
      refine v_aload_n hC dX11_paste_17 rfl ?_
      obtain ⟨m_21, q_23, q_24, q_25, q_26, q_27, q_28, q_29, q_30, q_31, q_32, q_33, q_34, q_35, q_36, t_22, k_37, k_38, k_39, k_40, k_41, k_42, k_43, k_44, k_45, k_46, k_47, k_48, k_49, k_50⟩ := id k_0
      have e_51 : f a_0 = ob 11 [.ref q_23, .ref q_24, .ref q_25, .ref q_26, .ref q_27, .ref q_28, .ref q_29, .ref q_30, .ref q_31, .ref q_32, .ref q_33, .ref q_34, .ref q_35, .ref q_36] := hW.at m_21 t_22
      refine v_get hC fl_X11_36 m_21 e_51 rfl dX11_paste_18 ?_
      refine v_iload_n hC dX11_paste_21 rfl ?_
      obtain ⟨m_52, g_54, t_53, k_55⟩ := id k_41
      have e_56 : f q_27 = aR E 6 4 g_54 := hW.at m_52 t_53
      obtain ⟨q_57, h_58, k_59⟩ := k_55 (a_1 : Int32).toNatClampNeg (clamp_lt (vp_in_iff.mpr (by first | omega | (simp only [Int32.lt_iff_toInt_lt, Int32.le_iff_toInt_le, Int32.reduceToInt, ← Int32.toInt_inj, true_and, and_true, or_true, true_or, false_or, or_false, false_and, and_false, not_true_eq_false, not_false_eq_true] <;> omega))))
      refine v_aald hC m_52 e_56 rfl (vp_in_iff.mpr (by first | omega | (simp only [Int32.lt_iff_toInt_lt, Int32.le_iff_toInt_le, Int32.reduceToInt, ← Int32.toInt_inj, true_and, and_true, or_true, true_or, false_or, or_false, false_and, and_false, not_true_eq_false, not_false_eq_true] <;> omega))) (v := .ref q_57) (by rw [h_58]; rfl) dX11_paste_22 ?_
      have zo_60 : zso f a_0 (a_1 : Int32).toNatClampNeg = q_57 := zso_eq f a_0 (by rw [e_51]; rfl) e_56 h_58
      have zf_61 : zsw f a_0 (a_1 : Int32).toNatClampNeg = fld (f q_57) 1 := by unfold zsw; rw [zo_60]
      have zf_62 : zss f a_0 (a_1 : Int32).toNatClampNeg = fld (f q_57) 2 := by unfold zss; rw [zo_60]
      obtain ⟨m_63, q_65, t_64, k_66⟩ := id k_59
      obtain ⟨v_68, v_70, e_67, b_69, b_71⟩ := hW.at m_63 t_64
      refine v_vi hC (rest := []) m_63 e_67 rfl mi_X5_isThere ms_X5_isThere (p_X5_isThere hW k_59) mx_X5_isThere ml_X11_359 (by decide) rfl (cells1 := 0) (slots1 := 0) (by decide) (by decide) (Nat.le_of_ble_eq_true rfl) (Nat.le_of_ble_eq_true rfl) rfl (Nat.le_of_ble_eq_true rfl) dX11_paste_23 (fun r_72 L_73 f_74 h_75 => ?_)
      obtain ⟨rfl, rfl, b_76, x_77⟩ := h_75
      try simp only [Int32.reduceToInt, Int64.reduceToInt] at x_77
      refine v_if_eq hC dX11_paste_26 (tgt := 41) (by decide) (fun h_80 => ?_) (fun h_80 => ?_)
      · simp only [Int32.lt_iff_toInt_lt, Int32.le_iff_toInt_le, Int32.reduceToInt, ← Int32.toInt_inj] at h_80
        refine v_bipush hC dX11_paste_41 (v := (-6)) (by decide) ?_
        exact hR _ _ _ _ _ _ _ dX11_paste_43 rfl (Nat.le_of_ble_eq_true rfl) (Nat.le_of_ble_eq_true rfl) ⟨rfl, hW, FR.rf, (by decide), (.inl (by decide)), (.inl (by decide)), (.inl (by decide)), (.inl (by decide)), (.inl (by decide)), (by first | omega | (simp only [Int32.lt_iff_toInt_lt, Int32.le_iff_toInt_le, Int32.reduceToInt, ← Int32.toInt_inj, true_and, and_true, or_true, true_or, false_or, or_false, false_and, and_false, not_true_eq_false, not_false_eq_true] <;> omega))⟩
      · simp only [Int32.lt_iff_toInt_lt, Int32.le_iff_toInt_le, Int32.reduceToInt, ← Int32.toInt_inj] at h_80
        refine v_aload_n hC dX11_paste_29 rfl ?_
        refine v_get hC fl_X11_36 m_21 e_51 rfl dX11_paste_30 ?_
        refine v_iload_n hC dX11_paste_33 rfl ?_
        obtain ⟨q_81, h_82, k_83⟩ := k_55 (a_3 : Int32).toNatClampNeg (clamp_lt (vp_in_iff.mpr (by first | omega | (simp only [Int32.lt_iff_toInt_lt, Int32.le_iff_toInt_le, Int32.reduceToInt, ← Int32.toInt_inj, true_and, and_true, or_true, true_or, false_or, or_false, false_and, and_false, not_true_eq_false, not_false_eq_true] <;> omega))))
        refine v_aald hC m_52 e_56 rfl (vp_in_iff.mpr (by first | omega | (simp only [Int32.lt_iff_toInt_lt, Int32.le_iff_toInt_le, Int32.reduceToInt, ← Int32.toInt_inj, true_and, and_true, or_true, true_or, false_or, or_false, false_and, and_false, not_true_eq_false, not_false_eq_true] <;> omega))) (v := .ref q_81) (by rw [h_82]; rfl) dX11_paste_34 ?_
        have zo_84 : zso f a_0 (a_3 : Int32).toNatClampNeg = q_81 := zso_eq f a_0 (by rw [e_51]; rfl) e_56 h_82
        have zf_85 : zsw f a_0 (a_3 : Int32).toNatClampNeg = fld (f q_81) 1 := by unfold zsw; rw [zo_84]
        have zf_86 : zss f a_0 (a_3 : Int32).toNatClampNeg = fld (f q_81) 2 := by unfold zss; rw [zo_84]
        obtain ⟨m_87, q_89, t_88, k_90⟩ := id k_83
        obtain ⟨v_92, v_94, e_91, b_93, b_95⟩ := hW.at m_87 t_88
        refine v_vi hC (rest := []) m_87 e_91 rfl mi_X5_isThere ms_X5_isThere (p_X5_isThere hW k_83) mx_X5_isThere ml_X11_359 (by decide) rfl (cells1 := 0) (slots1 := 0) (by decide) (by decide) (Nat.le_of_ble_eq_true rfl) (Nat.le_of_ble_eq_true rfl) rfl (Nat.le_of_ble_eq_true rfl) dX11_paste_35 (fun r_96 L_97 f_98 h_99 => ?_)
        obtain ⟨rfl, rfl, b_100, x_101⟩ := h_99
        try simp only [Int32.reduceToInt, Int64.reduceToInt] at x_101
        refine v_if_ne hC dX11_paste_38 (tgt := 44) (by decide) (fun h_104 => ?_) (fun h_104 => ?_)
        · simp only [Int32.lt_iff_toInt_lt, Int32.le_iff_toInt_le, Int32.reduceToInt, ← Int32.toInt_inj] at h_104
          refine v_aload_n hC dX11_paste_44 rfl ?_
          refine v_get hC fl_X11_36 m_21 e_51 rfl dX11_paste_45 ?_
          refine v_iload_n hC dX11_paste_48 rfl ?_
          refine v_aald hC m_52 e_56 rfl (vp_in_iff.mpr (by first | omega | (simp only [Int32.lt_iff_toInt_lt, Int32.le_iff_toInt_le, Int32.reduceToInt, ← Int32.toInt_inj, true_and, and_true, or_true, true_or, false_or, or_false, false_and, and_false, not_true_eq_false, not_false_eq_true] <;> omega))) (v := .ref q_57) (by rw [h_58]; rfl) dX11_paste_49 ?_
          refine v_getN hC fn_X11_368 m_63 e_67 rfl dX11_paste_50 ?_
          have fz_108 : fld (f q_57) 1 = v_68.toInt := by rw [e_67]; rfl
          refine v_aload_n hC dX11_paste_53 rfl ?_
          refine v_get hC fl_X11_36 m_21 e_51 rfl dX11_paste_54 ?_
          refine v_iload_n hC dX11_paste_57 rfl ?_
          refine v_aald hC m_52 e_56 rfl (vp_in_iff.mpr (by first | omega | (simp only [Int32.lt_iff_toInt_lt, Int32.le_iff_toInt_le, Int32.reduceToInt, ← Int32.toInt_inj, true_and, and_true, or_true, true_or, false_or, or_false, false_and, and_false, not_true_eq_false, not_false_eq_true] <;> omega))) (v := .ref q_81) (by rw [h_82]; rfl) dX11_paste_58 ?_
          refine v_getN hC fn_X11_368 m_87 e_91 rfl dX11_paste_59 ?_
          have fz_112 : fld (f q_81) 1 = v_92.toInt := by rw [e_91]; rfl
          refine v_icmp_eq hC dX11_paste_62 (tgt := 68) (by decide) (fun h_113 => ?_) (fun h_113 => ?_)
          · simp only [Int32.lt_iff_toInt_lt, Int32.le_iff_toInt_le, Int32.reduceToInt, ← Int32.toInt_inj] at h_113
            refine v_aload_n hC dX11_paste_68 rfl ?_
            refine v_get hC fl_X11_36 m_21 e_51 rfl dX11_paste_69 ?_
            refine v_iload_n hC dX11_paste_72 rfl ?_
            refine v_aald hC m_52 e_56 rfl (vp_in_iff.mpr (by first | omega | (simp only [Int32.lt_iff_toInt_lt, Int32.le_iff_toInt_le, Int32.reduceToInt, ← Int32.toInt_inj, true_and, and_true, or_true, true_or, false_or, or_false, false_and, and_false, not_true_eq_false, not_false_eq_true] <;> omega))) (v := .ref q_57) (by rw [h_58]; rfl) dX11_paste_73 ?_
            refine v_iload_n hC dX11_paste_74 rfl ?_
            refine v_iload hC dX11_paste_75 rfl ?_
            refine v_vi hC (rest := []) m_63 e_67 rfl mi_X5_has ms_X5_has (p_X5_has hW k_59) mx_X5_has ml_X11_360 (by decide) rfl (cells1 := 0) (slots1 := 0) (by decide) (by decide) (Nat.le_of_ble_eq_true rfl) (Nat.le_of_ble_eq_true rfl) rfl (Nat.le_of_ble_eq_true rfl) dX11_paste_77 (fun r_117 L_118 f_119 h_120 => ?_)
            obtain ⟨rfl, rfl, b_121, h_122, h_123, x_124, x_125⟩ := h_120
            try simp only [Int32.reduceToInt, Int64.reduceToInt] at x_124
            try simp only [Int32.reduceToInt, Int64.reduceToInt] at x_125
            refine v_if_eq hC dX11_paste_80 (tgt := 99) (by decide) (fun h_128 => ?_) (fun h_128 => ?_)
            · simp only [Int32.lt_iff_toInt_lt, Int32.le_iff_toInt_le, Int32.reduceToInt, ← Int32.toInt_inj] at h_128
              refine v_bipush hC dX11_paste_99 (v := (-7)) (by decide) ?_
              exact hR _ _ _ _ _ _ _ dX11_paste_101 rfl (Nat.le_of_ble_eq_true rfl) (Nat.le_of_ble_eq_true rfl) ⟨rfl, hW, FR.rf, (by decide), (.inl (by decide)), (.inl (by decide)), (.inl (by decide)), (.inl (by decide)), (.inl (by decide)), (by first | omega | (simp only [Int32.lt_iff_toInt_lt, Int32.le_iff_toInt_le, Int32.reduceToInt, ← Int32.toInt_inj, true_and, and_true, or_true, true_or, false_or, or_false, false_and, and_false, not_true_eq_false, not_false_eq_true] <;> omega))⟩
            · simp only [Int32.lt_iff_toInt_lt, Int32.le_iff_toInt_le, Int32.reduceToInt, ← Int32.toInt_inj] at h_128
              refine v_aload_n hC dX11_paste_83 rfl ?_
              refine v_get hC fl_X11_36 m_21 e_51 rfl dX11_paste_84 ?_
              refine v_iload_n hC dX11_paste_87 rfl ?_
              refine v_aald hC m_52 e_56 rfl (vp_in_iff.mpr (by first | omega | (simp only [Int32.lt_iff_toInt_lt, Int32.le_iff_toInt_le, Int32.reduceToInt, ← Int32.toInt_inj, true_and, and_true, or_true, true_or, false_or, or_false, false_and, and_false, not_true_eq_false, not_false_eq_true] <;> omega))) (v := .ref q_81) (by rw [h_82]; rfl) dX11_paste_88 ?_
              refine v_iload hC dX11_paste_89 rfl ?_
              refine v_iload hC dX11_paste_91 rfl ?_
              refine v_vi hC (rest := []) m_87 e_91 rfl mi_X5_has ms_X5_has (p_X5_has hW k_83) mx_X5_has ml_X11_360 (by decide) rfl (cells1 := 0) (slots1 := 0) (by decide) (by decide) (Nat.le_of_ble_eq_true rfl) (Nat.le_of_ble_eq_true rfl) rfl (Nat.le_of_ble_eq_true rfl) dX11_paste_93 (fun r_132 L_133 f_134 h_135 => ?_)
              obtain ⟨rfl, rfl, b_136, h_137, h_138, x_139, x_140⟩ := h_135
              try simp only [Int32.reduceToInt, Int64.reduceToInt] at x_139
              try simp only [Int32.reduceToInt, Int64.reduceToInt] at x_140
              refine v_if_ne hC dX11_paste_96 (tgt := 102) (by decide) (fun h_143 => ?_) (fun h_143 => ?_)
              · simp only [Int32.lt_iff_toInt_lt, Int32.le_iff_toInt_le, Int32.reduceToInt, ← Int32.toInt_inj] at h_143
                refine v_aload_n hC dX11_paste_102 rfl ?_
                refine v_get hC fl_X11_36 m_21 e_51 rfl dX11_paste_103 ?_
                refine v_iload_n hC dX11_paste_106 rfl ?_
                refine v_aald hC m_52 e_56 rfl (vp_in_iff.mpr (by first | omega | (simp only [Int32.lt_iff_toInt_lt, Int32.le_iff_toInt_le, Int32.reduceToInt, ← Int32.toInt_inj, true_and, and_true, or_true, true_or, false_or, or_false, false_and, and_false, not_true_eq_false, not_false_eq_true] <;> omega))) (v := .ref q_57) (by rw [h_58]; rfl) dX11_paste_107 ?_
                refine v_getN hC fn_X11_371 m_63 e_67 rfl dX11_paste_108 ?_
                refine v_iload_n hC dX11_paste_111 rfl ?_
                refine v_aload_n hC dX11_paste_112 rfl ?_
                refine v_get hC fl_X11_36 m_21 e_51 rfl dX11_paste_113 ?_
                refine v_iload_n hC dX11_paste_116 rfl ?_
                refine v_aald hC m_52 e_56 rfl (vp_in_iff.mpr (by first | omega | (simp only [Int32.lt_iff_toInt_lt, Int32.le_iff_toInt_le, Int32.reduceToInt, ← Int32.toInt_inj, true_and, and_true, or_true, true_or, false_or, or_false, false_and, and_false, not_true_eq_false, not_false_eq_true] <;> omega))) (v := .ref q_81) (by rw [h_82]; rfl) dX11_paste_117 ?_
                refine v_getN hC fn_X11_371 m_87 e_91 rfl dX11_paste_118 ?_
                refine v_iload hC dX11_paste_121 rfl ?_
                refine v_iload hC dX11_paste_123 rfl ?_
                obtain ⟨m_150, t_151⟩ := id k_66
                obtain ⟨g_153, e_152⟩ := hW.at m_150 t_151
                obtain ⟨m_154, t_155⟩ := id k_90
                obtain ⟨g_157, e_156⟩ := hW.at m_154 t_155
                refine v_copyl hC mo_X11_136 cp_n_ cp_s_ cp_i_ m_150 e_152 m_154 e_156 (cp_n (by first | omega | (simp only [Int32.lt_iff_toInt_lt, Int32.le_iff_toInt_le, Int32.reduceToInt, ← Int32.toInt_inj, true_and, and_true, or_true, true_or, false_or, or_false, false_and, and_false, not_true_eq_false, not_false_eq_true] <;> omega))) (cp_n (by first | omega | (simp only [Int32.lt_iff_toInt_lt, Int32.le_iff_toInt_le, Int32.reduceToInt, ← Int32.toInt_inj, true_and, and_true, or_true, true_or, false_or, or_false, false_and, and_false, not_true_eq_false, not_false_eq_true] <;> omega))) (cp_n (by first | omega | (simp only [Int32.lt_iff_toInt_lt, Int32.le_iff_toInt_le, Int32.reduceToInt, ← Int32.toInt_inj, true_and, and_true, or_true, true_or, false_or, or_false, false_and, and_false, not_true_eq_false, not_false_eq_true] <;> omega))) (cp_le (by first | omega | (simp only [Int32.lt_iff_toInt_lt, Int32.le_iff_toInt_le, Int32.reduceToInt, ← Int32.toInt_inj, true_and, and_true, or_true, true_or, false_or, or_false, false_and, and_false, not_true_eq_false, not_false_eq_true] <;> omega)) (by first | omega | (simp only [Int32.lt_iff_toInt_lt, Int32.le_iff_toInt_le, Int32.reduceToInt, ← Int32.toInt_inj, true_and, and_true, or_true, true_or, false_or, or_false, false_and, and_false, not_true_eq_false, not_false_eq_true] <;> omega)) (by first | omega | (simp only [Int32.lt_iff_toInt_lt, Int32.le_iff_toInt_le, Int32.reduceToInt, ← Int32.toInt_inj, true_and, and_true, or_true, true_or, false_or, or_false, false_and, and_false, not_true_eq_false, not_false_eq_true] <;> omega))) (cp_le (by first | omega | (simp only [Int32.lt_iff_toInt_lt, Int32.le_iff_toInt_le, Int32.reduceToInt, ← Int32.toInt_inj, true_and, and_true, or_true, true_or, false_or, or_false, false_and, and_false, not_true_eq_false, not_false_eq_true] <;> omega)) (by first | omega | (simp only [Int32.lt_iff_toInt_lt, Int32.le_iff_toInt_le, Int32.reduceToInt, ← Int32.toInt_inj, true_and, and_true, or_true, true_or, false_or, or_false, false_and, and_false, not_true_eq_false, not_false_eq_true] <;> omega)) (by first | omega | (simp only [Int32.lt_iff_toInt_lt, Int32.le_iff_toInt_le, Int32.reduceToInt, ← Int32.toInt_inj, true_and, and_true, or_true, true_or, false_or, or_false, false_and, and_false, not_true_eq_false, not_false_eq_true] <;> omega))) (by decide) (Nat.le_of_ble_eq_true rfl) dX11_paste_125 (fun f_158 hf_159 hk_160 => ?_)
                have hW_161 := hW.up hf_159 hk_160 t_155 ⟨_, rfl⟩
                obtain ⟨g_162, hf_159⟩ : ∃ g9, f_158 q_89 = aJ E 60 g9 := ⟨_, hf_159⟩
                have hf_163 := (hk_160 a_0 (ne_kd e_51 e_156 rfl)).trans e_51
                have hf_164 := (hk_160 q_27 (ne_kd e_56 e_156 rfl)).trans e_56
                have hf_165 := (hk_160 q_57 (ne_kd e_67 e_156 rfl)).trans e_67
                have hf_166 := (hk_160 q_81 (ne_kd e_91 e_156 rfl)).trans e_91
                have fr_167 := FR.w hk_160 e_156 (k := 160) rfl
                refine v_iconst hC dX11_paste_128 (v := 0) (by decide) ?_
                exact hR _ _ _ _ _ _ _ dX11_paste_129 rfl (Nat.le_of_ble_eq_true rfl) (Nat.le_of_ble_eq_true rfl) ⟨rfl, hW_161, (fr_167.mono rfl), (by decide), (.inr (by first | omega | (simp only [Int32.lt_iff_toInt_lt, Int32.le_iff_toInt_le, Int32.reduceToInt, ← Int32.toInt_inj, true_and, and_true, or_true, true_or, false_or, or_false, false_and, and_false, not_true_eq_false, not_false_eq_true] <;> omega))), (.inr (by first | omega | (simp only [Int32.lt_iff_toInt_lt, Int32.le_iff_toInt_le, Int32.reduceToInt, ← Int32.toInt_inj, true_and, and_true, or_true, true_or, false_or, or_false, false_and, and_false, not_true_eq_false, not_false_eq_true] <;> omega))), (.inr (by first | omega | (simp only [Int32.lt_iff_toInt_lt, Int32.le_iff_toInt_le, Int32.reduceToInt, ← Int32.toInt_inj, true_and, and_true, or_true, true_or, false_or, or_false, false_and, and_false, not_true_eq_false, not_false_eq_true] <;> omega))), (.inr (by first | omega | (simp only [Int32.lt_iff_toInt_lt, Int32.le_iff_toInt_le, Int32.reduceToInt, ← Int32.toInt_inj, true_and, and_true, or_true, true_or, false_or, or_false, false_and, and_false, not_true_eq_false, not_false_eq_true] <;> omega))), (.inr (by first | omega | (simp only [Int32.lt_iff_toInt_lt, Int32.le_iff_toInt_le, Int32.reduceToInt, ← Int32.toInt_inj, true_and, and_true, or_true, true_or, false_or, or_false, false_and, and_false, not_true_eq_false, not_false_eq_true] <;> omega))), (by first | omega | (simp only [Int32.lt_iff_toInt_lt, Int32.le_iff_toInt_le, Int32.reduceToInt, ← Int32.toInt_inj, true_and, and_true, or_true, true_or, false_or, or_false, false_and, and_false, not_true_eq_false, not_false_eq_true] <;> omega))⟩
              · simp only [Int32.lt_iff_toInt_lt, Int32.le_iff_toInt_le, Int32.reduceToInt, ← Int32.toInt_inj] at h_143
                refine v_bipush hC dX11_paste_99 (v := (-7)) (by decide) ?_
                exact hR _ _ _ _ _ _ _ dX11_paste_101 rfl (Nat.le_of_ble_eq_true rfl) (Nat.le_of_ble_eq_true rfl) ⟨rfl, hW, FR.rf, (by decide), (.inl (by decide)), (.inl (by decide)), (.inl (by decide)), (.inl (by decide)), (.inl (by decide)), (by first | omega | (simp only [Int32.lt_iff_toInt_lt, Int32.le_iff_toInt_le, Int32.reduceToInt, ← Int32.toInt_inj, true_and, and_true, or_true, true_or, false_or, or_false, false_and, and_false, not_true_eq_false, not_false_eq_true] <;> omega))⟩
          · simp only [Int32.lt_iff_toInt_lt, Int32.le_iff_toInt_le, Int32.reduceToInt, ← Int32.toInt_inj] at h_113
            refine v_bipush hC dX11_paste_65 (v := (-8)) (by decide) ?_
            exact hR _ _ _ _ _ _ _ dX11_paste_67 rfl (Nat.le_of_ble_eq_true rfl) (Nat.le_of_ble_eq_true rfl) ⟨rfl, hW, FR.rf, (by decide), (.inl (by decide)), (.inl (by decide)), (.inl (by decide)), (.inl (by decide)), (.inl (by decide)), (by first | omega | (simp only [Int32.lt_iff_toInt_lt, Int32.le_iff_toInt_le, Int32.reduceToInt, ← Int32.toInt_inj, true_and, and_true, or_true, true_or, false_or, or_false, false_and, and_false, not_true_eq_false, not_false_eq_true] <;> omega))⟩
        · simp only [Int32.lt_iff_toInt_lt, Int32.le_iff_toInt_le, Int32.reduceToInt, ← Int32.toInt_inj] at h_104
          refine v_bipush hC dX11_paste_41 (v := (-6)) (by decide) ?_
          exact hR _ _ _ _ _ _ _ dX11_paste_43 rfl (Nat.le_of_ble_eq_true rfl) (Nat.le_of_ble_eq_true rfl) ⟨rfl, hW, FR.rf, (by decide), (.inl (by decide)), (.inl (by decide)), (.inl (by decide)), (.inl (by decide)), (.inl (by decide)), (by first | omega | (simp only [Int32.lt_iff_toInt_lt, Int32.le_iff_toInt_le, Int32.reduceToInt, ← Int32.toInt_inj, true_and, and_true, or_true, true_or, false_or, or_false, false_and, and_false, not_true_eq_false, not_false_eq_true] <;> omega))⟩
    · simp only [Int32.lt_iff_toInt_lt, Int32.le_iff_toInt_le, Int32.reduceToInt, ← Int32.toInt_inj] at h_20
      refine v_bipush hC dX11_paste_14 (v := (-2)) (by decide) ?_
      exact hR _ _ _ _ _ _ _ dX11_paste_16 rfl (Nat.le_of_ble_eq_true rfl) (Nat.le_of_ble_eq_true rfl) ⟨rfl, hW, FR.rf, (by decide), (.inl (by decide)), (.inl (by decide)), (.inl (by decide)), (.inl (by decide)), (.inl (by decide)), (by first | omega | (simp only [Int32.lt_iff_toInt_lt, Int32.le_iff_toInt_le, Int32.reduceToInt, ← Int32.toInt_inj, true_and, and_true, or_true, true_or, false_or, or_false, false_and, and_false, not_true_eq_false, not_false_eq_true] <;> omega))⟩
