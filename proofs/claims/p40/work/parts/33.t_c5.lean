set_option maxRecDepth 100000 in
set_option maxHeartbeats 8000000 in
theorem p_X11_bitsOf {l : Launch} {E : Ez} {L : List Nat} {f : Nat → va_E} {T : Nat → va_E → Prop} {a_0 : Nat} {a_1 : Nat} (hW : WT T L f) (k_0 : isX T L E a_0) (k_1 : isWay T L E a_1) : CI l yX11_bitsOf cX11_bitsOf 2 .int 2 0 0 E [.ref a_0, .ref a_1] L f (fun r L1 f1 => L = L1 ∧ WT T L f1 ∧ FR [8, 356] f f1 ∧ (0 ≤ r.toInt ∧ r.toInt ≤ 256)) := by
  refine ci_of (by decide) (Nat.le_of_ble_eq_true rfl) (fun z hz hnm hC hR => ?_)
  have hC : Cx z E cX11_bitsOf RX11 2 2 0 0 := hC
  subst hz
  show V z E 2 0 0 L f 0 [(0, .ref a_0), (1, .ref a_1)] []
  refine v_aload_n hC dX11_bitsOf_0 rfl ?_
  obtain ⟨m_1, q_3, q_4, q_5, q_6, q_7, q_8, q_9, q_10, q_11, q_12, q_13, q_14, q_15, q_16, t_2, k_17, k_18, k_19, k_20, k_21, k_22, k_23, k_24, k_25, k_26, k_27, k_28, k_29, k_30⟩ := id k_0
  have e_31 : f a_0 = ob 11 [.ref q_3, .ref q_4, .ref q_5, .ref q_6, .ref q_7, .ref q_8, .ref q_9, .ref q_10, .ref q_11, .ref q_12, .ref q_13, .ref q_14, .ref q_15, .ref q_16] := hW.at m_1 t_2
  refine v_get hC fl_X11_78 m_1 e_31 rfl dX11_bitsOf_1 ?_
  refine v_aload_n hC dX11_bitsOf_4 rfl ?_
  refine v_aload_n hC dX11_bitsOf_5 rfl ?_
  refine v_get hC fl_X11_19 m_1 e_31 rfl dX11_bitsOf_6 ?_
  obtain ⟨m_32, q_34, q_35, q_36, q_37, q_38, q_39, t_33, k_40, k_41, k_42, k_43, k_44, k_45⟩ := id k_18
  have e_46 : f q_4 = ob 0 [.ref q_34, .ref q_35, .ref q_36, .ref q_37, .ref q_38, .ref q_39] := hW.at m_32 t_33
  refine v_getN hC fn_X11_116 m_32 e_46 rfl dX11_bitsOf_9 ?_
  obtain ⟨m_47, q_49, t_48, k_50⟩ := id k_28
  obtain ⟨v_52, v_54, v_56, v_58, e_51, b_53, b_55, b_57, b_59⟩ := hW.at m_47 t_48
  refine v_vv hC (rest := []) m_47 e_51 rfl mi_X8_follow ms_X8_follow (p_X8_follow hW k_28 k_1 k_40) mx_X8_follow ml_X11_218 (by decide) rfl (cells1 := 0) (slots1 := 0) (by decide) (by decide) (Nat.le_of_ble_eq_true rfl) (Nat.le_of_ble_eq_true rfl) rfl (Nat.le_of_ble_eq_true rfl) dX11_bitsOf_12 (fun L_61 f_62 h_63 => ?_)
  obtain ⟨rfl, hW_64, hF_65⟩ := h_63
  have hf_66 := hF_65.at e_31 rfl
  have hf_67 := hF_65.at e_46 rfl
  refine v_aload_n hC dX11_bitsOf_15 rfl ?_
  refine v_get hC fl_X11_78 m_1 hf_66 rfl dX11_bitsOf_16 ?_
  obtain ⟨v_69, v_71, v_73, v_75, e_68, b_70, b_72, b_74, b_76⟩ := hW_64.at m_47 t_48
  refine v_getN hC fn_X11_222 m_47 e_68 rfl dX11_bitsOf_19 ?_
  exact hR _ _ _ _ _ _ _ dX11_bitsOf_22 rfl (Nat.le_of_ble_eq_true rfl) (Nat.le_of_ble_eq_true rfl) ⟨rfl, hW_64, (hF_65.mono rfl), (by first | omega | (simp only [Int32.lt_iff_toInt_lt, Int32.le_iff_toInt_le, Int32.reduceToInt, ← Int32.toInt_inj, true_and, and_true, or_true, true_or, false_or, or_false, false_and, and_false, not_true_eq_false, not_false_eq_true] <;> omega))⟩
set_option maxRecDepth 100000 in
set_option maxHeartbeats 8000000 in
theorem p_X11_way {l : Launch} {E : Ez} {L : List Nat} {f : Nat → va_E} {T : Nat → va_E → Prop} {a_0 : Nat} {a_1 : Int32} (hW : WT T L f) (k_0 : isX T L E a_0) : CI l yX11_way cX11_way 3 .int 7 0 0 E [.ref a_0, .int a_1] L f (fun r L1 f1 => L = L1 ∧ WT T L f1 ∧ FR [7, 8, 10, 356] f f1 ∧ ((-4) ≤ r.toInt ∧ r.toInt ≤ 256) ∧ (¬ r.toInt = 0 ∨ (0 ≤ a_1.toInt ∧ a_1.toInt ≤ 5))) := by
  refine ci_of (by decide) (Nat.le_of_ble_eq_true rfl) (fun z hz hnm hC hR => ?_)
  have hC : Cx z E cX11_way RX11 3 7 0 0 := hC
  subst hz
  show V z E 3 0 0 L f 0 [(0, .ref a_0), (1, .int a_1)] []
  refine v_iload_n hC dX11_way_0 rfl ?_
  refine v_si hC (rest := []) mt_X11_isWay (p_X11_isWay hW) mx_X11_isWay ml_X11_142 (by decide) rfl (cells1 := 0) (slots1 := 0) (by decide) (by decide) (Nat.le_of_ble_eq_true rfl) (Nat.le_of_ble_eq_true rfl) rfl (Nat.le_of_ble_eq_true rfl) dX11_way_1 (fun r_1 L_2 f_3 h_4 => ?_)
  obtain ⟨rfl, rfl, b_5, h_6⟩ := h_4
  refine v_if_ne hC dX11_way_4 (tgt := 10) (by decide) (fun h_9 => ?_) (fun h_9 => ?_)
  · simp only [Int32.lt_iff_toInt_lt, Int32.le_iff_toInt_le, Int32.reduceToInt, ← Int32.toInt_inj] at h_9
    refine v_aload_n hC dX11_way_10 rfl ?_
    obtain ⟨m_10, q_12, q_13, q_14, q_15, q_16, q_17, q_18, q_19, q_20, q_21, q_22, q_23, q_24, q_25, t_11, k_26, k_27, k_28, k_29, k_30, k_31, k_32, k_33, k_34, k_35, k_36, k_37, k_38, k_39⟩ := id k_0
    have e_40 : f a_0 = ob 11 [.ref q_12, .ref q_13, .ref q_14, .ref q_15, .ref q_16, .ref q_17, .ref q_18, .ref q_19, .ref q_20, .ref q_21, .ref q_22, .ref q_23, .ref q_24, .ref q_25] := hW.at m_10 t_11
    refine v_get hC fl_X11_54 m_10 e_40 rfl dX11_way_11 ?_
    refine v_aload_n hC dX11_way_14 rfl ?_
    refine v_get hC fl_X11_12 m_10 e_40 rfl dX11_way_15 ?_
    obtain ⟨m_41, t_42⟩ := id k_33
    obtain ⟨v_44, v_46, v_47, v_48, v_50, v_52, v_54, e_43, b_45, b_49, b_51, b_53, b_55⟩ := hW.at m_41 t_42
    refine v_vi hC (rest := []) m_41 e_43 rfl mi_X10_tell ms_X10_tell (p_X10_tell hW k_33 k_26) mx_X10_tell ml_X11_145 (by decide) rfl (cells1 := 0) (slots1 := 0) (by decide) (by decide) (Nat.le_of_ble_eq_true rfl) (Nat.le_of_ble_eq_true rfl) rfl (Nat.le_of_ble_eq_true rfl) dX11_way_18 (fun r_56 L_57 f_58 h_59 => ?_)
    obtain ⟨rfl, hW_61, hF_62, b_60⟩ := h_59
    have hf_63 := hF_62.at e_40 rfl
    refine v_istore_n hC dX11_way_21 (by decide) (lv' := [(2, .int r_56), (0, .ref a_0), (1, .int a_1)]) rfl ?_
    refine v_aload_n hC dX11_way_22 rfl ?_
    refine v_get hC fl_X11_12 m_10 hf_63 rfl dX11_way_23 ?_
    obtain ⟨m_64, q_66, t_65, k_67⟩ := id k_26
    obtain ⟨v_69, v_71, v_72, v_74, v_76, v_77, e_68, b_70, b_73, b_75⟩ := hW_61.at m_64 t_65
    refine v_vv hC (rest := []) m_64 e_68 rfl mi_X7_empty ms_X7_empty (p_X7_empty hW_61 k_26) mx_X7_empty ml_X11_113 (by decide) rfl (cells1 := 0) (slots1 := 0) (by decide) (by decide) (Nat.le_of_ble_eq_true rfl) (Nat.le_of_ble_eq_true rfl) rfl (Nat.le_of_ble_eq_true rfl) dX11_way_26 (fun L_79 f_80 h_81 => ?_)
    obtain ⟨rfl, hW_82, hF_83⟩ := h_81
    have hf_84 := hF_83.at hf_63 rfl
    refine v_iload_n hC dX11_way_29 rfl ?_
    refine v_if_ne hC dX11_way_30 (tgt := 36) (by decide) (fun h_85 => ?_) (fun h_85 => ?_)
    · simp only [Int32.lt_iff_toInt_lt, Int32.le_iff_toInt_le, Int32.reduceToInt, ← Int32.toInt_inj] at h_85
      refine v_aload_n hC dX11_way_36 rfl ?_
      refine v_get hC fl_X11_19 m_10 hf_84 rfl dX11_way_37 ?_
      obtain ⟨m_86, q_88, q_89, q_90, q_91, q_92, q_93, t_87, k_94, k_95, k_96, k_97, k_98, k_99⟩ := id k_27
      have e_100 : f_80 q_13 = ob 0 [.ref q_88, .ref q_89, .ref q_90, .ref q_91, .ref q_92, .ref q_93] := hW_82.at m_86 t_87
      refine v_getN hC fn_X11_146 m_86 e_100 rfl dX11_way_40 ?_
      refine v_iload_n hC dX11_way_43 rfl ?_
      obtain ⟨m_101, g_103, t_102, k_104⟩ := id k_96
      have e_105 : f_80 q_90 = aR E 7 6 g_103 := hW_82.at m_101 t_102
      obtain ⟨q_106, h_107, k_108⟩ := k_104 (a_1 : Int32).toNatClampNeg (clamp_lt (vp_in_iff.mpr (by first | omega | (simp only [Int32.lt_iff_toInt_lt, Int32.le_iff_toInt_le, Int32.reduceToInt, ← Int32.toInt_inj, true_and, and_true, or_true, true_or, false_or, or_false, false_and, and_false, not_true_eq_false, not_false_eq_true] <;> omega))))
      refine v_aald hC m_101 e_105 rfl (vp_in_iff.mpr (by first | omega | (simp only [Int32.lt_iff_toInt_lt, Int32.le_iff_toInt_le, Int32.reduceToInt, ← Int32.toInt_inj, true_and, and_true, or_true, true_or, false_or, or_false, false_and, and_false, not_true_eq_false, not_false_eq_true] <;> omega))) (v := .ref q_106) (by rw [h_107]; rfl) dX11_way_44 ?_
      refine v_aload_n hC dX11_way_45 rfl ?_
      refine v_get hC fl_X11_54 m_10 hf_84 rfl dX11_way_46 ?_
      obtain ⟨m_109, t_110⟩ := id k_108
      obtain ⟨v_112, v_114, v_115, v_116, v_118, v_120, v_122, e_111, b_113, b_117, b_119, b_121, b_123⟩ := hW_82.at m_109 t_110
      refine v_vv hC (rest := []) m_109 e_111 rfl mi_X10_takeFrom ms_X10_takeFrom (p_X10_takeFrom hW_82 k_108 k_33) mx_X10_takeFrom ml_X11_150 (by decide) rfl (cells1 := 0) (slots1 := 0) (by decide) (by decide) (Nat.le_of_ble_eq_true rfl) (Nat.le_of_ble_eq_true rfl) rfl (Nat.le_of_ble_eq_true rfl) dX11_way_49 (fun L_125 f_126 h_127 => ?_)
      obtain ⟨rfl, hW_128, hF_129⟩ := h_127
      have hf_130 := hF_129.at hf_84 rfl
      have hf_131 := hF_129.at e_100 rfl
      have hf_132 := hF_129.at e_105 rfl
      refine v_aload_n hC dX11_way_52 rfl ?_
      refine v_aload_n hC dX11_way_53 rfl ?_
      refine v_get hC fl_X11_19 m_10 hf_130 rfl dX11_way_54 ?_
      refine v_getN hC fn_X11_146 m_86 hf_131 rfl dX11_way_57 ?_
      refine v_iload_n hC dX11_way_60 rfl ?_
      obtain ⟨q_133, h_134, k_135⟩ := k_104 (a_1 : Int32).toNatClampNeg (clamp_lt (vp_in_iff.mpr (by first | omega | (simp only [Int32.lt_iff_toInt_lt, Int32.le_iff_toInt_le, Int32.reduceToInt, ← Int32.toInt_inj, true_and, and_true, or_true, true_or, false_or, or_false, false_and, and_false, not_true_eq_false, not_false_eq_true] <;> omega))))
      refine v_aald hC m_101 hf_132 rfl (vp_in_iff.mpr (by first | omega | (simp only [Int32.lt_iff_toInt_lt, Int32.le_iff_toInt_le, Int32.reduceToInt, ← Int32.toInt_inj, true_and, and_true, or_true, true_or, false_or, or_false, false_and, and_false, not_true_eq_false, not_false_eq_true] <;> omega))) (v := .ref q_133) (by rw [h_134]; rfl) dX11_way_61 ?_
      refine v_vi hC (rest := []) m_10 hf_130 rfl mi_X11_bitsOf ms_X11_bitsOf (p_X11_bitsOf hW_128 k_0 k_135) mx_X11_bitsOf ml_X11_153 (by decide) rfl (cells1 := 0) (slots1 := 0) (by decide) (by decide) (Nat.le_of_ble_eq_true rfl) (Nat.le_of_ble_eq_true rfl) rfl (Nat.le_of_ble_eq_true rfl) dX11_way_62 (fun r_136 L_137 f_138 h_139 => ?_)
      obtain ⟨rfl, hW_141, hF_142, b_140⟩ := h_139
      have hf_143 := hF_142.at hf_130 rfl
      have hf_144 := hF_142.at hf_131 rfl
      have hf_145 := hF_142.at hf_132 rfl
      exact hR _ _ _ _ _ _ _ dX11_way_65 rfl (Nat.le_of_ble_eq_true rfl) (Nat.le_of_ble_eq_true rfl) ⟨rfl, hW_141, ((((hF_62.tr hF_83).tr hF_129).tr hF_142).mono rfl), (by first | omega | (simp only [Int32.lt_iff_toInt_lt, Int32.le_iff_toInt_le, Int32.reduceToInt, ← Int32.toInt_inj, true_and, and_true, or_true, true_or, false_or, or_false, false_and, and_false, not_true_eq_false, not_false_eq_true] <;> omega)), (.inr (by first | omega | (simp only [Int32.lt_iff_toInt_lt, Int32.le_iff_toInt_le, Int32.reduceToInt, ← Int32.toInt_inj, true_and, and_true, or_true, true_or, false_or, or_false, false_and, and_false, not_true_eq_false, not_false_eq_true] <;> omega)))⟩
    · simp only [Int32.lt_iff_toInt_lt, Int32.le_iff_toInt_le, Int32.reduceToInt, ← Int32.toInt_inj] at h_85
      refine v_bipush hC dX11_way_33 (v := (-4)) (by decide) ?_
      exact hR _ _ _ _ _ _ _ dX11_way_35 rfl (Nat.le_of_ble_eq_true rfl) (Nat.le_of_ble_eq_true rfl) ⟨rfl, hW_82, ((hF_62.tr hF_83).mono rfl), (by decide), (.inl (by decide))⟩
  · simp only [Int32.lt_iff_toInt_lt, Int32.le_iff_toInt_le, Int32.reduceToInt, ← Int32.toInt_inj] at h_9
    refine v_bipush hC dX11_way_7 (v := (-2)) (by decide) ?_
    exact hR _ _ _ _ _ _ _ dX11_way_9 rfl (Nat.le_of_ble_eq_true rfl) (Nat.le_of_ble_eq_true rfl) ⟨rfl, hW, FR.rf, (by decide), (.inl (by decide))⟩
set_option maxRecDepth 100000 in
set_option maxHeartbeats 8000000 in
theorem p_X11_watcher {l : Launch} {E : Ez} {L : List Nat} {f : Nat → va_E} {T : Nat → va_E → Prop} {a_0 : Nat} (hW : WT T L f) (k_0 : isX T L E a_0) : CI l yX11_watcher cX11_watcher 2 .int 9 0 0 E [.ref a_0] L f (fun r L1 f1 => L = L1 ∧ WT T L f1 ∧ FR [7, 9, 400] f f1) := by
  refine ci_of (by decide) (Nat.le_of_ble_eq_true rfl) (fun z hz hnm hC hR => ?_)
  have hC : Cx z E cX11_watcher RX11 2 9 0 0 := hC
  subst hz
  show V z E 2 0 0 L f 0 [(0, .ref a_0)] []
  refine v_aload_n hC dX11_watcher_0 rfl ?_
  obtain ⟨m_1, q_3, q_4, q_5, q_6, q_7, q_8, q_9, q_10, q_11, q_12, q_13, q_14, q_15, q_16, t_2, k_17, k_18, k_19, k_20, k_21, k_22, k_23, k_24, k_25, k_26, k_27, k_28, k_29, k_30⟩ := id k_0
  have e_31 : f a_0 = ob 11 [.ref q_3, .ref q_4, .ref q_5, .ref q_6, .ref q_7, .ref q_8, .ref q_9, .ref q_10, .ref q_11, .ref q_12, .ref q_13, .ref q_14, .ref q_15, .ref q_16] := hW.at m_1 t_2
  refine v_get hC fl_X11_61 m_1 e_31 rfl dX11_watcher_1 ?_
  refine v_aload_n hC dX11_watcher_4 rfl ?_
  refine v_get hC fl_X11_12 m_1 e_31 rfl dX11_watcher_5 ?_
  obtain ⟨m_32, q_34, t_33, k_35⟩ := id k_25
  obtain ⟨v_37, v_39, e_36, b_38⟩ := hW.at m_32 t_33
  refine v_vi hC (rest := []) m_32 e_36 rfl mi_X9_tell ms_X9_tell (p_X9_tell hW k_25 k_17) mx_X9_tell ml_X11_157 (by decide) rfl (cells1 := 0) (slots1 := 0) (by decide) (by decide) (Nat.le_of_ble_eq_true rfl) (Nat.le_of_ble_eq_true rfl) rfl (Nat.le_of_ble_eq_true rfl) dX11_watcher_8 (fun r_40 L_41 f_42 h_43 => ?_)
  obtain ⟨rfl, hW_45, hF_46, b_44⟩ := h_43
  have hf_47 := hF_46.at e_31 rfl
  refine v_istore_n hC dX11_watcher_11 (by decide) (lv' := [(1, .int r_40), (0, .ref a_0)]) rfl ?_
  refine v_aload_n hC dX11_watcher_12 rfl ?_
  refine v_get hC fl_X11_12 m_1 hf_47 rfl dX11_watcher_13 ?_
  obtain ⟨m_48, q_50, t_49, k_51⟩ := id k_17
  obtain ⟨v_53, v_55, v_56, v_58, v_60, v_61, e_52, b_54, b_57, b_59⟩ := hW_45.at m_48 t_49
  refine v_vv hC (rest := []) m_48 e_52 rfl mi_X7_empty ms_X7_empty (p_X7_empty hW_45 k_17) mx_X7_empty ml_X11_113 (by decide) rfl (cells1 := 0) (slots1 := 0) (by decide) (by decide) (Nat.le_of_ble_eq_true rfl) (Nat.le_of_ble_eq_true rfl) rfl (Nat.le_of_ble_eq_true rfl) dX11_watcher_16 (fun L_63 f_64 h_65 => ?_)
  obtain ⟨rfl, hW_66, hF_67⟩ := h_65
  have hf_68 := hF_67.at hf_47 rfl
  refine v_iload_n hC dX11_watcher_19 rfl ?_
  refine v_if_ne hC dX11_watcher_20 (tgt := 26) (by decide) (fun h_69 => ?_) (fun h_69 => ?_)
  · simp only [Int32.lt_iff_toInt_lt, Int32.le_iff_toInt_le, Int32.reduceToInt, ← Int32.toInt_inj] at h_69
    refine v_aload_n hC dX11_watcher_26 rfl ?_
    refine v_get hC fl_X11_19 m_1 hf_68 rfl dX11_watcher_27 ?_
    obtain ⟨m_70, q_72, q_73, q_74, q_75, q_76, q_77, t_71, k_78, k_79, k_80, k_81, k_82, k_83⟩ := id k_18
    have e_84 : f_64 q_4 = ob 0 [.ref q_72, .ref q_73, .ref q_74, .ref q_75, .ref q_76, .ref q_77] := hW_66.at m_70 t_71
    refine v_getN hC fn_X11_158 m_70 e_84 rfl dX11_watcher_30 ?_
    refine v_aload_n hC dX11_watcher_33 rfl ?_
    refine v_get hC fl_X11_61 m_1 hf_68 rfl dX11_watcher_34 ?_
    obtain ⟨m_85, q_87, t_86, k_88⟩ := id k_81
    obtain ⟨v_90, v_92, e_89, b_91⟩ := hW_66.at m_85 t_86
    refine v_vv hC (rest := []) m_85 e_89 rfl mi_X9_takeFrom ms_X9_takeFrom (p_X9_takeFrom hW_66 k_81 k_25) mx_X9_takeFrom ml_X11_161 (by decide) rfl (cells1 := 0) (slots1 := 0) (by decide) (by decide) (Nat.le_of_ble_eq_true rfl) (Nat.le_of_ble_eq_true rfl) rfl (Nat.le_of_ble_eq_true rfl) dX11_watcher_37 (fun L_94 f_95 h_96 => ?_)
    obtain ⟨rfl, hW_97, hF_98⟩ := h_96
    have hf_99 := hF_98.at hf_68 rfl
    have hf_100 := hF_98.at e_84 rfl
    refine v_aload_n hC dX11_watcher_40 rfl ?_
    refine v_get hC fl_X11_19 m_1 hf_99 rfl dX11_watcher_41 ?_
    refine v_getN hC fn_X11_158 m_70 hf_100 rfl dX11_watcher_44 ?_
    obtain ⟨v_102, v_104, e_101, b_103⟩ := hW_97.at m_85 t_86
    refine v_getN hC fn_X11_164 m_85 e_101 rfl dX11_watcher_47 ?_
    exact hR _ _ _ _ _ _ _ dX11_watcher_50 rfl (Nat.le_of_ble_eq_true rfl) (Nat.le_of_ble_eq_true rfl) ⟨rfl, hW_97, (((hF_46.tr hF_67).tr hF_98).mono rfl)⟩
  · simp only [Int32.lt_iff_toInt_lt, Int32.le_iff_toInt_le, Int32.reduceToInt, ← Int32.toInt_inj] at h_69
    refine v_bipush hC dX11_watcher_23 (v := (-4)) (by decide) ?_
    exact hR _ _ _ _ _ _ _ dX11_watcher_25 rfl (Nat.le_of_ble_eq_true rfl) (Nat.le_of_ble_eq_true rfl) ⟨rfl, hW_66, ((hF_46.tr hF_67).mono rfl)⟩
set_option maxRecDepth 100000 in
set_option maxHeartbeats 8000000 in
theorem p_X11_losses {l : Launch} {E : Ez} {L : List Nat} {f : Nat → va_E} {T : Nat → va_E → Prop} {a_0 : Nat} (hW : WT T L f) (k_0 : isX T L E a_0) : CI l yX11_losses cX11_losses 2 .int 9 0 0 E [.ref a_0] L f (fun r L1 f1 => L = L1 ∧ WT T L f1 ∧ FR [3, 7, 112] f f1 ∧ ((-4) ≤ r.toInt ∧ r.toInt ≤ 12)) := by
  refine ci_of (by decide) (Nat.le_of_ble_eq_true rfl) (fun z hz hnm hC hR => ?_)
  have hC : Cx z E cX11_losses RX11 2 9 0 0 := hC
  subst hz
  show V z E 2 0 0 L f 0 [(0, .ref a_0)] []
  refine v_aload_n hC dX11_losses_0 rfl ?_
  obtain ⟨m_1, q_3, q_4, q_5, q_6, q_7, q_8, q_9, q_10, q_11, q_12, q_13, q_14, q_15, q_16, t_2, k_17, k_18, k_19, k_20, k_21, k_22, k_23, k_24, k_25, k_26, k_27, k_28, k_29, k_30⟩ := id k_0
  have e_31 : f a_0 = ob 11 [.ref q_3, .ref q_4, .ref q_5, .ref q_6, .ref q_7, .ref q_8, .ref q_9, .ref q_10, .ref q_11, .ref q_12, .ref q_13, .ref q_14, .ref q_15, .ref q_16] := hW.at m_1 t_2
  refine v_get hC fl_X11_68 m_1 e_31 rfl dX11_losses_1 ?_
  refine v_aload_n hC dX11_losses_4 rfl ?_
  refine v_get hC fl_X11_12 m_1 e_31 rfl dX11_losses_5 ?_
  obtain ⟨m_32, q_34, q_35, q_36, t_33, k_37, k_38, k_39⟩ := id k_26
  obtain ⟨v_41, e_40, b_42⟩ := hW.at m_32 t_33
  refine v_vi hC (rest := []) m_32 e_40 rfl mi_X3_tell ms_X3_tell (p_X3_tell hW k_26 k_17) mx_X3_tell ml_X11_167 (by decide) rfl (cells1 := 0) (slots1 := 0) (by decide) (by decide) (Nat.le_of_ble_eq_true rfl) (Nat.le_of_ble_eq_true rfl) rfl (Nat.le_of_ble_eq_true rfl) dX11_losses_8 (fun r_43 L_44 f_45 h_46 => ?_)
  obtain ⟨rfl, hW_48, hF_49, b_47⟩ := h_46
  have hf_50 := hF_49.at e_31 rfl
  refine v_istore_n hC dX11_losses_11 (by decide) (lv' := [(1, .int r_43), (0, .ref a_0)]) rfl ?_
  refine v_aload_n hC dX11_losses_12 rfl ?_
  refine v_get hC fl_X11_12 m_1 hf_50 rfl dX11_losses_13 ?_
  obtain ⟨m_51, q_53, t_52, k_54⟩ := id k_17
  obtain ⟨v_56, v_58, v_59, v_61, v_63, v_64, e_55, b_57, b_60, b_62⟩ := hW_48.at m_51 t_52
  refine v_vv hC (rest := []) m_51 e_55 rfl mi_X7_empty ms_X7_empty (p_X7_empty hW_48 k_17) mx_X7_empty ml_X11_113 (by decide) rfl (cells1 := 0) (slots1 := 0) (by decide) (by decide) (Nat.le_of_ble_eq_true rfl) (Nat.le_of_ble_eq_true rfl) rfl (Nat.le_of_ble_eq_true rfl) dX11_losses_16 (fun L_66 f_67 h_68 => ?_)
  obtain ⟨rfl, hW_69, hF_70⟩ := h_68
  have hf_71 := hF_70.at hf_50 rfl
  refine v_iload_n hC dX11_losses_19 rfl ?_
  refine v_if_ne hC dX11_losses_20 (tgt := 26) (by decide) (fun h_72 => ?_) (fun h_72 => ?_)
  · simp only [Int32.lt_iff_toInt_lt, Int32.le_iff_toInt_le, Int32.reduceToInt, ← Int32.toInt_inj] at h_72
    refine v_aload_n hC dX11_losses_26 rfl ?_
    refine v_get hC fl_X11_19 m_1 hf_71 rfl dX11_losses_27 ?_
    obtain ⟨m_73, q_75, q_76, q_77, q_78, q_79, q_80, t_74, k_81, k_82, k_83, k_84, k_85, k_86⟩ := id k_18
    have e_87 : f_67 q_4 = ob 0 [.ref q_75, .ref q_76, .ref q_77, .ref q_78, .ref q_79, .ref q_80] := hW_69.at m_73 t_74
    refine v_getN hC fn_X11_168 m_73 e_87 rfl dX11_losses_30 ?_
    refine v_aload_n hC dX11_losses_33 rfl ?_
    refine v_get hC fl_X11_68 m_1 hf_71 rfl dX11_losses_34 ?_
    obtain ⟨m_88, q_90, q_91, q_92, t_89, k_93, k_94, k_95⟩ := id k_85
    obtain ⟨v_97, e_96, b_98⟩ := hW_69.at m_88 t_89
    refine v_vv hC (rest := []) m_88 e_96 rfl mi_X3_takeFrom ms_X3_takeFrom (p_X3_takeFrom hW_69 k_85 k_26) mx_X3_takeFrom ml_X11_171 (by decide) rfl (cells1 := 0) (slots1 := 0) (by decide) (by decide) (Nat.le_of_ble_eq_true rfl) (Nat.le_of_ble_eq_true rfl) rfl (Nat.le_of_ble_eq_true rfl) dX11_losses_37 (fun L_100 f_101 h_102 => ?_)
    obtain ⟨rfl, hW_103, hF_104⟩ := h_102
    have hf_105 := hF_104.at hf_71 rfl
    have hf_106 := hF_104.at e_87 rfl
    refine v_aload_n hC dX11_losses_40 rfl ?_
    refine v_get hC fl_X11_19 m_1 hf_105 rfl dX11_losses_41 ?_
    refine v_getN hC fn_X11_168 m_73 hf_106 rfl dX11_losses_44 ?_
    obtain ⟨v_108, e_107, b_109⟩ := hW_103.at m_88 t_89
    refine v_getN hC fn_X11_174 m_88 e_107 rfl dX11_losses_47 ?_
    exact hR _ _ _ _ _ _ _ dX11_losses_50 rfl (Nat.le_of_ble_eq_true rfl) (Nat.le_of_ble_eq_true rfl) ⟨rfl, hW_103, (((hF_49.tr hF_70).tr hF_104).mono rfl), (by first | omega | (simp only [Int32.lt_iff_toInt_lt, Int32.le_iff_toInt_le, Int32.reduceToInt, ← Int32.toInt_inj, true_and, and_true, or_true, true_or, false_or, or_false, false_and, and_false, not_true_eq_false, not_false_eq_true] <;> omega))⟩
  · simp only [Int32.lt_iff_toInt_lt, Int32.le_iff_toInt_le, Int32.reduceToInt, ← Int32.toInt_inj] at h_72
    refine v_bipush hC dX11_losses_23 (v := (-4)) (by decide) ?_
    exact hR _ _ _ _ _ _ _ dX11_losses_25 rfl (Nat.le_of_ble_eq_true rfl) (Nat.le_of_ble_eq_true rfl) ⟨rfl, hW_69, ((hF_49.tr hF_70).mono rfl), (by decide)⟩
set_option maxRecDepth 100000 in
set_option maxHeartbeats 8000000 in
theorem p_X11_fault {l : Launch} {E : Ez} {L : List Nat} {f : Nat → va_E} {T : Nat → va_E → Prop} {a_0 : Nat} {a_1 : Int32} (hW : WT T L f) (k_0 : isX T L E a_0) : CI l yX11_fault cX11_fault 2 .int 0 0 0 E [.ref a_0, .int a_1] L f (fun r L1 f1 => L = L1 ∧ f = f1 ∧ (¬ r.toInt = 0 ∨ (0 ≤ a_1.toInt ∧ a_1.toInt ≤ 1))) := by
  refine ci_of (by decide) (Nat.le_of_ble_eq_true rfl) (fun z hz hnm hC hR => ?_)
  have hC : Cx z E cX11_fault RX11 2 0 0 0 := hC
  subst hz
  show V z E 2 0 0 L f 0 [(0, .ref a_0), (1, .int a_1)] []
  refine v_iload_n hC dX11_fault_0 rfl ?_
  by_cases h_1 : a_1 = 0
  · refine v_lookup hC dX11_fault_1 (off := 27) (tgt := 28) (by decide) (by rw [h_1]; rfl) (by decide) ?_
    simp only [Int32.lt_iff_toInt_lt, Int32.le_iff_toInt_le, Int32.reduceToInt, ← Int32.toInt_inj] at h_1
    refine v_aload_n hC dX11_fault_28 rfl ?_
    obtain ⟨m_3, q_5, q_6, q_7, q_8, q_9, q_10, q_11, q_12, q_13, q_14, q_15, q_16, q_17, q_18, t_4, k_19, k_20, k_21, k_22, k_23, k_24, k_25, k_26, k_27, k_28, k_29, k_30, k_31, k_32⟩ := id k_0
    have e_33 : f a_0 = ob 11 [.ref q_5, .ref q_6, .ref q_7, .ref q_8, .ref q_9, .ref q_10, .ref q_11, .ref q_12, .ref q_13, .ref q_14, .ref q_15, .ref q_16, .ref q_17, .ref q_18] := hW.at m_3 t_4
    refine v_get hC fl_X11_12 m_3 e_33 rfl dX11_fault_29 ?_
    obtain ⟨m_34, q_36, t_35, k_37⟩ := id k_19
    obtain ⟨v_39, v_41, v_42, v_44, v_46, v_47, e_38, b_40, b_43, b_45⟩ := hW.at m_34 t_35
    refine v_getN hC fn_X11_175 m_34 e_38 rfl dX11_fault_32 ?_
    exact hR _ _ _ _ _ _ _ dX11_fault_35 rfl (Nat.le_of_ble_eq_true rfl) (Nat.le_of_ble_eq_true rfl) ⟨rfl, rfl, (.inr (by first | omega | (simp only [Int32.lt_iff_toInt_lt, Int32.le_iff_toInt_le, Int32.reduceToInt, ← Int32.toInt_inj, true_and, and_true, or_true, true_or, false_or, or_false, false_and, and_false, not_true_eq_false, not_false_eq_true] <;> omega)))⟩
  by_cases h_2 : a_1 = 1
  · refine v_lookup hC dX11_fault_1 (off := 35) (tgt := 36) (by decide) (by rw [h_2]; rfl) (by decide) ?_
    simp only [Int32.lt_iff_toInt_lt, Int32.le_iff_toInt_le, Int32.reduceToInt, ← Int32.toInt_inj] at h_2
    refine v_aload_n hC dX11_fault_36 rfl ?_
    obtain ⟨m_48, q_50, q_51, q_52, q_53, q_54, q_55, q_56, q_57, q_58, q_59, q_60, q_61, q_62, q_63, t_49, k_64, k_65, k_66, k_67, k_68, k_69, k_70, k_71, k_72, k_73, k_74, k_75, k_76, k_77⟩ := id k_0
    have e_78 : f a_0 = ob 11 [.ref q_50, .ref q_51, .ref q_52, .ref q_53, .ref q_54, .ref q_55, .ref q_56, .ref q_57, .ref q_58, .ref q_59, .ref q_60, .ref q_61, .ref q_62, .ref q_63] := hW.at m_48 t_49
    refine v_get hC fl_X11_12 m_48 e_78 rfl dX11_fault_37 ?_
    obtain ⟨m_79, q_81, t_80, k_82⟩ := id k_64
    obtain ⟨v_84, v_86, v_87, v_89, v_91, v_92, e_83, b_85, b_88, b_90⟩ := hW.at m_79 t_80
    refine v_getN hC fn_X11_178 m_79 e_83 rfl dX11_fault_40 ?_
    exact hR _ _ _ _ _ _ _ dX11_fault_43 rfl (Nat.le_of_ble_eq_true rfl) (Nat.le_of_ble_eq_true rfl) ⟨rfl, rfl, (.inr (by first | omega | (simp only [Int32.lt_iff_toInt_lt, Int32.le_iff_toInt_le, Int32.reduceToInt, ← Int32.toInt_inj, true_and, and_true, or_true, true_or, false_or, or_false, false_and, and_false, not_true_eq_false, not_false_eq_true] <;> omega)))⟩
  refine v_lookup hC dX11_fault_1 (off := 43) (tgt := 44) (by decide) (by refine (lv_osw h_1 rfl).trans ?_; refine (lv_osw h_2 rfl).trans ?_; rfl) (by decide) ?_
  simp only [Int32.lt_iff_toInt_lt, Int32.le_iff_toInt_le, Int32.reduceToInt, ← Int32.toInt_inj] at h_1 h_2
  refine v_iconst hC dX11_fault_44 (v := (-1)) (by decide) ?_
  exact hR _ _ _ _ _ _ _ dX11_fault_45 rfl (Nat.le_of_ble_eq_true rfl) (Nat.le_of_ble_eq_true rfl) ⟨rfl, rfl, (.inl (by decide))⟩
set_option maxRecDepth 100000 in
set_option maxHeartbeats 8000000 in
theorem p_X11_isCloth {l : Launch} {E : Ez} {L : List Nat} {f : Nat → va_E} {T : Nat → va_E → Prop} {a_0 : Int32} (hW : WT T L f) : CI l yX11_isCloth cX11_isCloth 1 .boolean 0 0 0 E [.int a_0] L f (fun r L1 f1 => L = L1 ∧ f = f1 ∧ (0 ≤ r.toInt ∧ r.toInt ≤ 1) ∧ (r.toInt = 0 ∨ (0 ≤ a_0.toInt ∧ a_0.toInt ≤ 3))) := by
  refine ci_of (by decide) (Nat.le_of_ble_eq_true rfl) (fun z hz hnm hC hR => ?_)
  have hC : Cx z E cX11_isCloth RX11 1 0 0 0 := hC
  subst hz
  show V z E 1 0 0 L f 0 [(0, .int a_0)] []
  refine v_iload_n hC dX11_isCloth_0 rfl ?_
  refine v_if_lt hC dX11_isCloth_1 (tgt := 13) (by decide) (fun h_1 => ?_) (fun h_1 => ?_)
  · simp only [Int32.lt_iff_toInt_lt, Int32.le_iff_toInt_le, Int32.reduceToInt, ← Int32.toInt_inj] at h_1
    refine v_iconst hC dX11_isCloth_13 (v := 0) (by decide) ?_
    exact hR _ _ _ _ _ _ _ dX11_isCloth_14 rfl (Nat.le_of_ble_eq_true rfl) (Nat.le_of_ble_eq_true rfl) ⟨rfl, rfl, (by decide), (.inl (by decide))⟩
  · simp only [Int32.lt_iff_toInt_lt, Int32.le_iff_toInt_le, Int32.reduceToInt, ← Int32.toInt_inj] at h_1
    refine v_iload_n hC dX11_isCloth_4 rfl ?_
    refine v_iconst hC dX11_isCloth_5 (v := 4) (by decide) ?_
    refine v_icmp_ge hC dX11_isCloth_6 (tgt := 13) (by decide) (fun h_2 => ?_) (fun h_2 => ?_)
    · simp only [Int32.lt_iff_toInt_lt, Int32.le_iff_toInt_le, Int32.reduceToInt, ← Int32.toInt_inj] at h_2
      refine v_iconst hC dX11_isCloth_13 (v := 0) (by decide) ?_
      exact hR _ _ _ _ _ _ _ dX11_isCloth_14 rfl (Nat.le_of_ble_eq_true rfl) (Nat.le_of_ble_eq_true rfl) ⟨rfl, rfl, (by decide), (.inl (by decide))⟩
    · simp only [Int32.lt_iff_toInt_lt, Int32.le_iff_toInt_le, Int32.reduceToInt, ← Int32.toInt_inj] at h_2
      refine v_iconst hC dX11_isCloth_9 (v := 1) (by decide) ?_
      refine v_goto hC dX11_isCloth_10 (tgt := 14) (by decide) ?_
      exact hR _ _ _ _ _ _ _ dX11_isCloth_14 rfl (Nat.le_of_ble_eq_true rfl) (Nat.le_of_ble_eq_true rfl) ⟨rfl, rfl, (by decide), (.inr (by first | omega | (simp only [Int32.lt_iff_toInt_lt, Int32.le_iff_toInt_le, Int32.reduceToInt, ← Int32.toInt_inj, true_and, and_true, or_true, true_or, false_or, or_false, false_and, and_false, not_true_eq_false, not_false_eq_true] <;> omega)))⟩
set_option maxRecDepth 100000 in
set_option maxHeartbeats 8000000 in
theorem p_X11_isSeed {l : Launch} {E : Ez} {L : List Nat} {f : Nat → va_E} {T : Nat → va_E → Prop} {a_0 : Int32} (hW : WT T L f) : CI l yX11_isSeed cX11_isSeed 1 .boolean 0 0 0 E [.int a_0] L f (fun r L1 f1 => L = L1 ∧ f = f1 ∧ (0 ≤ r.toInt ∧ r.toInt ≤ 1) ∧ (r.toInt = 0 ∨ (0 ≤ a_0.toInt ∧ a_0.toInt ≤ 2000000000))) := by
  refine ci_of (by decide) (Nat.le_of_ble_eq_true rfl) (fun z hz hnm hC hR => ?_)
  have hC : Cx z E cX11_isSeed RX11 1 0 0 0 := hC
  subst hz
  show V z E 1 0 0 L f 0 [(0, .int a_0)] []
  refine v_iload_n hC dX11_isSeed_0 rfl ?_
  refine v_if_lt hC dX11_isSeed_1 (tgt := 15) (by decide) (fun h_1 => ?_) (fun h_1 => ?_)
  · simp only [Int32.lt_iff_toInt_lt, Int32.le_iff_toInt_le, Int32.reduceToInt, ← Int32.toInt_inj] at h_1
    refine v_iconst hC dX11_isSeed_15 (v := 0) (by decide) ?_
    exact hR _ _ _ _ _ _ _ dX11_isSeed_16 rfl (Nat.le_of_ble_eq_true rfl) (Nat.le_of_ble_eq_true rfl) ⟨rfl, rfl, (by decide), (.inl (by decide))⟩
  · simp only [Int32.lt_iff_toInt_lt, Int32.le_iff_toInt_le, Int32.reduceToInt, ← Int32.toInt_inj] at h_1
    refine v_iload_n hC dX11_isSeed_4 rfl ?_
    refine v_ldcw hC kc_X11_385 dX11_isSeed_5 ?_
    refine v_icmp_gt hC dX11_isSeed_8 (tgt := 15) (by decide) (fun h_2 => ?_) (fun h_2 => ?_)
    · simp only [Int32.lt_iff_toInt_lt, Int32.le_iff_toInt_le, Int32.reduceToInt, ← Int32.toInt_inj] at h_2
      refine v_iconst hC dX11_isSeed_15 (v := 0) (by decide) ?_
      exact hR _ _ _ _ _ _ _ dX11_isSeed_16 rfl (Nat.le_of_ble_eq_true rfl) (Nat.le_of_ble_eq_true rfl) ⟨rfl, rfl, (by decide), (.inl (by decide))⟩
    · simp only [Int32.lt_iff_toInt_lt, Int32.le_iff_toInt_le, Int32.reduceToInt, ← Int32.toInt_inj] at h_2
      refine v_iconst hC dX11_isSeed_11 (v := 1) (by decide) ?_
      refine v_goto hC dX11_isSeed_12 (tgt := 16) (by decide) ?_
      exact hR _ _ _ _ _ _ _ dX11_isSeed_16 rfl (Nat.le_of_ble_eq_true rfl) (Nat.le_of_ble_eq_true rfl) ⟨rfl, rfl, (by decide), (.inr (by first | omega | (simp only [Int32.lt_iff_toInt_lt, Int32.le_iff_toInt_le, Int32.reduceToInt, ← Int32.toInt_inj, true_and, and_true, or_true, true_or, false_or, or_false, false_and, and_false, not_true_eq_false, not_false_eq_true] <;> omega)))⟩
set_option maxRecDepth 100000 in
set_option maxHeartbeats 8000000 in
theorem p_X11_knit {l : Launch} {E : Ez} {L : List Nat} {f : Nat → va_E} {T : Nat → va_E → Prop} {a_0 : Nat} {a_1 : Int32} {a_2 : Int32} (hW : WT T L f) (k_0 : isX T L E a_0) : CI l yX11_knit cX11_knit 3 .int 3 0 0 E [.ref a_0, .int a_1, .int a_2] L f (fun r L1 f1 => L = L1 ∧ WT T L f1 ∧ FR [1, 356] f f1 ∧ (¬ r.toInt = 0 ∨ (0 ≤ a_1.toInt ∧ a_1.toInt ≤ 3)) ∧ (¬ r.toInt = 0 ∨ (0 ≤ a_2.toInt ∧ a_2.toInt ≤ 2000000000))) := by
  refine ci_of (by decide) (Nat.le_of_ble_eq_true rfl) (fun z hz hnm hC hR => ?_)
  have hC : Cx z E cX11_knit RX11 3 3 0 0 := hC
  subst hz
  show V z E 3 0 0 L f 0 [(0, .ref a_0), (1, .int a_1), (2, .int a_2)] []
  refine v_iload_n hC dX11_knit_0 rfl ?_
  refine v_si hC (rest := []) mt_X11_isCloth (p_X11_isCloth hW) mx_X11_isCloth ml_X11_181 (by decide) rfl (cells1 := 0) (slots1 := 0) (by decide) (by decide) (Nat.le_of_ble_eq_true rfl) (Nat.le_of_ble_eq_true rfl) rfl (Nat.le_of_ble_eq_true rfl) dX11_knit_1 (fun r_1 L_2 f_3 h_4 => ?_)
  obtain ⟨rfl, rfl, b_5, h_6⟩ := h_4
  refine v_if_eq hC dX11_knit_4 (tgt := 14) (by decide) (fun h_9 => ?_) (fun h_9 => ?_)
  · simp only [Int32.lt_iff_toInt_lt, Int32.le_iff_toInt_le, Int32.reduceToInt, ← Int32.toInt_inj] at h_9
    refine v_bipush hC dX11_knit_14 (v := (-2)) (by decide) ?_
    exact hR _ _ _ _ _ _ _ dX11_knit_16 rfl (Nat.le_of_ble_eq_true rfl) (Nat.le_of_ble_eq_true rfl) ⟨rfl, hW, FR.rf, (.inl (by decide)), (.inl (by decide))⟩
  · simp only [Int32.lt_iff_toInt_lt, Int32.le_iff_toInt_le, Int32.reduceToInt, ← Int32.toInt_inj] at h_9
    refine v_iload_n hC dX11_knit_7 rfl ?_
    refine v_si hC (rest := []) mt_X11_isSeed (p_X11_isSeed hW) mx_X11_isSeed ml_X11_184 (by decide) rfl (cells1 := 0) (slots1 := 0) (by decide) (by decide) (Nat.le_of_ble_eq_true rfl) (Nat.le_of_ble_eq_true rfl) rfl (Nat.le_of_ble_eq_true rfl) dX11_knit_8 (fun r_10 L_11 f_12 h_13 => ?_)
    obtain ⟨rfl, rfl, b_14, h_15⟩ := h_13
    refine v_if_ne hC dX11_knit_11 (tgt := 17) (by decide) (fun h_18 => ?_) (fun h_18 => ?_)
    · simp only [Int32.lt_iff_toInt_lt, Int32.le_iff_toInt_le, Int32.reduceToInt, ← Int32.toInt_inj] at h_18
      refine v_aload_n hC dX11_knit_17 rfl ?_
      obtain ⟨m_19, q_21, q_22, q_23, q_24, q_25, q_26, q_27, q_28, q_29, q_30, q_31, q_32, q_33, q_34, t_20, k_35, k_36, k_37, k_38, k_39, k_40, k_41, k_42, k_43, k_44, k_45, k_46, k_47, k_48⟩ := id k_0
      have e_49 : f a_0 = ob 11 [.ref q_21, .ref q_22, .ref q_23, .ref q_24, .ref q_25, .ref q_26, .ref q_27, .ref q_28, .ref q_29, .ref q_30, .ref q_31, .ref q_32, .ref q_33, .ref q_34] := hW.at m_19 t_20
      refine v_get hC fl_X11_19 m_19 e_49 rfl dX11_knit_18 ?_
      obtain ⟨m_50, q_52, q_53, q_54, q_55, q_56, q_57, t_51, k_58, k_59, k_60, k_61, k_62, k_63⟩ := id k_36
      have e_64 : f q_22 = ob 0 [.ref q_52, .ref q_53, .ref q_54, .ref q_55, .ref q_56, .ref q_57] := hW.at m_50 t_51
      refine v_getN hC fn_X11_116 m_50 e_64 rfl dX11_knit_21 ?_
      obtain ⟨m_65, q_67, q_68, t_66, k_69, k_70⟩ := id k_58
      obtain ⟨v_72, v_74, v_76, e_71, b_73, b_75, b_77⟩ := hW.at m_65 t_66
      refine v_vi hC (rest := []) m_65 e_71 rfl mi_X4_isThere ms_X4_isThere (p_X4_isThere hW k_58) mx_X4_isThere ml_X11_187 (by decide) rfl (cells1 := 0) (slots1 := 0) (by decide) (by decide) (Nat.le_of_ble_eq_true rfl) (Nat.le_of_ble_eq_true rfl) rfl (Nat.le_of_ble_eq_true rfl) dX11_knit_24 (fun r_78 L_79 f_80 h_81 => ?_)
      obtain ⟨rfl, rfl, b_82⟩ := h_81
      refine v_if_ne hC dX11_knit_27 (tgt := 33) (by decide) (fun h_85 => ?_) (fun h_85 => ?_)
      · simp only [Int32.lt_iff_toInt_lt, Int32.le_iff_toInt_le, Int32.reduceToInt, ← Int32.toInt_inj] at h_85
        refine v_aload_n hC dX11_knit_33 rfl ?_
        refine v_get hC fl_X11_19 m_19 e_49 rfl dX11_knit_34 ?_
        refine v_getN hC fn_X11_190 m_50 e_64 rfl dX11_knit_37 ?_
        refine v_iload_n hC dX11_knit_40 rfl ?_
        obtain ⟨m_86, g_88, t_87, k_89⟩ := id k_63
        have e_90 : f q_57 = aR E 5 4 g_88 := hW.at m_86 t_87
        obtain ⟨q_91, h_92, k_93⟩ := k_89 (a_1 : Int32).toNatClampNeg (clamp_lt (vp_in_iff.mpr (by first | omega | (simp only [Int32.lt_iff_toInt_lt, Int32.le_iff_toInt_le, Int32.reduceToInt, ← Int32.toInt_inj, true_and, and_true, or_true, true_or, false_or, or_false, false_and, and_false, not_true_eq_false, not_false_eq_true] <;> omega))))
        refine v_aald hC m_86 e_90 rfl (vp_in_iff.mpr (by first | omega | (simp only [Int32.lt_iff_toInt_lt, Int32.le_iff_toInt_le, Int32.reduceToInt, ← Int32.toInt_inj, true_and, and_true, or_true, true_or, false_or, or_false, false_and, and_false, not_true_eq_false, not_false_eq_true] <;> omega))) (v := .ref q_91) (by rw [h_92]; rfl) dX11_knit_41 ?_
        refine v_aload_n hC dX11_knit_42 rfl ?_
        refine v_get hC fl_X11_19 m_19 e_49 rfl dX11_knit_43 ?_
        refine v_getN hC fn_X11_116 m_50 e_64 rfl dX11_knit_46 ?_
        refine v_aload_n hC dX11_knit_49 rfl ?_
        refine v_get hC fl_X11_19 m_19 e_49 rfl dX11_knit_50 ?_
        refine v_getN hC fn_X11_133 m_50 e_64 rfl dX11_knit_53 ?_
        refine v_iload_n hC dX11_knit_56 rfl ?_
        obtain ⟨m_94, q_96, t_95, k_97⟩ := id k_93
        obtain ⟨v_99, e_98, b_100⟩ := hW.at m_94 t_95
        refine v_vi hC (rest := []) m_94 e_98 rfl mi_X1_knitBy ms_X1_knitBy (p_X1_knitBy hW k_93 k_58 k_59) mx_X1_knitBy ml_X11_194 (by decide) rfl (cells1 := 0) (slots1 := 0) (by decide) (by decide) (Nat.le_of_ble_eq_true rfl) (Nat.le_of_ble_eq_true rfl) rfl (Nat.le_of_ble_eq_true rfl) dX11_knit_57 (fun r_101 L_102 f_103 h_104 => ?_)
        obtain ⟨rfl, hW_105, hF_106⟩ := h_104
        have hf_107 := hF_106.at e_49 rfl
        have hf_108 := hF_106.at e_64 rfl
        have hf_109 := hF_106.at e_71 rfl
        have hf_110 := hF_106.at e_90 rfl
        exact hR _ _ _ _ _ _ _ dX11_knit_60 rfl (Nat.le_of_ble_eq_true rfl) (Nat.le_of_ble_eq_true rfl) ⟨rfl, hW_105, (hF_106.mono rfl), (.inr (by first | omega | (simp only [Int32.lt_iff_toInt_lt, Int32.le_iff_toInt_le, Int32.reduceToInt, ← Int32.toInt_inj, true_and, and_true, or_true, true_or, false_or, or_false, false_and, and_false, not_true_eq_false, not_false_eq_true] <;> omega))), (.inr (by first | omega | (simp only [Int32.lt_iff_toInt_lt, Int32.le_iff_toInt_le, Int32.reduceToInt, ← Int32.toInt_inj, true_and, and_true, or_true, true_or, false_or, or_false, false_and, and_false, not_true_eq_false, not_false_eq_true] <;> omega)))⟩
      · simp only [Int32.lt_iff_toInt_lt, Int32.le_iff_toInt_le, Int32.reduceToInt, ← Int32.toInt_inj] at h_85
        refine v_bipush hC dX11_knit_30 (v := (-6)) (by decide) ?_
        exact hR _ _ _ _ _ _ _ dX11_knit_32 rfl (Nat.le_of_ble_eq_true rfl) (Nat.le_of_ble_eq_true rfl) ⟨rfl, hW, FR.rf, (.inl (by decide)), (.inl (by decide))⟩
    · simp only [Int32.lt_iff_toInt_lt, Int32.le_iff_toInt_le, Int32.reduceToInt, ← Int32.toInt_inj] at h_18
      refine v_bipush hC dX11_knit_14 (v := (-2)) (by decide) ?_
      exact hR _ _ _ _ _ _ _ dX11_knit_16 rfl (Nat.le_of_ble_eq_true rfl) (Nat.le_of_ble_eq_true rfl) ⟨rfl, hW, FR.rf, (.inl (by decide)), (.inl (by decide))⟩
set_option maxRecDepth 100000 in
set_option maxHeartbeats 8000000 in
theorem p_X11_hasCloth {l : Launch} {E : Ez} {L : List Nat} {f : Nat → va_E} {T : Nat → va_E → Prop} {a_0 : Nat} {a_1 : Int32} (hW : WT T L f) (k_0 : isX T L E a_0) : CI l yX11_hasCloth cX11_hasCloth 2 .boolean 1 0 0 E [.ref a_0, .int a_1] L f (fun r L1 f1 => L = L1 ∧ f = f1 ∧ (0 ≤ r.toInt ∧ r.toInt ≤ 1) ∧ (r.toInt = 0 ∨ (0 ≤ a_1.toInt ∧ a_1.toInt ≤ 3))) := by
  refine ci_of (by decide) (Nat.le_of_ble_eq_true rfl) (fun z hz hnm hC hR => ?_)
  have hC : Cx z E cX11_hasCloth RX11 2 1 0 0 := hC
  subst hz
  show V z E 2 0 0 L f 0 [(0, .ref a_0), (1, .int a_1)] []
  refine v_iload_n hC dX11_hasCloth_0 rfl ?_
  refine v_si hC (rest := []) mt_X11_isCloth (p_X11_isCloth hW) mx_X11_isCloth ml_X11_181 (by decide) rfl (cells1 := 0) (slots1 := 0) (by decide) (by decide) (Nat.le_of_ble_eq_true rfl) (Nat.le_of_ble_eq_true rfl) rfl (Nat.le_of_ble_eq_true rfl) dX11_hasCloth_1 (fun r_1 L_2 f_3 h_4 => ?_)
  obtain ⟨rfl, rfl, b_5, h_6⟩ := h_4
  refine v_if_eq hC dX11_hasCloth_4 (tgt := 26) (by decide) (fun h_9 => ?_) (fun h_9 => ?_)
  · simp only [Int32.lt_iff_toInt_lt, Int32.le_iff_toInt_le, Int32.reduceToInt, ← Int32.toInt_inj] at h_9
    refine v_iconst hC dX11_hasCloth_26 (v := 0) (by decide) ?_
    exact hR _ _ _ _ _ _ _ dX11_hasCloth_27 rfl (Nat.le_of_ble_eq_true rfl) (Nat.le_of_ble_eq_true rfl) ⟨rfl, rfl, (by decide), (.inl (by decide))⟩
  · simp only [Int32.lt_iff_toInt_lt, Int32.le_iff_toInt_le, Int32.reduceToInt, ← Int32.toInt_inj] at h_9
    refine v_aload_n hC dX11_hasCloth_7 rfl ?_
    obtain ⟨m_10, q_12, q_13, q_14, q_15, q_16, q_17, q_18, q_19, q_20, q_21, q_22, q_23, q_24, q_25, t_11, k_26, k_27, k_28, k_29, k_30, k_31, k_32, k_33, k_34, k_35, k_36, k_37, k_38, k_39⟩ := id k_0
    have e_40 : f a_0 = ob 11 [.ref q_12, .ref q_13, .ref q_14, .ref q_15, .ref q_16, .ref q_17, .ref q_18, .ref q_19, .ref q_20, .ref q_21, .ref q_22, .ref q_23, .ref q_24, .ref q_25] := hW.at m_10 t_11
    refine v_get hC fl_X11_19 m_10 e_40 rfl dX11_hasCloth_8 ?_
    obtain ⟨m_41, q_43, q_44, q_45, q_46, q_47, q_48, t_42, k_49, k_50, k_51, k_52, k_53, k_54⟩ := id k_27
    have e_55 : f q_13 = ob 0 [.ref q_43, .ref q_44, .ref q_45, .ref q_46, .ref q_47, .ref q_48] := hW.at m_41 t_42
    refine v_getN hC fn_X11_190 m_41 e_55 rfl dX11_hasCloth_11 ?_
    refine v_iload_n hC dX11_hasCloth_14 rfl ?_
    obtain ⟨m_56, g_58, t_57, k_59⟩ := id k_54
    have e_60 : f q_48 = aR E 5 4 g_58 := hW.at m_56 t_57
    obtain ⟨q_61, h_62, k_63⟩ := k_59 (a_1 : Int32).toNatClampNeg (clamp_lt (vp_in_iff.mpr (by first | omega | (simp only [Int32.lt_iff_toInt_lt, Int32.le_iff_toInt_le, Int32.reduceToInt, ← Int32.toInt_inj, true_and, and_true, or_true, true_or, false_or, or_false, false_and, and_false, not_true_eq_false, not_false_eq_true] <;> omega))))
    refine v_aald hC m_56 e_60 rfl (vp_in_iff.mpr (by first | omega | (simp only [Int32.lt_iff_toInt_lt, Int32.le_iff_toInt_le, Int32.reduceToInt, ← Int32.toInt_inj, true_and, and_true, or_true, true_or, false_or, or_false, false_and, and_false, not_true_eq_false, not_false_eq_true] <;> omega))) (v := .ref q_61) (by rw [h_62]; rfl) dX11_hasCloth_15 ?_
    obtain ⟨m_64, q_66, t_65, k_67⟩ := id k_63
    obtain ⟨v_69, e_68, b_70⟩ := hW.at m_64 t_65
    refine v_getN hC fn_X11_386 m_64 e_68 rfl dX11_hasCloth_16 ?_
    refine v_if_eq hC dX11_hasCloth_19 (tgt := 26) (by decide) (fun h_71 => ?_) (fun h_71 => ?_)
    · simp only [Int32.lt_iff_toInt_lt, Int32.le_iff_toInt_le, Int32.reduceToInt, ← Int32.toInt_inj] at h_71
      refine v_iconst hC dX11_hasCloth_26 (v := 0) (by decide) ?_
      exact hR _ _ _ _ _ _ _ dX11_hasCloth_27 rfl (Nat.le_of_ble_eq_true rfl) (Nat.le_of_ble_eq_true rfl) ⟨rfl, rfl, (by decide), (.inl (by decide))⟩
    · simp only [Int32.lt_iff_toInt_lt, Int32.le_iff_toInt_le, Int32.reduceToInt, ← Int32.toInt_inj] at h_71
      refine v_iconst hC dX11_hasCloth_22 (v := 1) (by decide) ?_
      refine v_goto hC dX11_hasCloth_23 (tgt := 27) (by decide) ?_
      exact hR _ _ _ _ _ _ _ dX11_hasCloth_27 rfl (Nat.le_of_ble_eq_true rfl) (Nat.le_of_ble_eq_true rfl) ⟨rfl, rfl, (by decide), (.inr (by first | omega | (simp only [Int32.lt_iff_toInt_lt, Int32.le_iff_toInt_le, Int32.reduceToInt, ← Int32.toInt_inj, true_and, and_true, or_true, true_or, false_or, or_false, false_and, and_false, not_true_eq_false, not_false_eq_true] <;> omega)))⟩
set_option maxRecDepth 100000 in
set_option maxHeartbeats 8000000 in
theorem p_X11_refusalOfReading {l : Launch} {E : Ez} {L : List Nat} {f : Nat → va_E} {T : Nat → va_E → Prop} {a_0 : Nat} {a_1 : Int32} {a_2 : Int32} (hW : WT T L f) (k_0 : isX T L E a_0) : CI l yX11_refusalOfReading cX11_refusalOfReading 3 .int 2 0 0 E [.ref a_0, .int a_1, .int a_2] L f (fun r L1 f1 => L = L1 ∧ f = f1 ∧ ((-6) ≤ r.toInt ∧ r.toInt ≤ 0) ∧ (¬ r.toInt = 0 ∨ (0 ≤ a_1.toInt ∧ a_1.toInt ≤ 3)) ∧ (¬ r.toInt = 0 ∨ (0 ≤ a_2.toInt ∧ a_2.toInt ≤ 5))) := by
  refine ci_of (by decide) (Nat.le_of_ble_eq_true rfl) (fun z hz hnm hC hR => ?_)
  have hC : Cx z E cX11_refusalOfReading RX11 3 2 0 0 := hC
  subst hz
  show V z E 3 0 0 L f 0 [(0, .ref a_0), (1, .int a_1), (2, .int a_2)] []
  refine v_iload_n hC dX11_refusalOfReading_0 rfl ?_
  refine v_si hC (rest := []) mt_X11_isCloth (p_X11_isCloth hW) mx_X11_isCloth ml_X11_181 (by decide) rfl (cells1 := 0) (slots1 := 0) (by decide) (by decide) (Nat.le_of_ble_eq_true rfl) (Nat.le_of_ble_eq_true rfl) rfl (Nat.le_of_ble_eq_true rfl) dX11_refusalOfReading_1 (fun r_1 L_2 f_3 h_4 => ?_)
  obtain ⟨rfl, rfl, b_5, h_6⟩ := h_4
  refine v_if_eq hC dX11_refusalOfReading_4 (tgt := 14) (by decide) (fun h_9 => ?_) (fun h_9 => ?_)
  · simp only [Int32.lt_iff_toInt_lt, Int32.le_iff_toInt_le, Int32.reduceToInt, ← Int32.toInt_inj] at h_9
    refine v_bipush hC dX11_refusalOfReading_14 (v := (-2)) (by decide) ?_
    exact hR _ _ _ _ _ _ _ dX11_refusalOfReading_16 rfl (Nat.le_of_ble_eq_true rfl) (Nat.le_of_ble_eq_true rfl) ⟨rfl, rfl, (by decide), (.inl (by decide)), (.inl (by decide))⟩
  · simp only [Int32.lt_iff_toInt_lt, Int32.le_iff_toInt_le, Int32.reduceToInt, ← Int32.toInt_inj] at h_9
    refine v_iload_n hC dX11_refusalOfReading_7 rfl ?_
    refine v_si hC (rest := []) mt_X11_isWay (p_X11_isWay hW) mx_X11_isWay ml_X11_142 (by decide) rfl (cells1 := 0) (slots1 := 0) (by decide) (by decide) (Nat.le_of_ble_eq_true rfl) (Nat.le_of_ble_eq_true rfl) rfl (Nat.le_of_ble_eq_true rfl) dX11_refusalOfReading_8 (fun r_10 L_11 f_12 h_13 => ?_)
    obtain ⟨rfl, rfl, b_14, h_15⟩ := h_13
    refine v_if_ne hC dX11_refusalOfReading_11 (tgt := 17) (by decide) (fun h_18 => ?_) (fun h_18 => ?_)
    · simp only [Int32.lt_iff_toInt_lt, Int32.le_iff_toInt_le, Int32.reduceToInt, ← Int32.toInt_inj] at h_18
      refine v_aload_n hC dX11_refusalOfReading_17 rfl ?_
      refine v_iload_n hC dX11_refusalOfReading_18 rfl ?_
      obtain ⟨m_19, q_21, q_22, q_23, q_24, q_25, q_26, q_27, q_28, q_29, q_30, q_31, q_32, q_33, q_34, t_20, k_35, k_36, k_37, k_38, k_39, k_40, k_41, k_42, k_43, k_44, k_45, k_46, k_47, k_48⟩ := id k_0
      have e_49 : f a_0 = ob 11 [.ref q_21, .ref q_22, .ref q_23, .ref q_24, .ref q_25, .ref q_26, .ref q_27, .ref q_28, .ref q_29, .ref q_30, .ref q_31, .ref q_32, .ref q_33, .ref q_34] := hW.at m_19 t_20
      refine v_vi hC (rest := []) m_19 e_49 rfl mi_X11_hasCloth ms_X11_hasCloth (p_X11_hasCloth hW k_0) mx_X11_hasCloth ml_X11_239 (by decide) rfl (cells1 := 0) (slots1 := 0) (by decide) (by decide) (Nat.le_of_ble_eq_true rfl) (Nat.le_of_ble_eq_true rfl) rfl (Nat.le_of_ble_eq_true rfl) dX11_refusalOfReading_19 (fun r_50 L_51 f_52 h_53 => ?_)
      obtain ⟨rfl, rfl, b_54, h_55⟩ := h_53
      refine v_if_eq hC dX11_refusalOfReading_22 (tgt := 44) (by decide) (fun h_58 => ?_) (fun h_58 => ?_)
      · simp only [Int32.lt_iff_toInt_lt, Int32.le_iff_toInt_le, Int32.reduceToInt, ← Int32.toInt_inj] at h_58
        refine v_bipush hC dX11_refusalOfReading_44 (v := (-6)) (by decide) ?_
        exact hR _ _ _ _ _ _ _ dX11_refusalOfReading_46 rfl (Nat.le_of_ble_eq_true rfl) (Nat.le_of_ble_eq_true rfl) ⟨rfl, rfl, (by decide), (.inl (by decide)), (.inl (by decide))⟩
      · simp only [Int32.lt_iff_toInt_lt, Int32.le_iff_toInt_le, Int32.reduceToInt, ← Int32.toInt_inj] at h_58
        refine v_aload_n hC dX11_refusalOfReading_25 rfl ?_
        refine v_get hC fl_X11_19 m_19 e_49 rfl dX11_refusalOfReading_26 ?_
        obtain ⟨m_59, q_61, q_62, q_63, q_64, q_65, q_66, t_60, k_67, k_68, k_69, k_70, k_71, k_72⟩ := id k_36
        have e_73 : f q_22 = ob 0 [.ref q_61, .ref q_62, .ref q_63, .ref q_64, .ref q_65, .ref q_66] := hW.at m_59 t_60
        refine v_getN hC fn_X11_146 m_59 e_73 rfl dX11_refusalOfReading_29 ?_
        refine v_iload_n hC dX11_refusalOfReading_32 rfl ?_
        obtain ⟨m_74, g_76, t_75, k_77⟩ := id k_69
        have e_78 : f q_63 = aR E 7 6 g_76 := hW.at m_74 t_75
        obtain ⟨q_79, h_80, k_81⟩ := k_77 (a_2 : Int32).toNatClampNeg (clamp_lt (vp_in_iff.mpr (by first | omega | (simp only [Int32.lt_iff_toInt_lt, Int32.le_iff_toInt_le, Int32.reduceToInt, ← Int32.toInt_inj, true_and, and_true, or_true, true_or, false_or, or_false, false_and, and_false, not_true_eq_false, not_false_eq_true] <;> omega))))
        refine v_aald hC m_74 e_78 rfl (vp_in_iff.mpr (by first | omega | (simp only [Int32.lt_iff_toInt_lt, Int32.le_iff_toInt_le, Int32.reduceToInt, ← Int32.toInt_inj, true_and, and_true, or_true, true_or, false_or, or_false, false_and, and_false, not_true_eq_false, not_false_eq_true] <;> omega))) (v := .ref q_79) (by rw [h_80]; rfl) dX11_refusalOfReading_33 ?_
        obtain ⟨m_82, t_83⟩ := id k_81
        obtain ⟨v_85, v_87, v_88, v_89, v_91, v_93, v_95, e_84, b_86, b_90, b_92, b_94, b_96⟩ := hW.at m_82 t_83
        refine v_getN hC fn_X11_232 m_82 e_84 rfl dX11_refusalOfReading_34 ?_
        refine v_if_eq hC dX11_refusalOfReading_37 (tgt := 44) (by decide) (fun h_97 => ?_) (fun h_97 => ?_)
        · simp only [Int32.lt_iff_toInt_lt, Int32.le_iff_toInt_le, Int32.reduceToInt, ← Int32.toInt_inj] at h_97
          refine v_bipush hC dX11_refusalOfReading_44 (v := (-6)) (by decide) ?_
          exact hR _ _ _ _ _ _ _ dX11_refusalOfReading_46 rfl (Nat.le_of_ble_eq_true rfl) (Nat.le_of_ble_eq_true rfl) ⟨rfl, rfl, (by decide), (.inl (by decide)), (.inl (by decide))⟩
        · simp only [Int32.lt_iff_toInt_lt, Int32.le_iff_toInt_le, Int32.reduceToInt, ← Int32.toInt_inj] at h_97
          refine v_iconst hC dX11_refusalOfReading_40 (v := 0) (by decide) ?_
          refine v_goto hC dX11_refusalOfReading_41 (tgt := 46) (by decide) ?_
          exact hR _ _ _ _ _ _ _ dX11_refusalOfReading_46 rfl (Nat.le_of_ble_eq_true rfl) (Nat.le_of_ble_eq_true rfl) ⟨rfl, rfl, (by decide), (.inr (by first | omega | (simp only [Int32.lt_iff_toInt_lt, Int32.le_iff_toInt_le, Int32.reduceToInt, ← Int32.toInt_inj, true_and, and_true, or_true, true_or, false_or, or_false, false_and, and_false, not_true_eq_false, not_false_eq_true] <;> omega))), (.inr (by first | omega | (simp only [Int32.lt_iff_toInt_lt, Int32.le_iff_toInt_le, Int32.reduceToInt, ← Int32.toInt_inj, true_and, and_true, or_true, true_or, false_or, or_false, false_and, and_false, not_true_eq_false, not_false_eq_true] <;> omega)))⟩
    · simp only [Int32.lt_iff_toInt_lt, Int32.le_iff_toInt_le, Int32.reduceToInt, ← Int32.toInt_inj] at h_18
      refine v_bipush hC dX11_refusalOfReading_14 (v := (-2)) (by decide) ?_
      exact hR _ _ _ _ _ _ _ dX11_refusalOfReading_16 rfl (Nat.le_of_ble_eq_true rfl) (Nat.le_of_ble_eq_true rfl) ⟨rfl, rfl, (by decide), (.inl (by decide)), (.inl (by decide))⟩
set_option maxRecDepth 100000 in
set_option maxHeartbeats 8000000 in
theorem p_X11_putTape {l : Launch} {E : Ez} {L : List Nat} {f : Nat → va_E} {T : Nat → va_E → Prop} {a_0 : Nat} {a_1 : Nat} {a_2 : Nat} (hW : WT T L f) (k_0 : isX T L E a_0) (k_1 : isClo T L E a_1) (k_2 : isWay T L E a_2) : CI l yX11_putTape cX11_putTape 3 .int 5 0 0 E [.ref a_0, .ref a_1, .ref a_2] L f (fun r L1 f1 => L = L1 ∧ WT T L f1 ∧ FR [2, 7, 8, 151, 356] f f1) := by
  refine ci_of (by decide) (Nat.le_of_ble_eq_true rfl) (fun z hz hnm hC hR => ?_)
  have hC : Cx z E cX11_putTape RX11 3 5 0 0 := hC
  subst hz
  show V z E 3 0 0 L f 0 [(0, .ref a_0), (1, .ref a_1), (2, .ref a_2)] []
  refine v_aload_n hC dX11_putTape_0 rfl ?_
  obtain ⟨m_1, q_3, q_4, q_5, q_6, q_7, q_8, q_9, q_10, q_11, q_12, q_13, q_14, q_15, q_16, t_2, k_17, k_18, k_19, k_20, k_21, k_22, k_23, k_24, k_25, k_26, k_27, k_28, k_29, k_30⟩ := id k_0
  have e_31 : f a_0 = ob 11 [.ref q_3, .ref q_4, .ref q_5, .ref q_6, .ref q_7, .ref q_8, .ref q_9, .ref q_10, .ref q_11, .ref q_12, .ref q_13, .ref q_14, .ref q_15, .ref q_16] := hW.at m_1 t_2
  refine v_get hC fl_X11_12 m_1 e_31 rfl dX11_putTape_1 ?_
  obtain ⟨m_32, q_34, t_33, k_35⟩ := id k_17
  obtain ⟨v_37, v_39, v_40, v_42, v_44, v_45, e_36, b_38, b_41, b_43⟩ := hW.at m_32 t_33
  refine v_vi hC (rest := []) m_32 e_36 rfl mi_X7_isWords ms_X7_isWords (p_X7_isWords hW k_17) mx_X7_isWords ml_X11_414 (by decide) rfl (cells1 := 0) (slots1 := 0) (by decide) (by decide) (Nat.le_of_ble_eq_true rfl) (Nat.le_of_ble_eq_true rfl) rfl (Nat.le_of_ble_eq_true rfl) dX11_putTape_4 (fun r_46 L_47 f_48 h_49 => ?_)
  obtain ⟨rfl, hW_51, hF_52, b_50⟩ := h_49
  have hf_53 := hF_52.at e_31 rfl
  refine v_if_ne hC dX11_putTape_7 (tgt := 13) (by decide) (fun h_54 => ?_) (fun h_54 => ?_)
  · simp only [Int32.lt_iff_toInt_lt, Int32.le_iff_toInt_le, Int32.reduceToInt, ← Int32.toInt_inj] at h_54
    refine v_aload_n hC dX11_putTape_13 rfl ?_
    refine v_get hC fl_X11_78 m_1 hf_53 rfl dX11_putTape_14 ?_
    refine v_aload_n hC dX11_putTape_17 rfl ?_
    refine v_aload_n hC dX11_putTape_18 rfl ?_
    refine v_get hC fl_X11_19 m_1 hf_53 rfl dX11_putTape_19 ?_
    obtain ⟨m_55, q_57, q_58, q_59, q_60, q_61, q_62, t_56, k_63, k_64, k_65, k_66, k_67, k_68⟩ := id k_18
    have e_69 : f_48 q_4 = ob 0 [.ref q_57, .ref q_58, .ref q_59, .ref q_60, .ref q_61, .ref q_62] := hW_51.at m_55 t_56
    refine v_getN hC fn_X11_116 m_55 e_69 rfl dX11_putTape_22 ?_
    obtain ⟨m_70, q_72, t_71, k_73⟩ := id k_28
    obtain ⟨v_75, v_77, v_79, v_81, e_74, b_76, b_78, b_80, b_82⟩ := hW_51.at m_70 t_71
    refine v_vv hC (rest := []) m_70 e_74 rfl mi_X8_follow ms_X8_follow (p_X8_follow hW_51 k_28 k_2 k_63) mx_X8_follow ml_X11_218 (by decide) rfl (cells1 := 0) (slots1 := 0) (by decide) (by decide) (Nat.le_of_ble_eq_true rfl) (Nat.le_of_ble_eq_true rfl) rfl (Nat.le_of_ble_eq_true rfl) dX11_putTape_25 (fun L_84 f_85 h_86 => ?_)
    obtain ⟨rfl, hW_87, hF_88⟩ := h_86
    have hf_89 := hF_88.at hf_53 rfl
    have hf_90 := hF_88.at e_69 rfl
    refine v_aload_n hC dX11_putTape_28 rfl ?_
    refine v_get hC fl_X11_78 m_1 hf_89 rfl dX11_putTape_29 ?_
    refine v_aload_n hC dX11_putTape_32 rfl ?_
    refine v_get hC fl_X11_12 m_1 hf_89 rfl dX11_putTape_33 ?_
    obtain ⟨v_92, v_94, v_95, v_97, v_99, v_100, e_91, b_93, b_96, b_98⟩ := hW_87.at m_32 t_33
    refine v_getN hC fn_X11_105 m_32 e_91 rfl dX11_putTape_36 ?_
    obtain ⟨v_102, v_104, v_106, v_108, e_101, b_103, b_105, b_107, b_109⟩ := hW_87.at m_70 t_71
    refine v_vi hC (rest := []) m_70 e_101 rfl mi_X8_hasRoomFor ms_X8_hasRoomFor (p_X8_hasRoomFor hW_87 k_28) mx_X8_hasRoomFor ml_X11_282 (by decide) rfl (cells1 := 0) (slots1 := 0) (by decide) (by decide) (Nat.le_of_ble_eq_true rfl) (Nat.le_of_ble_eq_true rfl) rfl (Nat.le_of_ble_eq_true rfl) dX11_putTape_39 (fun r_110 L_111 f_112 h_113 => ?_)
    obtain ⟨rfl, rfl, b_114⟩ := h_113
    refine v_if_ne hC dX11_putTape_42 (tgt := 48) (by decide) (fun h_117 => ?_) (fun h_117 => ?_)
    · simp only [Int32.lt_iff_toInt_lt, Int32.le_iff_toInt_le, Int32.reduceToInt, ← Int32.toInt_inj] at h_117
      refine v_aload_n hC dX11_putTape_48 rfl ?_
      refine v_get hC fl_X11_72 m_1 hf_89 rfl dX11_putTape_49 ?_
      refine v_aload_n hC dX11_putTape_52 rfl ?_
      refine v_get hC fl_X11_12 m_1 hf_89 rfl dX11_putTape_53 ?_
      obtain ⟨m_118, q_120, t_119, k_121⟩ := id k_27
      obtain ⟨v_123, e_122, b_124⟩ := hW_87.at m_118 t_119
      refine v_vv hC (rest := []) m_118 e_122 rfl mi_X2_takeTape ms_X2_takeTape (p_X2_takeTape hW_87 k_27 k_17) mx_X2_takeTape ml_X11_417 (by decide) rfl (cells1 := 0) (slots1 := 0) (by decide) (by decide) (Nat.le_of_ble_eq_true rfl) (Nat.le_of_ble_eq_true rfl) rfl (Nat.le_of_ble_eq_true rfl) dX11_putTape_56 (fun L_126 f_127 h_128 => ?_)
      obtain ⟨rfl, hW_129, hF_130⟩ := h_128
      have hf_131 := hF_130.at hf_89 rfl
      have hf_132 := hF_130.at hf_90 rfl
      have hf_133 := hF_130.at e_91 rfl
      have hf_134 := hF_130.at e_101 rfl
      refine v_aload_n hC dX11_putTape_59 rfl ?_
      refine v_get hC fl_X11_72 m_1 hf_131 rfl dX11_putTape_60 ?_
      refine v_aload_n hC dX11_putTape_63 rfl ?_
      refine v_aload_n hC dX11_putTape_64 rfl ?_
      refine v_get hC fl_X11_19 m_1 hf_131 rfl dX11_putTape_65 ?_
      refine v_getN hC fn_X11_116 m_55 hf_132 rfl dX11_putTape_68 ?_
      refine v_aload_n hC dX11_putTape_71 rfl ?_
      refine v_get hC fl_X11_78 m_1 hf_131 rfl dX11_putTape_72 ?_
      obtain ⟨v_136, e_135, b_137⟩ := hW_129.at m_118 t_119
      refine v_vi hC (rest := []) m_118 e_135 rfl mi_X2_weaveInto ms_X2_weaveInto (p_X2_weaveInto hW_129 k_27 k_1 k_63 k_28) mx_X2_weaveInto ml_X11_283 (by decide) rfl (cells1 := 0) (slots1 := 0) (by decide) (by decide) (Nat.le_of_ble_eq_true rfl) (Nat.le_of_ble_eq_true rfl) rfl (Nat.le_of_ble_eq_true rfl) dX11_putTape_75 (fun r_138 L_139 f_140 h_141 => ?_)
      obtain ⟨rfl, hW_142, hF_143⟩ := h_141
      have hf_144 := hF_143.at hf_131 rfl
      have hf_145 := hF_143.at hf_132 rfl
      have hf_146 := hF_143.at hf_133 rfl
      have hf_147 := hF_143.at hf_134 rfl
      have hf_148 := hF_143.at e_135 rfl
      exact hR _ _ _ _ _ _ _ dX11_putTape_78 rfl (Nat.le_of_ble_eq_true rfl) (Nat.le_of_ble_eq_true rfl) ⟨rfl, hW_142, ((((hF_52.tr hF_88).tr hF_130).tr hF_143).mono rfl)⟩
    · simp only [Int32.lt_iff_toInt_lt, Int32.le_iff_toInt_le, Int32.reduceToInt, ← Int32.toInt_inj] at h_117
      refine v_bipush hC dX11_putTape_45 (v := (-3)) (by decide) ?_
      exact hR _ _ _ _ _ _ _ dX11_putTape_47 rfl (Nat.le_of_ble_eq_true rfl) (Nat.le_of_ble_eq_true rfl) ⟨rfl, hW_87, ((hF_52.tr hF_88).mono rfl)⟩
  · simp only [Int32.lt_iff_toInt_lt, Int32.le_iff_toInt_le, Int32.reduceToInt, ← Int32.toInt_inj] at h_54
    refine v_bipush hC dX11_putTape_10 (v := (-4)) (by decide) ?_
    exact hR _ _ _ _ _ _ _ dX11_putTape_12 rfl (Nat.le_of_ble_eq_true rfl) (Nat.le_of_ble_eq_true rfl) ⟨rfl, hW_51, (hF_52.mono rfl)⟩
set_option maxRecDepth 100000 in
set_option maxHeartbeats 8000000 in
theorem p_X11_put {l : Launch} {E : Ez} {L : List Nat} {f : Nat → va_E} {T : Nat → va_E → Prop} {a_0 : Nat} {a_1 : Int32} {a_2 : Int32} (hW : WT T L f) (k_0 : isX T L E a_0) : CI l yX11_put cX11_put 5 .int 6 0 0 E [.ref a_0, .int a_1, .int a_2] L f (fun r L1 f1 => L = L1 ∧ WT T L f1 ∧ FR [2, 7, 8, 151, 356] f f1 ∧ (¬ r.toInt = 0 ∨ (0 ≤ a_1.toInt ∧ a_1.toInt ≤ 3)) ∧ (¬ r.toInt = 0 ∨ (0 ≤ a_2.toInt ∧ a_2.toInt ≤ 5))) := by
  refine ci_of (by decide) (Nat.le_of_ble_eq_true rfl) (fun z hz hnm hC hR => ?_)
  have hC : Cx z E cX11_put RX11 5 6 0 0 := hC
  subst hz
  show V z E 5 0 0 L f 0 [(0, .ref a_0), (1, .int a_1), (2, .int a_2)] []
  refine v_aload_n hC dX11_put_0 rfl ?_
  refine v_iload_n hC dX11_put_1 rfl ?_
  refine v_iload_n hC dX11_put_2 rfl ?_
  obtain ⟨m_1, q_3, q_4, q_5, q_6, q_7, q_8, q_9, q_10, q_11, q_12, q_13, q_14, q_15, q_16, t_2, k_17, k_18, k_19, k_20, k_21, k_22, k_23, k_24, k_25, k_26, k_27, k_28, k_29, k_30⟩ := id k_0
  have e_31 : f a_0 = ob 11 [.ref q_3, .ref q_4, .ref q_5, .ref q_6, .ref q_7, .ref q_8, .ref q_9, .ref q_10, .ref q_11, .ref q_12, .ref q_13, .ref q_14, .ref q_15, .ref q_16] := hW.at m_1 t_2
  refine v_vi hC (rest := []) m_1 e_31 rfl mi_X11_refusalOfReading ms_X11_refusalOfReading (p_X11_refusalOfReading hW k_0) mx_X11_refusalOfReading ml_X11_198 (by decide) rfl (cells1 := 0) (slots1 := 0) (by decide) (by decide) (Nat.le_of_ble_eq_true rfl) (Nat.le_of_ble_eq_true rfl) rfl (Nat.le_of_ble_eq_true rfl) dX11_put_3 (fun r_32 L_33 f_34 h_35 => ?_)
  obtain ⟨rfl, rfl, b_36, h_37, h_38⟩ := h_35
  refine v_istore_n hC dX11_put_6 (by decide) (lv' := [(3, .int r_32), (0, .ref a_0), (1, .int a_1), (2, .int a_2)]) rfl ?_
  refine v_iload_n hC dX11_put_7 rfl ?_
  refine v_if_eq hC dX11_put_8 (tgt := 13) (by decide) (fun h_41 => ?_) (fun h_41 => ?_)
  · simp only [Int32.lt_iff_toInt_lt, Int32.le_iff_toInt_le, Int32.reduceToInt, ← Int32.toInt_inj] at h_41
    refine v_aload_n hC dX11_put_13 rfl ?_
    refine v_aload_n hC dX11_put_14 rfl ?_
    refine v_get hC fl_X11_19 m_1 e_31 rfl dX11_put_15 ?_
    obtain ⟨m_42, q_44, q_45, q_46, q_47, q_48, q_49, t_43, k_50, k_51, k_52, k_53, k_54, k_55⟩ := id k_18
    have e_56 : f q_4 = ob 0 [.ref q_44, .ref q_45, .ref q_46, .ref q_47, .ref q_48, .ref q_49] := hW.at m_42 t_43
    refine v_getN hC fn_X11_190 m_42 e_56 rfl dX11_put_18 ?_
    refine v_iload_n hC dX11_put_21 rfl ?_
    obtain ⟨m_57, g_59, t_58, k_60⟩ := id k_55
    have e_61 : f q_49 = aR E 5 4 g_59 := hW.at m_57 t_58
    obtain ⟨q_62, h_63, k_64⟩ := k_60 (a_1 : Int32).toNatClampNeg (clamp_lt (vp_in_iff.mpr (by first | omega | (simp only [Int32.lt_iff_toInt_lt, Int32.le_iff_toInt_le, Int32.reduceToInt, ← Int32.toInt_inj, true_and, and_true, or_true, true_or, false_or, or_false, false_and, and_false, not_true_eq_false, not_false_eq_true] <;> omega))))
    refine v_aald hC m_57 e_61 rfl (vp_in_iff.mpr (by first | omega | (simp only [Int32.lt_iff_toInt_lt, Int32.le_iff_toInt_le, Int32.reduceToInt, ← Int32.toInt_inj, true_and, and_true, or_true, true_or, false_or, or_false, false_and, and_false, not_true_eq_false, not_false_eq_true] <;> omega))) (v := .ref q_62) (by rw [h_63]; rfl) dX11_put_22 ?_
    refine v_aload_n hC dX11_put_23 rfl ?_
    refine v_get hC fl_X11_19 m_1 e_31 rfl dX11_put_24 ?_
    refine v_getN hC fn_X11_146 m_42 e_56 rfl dX11_put_27 ?_
    refine v_iload_n hC dX11_put_30 rfl ?_
    obtain ⟨m_65, g_67, t_66, k_68⟩ := id k_52
    have e_69 : f q_46 = aR E 7 6 g_67 := hW.at m_65 t_66
    obtain ⟨q_70, h_71, k_72⟩ := k_68 (a_2 : Int32).toNatClampNeg (clamp_lt (vp_in_iff.mpr (by first | omega | (simp only [Int32.lt_iff_toInt_lt, Int32.le_iff_toInt_le, Int32.reduceToInt, ← Int32.toInt_inj, true_and, and_true, or_true, true_or, false_or, or_false, false_and, and_false, not_true_eq_false, not_false_eq_true] <;> omega))))
    refine v_aald hC m_65 e_69 rfl (vp_in_iff.mpr (by first | omega | (simp only [Int32.lt_iff_toInt_lt, Int32.le_iff_toInt_le, Int32.reduceToInt, ← Int32.toInt_inj, true_and, and_true, or_true, true_or, false_or, or_false, false_and, and_false, not_true_eq_false, not_false_eq_true] <;> omega))) (v := .ref q_70) (by rw [h_71]; rfl) dX11_put_31 ?_
    refine v_vi hC (rest := []) m_1 e_31 rfl mi_X11_putTape ms_X11_putTape (p_X11_putTape hW k_0 k_64 k_72) mx_X11_putTape ml_X11_202 (by decide) rfl (cells1 := 0) (slots1 := 0) (by decide) (by decide) (Nat.le_of_ble_eq_true rfl) (Nat.le_of_ble_eq_true rfl) rfl (Nat.le_of_ble_eq_true rfl) dX11_put_32 (fun r_73 L_74 f_75 h_76 => ?_)
    obtain ⟨rfl, hW_77, hF_78⟩ := h_76
    have hf_79 := hF_78.at e_31 rfl
    have hf_80 := hF_78.at e_56 rfl
    have hf_81 := hF_78.at e_61 rfl
    have hf_82 := hF_78.at e_69 rfl
    refine v_istore hC dX11_put_35 (by decide) (lv' := [(4, .int r_73), (3, .int r_32), (0, .ref a_0), (1, .int a_1), (2, .int a_2)]) rfl ?_
    refine v_aload_n hC dX11_put_37 rfl ?_
    refine v_get hC fl_X11_12 m_1 hf_79 rfl dX11_put_38 ?_
    obtain ⟨m_83, q_85, t_84, k_86⟩ := id k_17
    obtain ⟨v_88, v_90, v_91, v_93, v_95, v_96, e_87, b_89, b_92, b_94⟩ := hW_77.at m_83 t_84
    refine v_vv hC (rest := []) m_83 e_87 rfl mi_X7_empty ms_X7_empty (p_X7_empty hW_77 k_17) mx_X7_empty ml_X11_113 (by decide) rfl (cells1 := 0) (slots1 := 0) (by decide) (by decide) (Nat.le_of_ble_eq_true rfl) (Nat.le_of_ble_eq_true rfl) rfl (Nat.le_of_ble_eq_true rfl) dX11_put_41 (fun L_98 f_99 h_100 => ?_)
    obtain ⟨rfl, hW_101, hF_102⟩ := h_100
    have hf_103 := hF_102.at hf_79 rfl
    have hf_104 := hF_102.at hf_80 rfl
    have hf_105 := hF_102.at hf_81 rfl
    have hf_106 := hF_102.at hf_82 rfl
    refine v_iload hC dX11_put_44 rfl ?_
    exact hR _ _ _ _ _ _ _ dX11_put_46 rfl (Nat.le_of_ble_eq_true rfl) (Nat.le_of_ble_eq_true rfl) ⟨rfl, hW_101, ((hF_78.tr hF_102).mono rfl), (.inr (by first | omega | (simp only [Int32.lt_iff_toInt_lt, Int32.le_iff_toInt_le, Int32.reduceToInt, ← Int32.toInt_inj, true_and, and_true, or_true, true_or, false_or, or_false, false_and, and_false, not_true_eq_false, not_false_eq_true] <;> omega))), (.inr (by first | omega | (simp only [Int32.lt_iff_toInt_lt, Int32.le_iff_toInt_le, Int32.reduceToInt, ← Int32.toInt_inj, true_and, and_true, or_true, true_or, false_or, or_false, false_and, and_false, not_true_eq_false, not_false_eq_true] <;> omega)))⟩
  · simp only [Int32.lt_iff_toInt_lt, Int32.le_iff_toInt_le, Int32.reduceToInt, ← Int32.toInt_inj] at h_41
    refine v_iload_n hC dX11_put_11 rfl ?_
    exact hR _ _ _ _ _ _ _ dX11_put_12 rfl (Nat.le_of_ble_eq_true rfl) (Nat.le_of_ble_eq_true rfl) ⟨rfl, hW, FR.rf, (by first | omega | (simp only [Int32.lt_iff_toInt_lt, Int32.le_iff_toInt_le, Int32.reduceToInt, ← Int32.toInt_inj, true_and, and_true, or_true, true_or, false_or, or_false, false_and, and_false, not_true_eq_false, not_false_eq_true] <;> omega)), (by first | omega | (simp only [Int32.lt_iff_toInt_lt, Int32.le_iff_toInt_le, Int32.reduceToInt, ← Int32.toInt_inj, true_and, and_true, or_true, true_or, false_or, or_false, false_and, and_false, not_true_eq_false, not_false_eq_true] <;> omega))⟩
set_option maxRecDepth 100000 in
set_option maxHeartbeats 8000000 in
theorem p_X11_saysByWay {l : Launch} {E : Ez} {L : List Nat} {f : Nat → va_E} {T : Nat → va_E → Prop} {a_0 : Nat} {a_1 : Nat} {a_2 : Nat} (hW : WT T L f) (k_0 : isX T L E a_0) (k_1 : isClo T L E a_1) (k_2 : isWay T L E a_2) : CI l yX11_saysByWay cX11_saysByWay 3 .boolean 5 0 0 E [.ref a_0, .ref a_1, .ref a_2] L f (fun r L1 f1 => L = L1 ∧ WT T L f1 ∧ FR [2, 8, 151, 356] f f1 ∧ (0 ≤ r.toInt ∧ r.toInt ≤ 1)) := by
  refine ci_of (by decide) (Nat.le_of_ble_eq_true rfl) (fun z hz hnm hC hR => ?_)
  have hC : Cx z E cX11_saysByWay RX11 3 5 0 0 := hC
  subst hz
  show V z E 3 0 0 L f 0 [(0, .ref a_0), (1, .ref a_1), (2, .ref a_2)] []
  refine v_aload_n hC dX11_saysByWay_0 rfl ?_
  obtain ⟨m_1, q_3, q_4, q_5, q_6, q_7, q_8, q_9, q_10, q_11, q_12, q_13, q_14, q_15, q_16, t_2, k_17, k_18, k_19, k_20, k_21, k_22, k_23, k_24, k_25, k_26, k_27, k_28, k_29, k_30⟩ := id k_0
  have e_31 : f a_0 = ob 11 [.ref q_3, .ref q_4, .ref q_5, .ref q_6, .ref q_7, .ref q_8, .ref q_9, .ref q_10, .ref q_11, .ref q_12, .ref q_13, .ref q_14, .ref q_15, .ref q_16] := hW.at m_1 t_2
  refine v_get hC fl_X11_78 m_1 e_31 rfl dX11_saysByWay_1 ?_
  refine v_aload_n hC dX11_saysByWay_4 rfl ?_
  refine v_aload_n hC dX11_saysByWay_5 rfl ?_
  refine v_get hC fl_X11_19 m_1 e_31 rfl dX11_saysByWay_6 ?_
  obtain ⟨m_32, q_34, q_35, q_36, q_37, q_38, q_39, t_33, k_40, k_41, k_42, k_43, k_44, k_45⟩ := id k_18
  have e_46 : f q_4 = ob 0 [.ref q_34, .ref q_35, .ref q_36, .ref q_37, .ref q_38, .ref q_39] := hW.at m_32 t_33
  refine v_getN hC fn_X11_116 m_32 e_46 rfl dX11_saysByWay_9 ?_
  obtain ⟨m_47, q_49, t_48, k_50⟩ := id k_28
  obtain ⟨v_52, v_54, v_56, v_58, e_51, b_53, b_55, b_57, b_59⟩ := hW.at m_47 t_48
  refine v_vv hC (rest := []) m_47 e_51 rfl mi_X8_follow ms_X8_follow (p_X8_follow hW k_28 k_2 k_40) mx_X8_follow ml_X11_218 (by decide) rfl (cells1 := 0) (slots1 := 0) (by decide) (by decide) (Nat.le_of_ble_eq_true rfl) (Nat.le_of_ble_eq_true rfl) rfl (Nat.le_of_ble_eq_true rfl) dX11_saysByWay_12 (fun L_61 f_62 h_63 => ?_)
  obtain ⟨rfl, hW_64, hF_65⟩ := h_63
  have hf_66 := hF_65.at e_31 rfl
  have hf_67 := hF_65.at e_46 rfl
  refine v_aload_n hC dX11_saysByWay_15 rfl ?_
  refine v_get hC fl_X11_72 m_1 hf_66 rfl dX11_saysByWay_16 ?_
  refine v_aload_n hC dX11_saysByWay_19 rfl ?_
  refine v_aload_n hC dX11_saysByWay_20 rfl ?_
  refine v_get hC fl_X11_78 m_1 hf_66 rfl dX11_saysByWay_21 ?_
  obtain ⟨m_68, q_70, t_69, k_71⟩ := id k_27
  obtain ⟨v_73, e_72, b_74⟩ := hW_64.at m_68 t_69
  refine v_vi hC (rest := []) m_68 e_72 rfl mi_X2_hear ms_X2_hear (p_X2_hear hW_64 k_27 k_1 k_28) mx_X2_hear ml_X11_421 (by decide) rfl (cells1 := 0) (slots1 := 0) (by decide) (by decide) (Nat.le_of_ble_eq_true rfl) (Nat.le_of_ble_eq_true rfl) rfl (Nat.le_of_ble_eq_true rfl) dX11_saysByWay_24 (fun r_75 L_76 f_77 h_78 => ?_)
  obtain ⟨rfl, hW_80, hF_81, b_79⟩ := h_78
  have hf_82 := hF_81.at hf_66 rfl
  have hf_83 := hF_81.at hf_67 rfl
  exact hR _ _ _ _ _ _ _ dX11_saysByWay_27 (nar01 (by first | omega | (simp only [Int32.lt_iff_toInt_lt, Int32.le_iff_toInt_le, Int32.reduceToInt, ← Int32.toInt_inj, true_and, and_true, or_true, true_or, false_or, or_false, false_and, and_false, not_true_eq_false, not_false_eq_true] <;> omega))) (Nat.le_of_ble_eq_true rfl) (Nat.le_of_ble_eq_true rfl) ⟨rfl, hW_80, ((hF_65.tr hF_81).mono rfl), (by first | omega | (simp only [Int32.lt_iff_toInt_lt, Int32.le_iff_toInt_le, Int32.reduceToInt, ← Int32.toInt_inj, true_and, and_true, or_true, true_or, false_or, or_false, false_and, and_false, not_true_eq_false, not_false_eq_true] <;> omega))⟩
set_option maxRecDepth 100000 in
set_option maxHeartbeats 8000000 in
theorem p_X11_read {l : Launch} {E : Ez} {L : List Nat} {f : Nat → va_E} {T : Nat → va_E → Prop} {a_0 : Nat} {a_1 : Int32} {a_2 : Int32} (hW : WT T L f) (k_0 : isX T L E a_0) : CI l yX11_read cX11_read 4 .int 6 0 0 E [.ref a_0, .int a_1, .int a_2] L f (fun r L1 f1 => L = L1 ∧ WT T L f1 ∧ FR [2, 8, 151, 356] f f1 ∧ ((-6) ≤ r.toInt ∧ r.toInt ≤ 51) ∧ (¬ r.toInt = 0 ∨ (0 ≤ a_1.toInt ∧ a_1.toInt ≤ 3)) ∧ (¬ r.toInt = 0 ∨ (0 ≤ a_2.toInt ∧ a_2.toInt ≤ 5))) := by
  refine ci_of (by decide) (Nat.le_of_ble_eq_true rfl) (fun z hz hnm hC hR => ?_)
  have hC : Cx z E cX11_read RX11 4 6 0 0 := hC
  subst hz
  show V z E 4 0 0 L f 0 [(0, .ref a_0), (1, .int a_1), (2, .int a_2)] []
  refine v_aload_n hC dX11_read_0 rfl ?_
  refine v_iload_n hC dX11_read_1 rfl ?_
  refine v_iload_n hC dX11_read_2 rfl ?_
  obtain ⟨m_1, q_3, q_4, q_5, q_6, q_7, q_8, q_9, q_10, q_11, q_12, q_13, q_14, q_15, q_16, t_2, k_17, k_18, k_19, k_20, k_21, k_22, k_23, k_24, k_25, k_26, k_27, k_28, k_29, k_30⟩ := id k_0
  have e_31 : f a_0 = ob 11 [.ref q_3, .ref q_4, .ref q_5, .ref q_6, .ref q_7, .ref q_8, .ref q_9, .ref q_10, .ref q_11, .ref q_12, .ref q_13, .ref q_14, .ref q_15, .ref q_16] := hW.at m_1 t_2
  refine v_vi hC (rest := []) m_1 e_31 rfl mi_X11_refusalOfReading ms_X11_refusalOfReading (p_X11_refusalOfReading hW k_0) mx_X11_refusalOfReading ml_X11_198 (by decide) rfl (cells1 := 0) (slots1 := 0) (by decide) (by decide) (Nat.le_of_ble_eq_true rfl) (Nat.le_of_ble_eq_true rfl) rfl (Nat.le_of_ble_eq_true rfl) dX11_read_3 (fun r_32 L_33 f_34 h_35 => ?_)
  obtain ⟨rfl, rfl, b_36, h_37, h_38⟩ := h_35
  refine v_istore_n hC dX11_read_6 (by decide) (lv' := [(3, .int r_32), (0, .ref a_0), (1, .int a_1), (2, .int a_2)]) rfl ?_
  refine v_iload_n hC dX11_read_7 rfl ?_
  refine v_if_eq hC dX11_read_8 (tgt := 13) (by decide) (fun h_41 => ?_) (fun h_41 => ?_)
  · simp only [Int32.lt_iff_toInt_lt, Int32.le_iff_toInt_le, Int32.reduceToInt, ← Int32.toInt_inj] at h_41
    refine v_aload_n hC dX11_read_13 rfl ?_
    refine v_aload_n hC dX11_read_14 rfl ?_
    refine v_get hC fl_X11_19 m_1 e_31 rfl dX11_read_15 ?_
    obtain ⟨m_42, q_44, q_45, q_46, q_47, q_48, q_49, t_43, k_50, k_51, k_52, k_53, k_54, k_55⟩ := id k_18
    have e_56 : f q_4 = ob 0 [.ref q_44, .ref q_45, .ref q_46, .ref q_47, .ref q_48, .ref q_49] := hW.at m_42 t_43
    refine v_getN hC fn_X11_190 m_42 e_56 rfl dX11_read_18 ?_
    refine v_iload_n hC dX11_read_21 rfl ?_
    obtain ⟨m_57, g_59, t_58, k_60⟩ := id k_55
    have e_61 : f q_49 = aR E 5 4 g_59 := hW.at m_57 t_58
    obtain ⟨q_62, h_63, k_64⟩ := k_60 (a_1 : Int32).toNatClampNeg (clamp_lt (vp_in_iff.mpr (by first | omega | (simp only [Int32.lt_iff_toInt_lt, Int32.le_iff_toInt_le, Int32.reduceToInt, ← Int32.toInt_inj, true_and, and_true, or_true, true_or, false_or, or_false, false_and, and_false, not_true_eq_false, not_false_eq_true] <;> omega))))
    refine v_aald hC m_57 e_61 rfl (vp_in_iff.mpr (by first | omega | (simp only [Int32.lt_iff_toInt_lt, Int32.le_iff_toInt_le, Int32.reduceToInt, ← Int32.toInt_inj, true_and, and_true, or_true, true_or, false_or, or_false, false_and, and_false, not_true_eq_false, not_false_eq_true] <;> omega))) (v := .ref q_62) (by rw [h_63]; rfl) dX11_read_22 ?_
    refine v_aload_n hC dX11_read_23 rfl ?_
    refine v_get hC fl_X11_19 m_1 e_31 rfl dX11_read_24 ?_
    refine v_getN hC fn_X11_146 m_42 e_56 rfl dX11_read_27 ?_
    refine v_iload_n hC dX11_read_30 rfl ?_
    obtain ⟨m_65, g_67, t_66, k_68⟩ := id k_52
    have e_69 : f q_46 = aR E 7 6 g_67 := hW.at m_65 t_66
    obtain ⟨q_70, h_71, k_72⟩ := k_68 (a_2 : Int32).toNatClampNeg (clamp_lt (vp_in_iff.mpr (by first | omega | (simp only [Int32.lt_iff_toInt_lt, Int32.le_iff_toInt_le, Int32.reduceToInt, ← Int32.toInt_inj, true_and, and_true, or_true, true_or, false_or, or_false, false_and, and_false, not_true_eq_false, not_false_eq_true] <;> omega))))
    refine v_aald hC m_65 e_69 rfl (vp_in_iff.mpr (by first | omega | (simp only [Int32.lt_iff_toInt_lt, Int32.le_iff_toInt_le, Int32.reduceToInt, ← Int32.toInt_inj, true_and, and_true, or_true, true_or, false_or, or_false, false_and, and_false, not_true_eq_false, not_false_eq_true] <;> omega))) (v := .ref q_70) (by rw [h_71]; rfl) dX11_read_31 ?_
    refine v_vi hC (rest := []) m_1 e_31 rfl mi_X11_saysByWay ms_X11_saysByWay (p_X11_saysByWay hW k_0 k_64 k_72) mx_X11_saysByWay ml_X11_206 (by decide) rfl (cells1 := 0) (slots1 := 0) (by decide) (by decide) (Nat.le_of_ble_eq_true rfl) (Nat.le_of_ble_eq_true rfl) rfl (Nat.le_of_ble_eq_true rfl) dX11_read_32 (fun r_73 L_74 f_75 h_76 => ?_)
    obtain ⟨rfl, hW_78, hF_79, b_77⟩ := h_76
    have hf_80 := hF_79.at e_31 rfl
    have hf_81 := hF_79.at e_56 rfl
    have hf_82 := hF_79.at e_61 rfl
    have hf_83 := hF_79.at e_69 rfl
    refine v_if_ne hC dX11_read_35 (tgt := 40) (by decide) (fun h_84 => ?_) (fun h_84 => ?_)
    · simp only [Int32.lt_iff_toInt_lt, Int32.le_iff_toInt_le, Int32.reduceToInt, ← Int32.toInt_inj] at h_84
      refine v_aload_n hC dX11_read_40 rfl ?_
      refine v_get hC fl_X11_30 m_1 hf_80 rfl dX11_read_41 ?_
      refine v_aload_n hC dX11_read_44 rfl ?_
      refine v_get hC fl_X11_72 m_1 hf_80 rfl dX11_read_45 ?_
      obtain ⟨m_85, q_87, t_86, k_88⟩ := id k_20
      obtain ⟨v_90, e_89, b_91⟩ := hW_78.at m_85 t_86
      refine v_vv hC (rest := []) m_85 e_89 rfl mi_X2_takeFrom ms_X2_takeFrom (p_X2_takeFrom hW_78 k_20 k_27) mx_X2_takeFrom ml_X11_210 (by decide) rfl (cells1 := 0) (slots1 := 0) (by decide) (by decide) (Nat.le_of_ble_eq_true rfl) (Nat.le_of_ble_eq_true rfl) rfl (Nat.le_of_ble_eq_true rfl) dX11_read_48 (fun L_93 f_94 h_95 => ?_)
      obtain ⟨rfl, hW_96, hF_97⟩ := h_95
      have hf_98 := hF_97.at hf_80 rfl
      have hf_99 := hF_97.at hf_81 rfl
      have hf_100 := hF_97.at hf_82 rfl
      have hf_101 := hF_97.at hf_83 rfl
      refine v_aload_n hC dX11_read_51 rfl ?_
      refine v_get hC fl_X11_30 m_1 hf_98 rfl dX11_read_52 ?_
      obtain ⟨v_103, e_102, b_104⟩ := hW_96.at m_85 t_86
      refine v_getN hC fn_X11_213 m_85 e_102 rfl dX11_read_55 ?_
      exact hR _ _ _ _ _ _ _ dX11_read_58 rfl (Nat.le_of_ble_eq_true rfl) (Nat.le_of_ble_eq_true rfl) ⟨rfl, hW_96, ((hF_79.tr hF_97).mono rfl), (by first | omega | (simp only [Int32.lt_iff_toInt_lt, Int32.le_iff_toInt_le, Int32.reduceToInt, ← Int32.toInt_inj, true_and, and_true, or_true, true_or, false_or, or_false, false_and, and_false, not_true_eq_false, not_false_eq_true] <;> omega)), (.inr (by first | omega | (simp only [Int32.lt_iff_toInt_lt, Int32.le_iff_toInt_le, Int32.reduceToInt, ← Int32.toInt_inj, true_and, and_true, or_true, true_or, false_or, or_false, false_and, and_false, not_true_eq_false, not_false_eq_true] <;> omega))), (.inr (by first | omega | (simp only [Int32.lt_iff_toInt_lt, Int32.le_iff_toInt_le, Int32.reduceToInt, ← Int32.toInt_inj, true_and, and_true, or_true, true_or, false_or, or_false, false_and, and_false, not_true_eq_false, not_false_eq_true] <;> omega)))⟩
    · simp only [Int32.lt_iff_toInt_lt, Int32.le_iff_toInt_le, Int32.reduceToInt, ← Int32.toInt_inj] at h_84
      refine v_iconst hC dX11_read_38 (v := (-1)) (by decide) ?_
      exact hR _ _ _ _ _ _ _ dX11_read_39 rfl (Nat.le_of_ble_eq_true rfl) (Nat.le_of_ble_eq_true rfl) ⟨rfl, hW_78, (hF_79.mono rfl), (by decide), (.inl (by decide)), (.inl (by decide))⟩
  · simp only [Int32.lt_iff_toInt_lt, Int32.le_iff_toInt_le, Int32.reduceToInt, ← Int32.toInt_inj] at h_41
    refine v_iload_n hC dX11_read_11 rfl ?_
    exact hR _ _ _ _ _ _ _ dX11_read_12 rfl (Nat.le_of_ble_eq_true rfl) (Nat.le_of_ble_eq_true rfl) ⟨rfl, hW, FR.rf, (by first | omega | (simp only [Int32.lt_iff_toInt_lt, Int32.le_iff_toInt_le, Int32.reduceToInt, ← Int32.toInt_inj, true_and, and_true, or_true, true_or, false_or, or_false, false_and, and_false, not_true_eq_false, not_false_eq_true] <;> omega)), (by first | omega | (simp only [Int32.lt_iff_toInt_lt, Int32.le_iff_toInt_le, Int32.reduceToInt, ← Int32.toInt_inj, true_and, and_true, or_true, true_or, false_or, or_false, false_and, and_false, not_true_eq_false, not_false_eq_true] <;> omega)), (by first | omega | (simp only [Int32.lt_iff_toInt_lt, Int32.le_iff_toInt_le, Int32.reduceToInt, ← Int32.toInt_inj, true_and, and_true, or_true, true_or, false_or, or_false, false_and, and_false, not_true_eq_false, not_false_eq_true] <;> omega))⟩
set_option maxRecDepth 100000 in
set_option maxHeartbeats 8000000 in
theorem p_X11_letter {l : Launch} {E : Ez} {L : List Nat} {f : Nat → va_E} {T : Nat → va_E → Prop} {a_0 : Nat} {a_1 : Int32} (hW : WT T L f) (k_0 : isX T L E a_0) : CI l yX11_letter cX11_letter 2 .int 2 0 0 E [.ref a_0, .int a_1] L f (fun r L1 f1 => L = L1 ∧ f = f1) := by
  refine ci_of (by decide) (Nat.le_of_ble_eq_true rfl) (fun z hz hnm hC hR => ?_)
  have hC : Cx z E cX11_letter RX11 2 2 0 0 := hC
  subst hz
  show V z E 2 0 0 L f 0 [(0, .ref a_0), (1, .int a_1)] []
  refine v_aload_n hC dX11_letter_0 rfl ?_
  obtain ⟨m_1, q_3, q_4, q_5, q_6, q_7, q_8, q_9, q_10, q_11, q_12, q_13, q_14, q_15, q_16, t_2, k_17, k_18, k_19, k_20, k_21, k_22, k_23, k_24, k_25, k_26, k_27, k_28, k_29, k_30⟩ := id k_0
  have e_31 : f a_0 = ob 11 [.ref q_3, .ref q_4, .ref q_5, .ref q_6, .ref q_7, .ref q_8, .ref q_9, .ref q_10, .ref q_11, .ref q_12, .ref q_13, .ref q_14, .ref q_15, .ref q_16] := hW.at m_1 t_2
  refine v_get hC fl_X11_30 m_1 e_31 rfl dX11_letter_1 ?_
  refine v_iload_n hC dX11_letter_4 rfl ?_
  obtain ⟨m_32, q_34, t_33, k_35⟩ := id k_20
  obtain ⟨v_37, e_36, b_38⟩ := hW.at m_32 t_33
  refine v_vi hC (rest := []) m_32 e_36 rfl mi_X2_byteOf ms_X2_byteOf (p_X2_byteOf hW k_20) mx_X2_byteOf ml_X11_214 (by decide) rfl (cells1 := 0) (slots1 := 0) (by decide) (by decide) (Nat.le_of_ble_eq_true rfl) (Nat.le_of_ble_eq_true rfl) rfl (Nat.le_of_ble_eq_true rfl) dX11_letter_5 (fun r_39 L_40 f_41 h_42 => ?_)
  obtain ⟨rfl, rfl⟩ := h_42
  exact hR _ _ _ _ _ _ _ dX11_letter_8 rfl (Nat.le_of_ble_eq_true rfl) (Nat.le_of_ble_eq_true rfl) ⟨rfl, rfl⟩
set_option maxRecDepth 100000 in
set_option maxHeartbeats 8000000 in
theorem p_X11_bit {l : Launch} {E : Ez} {L : List Nat} {f : Nat → va_E} {T : Nat → va_E → Prop} {a_0 : Nat} {a_1 : Int32} {a_2 : Int32} {a_3 : Int32} (hW : WT T L f) (k_0 : isX T L E a_0) : CI l yX11_bit cX11_bit 5 .int 3 0 0 E [.ref a_0, .int a_1, .int a_2, .int a_3] L f (fun r L1 f1 => L = L1 ∧ WT T L f1 ∧ FR [8, 356] f f1 ∧ ((-6) ≤ r.toInt ∧ r.toInt ≤ 2) ∧ (¬ r.toInt = 0 ∨ (0 ≤ a_1.toInt ∧ a_1.toInt ≤ 3)) ∧ (¬ r.toInt = 0 ∨ (0 ≤ a_2.toInt ∧ a_2.toInt ≤ 5)) ∧ (¬ r.toInt = 0 ∨ (0 ≤ a_3.toInt ∧ a_3.toInt ≤ 255))) := by
  refine ci_of (by decide) (Nat.le_of_ble_eq_true rfl) (fun z hz hnm hC hR => ?_)
  have hC : Cx z E cX11_bit RX11 5 3 0 0 := hC
  subst hz
  show V z E 5 0 0 L f 0 [(0, .ref a_0), (1, .int a_1), (2, .int a_2), (3, .int a_3)] []
  refine v_aload_n hC dX11_bit_0 rfl ?_
  refine v_iload_n hC dX11_bit_1 rfl ?_
  refine v_iload_n hC dX11_bit_2 rfl ?_
  obtain ⟨m_1, q_3, q_4, q_5, q_6, q_7, q_8, q_9, q_10, q_11, q_12, q_13, q_14, q_15, q_16, t_2, k_17, k_18, k_19, k_20, k_21, k_22, k_23, k_24, k_25, k_26, k_27, k_28, k_29, k_30⟩ := id k_0
  have e_31 : f a_0 = ob 11 [.ref q_3, .ref q_4, .ref q_5, .ref q_6, .ref q_7, .ref q_8, .ref q_9, .ref q_10, .ref q_11, .ref q_12, .ref q_13, .ref q_14, .ref q_15, .ref q_16] := hW.at m_1 t_2
  refine v_vi hC (rest := []) m_1 e_31 rfl mi_X11_refusalOfReading ms_X11_refusalOfReading (p_X11_refusalOfReading hW k_0) mx_X11_refusalOfReading ml_X11_198 (by decide) rfl (cells1 := 0) (slots1 := 0) (by decide) (by decide) (Nat.le_of_ble_eq_true rfl) (Nat.le_of_ble_eq_true rfl) rfl (Nat.le_of_ble_eq_true rfl) dX11_bit_3 (fun r_32 L_33 f_34 h_35 => ?_)
  obtain ⟨rfl, rfl, b_36, h_37, h_38⟩ := h_35
  refine v_istore hC dX11_bit_6 (by decide) (lv' := [(4, .int r_32), (0, .ref a_0), (1, .int a_1), (2, .int a_2), (3, .int a_3)]) rfl ?_
  refine v_iload hC dX11_bit_8 rfl ?_
  refine v_if_eq hC dX11_bit_10 (tgt := 16) (by decide) (fun h_41 => ?_) (fun h_41 => ?_)
  · simp only [Int32.lt_iff_toInt_lt, Int32.le_iff_toInt_le, Int32.reduceToInt, ← Int32.toInt_inj] at h_41
    refine v_aload_n hC dX11_bit_16 rfl ?_
    refine v_get hC fl_X11_78 m_1 e_31 rfl dX11_bit_17 ?_
    refine v_aload_n hC dX11_bit_20 rfl ?_
    refine v_get hC fl_X11_19 m_1 e_31 rfl dX11_bit_21 ?_
    obtain ⟨m_42, q_44, q_45, q_46, q_47, q_48, q_49, t_43, k_50, k_51, k_52, k_53, k_54, k_55⟩ := id k_18
    have e_56 : f q_4 = ob 0 [.ref q_44, .ref q_45, .ref q_46, .ref q_47, .ref q_48, .ref q_49] := hW.at m_42 t_43
    refine v_getN hC fn_X11_146 m_42 e_56 rfl dX11_bit_24 ?_
    refine v_iload_n hC dX11_bit_27 rfl ?_
    obtain ⟨m_57, g_59, t_58, k_60⟩ := id k_52
    have e_61 : f q_46 = aR E 7 6 g_59 := hW.at m_57 t_58
    obtain ⟨q_62, h_63, k_64⟩ := k_60 (a_2 : Int32).toNatClampNeg (clamp_lt (vp_in_iff.mpr (by first | omega | (simp only [Int32.lt_iff_toInt_lt, Int32.le_iff_toInt_le, Int32.reduceToInt, ← Int32.toInt_inj, true_and, and_true, or_true, true_or, false_or, or_false, false_and, and_false, not_true_eq_false, not_false_eq_true] <;> omega))))
    refine v_aald hC m_57 e_61 rfl (vp_in_iff.mpr (by first | omega | (simp only [Int32.lt_iff_toInt_lt, Int32.le_iff_toInt_le, Int32.reduceToInt, ← Int32.toInt_inj, true_and, and_true, or_true, true_or, false_or, or_false, false_and, and_false, not_true_eq_false, not_false_eq_true] <;> omega))) (v := .ref q_62) (by rw [h_63]; rfl) dX11_bit_28 ?_
    refine v_aload_n hC dX11_bit_29 rfl ?_
    refine v_get hC fl_X11_19 m_1 e_31 rfl dX11_bit_30 ?_
    refine v_getN hC fn_X11_116 m_42 e_56 rfl dX11_bit_33 ?_
    obtain ⟨m_65, q_67, t_66, k_68⟩ := id k_28
    obtain ⟨v_70, v_72, v_74, v_76, e_69, b_71, b_73, b_75, b_77⟩ := hW.at m_65 t_66
    refine v_vv hC (rest := []) m_65 e_69 rfl mi_X8_follow ms_X8_follow (p_X8_follow hW k_28 k_64 k_50) mx_X8_follow ml_X11_218 (by decide) rfl (cells1 := 0) (slots1 := 0) (by decide) (by decide) (Nat.le_of_ble_eq_true rfl) (Nat.le_of_ble_eq_true rfl) rfl (Nat.le_of_ble_eq_true rfl) dX11_bit_36 (fun L_79 f_80 h_81 => ?_)
    obtain ⟨rfl, hW_82, hF_83⟩ := h_81
    have hf_84 := hF_83.at e_31 rfl
    have hf_85 := hF_83.at e_56 rfl
    have hf_86 := hF_83.at e_61 rfl
    refine v_iload_n hC dX11_bit_39 rfl ?_
    refine v_if_lt hC dX11_bit_40 (tgt := 54) (by decide) (fun h_87 => ?_) (fun h_87 => ?_)
    · simp only [Int32.lt_iff_toInt_lt, Int32.le_iff_toInt_le, Int32.reduceToInt, ← Int32.toInt_inj] at h_87
      refine v_iconst hC dX11_bit_54 (v := (-1)) (by decide) ?_
      exact hR _ _ _ _ _ _ _ dX11_bit_55 rfl (Nat.le_of_ble_eq_true rfl) (Nat.le_of_ble_eq_true rfl) ⟨rfl, hW_82, (hF_83.mono rfl), (by decide), (.inl (by decide)), (.inl (by decide)), (.inl (by decide))⟩
    · simp only [Int32.lt_iff_toInt_lt, Int32.le_iff_toInt_le, Int32.reduceToInt, ← Int32.toInt_inj] at h_87
      refine v_iload_n hC dX11_bit_43 rfl ?_
      refine v_aload_n hC dX11_bit_44 rfl ?_
      refine v_get hC fl_X11_78 m_1 hf_84 rfl dX11_bit_45 ?_
      obtain ⟨v_89, v_91, v_93, v_95, e_88, b_90, b_92, b_94, b_96⟩ := hW_82.at m_65 t_66
      refine v_getN hC fn_X11_222 m_65 e_88 rfl dX11_bit_48 ?_
      refine v_icmp_lt hC dX11_bit_51 (tgt := 56) (by decide) (fun h_97 => ?_) (fun h_97 => ?_)
      · simp only [Int32.lt_iff_toInt_lt, Int32.le_iff_toInt_le, Int32.reduceToInt, ← Int32.toInt_inj] at h_97
        refine v_aload_n hC dX11_bit_56 rfl ?_
        refine v_get hC fl_X11_78 m_1 hf_84 rfl dX11_bit_57 ?_
        refine v_aload_n hC dX11_bit_60 rfl ?_
        refine v_get hC fl_X11_19 m_1 hf_84 rfl dX11_bit_61 ?_
        refine v_getN hC fn_X11_190 m_42 hf_85 rfl dX11_bit_64 ?_
        refine v_iload_n hC dX11_bit_67 rfl ?_
        obtain ⟨m_98, g_100, t_99, k_101⟩ := id k_55
        have e_102 : f_80 q_49 = aR E 5 4 g_100 := hW_82.at m_98 t_99
        obtain ⟨q_103, h_104, k_105⟩ := k_101 (a_1 : Int32).toNatClampNeg (clamp_lt (vp_in_iff.mpr (by first | omega | (simp only [Int32.lt_iff_toInt_lt, Int32.le_iff_toInt_le, Int32.reduceToInt, ← Int32.toInt_inj, true_and, and_true, or_true, true_or, false_or, or_false, false_and, and_false, not_true_eq_false, not_false_eq_true] <;> omega))))
        refine v_aald hC m_98 e_102 rfl (vp_in_iff.mpr (by first | omega | (simp only [Int32.lt_iff_toInt_lt, Int32.le_iff_toInt_le, Int32.reduceToInt, ← Int32.toInt_inj, true_and, and_true, or_true, true_or, false_or, or_false, false_and, and_false, not_true_eq_false, not_false_eq_true] <;> omega))) (v := .ref q_103) (by rw [h_104]; rfl) dX11_bit_68 ?_
        refine v_iload_n hC dX11_bit_69 rfl ?_
        refine v_vi hC (rest := []) m_65 e_88 rfl mi_X8_bitTells ms_X8_bitTells (p_X8_bitTells hW_82 k_28 k_105) mx_X8_bitTells ml_X11_225 (by decide) rfl (cells1 := 0) (slots1 := 0) (by decide) (by decide) (Nat.le_of_ble_eq_true rfl) (Nat.le_of_ble_eq_true rfl) rfl (Nat.le_of_ble_eq_true rfl) dX11_bit_70 (fun r_106 L_107 f_108 h_109 => ?_)
        obtain ⟨rfl, rfl, b_110⟩ := h_109
        exact hR _ _ _ _ _ _ _ dX11_bit_73 rfl (Nat.le_of_ble_eq_true rfl) (Nat.le_of_ble_eq_true rfl) ⟨rfl, hW_82, (hF_83.mono rfl), (by first | omega | (simp only [Int32.lt_iff_toInt_lt, Int32.le_iff_toInt_le, Int32.reduceToInt, ← Int32.toInt_inj, true_and, and_true, or_true, true_or, false_or, or_false, false_and, and_false, not_true_eq_false, not_false_eq_true] <;> omega)), (.inr (by first | omega | (simp only [Int32.lt_iff_toInt_lt, Int32.le_iff_toInt_le, Int32.reduceToInt, ← Int32.toInt_inj, true_and, and_true, or_true, true_or, false_or, or_false, false_and, and_false, not_true_eq_false, not_false_eq_true] <;> omega))), (.inr (by first | omega | (simp only [Int32.lt_iff_toInt_lt, Int32.le_iff_toInt_le, Int32.reduceToInt, ← Int32.toInt_inj, true_and, and_true, or_true, true_or, false_or, or_false, false_and, and_false, not_true_eq_false, not_false_eq_true] <;> omega))), (.inr (by first | omega | (simp only [Int32.lt_iff_toInt_lt, Int32.le_iff_toInt_le, Int32.reduceToInt, ← Int32.toInt_inj, true_and, and_true, or_true, true_or, false_or, or_false, false_and, and_false, not_true_eq_false, not_false_eq_true] <;> omega)))⟩
      · simp only [Int32.lt_iff_toInt_lt, Int32.le_iff_toInt_le, Int32.reduceToInt, ← Int32.toInt_inj] at h_97
        refine v_iconst hC dX11_bit_54 (v := (-1)) (by decide) ?_
        exact hR _ _ _ _ _ _ _ dX11_bit_55 rfl (Nat.le_of_ble_eq_true rfl) (Nat.le_of_ble_eq_true rfl) ⟨rfl, hW_82, (hF_83.mono rfl), (by decide), (.inl (by decide)), (.inl (by decide)), (.inl (by decide))⟩
  · simp only [Int32.lt_iff_toInt_lt, Int32.le_iff_toInt_le, Int32.reduceToInt, ← Int32.toInt_inj] at h_41
    refine v_iload hC dX11_bit_13 rfl ?_
    exact hR _ _ _ _ _ _ _ dX11_bit_15 rfl (Nat.le_of_ble_eq_true rfl) (Nat.le_of_ble_eq_true rfl) ⟨rfl, hW, FR.rf, (by first | omega | (simp only [Int32.lt_iff_toInt_lt, Int32.le_iff_toInt_le, Int32.reduceToInt, ← Int32.toInt_inj, true_and, and_true, or_true, true_or, false_or, or_false, false_and, and_false, not_true_eq_false, not_false_eq_true] <;> omega)), (by first | omega | (simp only [Int32.lt_iff_toInt_lt, Int32.le_iff_toInt_le, Int32.reduceToInt, ← Int32.toInt_inj, true_and, and_true, or_true, true_or, false_or, or_false, false_and, and_false, not_true_eq_false, not_false_eq_true] <;> omega)), (by first | omega | (simp only [Int32.lt_iff_toInt_lt, Int32.le_iff_toInt_le, Int32.reduceToInt, ← Int32.toInt_inj, true_and, and_true, or_true, true_or, false_or, or_false, false_and, and_false, not_true_eq_false, not_false_eq_true] <;> omega)), (by first | omega | (simp only [Int32.lt_iff_toInt_lt, Int32.le_iff_toInt_le, Int32.reduceToInt, ← Int32.toInt_inj, true_and, and_true, or_true, true_or, false_or, or_false, false_and, and_false, not_true_eq_false, not_false_eq_true] <;> omega))⟩
set_option maxRecDepth 100000 in
set_option maxHeartbeats 8000000 in
theorem p_X11_dim {l : Launch} {E : Ez} {L : List Nat} {f : Nat → va_E} {T : Nat → va_E → Prop} {a_0 : Nat} {a_1 : Int32} {a_2 : Int32} (hW : WT T L f) (k_0 : isX T L E a_0) : CI l yX11_dim cX11_dim 6 .int 3 0 0 E [.ref a_0, .int a_1, .int a_2] L f (fun r L1 f1 => L = L1 ∧ WT T L f1 ∧ FR [8, 356] f f1 ∧ (¬ r.toInt = 0 ∨ (0 ≤ a_1.toInt ∧ a_1.toInt ≤ 3)) ∧ (¬ r.toInt = 0 ∨ (0 ≤ a_2.toInt ∧ a_2.toInt ≤ 5))) := by
  refine ci_of (by decide) (Nat.le_of_ble_eq_true rfl) (fun z hz hnm hC hR => ?_)
  have hC : Cx z E cX11_dim RX11 6 3 0 0 := hC
  subst hz
  show V z E 6 0 0 L f 0 [(0, .ref a_0), (1, .int a_1), (2, .int a_2)] []
  refine v_aload_n hC dX11_dim_0 rfl ?_
  refine v_iload_n hC dX11_dim_1 rfl ?_
  refine v_iload_n hC dX11_dim_2 rfl ?_
  obtain ⟨m_1, q_3, q_4, q_5, q_6, q_7, q_8, q_9, q_10, q_11, q_12, q_13, q_14, q_15, q_16, t_2, k_17, k_18, k_19, k_20, k_21, k_22, k_23, k_24, k_25, k_26, k_27, k_28, k_29, k_30⟩ := id k_0
  have e_31 : f a_0 = ob 11 [.ref q_3, .ref q_4, .ref q_5, .ref q_6, .ref q_7, .ref q_8, .ref q_9, .ref q_10, .ref q_11, .ref q_12, .ref q_13, .ref q_14, .ref q_15, .ref q_16] := hW.at m_1 t_2
  refine v_vi hC (rest := []) m_1 e_31 rfl mi_X11_refusalOfReading ms_X11_refusalOfReading (p_X11_refusalOfReading hW k_0) mx_X11_refusalOfReading ml_X11_198 (by decide) rfl (cells1 := 0) (slots1 := 0) (by decide) (by decide) (Nat.le_of_ble_eq_true rfl) (Nat.le_of_ble_eq_true rfl) rfl (Nat.le_of_ble_eq_true rfl) dX11_dim_3 (fun r_32 L_33 f_34 h_35 => ?_)
  obtain ⟨rfl, rfl, b_36, h_37, h_38⟩ := h_35
  refine v_istore_n hC dX11_dim_6 (by decide) (lv' := [(3, .int r_32), (0, .ref a_0), (1, .int a_1), (2, .int a_2)]) rfl ?_
  refine v_iload_n hC dX11_dim_7 rfl ?_
  refine v_if_eq hC dX11_dim_8 (tgt := 13) (by decide) (fun h_41 => ?_) (fun h_41 => ?_)
  · simp only [Int32.lt_iff_toInt_lt, Int32.le_iff_toInt_le, Int32.reduceToInt, ← Int32.toInt_inj] at h_41
    refine v_aload_n hC dX11_dim_13 rfl ?_
    refine v_get hC fl_X11_78 m_1 e_31 rfl dX11_dim_14 ?_
    refine v_aload_n hC dX11_dim_17 rfl ?_
    refine v_get hC fl_X11_19 m_1 e_31 rfl dX11_dim_18 ?_
    obtain ⟨m_42, q_44, q_45, q_46, q_47, q_48, q_49, t_43, k_50, k_51, k_52, k_53, k_54, k_55⟩ := id k_18
    have e_56 : f q_4 = ob 0 [.ref q_44, .ref q_45, .ref q_46, .ref q_47, .ref q_48, .ref q_49] := hW.at m_42 t_43
    refine v_getN hC fn_X11_146 m_42 e_56 rfl dX11_dim_21 ?_
    refine v_iload_n hC dX11_dim_24 rfl ?_
    obtain ⟨m_57, g_59, t_58, k_60⟩ := id k_52
    have e_61 : f q_46 = aR E 7 6 g_59 := hW.at m_57 t_58
    obtain ⟨q_62, h_63, k_64⟩ := k_60 (a_2 : Int32).toNatClampNeg (clamp_lt (vp_in_iff.mpr (by first | omega | (simp only [Int32.lt_iff_toInt_lt, Int32.le_iff_toInt_le, Int32.reduceToInt, ← Int32.toInt_inj, true_and, and_true, or_true, true_or, false_or, or_false, false_and, and_false, not_true_eq_false, not_false_eq_true] <;> omega))))
    refine v_aald hC m_57 e_61 rfl (vp_in_iff.mpr (by first | omega | (simp only [Int32.lt_iff_toInt_lt, Int32.le_iff_toInt_le, Int32.reduceToInt, ← Int32.toInt_inj, true_and, and_true, or_true, true_or, false_or, or_false, false_and, and_false, not_true_eq_false, not_false_eq_true] <;> omega))) (v := .ref q_62) (by rw [h_63]; rfl) dX11_dim_25 ?_
    refine v_aload_n hC dX11_dim_26 rfl ?_
    refine v_get hC fl_X11_19 m_1 e_31 rfl dX11_dim_27 ?_
    refine v_getN hC fn_X11_116 m_42 e_56 rfl dX11_dim_30 ?_
    obtain ⟨m_65, q_67, t_66, k_68⟩ := id k_28
    obtain ⟨v_70, v_72, v_74, v_76, e_69, b_71, b_73, b_75, b_77⟩ := hW.at m_65 t_66
    refine v_vv hC (rest := []) m_65 e_69 rfl mi_X8_follow ms_X8_follow (p_X8_follow hW k_28 k_64 k_50) mx_X8_follow ml_X11_218 (by decide) rfl (cells1 := 0) (slots1 := 0) (by decide) (by decide) (Nat.le_of_ble_eq_true rfl) (Nat.le_of_ble_eq_true rfl) rfl (Nat.le_of_ble_eq_true rfl) dX11_dim_33 (fun L_79 f_80 h_81 => ?_)
    obtain ⟨rfl, hW_82, hF_83⟩ := h_81
    have hf_84 := hF_83.at e_31 rfl
    have hf_85 := hF_83.at e_56 rfl
    have hf_86 := hF_83.at e_61 rfl
    refine v_iconst hC dX11_dim_36 (v := 0) (by decide) ?_
    refine v_istore hC dX11_dim_37 (by decide) (lv' := [(4, .int 0), (3, .int r_32), (0, .ref a_0), (1, .int a_1), (2, .int a_2)]) rfl ?_
    refine v_iconst hC dX11_dim_39 (v := 0) (by decide) ?_
    refine v_istore hC dX11_dim_40 (by decide) (lv' := [(5, .int 0), (4, .int 0), (3, .int r_32), (0, .ref a_0), (1, .int a_1), (2, .int a_2)]) rfl ?_
    have lp_439 : ∀ (n_440 : Nat) (i_436 : Int32) (b_438 : (0 ≤ i_436.toInt ∧ i_436.toInt ≤ 256)) (i_437 : Int32) (hm_442 : 256 - i_436.toInt < (n_440 : Int)), V z E 6 0 0 L f_80 42 [(5, .int i_436), (4, .int i_437), (0, .ref a_0), (1, .int a_1)] [] := by
      intro n_440
      induction n_440 with
      | zero =>
        intro i_436 b_438 i_437 hm_442
        exfalso; omega
      | succ n_440 ih_441 =>
        intro i_436 b_438 i_437 hm_442
        refine v_iload hC dX11_dim_42 rfl ?_
        refine v_aload_n hC dX11_dim_44 rfl ?_
        refine v_get hC fl_X11_78 m_1 hf_84 rfl dX11_dim_45 ?_
        obtain ⟨v_444, v_446, v_448, v_450, e_443, b_445, b_447, b_449, b_451⟩ := hW_82.at m_65 t_66
        refine v_getN hC fn_X11_222 m_65 e_443 rfl dX11_dim_48 ?_
        refine v_icmp_ge hC dX11_dim_51 (tgt := 85) (by decide) (fun h_452 => ?_) (fun h_452 => ?_)
        · simp only [Int32.lt_iff_toInt_lt, Int32.le_iff_toInt_le, Int32.reduceToInt, ← Int32.toInt_inj] at h_452
          refine v_iload hC dX11_dim_85 rfl ?_
          exact hR _ _ _ _ _ _ _ dX11_dim_87 rfl (Nat.le_of_ble_eq_true rfl) (Nat.le_of_ble_eq_true rfl) ⟨rfl, hW_82, (hF_83.mono rfl), (.inr (by first | omega | (simp only [Int32.lt_iff_toInt_lt, Int32.le_iff_toInt_le, Int32.reduceToInt, ← Int32.toInt_inj, true_and, and_true, or_true, true_or, false_or, or_false, false_and, and_false, not_true_eq_false, not_false_eq_true] <;> omega))), (.inr (by first | omega | (simp only [Int32.lt_iff_toInt_lt, Int32.le_iff_toInt_le, Int32.reduceToInt, ← Int32.toInt_inj, true_and, and_true, or_true, true_or, false_or, or_false, false_and, and_false, not_true_eq_false, not_false_eq_true] <;> omega)))⟩
        · simp only [Int32.lt_iff_toInt_lt, Int32.le_iff_toInt_le, Int32.reduceToInt, ← Int32.toInt_inj] at h_452
          refine v_aload_n hC dX11_dim_54 rfl ?_
          refine v_get hC fl_X11_78 m_1 hf_84 rfl dX11_dim_55 ?_
          refine v_aload_n hC dX11_dim_58 rfl ?_
          refine v_get hC fl_X11_19 m_1 hf_84 rfl dX11_dim_59 ?_
          refine v_getN hC fn_X11_190 m_42 hf_85 rfl dX11_dim_62 ?_
          refine v_iload_n hC dX11_dim_65 rfl ?_
          obtain ⟨m_453, g_455, t_454, k_456⟩ := id k_55
          have e_457 : f_80 q_49 = aR E 5 4 g_455 := hW_82.at m_453 t_454
          obtain ⟨q_458, h_459, k_460⟩ := k_456 (a_1 : Int32).toNatClampNeg (clamp_lt (vp_in_iff.mpr (by first | omega | (simp only [Int32.lt_iff_toInt_lt, Int32.le_iff_toInt_le, Int32.reduceToInt, ← Int32.toInt_inj, true_and, and_true, or_true, true_or, false_or, or_false, false_and, and_false, not_true_eq_false, not_false_eq_true] <;> omega))))
          refine v_aald hC m_453 e_457 rfl (vp_in_iff.mpr (by first | omega | (simp only [Int32.lt_iff_toInt_lt, Int32.le_iff_toInt_le, Int32.reduceToInt, ← Int32.toInt_inj, true_and, and_true, or_true, true_or, false_or, or_false, false_and, and_false, not_true_eq_false, not_false_eq_true] <;> omega))) (v := .ref q_458) (by rw [h_459]; rfl) dX11_dim_66 ?_
          refine v_iload hC dX11_dim_67 rfl ?_
          refine v_vi hC (rest := []) m_65 e_443 rfl mi_X8_bitTells ms_X8_bitTells (p_X8_bitTells hW_82 k_28 k_460) mx_X8_bitTells ml_X11_225 (by decide) rfl (cells1 := 0) (slots1 := 0) (by decide) (by decide) (Nat.le_of_ble_eq_true rfl) (Nat.le_of_ble_eq_true rfl) rfl (Nat.le_of_ble_eq_true rfl) dX11_dim_69 (fun r_461 L_462 f_463 h_464 => ?_)
          obtain ⟨rfl, rfl, b_465⟩ := h_464
          refine v_iconst hC dX11_dim_72 (v := 2) (by decide) ?_
          refine v_icmp_ne hC dX11_dim_73 (tgt := 79) (by decide) (fun h_468 => ?_) (fun h_468 => ?_)
          · simp only [Int32.lt_iff_toInt_lt, Int32.le_iff_toInt_le, Int32.reduceToInt, ← Int32.toInt_inj] at h_468
            obtain ⟨v_469, h_470⟩ : ∃ v9 : Int32, i_436 + Int32.ofInt 1 = v9 := ⟨_, rfl⟩
            have h_471 := add_v (b := 1) h_470 (by first | omega | (simp only [Int32.lt_iff_toInt_lt, Int32.le_iff_toInt_le, Int32.reduceToInt, ← Int32.toInt_inj, true_and, and_true, or_true, true_or, false_or, or_false, false_and, and_false, not_true_eq_false, not_false_eq_true] <;> omega)) (by first | omega | (simp only [Int32.lt_iff_toInt_lt, Int32.le_iff_toInt_le, Int32.reduceToInt, ← Int32.toInt_inj, true_and, and_true, or_true, true_or, false_or, or_false, false_and, and_false, not_true_eq_false, not_false_eq_true] <;> omega))
            simp only [Int32.reduceToInt] at h_471
            refine v_iinc hC dX11_dim_79 (k := 0) rfl (v := v_469) h_470 (by decide) (lv' := [(5, .int v_469), (4, .int i_437), (0, .ref a_0), (1, .int a_1)]) rfl ?_
            refine v_goto hC dX11_dim_82 (tgt := 42) (by decide) ?_
            refine v_pick [0, 1, 2, 3] rfl ?_
            exact ih_441 v_469 (by first | omega | (simp only [Int32.lt_iff_toInt_lt, Int32.le_iff_toInt_le, Int32.reduceToInt, ← Int32.toInt_inj, true_and, and_true, or_true, true_or, false_or, or_false, false_and, and_false, not_true_eq_false, not_false_eq_true] <;> omega)) i_437 (by first | omega | (simp only [Int32.lt_iff_toInt_lt, Int32.le_iff_toInt_le, Int32.reduceToInt, ← Int32.toInt_inj, true_and, and_true, or_true, true_or, false_or, or_false, false_and, and_false, not_true_eq_false, not_false_eq_true] <;> omega))
          · simp only [Int32.lt_iff_toInt_lt, Int32.le_iff_toInt_le, Int32.reduceToInt, ← Int32.toInt_inj] at h_468
            obtain ⟨v_472, h_473⟩ : ∃ v9 : Int32, i_437 + Int32.ofInt 1 = v9 := ⟨_, rfl⟩
            refine v_iinc hC dX11_dim_76 (k := 1) rfl (v := v_472) h_473 (by decide) (lv' := [(4, .int v_472), (5, .int i_436), (0, .ref a_0), (1, .int a_1)]) rfl ?_
            obtain ⟨v_474, h_475⟩ : ∃ v9 : Int32, i_436 + Int32.ofInt 1 = v9 := ⟨_, rfl⟩
            have h_476 := add_v (b := 1) h_475 (by first | omega | (simp only [Int32.lt_iff_toInt_lt, Int32.le_iff_toInt_le, Int32.reduceToInt, ← Int32.toInt_inj, true_and, and_true, or_true, true_or, false_or, or_false, false_and, and_false, not_true_eq_false, not_false_eq_true] <;> omega)) (by first | omega | (simp only [Int32.lt_iff_toInt_lt, Int32.le_iff_toInt_le, Int32.reduceToInt, ← Int32.toInt_inj, true_and, and_true, or_true, true_or, false_or, or_false, false_and, and_false, not_true_eq_false, not_false_eq_true] <;> omega))
            simp only [Int32.reduceToInt] at h_476
            refine v_iinc hC dX11_dim_79 (k := 1) rfl (v := v_474) h_475 (by decide) (lv' := [(5, .int v_474), (4, .int v_472), (0, .ref a_0), (1, .int a_1)]) rfl ?_
            refine v_goto hC dX11_dim_82 (tgt := 42) (by decide) ?_
            refine v_pick [0, 1, 2, 3] rfl ?_
            exact ih_441 v_474 (by first | omega | (simp only [Int32.lt_iff_toInt_lt, Int32.le_iff_toInt_le, Int32.reduceToInt, ← Int32.toInt_inj, true_and, and_true, or_true, true_or, false_or, or_false, false_and, and_false, not_true_eq_false, not_false_eq_true] <;> omega)) v_472 (by first | omega | (simp only [Int32.lt_iff_toInt_lt, Int32.le_iff_toInt_le, Int32.reduceToInt, ← Int32.toInt_inj, true_and, and_true, or_true, true_or, false_or, or_false, false_and, and_false, not_true_eq_false, not_false_eq_true] <;> omega))
    refine v_pick [0, 1, 3, 4] rfl ?_
    exact lp_439 258 0 (by decide) 0 (by decide)
  · simp only [Int32.lt_iff_toInt_lt, Int32.le_iff_toInt_le, Int32.reduceToInt, ← Int32.toInt_inj] at h_41
    refine v_iload_n hC dX11_dim_11 rfl ?_
    exact hR _ _ _ _ _ _ _ dX11_dim_12 rfl (Nat.le_of_ble_eq_true rfl) (Nat.le_of_ble_eq_true rfl) ⟨rfl, hW, FR.rf, (by first | omega | (simp only [Int32.lt_iff_toInt_lt, Int32.le_iff_toInt_le, Int32.reduceToInt, ← Int32.toInt_inj, true_and, and_true, or_true, true_or, false_or, or_false, false_and, and_false, not_true_eq_false, not_false_eq_true] <;> omega)), (by first | omega | (simp only [Int32.lt_iff_toInt_lt, Int32.le_iff_toInt_le, Int32.reduceToInt, ← Int32.toInt_inj, true_and, and_true, or_true, true_or, false_or, or_false, false_and, and_false, not_true_eq_false, not_false_eq_true] <;> omega))⟩
set_option maxRecDepth 100000 in
set_option maxHeartbeats 8000000 in
theorem p_X11_refusalOfCloth {l : Launch} {E : Ez} {L : List Nat} {f : Nat → va_E} {T : Nat → va_E → Prop} {a_0 : Nat} {a_1 : Int32} (hW : WT T L f) (k_0 : isX T L E a_0) : CI l yX11_refusalOfCloth cX11_refusalOfCloth 2 .int 2 0 0 E [.ref a_0, .int a_1] L f (fun r L1 f1 => L = L1 ∧ f = f1 ∧ ((-6) ≤ r.toInt ∧ r.toInt ≤ 0) ∧ (¬ r.toInt = 0 ∨ (0 ≤ a_1.toInt ∧ a_1.toInt ≤ 3))) := by
  refine ci_of (by decide) (Nat.le_of_ble_eq_true rfl) (fun z hz hnm hC hR => ?_)
  have hC : Cx z E cX11_refusalOfCloth RX11 2 2 0 0 := hC
  subst hz
  show V z E 2 0 0 L f 0 [(0, .ref a_0), (1, .int a_1)] []
  refine v_iload_n hC dX11_refusalOfCloth_0 rfl ?_
  refine v_si hC (rest := []) mt_X11_isCloth (p_X11_isCloth hW) mx_X11_isCloth ml_X11_181 (by decide) rfl (cells1 := 0) (slots1 := 0) (by decide) (by decide) (Nat.le_of_ble_eq_true rfl) (Nat.le_of_ble_eq_true rfl) rfl (Nat.le_of_ble_eq_true rfl) dX11_refusalOfCloth_1 (fun r_1 L_2 f_3 h_4 => ?_)
  obtain ⟨rfl, rfl, b_5, h_6⟩ := h_4
  refine v_if_ne hC dX11_refusalOfCloth_4 (tgt := 10) (by decide) (fun h_9 => ?_) (fun h_9 => ?_)
  · simp only [Int32.lt_iff_toInt_lt, Int32.le_iff_toInt_le, Int32.reduceToInt, ← Int32.toInt_inj] at h_9
    refine v_aload_n hC dX11_refusalOfCloth_10 rfl ?_
    refine v_iload_n hC dX11_refusalOfCloth_11 rfl ?_
    obtain ⟨m_10, q_12, q_13, q_14, q_15, q_16, q_17, q_18, q_19, q_20, q_21, q_22, q_23, q_24, q_25, t_11, k_26, k_27, k_28, k_29, k_30, k_31, k_32, k_33, k_34, k_35, k_36, k_37, k_38, k_39⟩ := id k_0
    have e_40 : f a_0 = ob 11 [.ref q_12, .ref q_13, .ref q_14, .ref q_15, .ref q_16, .ref q_17, .ref q_18, .ref q_19, .ref q_20, .ref q_21, .ref q_22, .ref q_23, .ref q_24, .ref q_25] := hW.at m_10 t_11
    refine v_vi hC (rest := []) m_10 e_40 rfl mi_X11_hasCloth ms_X11_hasCloth (p_X11_hasCloth hW k_0) mx_X11_hasCloth ml_X11_239 (by decide) rfl (cells1 := 0) (slots1 := 0) (by decide) (by decide) (Nat.le_of_ble_eq_true rfl) (Nat.le_of_ble_eq_true rfl) rfl (Nat.le_of_ble_eq_true rfl) dX11_refusalOfCloth_12 (fun r_41 L_42 f_43 h_44 => ?_)
    obtain ⟨rfl, rfl, b_45, h_46⟩ := h_44
    refine v_if_eq hC dX11_refusalOfCloth_15 (tgt := 22) (by decide) (fun h_49 => ?_) (fun h_49 => ?_)
    · simp only [Int32.lt_iff_toInt_lt, Int32.le_iff_toInt_le, Int32.reduceToInt, ← Int32.toInt_inj] at h_49
      refine v_bipush hC dX11_refusalOfCloth_22 (v := (-6)) (by decide) ?_
      exact hR _ _ _ _ _ _ _ dX11_refusalOfCloth_24 rfl (Nat.le_of_ble_eq_true rfl) (Nat.le_of_ble_eq_true rfl) ⟨rfl, rfl, (by decide), (.inl (by decide))⟩
    · simp only [Int32.lt_iff_toInt_lt, Int32.le_iff_toInt_le, Int32.reduceToInt, ← Int32.toInt_inj] at h_49
      refine v_iconst hC dX11_refusalOfCloth_18 (v := 0) (by decide) ?_
      refine v_goto hC dX11_refusalOfCloth_19 (tgt := 24) (by decide) ?_
      exact hR _ _ _ _ _ _ _ dX11_refusalOfCloth_24 rfl (Nat.le_of_ble_eq_true rfl) (Nat.le_of_ble_eq_true rfl) ⟨rfl, rfl, (by decide), (.inr (by first | omega | (simp only [Int32.lt_iff_toInt_lt, Int32.le_iff_toInt_le, Int32.reduceToInt, ← Int32.toInt_inj, true_and, and_true, or_true, true_or, false_or, or_false, false_and, and_false, not_true_eq_false, not_false_eq_true] <;> omega)))⟩
  · simp only [Int32.lt_iff_toInt_lt, Int32.le_iff_toInt_le, Int32.reduceToInt, ← Int32.toInt_inj] at h_9
    refine v_bipush hC dX11_refusalOfCloth_7 (v := (-2)) (by decide) ?_
    exact hR _ _ _ _ _ _ _ dX11_refusalOfCloth_9 rfl (Nat.le_of_ble_eq_true rfl) (Nat.le_of_ble_eq_true rfl) ⟨rfl, rfl, (by decide), (.inl (by decide))⟩
set_option maxRecDepth 100000 in
set_option maxHeartbeats 8000000 in
theorem p_X11_says {l : Launch} {E : Ez} {L : List Nat} {f : Nat → va_E} {T : Nat → va_E → Prop} {a_0 : Nat} {a_1 : Int32} (hW : WT T L f) (k_0 : isX T L E a_0) : CI l yX11_says cX11_says 5 .int 6 0 0 E [.ref a_0, .int a_1] L f (fun r L1 f1 => L = L1 ∧ WT T L f1 ∧ FR [2, 8, 151, 356] f f1 ∧ (¬ r.toInt = 0 ∨ (0 ≤ a_1.toInt ∧ a_1.toInt ≤ 3))) := by
  refine ci_of (by decide) (Nat.le_of_ble_eq_true rfl) (fun z hz hnm hC hR => ?_)
  have hC : Cx z E cX11_says RX11 5 6 0 0 := hC
  subst hz
  show V z E 5 0 0 L f 0 [(0, .ref a_0), (1, .int a_1)] []
  refine v_aload_n hC dX11_says_0 rfl ?_
  refine v_iload_n hC dX11_says_1 rfl ?_
  obtain ⟨m_1, q_3, q_4, q_5, q_6, q_7, q_8, q_9, q_10, q_11, q_12, q_13, q_14, q_15, q_16, t_2, k_17, k_18, k_19, k_20, k_21, k_22, k_23, k_24, k_25, k_26, k_27, k_28, k_29, k_30⟩ := id k_0
  have e_31 : f a_0 = ob 11 [.ref q_3, .ref q_4, .ref q_5, .ref q_6, .ref q_7, .ref q_8, .ref q_9, .ref q_10, .ref q_11, .ref q_12, .ref q_13, .ref q_14, .ref q_15, .ref q_16] := hW.at m_1 t_2
  refine v_vi hC (rest := []) m_1 e_31 rfl mi_X11_refusalOfCloth ms_X11_refusalOfCloth (p_X11_refusalOfCloth hW k_0) mx_X11_refusalOfCloth ml_X11_229 (by decide) rfl (cells1 := 0) (slots1 := 0) (by decide) (by decide) (Nat.le_of_ble_eq_true rfl) (Nat.le_of_ble_eq_true rfl) rfl (Nat.le_of_ble_eq_true rfl) dX11_says_2 (fun r_32 L_33 f_34 h_35 => ?_)
  obtain ⟨rfl, rfl, b_36, h_37⟩ := h_35
  refine v_istore_n hC dX11_says_5 (by decide) (lv' := [(2, .int r_32), (0, .ref a_0), (1, .int a_1)]) rfl ?_
  refine v_iload_n hC dX11_says_6 rfl ?_
  refine v_if_eq hC dX11_says_7 (tgt := 12) (by decide) (fun h_40 => ?_) (fun h_40 => ?_)
  · simp only [Int32.lt_iff_toInt_lt, Int32.le_iff_toInt_le, Int32.reduceToInt, ← Int32.toInt_inj] at h_40
    refine v_iconst hC dX11_says_12 (v := 0) (by decide) ?_
    refine v_istore_n hC dX11_says_13 (by decide) (lv' := [(3, .int 0), (2, .int r_32), (0, .ref a_0), (1, .int a_1)]) rfl ?_
    refine v_iconst hC dX11_says_14 (v := 0) (by decide) ?_
    refine v_istore hC dX11_says_15 (by decide) (lv' := [(4, .int 0), (3, .int 0), (2, .int r_32), (0, .ref a_0), (1, .int a_1)]) rfl ?_
    have lp_651 : ∀ (n_652 : Nat) (f_646 : Nat → va_E) (hW_647 : WT T L f_646) (hF_648 : FR [2, 8, 151, 356] f f_646) (i_644 : Int32) (b_650 : (0 ≤ i_644.toInt ∧ i_644.toInt ≤ 6)) (i_645 : Int32) (hm_654 : 6 - i_644.toInt < (n_652 : Int)), V z E 5 0 0 L f_646 17 [(4, .int i_644), (3, .int i_645), (0, .ref a_0), (1, .int a_1)] [] := by
      intro n_652
      induction n_652 with
      | zero =>
        intro f_646 hW_647 hF_648 i_644 b_650 i_645 hm_654
        have hf_649 := hF_648.at e_31 rfl
        exfalso; omega
      | succ n_652 ih_653 =>
        intro f_646 hW_647 hF_648 i_644 b_650 i_645 hm_654
        have hf_649 := hF_648.at e_31 rfl
        refine v_iload hC dX11_says_17 rfl ?_
        refine v_bipush hC dX11_says_19 (v := 6) (by decide) ?_
        refine v_icmp_ge hC dX11_says_21 (tgt := 79) (by decide) (fun h_655 => ?_) (fun h_655 => ?_)
        · simp only [Int32.lt_iff_toInt_lt, Int32.le_iff_toInt_le, Int32.reduceToInt, ← Int32.toInt_inj] at h_655
          refine v_iload_n hC dX11_says_79 rfl ?_
          exact hR _ _ _ _ _ _ _ dX11_says_80 rfl (Nat.le_of_ble_eq_true rfl) (Nat.le_of_ble_eq_true rfl) ⟨rfl, hW_647, (hF_648.mono rfl), (.inr (by first | omega | (simp only [Int32.lt_iff_toInt_lt, Int32.le_iff_toInt_le, Int32.reduceToInt, ← Int32.toInt_inj, true_and, and_true, or_true, true_or, false_or, or_false, false_and, and_false, not_true_eq_false, not_false_eq_true] <;> omega)))⟩
        · simp only [Int32.lt_iff_toInt_lt, Int32.le_iff_toInt_le, Int32.reduceToInt, ← Int32.toInt_inj] at h_655
          refine v_aload_n hC dX11_says_24 rfl ?_
          refine v_get hC fl_X11_19 m_1 hf_649 rfl dX11_says_25 ?_
          obtain ⟨m_656, q_658, q_659, q_660, q_661, q_662, q_663, t_657, k_664, k_665, k_666, k_667, k_668, k_669⟩ := id k_18
          have e_670 : f_646 q_4 = ob 0 [.ref q_658, .ref q_659, .ref q_660, .ref q_661, .ref q_662, .ref q_663] := hW_647.at m_656 t_657
          refine v_getN hC fn_X11_146 m_656 e_670 rfl dX11_says_28 ?_
          refine v_iload hC dX11_says_31 rfl ?_
          obtain ⟨m_671, g_673, t_672, k_674⟩ := id k_666
          have e_675 : f_646 q_660 = aR E 7 6 g_673 := hW_647.at m_671 t_672
          obtain ⟨q_676, h_677, k_678⟩ := k_674 (i_644 : Int32).toNatClampNeg (clamp_lt (vp_in_iff.mpr (by first | omega | (simp only [Int32.lt_iff_toInt_lt, Int32.le_iff_toInt_le, Int32.reduceToInt, ← Int32.toInt_inj, true_and, and_true, or_true, true_or, false_or, or_false, false_and, and_false, not_true_eq_false, not_false_eq_true] <;> omega))))
          refine v_aald hC m_671 e_675 rfl (vp_in_iff.mpr (by first | omega | (simp only [Int32.lt_iff_toInt_lt, Int32.le_iff_toInt_le, Int32.reduceToInt, ← Int32.toInt_inj, true_and, and_true, or_true, true_or, false_or, or_false, false_and, and_false, not_true_eq_false, not_false_eq_true] <;> omega))) (v := .ref q_676) (by rw [h_677]; rfl) dX11_says_33 ?_
          obtain ⟨m_679, t_680⟩ := id k_678
          obtain ⟨v_682, v_684, v_685, v_686, v_688, v_690, v_692, e_681, b_683, b_687, b_689, b_691, b_693⟩ := hW_647.at m_679 t_680
          refine v_getN hC fn_X11_232 m_679 e_681 rfl dX11_says_34 ?_
          refine v_if_eq hC dX11_says_37 (tgt := 73) (by decide) (fun h_694 => ?_) (fun h_694 => ?_)
          · simp only [Int32.lt_iff_toInt_lt, Int32.le_iff_toInt_le, Int32.reduceToInt, ← Int32.toInt_inj] at h_694
            obtain ⟨v_695, h_696⟩ : ∃ v9 : Int32, i_644 + Int32.ofInt 1 = v9 := ⟨_, rfl⟩
            have h_697 := add_v (b := 1) h_696 (by first | omega | (simp only [Int32.lt_iff_toInt_lt, Int32.le_iff_toInt_le, Int32.reduceToInt, ← Int32.toInt_inj, true_and, and_true, or_true, true_or, false_or, or_false, false_and, and_false, not_true_eq_false, not_false_eq_true] <;> omega)) (by first | omega | (simp only [Int32.lt_iff_toInt_lt, Int32.le_iff_toInt_le, Int32.reduceToInt, ← Int32.toInt_inj, true_and, and_true, or_true, true_or, false_or, or_false, false_and, and_false, not_true_eq_false, not_false_eq_true] <;> omega))
            simp only [Int32.reduceToInt] at h_697
            refine v_iinc hC dX11_says_73 (k := 0) rfl (v := v_695) h_696 (by decide) (lv' := [(4, .int v_695), (3, .int i_645), (0, .ref a_0), (1, .int a_1)]) rfl ?_
            refine v_goto hC dX11_says_76 (tgt := 17) (by decide) ?_
            refine v_pick [0, 1, 2, 3] rfl ?_
            exact ih_653 f_646 hW_647 (hF_648.mono rfl) v_695 (by first | omega | (simp only [Int32.lt_iff_toInt_lt, Int32.le_iff_toInt_le, Int32.reduceToInt, ← Int32.toInt_inj, true_and, and_true, or_true, true_or, false_or, or_false, false_and, and_false, not_true_eq_false, not_false_eq_true] <;> omega)) i_645 (by first | omega | (simp only [Int32.lt_iff_toInt_lt, Int32.le_iff_toInt_le, Int32.reduceToInt, ← Int32.toInt_inj, true_and, and_true, or_true, true_or, false_or, or_false, false_and, and_false, not_true_eq_false, not_false_eq_true] <;> omega))
          · simp only [Int32.lt_iff_toInt_lt, Int32.le_iff_toInt_le, Int32.reduceToInt, ← Int32.toInt_inj] at h_694
            refine v_aload_n hC dX11_says_40 rfl ?_
            refine v_aload_n hC dX11_says_41 rfl ?_
            refine v_get hC fl_X11_19 m_1 hf_649 rfl dX11_says_42 ?_
            refine v_getN hC fn_X11_190 m_656 e_670 rfl dX11_says_45 ?_
            refine v_iload_n hC dX11_says_48 rfl ?_
            obtain ⟨m_698, g_700, t_699, k_701⟩ := id k_669
            have e_702 : f_646 q_663 = aR E 5 4 g_700 := hW_647.at m_698 t_699
            obtain ⟨q_703, h_704, k_705⟩ := k_701 (a_1 : Int32).toNatClampNeg (clamp_lt (vp_in_iff.mpr (by first | omega | (simp only [Int32.lt_iff_toInt_lt, Int32.le_iff_toInt_le, Int32.reduceToInt, ← Int32.toInt_inj, true_and, and_true, or_true, true_or, false_or, or_false, false_and, and_false, not_true_eq_false, not_false_eq_true] <;> omega))))
            refine v_aald hC m_698 e_702 rfl (vp_in_iff.mpr (by first | omega | (simp only [Int32.lt_iff_toInt_lt, Int32.le_iff_toInt_le, Int32.reduceToInt, ← Int32.toInt_inj, true_and, and_true, or_true, true_or, false_or, or_false, false_and, and_false, not_true_eq_false, not_false_eq_true] <;> omega))) (v := .ref q_703) (by rw [h_704]; rfl) dX11_says_49 ?_
            refine v_aload_n hC dX11_says_50 rfl ?_
            refine v_get hC fl_X11_19 m_1 hf_649 rfl dX11_says_51 ?_
            refine v_getN hC fn_X11_146 m_656 e_670 rfl dX11_says_54 ?_
            refine v_iload hC dX11_says_57 rfl ?_
            obtain ⟨q_706, h_707, k_708⟩ := k_674 (i_644 : Int32).toNatClampNeg (clamp_lt (vp_in_iff.mpr (by first | omega | (simp only [Int32.lt_iff_toInt_lt, Int32.le_iff_toInt_le, Int32.reduceToInt, ← Int32.toInt_inj, true_and, and_true, or_true, true_or, false_or, or_false, false_and, and_false, not_true_eq_false, not_false_eq_true] <;> omega))))
            refine v_aald hC m_671 e_675 rfl (vp_in_iff.mpr (by first | omega | (simp only [Int32.lt_iff_toInt_lt, Int32.le_iff_toInt_le, Int32.reduceToInt, ← Int32.toInt_inj, true_and, and_true, or_true, true_or, false_or, or_false, false_and, and_false, not_true_eq_false, not_false_eq_true] <;> omega))) (v := .ref q_706) (by rw [h_707]; rfl) dX11_says_59 ?_
            refine v_vi hC (rest := []) m_1 hf_649 rfl mi_X11_saysByWay ms_X11_saysByWay (p_X11_saysByWay hW_647 k_0 k_705 k_708) mx_X11_saysByWay ml_X11_206 (by decide) rfl (cells1 := 0) (slots1 := 0) (by decide) (by decide) (Nat.le_of_ble_eq_true rfl) (Nat.le_of_ble_eq_true rfl) rfl (Nat.le_of_ble_eq_true rfl) dX11_says_60 (fun r_709 L_710 f_711 h_712 => ?_)
            obtain ⟨rfl, hW_714, hF_715, b_713⟩ := h_712
            have hf_716 := hF_715.at hf_649 rfl
            have hf_717 := hF_715.at e_670 rfl
            have hf_718 := hF_715.at e_675 rfl
            have hf_719 := hF_715.at e_681 rfl
            have hf_720 := hF_715.at e_702 rfl
            refine v_if_eq hC dX11_says_63 (tgt := 73) (by decide) (fun h_721 => ?_) (fun h_721 => ?_)
            · simp only [Int32.lt_iff_toInt_lt, Int32.le_iff_toInt_le, Int32.reduceToInt, ← Int32.toInt_inj] at h_721
              obtain ⟨v_722, h_723⟩ : ∃ v9 : Int32, i_644 + Int32.ofInt 1 = v9 := ⟨_, rfl⟩
              have h_724 := add_v (b := 1) h_723 (by first | omega | (simp only [Int32.lt_iff_toInt_lt, Int32.le_iff_toInt_le, Int32.reduceToInt, ← Int32.toInt_inj, true_and, and_true, or_true, true_or, false_or, or_false, false_and, and_false, not_true_eq_false, not_false_eq_true] <;> omega)) (by first | omega | (simp only [Int32.lt_iff_toInt_lt, Int32.le_iff_toInt_le, Int32.reduceToInt, ← Int32.toInt_inj, true_and, and_true, or_true, true_or, false_or, or_false, false_and, and_false, not_true_eq_false, not_false_eq_true] <;> omega))
              simp only [Int32.reduceToInt] at h_724
              refine v_iinc hC dX11_says_73 (k := 0) rfl (v := v_722) h_723 (by decide) (lv' := [(4, .int v_722), (3, .int i_645), (0, .ref a_0), (1, .int a_1)]) rfl ?_
              refine v_goto hC dX11_says_76 (tgt := 17) (by decide) ?_
              refine v_pick [0, 1, 2, 3] rfl ?_
              exact ih_653 f_711 hW_714 ((hF_648.tr hF_715).mono rfl) v_722 (by first | omega | (simp only [Int32.lt_iff_toInt_lt, Int32.le_iff_toInt_le, Int32.reduceToInt, ← Int32.toInt_inj, true_and, and_true, or_true, true_or, false_or, or_false, false_and, and_false, not_true_eq_false, not_false_eq_true] <;> omega)) i_645 (by first | omega | (simp only [Int32.lt_iff_toInt_lt, Int32.le_iff_toInt_le, Int32.reduceToInt, ← Int32.toInt_inj, true_and, and_true, or_true, true_or, false_or, or_false, false_and, and_false, not_true_eq_false, not_false_eq_true] <;> omega))
            · simp only [Int32.lt_iff_toInt_lt, Int32.le_iff_toInt_le, Int32.reduceToInt, ← Int32.toInt_inj] at h_721
              refine v_iload_n hC dX11_says_66 rfl ?_
              refine v_iconst hC dX11_says_67 (v := 1) (by decide) ?_
              refine v_iload hC dX11_says_68 rfl ?_
              obtain ⟨v_725, h_726⟩ : ∃ v9 : Int32, (1 : Int32) <<< (i_644 &&& 31) = v9 := ⟨_, rfl⟩
              refine v_ishl hC dX11_says_70 h_726 ?_
              obtain ⟨v_728, h_729⟩ : ∃ v9 : Int32, i_645 ||| v_725 = v9 := ⟨_, rfl⟩
              refine v_ior hC dX11_says_71 h_729 ?_
              refine v_istore_n hC dX11_says_72 (by decide) (lv' := [(3, .int v_728), (4, .int i_644), (0, .ref a_0), (1, .int a_1)]) rfl ?_
              obtain ⟨v_731, h_732⟩ : ∃ v9 : Int32, i_644 + Int32.ofInt 1 = v9 := ⟨_, rfl⟩
              have h_733 := add_v (b := 1) h_732 (by first | omega | (simp only [Int32.lt_iff_toInt_lt, Int32.le_iff_toInt_le, Int32.reduceToInt, ← Int32.toInt_inj, true_and, and_true, or_true, true_or, false_or, or_false, false_and, and_false, not_true_eq_false, not_false_eq_true] <;> omega)) (by first | omega | (simp only [Int32.lt_iff_toInt_lt, Int32.le_iff_toInt_le, Int32.reduceToInt, ← Int32.toInt_inj, true_and, and_true, or_true, true_or, false_or, or_false, false_and, and_false, not_true_eq_false, not_false_eq_true] <;> omega))
              simp only [Int32.reduceToInt] at h_733
              refine v_iinc hC dX11_says_73 (k := 1) rfl (v := v_731) h_732 (by decide) (lv' := [(4, .int v_731), (3, .int v_728), (0, .ref a_0), (1, .int a_1)]) rfl ?_
              refine v_goto hC dX11_says_76 (tgt := 17) (by decide) ?_
              refine v_pick [0, 1, 2, 3] rfl ?_
              exact ih_653 f_711 hW_714 ((hF_648.tr hF_715).mono rfl) v_731 (by first | omega | (simp only [Int32.lt_iff_toInt_lt, Int32.le_iff_toInt_le, Int32.reduceToInt, ← Int32.toInt_inj, true_and, and_true, or_true, true_or, false_or, or_false, false_and, and_false, not_true_eq_false, not_false_eq_true] <;> omega)) v_728 (by first | omega | (simp only [Int32.lt_iff_toInt_lt, Int32.le_iff_toInt_le, Int32.reduceToInt, ← Int32.toInt_inj, true_and, and_true, or_true, true_or, false_or, or_false, false_and, and_false, not_true_eq_false, not_false_eq_true] <;> omega))
    refine v_pick [0, 1, 3, 4] rfl ?_
    exact lp_651 8 f hW FR.rf 0 (by decide) 0 (by decide)
  · simp only [Int32.lt_iff_toInt_lt, Int32.le_iff_toInt_le, Int32.reduceToInt, ← Int32.toInt_inj] at h_40
    refine v_iload_n hC dX11_says_10 rfl ?_
    exact hR _ _ _ _ _ _ _ dX11_says_11 rfl (Nat.le_of_ble_eq_true rfl) (Nat.le_of_ble_eq_true rfl) ⟨rfl, hW, FR.rf, (by first | omega | (simp only [Int32.lt_iff_toInt_lt, Int32.le_iff_toInt_le, Int32.reduceToInt, ← Int32.toInt_inj, true_and, and_true, or_true, true_or, false_or, or_false, false_and, and_false, not_true_eq_false, not_false_eq_true] <;> omega))⟩
set_option maxRecDepth 100000 in
set_option maxHeartbeats 8000000 in
theorem p_X11_at {l : Launch} {E : Ez} {L : List Nat} {f : Nat → va_E} {T : Nat → va_E → Prop} {a_0 : Nat} {a_1 : Int32} {a_2 : Int32} {a_3 : Int32} (hW : WT T L f) (k_0 : isX T L E a_0) : CI l yX11_at cX11_at 5 .int 2 0 0 E [.ref a_0, .int a_1, .int a_2, .int a_3] L f (fun r L1 f1 => L = L1 ∧ f = f1 ∧ (¬ r.toInt = 0 ∨ (0 ≤ a_1.toInt ∧ a_1.toInt ≤ 3))) := by
  refine ci_of (by decide) (Nat.le_of_ble_eq_true rfl) (fun z hz hnm hC hR => ?_)
  have hC : Cx z E cX11_at RX11 5 2 0 0 := hC
  subst hz
  show V z E 5 0 0 L f 0 [(0, .ref a_0), (1, .int a_1), (2, .int a_2), (3, .int a_3)] []
  refine v_aload_n hC dX11_at_0 rfl ?_
  obtain ⟨m_1, q_3, q_4, q_5, q_6, q_7, q_8, q_9, q_10, q_11, q_12, q_13, q_14, q_15, q_16, t_2, k_17, k_18, k_19, k_20, k_21, k_22, k_23, k_24, k_25, k_26, k_27, k_28, k_29, k_30⟩ := id k_0
  have e_31 : f a_0 = ob 11 [.ref q_3, .ref q_4, .ref q_5, .ref q_6, .ref q_7, .ref q_8, .ref q_9, .ref q_10, .ref q_11, .ref q_12, .ref q_13, .ref q_14, .ref q_15, .ref q_16] := hW.at m_1 t_2
  refine v_get hC fl_X11_19 m_1 e_31 rfl dX11_at_1 ?_
  obtain ⟨m_32, q_34, q_35, q_36, q_37, q_38, q_39, t_33, k_40, k_41, k_42, k_43, k_44, k_45⟩ := id k_18
  have e_46 : f q_4 = ob 0 [.ref q_34, .ref q_35, .ref q_36, .ref q_37, .ref q_38, .ref q_39] := hW.at m_32 t_33
  refine v_getN hC fn_X11_116 m_32 e_46 rfl dX11_at_4 ?_
  refine v_iload_n hC dX11_at_7 rfl ?_
  refine v_iload_n hC dX11_at_8 rfl ?_
  obtain ⟨m_47, q_49, q_50, t_48, k_51, k_52⟩ := id k_40
  obtain ⟨v_54, v_56, v_58, e_53, b_55, b_57, b_59⟩ := hW.at m_47 t_48
  refine v_vi hC (rest := []) m_47 e_53 rfl mi_X4_placeOf ms_X4_placeOf (p_X4_placeOf hW k_40) mx_X4_placeOf ml_X11_236 (by decide) rfl (cells1 := 0) (slots1 := 0) (by decide) (by decide) (Nat.le_of_ble_eq_true rfl) (Nat.le_of_ble_eq_true rfl) rfl (Nat.le_of_ble_eq_true rfl) dX11_at_9 (fun r_60 L_61 f_62 h_63 => ?_)
  obtain ⟨rfl, rfl, b_64, h_65, h_66⟩ := h_63
  refine v_istore hC dX11_at_12 (by decide) (lv' := [(4, .int r_60), (0, .ref a_0), (1, .int a_1), (2, .int a_2), (3, .int a_3)]) rfl ?_
  refine v_aload_n hC dX11_at_14 rfl ?_
  refine v_iload_n hC dX11_at_15 rfl ?_
  refine v_vi hC (rest := []) m_1 e_31 rfl mi_X11_hasCloth ms_X11_hasCloth (p_X11_hasCloth hW k_0) mx_X11_hasCloth ml_X11_239 (by decide) rfl (cells1 := 0) (slots1 := 0) (by decide) (by decide) (Nat.le_of_ble_eq_true rfl) (Nat.le_of_ble_eq_true rfl) rfl (Nat.le_of_ble_eq_true rfl) dX11_at_16 (fun r_69 L_70 f_71 h_72 => ?_)
  obtain ⟨rfl, rfl, b_73, h_74⟩ := h_72
  refine v_if_eq hC dX11_at_19 (tgt := 28) (by decide) (fun h_77 => ?_) (fun h_77 => ?_)
  · simp only [Int32.lt_iff_toInt_lt, Int32.le_iff_toInt_le, Int32.reduceToInt, ← Int32.toInt_inj] at h_77
    refine v_iconst hC dX11_at_28 (v := (-1)) (by decide) ?_
    exact hR _ _ _ _ _ _ _ dX11_at_29 rfl (Nat.le_of_ble_eq_true rfl) (Nat.le_of_ble_eq_true rfl) ⟨rfl, rfl, (.inl (by decide))⟩
  · simp only [Int32.lt_iff_toInt_lt, Int32.le_iff_toInt_le, Int32.reduceToInt, ← Int32.toInt_inj] at h_77
    refine v_iload hC dX11_at_22 rfl ?_
    refine v_iconst hC dX11_at_24 (v := (-1)) (by decide) ?_
    refine v_icmp_ne hC dX11_at_25 (tgt := 30) (by decide) (fun h_78 => ?_) (fun h_78 => ?_)
    · simp only [Int32.lt_iff_toInt_lt, Int32.le_iff_toInt_le, Int32.reduceToInt, ← Int32.toInt_inj] at h_78
      refine v_aload_n hC dX11_at_30 rfl ?_
      refine v_get hC fl_X11_19 m_1 e_31 rfl dX11_at_31 ?_
      refine v_getN hC fn_X11_190 m_32 e_46 rfl dX11_at_34 ?_
      refine v_iload_n hC dX11_at_37 rfl ?_
      obtain ⟨m_79, g_81, t_80, k_82⟩ := id k_45
      have e_83 : f q_39 = aR E 5 4 g_81 := hW.at m_79 t_80
      obtain ⟨q_84, h_85, k_86⟩ := k_82 (a_1 : Int32).toNatClampNeg (clamp_lt (vp_in_iff.mpr (by first | omega | (simp only [Int32.lt_iff_toInt_lt, Int32.le_iff_toInt_le, Int32.reduceToInt, ← Int32.toInt_inj, true_and, and_true, or_true, true_or, false_or, or_false, false_and, and_false, not_true_eq_false, not_false_eq_true] <;> omega))))
      refine v_aald hC m_79 e_83 rfl (vp_in_iff.mpr (by first | omega | (simp only [Int32.lt_iff_toInt_lt, Int32.le_iff_toInt_le, Int32.reduceToInt, ← Int32.toInt_inj, true_and, and_true, or_true, true_or, false_or, or_false, false_and, and_false, not_true_eq_false, not_false_eq_true] <;> omega))) (v := .ref q_84) (by rw [h_85]; rfl) dX11_at_38 ?_
      refine v_iload hC dX11_at_39 rfl ?_
      obtain ⟨m_87, q_89, t_88, k_90⟩ := id k_86
      obtain ⟨v_92, e_91, b_93⟩ := hW.at m_87 t_88
      refine v_vi hC (rest := []) m_87 e_91 rfl mi_X1_stitchAt ms_X1_stitchAt (p_X1_stitchAt hW k_86) mx_X1_stitchAt ml_X11_242 (by decide) rfl (cells1 := 0) (slots1 := 0) (by decide) (by decide) (Nat.le_of_ble_eq_true rfl) (Nat.le_of_ble_eq_true rfl) rfl (Nat.le_of_ble_eq_true rfl) dX11_at_41 (fun r_94 L_95 f_96 h_97 => ?_)
      obtain ⟨rfl, rfl, h_98⟩ := h_97
      exact hR _ _ _ _ _ _ _ dX11_at_44 rfl (Nat.le_of_ble_eq_true rfl) (Nat.le_of_ble_eq_true rfl) ⟨rfl, rfl, (.inr (by first | omega | (simp only [Int32.lt_iff_toInt_lt, Int32.le_iff_toInt_le, Int32.reduceToInt, ← Int32.toInt_inj, true_and, and_true, or_true, true_or, false_or, or_false, false_and, and_false, not_true_eq_false, not_false_eq_true] <;> omega)))⟩
    · simp only [Int32.lt_iff_toInt_lt, Int32.le_iff_toInt_le, Int32.reduceToInt, ← Int32.toInt_inj] at h_78
      refine v_iconst hC dX11_at_28 (v := (-1)) (by decide) ?_
      exact hR _ _ _ _ _ _ _ dX11_at_29 rfl (Nat.le_of_ble_eq_true rfl) (Nat.le_of_ble_eq_true rfl) ⟨rfl, rfl, (.inl (by decide))⟩
set_option maxRecDepth 100000 in
set_option maxHeartbeats 8000000 in
theorem p_X11_sort {l : Launch} {E : Ez} {L : List Nat} {f : Nat → va_E} {T : Nat → va_E → Prop} {a_0 : Nat} {a_1 : Int32} {a_2 : Int32} (hW : WT T L f) (k_0 : isX T L E a_0) : CI l yX11_sort cX11_sort 3 .int 1 0 0 E [.ref a_0, .int a_1, .int a_2] L f (fun r L1 f1 => L = L1 ∧ f = f1) := by
  refine ci_of (by decide) (Nat.le_of_ble_eq_true rfl) (fun z hz hnm hC hR => ?_)
  have hC : Cx z E cX11_sort RX11 3 1 0 0 := hC
  subst hz
  show V z E 3 0 0 L f 0 [(0, .ref a_0), (1, .int a_1), (2, .int a_2)] []
  refine v_aload_n hC dX11_sort_0 rfl ?_
  obtain ⟨m_1, q_3, q_4, q_5, q_6, q_7, q_8, q_9, q_10, q_11, q_12, q_13, q_14, q_15, q_16, t_2, k_17, k_18, k_19, k_20, k_21, k_22, k_23, k_24, k_25, k_26, k_27, k_28, k_29, k_30⟩ := id k_0
  have e_31 : f a_0 = ob 11 [.ref q_3, .ref q_4, .ref q_5, .ref q_6, .ref q_7, .ref q_8, .ref q_9, .ref q_10, .ref q_11, .ref q_12, .ref q_13, .ref q_14, .ref q_15, .ref q_16] := hW.at m_1 t_2
  refine v_get hC fl_X11_19 m_1 e_31 rfl dX11_sort_1 ?_
  obtain ⟨m_32, q_34, q_35, q_36, q_37, q_38, q_39, t_33, k_40, k_41, k_42, k_43, k_44, k_45⟩ := id k_18
  have e_46 : f q_4 = ob 0 [.ref q_34, .ref q_35, .ref q_36, .ref q_37, .ref q_38, .ref q_39] := hW.at m_32 t_33
  refine v_getN hC fn_X11_116 m_32 e_46 rfl dX11_sort_4 ?_
  refine v_aload_n hC dX11_sort_7 rfl ?_
  refine v_get hC fl_X11_19 m_1 e_31 rfl dX11_sort_8 ?_
  refine v_getN hC fn_X11_116 m_32 e_46 rfl dX11_sort_11 ?_
  refine v_iload_n hC dX11_sort_14 rfl ?_
  refine v_iload_n hC dX11_sort_15 rfl ?_
  obtain ⟨m_47, q_49, q_50, t_48, k_51, k_52⟩ := id k_40
  obtain ⟨v_54, v_56, v_58, e_53, b_55, b_57, b_59⟩ := hW.at m_47 t_48
  refine v_vi hC (rest := [.ref q_34]) m_47 e_53 rfl mi_X4_placeOf ms_X4_placeOf (p_X4_placeOf hW k_40) mx_X4_placeOf ml_X11_236 (by decide) rfl (cells1 := 0) (slots1 := 0) (by decide) (by decide) (Nat.le_of_ble_eq_true rfl) (Nat.le_of_ble_eq_true rfl) rfl (Nat.le_of_ble_eq_true rfl) dX11_sort_16 (fun r_60 L_61 f_62 h_63 => ?_)
  obtain ⟨rfl, rfl, b_64, h_65, h_66⟩ := h_63
  refine v_vi hC (rest := []) m_47 e_53 rfl mi_X4_sortAt ms_X4_sortAt (p_X4_sortAt hW k_40) mx_X4_sortAt ml_X11_245 (by decide) rfl (cells1 := 0) (slots1 := 0) (by decide) (by decide) (Nat.le_of_ble_eq_true rfl) (Nat.le_of_ble_eq_true rfl) rfl (Nat.le_of_ble_eq_true rfl) dX11_sort_19 (fun r_69 L_70 f_71 h_72 => ?_)
  obtain ⟨rfl, rfl, h_73⟩ := h_72
  exact hR _ _ _ _ _ _ _ dX11_sort_22 rfl (Nat.le_of_ble_eq_true rfl) (Nat.le_of_ble_eq_true rfl) ⟨rfl, rfl⟩
set_option maxRecDepth 100000 in
set_option maxHeartbeats 8000000 in
theorem p_X11_refusalOfWay {l : Launch} {E : Ez} {L : List Nat} {f : Nat → va_E} {T : Nat → va_E → Prop} {a_0 : Nat} {a_1 : Int32} (hW : WT T L f) (k_0 : isX T L E a_0) : CI l yX11_refusalOfWay cX11_refusalOfWay 2 .int 1 0 0 E [.ref a_0, .int a_1] L f (fun r L1 f1 => L = L1 ∧ f = f1 ∧ ((-6) ≤ r.toInt ∧ r.toInt ≤ 0) ∧ (¬ r.toInt = 0 ∨ (0 ≤ a_1.toInt ∧ a_1.toInt ≤ 5))) := by
  refine ci_of (by decide) (Nat.le_of_ble_eq_true rfl) (fun z hz hnm hC hR => ?_)
  have hC : Cx z E cX11_refusalOfWay RX11 2 1 0 0 := hC
  subst hz
  show V z E 2 0 0 L f 0 [(0, .ref a_0), (1, .int a_1)] []
  refine v_iload_n hC dX11_refusalOfWay_0 rfl ?_
  refine v_si hC (rest := []) mt_X11_isWay (p_X11_isWay hW) mx_X11_isWay ml_X11_142 (by decide) rfl (cells1 := 0) (slots1 := 0) (by decide) (by decide) (Nat.le_of_ble_eq_true rfl) (Nat.le_of_ble_eq_true rfl) rfl (Nat.le_of_ble_eq_true rfl) dX11_refusalOfWay_1 (fun r_1 L_2 f_3 h_4 => ?_)
  obtain ⟨rfl, rfl, b_5, h_6⟩ := h_4
  refine v_if_ne hC dX11_refusalOfWay_4 (tgt := 10) (by decide) (fun h_9 => ?_) (fun h_9 => ?_)
  · simp only [Int32.lt_iff_toInt_lt, Int32.le_iff_toInt_le, Int32.reduceToInt, ← Int32.toInt_inj] at h_9
    refine v_aload_n hC dX11_refusalOfWay_10 rfl ?_
    obtain ⟨m_10, q_12, q_13, q_14, q_15, q_16, q_17, q_18, q_19, q_20, q_21, q_22, q_23, q_24, q_25, t_11, k_26, k_27, k_28, k_29, k_30, k_31, k_32, k_33, k_34, k_35, k_36, k_37, k_38, k_39⟩ := id k_0
    have e_40 : f a_0 = ob 11 [.ref q_12, .ref q_13, .ref q_14, .ref q_15, .ref q_16, .ref q_17, .ref q_18, .ref q_19, .ref q_20, .ref q_21, .ref q_22, .ref q_23, .ref q_24, .ref q_25] := hW.at m_10 t_11
    refine v_get hC fl_X11_19 m_10 e_40 rfl dX11_refusalOfWay_11 ?_
    obtain ⟨m_41, q_43, q_44, q_45, q_46, q_47, q_48, t_42, k_49, k_50, k_51, k_52, k_53, k_54⟩ := id k_27
    have e_55 : f q_13 = ob 0 [.ref q_43, .ref q_44, .ref q_45, .ref q_46, .ref q_47, .ref q_48] := hW.at m_41 t_42
    refine v_getN hC fn_X11_146 m_41 e_55 rfl dX11_refusalOfWay_14 ?_
    refine v_iload_n hC dX11_refusalOfWay_17 rfl ?_
    obtain ⟨m_56, g_58, t_57, k_59⟩ := id k_51
    have e_60 : f q_45 = aR E 7 6 g_58 := hW.at m_56 t_57
    obtain ⟨q_61, h_62, k_63⟩ := k_59 (a_1 : Int32).toNatClampNeg (clamp_lt (vp_in_iff.mpr (by first | omega | (simp only [Int32.lt_iff_toInt_lt, Int32.le_iff_toInt_le, Int32.reduceToInt, ← Int32.toInt_inj, true_and, and_true, or_true, true_or, false_or, or_false, false_and, and_false, not_true_eq_false, not_false_eq_true] <;> omega))))
    refine v_aald hC m_56 e_60 rfl (vp_in_iff.mpr (by first | omega | (simp only [Int32.lt_iff_toInt_lt, Int32.le_iff_toInt_le, Int32.reduceToInt, ← Int32.toInt_inj, true_and, and_true, or_true, true_or, false_or, or_false, false_and, and_false, not_true_eq_false, not_false_eq_true] <;> omega))) (v := .ref q_61) (by rw [h_62]; rfl) dX11_refusalOfWay_18 ?_
    obtain ⟨m_64, t_65⟩ := id k_63
    obtain ⟨v_67, v_69, v_70, v_71, v_73, v_75, v_77, e_66, b_68, b_72, b_74, b_76, b_78⟩ := hW.at m_64 t_65
    refine v_getN hC fn_X11_232 m_64 e_66 rfl dX11_refusalOfWay_19 ?_
    refine v_if_eq hC dX11_refusalOfWay_22 (tgt := 29) (by decide) (fun h_79 => ?_) (fun h_79 => ?_)
    · simp only [Int32.lt_iff_toInt_lt, Int32.le_iff_toInt_le, Int32.reduceToInt, ← Int32.toInt_inj] at h_79
      refine v_bipush hC dX11_refusalOfWay_29 (v := (-6)) (by decide) ?_
      exact hR _ _ _ _ _ _ _ dX11_refusalOfWay_31 rfl (Nat.le_of_ble_eq_true rfl) (Nat.le_of_ble_eq_true rfl) ⟨rfl, rfl, (by decide), (.inl (by decide))⟩
    · simp only [Int32.lt_iff_toInt_lt, Int32.le_iff_toInt_le, Int32.reduceToInt, ← Int32.toInt_inj] at h_79
      refine v_iconst hC dX11_refusalOfWay_25 (v := 0) (by decide) ?_
      refine v_goto hC dX11_refusalOfWay_26 (tgt := 31) (by decide) ?_
      exact hR _ _ _ _ _ _ _ dX11_refusalOfWay_31 rfl (Nat.le_of_ble_eq_true rfl) (Nat.le_of_ble_eq_true rfl) ⟨rfl, rfl, (by decide), (.inr (by first | omega | (simp only [Int32.lt_iff_toInt_lt, Int32.le_iff_toInt_le, Int32.reduceToInt, ← Int32.toInt_inj, true_and, and_true, or_true, true_or, false_or, or_false, false_and, and_false, not_true_eq_false, not_false_eq_true] <;> omega)))⟩
  · simp only [Int32.lt_iff_toInt_lt, Int32.le_iff_toInt_le, Int32.reduceToInt, ← Int32.toInt_inj] at h_9
    refine v_bipush hC dX11_refusalOfWay_7 (v := (-2)) (by decide) ?_
    exact hR _ _ _ _ _ _ _ dX11_refusalOfWay_9 rfl (Nat.le_of_ble_eq_true rfl) (Nat.le_of_ble_eq_true rfl) ⟨rfl, rfl, (by decide), (.inl (by decide))⟩
set_option maxRecDepth 100000 in
set_option maxHeartbeats 8000000 in
theorem p_X11_place {l : Launch} {E : Ez} {L : List Nat} {f : Nat → va_E} {T : Nat → va_E → Prop} {a_0 : Nat} {a_1 : Int32} {a_2 : Int32} (hW : WT T L f) (k_0 : isX T L E a_0) : CI l yX11_place cX11_place 5 .int 2 0 0 E [.ref a_0, .int a_1, .int a_2] L f (fun r L1 f1 => L = L1 ∧ WT T L f1 ∧ FR [8, 356] f f1 ∧ (¬ r.toInt = 0 ∨ (0 ≤ a_1.toInt ∧ a_1.toInt ≤ 5))) := by
  refine ci_of (by decide) (Nat.le_of_ble_eq_true rfl) (fun z hz hnm hC hR => ?_)
  have hC : Cx z E cX11_place RX11 5 2 0 0 := hC
  subst hz
  show V z E 5 0 0 L f 0 [(0, .ref a_0), (1, .int a_1), (2, .int a_2)] []
  refine v_aload_n hC dX11_place_0 rfl ?_
  refine v_iload_n hC dX11_place_1 rfl ?_
  obtain ⟨m_1, q_3, q_4, q_5, q_6, q_7, q_8, q_9, q_10, q_11, q_12, q_13, q_14, q_15, q_16, t_2, k_17, k_18, k_19, k_20, k_21, k_22, k_23, k_24, k_25, k_26, k_27, k_28, k_29, k_30⟩ := id k_0
  have e_31 : f a_0 = ob 11 [.ref q_3, .ref q_4, .ref q_5, .ref q_6, .ref q_7, .ref q_8, .ref q_9, .ref q_10, .ref q_11, .ref q_12, .ref q_13, .ref q_14, .ref q_15, .ref q_16] := hW.at m_1 t_2
  refine v_vi hC (rest := []) m_1 e_31 rfl mi_X11_refusalOfWay ms_X11_refusalOfWay (p_X11_refusalOfWay hW k_0) mx_X11_refusalOfWay ml_X11_248 (by decide) rfl (cells1 := 0) (slots1 := 0) (by decide) (by decide) (Nat.le_of_ble_eq_true rfl) (Nat.le_of_ble_eq_true rfl) rfl (Nat.le_of_ble_eq_true rfl) dX11_place_2 (fun r_32 L_33 f_34 h_35 => ?_)
  obtain ⟨rfl, rfl, b_36, h_37⟩ := h_35
  refine v_istore_n hC dX11_place_5 (by decide) (lv' := [(3, .int r_32), (0, .ref a_0), (1, .int a_1), (2, .int a_2)]) rfl ?_
  refine v_iload_n hC dX11_place_6 rfl ?_
  refine v_if_eq hC dX11_place_7 (tgt := 12) (by decide) (fun h_40 => ?_) (fun h_40 => ?_)
  · simp only [Int32.lt_iff_toInt_lt, Int32.le_iff_toInt_le, Int32.reduceToInt, ← Int32.toInt_inj] at h_40
    refine v_aload_n hC dX11_place_12 rfl ?_
    refine v_get hC fl_X11_78 m_1 e_31 rfl dX11_place_13 ?_
    refine v_aload_n hC dX11_place_16 rfl ?_
    refine v_get hC fl_X11_19 m_1 e_31 rfl dX11_place_17 ?_
    obtain ⟨m_41, q_43, q_44, q_45, q_46, q_47, q_48, t_42, k_49, k_50, k_51, k_52, k_53, k_54⟩ := id k_18
    have e_55 : f q_4 = ob 0 [.ref q_43, .ref q_44, .ref q_45, .ref q_46, .ref q_47, .ref q_48] := hW.at m_41 t_42
    refine v_getN hC fn_X11_146 m_41 e_55 rfl dX11_place_20 ?_
    refine v_iload_n hC dX11_place_23 rfl ?_
    obtain ⟨m_56, g_58, t_57, k_59⟩ := id k_51
    have e_60 : f q_45 = aR E 7 6 g_58 := hW.at m_56 t_57
    obtain ⟨q_61, h_62, k_63⟩ := k_59 (a_1 : Int32).toNatClampNeg (clamp_lt (vp_in_iff.mpr (by first | omega | (simp only [Int32.lt_iff_toInt_lt, Int32.le_iff_toInt_le, Int32.reduceToInt, ← Int32.toInt_inj, true_and, and_true, or_true, true_or, false_or, or_false, false_and, and_false, not_true_eq_false, not_false_eq_true] <;> omega))))
    refine v_aald hC m_56 e_60 rfl (vp_in_iff.mpr (by first | omega | (simp only [Int32.lt_iff_toInt_lt, Int32.le_iff_toInt_le, Int32.reduceToInt, ← Int32.toInt_inj, true_and, and_true, or_true, true_or, false_or, or_false, false_and, and_false, not_true_eq_false, not_false_eq_true] <;> omega))) (v := .ref q_61) (by rw [h_62]; rfl) dX11_place_24 ?_
    refine v_aload_n hC dX11_place_25 rfl ?_
    refine v_get hC fl_X11_19 m_1 e_31 rfl dX11_place_26 ?_
    refine v_getN hC fn_X11_116 m_41 e_55 rfl dX11_place_29 ?_
    obtain ⟨m_64, q_66, t_65, k_67⟩ := id k_28
    obtain ⟨v_69, v_71, v_73, v_75, e_68, b_70, b_72, b_74, b_76⟩ := hW.at m_64 t_65
    refine v_vv hC (rest := []) m_64 e_68 rfl mi_X8_follow ms_X8_follow (p_X8_follow hW k_28 k_63 k_49) mx_X8_follow ml_X11_218 (by decide) rfl (cells1 := 0) (slots1 := 0) (by decide) (by decide) (Nat.le_of_ble_eq_true rfl) (Nat.le_of_ble_eq_true rfl) rfl (Nat.le_of_ble_eq_true rfl) dX11_place_32 (fun L_78 f_79 h_80 => ?_)
    obtain ⟨rfl, hW_81, hF_82⟩ := h_80
    have hf_83 := hF_82.at e_31 rfl
    have hf_84 := hF_82.at e_55 rfl
    have hf_85 := hF_82.at e_60 rfl
    refine v_aload_n hC dX11_place_35 rfl ?_
    refine v_get hC fl_X11_78 m_1 hf_83 rfl dX11_place_36 ?_
    refine v_iload_n hC dX11_place_39 rfl ?_
    obtain ⟨v_87, v_89, v_91, v_93, e_86, b_88, b_90, b_92, b_94⟩ := hW_81.at m_64 t_65
    refine v_vi hC (rest := []) m_64 e_86 rfl mi_X8_placeAt ms_X8_placeAt (p_X8_placeAt hW_81 k_28) mx_X8_placeAt ml_X11_251 (by decide) rfl (cells1 := 0) (slots1 := 0) (by decide) (by decide) (Nat.le_of_ble_eq_true rfl) (Nat.le_of_ble_eq_true rfl) rfl (Nat.le_of_ble_eq_true rfl) dX11_place_40 (fun r_95 L_96 f_97 h_98 => ?_)
    obtain ⟨rfl, rfl, h_99⟩ := h_98
    refine v_istore hC dX11_place_43 (by decide) (lv' := [(4, .int r_95), (3, .int r_32), (0, .ref a_0), (1, .int a_1), (2, .int a_2)]) rfl ?_
    refine v_iload hC dX11_place_45 rfl ?_
    refine v_iconst hC dX11_place_47 (v := (-1)) (by decide) ?_
    refine v_icmp_ne hC dX11_place_48 (tgt := 53) (by decide) (fun h_102 => ?_) (fun h_102 => ?_)
    · simp only [Int32.lt_iff_toInt_lt, Int32.le_iff_toInt_le, Int32.reduceToInt, ← Int32.toInt_inj] at h_102
      refine v_bipush hC dX11_place_53 (v := 100) (by decide) ?_
      refine v_aload_n hC dX11_place_55 rfl ?_
      refine v_get hC fl_X11_19 m_1 hf_83 rfl dX11_place_56 ?_
      refine v_getN hC fn_X11_116 m_41 hf_84 rfl dX11_place_59 ?_
      refine v_iload hC dX11_place_62 rfl ?_
      obtain ⟨m_103, q_105, q_106, t_104, k_107, k_108⟩ := id k_49
      obtain ⟨v_110, v_112, v_114, e_109, b_111, b_113, b_115⟩ := hW_81.at m_103 t_104
      refine v_vi hC (rest := [.int 100]) m_103 e_109 rfl mi_X4_rowOf ms_X4_rowOf (p_X4_rowOf hW_81 k_49) mx_X4_rowOf ml_X11_254 (by decide) rfl (cells1 := 0) (slots1 := 0) (by decide) (by decide) (Nat.le_of_ble_eq_true rfl) (Nat.le_of_ble_eq_true rfl) rfl (Nat.le_of_ble_eq_true rfl) dX11_place_64 (fun r_116 L_117 f_118 h_119 => ?_)
      obtain ⟨rfl, rfl⟩ := h_119
      obtain ⟨v_122, h_123⟩ : ∃ v9 : Int32, (100 : Int32) * r_116 = v9 := ⟨_, rfl⟩
      refine v_imul hC dX11_place_67 h_123 ?_
      refine v_aload_n hC dX11_place_68 rfl ?_
      refine v_get hC fl_X11_19 m_1 hf_83 rfl dX11_place_69 ?_
      refine v_getN hC fn_X11_116 m_41 hf_84 rfl dX11_place_72 ?_
      refine v_iload hC dX11_place_75 rfl ?_
      refine v_vi hC (rest := [.int v_122]) m_103 e_109 rfl mi_X4_columnOf ms_X4_columnOf (p_X4_columnOf hW_81 k_49) mx_X4_columnOf ml_X11_257 (by decide) rfl (cells1 := 0) (slots1 := 0) (by decide) (by decide) (Nat.le_of_ble_eq_true rfl) (Nat.le_of_ble_eq_true rfl) rfl (Nat.le_of_ble_eq_true rfl) dX11_place_77 (fun r_125 L_126 f_127 h_128 => ?_)
      obtain ⟨rfl, rfl⟩ := h_128
      obtain ⟨v_131, h_132⟩ : ∃ v9 : Int32, v_122 + r_125 = v9 := ⟨_, rfl⟩
      refine v_iadd hC dX11_place_80 h_132 ?_
      exact hR _ _ _ _ _ _ _ dX11_place_81 rfl (Nat.le_of_ble_eq_true rfl) (Nat.le_of_ble_eq_true rfl) ⟨rfl, hW_81, (hF_82.mono rfl), (.inr (by first | omega | (simp only [Int32.lt_iff_toInt_lt, Int32.le_iff_toInt_le, Int32.reduceToInt, ← Int32.toInt_inj, true_and, and_true, or_true, true_or, false_or, or_false, false_and, and_false, not_true_eq_false, not_false_eq_true] <;> omega)))⟩
    · simp only [Int32.lt_iff_toInt_lt, Int32.le_iff_toInt_le, Int32.reduceToInt, ← Int32.toInt_inj] at h_102
      refine v_iconst hC dX11_place_51 (v := (-1)) (by decide) ?_
      exact hR _ _ _ _ _ _ _ dX11_place_52 rfl (Nat.le_of_ble_eq_true rfl) (Nat.le_of_ble_eq_true rfl) ⟨rfl, hW_81, (hF_82.mono rfl), (.inl (by decide))⟩
  · simp only [Int32.lt_iff_toInt_lt, Int32.le_iff_toInt_le, Int32.reduceToInt, ← Int32.toInt_inj] at h_40
    refine v_iload_n hC dX11_place_10 rfl ?_
    exact hR _ _ _ _ _ _ _ dX11_place_11 rfl (Nat.le_of_ble_eq_true rfl) (Nat.le_of_ble_eq_true rfl) ⟨rfl, hW, FR.rf, (by first | omega | (simp only [Int32.lt_iff_toInt_lt, Int32.le_iff_toInt_le, Int32.reduceToInt, ← Int32.toInt_inj, true_and, and_true, or_true, true_or, false_or, or_false, false_and, and_false, not_true_eq_false, not_false_eq_true] <;> omega))⟩
set_option maxRecDepth 100000 in
set_option maxHeartbeats 8000000 in
theorem p_X11_room {l : Launch} {E : Ez} {L : List Nat} {f : Nat → va_E} {T : Nat → va_E → Prop} {a_0 : Nat} {a_1 : Int32} (hW : WT T L f) (k_0 : isX T L E a_0) : CI l yX11_room cX11_room 3 .int 3 0 0 E [.ref a_0, .int a_1] L f (fun r L1 f1 => L = L1 ∧ WT T L f1 ∧ FR [8, 356] f f1 ∧ ((-6) ≤ r.toInt ∧ r.toInt ≤ 256) ∧ (¬ r.toInt = 0 ∨ (0 ≤ a_1.toInt ∧ a_1.toInt ≤ 5))) := by
  refine ci_of (by decide) (Nat.le_of_ble_eq_true rfl) (fun z hz hnm hC hR => ?_)
  have hC : Cx z E cX11_room RX11 3 3 0 0 := hC
  subst hz
  show V z E 3 0 0 L f 0 [(0, .ref a_0), (1, .int a_1)] []
  refine v_aload_n hC dX11_room_0 rfl ?_
  refine v_iload_n hC dX11_room_1 rfl ?_
  obtain ⟨m_1, q_3, q_4, q_5, q_6, q_7, q_8, q_9, q_10, q_11, q_12, q_13, q_14, q_15, q_16, t_2, k_17, k_18, k_19, k_20, k_21, k_22, k_23, k_24, k_25, k_26, k_27, k_28, k_29, k_30⟩ := id k_0
  have e_31 : f a_0 = ob 11 [.ref q_3, .ref q_4, .ref q_5, .ref q_6, .ref q_7, .ref q_8, .ref q_9, .ref q_10, .ref q_11, .ref q_12, .ref q_13, .ref q_14, .ref q_15, .ref q_16] := hW.at m_1 t_2
  refine v_vi hC (rest := []) m_1 e_31 rfl mi_X11_refusalOfWay ms_X11_refusalOfWay (p_X11_refusalOfWay hW k_0) mx_X11_refusalOfWay ml_X11_248 (by decide) rfl (cells1 := 0) (slots1 := 0) (by decide) (by decide) (Nat.le_of_ble_eq_true rfl) (Nat.le_of_ble_eq_true rfl) rfl (Nat.le_of_ble_eq_true rfl) dX11_room_2 (fun r_32 L_33 f_34 h_35 => ?_)
  obtain ⟨rfl, rfl, b_36, h_37⟩ := h_35
  refine v_istore_n hC dX11_room_5 (by decide) (lv' := [(2, .int r_32), (0, .ref a_0), (1, .int a_1)]) rfl ?_
  refine v_iload_n hC dX11_room_6 rfl ?_
  refine v_if_eq hC dX11_room_7 (tgt := 14) (by decide) (fun h_40 => ?_) (fun h_40 => ?_)
  · simp only [Int32.lt_iff_toInt_lt, Int32.le_iff_toInt_le, Int32.reduceToInt, ← Int32.toInt_inj] at h_40
    refine v_aload_n hC dX11_room_14 rfl ?_
    refine v_aload_n hC dX11_room_15 rfl ?_
    refine v_get hC fl_X11_19 m_1 e_31 rfl dX11_room_16 ?_
    obtain ⟨m_41, q_43, q_44, q_45, q_46, q_47, q_48, t_42, k_49, k_50, k_51, k_52, k_53, k_54⟩ := id k_18
    have e_55 : f q_4 = ob 0 [.ref q_43, .ref q_44, .ref q_45, .ref q_46, .ref q_47, .ref q_48] := hW.at m_41 t_42
    refine v_getN hC fn_X11_146 m_41 e_55 rfl dX11_room_19 ?_
    refine v_iload_n hC dX11_room_22 rfl ?_
    obtain ⟨m_56, g_58, t_57, k_59⟩ := id k_51
    have e_60 : f q_45 = aR E 7 6 g_58 := hW.at m_56 t_57
    obtain ⟨q_61, h_62, k_63⟩ := k_59 (a_1 : Int32).toNatClampNeg (clamp_lt (vp_in_iff.mpr (by first | omega | (simp only [Int32.lt_iff_toInt_lt, Int32.le_iff_toInt_le, Int32.reduceToInt, ← Int32.toInt_inj, true_and, and_true, or_true, true_or, false_or, or_false, false_and, and_false, not_true_eq_false, not_false_eq_true] <;> omega))))
    refine v_aald hC m_56 e_60 rfl (vp_in_iff.mpr (by first | omega | (simp only [Int32.lt_iff_toInt_lt, Int32.le_iff_toInt_le, Int32.reduceToInt, ← Int32.toInt_inj, true_and, and_true, or_true, true_or, false_or, or_false, false_and, and_false, not_true_eq_false, not_false_eq_true] <;> omega))) (v := .ref q_61) (by rw [h_62]; rfl) dX11_room_23 ?_
    refine v_vi hC (rest := []) m_1 e_31 rfl mi_X11_bitsOf ms_X11_bitsOf (p_X11_bitsOf hW k_0 k_63) mx_X11_bitsOf ml_X11_153 (by decide) rfl (cells1 := 0) (slots1 := 0) (by decide) (by decide) (Nat.le_of_ble_eq_true rfl) (Nat.le_of_ble_eq_true rfl) rfl (Nat.le_of_ble_eq_true rfl) dX11_room_24 (fun r_64 L_65 f_66 h_67 => ?_)
    obtain ⟨rfl, hW_69, hF_70, b_68⟩ := h_67
    have hf_71 := hF_70.at e_31 rfl
    have hf_72 := hF_70.at e_55 rfl
    have hf_73 := hF_70.at e_60 rfl
    exact hR _ _ _ _ _ _ _ dX11_room_27 rfl (Nat.le_of_ble_eq_true rfl) (Nat.le_of_ble_eq_true rfl) ⟨rfl, hW_69, (hF_70.mono rfl), (by first | omega | (simp only [Int32.lt_iff_toInt_lt, Int32.le_iff_toInt_le, Int32.reduceToInt, ← Int32.toInt_inj, true_and, and_true, or_true, true_or, false_or, or_false, false_and, and_false, not_true_eq_false, not_false_eq_true] <;> omega)), (.inr (by first | omega | (simp only [Int32.lt_iff_toInt_lt, Int32.le_iff_toInt_le, Int32.reduceToInt, ← Int32.toInt_inj, true_and, and_true, or_true, true_or, false_or, or_false, false_and, and_false, not_true_eq_false, not_false_eq_true] <;> omega)))⟩
  · simp only [Int32.lt_iff_toInt_lt, Int32.le_iff_toInt_le, Int32.reduceToInt, ← Int32.toInt_inj] at h_40
    refine v_iload_n hC dX11_room_10 rfl ?_
    refine v_goto hC dX11_room_11 (tgt := 27) (by decide) ?_
    exact hR _ _ _ _ _ _ _ dX11_room_27 rfl (Nat.le_of_ble_eq_true rfl) (Nat.le_of_ble_eq_true rfl) ⟨rfl, hW, FR.rf, (by first | omega | (simp only [Int32.lt_iff_toInt_lt, Int32.le_iff_toInt_le, Int32.reduceToInt, ← Int32.toInt_inj, true_and, and_true, or_true, true_or, false_or, or_false, false_and, and_false, not_true_eq_false, not_false_eq_true] <;> omega)), (by first | omega | (simp only [Int32.lt_iff_toInt_lt, Int32.le_iff_toInt_le, Int32.reduceToInt, ← Int32.toInt_inj, true_and, and_true, or_true, true_or, false_or, or_false, false_and, and_false, not_true_eq_false, not_false_eq_true] <;> omega))⟩
set_option maxRecDepth 100000 in
set_option maxHeartbeats 8000000 in
theorem p_X11_most {l : Launch} {E : Ez} {L : List Nat} {f : Nat → va_E} {T : Nat → va_E → Prop} {a_0 : Nat} {a_1 : Int32} (hW : WT T L f) (k_0 : isX T L E a_0) : CI l yX11_most cX11_most 3 .int 3 0 0 E [.ref a_0, .int a_1] L f (fun r L1 f1 => L = L1 ∧ WT T L f1 ∧ FR [8, 356] f f1 ∧ ((-6) ≤ r.toInt ∧ r.toInt ≤ 50) ∧ (¬ r.toInt = 0 ∨ (0 ≤ a_1.toInt ∧ a_1.toInt ≤ 5))) := by
  refine ci_of (by decide) (Nat.le_of_ble_eq_true rfl) (fun z hz hnm hC hR => ?_)
  have hC : Cx z E cX11_most RX11 3 3 0 0 := hC
  subst hz
  show V z E 3 0 0 L f 0 [(0, .ref a_0), (1, .int a_1)] []
  refine v_aload_n hC dX11_most_0 rfl ?_
  refine v_iload_n hC dX11_most_1 rfl ?_
  obtain ⟨m_1, q_3, q_4, q_5, q_6, q_7, q_8, q_9, q_10, q_11, q_12, q_13, q_14, q_15, q_16, t_2, k_17, k_18, k_19, k_20, k_21, k_22, k_23, k_24, k_25, k_26, k_27, k_28, k_29, k_30⟩ := id k_0
  have e_31 : f a_0 = ob 11 [.ref q_3, .ref q_4, .ref q_5, .ref q_6, .ref q_7, .ref q_8, .ref q_9, .ref q_10, .ref q_11, .ref q_12, .ref q_13, .ref q_14, .ref q_15, .ref q_16] := hW.at m_1 t_2
  refine v_vi hC (rest := []) m_1 e_31 rfl mi_X11_refusalOfWay ms_X11_refusalOfWay (p_X11_refusalOfWay hW k_0) mx_X11_refusalOfWay ml_X11_248 (by decide) rfl (cells1 := 0) (slots1 := 0) (by decide) (by decide) (Nat.le_of_ble_eq_true rfl) (Nat.le_of_ble_eq_true rfl) rfl (Nat.le_of_ble_eq_true rfl) dX11_most_2 (fun r_32 L_33 f_34 h_35 => ?_)
  obtain ⟨rfl, rfl, b_36, h_37⟩ := h_35
  refine v_istore_n hC dX11_most_5 (by decide) (lv' := [(2, .int r_32), (0, .ref a_0), (1, .int a_1)]) rfl ?_
  refine v_iload_n hC dX11_most_6 rfl ?_
  refine v_if_eq hC dX11_most_7 (tgt := 14) (by decide) (fun h_40 => ?_) (fun h_40 => ?_)
  · simp only [Int32.lt_iff_toInt_lt, Int32.le_iff_toInt_le, Int32.reduceToInt, ← Int32.toInt_inj] at h_40
    refine v_iconst hC dX11_most_14 (v := 0) (by decide) ?_
    refine v_aload_n hC dX11_most_15 rfl ?_
    refine v_aload_n hC dX11_most_16 rfl ?_
    refine v_get hC fl_X11_19 m_1 e_31 rfl dX11_most_17 ?_
    obtain ⟨m_41, q_43, q_44, q_45, q_46, q_47, q_48, t_42, k_49, k_50, k_51, k_52, k_53, k_54⟩ := id k_18
    have e_55 : f q_4 = ob 0 [.ref q_43, .ref q_44, .ref q_45, .ref q_46, .ref q_47, .ref q_48] := hW.at m_41 t_42
    refine v_getN hC fn_X11_146 m_41 e_55 rfl dX11_most_20 ?_
    refine v_iload_n hC dX11_most_23 rfl ?_
    obtain ⟨m_56, g_58, t_57, k_59⟩ := id k_51
    have e_60 : f q_45 = aR E 7 6 g_58 := hW.at m_56 t_57
    obtain ⟨q_61, h_62, k_63⟩ := k_59 (a_1 : Int32).toNatClampNeg (clamp_lt (vp_in_iff.mpr (by first | omega | (simp only [Int32.lt_iff_toInt_lt, Int32.le_iff_toInt_le, Int32.reduceToInt, ← Int32.toInt_inj, true_and, and_true, or_true, true_or, false_or, or_false, false_and, and_false, not_true_eq_false, not_false_eq_true] <;> omega))))
    refine v_aald hC m_56 e_60 rfl (vp_in_iff.mpr (by first | omega | (simp only [Int32.lt_iff_toInt_lt, Int32.le_iff_toInt_le, Int32.reduceToInt, ← Int32.toInt_inj, true_and, and_true, or_true, true_or, false_or, or_false, false_and, and_false, not_true_eq_false, not_false_eq_true] <;> omega))) (v := .ref q_61) (by rw [h_62]; rfl) dX11_most_24 ?_
    refine v_vi hC (rest := [.int 0]) m_1 e_31 rfl mi_X11_bitsOf ms_X11_bitsOf (p_X11_bitsOf hW k_0 k_63) mx_X11_bitsOf ml_X11_153 (by decide) rfl (cells1 := 0) (slots1 := 0) (by decide) (by decide) (Nat.le_of_ble_eq_true rfl) (Nat.le_of_ble_eq_true rfl) rfl (Nat.le_of_ble_eq_true rfl) dX11_most_25 (fun r_64 L_65 f_66 h_67 => ?_)
    obtain ⟨rfl, hW_69, hF_70, b_68⟩ := h_67
    have hf_71 := hF_70.at e_31 rfl
    have hf_72 := hF_70.at e_55 rfl
    have hf_73 := hF_70.at e_60 rfl
    refine v_iconst hC dX11_most_28 (v := 5) (by decide) ?_
    obtain ⟨v_74, h_75⟩ : ∃ v9 : Int32, r_64 / 5 = v9 := ⟨_, rfl⟩
    refine v_idiv hC dX11_most_29 (by decide) h_75 ?_
    have h_76 := div_v h_75 (by first | omega | (simp only [Int32.lt_iff_toInt_lt, Int32.le_iff_toInt_le, Int32.reduceToInt, ← Int32.toInt_inj, true_and, and_true, or_true, true_or, false_or, or_false, false_and, and_false, not_true_eq_false, not_false_eq_true] <;> omega)) (by decide)
    try simp only [Int32.reduceToInt] at h_76
    refine v_iconst hC dX11_most_30 (v := 1) (by decide) ?_
    obtain ⟨v_77, h_78⟩ : ∃ v9 : Int32, v_74 - 1 = v9 := ⟨_, rfl⟩
    refine v_isub hC dX11_most_31 h_78 ?_
    have h_79 := sub_v h_78 (by first | omega | (simp only [Int32.lt_iff_toInt_lt, Int32.le_iff_toInt_le, Int32.reduceToInt, ← Int32.toInt_inj, true_and, and_true, or_true, true_or, false_or, or_false, false_and, and_false, not_true_eq_false, not_false_eq_true] <;> omega)) (by first | omega | (simp only [Int32.lt_iff_toInt_lt, Int32.le_iff_toInt_le, Int32.reduceToInt, ← Int32.toInt_inj, true_and, and_true, or_true, true_or, false_or, or_false, false_and, and_false, not_true_eq_false, not_false_eq_true] <;> omega))
    try simp only [Int32.reduceToInt] at h_79
    obtain ⟨v_80, h_81⟩ : ∃ v9 : Int32, (if (0 : Int32) < v_77 then v_77 else (0 : Int32)) = v9 := ⟨_, rfl⟩
    refine v_mmax hC mm_X11_260 mm_smax mm_i mm_cmax (by decide) (Nat.le_of_ble_eq_true rfl) (Nat.le_of_ble_eq_true rfl) (Nat.le_of_ble_eq_true rfl) h_81 dX11_most_32 ?_
    have b_82 := max_v h_81
    try simp only [Int32.reduceToInt] at b_82
    exact hR _ _ _ _ _ _ _ dX11_most_35 rfl (Nat.le_of_ble_eq_true rfl) (Nat.le_of_ble_eq_true rfl) ⟨rfl, hW_69, (hF_70.mono rfl), (by first | omega | (simp only [Int32.lt_iff_toInt_lt, Int32.le_iff_toInt_le, Int32.reduceToInt, ← Int32.toInt_inj, true_and, and_true, or_true, true_or, false_or, or_false, false_and, and_false, not_true_eq_false, not_false_eq_true] <;> omega)), (.inr (by first | omega | (simp only [Int32.lt_iff_toInt_lt, Int32.le_iff_toInt_le, Int32.reduceToInt, ← Int32.toInt_inj, true_and, and_true, or_true, true_or, false_or, or_false, false_and, and_false, not_true_eq_false, not_false_eq_true] <;> omega)))⟩
  · simp only [Int32.lt_iff_toInt_lt, Int32.le_iff_toInt_le, Int32.reduceToInt, ← Int32.toInt_inj] at h_40
    refine v_iload_n hC dX11_most_10 rfl ?_
    refine v_goto hC dX11_most_11 (tgt := 35) (by decide) ?_
    exact hR _ _ _ _ _ _ _ dX11_most_35 rfl (Nat.le_of_ble_eq_true rfl) (Nat.le_of_ble_eq_true rfl) ⟨rfl, hW, FR.rf, (by first | omega | (simp only [Int32.lt_iff_toInt_lt, Int32.le_iff_toInt_le, Int32.reduceToInt, ← Int32.toInt_inj, true_and, and_true, or_true, true_or, false_or, or_false, false_and, and_false, not_true_eq_false, not_false_eq_true] <;> omega)), (by first | omega | (simp only [Int32.lt_iff_toInt_lt, Int32.le_iff_toInt_le, Int32.reduceToInt, ← Int32.toInt_inj, true_and, and_true, or_true, true_or, false_or, or_false, false_and, and_false, not_true_eq_false, not_false_eq_true] <;> omega))⟩
