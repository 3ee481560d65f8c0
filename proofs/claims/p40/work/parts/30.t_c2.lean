set_option maxRecDepth 100000 in
set_option maxHeartbeats 8000000 in
theorem p_X10_takeGuard {l : Launch} {E : Ez} {L : List Nat} {f : Nat → va_E} {T : Nat → va_E → Prop} {a_0 : Nat} (hW : WT T L f) (k_0 : isTape T L E a_0) : CI l yX10_takeGuard cX10_takeGuard 1 .int 3 0 0 E [.ref a_0] L f (fun r L1 f1 => L = L1 ∧ WT T L f1 ∧ FR [7] f f1 ∧ (1 ≤ r.toInt ∧ r.toInt ≤ 5)) := by
  refine ci_of (by decide) (Nat.le_of_ble_eq_true rfl) (fun z hz hnm hC hR => ?_)
  have hC : Cx z E cX10_takeGuard RX10 1 3 0 0 := hC
  subst hz
  show V z E 1 0 0 L f 0 [(0, .ref a_0)] []
  refine v_aload_n hC dX10_takeGuard_0 rfl ?_
  obtain ⟨m_1, q_3, t_2, k_4⟩ := id k_0
  obtain ⟨v_6, v_8, v_9, v_11, v_13, v_14, e_5, b_7, b_10, b_12⟩ := hW.at m_1 t_2
  refine v_vi hC (rest := []) m_1 e_5 rfl mi_X7_isEvenNumber ms_X7_isEvenNumber (p_X7_isEvenNumber hW k_0) mx_X7_isEvenNumber ml_X10_100 (by decide) rfl (cells1 := 0) (slots1 := 0) (by decide) (by decide) (Nat.le_of_ble_eq_true rfl) (Nat.le_of_ble_eq_true rfl) rfl (Nat.le_of_ble_eq_true rfl) dX10_takeGuard_1 (fun r_15 L_16 f_17 h_18 => ?_)
  obtain ⟨rfl, rfl, b_19⟩ := h_18
  refine v_if_eq hC dX10_takeGuard_4 (tgt := 12) (by decide) (fun h_22 => ?_) (fun h_22 => ?_)
  · simp only [Int32.lt_iff_toInt_lt, Int32.le_iff_toInt_le, Int32.reduceToInt, ← Int32.toInt_inj] at h_22
    refine v_aload_n hC dX10_takeGuard_12 rfl ?_
    refine v_iconst hC dX10_takeGuard_13 (v := 1) (by decide) ?_
    refine v_iconst hC dX10_takeGuard_14 (v := 5) (by decide) ?_
    refine v_vi hC (rest := []) m_1 e_5 rfl mi_X7_takeNumber ms_X7_takeNumber (p_X7_takeNumber hW k_0) mx_X7_takeNumber ml_X10_56 (by decide) rfl (cells1 := 0) (slots1 := 0) (by decide) (by decide) (Nat.le_of_ble_eq_true rfl) (Nat.le_of_ble_eq_true rfl) rfl (Nat.le_of_ble_eq_true rfl) dX10_takeGuard_15 (fun r_23 L_24 f_25 h_26 => ?_)
    obtain ⟨rfl, hW_28, hF_29, x_27⟩ := h_26
    try simp only [Int32.reduceToInt, Int64.reduceToInt] at x_27
    exact hR _ _ _ _ _ _ _ dX10_takeGuard_18 rfl (Nat.le_of_ble_eq_true rfl) (Nat.le_of_ble_eq_true rfl) ⟨rfl, hW_28, (hF_29.mono rfl), (by first | omega | (simp only [Int32.lt_iff_toInt_lt, Int32.le_iff_toInt_le, Int32.reduceToInt, ← Int32.toInt_inj, true_and, and_true, or_true, true_or, false_or, or_false, false_and, and_false, not_true_eq_false, not_false_eq_true] <;> omega))⟩
  · simp only [Int32.lt_iff_toInt_lt, Int32.le_iff_toInt_le, Int32.reduceToInt, ← Int32.toInt_inj] at h_22
    refine v_aload_n hC dX10_takeGuard_7 rfl ?_
    refine v_iconst hC dX10_takeGuard_8 (v := 2) (by decide) ?_
    refine v_vv hC (rest := []) m_1 e_5 rfl mi_X7_complain ms_X7_complain (p_X7_complain hW k_0) mx_X7_complain ml_X10_96 (by decide) rfl (cells1 := 0) (slots1 := 0) (by decide) (by decide) (Nat.le_of_ble_eq_true rfl) (Nat.le_of_ble_eq_true rfl) rfl (Nat.le_of_ble_eq_true rfl) dX10_takeGuard_9 (fun L_31 f_32 h_33 => ?_)
    obtain ⟨rfl, hW_34, hF_35⟩ := h_33
    refine v_aload_n hC dX10_takeGuard_12 rfl ?_
    refine v_iconst hC dX10_takeGuard_13 (v := 1) (by decide) ?_
    refine v_iconst hC dX10_takeGuard_14 (v := 5) (by decide) ?_
    obtain ⟨v_37, v_39, v_40, v_42, v_44, v_45, e_36, b_38, b_41, b_43⟩ := hW_34.at m_1 t_2
    refine v_vi hC (rest := []) m_1 e_36 rfl mi_X7_takeNumber ms_X7_takeNumber (p_X7_takeNumber hW_34 k_0) mx_X7_takeNumber ml_X10_56 (by decide) rfl (cells1 := 0) (slots1 := 0) (by decide) (by decide) (Nat.le_of_ble_eq_true rfl) (Nat.le_of_ble_eq_true rfl) rfl (Nat.le_of_ble_eq_true rfl) dX10_takeGuard_15 (fun r_46 L_47 f_48 h_49 => ?_)
    obtain ⟨rfl, hW_51, hF_52, x_50⟩ := h_49
    try simp only [Int32.reduceToInt, Int64.reduceToInt] at x_50
    exact hR _ _ _ _ _ _ _ dX10_takeGuard_18 rfl (Nat.le_of_ble_eq_true rfl) (Nat.le_of_ble_eq_true rfl) ⟨rfl, hW_51, ((hF_35.tr hF_52).mono rfl), (by first | omega | (simp only [Int32.lt_iff_toInt_lt, Int32.le_iff_toInt_le, Int32.reduceToInt, ← Int32.toInt_inj, true_and, and_true, or_true, true_or, false_or, or_false, false_and, and_false, not_true_eq_false, not_false_eq_true] <;> omega))⟩
set_option maxRecDepth 100000 in
set_option maxHeartbeats 8000000 in
theorem p_X10_tell {l : Launch} {E : Ez} {L : List Nat} {f : Nat → va_E} {T : Nat → va_E → Prop} {a_0 : Nat} {a_1 : Nat} (hW : WT T L f) (k_0 : isWay T L E a_0) (k_1 : isTape T L E a_1) : CI l yX10_tell cX10_tell 2 .boolean 6 0 0 E [.ref a_0, .ref a_1] L f (fun r L1 f1 => L = L1 ∧ WT T L f1 ∧ FR [7, 10] f f1 ∧ (0 ≤ r.toInt ∧ r.toInt ≤ 1)) := by
  refine ci_of (by decide) (Nat.le_of_ble_eq_true rfl) (fun z hz hnm hC hR => ?_)
  have hC : Cx z E cX10_tell RX10 2 6 0 0 := hC
  subst hz
  show V z E 2 0 0 L f 0 [(0, .ref a_0), (1, .ref a_1)] []
  refine v_aload_n hC dX10_tell_0 rfl ?_
  refine v_iconst hC dX10_tell_1 (v := 1) (by decide) ?_
  obtain ⟨m_1, t_2⟩ := id k_0
  obtain ⟨v_4, v_6, v_7, v_8, v_10, v_12, v_14, e_3, b_5, b_9, b_11, b_13, b_15⟩ := hW.at m_1 t_2
  refine v_put hC fl_X10_21 m_1 e_3 rfl rfl (Nat.le_of_ble_eq_true rfl) (fs' := [.int 1, .int v_6, .int v_7, .int v_8, .int v_10, .int v_12, .int v_14]) rfl dX10_tell_2 (fun f_16 hf_17 hk_18 => ?_)
  have hW_19 := hW.up hf_17 hk_18 t_2 ⟨1, v_6, v_7, v_8, v_10, v_12, v_14, rfl, (by decide), (by first | omega | (simp only [Int32.lt_iff_toInt_lt, Int32.le_iff_toInt_le, Int32.reduceToInt, ← Int32.toInt_inj, true_and, and_true, or_true, true_or, false_or, or_false, false_and, and_false, not_true_eq_false, not_false_eq_true] <;> omega)), (by first | omega | (simp only [Int32.lt_iff_toInt_lt, Int32.le_iff_toInt_le, Int32.reduceToInt, ← Int32.toInt_inj, true_and, and_true, or_true, true_or, false_or, or_false, false_and, and_false, not_true_eq_false, not_false_eq_true] <;> omega)), (by first | omega | (simp only [Int32.lt_iff_toInt_lt, Int32.le_iff_toInt_le, Int32.reduceToInt, ← Int32.toInt_inj, true_and, and_true, or_true, true_or, false_or, or_false, false_and, and_false, not_true_eq_false, not_false_eq_true] <;> omega)), (by first | omega | (simp only [Int32.lt_iff_toInt_lt, Int32.le_iff_toInt_le, Int32.reduceToInt, ← Int32.toInt_inj, true_and, and_true, or_true, true_or, false_or, or_false, false_and, and_false, not_true_eq_false, not_false_eq_true] <;> omega))⟩
  have fr_20 := FR.w hk_18 e_3 (k := 10) rfl
  refine v_aload_n hC dX10_tell_5 rfl ?_
  obtain ⟨m_21, q_23, t_22, k_24⟩ := id k_1
  obtain ⟨v_26, v_28, v_29, v_31, v_33, v_34, e_25, b_27, b_30, b_32⟩ := hW_19.at m_21 t_22
  refine v_vv hC (rest := []) m_21 e_25 rfl mi_X7_start ms_X7_start (p_X7_start hW_19 k_1) mx_X7_start ml_X10_34 (by decide) rfl (cells1 := 0) (slots1 := 0) (by decide) (by decide) (Nat.le_of_ble_eq_true rfl) (Nat.le_of_ble_eq_true rfl) rfl (Nat.le_of_ble_eq_true rfl) dX10_tell_6 (fun L_36 f_37 h_38 => ?_)
  obtain ⟨rfl, hW_39, hF_40⟩ := h_38
  have hf_41 := hF_40.at hf_17 rfl
  refine v_aload_n hC dX10_tell_9 rfl ?_
  refine v_ldcS hC sr_X10_39 dX10_tell_10 ?_
  obtain ⟨v_43, v_45, v_46, v_48, v_50, v_51, e_42, b_44, b_47, b_49⟩ := hW_39.at m_21 t_22
  refine v_vv hC (rest := []) m_21 e_42 rfl mi_X7_takeWord ms_X7_takeWord (p_X7_takeWord hW_39 k_1 (by decide)) mx_X7_takeWord ml_X10_41 (by decide) rfl (cells1 := 0) (slots1 := 0) (by decide) (by decide) (Nat.le_of_ble_eq_true rfl) (Nat.le_of_ble_eq_true rfl) rfl (Nat.le_of_ble_eq_true rfl) dX10_tell_12 (fun L_53 f_54 h_55 => ?_)
  obtain ⟨rfl, hW_56, hF_57⟩ := h_55
  have hf_58 := hF_57.at hf_41 rfl
  refine v_aload_n hC dX10_tell_15 rfl ?_
  refine v_ldcS hC sr_X10_45 dX10_tell_16 ?_
  obtain ⟨v_60, v_62, v_63, v_65, v_67, v_68, e_59, b_61, b_64, b_66⟩ := hW_56.at m_21 t_22
  refine v_vv hC (rest := []) m_21 e_59 rfl mi_X7_takeWord ms_X7_takeWord (p_X7_takeWord hW_56 k_1 (by decide)) mx_X7_takeWord ml_X10_41 (by decide) rfl (cells1 := 0) (slots1 := 0) (by decide) (by decide) (Nat.le_of_ble_eq_true rfl) (Nat.le_of_ble_eq_true rfl) rfl (Nat.le_of_ble_eq_true rfl) dX10_tell_18 (fun L_70 f_71 h_72 => ?_)
  obtain ⟨rfl, hW_73, hF_74⟩ := h_72
  have hf_75 := hF_74.at hf_58 rfl
  refine v_aload_n hC dX10_tell_21 rfl ?_
  refine v_aload_n hC dX10_tell_22 rfl ?_
  refine v_vv hC (rest := []) m_1 hf_75 rfl mi_X10_tellSorts ms_X10_tellSorts (p_X10_tellSorts hW_73 k_0 k_1) mx_X10_tellSorts ml_X10_47 (by decide) rfl (cells1 := 0) (slots1 := 0) (by decide) (by decide) (Nat.le_of_ble_eq_true rfl) (Nat.le_of_ble_eq_true rfl) rfl (Nat.le_of_ble_eq_true rfl) dX10_tell_23 (fun L_77 f_78 h_79 => ?_)
  obtain ⟨rfl, hW_80, hF_81⟩ := h_79
  refine v_aload_n hC dX10_tell_26 rfl ?_
  refine v_aload_n hC dX10_tell_27 rfl ?_
  refine v_ldcS hC sr_X10_51 dX10_tell_28 ?_
  obtain ⟨v_83, v_85, v_86, v_88, v_90, v_91, e_82, b_84, b_87, b_89⟩ := hW_80.at m_21 t_22
  refine v_vi hC (rest := [.ref a_0]) m_21 e_82 rfl mi_X7_mayTakeWord ms_X7_mayTakeWord (p_X7_mayTakeWord hW_80 k_1 (by decide)) mx_X7_mayTakeWord ml_X10_52 (by decide) rfl (cells1 := 0) (slots1 := 0) (by decide) (by decide) (Nat.le_of_ble_eq_true rfl) (Nat.le_of_ble_eq_true rfl) rfl (Nat.le_of_ble_eq_true rfl) dX10_tell_30 (fun r_92 L_93 f_94 h_95 => ?_)
  obtain ⟨rfl, hW_97, hF_98, b_96⟩ := h_95
  have jn_117 : ∀ (f_120 : Nat → va_E) (hW_121 : WT T L f_120) (hF_122 : FR [7] f_94 f_120) (v_118 : Int32) (b_119 : (1 ≤ v_118.toInt ∧ v_118.toInt ≤ 9)), V z E 2 0 0 L f_120 47 [(0, .ref a_0), (1, .ref a_1)] [.int v_118, .ref a_0] := by
    intro f_120 hW_121 hF_122 v_118 b_119
    obtain ⟨v_124, v_126, v_127, v_128, v_130, v_132, v_134, e_123, b_125, b_129, b_131, b_133, b_135⟩ := hW_121.at m_1 t_2
    refine v_put hC fl_X10_9 m_1 e_123 rfl rfl (Nat.le_of_ble_eq_true rfl) (fs' := [.int v_124, .int v_126, .int v_118, .int v_128, .int v_130, .int v_132, .int v_134]) rfl dX10_tell_47 (fun f_136 hf_137 hk_138 => ?_)
    have hW_139 := hW_121.up hf_137 hk_138 t_2 ⟨v_124, v_126, v_118, v_128, v_130, v_132, v_134, rfl, (by first | omega | (simp only [Int32.lt_iff_toInt_lt, Int32.le_iff_toInt_le, Int32.reduceToInt, ← Int32.toInt_inj, true_and, and_true, or_true, true_or, false_or, or_false, false_and, and_false, not_true_eq_false, not_false_eq_true] <;> omega)), (by first | omega | (simp only [Int32.lt_iff_toInt_lt, Int32.le_iff_toInt_le, Int32.reduceToInt, ← Int32.toInt_inj, true_and, and_true, or_true, true_or, false_or, or_false, false_and, and_false, not_true_eq_false, not_false_eq_true] <;> omega)), (by first | omega | (simp only [Int32.lt_iff_toInt_lt, Int32.le_iff_toInt_le, Int32.reduceToInt, ← Int32.toInt_inj, true_and, and_true, or_true, true_or, false_or, or_false, false_and, and_false, not_true_eq_false, not_false_eq_true] <;> omega)), (by first | omega | (simp only [Int32.lt_iff_toInt_lt, Int32.le_iff_toInt_le, Int32.reduceToInt, ← Int32.toInt_inj, true_and, and_true, or_true, true_or, false_or, or_false, false_and, and_false, not_true_eq_false, not_false_eq_true] <;> omega)), (by first | omega | (simp only [Int32.lt_iff_toInt_lt, Int32.le_iff_toInt_le, Int32.reduceToInt, ← Int32.toInt_inj, true_and, and_true, or_true, true_or, false_or, or_false, false_and, and_false, not_true_eq_false, not_false_eq_true] <;> omega))⟩
    have fr_140 := FR.w hk_138 e_123 (k := 10) rfl
    refine v_aload_n hC dX10_tell_50 rfl ?_
    refine v_aload_n hC dX10_tell_51 rfl ?_
    refine v_ldcS hC sr_X10_60 dX10_tell_52 ?_
    obtain ⟨v_142, v_144, v_145, v_147, v_149, v_150, e_141, b_143, b_146, b_148⟩ := hW_139.at m_21 t_22
    refine v_vi hC (rest := [.ref a_0]) m_21 e_141 rfl mi_X7_mayTakeWord ms_X7_mayTakeWord (p_X7_mayTakeWord hW_139 k_1 (by decide)) mx_X7_mayTakeWord ml_X10_52 (by decide) rfl (cells1 := 0) (slots1 := 0) (by decide) (by decide) (Nat.le_of_ble_eq_true rfl) (Nat.le_of_ble_eq_true rfl) rfl (Nat.le_of_ble_eq_true rfl) dX10_tell_54 (fun r_151 L_152 f_153 h_154 => ?_)
    obtain ⟨rfl, hW_156, hF_157, b_155⟩ := h_154
    have hf_158 := hF_157.at hf_137 rfl
    have jn_178 : ∀ (f_181 : Nat → va_E) (hW_182 : WT T L f_181) (hF_183 : FR [7] f_153 f_181) (v_179 : Int32) (b_180 : (1 ≤ v_179.toInt ∧ v_179.toInt ≤ 5)), V z E 2 0 0 L f_181 70 [(0, .ref a_0), (1, .ref a_1)] [.int v_179, .ref a_0] := by
      intro f_181 hW_182 hF_183 v_179 b_180
      have hf_184 := hF_183.at hf_158 rfl
      refine v_put hC fl_X10_15 m_1 hf_184 rfl rfl (Nat.le_of_ble_eq_true rfl) (fs' := [.int v_124, .int v_126, .int v_118, .int v_179, .int v_130, .int v_132, .int v_134]) rfl dX10_tell_70 (fun f_185 hf_186 hk_187 => ?_)
      have hW_188 := hW_182.up hf_186 hk_187 t_2 ⟨v_124, v_126, v_118, v_179, v_130, v_132, v_134, rfl, (by first | omega | (simp only [Int32.lt_iff_toInt_lt, Int32.le_iff_toInt_le, Int32.reduceToInt, ← Int32.toInt_inj, true_and, and_true, or_true, true_or, false_or, or_false, false_and, and_false, not_true_eq_false, not_false_eq_true] <;> omega)), (by first | omega | (simp only [Int32.lt_iff_toInt_lt, Int32.le_iff_toInt_le, Int32.reduceToInt, ← Int32.toInt_inj, true_and, and_true, or_true, true_or, false_or, or_false, false_and, and_false, not_true_eq_false, not_false_eq_true] <;> omega)), (by first | omega | (simp only [Int32.lt_iff_toInt_lt, Int32.le_iff_toInt_le, Int32.reduceToInt, ← Int32.toInt_inj, true_and, and_true, or_true, true_or, false_or, or_false, false_and, and_false, not_true_eq_false, not_false_eq_true] <;> omega)), (by first | omega | (simp only [Int32.lt_iff_toInt_lt, Int32.le_iff_toInt_le, Int32.reduceToInt, ← Int32.toInt_inj, true_and, and_true, or_true, true_or, false_or, or_false, false_and, and_false, not_true_eq_false, not_false_eq_true] <;> omega)), (by first | omega | (simp only [Int32.lt_iff_toInt_lt, Int32.le_iff_toInt_le, Int32.reduceToInt, ← Int32.toInt_inj, true_and, and_true, or_true, true_or, false_or, or_false, false_and, and_false, not_true_eq_false, not_false_eq_true] <;> omega))⟩
      have fr_189 := FR.w hk_187 hf_184 (k := 10) rfl
      refine v_aload_n hC dX10_tell_73 rfl ?_
      refine v_aload_n hC dX10_tell_74 rfl ?_
      refine v_ldcS hC sr_X10_61 dX10_tell_75 ?_
      obtain ⟨v_191, v_193, v_194, v_196, v_198, v_199, e_190, b_192, b_195, b_197⟩ := hW_188.at m_21 t_22
      refine v_vi hC (rest := [.ref a_0]) m_21 e_190 rfl mi_X7_mayTakeWord ms_X7_mayTakeWord (p_X7_mayTakeWord hW_188 k_1 (by decide)) mx_X7_mayTakeWord ml_X10_52 (by decide) rfl (cells1 := 0) (slots1 := 0) (by decide) (by decide) (Nat.le_of_ble_eq_true rfl) (Nat.le_of_ble_eq_true rfl) rfl (Nat.le_of_ble_eq_true rfl) dX10_tell_77 (fun r_200 L_201 f_202 h_203 => ?_)
      obtain ⟨rfl, hW_205, hF_206, b_204⟩ := h_203
      have hf_207 := hF_206.at hf_186 rfl
      have jn_217 : ∀ (f_220 : Nat → va_E) (hW_221 : WT T L f_220) (hF_222 : FR [7] f_202 f_220) (v_218 : Int32) (b_219 : (1 ≤ v_218.toInt ∧ v_218.toInt ≤ 5)), V z E 2 0 0 L f_220 91 [(0, .ref a_0), (1, .ref a_1)] [.int v_218, .ref a_0] := by
        intro f_220 hW_221 hF_222 v_218 b_219
        have hf_223 := hF_222.at hf_207 rfl
        refine v_put hC fl_X10_18 m_1 hf_223 rfl rfl (Nat.le_of_ble_eq_true rfl) (fs' := [.int v_124, .int v_126, .int v_118, .int v_179, .int v_218, .int v_132, .int v_134]) rfl dX10_tell_91 (fun f_224 hf_225 hk_226 => ?_)
        have hW_227 := hW_221.up hf_225 hk_226 t_2 ⟨v_124, v_126, v_118, v_179, v_218, v_132, v_134, rfl, (by first | omega | (simp only [Int32.lt_iff_toInt_lt, Int32.le_iff_toInt_le, Int32.reduceToInt, ← Int32.toInt_inj, true_and, and_true, or_true, true_or, false_or, or_false, false_and, and_false, not_true_eq_false, not_false_eq_true] <;> omega)), (by first | omega | (simp only [Int32.lt_iff_toInt_lt, Int32.le_iff_toInt_le, Int32.reduceToInt, ← Int32.toInt_inj, true_and, and_true, or_true, true_or, false_or, or_false, false_and, and_false, not_true_eq_false, not_false_eq_true] <;> omega)), (by first | omega | (simp only [Int32.lt_iff_toInt_lt, Int32.le_iff_toInt_le, Int32.reduceToInt, ← Int32.toInt_inj, true_and, and_true, or_true, true_or, false_or, or_false, false_and, and_false, not_true_eq_false, not_false_eq_true] <;> omega)), (by first | omega | (simp only [Int32.lt_iff_toInt_lt, Int32.le_iff_toInt_le, Int32.reduceToInt, ← Int32.toInt_inj, true_and, and_true, or_true, true_or, false_or, or_false, false_and, and_false, not_true_eq_false, not_false_eq_true] <;> omega)), (by first | omega | (simp only [Int32.lt_iff_toInt_lt, Int32.le_iff_toInt_le, Int32.reduceToInt, ← Int32.toInt_inj, true_and, and_true, or_true, true_or, false_or, or_false, false_and, and_false, not_true_eq_false, not_false_eq_true] <;> omega))⟩
        have fr_228 := FR.w hk_226 hf_223 (k := 10) rfl
        refine v_aload_n hC dX10_tell_94 rfl ?_
        refine v_aload_n hC dX10_tell_95 rfl ?_
        refine v_ldcS hC sr_X10_66 dX10_tell_96 ?_
        obtain ⟨v_230, v_232, v_233, v_235, v_237, v_238, e_229, b_231, b_234, b_236⟩ := hW_227.at m_21 t_22
        refine v_vi hC (rest := [.ref a_0]) m_21 e_229 rfl mi_X7_mayTakeWord ms_X7_mayTakeWord (p_X7_mayTakeWord hW_227 k_1 (by decide)) mx_X7_mayTakeWord ml_X10_52 (by decide) rfl (cells1 := 0) (slots1 := 0) (by decide) (by decide) (Nat.le_of_ble_eq_true rfl) (Nat.le_of_ble_eq_true rfl) rfl (Nat.le_of_ble_eq_true rfl) dX10_tell_98 (fun r_239 L_240 f_241 h_242 => ?_)
        obtain ⟨rfl, hW_244, hF_245, b_243⟩ := h_242
        have hf_246 := hF_245.at hf_225 rfl
        refine v_put hC fl_X10_28 m_1 hf_246 (nar01 (by first | omega | (simp only [Int32.lt_iff_toInt_lt, Int32.le_iff_toInt_le, Int32.reduceToInt, ← Int32.toInt_inj, true_and, and_true, or_true, true_or, false_or, or_false, false_and, and_false, not_true_eq_false, not_false_eq_true] <;> omega))) (fit01 (by first | omega | (simp only [Int32.lt_iff_toInt_lt, Int32.le_iff_toInt_le, Int32.reduceToInt, ← Int32.toInt_inj, true_and, and_true, or_true, true_or, false_or, or_false, false_and, and_false, not_true_eq_false, not_false_eq_true] <;> omega))) (Nat.le_of_ble_eq_true rfl) (fs' := [.int v_124, .int v_126, .int v_118, .int v_179, .int v_218, .int r_239, .int v_134]) rfl dX10_tell_101 (fun f_247 hf_248 hk_249 => ?_)
        have hW_250 := hW_244.up hf_248 hk_249 t_2 ⟨v_124, v_126, v_118, v_179, v_218, r_239, v_134, rfl, (by first | omega | (simp only [Int32.lt_iff_toInt_lt, Int32.le_iff_toInt_le, Int32.reduceToInt, ← Int32.toInt_inj, true_and, and_true, or_true, true_or, false_or, or_false, false_and, and_false, not_true_eq_false, not_false_eq_true] <;> omega)), (by first | omega | (simp only [Int32.lt_iff_toInt_lt, Int32.le_iff_toInt_le, Int32.reduceToInt, ← Int32.toInt_inj, true_and, and_true, or_true, true_or, false_or, or_false, false_and, and_false, not_true_eq_false, not_false_eq_true] <;> omega)), (by first | omega | (simp only [Int32.lt_iff_toInt_lt, Int32.le_iff_toInt_le, Int32.reduceToInt, ← Int32.toInt_inj, true_and, and_true, or_true, true_or, false_or, or_false, false_and, and_false, not_true_eq_false, not_false_eq_true] <;> omega)), (by first | omega | (simp only [Int32.lt_iff_toInt_lt, Int32.le_iff_toInt_le, Int32.reduceToInt, ← Int32.toInt_inj, true_and, and_true, or_true, true_or, false_or, or_false, false_and, and_false, not_true_eq_false, not_false_eq_true] <;> omega)), (by first | omega | (simp only [Int32.lt_iff_toInt_lt, Int32.le_iff_toInt_le, Int32.reduceToInt, ← Int32.toInt_inj, true_and, and_true, or_true, true_or, false_or, or_false, false_and, and_false, not_true_eq_false, not_false_eq_true] <;> omega))⟩
        have fr_251 := FR.w hk_249 hf_246 (k := 10) rfl
        refine v_aload_n hC dX10_tell_104 rfl ?_
        refine v_aload_n hC dX10_tell_105 rfl ?_
        refine v_ldcS hC sr_X10_68 dX10_tell_106 ?_
        obtain ⟨v_253, v_255, v_256, v_258, v_260, v_261, e_252, b_254, b_257, b_259⟩ := hW_250.at m_21 t_22
        refine v_vi hC (rest := [.ref a_0]) m_21 e_252 rfl mi_X7_mayTakeWord ms_X7_mayTakeWord (p_X7_mayTakeWord hW_250 k_1 (by decide)) mx_X7_mayTakeWord ml_X10_52 (by decide) rfl (cells1 := 0) (slots1 := 0) (by decide) (by decide) (Nat.le_of_ble_eq_true rfl) (Nat.le_of_ble_eq_true rfl) rfl (Nat.le_of_ble_eq_true rfl) dX10_tell_108 (fun r_262 L_263 f_264 h_265 => ?_)
        obtain ⟨rfl, hW_267, hF_268, b_266⟩ := h_265
        have hf_269 := hF_268.at hf_248 rfl
        refine v_put hC fl_X10_31 m_1 hf_269 (nar01 (by first | omega | (simp only [Int32.lt_iff_toInt_lt, Int32.le_iff_toInt_le, Int32.reduceToInt, ← Int32.toInt_inj, true_and, and_true, or_true, true_or, false_or, or_false, false_and, and_false, not_true_eq_false, not_false_eq_true] <;> omega))) (fit01 (by first | omega | (simp only [Int32.lt_iff_toInt_lt, Int32.le_iff_toInt_le, Int32.reduceToInt, ← Int32.toInt_inj, true_and, and_true, or_true, true_or, false_or, or_false, false_and, and_false, not_true_eq_false, not_false_eq_true] <;> omega))) (Nat.le_of_ble_eq_true rfl) (fs' := [.int v_124, .int v_126, .int v_118, .int v_179, .int v_218, .int r_239, .int r_262]) rfl dX10_tell_111 (fun f_270 hf_271 hk_272 => ?_)
        have hW_273 := hW_267.up hf_271 hk_272 t_2 ⟨v_124, v_126, v_118, v_179, v_218, r_239, r_262, rfl, (by first | omega | (simp only [Int32.lt_iff_toInt_lt, Int32.le_iff_toInt_le, Int32.reduceToInt, ← Int32.toInt_inj, true_and, and_true, or_true, true_or, false_or, or_false, false_and, and_false, not_true_eq_false, not_false_eq_true] <;> omega)), (by first | omega | (simp only [Int32.lt_iff_toInt_lt, Int32.le_iff_toInt_le, Int32.reduceToInt, ← Int32.toInt_inj, true_and, and_true, or_true, true_or, false_or, or_false, false_and, and_false, not_true_eq_false, not_false_eq_true] <;> omega)), (by first | omega | (simp only [Int32.lt_iff_toInt_lt, Int32.le_iff_toInt_le, Int32.reduceToInt, ← Int32.toInt_inj, true_and, and_true, or_true, true_or, false_or, or_false, false_and, and_false, not_true_eq_false, not_false_eq_true] <;> omega)), (by first | omega | (simp only [Int32.lt_iff_toInt_lt, Int32.le_iff_toInt_le, Int32.reduceToInt, ← Int32.toInt_inj, true_and, and_true, or_true, true_or, false_or, or_false, false_and, and_false, not_true_eq_false, not_false_eq_true] <;> omega)), (by first | omega | (simp only [Int32.lt_iff_toInt_lt, Int32.le_iff_toInt_le, Int32.reduceToInt, ← Int32.toInt_inj, true_and, and_true, or_true, true_or, false_or, or_false, false_and, and_false, not_true_eq_false, not_false_eq_true] <;> omega))⟩
        have fr_274 := FR.w hk_272 hf_269 (k := 10) rfl
        refine v_aload_n hC dX10_tell_114 rfl ?_
        obtain ⟨v_276, v_278, v_279, v_281, v_283, v_284, e_275, b_277, b_280, b_282⟩ := hW_273.at m_21 t_22
        refine v_vv hC (rest := []) m_21 e_275 rfl mi_X7_takeSemicolon ms_X7_takeSemicolon (p_X7_takeSemicolon hW_273 k_1) mx_X7_takeSemicolon ml_X10_70 (by decide) rfl (cells1 := 0) (slots1 := 0) (by decide) (by decide) (Nat.le_of_ble_eq_true rfl) (Nat.le_of_ble_eq_true rfl) rfl (Nat.le_of_ble_eq_true rfl) dX10_tell_115 (fun L_286 f_287 h_288 => ?_)
        obtain ⟨rfl, hW_289, hF_290⟩ := h_288
        have hf_291 := hF_290.at hf_271 rfl
        refine v_aload_n hC dX10_tell_118 rfl ?_
        obtain ⟨v_293, v_295, v_296, v_298, v_300, v_301, e_292, b_294, b_297, b_299⟩ := hW_289.at m_21 t_22
        refine v_vv hC (rest := []) m_21 e_292 rfl mi_X7_takeEnd ms_X7_takeEnd (p_X7_takeEnd hW_289 k_1) mx_X7_takeEnd ml_X10_73 (by decide) rfl (cells1 := 0) (slots1 := 0) (by decide) (by decide) (Nat.le_of_ble_eq_true rfl) (Nat.le_of_ble_eq_true rfl) rfl (Nat.le_of_ble_eq_true rfl) dX10_tell_119 (fun L_303 f_304 h_305 => ?_)
        obtain ⟨rfl, hW_306, hF_307⟩ := h_305
        have hf_308 := hF_307.at hf_291 rfl
        refine v_aload_n hC dX10_tell_122 rfl ?_
        obtain ⟨v_310, v_312, v_313, v_315, v_317, v_318, e_309, b_311, b_314, b_316⟩ := hW_306.at m_21 t_22
        refine v_vi hC (rest := []) m_21 e_309 rfl mi_X7_isFine ms_X7_isFine (p_X7_isFine hW_306 k_1) mx_X7_isFine ml_X10_76 (by decide) rfl (cells1 := 0) (slots1 := 0) (by decide) (by decide) (Nat.le_of_ble_eq_true rfl) (Nat.le_of_ble_eq_true rfl) rfl (Nat.le_of_ble_eq_true rfl) dX10_tell_123 (fun r_319 L_320 f_321 h_322 => ?_)
        obtain ⟨rfl, rfl, b_323⟩ := h_322
        exact hR _ _ _ _ _ _ _ dX10_tell_126 (nar01 (by first | omega | (simp only [Int32.lt_iff_toInt_lt, Int32.le_iff_toInt_le, Int32.reduceToInt, ← Int32.toInt_inj, true_and, and_true, or_true, true_or, false_or, or_false, false_and, and_false, not_true_eq_false, not_false_eq_true] <;> omega))) (Nat.le_of_ble_eq_true rfl) (Nat.le_of_ble_eq_true rfl) ⟨rfl, hW_306, ((((((((((((((((((((fr_20.tr hF_40).tr hF_57).tr hF_74).tr hF_81).tr hF_98).tr hF_122).tr fr_140).tr hF_157).tr hF_183).tr fr_189).tr hF_206).tr hF_222).tr fr_228).tr hF_245).tr fr_251).tr hF_268).tr fr_274).tr hF_290).tr hF_307).mono rfl), (by first | omega | (simp only [Int32.lt_iff_toInt_lt, Int32.le_iff_toInt_le, Int32.reduceToInt, ← Int32.toInt_inj, true_and, and_true, or_true, true_or, false_or, or_false, false_and, and_false, not_true_eq_false, not_false_eq_true] <;> omega))⟩
      refine v_if_eq hC dX10_tell_80 (tgt := 90) (by decide) (fun h_208 => ?_) (fun h_208 => ?_)
      · simp only [Int32.lt_iff_toInt_lt, Int32.le_iff_toInt_le, Int32.reduceToInt, ← Int32.toInt_inj] at h_208
        refine v_iconst hC dX10_tell_90 (v := 1) (by decide) ?_
        refine v_pick [0, 1] rfl ?_
        exact jn_217 f_202 hW_205 FR.rf 1 (by decide)
      · simp only [Int32.lt_iff_toInt_lt, Int32.le_iff_toInt_le, Int32.reduceToInt, ← Int32.toInt_inj] at h_208
        refine v_aload_n hC dX10_tell_83 rfl ?_
        refine v_si hC (rest := [.ref a_0]) mt_X10_takeGuard (p_X10_takeGuard hW_205 k_1) mx_X10_takeGuard ml_X10_62 (by decide) rfl (cells1 := 0) (slots1 := 0) (by decide) (by decide) (Nat.le_of_ble_eq_true rfl) (Nat.le_of_ble_eq_true rfl) rfl (Nat.le_of_ble_eq_true rfl) dX10_tell_84 (fun r_326 L_327 f_328 h_329 => ?_)
        obtain ⟨rfl, hW_331, hF_332, b_330⟩ := h_329
        have hf_333 := hF_332.at hf_207 rfl
        refine v_goto hC dX10_tell_87 (tgt := 91) (by decide) ?_
        refine v_pick [0, 1] rfl ?_
        exact jn_217 f_328 hW_331 (hF_332.mono rfl) r_326 (by first | omega | (simp only [Int32.lt_iff_toInt_lt, Int32.le_iff_toInt_le, Int32.reduceToInt, ← Int32.toInt_inj, true_and, and_true, or_true, true_or, false_or, or_false, false_and, and_false, not_true_eq_false, not_false_eq_true] <;> omega))
    refine v_if_eq hC dX10_tell_57 (tgt := 69) (by decide) (fun h_159 => ?_) (fun h_159 => ?_)
    · simp only [Int32.lt_iff_toInt_lt, Int32.le_iff_toInt_le, Int32.reduceToInt, ← Int32.toInt_inj] at h_159
      refine v_iconst hC dX10_tell_69 (v := 1) (by decide) ?_
      refine v_pick [0, 1] rfl ?_
      exact jn_178 f_153 hW_156 FR.rf 1 (by decide)
    · simp only [Int32.lt_iff_toInt_lt, Int32.le_iff_toInt_le, Int32.reduceToInt, ← Int32.toInt_inj] at h_159
      refine v_aload_n hC dX10_tell_60 rfl ?_
      refine v_iconst hC dX10_tell_61 (v := 1) (by decide) ?_
      refine v_iconst hC dX10_tell_62 (v := 5) (by decide) ?_
      obtain ⟨v_335, v_337, v_338, v_340, v_342, v_343, e_334, b_336, b_339, b_341⟩ := hW_156.at m_21 t_22
      refine v_vi hC (rest := [.ref a_0]) m_21 e_334 rfl mi_X7_takeNumber ms_X7_takeNumber (p_X7_takeNumber hW_156 k_1) mx_X7_takeNumber ml_X10_56 (by decide) rfl (cells1 := 0) (slots1 := 0) (by decide) (by decide) (Nat.le_of_ble_eq_true rfl) (Nat.le_of_ble_eq_true rfl) rfl (Nat.le_of_ble_eq_true rfl) dX10_tell_63 (fun r_344 L_345 f_346 h_347 => ?_)
      obtain ⟨rfl, hW_349, hF_350, x_348⟩ := h_347
      have hf_351 := hF_350.at hf_158 rfl
      try simp only [Int32.reduceToInt, Int64.reduceToInt] at x_348
      refine v_goto hC dX10_tell_66 (tgt := 70) (by decide) ?_
      refine v_pick [0, 1] rfl ?_
      exact jn_178 f_346 hW_349 (hF_350.mono rfl) r_344 (by first | omega | (simp only [Int32.lt_iff_toInt_lt, Int32.le_iff_toInt_le, Int32.reduceToInt, ← Int32.toInt_inj, true_and, and_true, or_true, true_or, false_or, or_false, false_and, and_false, not_true_eq_false, not_false_eq_true] <;> omega))
  refine v_if_eq hC dX10_tell_33 (tgt := 46) (by decide) (fun h_99 => ?_) (fun h_99 => ?_)
  · simp only [Int32.lt_iff_toInt_lt, Int32.le_iff_toInt_le, Int32.reduceToInt, ← Int32.toInt_inj] at h_99
    refine v_iconst hC dX10_tell_46 (v := 1) (by decide) ?_
    refine v_pick [0, 1] rfl ?_
    exact jn_117 f_94 hW_97 FR.rf 1 (by decide)
  · simp only [Int32.lt_iff_toInt_lt, Int32.le_iff_toInt_le, Int32.reduceToInt, ← Int32.toInt_inj] at h_99
    refine v_aload_n hC dX10_tell_36 rfl ?_
    refine v_iconst hC dX10_tell_37 (v := 1) (by decide) ?_
    refine v_bipush hC dX10_tell_38 (v := 9) (by decide) ?_
    obtain ⟨v_353, v_355, v_356, v_358, v_360, v_361, e_352, b_354, b_357, b_359⟩ := hW_97.at m_21 t_22
    refine v_vi hC (rest := [.ref a_0]) m_21 e_352 rfl mi_X7_takeNumber ms_X7_takeNumber (p_X7_takeNumber hW_97 k_1) mx_X7_takeNumber ml_X10_56 (by decide) rfl (cells1 := 0) (slots1 := 0) (by decide) (by decide) (Nat.le_of_ble_eq_true rfl) (Nat.le_of_ble_eq_true rfl) rfl (Nat.le_of_ble_eq_true rfl) dX10_tell_40 (fun r_362 L_363 f_364 h_365 => ?_)
    obtain ⟨rfl, hW_367, hF_368, x_366⟩ := h_365
    try simp only [Int32.reduceToInt, Int64.reduceToInt] at x_366
    refine v_goto hC dX10_tell_43 (tgt := 47) (by decide) ?_
    refine v_pick [0, 1] rfl ?_
    exact jn_117 f_364 hW_367 (hF_368.mono rfl) r_362 (by first | omega | (simp only [Int32.lt_iff_toInt_lt, Int32.le_iff_toInt_le, Int32.reduceToInt, ← Int32.toInt_inj, true_and, and_true, or_true, true_or, false_or, or_false, false_and, and_false, not_true_eq_false, not_false_eq_true] <;> omega))
set_option maxRecDepth 100000 in
set_option maxHeartbeats 8000000 in
theorem p_X9_takeFrom {l : Launch} {E : Ez} {L : List Nat} {f : Nat → va_E} {T : Nat → va_E → Prop} {a_0 : Nat} {a_1 : Nat} (hW : WT T L f) (k_0 : isWat T L E a_0) (k_1 : isWat T L E a_1) : CV l yX9_takeFrom cX9_takeFrom 2 1 0 0 E [.ref a_0, .ref a_1] L f (fun L1 f1 => L = L1 ∧ WT T L f1 ∧ FR [9, 400] f f1) := by
  refine cv_of (by decide) (Nat.le_of_ble_eq_true rfl) (fun z hz hnm hC hR => ?_)
  have hC : Cx z E cX9_takeFrom RX9 2 1 0 0 := hC
  subst hz
  show V z E 2 0 0 L f 0 [(0, .ref a_0), (1, .ref a_1)] []
  refine v_aload_n hC dX9_takeFrom_0 rfl ?_
  obtain ⟨m_1, q_3, t_2, k_4⟩ := id k_1
  obtain ⟨v_6, v_8, e_5, b_7⟩ := hW.at m_1 t_2
  refine v_get hC fl_X9_13 m_1 e_5 rfl dX9_takeFrom_1 ?_
  refine v_iconst hC dX9_takeFrom_4 (v := 0) (by decide) ?_
  refine v_aload_n hC dX9_takeFrom_5 rfl ?_
  obtain ⟨m_9, q_11, t_10, k_12⟩ := id k_0
  obtain ⟨v_14, v_16, e_13, b_15⟩ := hW.at m_9 t_10
  refine v_get hC fl_X9_13 m_9 e_13 rfl dX9_takeFrom_6 ?_
  refine v_iconst hC dX9_takeFrom_9 (v := 0) (by decide) ?_
  refine v_sipush hC dX9_takeFrom_10 (v := 300) (by decide) ?_
  obtain ⟨m_17, t_18⟩ := id k_4
  obtain ⟨g_20, e_19⟩ := hW.at m_17 t_18
  obtain ⟨m_21, t_22⟩ := id k_12
  obtain ⟨g_24, e_23⟩ := hW.at m_21 t_22
  refine v_copyi hC mo_X9_17 cp_n_ cp_s_ cp_i_ m_17 e_19 m_21 e_23 (by decide) (by decide) (by decide) (by decide) (by decide) (by decide) (Nat.le_of_ble_eq_true rfl) dX9_takeFrom_13 (fun f_25 hf_26 hk_27 => ?_)
  have hW_28 := hW.up hf_26 hk_27 t_22 ⟨_, rfl⟩
  obtain ⟨g_29, hf_26⟩ : ∃ g9, f_25 q_11 = aI E 300 g9 := ⟨_, hf_26⟩
  have hf_30 := (hk_27 a_1 (ne_kd e_5 e_23 rfl)).trans e_5
  have hf_31 := (hk_27 a_0 (ne_kd e_13 e_23 rfl)).trans e_13
  have fr_32 := FR.w hk_27 e_23 (k := 400) rfl
  refine v_aload_n hC dX9_takeFrom_16 rfl ?_
  refine v_aload_n hC dX9_takeFrom_17 rfl ?_
  refine v_get hC fl_X9_23 m_1 hf_30 rfl dX9_takeFrom_18 ?_
  refine v_put hC fl_X9_23 m_9 hf_31 rfl rfl (Nat.le_of_ble_eq_true rfl) (fs' := [.ref q_11, .int v_6, .int v_16]) rfl dX9_takeFrom_21 (fun f_33 hf_34 hk_35 => ?_)
  have hW_36 := hW_28.up hf_34 hk_35 t_10 ⟨v_6, v_16, rfl, (by first | omega | (simp only [Int32.lt_iff_toInt_lt, Int32.le_iff_toInt_le, Int32.reduceToInt, ← Int32.toInt_inj, true_and, and_true, or_true, true_or, false_or, or_false, false_and, and_false, not_true_eq_false, not_false_eq_true] <;> omega))⟩
  have hf_37 := (hk_35 q_11 (ne_kd hf_26 hf_31 rfl)).trans hf_26
  have fr_38 := FR.w hk_35 hf_31 (k := 9) rfl
  refine v_aload_n hC dX9_takeFrom_24 rfl ?_
  refine v_aload_n hC dX9_takeFrom_25 rfl ?_
  obtain ⟨v_40, v_42, e_39, b_41⟩ := hW_36.at m_1 t_2
  refine v_get hC fl_X9_27 m_1 e_39 rfl dX9_takeFrom_26 ?_
  refine v_put hC fl_X9_27 m_9 hf_34 rfl rfl (Nat.le_of_ble_eq_true rfl) (fs' := [.ref q_11, .int v_6, .int v_42]) rfl dX9_takeFrom_29 (fun f_43 hf_44 hk_45 => ?_)
  have hW_46 := hW_36.up hf_44 hk_45 t_10 ⟨v_6, v_42, rfl, (by first | omega | (simp only [Int32.lt_iff_toInt_lt, Int32.le_iff_toInt_le, Int32.reduceToInt, ← Int32.toInt_inj, true_and, and_true, or_true, true_or, false_or, or_false, false_and, and_false, not_true_eq_false, not_false_eq_true] <;> omega))⟩
  have hf_47 := (hk_45 q_11 (ne_kd hf_37 hf_34 rfl)).trans hf_37
  have fr_48 := FR.w hk_45 hf_34 (k := 9) rfl
  exact hR _ _ _ _ _ _ dX9_takeFrom_32 (Nat.le_of_ble_eq_true rfl) (Nat.le_of_ble_eq_true rfl) ⟨rfl, hW_46, (((fr_32.tr fr_38).tr fr_48).mono rfl)⟩
set_option maxRecDepth 100000 in
set_option maxHeartbeats 8000000 in
theorem p_X9_nameOfCounter {l : Launch} {E : Ez} {L : List Nat} {f : Nat → va_E} {T : Nat → va_E → Prop} {a_0 : Int32} (hW : WT T L f) : CQ l yX9_nameOfCounter cX9_nameOfCounter 1 (.object "java/lang/String") 0 0 0 E [.int a_0] L f (fun r L1 f1 => L = L1 ∧ f = f1 ∧ (∃ j : Nat, j < 77 ∧ r = some (eK E j))) := by
  refine cq_of (by decide) (Nat.le_of_ble_eq_true rfl) (fun z hz hnm hC hR => ?_)
  have hC : Cx z E cX9_nameOfCounter RX9 1 0 0 0 := hC
  subst hz
  show V z E 1 0 0 L f 0 [(0, .int a_0)] []
  refine v_iload_n hC dX9_nameOfCounter_0 rfl ?_
  by_cases h_1 : a_0 = 0
  · refine v_tableIn hC dX9_nameOfCounter_1 (off := 43) (tgt := 44) (by rw [h_1]; decide) (by rw [h_1]; decide) (by rw [h_1]; rfl) (by decide) ?_
    simp only [Int32.lt_iff_toInt_lt, Int32.le_iff_toInt_le, Int32.reduceToInt, ← Int32.toInt_inj] at h_1
    refine v_ldcS hC sr_X9_95 dX9_nameOfCounter_44 ?_
    exact hR _ _ _ _ _ _ _ dX9_nameOfCounter_46 (Nat.le_of_ble_eq_true rfl) (Nat.le_of_ble_eq_true rfl) ⟨rfl, rfl, ⟨18, (by decide), rfl⟩⟩
  by_cases h_2 : a_0 = 1
  · refine v_tableIn hC dX9_nameOfCounter_1 (off := 46) (tgt := 47) (by rw [h_2]; decide) (by rw [h_2]; decide) (by rw [h_2]; rfl) (by decide) ?_
    simp only [Int32.lt_iff_toInt_lt, Int32.le_iff_toInt_le, Int32.reduceToInt, ← Int32.toInt_inj] at h_2
    refine v_ldcS hC sr_X9_97 dX9_nameOfCounter_47 ?_
    exact hR _ _ _ _ _ _ _ dX9_nameOfCounter_49 (Nat.le_of_ble_eq_true rfl) (Nat.le_of_ble_eq_true rfl) ⟨rfl, rfl, ⟨19, (by decide), rfl⟩⟩
  by_cases h_3 : a_0 = 2
  · refine v_tableIn hC dX9_nameOfCounter_1 (off := 49) (tgt := 50) (by rw [h_3]; decide) (by rw [h_3]; decide) (by rw [h_3]; rfl) (by decide) ?_
    simp only [Int32.lt_iff_toInt_lt, Int32.le_iff_toInt_le, Int32.reduceToInt, ← Int32.toInt_inj] at h_3
    refine v_ldcS hC sr_X9_99 dX9_nameOfCounter_50 ?_
    exact hR _ _ _ _ _ _ _ dX9_nameOfCounter_52 (Nat.le_of_ble_eq_true rfl) (Nat.le_of_ble_eq_true rfl) ⟨rfl, rfl, ⟨20, (by decide), rfl⟩⟩
  by_cases h_4 : a_0 = 3
  · refine v_tableIn hC dX9_nameOfCounter_1 (off := 52) (tgt := 53) (by rw [h_4]; decide) (by rw [h_4]; decide) (by rw [h_4]; rfl) (by decide) ?_
    simp only [Int32.lt_iff_toInt_lt, Int32.le_iff_toInt_le, Int32.reduceToInt, ← Int32.toInt_inj] at h_4
    refine v_ldcS hC sr_X9_101 dX9_nameOfCounter_53 ?_
    exact hR _ _ _ _ _ _ _ dX9_nameOfCounter_55 (Nat.le_of_ble_eq_true rfl) (Nat.le_of_ble_eq_true rfl) ⟨rfl, rfl, ⟨21, (by decide), rfl⟩⟩
  by_cases h_5 : a_0 = 4
  · refine v_tableIn hC dX9_nameOfCounter_1 (off := 55) (tgt := 56) (by rw [h_5]; decide) (by rw [h_5]; decide) (by rw [h_5]; rfl) (by decide) ?_
    simp only [Int32.lt_iff_toInt_lt, Int32.le_iff_toInt_le, Int32.reduceToInt, ← Int32.toInt_inj] at h_5
    refine v_ldcS hC sr_X9_103 dX9_nameOfCounter_56 ?_
    exact hR _ _ _ _ _ _ _ dX9_nameOfCounter_58 (Nat.le_of_ble_eq_true rfl) (Nat.le_of_ble_eq_true rfl) ⟨rfl, rfl, ⟨22, (by decide), rfl⟩⟩
  by_cases h_6 : a_0 = 5
  · refine v_tableIn hC dX9_nameOfCounter_1 (off := 58) (tgt := 59) (by rw [h_6]; decide) (by rw [h_6]; decide) (by rw [h_6]; rfl) (by decide) ?_
    simp only [Int32.lt_iff_toInt_lt, Int32.le_iff_toInt_le, Int32.reduceToInt, ← Int32.toInt_inj] at h_6
    refine v_ldcS hC sr_X9_105 dX9_nameOfCounter_59 ?_
    exact hR _ _ _ _ _ _ _ dX9_nameOfCounter_61 (Nat.le_of_ble_eq_true rfl) (Nat.le_of_ble_eq_true rfl) ⟨rfl, rfl, ⟨23, (by decide), rfl⟩⟩
  by_cases h_7 : a_0 = 6
  · refine v_tableIn hC dX9_nameOfCounter_1 (off := 61) (tgt := 62) (by rw [h_7]; decide) (by rw [h_7]; decide) (by rw [h_7]; rfl) (by decide) ?_
    simp only [Int32.lt_iff_toInt_lt, Int32.le_iff_toInt_le, Int32.reduceToInt, ← Int32.toInt_inj] at h_7
    refine v_ldcS hC sr_X9_107 dX9_nameOfCounter_62 ?_
    exact hR _ _ _ _ _ _ _ dX9_nameOfCounter_64 (Nat.le_of_ble_eq_true rfl) (Nat.le_of_ble_eq_true rfl) ⟨rfl, rfl, ⟨24, (by decide), rfl⟩⟩
  simp only [Int32.lt_iff_toInt_lt, Int32.le_iff_toInt_le, Int32.reduceToInt, ← Int32.toInt_inj] at h_1 h_2 h_3 h_4 h_5 h_6 h_7
  refine v_tableOut hC dX9_nameOfCounter_1 (tgt := 65) (by omega) (by decide) ?_
  refine v_ldcS hC sr_X9_109 dX9_nameOfCounter_65 ?_
  exact hR _ _ _ _ _ _ _ dX9_nameOfCounter_67 (Nat.le_of_ble_eq_true rfl) (Nat.le_of_ble_eq_true rfl) ⟨rfl, rfl, ⟨25, (by decide), rfl⟩⟩
set_option maxRecDepth 100000 in
set_option maxHeartbeats 8000000 in
theorem p_X9_addCode {l : Launch} {E : Ez} {L : List Nat} {f : Nat → va_E} {T : Nat → va_E → Prop} {a_0 : Nat} {a_1 : Int32} (hW : WT T L f) (k_0 : isWat T L E a_0) : CV l yX9_addCode cX9_addCode 2 0 0 0 E [.ref a_0, .int a_1] L f (fun L1 f1 => L = L1 ∧ WT T L f1 ∧ FR [9, 400] f f1) := by
  refine cv_of (by decide) (Nat.le_of_ble_eq_true rfl) (fun z hz hnm hC hR => ?_)
  have hC : Cx z E cX9_addCode RX9 2 0 0 0 := hC
  subst hz
  show V z E 2 0 0 L f 0 [(0, .ref a_0), (1, .int a_1)] []
  refine v_aload_n hC dX9_addCode_0 rfl ?_
  obtain ⟨m_1, q_3, t_2, k_4⟩ := id k_0
  obtain ⟨v_6, v_8, e_5, b_7⟩ := hW.at m_1 t_2
  refine v_get hC fl_X9_23 m_1 e_5 rfl dX9_addCode_1 ?_
  refine v_sipush hC dX9_addCode_4 (v := 300) (by decide) ?_
  refine v_icmp_ge hC dX9_addCode_7 (tgt := 30) (by decide) (fun h_9 => ?_) (fun h_9 => ?_)
  · simp only [Int32.lt_iff_toInt_lt, Int32.le_iff_toInt_le, Int32.reduceToInt, ← Int32.toInt_inj] at h_9
    exact hR _ _ _ _ _ _ dX9_addCode_30 (Nat.le_of_ble_eq_true rfl) (Nat.le_of_ble_eq_true rfl) ⟨rfl, hW, FR.rf⟩
  · simp only [Int32.lt_iff_toInt_lt, Int32.le_iff_toInt_le, Int32.reduceToInt, ← Int32.toInt_inj] at h_9
    refine v_aload_n hC dX9_addCode_10 rfl ?_
    refine v_get hC fl_X9_13 m_1 e_5 rfl dX9_addCode_11 ?_
    refine v_aload_n hC dX9_addCode_14 rfl ?_
    refine v_get hC fl_X9_23 m_1 e_5 rfl dX9_addCode_15 ?_
    refine v_iload_n hC dX9_addCode_18 rfl ?_
    obtain ⟨m_10, t_11⟩ := id k_4
    obtain ⟨g_13, e_12⟩ := hW.at m_10 t_11
    refine v_iast hC m_10 e_12 (vp_in_iff.mpr (by first | omega | (simp only [Int32.lt_iff_toInt_lt, Int32.le_iff_toInt_le, Int32.reduceToInt, ← Int32.toInt_inj, true_and, and_true, or_true, true_or, false_or, or_false, false_and, and_false, not_true_eq_false, not_false_eq_true] <;> omega))) dX9_addCode_19 (fun f_14 hf_15 hk_16 => ?_)
    have hW_18 := hW.up hf_15 hk_16 t_11 ⟨_, rfl⟩
    obtain ⟨g_17, hf_15⟩ : ∃ g9, f_14 q_3 = aI E 300 g9 := ⟨_, hf_15⟩
    have hf_19 := (hk_16 a_0 (ne_kd e_5 e_12 rfl)).trans e_5
    have fr_20 := FR.w hk_16 e_12 (k := 400) rfl
    refine v_aload_n hC dX9_addCode_20 rfl ?_
    refine v_dup hC dX9_addCode_21 rfl ?_
    refine v_get hC fl_X9_23 m_1 hf_19 rfl dX9_addCode_22 ?_
    refine v_iconst hC dX9_addCode_25 (v := 1) (by decide) ?_
    obtain ⟨v_21, h_22⟩ : ∃ v9 : Int32, v_6 + 1 = v9 := ⟨_, rfl⟩
    refine v_iadd hC dX9_addCode_26 h_22 ?_
    have h_23 := add_v h_22 (by first | omega | (simp only [Int32.lt_iff_toInt_lt, Int32.le_iff_toInt_le, Int32.reduceToInt, ← Int32.toInt_inj, true_and, and_true, or_true, true_or, false_or, or_false, false_and, and_false, not_true_eq_false, not_false_eq_true] <;> omega)) (by first | omega | (simp only [Int32.lt_iff_toInt_lt, Int32.le_iff_toInt_le, Int32.reduceToInt, ← Int32.toInt_inj, true_and, and_true, or_true, true_or, false_or, or_false, false_and, and_false, not_true_eq_false, not_false_eq_true] <;> omega))
    try simp only [Int32.reduceToInt] at h_23
    refine v_put hC fl_X9_23 m_1 hf_19 rfl rfl (Nat.le_of_ble_eq_true rfl) (fs' := [.ref q_3, .int v_21, .int v_8]) rfl dX9_addCode_27 (fun f_24 hf_25 hk_26 => ?_)
    have hW_27 := hW_18.up hf_25 hk_26 t_2 ⟨v_21, v_8, rfl, (by first | omega | (simp only [Int32.lt_iff_toInt_lt, Int32.le_iff_toInt_le, Int32.reduceToInt, ← Int32.toInt_inj, true_and, and_true, or_true, true_or, false_or, or_false, false_and, and_false, not_true_eq_false, not_false_eq_true] <;> omega))⟩
    have hf_28 := (hk_26 q_3 (ne_kd hf_15 hf_19 rfl)).trans hf_15
    have fr_29 := FR.w hk_26 hf_19 (k := 9) rfl
    exact hR _ _ _ _ _ _ dX9_addCode_30 (Nat.le_of_ble_eq_true rfl) (Nat.le_of_ble_eq_true rfl) ⟨rfl, hW_27, ((fr_20.tr fr_29).mono rfl)⟩
set_option maxRecDepth 100000 in
set_option maxHeartbeats 8000000 in
theorem p_X9_tellPart {l : Launch} {E : Ez} {L : List Nat} {f : Nat → va_E} {T : Nat → va_E → Prop} {a_0 : Nat} {a_1 : Nat} (hW : WT T L f) (k_0 : isWat T L E a_0) (k_1 : isTape T L E a_1) : CV l yX9_tellPart cX9_tellPart 3 6 0 0 E [.ref a_0, .ref a_1] L f (fun L1 f1 => L = L1 ∧ WT T L f1 ∧ FR [7, 9, 400] f f1) := by
  refine cv_of (by decide) (Nat.le_of_ble_eq_true rfl) (fun z hz hnm hC hR => ?_)
  have hC : Cx z E cX9_tellPart RX9 3 6 0 0 := hC
  subst hz
  show V z E 3 0 0 L f 0 [(0, .ref a_0), (1, .ref a_1)] []
  refine v_aload_n hC dX9_tellPart_0 rfl ?_
  obtain ⟨m_1, q_3, t_2, k_4⟩ := id k_1
  obtain ⟨v_6, v_8, v_9, v_11, v_13, v_14, e_5, b_7, b_10, b_12⟩ := hW.at m_1 t_2
  refine v_vi hC (rest := []) m_1 e_5 rfl mi_X7_isNumber ms_X7_isNumber (p_X7_isNumber hW k_1) mx_X7_isNumber ml_X9_75 (by decide) rfl (cells1 := 0) (slots1 := 0) (by decide) (by decide) (Nat.le_of_ble_eq_true rfl) (Nat.le_of_ble_eq_true rfl) rfl (Nat.le_of_ble_eq_true rfl) dX9_tellPart_1 (fun r_15 L_16 f_17 h_18 => ?_)
  obtain ⟨rfl, rfl, b_19⟩ := h_18
  refine v_if_eq hC dX9_tellPart_4 (tgt := 20) (by decide) (fun h_22 => ?_) (fun h_22 => ?_)
  · simp only [Int32.lt_iff_toInt_lt, Int32.le_iff_toInt_le, Int32.reduceToInt, ← Int32.toInt_inj] at h_22
    refine v_iconst hC dX9_tellPart_20 (v := 0) (by decide) ?_
    refine v_istore_n hC dX9_tellPart_21 (by decide) (lv' := [(2, .int 0), (0, .ref a_0), (1, .ref a_1)]) rfl ?_
    have lp_279 : ∀ (n_280 : Nat) (f_275 : Nat → va_E) (hW_276 : WT T L f_275) (hF_277 : FR [7] f f_275) (i_274 : Int32) (b_278 : (0 ≤ i_274.toInt ∧ i_274.toInt ≤ 8)) (hm_282 : 8 - i_274.toInt < (n_280 : Int)), V z E 3 0 0 L f_275 22 [(2, .int i_274), (0, .ref a_0), (1, .ref a_1)] [] := by
      intro n_280
      induction n_280 with
      | zero =>
        intro f_275 hW_276 hF_277 i_274 b_278 hm_282
        exfalso; omega
      | succ n_280 ih_281 =>
        intro f_275 hW_276 hF_277 i_274 b_278 hm_282
        refine v_iload_n hC dX9_tellPart_22 rfl ?_
        refine v_bipush hC dX9_tellPart_23 (v := 8) (by decide) ?_
        refine v_icmp_ge hC dX9_tellPart_25 (tgt := 55) (by decide) (fun h_283 => ?_) (fun h_283 => ?_)
        · simp only [Int32.lt_iff_toInt_lt, Int32.le_iff_toInt_le, Int32.reduceToInt, ← Int32.toInt_inj] at h_283
          refine v_aload_n hC dX9_tellPart_55 rfl ?_
          refine v_iconst hC dX9_tellPart_56 (v := 1) (by decide) ?_
          obtain ⟨v_285, v_287, v_288, v_290, v_292, v_293, e_284, b_286, b_289, b_291⟩ := hW_276.at m_1 t_2
          refine v_vv hC (rest := []) m_1 e_284 rfl mi_X7_complain ms_X7_complain (p_X7_complain hW_276 k_1) mx_X7_complain ml_X9_45 (by decide) rfl (cells1 := 0) (slots1 := 0) (by decide) (by decide) (Nat.le_of_ble_eq_true rfl) (Nat.le_of_ble_eq_true rfl) rfl (Nat.le_of_ble_eq_true rfl) dX9_tellPart_57 (fun L_295 f_296 h_297 => ?_)
          obtain ⟨rfl, hW_298, hF_299⟩ := h_297
          exact hR _ _ _ _ _ _ dX9_tellPart_60 (Nat.le_of_ble_eq_true rfl) (Nat.le_of_ble_eq_true rfl) ⟨rfl, hW_298, ((hF_277.tr hF_299).mono rfl)⟩
        · simp only [Int32.lt_iff_toInt_lt, Int32.le_iff_toInt_le, Int32.reduceToInt, ← Int32.toInt_inj] at h_283
          refine v_aload_n hC dX9_tellPart_28 rfl ?_
          refine v_iload_n hC dX9_tellPart_29 rfl ?_
          refine v_sq hC (rest := [.ref a_1]) mt_X9_nameOfCounter (p_X9_nameOfCounter hW_276) mx_X9_nameOfCounter ml_X9_82 (by decide) rfl (cells1 := 0) (slots1 := 0) (by decide) (by decide) (Nat.le_of_ble_eq_true rfl) (Nat.le_of_ble_eq_true rfl) rfl (Nat.le_of_ble_eq_true rfl) dX9_tellPart_30 (fun r_300 L_301 f_302 h_303 => ?_)
          obtain ⟨rfl, rfl, ⟨jj_304, hjj_304, rfl⟩⟩ := h_303
          obtain ⟨v_308, v_310, v_311, v_313, v_315, v_316, e_307, b_309, b_312, b_314⟩ := hW_276.at m_1 t_2
          refine v_vi hC (rest := []) m_1 e_307 rfl mi_X7_mayTakeWord ms_X7_mayTakeWord (p_X7_mayTakeWord hW_276 k_1 hjj_304) mx_X7_mayTakeWord ml_X9_86 (by decide) rfl (cells1 := 0) (slots1 := 0) (by decide) (by decide) (Nat.le_of_ble_eq_true rfl) (Nat.le_of_ble_eq_true rfl) rfl (Nat.le_of_ble_eq_true rfl) dX9_tellPart_33 (fun r_317 L_318 f_319 h_320 => ?_)
          obtain ⟨rfl, hW_322, hF_323, b_321⟩ := h_320
          refine v_if_eq hC dX9_tellPart_36 (tgt := 49) (by decide) (fun h_324 => ?_) (fun h_324 => ?_)
          · simp only [Int32.lt_iff_toInt_lt, Int32.le_iff_toInt_le, Int32.reduceToInt, ← Int32.toInt_inj] at h_324
            obtain ⟨v_325, h_326⟩ : ∃ v9 : Int32, i_274 + Int32.ofInt 1 = v9 := ⟨_, rfl⟩
            have h_327 := add_v (b := 1) h_326 (by first | omega | (simp only [Int32.lt_iff_toInt_lt, Int32.le_iff_toInt_le, Int32.reduceToInt, ← Int32.toInt_inj, true_and, and_true, or_true, true_or, false_or, or_false, false_and, and_false, not_true_eq_false, not_false_eq_true] <;> omega)) (by first | omega | (simp only [Int32.lt_iff_toInt_lt, Int32.le_iff_toInt_le, Int32.reduceToInt, ← Int32.toInt_inj, true_and, and_true, or_true, true_or, false_or, or_false, false_and, and_false, not_true_eq_false, not_false_eq_true] <;> omega))
            simp only [Int32.reduceToInt] at h_327
            refine v_iinc hC dX9_tellPart_49 (k := 0) rfl (v := v_325) h_326 (by decide) (lv' := [(2, .int v_325), (0, .ref a_0), (1, .ref a_1)]) rfl ?_
            refine v_goto hC dX9_tellPart_52 (tgt := 22) (by decide) ?_
            refine v_pick [0, 1, 2] rfl ?_
            exact ih_281 f_319 hW_322 ((hF_277.tr hF_323).mono rfl) v_325 (by first | omega | (simp only [Int32.lt_iff_toInt_lt, Int32.le_iff_toInt_le, Int32.reduceToInt, ← Int32.toInt_inj, true_and, and_true, or_true, true_or, false_or, or_false, false_and, and_false, not_true_eq_false, not_false_eq_true] <;> omega)) (by first | omega | (simp only [Int32.lt_iff_toInt_lt, Int32.le_iff_toInt_le, Int32.reduceToInt, ← Int32.toInt_inj, true_and, and_true, or_true, true_or, false_or, or_false, false_and, and_false, not_true_eq_false, not_false_eq_true] <;> omega))
          · simp only [Int32.lt_iff_toInt_lt, Int32.le_iff_toInt_le, Int32.reduceToInt, ← Int32.toInt_inj] at h_324
            refine v_aload_n hC dX9_tellPart_39 rfl ?_
            refine v_sipush hC dX9_tellPart_40 (v := 1000) (by decide) ?_
            refine v_iload_n hC dX9_tellPart_43 rfl ?_
            obtain ⟨v_328, h_329⟩ : ∃ v9 : Int32, (1000 : Int32) + i_274 = v9 := ⟨_, rfl⟩
            refine v_iadd hC dX9_tellPart_44 h_329 ?_
            have h_330 := add_v h_329 (by first | omega | (simp only [Int32.lt_iff_toInt_lt, Int32.le_iff_toInt_le, Int32.reduceToInt, ← Int32.toInt_inj, true_and, and_true, or_true, true_or, false_or, or_false, false_and, and_false, not_true_eq_false, not_false_eq_true] <;> omega)) (by first | omega | (simp only [Int32.lt_iff_toInt_lt, Int32.le_iff_toInt_le, Int32.reduceToInt, ← Int32.toInt_inj, true_and, and_true, or_true, true_or, false_or, or_false, false_and, and_false, not_true_eq_false, not_false_eq_true] <;> omega))
            try simp only [Int32.reduceToInt] at h_330
            obtain ⟨m_331, q_333, t_332, k_334⟩ := id k_0
            obtain ⟨v_336, v_338, e_335, b_337⟩ := hW_322.at m_331 t_332
            refine v_vv hC (rest := []) m_331 e_335 rfl mi_X9_addCode ms_X9_addCode (p_X9_addCode hW_322 k_0) mx_X9_addCode ml_X9_72 (by decide) rfl (cells1 := 0) (slots1 := 0) (by decide) (by decide) (Nat.le_of_ble_eq_true rfl) (Nat.le_of_ble_eq_true rfl) rfl (Nat.le_of_ble_eq_true rfl) dX9_tellPart_45 (fun L_340 f_341 h_342 => ?_)
            obtain ⟨rfl, hW_343, hF_344⟩ := h_342
            exact hR _ _ _ _ _ _ dX9_tellPart_48 (Nat.le_of_ble_eq_true rfl) (Nat.le_of_ble_eq_true rfl) ⟨rfl, hW_343, (((hF_277.tr hF_323).tr hF_344).mono rfl)⟩
    refine v_pick [0, 1, 2] rfl ?_
    exact lp_279 10 f hW FR.rf 0 (by decide) (by decide)
  · simp only [Int32.lt_iff_toInt_lt, Int32.le_iff_toInt_le, Int32.reduceToInt, ← Int32.toInt_inj] at h_22
    refine v_aload_n hC dX9_tellPart_7 rfl ?_
    refine v_aload_n hC dX9_tellPart_8 rfl ?_
    refine v_iconst hC dX9_tellPart_9 (v := 0) (by decide) ?_
    refine v_sipush hC dX9_tellPart_10 (v := 999) (by decide) ?_
    refine v_vi hC (rest := [.ref a_0]) m_1 e_5 rfl mi_X7_takeNumber ms_X7_takeNumber (p_X7_takeNumber hW k_1) mx_X7_takeNumber ml_X9_78 (by decide) rfl (cells1 := 0) (slots1 := 0) (by decide) (by decide) (Nat.le_of_ble_eq_true rfl) (Nat.le_of_ble_eq_true rfl) rfl (Nat.le_of_ble_eq_true rfl) dX9_tellPart_13 (fun r_345 L_346 f_347 h_348 => ?_)
    obtain ⟨rfl, hW_350, hF_351, x_349⟩ := h_348
    try simp only [Int32.reduceToInt, Int64.reduceToInt] at x_349
    obtain ⟨m_352, q_354, t_353, k_355⟩ := id k_0
    obtain ⟨v_357, v_359, e_356, b_358⟩ := hW_350.at m_352 t_353
    refine v_vv hC (rest := []) m_352 e_356 rfl mi_X9_addCode ms_X9_addCode (p_X9_addCode hW_350 k_0) mx_X9_addCode ml_X9_72 (by decide) rfl (cells1 := 0) (slots1 := 0) (by decide) (by decide) (Nat.le_of_ble_eq_true rfl) (Nat.le_of_ble_eq_true rfl) rfl (Nat.le_of_ble_eq_true rfl) dX9_tellPart_16 (fun L_361 f_362 h_363 => ?_)
    obtain ⟨rfl, hW_364, hF_365⟩ := h_363
    exact hR _ _ _ _ _ _ dX9_tellPart_19 (Nat.le_of_ble_eq_true rfl) (Nat.le_of_ble_eq_true rfl) ⟨rfl, hW_364, ((hF_351.tr hF_365).mono rfl)⟩
set_option maxRecDepth 100000 in
set_option maxHeartbeats 8000000 in
theorem p_X9_nameOfLink {l : Launch} {E : Ez} {L : List Nat} {f : Nat → va_E} {T : Nat → va_E → Prop} {a_0 : Int32} (hW : WT T L f) : CQ l yX9_nameOfLink cX9_nameOfLink 1 (.object "java/lang/String") 0 0 0 E [.int a_0] L f (fun r L1 f1 => L = L1 ∧ f = f1 ∧ (∃ j : Nat, j < 77 ∧ r = some (eK E j))) := by
  refine cq_of (by decide) (Nat.le_of_ble_eq_true rfl) (fun z hz hnm hC hR => ?_)
  have hC : Cx z E cX9_nameOfLink RX9 1 0 0 0 := hC
  subst hz
  show V z E 1 0 0 L f 0 [(0, .int a_0)] []
  refine v_iload_n hC dX9_nameOfLink_0 rfl ?_
  by_cases h_1 : a_0 = 2000
  · refine v_tableIn hC dX9_nameOfLink_1 (off := 39) (tgt := 40) (by rw [h_1]; decide) (by rw [h_1]; decide) (by rw [h_1]; rfl) (by decide) ?_
    simp only [Int32.lt_iff_toInt_lt, Int32.le_iff_toInt_le, Int32.reduceToInt, ← Int32.toInt_inj] at h_1
    refine v_ldcS hC sr_X9_111 dX9_nameOfLink_40 ?_
    exact hR _ _ _ _ _ _ _ dX9_nameOfLink_42 (Nat.le_of_ble_eq_true rfl) (Nat.le_of_ble_eq_true rfl) ⟨rfl, rfl, ⟨26, (by decide), rfl⟩⟩
  by_cases h_2 : a_0 = 2001
  · refine v_tableIn hC dX9_nameOfLink_1 (off := 42) (tgt := 43) (by rw [h_2]; decide) (by rw [h_2]; decide) (by rw [h_2]; rfl) (by decide) ?_
    simp only [Int32.lt_iff_toInt_lt, Int32.le_iff_toInt_le, Int32.reduceToInt, ← Int32.toInt_inj] at h_2
    refine v_ldcS hC sr_X9_113 dX9_nameOfLink_43 ?_
    exact hR _ _ _ _ _ _ _ dX9_nameOfLink_45 (Nat.le_of_ble_eq_true rfl) (Nat.le_of_ble_eq_true rfl) ⟨rfl, rfl, ⟨27, (by decide), rfl⟩⟩
  by_cases h_3 : a_0 = 2002
  · refine v_tableIn hC dX9_nameOfLink_1 (off := 45) (tgt := 46) (by rw [h_3]; decide) (by rw [h_3]; decide) (by rw [h_3]; rfl) (by decide) ?_
    simp only [Int32.lt_iff_toInt_lt, Int32.le_iff_toInt_le, Int32.reduceToInt, ← Int32.toInt_inj] at h_3
    refine v_ldcS hC sr_X9_115 dX9_nameOfLink_46 ?_
    exact hR _ _ _ _ _ _ _ dX9_nameOfLink_48 (Nat.le_of_ble_eq_true rfl) (Nat.le_of_ble_eq_true rfl) ⟨rfl, rfl, ⟨28, (by decide), rfl⟩⟩
  by_cases h_4 : a_0 = 2003
  · refine v_tableIn hC dX9_nameOfLink_1 (off := 48) (tgt := 49) (by rw [h_4]; decide) (by rw [h_4]; decide) (by rw [h_4]; rfl) (by decide) ?_
    simp only [Int32.lt_iff_toInt_lt, Int32.le_iff_toInt_le, Int32.reduceToInt, ← Int32.toInt_inj] at h_4
    refine v_ldcS hC sr_X9_117 dX9_nameOfLink_49 ?_
    exact hR _ _ _ _ _ _ _ dX9_nameOfLink_51 (Nat.le_of_ble_eq_true rfl) (Nat.le_of_ble_eq_true rfl) ⟨rfl, rfl, ⟨29, (by decide), rfl⟩⟩
  by_cases h_5 : a_0 = 2004
  · refine v_tableIn hC dX9_nameOfLink_1 (off := 51) (tgt := 52) (by rw [h_5]; decide) (by rw [h_5]; decide) (by rw [h_5]; rfl) (by decide) ?_
    simp only [Int32.lt_iff_toInt_lt, Int32.le_iff_toInt_le, Int32.reduceToInt, ← Int32.toInt_inj] at h_5
    refine v_ldcS hC sr_X9_119 dX9_nameOfLink_52 ?_
    exact hR _ _ _ _ _ _ _ dX9_nameOfLink_54 (Nat.le_of_ble_eq_true rfl) (Nat.le_of_ble_eq_true rfl) ⟨rfl, rfl, ⟨30, (by decide), rfl⟩⟩
  by_cases h_6 : a_0 = 2005
  · refine v_tableIn hC dX9_nameOfLink_1 (off := 54) (tgt := 55) (by rw [h_6]; decide) (by rw [h_6]; decide) (by rw [h_6]; rfl) (by decide) ?_
    simp only [Int32.lt_iff_toInt_lt, Int32.le_iff_toInt_le, Int32.reduceToInt, ← Int32.toInt_inj] at h_6
    refine v_ldcS hC sr_X9_121 dX9_nameOfLink_55 ?_
    exact hR _ _ _ _ _ _ _ dX9_nameOfLink_57 (Nat.le_of_ble_eq_true rfl) (Nat.le_of_ble_eq_true rfl) ⟨rfl, rfl, ⟨31, (by decide), rfl⟩⟩
  simp only [Int32.lt_iff_toInt_lt, Int32.le_iff_toInt_le, Int32.reduceToInt, ← Int32.toInt_inj] at h_1 h_2 h_3 h_4 h_5 h_6
  refine v_tableOut hC dX9_nameOfLink_1 (tgt := 58) (by omega) (by decide) ?_
  refine v_ldcS hC sr_X9_123 dX9_nameOfLink_58 ?_
  exact hR _ _ _ _ _ _ _ dX9_nameOfLink_60 (Nat.le_of_ble_eq_true rfl) (Nat.le_of_ble_eq_true rfl) ⟨rfl, rfl, ⟨32, (by decide), rfl⟩⟩
set_option maxRecDepth 100000 in
set_option maxHeartbeats 8000000 in
theorem p_X9_linkAt {l : Launch} {E : Ez} {L : List Nat} {f : Nat → va_E} {T : Nat → va_E → Prop} {a_0 : Nat} {a_1 : Int32} (hW : WT T L f) (k_0 : isTape T L E a_0) : CI l yX9_linkAt cX9_linkAt 4 .int 5 0 0 E [.ref a_0, .int a_1] L f (fun r L1 f1 => L = L1 ∧ f = f1 ∧ ((-1) ≤ r.toInt ∧ r.toInt ≤ 2007)) := by
  refine ci_of (by decide) (Nat.le_of_ble_eq_true rfl) (fun z hz hnm hC hR => ?_)
  have hC : Cx z E cX9_linkAt RX9 4 5 0 0 := hC
  subst hz
  show V z E 4 0 0 L f 0 [(0, .ref a_0), (1, .int a_1)] []
  refine v_iload_n hC dX9_linkAt_0 rfl ?_
  refine v_if_eq hC dX9_linkAt_1 (tgt := 15) (by decide) (fun h_1 => ?_) (fun h_1 => ?_)
  · simp only [Int32.lt_iff_toInt_lt, Int32.le_iff_toInt_le, Int32.reduceToInt, ← Int32.toInt_inj] at h_1
    refine v_sipush hC dX9_linkAt_15 (v := 2000) (by decide) ?_
    refine v_istore_n hC dX9_linkAt_18 (by decide) (lv' := [(2, .int 2000), (0, .ref a_0), (1, .int a_1)]) rfl ?_
    have lp_141 : ∀ (n_142 : Nat) (i_139 : Int32) (b_140 : (2000 ≤ i_139.toInt ∧ i_139.toInt ≤ 2007)) (hm_144 : 2007 - i_139.toInt < (n_142 : Int)), V z E 4 0 0 L f 19 [(2, .int i_139), (0, .ref a_0), (1, .int a_1)] [] := by
      intro n_142
      induction n_142 with
      | zero =>
        intro i_139 b_140 hm_144
        exfalso; omega
      | succ n_142 ih_143 =>
        intro i_139 b_140 hm_144
        refine v_iload_n hC dX9_linkAt_19 rfl ?_
        refine v_sipush hC dX9_linkAt_20 (v := 2006) (by decide) ?_
        refine v_icmp_gt hC dX9_linkAt_23 (tgt := 78) (by decide) (fun h_145 => ?_) (fun h_145 => ?_)
        · simp only [Int32.lt_iff_toInt_lt, Int32.le_iff_toInt_le, Int32.reduceToInt, ← Int32.toInt_inj] at h_145
          refine v_iconst hC dX9_linkAt_78 (v := (-1)) (by decide) ?_
          exact hR _ _ _ _ _ _ _ dX9_linkAt_79 rfl (Nat.le_of_ble_eq_true rfl) (Nat.le_of_ble_eq_true rfl) ⟨rfl, rfl, (by decide)⟩
        · simp only [Int32.lt_iff_toInt_lt, Int32.le_iff_toInt_le, Int32.reduceToInt, ← Int32.toInt_inj] at h_145
          refine v_iload_n hC dX9_linkAt_26 rfl ?_
          refine v_sipush hC dX9_linkAt_27 (v := 2002) (by decide) ?_
          have jn_148 : ∀ (v_149 : Int32) (b_150 : (0 ≤ v_149.toInt ∧ v_149.toInt ≤ 1)), V z E 4 0 0 L f 54 [(2, .int i_139), (0, .ref a_0), (1, .int a_1)] [.int v_149] := by
            intro v_149 b_150
            refine v_istore_n hC dX9_linkAt_54 (by decide) (lv' := [(3, .int v_149), (2, .int i_139), (0, .ref a_0), (1, .int a_1)]) rfl ?_
            refine v_iload_n hC dX9_linkAt_55 rfl ?_
            refine v_if_eq hC dX9_linkAt_56 (tgt := 72) (by decide) (fun h_151 => ?_) (fun h_151 => ?_)
            · simp only [Int32.lt_iff_toInt_lt, Int32.le_iff_toInt_le, Int32.reduceToInt, ← Int32.toInt_inj] at h_151
              obtain ⟨v_152, h_153⟩ : ∃ v9 : Int32, i_139 + Int32.ofInt 1 = v9 := ⟨_, rfl⟩
              have h_154 := add_v (b := 1) h_153 (by first | omega | (simp only [Int32.lt_iff_toInt_lt, Int32.le_iff_toInt_le, Int32.reduceToInt, ← Int32.toInt_inj, true_and, and_true, or_true, true_or, false_or, or_false, false_and, and_false, not_true_eq_false, not_false_eq_true] <;> omega)) (by first | omega | (simp only [Int32.lt_iff_toInt_lt, Int32.le_iff_toInt_le, Int32.reduceToInt, ← Int32.toInt_inj, true_and, and_true, or_true, true_or, false_or, or_false, false_and, and_false, not_true_eq_false, not_false_eq_true] <;> omega))
              simp only [Int32.reduceToInt] at h_154
              refine v_iinc hC dX9_linkAt_72 (k := 1) rfl (v := v_152) h_153 (by decide) (lv' := [(2, .int v_152), (3, .int v_149), (0, .ref a_0), (1, .int a_1)]) rfl ?_
              refine v_goto hC dX9_linkAt_75 (tgt := 19) (by decide) ?_
              refine v_pick [0, 2, 3] rfl ?_
              exact ih_143 v_152 (by first | omega | (simp only [Int32.lt_iff_toInt_lt, Int32.le_iff_toInt_le, Int32.reduceToInt, ← Int32.toInt_inj, true_and, and_true, or_true, true_or, false_or, or_false, false_and, and_false, not_true_eq_false, not_false_eq_true] <;> omega)) (by first | omega | (simp only [Int32.lt_iff_toInt_lt, Int32.le_iff_toInt_le, Int32.reduceToInt, ← Int32.toInt_inj, true_and, and_true, or_true, true_or, false_or, or_false, false_and, and_false, not_true_eq_false, not_false_eq_true] <;> omega))
            · simp only [Int32.lt_iff_toInt_lt, Int32.le_iff_toInt_le, Int32.reduceToInt, ← Int32.toInt_inj] at h_151
              refine v_aload_n hC dX9_linkAt_59 rfl ?_
              refine v_iload_n hC dX9_linkAt_60 rfl ?_
              refine v_sq hC (rest := [.ref a_0]) mt_X9_nameOfLink (p_X9_nameOfLink hW) mx_X9_nameOfLink ml_X9_92 (by decide) rfl (cells1 := 0) (slots1 := 0) (by decide) (by decide) (Nat.le_of_ble_eq_true rfl) (Nat.le_of_ble_eq_true rfl) rfl (Nat.le_of_ble_eq_true rfl) dX9_linkAt_61 (fun r_155 L_156 f_157 h_158 => ?_)
              obtain ⟨rfl, rfl, ⟨jj_159, hjj_159, rfl⟩⟩ := h_158
              obtain ⟨m_162, q_164, t_163, k_165⟩ := id k_0
              obtain ⟨v_167, v_169, v_170, v_172, v_174, v_175, e_166, b_168, b_171, b_173⟩ := hW.at m_162 t_163
              refine v_vi hC (rest := []) m_162 e_166 rfl mi_X7_isWord ms_X7_isWord (p_X7_isWord hW k_0 hjj_159) mx_X7_isWord ml_X9_41 (by decide) rfl (cells1 := 0) (slots1 := 0) (by decide) (by decide) (Nat.le_of_ble_eq_true rfl) (Nat.le_of_ble_eq_true rfl) rfl (Nat.le_of_ble_eq_true rfl) dX9_linkAt_64 (fun r_176 L_177 f_178 h_179 => ?_)
              obtain ⟨rfl, rfl, b_180⟩ := h_179
              refine v_if_eq hC dX9_linkAt_67 (tgt := 72) (by decide) (fun h_183 => ?_) (fun h_183 => ?_)
              · simp only [Int32.lt_iff_toInt_lt, Int32.le_iff_toInt_le, Int32.reduceToInt, ← Int32.toInt_inj] at h_183
                obtain ⟨v_184, h_185⟩ : ∃ v9 : Int32, i_139 + Int32.ofInt 1 = v9 := ⟨_, rfl⟩
                have h_186 := add_v (b := 1) h_185 (by first | omega | (simp only [Int32.lt_iff_toInt_lt, Int32.le_iff_toInt_le, Int32.reduceToInt, ← Int32.toInt_inj, true_and, and_true, or_true, true_or, false_or, or_false, false_and, and_false, not_true_eq_false, not_false_eq_true] <;> omega)) (by first | omega | (simp only [Int32.lt_iff_toInt_lt, Int32.le_iff_toInt_le, Int32.reduceToInt, ← Int32.toInt_inj, true_and, and_true, or_true, true_or, false_or, or_false, false_and, and_false, not_true_eq_false, not_false_eq_true] <;> omega))
                simp only [Int32.reduceToInt] at h_186
                refine v_iinc hC dX9_linkAt_72 (k := 1) rfl (v := v_184) h_185 (by decide) (lv' := [(2, .int v_184), (3, .int v_149), (0, .ref a_0), (1, .int a_1)]) rfl ?_
                refine v_goto hC dX9_linkAt_75 (tgt := 19) (by decide) ?_
                refine v_pick [0, 2, 3] rfl ?_
                exact ih_143 v_184 (by first | omega | (simp only [Int32.lt_iff_toInt_lt, Int32.le_iff_toInt_le, Int32.reduceToInt, ← Int32.toInt_inj, true_and, and_true, or_true, true_or, false_or, or_false, false_and, and_false, not_true_eq_false, not_false_eq_true] <;> omega)) (by first | omega | (simp only [Int32.lt_iff_toInt_lt, Int32.le_iff_toInt_le, Int32.reduceToInt, ← Int32.toInt_inj, true_and, and_true, or_true, true_or, false_or, or_false, false_and, and_false, not_true_eq_false, not_false_eq_true] <;> omega))
              · simp only [Int32.lt_iff_toInt_lt, Int32.le_iff_toInt_le, Int32.reduceToInt, ← Int32.toInt_inj] at h_183
                refine v_iload_n hC dX9_linkAt_70 rfl ?_
                exact hR _ _ _ _ _ _ _ dX9_linkAt_71 rfl (Nat.le_of_ble_eq_true rfl) (Nat.le_of_ble_eq_true rfl) ⟨rfl, rfl, (by first | omega | (simp only [Int32.lt_iff_toInt_lt, Int32.le_iff_toInt_le, Int32.reduceToInt, ← Int32.toInt_inj, true_and, and_true, or_true, true_or, false_or, or_false, false_and, and_false, not_true_eq_false, not_false_eq_true] <;> omega))⟩
          refine v_icmp_le hC dX9_linkAt_30 (tgt := 49) (by decide) (fun h_146 => ?_) (fun h_146 => ?_)
          · simp only [Int32.lt_iff_toInt_lt, Int32.le_iff_toInt_le, Int32.reduceToInt, ← Int32.toInt_inj] at h_146
            refine v_iconst hC dX9_linkAt_49 (v := 1) (by decide) ?_
            refine v_goto hC dX9_linkAt_50 (tgt := 54) (by decide) ?_
            refine v_pick [0, 1, 2] rfl ?_
            exact jn_148 1 (by decide)
          · simp only [Int32.lt_iff_toInt_lt, Int32.le_iff_toInt_le, Int32.reduceToInt, ← Int32.toInt_inj] at h_146
            refine v_iload_n hC dX9_linkAt_33 rfl ?_
            refine v_sipush hC dX9_linkAt_34 (v := 2006) (by decide) ?_
            refine v_icmp_ne hC dX9_linkAt_37 (tgt := 44) (by decide) (fun h_187 => ?_) (fun h_187 => ?_)
            · simp only [Int32.lt_iff_toInt_lt, Int32.le_iff_toInt_le, Int32.reduceToInt, ← Int32.toInt_inj] at h_187
              refine v_iconst hC dX9_linkAt_44 (v := 0) (by decide) ?_
              refine v_iload_n hC dX9_linkAt_45 rfl ?_
              refine v_icmp_ne_f hC dX9_linkAt_46 (tgt := 53) (by decide) (by first | omega | (simp only [Int32.lt_iff_toInt_lt, Int32.le_iff_toInt_le, Int32.reduceToInt, ← Int32.toInt_inj, true_and, and_true, or_true, true_or, false_or, or_false, false_and, and_false, not_true_eq_false, not_false_eq_true] <;> omega)) ?_
              refine v_iconst hC dX9_linkAt_49 (v := 1) (by decide) ?_
              refine v_goto hC dX9_linkAt_50 (tgt := 54) (by decide) ?_
              refine v_pick [0, 1, 2] rfl ?_
              exact jn_148 1 (by decide)
            · simp only [Int32.lt_iff_toInt_lt, Int32.le_iff_toInt_le, Int32.reduceToInt, ← Int32.toInt_inj] at h_187
              refine v_iconst hC dX9_linkAt_40 (v := 1) (by decide) ?_
              refine v_goto hC dX9_linkAt_41 (tgt := 45) (by decide) ?_
              refine v_iload_n hC dX9_linkAt_45 rfl ?_
              refine v_icmp_ne_t hC dX9_linkAt_46 (tgt := 53) (by decide) (by first | omega | (simp only [Int32.lt_iff_toInt_lt, Int32.le_iff_toInt_le, Int32.reduceToInt, ← Int32.toInt_inj, true_and, and_true, or_true, true_or, false_or, or_false, false_and, and_false, not_true_eq_false, not_false_eq_true] <;> omega)) ?_
              refine v_iconst hC dX9_linkAt_53 (v := 0) (by decide) ?_
              refine v_pick [0, 1, 2] rfl ?_
              exact jn_148 0 (by decide)
    refine v_pick [0, 1, 2] rfl ?_
    exact lp_141 9 2000 (by decide) (by decide)
  · simp only [Int32.lt_iff_toInt_lt, Int32.le_iff_toInt_le, Int32.reduceToInt, ← Int32.toInt_inj] at h_1
    refine v_aload_n hC dX9_linkAt_4 rfl ?_
    obtain ⟨m_188, q_190, t_189, k_191⟩ := id k_0
    obtain ⟨v_193, v_195, v_196, v_198, v_200, v_201, e_192, b_194, b_197, b_199⟩ := hW.at m_188 t_189
    refine v_vi hC (rest := []) m_188 e_192 rfl mi_X7_isSemicolon ms_X7_isSemicolon (p_X7_isSemicolon hW k_0) mx_X7_isSemicolon ml_X9_89 (by decide) rfl (cells1 := 0) (slots1 := 0) (by decide) (by decide) (Nat.le_of_ble_eq_true rfl) (Nat.le_of_ble_eq_true rfl) rfl (Nat.le_of_ble_eq_true rfl) dX9_linkAt_5 (fun r_202 L_203 f_204 h_205 => ?_)
    obtain ⟨rfl, rfl, b_206⟩ := h_205
    refine v_if_eq hC dX9_linkAt_8 (tgt := 15) (by decide) (fun h_209 => ?_) (fun h_209 => ?_)
    · simp only [Int32.lt_iff_toInt_lt, Int32.le_iff_toInt_le, Int32.reduceToInt, ← Int32.toInt_inj] at h_209
      refine v_sipush hC dX9_linkAt_15 (v := 2000) (by decide) ?_
      refine v_istore_n hC dX9_linkAt_18 (by decide) (lv' := [(2, .int 2000), (0, .ref a_0), (1, .int a_1)]) rfl ?_
      have lp_320 : ∀ (n_321 : Nat) (i_318 : Int32) (b_319 : (2000 ≤ i_318.toInt ∧ i_318.toInt ≤ 2007)) (hm_323 : 2007 - i_318.toInt < (n_321 : Int)), V z E 4 0 0 L f 19 [(2, .int i_318), (0, .ref a_0), (1, .int a_1)] [] := by
        intro n_321
        induction n_321 with
        | zero =>
          intro i_318 b_319 hm_323
          exfalso; omega
        | succ n_321 ih_322 =>
          intro i_318 b_319 hm_323
          refine v_iload_n hC dX9_linkAt_19 rfl ?_
          refine v_sipush hC dX9_linkAt_20 (v := 2006) (by decide) ?_
          refine v_icmp_gt hC dX9_linkAt_23 (tgt := 78) (by decide) (fun h_324 => ?_) (fun h_324 => ?_)
          · simp only [Int32.lt_iff_toInt_lt, Int32.le_iff_toInt_le, Int32.reduceToInt, ← Int32.toInt_inj] at h_324
            refine v_iconst hC dX9_linkAt_78 (v := (-1)) (by decide) ?_
            exact hR _ _ _ _ _ _ _ dX9_linkAt_79 rfl (Nat.le_of_ble_eq_true rfl) (Nat.le_of_ble_eq_true rfl) ⟨rfl, rfl, (by decide)⟩
          · simp only [Int32.lt_iff_toInt_lt, Int32.le_iff_toInt_le, Int32.reduceToInt, ← Int32.toInt_inj] at h_324
            refine v_iload_n hC dX9_linkAt_26 rfl ?_
            refine v_sipush hC dX9_linkAt_27 (v := 2002) (by decide) ?_
            have jn_329 : ∀ (v_330 : Int32) (b_331 : (0 ≤ v_330.toInt ∧ v_330.toInt ≤ 1)), V z E 4 0 0 L f 54 [(2, .int i_318), (0, .ref a_0), (1, .int a_1)] [.int v_330] := by
              intro v_330 b_331
              refine v_istore_n hC dX9_linkAt_54 (by decide) (lv' := [(3, .int v_330), (2, .int i_318), (0, .ref a_0), (1, .int a_1)]) rfl ?_
              refine v_iload_n hC dX9_linkAt_55 rfl ?_
              refine v_if_eq hC dX9_linkAt_56 (tgt := 72) (by decide) (fun h_332 => ?_) (fun h_332 => ?_)
              · simp only [Int32.lt_iff_toInt_lt, Int32.le_iff_toInt_le, Int32.reduceToInt, ← Int32.toInt_inj] at h_332
                obtain ⟨v_333, h_334⟩ : ∃ v9 : Int32, i_318 + Int32.ofInt 1 = v9 := ⟨_, rfl⟩
                have h_335 := add_v (b := 1) h_334 (by first | omega | (simp only [Int32.lt_iff_toInt_lt, Int32.le_iff_toInt_le, Int32.reduceToInt, ← Int32.toInt_inj, true_and, and_true, or_true, true_or, false_or, or_false, false_and, and_false, not_true_eq_false, not_false_eq_true] <;> omega)) (by first | omega | (simp only [Int32.lt_iff_toInt_lt, Int32.le_iff_toInt_le, Int32.reduceToInt, ← Int32.toInt_inj, true_and, and_true, or_true, true_or, false_or, or_false, false_and, and_false, not_true_eq_false, not_false_eq_true] <;> omega))
                simp only [Int32.reduceToInt] at h_335
                refine v_iinc hC dX9_linkAt_72 (k := 1) rfl (v := v_333) h_334 (by decide) (lv' := [(2, .int v_333), (3, .int v_330), (0, .ref a_0), (1, .int a_1)]) rfl ?_
                refine v_goto hC dX9_linkAt_75 (tgt := 19) (by decide) ?_
                refine v_pick [0, 2, 3] rfl ?_
                exact ih_322 v_333 (by first | omega | (simp only [Int32.lt_iff_toInt_lt, Int32.le_iff_toInt_le, Int32.reduceToInt, ← Int32.toInt_inj, true_and, and_true, or_true, true_or, false_or, or_false, false_and, and_false, not_true_eq_false, not_false_eq_true] <;> omega)) (by first | omega | (simp only [Int32.lt_iff_toInt_lt, Int32.le_iff_toInt_le, Int32.reduceToInt, ← Int32.toInt_inj, true_and, and_true, or_true, true_or, false_or, or_false, false_and, and_false, not_true_eq_false, not_false_eq_true] <;> omega))
              · simp only [Int32.lt_iff_toInt_lt, Int32.le_iff_toInt_le, Int32.reduceToInt, ← Int32.toInt_inj] at h_332
                refine v_aload_n hC dX9_linkAt_59 rfl ?_
                refine v_iload_n hC dX9_linkAt_60 rfl ?_
                refine v_sq hC (rest := [.ref a_0]) mt_X9_nameOfLink (p_X9_nameOfLink hW) mx_X9_nameOfLink ml_X9_92 (by decide) rfl (cells1 := 0) (slots1 := 0) (by decide) (by decide) (Nat.le_of_ble_eq_true rfl) (Nat.le_of_ble_eq_true rfl) rfl (Nat.le_of_ble_eq_true rfl) dX9_linkAt_61 (fun r_336 L_337 f_338 h_339 => ?_)
                obtain ⟨rfl, rfl, ⟨jj_340, hjj_340, rfl⟩⟩ := h_339
                refine v_vi hC (rest := []) m_188 e_192 rfl mi_X7_isWord ms_X7_isWord (p_X7_isWord hW k_0 hjj_340) mx_X7_isWord ml_X9_41 (by decide) rfl (cells1 := 0) (slots1 := 0) (by decide) (by decide) (Nat.le_of_ble_eq_true rfl) (Nat.le_of_ble_eq_true rfl) rfl (Nat.le_of_ble_eq_true rfl) dX9_linkAt_64 (fun r_343 L_344 f_345 h_346 => ?_)
                obtain ⟨rfl, rfl, b_347⟩ := h_346
                refine v_if_eq hC dX9_linkAt_67 (tgt := 72) (by decide) (fun h_350 => ?_) (fun h_350 => ?_)
                · simp only [Int32.lt_iff_toInt_lt, Int32.le_iff_toInt_le, Int32.reduceToInt, ← Int32.toInt_inj] at h_350
                  obtain ⟨v_351, h_352⟩ : ∃ v9 : Int32, i_318 + Int32.ofInt 1 = v9 := ⟨_, rfl⟩
                  have h_353 := add_v (b := 1) h_352 (by first | omega | (simp only [Int32.lt_iff_toInt_lt, Int32.le_iff_toInt_le, Int32.reduceToInt, ← Int32.toInt_inj, true_and, and_true, or_true, true_or, false_or, or_false, false_and, and_false, not_true_eq_false, not_false_eq_true] <;> omega)) (by first | omega | (simp only [Int32.lt_iff_toInt_lt, Int32.le_iff_toInt_le, Int32.reduceToInt, ← Int32.toInt_inj, true_and, and_true, or_true, true_or, false_or, or_false, false_and, and_false, not_true_eq_false, not_false_eq_true] <;> omega))
                  simp only [Int32.reduceToInt] at h_353
                  refine v_iinc hC dX9_linkAt_72 (k := 1) rfl (v := v_351) h_352 (by decide) (lv' := [(2, .int v_351), (3, .int v_330), (0, .ref a_0), (1, .int a_1)]) rfl ?_
                  refine v_goto hC dX9_linkAt_75 (tgt := 19) (by decide) ?_
                  refine v_pick [0, 2, 3] rfl ?_
                  exact ih_322 v_351 (by first | omega | (simp only [Int32.lt_iff_toInt_lt, Int32.le_iff_toInt_le, Int32.reduceToInt, ← Int32.toInt_inj, true_and, and_true, or_true, true_or, false_or, or_false, false_and, and_false, not_true_eq_false, not_false_eq_true] <;> omega)) (by first | omega | (simp only [Int32.lt_iff_toInt_lt, Int32.le_iff_toInt_le, Int32.reduceToInt, ← Int32.toInt_inj, true_and, and_true, or_true, true_or, false_or, or_false, false_and, and_false, not_true_eq_false, not_false_eq_true] <;> omega))
                · simp only [Int32.lt_iff_toInt_lt, Int32.le_iff_toInt_le, Int32.reduceToInt, ← Int32.toInt_inj] at h_350
                  refine v_iload_n hC dX9_linkAt_70 rfl ?_
                  exact hR _ _ _ _ _ _ _ dX9_linkAt_71 rfl (Nat.le_of_ble_eq_true rfl) (Nat.le_of_ble_eq_true rfl) ⟨rfl, rfl, (by first | omega | (simp only [Int32.lt_iff_toInt_lt, Int32.le_iff_toInt_le, Int32.reduceToInt, ← Int32.toInt_inj, true_and, and_true, or_true, true_or, false_or, or_false, false_and, and_false, not_true_eq_false, not_false_eq_true] <;> omega))⟩
            refine v_icmp_le hC dX9_linkAt_30 (tgt := 49) (by decide) (fun h_325 => ?_) (fun h_325 => ?_)
            · simp only [Int32.lt_iff_toInt_lt, Int32.le_iff_toInt_le, Int32.reduceToInt, ← Int32.toInt_inj] at h_325
              refine v_iconst hC dX9_linkAt_49 (v := 1) (by decide) ?_
              refine v_goto hC dX9_linkAt_50 (tgt := 54) (by decide) ?_
              refine v_pick [0, 1, 2] rfl ?_
              exact jn_329 1 (by decide)
            · simp only [Int32.lt_iff_toInt_lt, Int32.le_iff_toInt_le, Int32.reduceToInt, ← Int32.toInt_inj] at h_325
              refine v_iload_n hC dX9_linkAt_33 rfl ?_
              refine v_sipush hC dX9_linkAt_34 (v := 2006) (by decide) ?_
              refine v_icmp_ne hC dX9_linkAt_37 (tgt := 44) (by decide) (fun h_354 => ?_) (fun h_354 => ?_)
              · simp only [Int32.lt_iff_toInt_lt, Int32.le_iff_toInt_le, Int32.reduceToInt, ← Int32.toInt_inj] at h_354
                refine v_iconst hC dX9_linkAt_44 (v := 0) (by decide) ?_
                refine v_iload_n hC dX9_linkAt_45 rfl ?_
                refine v_icmp_ne hC dX9_linkAt_46 (tgt := 53) (by decide) (fun h_355 => ?_) (fun h_355 => ?_)
                · simp only [Int32.lt_iff_toInt_lt, Int32.le_iff_toInt_le, Int32.reduceToInt, ← Int32.toInt_inj] at h_355
                  refine v_iconst hC dX9_linkAt_53 (v := 0) (by decide) ?_
                  refine v_pick [0, 1, 2] rfl ?_
                  exact jn_329 0 (by decide)
                · simp only [Int32.lt_iff_toInt_lt, Int32.le_iff_toInt_le, Int32.reduceToInt, ← Int32.toInt_inj] at h_355
                  refine v_iconst hC dX9_linkAt_49 (v := 1) (by decide) ?_
                  refine v_goto hC dX9_linkAt_50 (tgt := 54) (by decide) ?_
                  refine v_pick [0, 1, 2] rfl ?_
                  exact jn_329 1 (by decide)
              · simp only [Int32.lt_iff_toInt_lt, Int32.le_iff_toInt_le, Int32.reduceToInt, ← Int32.toInt_inj] at h_354
                refine v_iconst hC dX9_linkAt_40 (v := 1) (by decide) ?_
                refine v_goto hC dX9_linkAt_41 (tgt := 45) (by decide) ?_
                refine v_iload_n hC dX9_linkAt_45 rfl ?_
                refine v_icmp_ne hC dX9_linkAt_46 (tgt := 53) (by decide) (fun h_356 => ?_) (fun h_356 => ?_)
                · simp only [Int32.lt_iff_toInt_lt, Int32.le_iff_toInt_le, Int32.reduceToInt, ← Int32.toInt_inj] at h_356
                  refine v_iconst hC dX9_linkAt_53 (v := 0) (by decide) ?_
                  refine v_pick [0, 1, 2] rfl ?_
                  exact jn_329 0 (by decide)
                · simp only [Int32.lt_iff_toInt_lt, Int32.le_iff_toInt_le, Int32.reduceToInt, ← Int32.toInt_inj] at h_356
                  refine v_iconst hC dX9_linkAt_49 (v := 1) (by decide) ?_
                  refine v_goto hC dX9_linkAt_50 (tgt := 54) (by decide) ?_
                  refine v_pick [0, 1, 2] rfl ?_
                  exact jn_329 1 (by decide)
      refine v_pick [0, 1, 2] rfl ?_
      exact lp_320 9 2000 (by decide) (by decide)
    · simp only [Int32.lt_iff_toInt_lt, Int32.le_iff_toInt_le, Int32.reduceToInt, ← Int32.toInt_inj] at h_209
      refine v_sipush hC dX9_linkAt_11 (v := 2007) (by decide) ?_
      exact hR _ _ _ _ _ _ _ dX9_linkAt_14 rfl (Nat.le_of_ble_eq_true rfl) (Nat.le_of_ble_eq_true rfl) ⟨rfl, rfl, (by decide)⟩
set_option maxRecDepth 100000 in
set_option maxHeartbeats 8000000 in
theorem p_X9_tellLine {l : Launch} {E : Ez} {L : List Nat} {f : Nat → va_E} {T : Nat → va_E → Prop} {a_0 : Nat} {a_1 : Nat} (hW : WT T L f) (k_0 : isWat T L E a_0) (k_1 : isTape T L E a_1) : CV l yX9_tellLine cX9_tellLine 5 7 0 0 E [.ref a_0, .ref a_1] L f (fun L1 f1 => L = L1 ∧ WT T L f1 ∧ FR [7, 9, 400] f f1) := by
  refine cv_of (by decide) (Nat.le_of_ble_eq_true rfl) (fun z hz hnm hC hR => ?_)
  have hC : Cx z E cX9_tellLine RX9 5 7 0 0 := hC
  subst hz
  show V z E 5 0 0 L f 0 [(0, .ref a_0), (1, .ref a_1)] []
  refine v_aload_n hC dX9_tellLine_0 rfl ?_
  refine v_ldcS hC sr_X9_39 dX9_tellLine_1 ?_
  obtain ⟨m_1, q_3, t_2, k_4⟩ := id k_1
  obtain ⟨v_6, v_8, v_9, v_11, v_13, v_14, e_5, b_7, b_10, b_12⟩ := hW.at m_1 t_2
  refine v_vv hC (rest := []) m_1 e_5 rfl mi_X7_takeWord ms_X7_takeWord (p_X7_takeWord hW k_1 (by decide)) mx_X7_takeWord ml_X9_56 (by decide) rfl (cells1 := 0) (slots1 := 0) (by decide) (by decide) (Nat.le_of_ble_eq_true rfl) (Nat.le_of_ble_eq_true rfl) rfl (Nat.le_of_ble_eq_true rfl) dX9_tellLine_3 (fun L_16 f_17 h_18 => ?_)
  obtain ⟨rfl, hW_19, hF_20⟩ := h_18
  refine v_aload_n hC dX9_tellLine_6 rfl ?_
  refine v_ldcS hC sr_X9_60 dX9_tellLine_7 ?_
  obtain ⟨v_22, v_24, v_25, v_27, v_29, v_30, e_21, b_23, b_26, b_28⟩ := hW_19.at m_1 t_2
  refine v_vv hC (rest := []) m_1 e_21 rfl mi_X7_takeWord ms_X7_takeWord (p_X7_takeWord hW_19 k_1 (by decide)) mx_X7_takeWord ml_X9_56 (by decide) rfl (cells1 := 0) (slots1 := 0) (by decide) (by decide) (Nat.le_of_ble_eq_true rfl) (Nat.le_of_ble_eq_true rfl) rfl (Nat.le_of_ble_eq_true rfl) dX9_tellLine_9 (fun L_32 f_33 h_34 => ?_)
  obtain ⟨rfl, hW_35, hF_36⟩ := h_34
  refine v_iconst hC dX9_tellLine_12 (v := 0) (by decide) ?_
  refine v_istore_n hC dX9_tellLine_13 (by decide) (lv' := [(2, .int 0), (0, .ref a_0), (1, .ref a_1)]) rfl ?_
  refine v_iconst hC dX9_tellLine_14 (v := 0) (by decide) ?_
  refine v_istore_n hC dX9_tellLine_15 (by decide) (lv' := [(3, .int 0), (2, .int 0), (0, .ref a_0), (1, .ref a_1)]) rfl ?_
  have lp_544 : ∀ (n_545 : Nat) (f_539 : Nat → va_E) (hW_540 : WT T L f_539) (hF_541 : FR [7, 9, 400] f_33 f_539) (i_537 : Int32) (b_542 : (0 ≤ i_537.toInt ∧ i_537.toInt ≤ 300)) (i_538 : Int32) (b_543 : (0 ≤ i_538.toInt ∧ i_538.toInt ≤ 1)) (hm_547 : 300 - i_537.toInt < (n_545 : Int)), V z E 5 0 0 L f_539 16 [(3, .int i_537), (2, .int i_538), (0, .ref a_0), (1, .ref a_1)] [] := by
    intro n_545
    induction n_545 with
    | zero =>
      intro f_539 hW_540 hF_541 i_537 b_542 i_538 b_543 hm_547
      exfalso; omega
    | succ n_545 ih_546 =>
      intro f_539 hW_540 hF_541 i_537 b_542 i_538 b_543 hm_547
      refine v_iload_n hC dX9_tellLine_16 rfl ?_
      refine v_sipush hC dX9_tellLine_17 (v := 300) (by decide) ?_
      refine v_icmp_ge hC dX9_tellLine_20 (tgt := 104) (by decide) (fun h_548 => ?_) (fun h_548 => ?_)
      · simp only [Int32.lt_iff_toInt_lt, Int32.le_iff_toInt_le, Int32.reduceToInt, ← Int32.toInt_inj] at h_548
        exact hR _ _ _ _ _ _ dX9_tellLine_104 (Nat.le_of_ble_eq_true rfl) (Nat.le_of_ble_eq_true rfl) ⟨rfl, hW_540, (((hF_20.tr hF_36).tr hF_541).mono rfl)⟩
      · simp only [Int32.lt_iff_toInt_lt, Int32.le_iff_toInt_le, Int32.reduceToInt, ← Int32.toInt_inj] at h_548
        refine v_aload_n hC dX9_tellLine_23 rfl ?_
        obtain ⟨v_550, v_552, v_553, v_555, v_557, v_558, e_549, b_551, b_554, b_556⟩ := hW_540.at m_1 t_2
        refine v_vi hC (rest := []) m_1 e_549 rfl mi_X7_isFine ms_X7_isFine (p_X7_isFine hW_540 k_1) mx_X7_isFine ml_X9_53 (by decide) rfl (cells1 := 0) (slots1 := 0) (by decide) (by decide) (Nat.le_of_ble_eq_true rfl) (Nat.le_of_ble_eq_true rfl) rfl (Nat.le_of_ble_eq_true rfl) dX9_tellLine_24 (fun r_559 L_560 f_561 h_562 => ?_)
        obtain ⟨rfl, rfl, b_563⟩ := h_562
        refine v_if_eq hC dX9_tellLine_27 (tgt := 104) (by decide) (fun h_566 => ?_) (fun h_566 => ?_)
        · simp only [Int32.lt_iff_toInt_lt, Int32.le_iff_toInt_le, Int32.reduceToInt, ← Int32.toInt_inj] at h_566
          exact hR _ _ _ _ _ _ dX9_tellLine_104 (Nat.le_of_ble_eq_true rfl) (Nat.le_of_ble_eq_true rfl) ⟨rfl, hW_540, (((hF_20.tr hF_36).tr hF_541).mono rfl)⟩
        · simp only [Int32.lt_iff_toInt_lt, Int32.le_iff_toInt_le, Int32.reduceToInt, ← Int32.toInt_inj] at h_566
          refine v_aload_n hC dX9_tellLine_30 rfl ?_
          refine v_aload_n hC dX9_tellLine_31 rfl ?_
          obtain ⟨m_567, q_569, t_568, k_570⟩ := id k_0
          obtain ⟨v_572, v_574, e_571, b_573⟩ := hW_540.at m_567 t_568
          refine v_vv hC (rest := []) m_567 e_571 rfl mi_X9_tellPart ms_X9_tellPart (p_X9_tellPart hW_540 k_0 k_1) mx_X9_tellPart ml_X9_62 (by decide) rfl (cells1 := 0) (slots1 := 0) (by decide) (by decide) (Nat.le_of_ble_eq_true rfl) (Nat.le_of_ble_eq_true rfl) rfl (Nat.le_of_ble_eq_true rfl) dX9_tellLine_32 (fun L_576 f_577 h_578 => ?_)
          obtain ⟨rfl, hW_579, hF_580⟩ := h_578
          refine v_aload_n hC dX9_tellLine_35 rfl ?_
          refine v_iload_n hC dX9_tellLine_36 rfl ?_
          refine v_si hC (rest := []) mt_X9_linkAt (p_X9_linkAt hW_579 k_1) mx_X9_linkAt ml_X9_65 (by decide) rfl (cells1 := 0) (slots1 := 0) (by decide) (by decide) (Nat.le_of_ble_eq_true rfl) (Nat.le_of_ble_eq_true rfl) rfl (Nat.le_of_ble_eq_true rfl) dX9_tellLine_37 (fun r_581 L_582 f_583 h_584 => ?_)
          obtain ⟨rfl, rfl, b_585⟩ := h_584
          refine v_istore hC dX9_tellLine_40 (by decide) (lv' := [(4, .int r_581), (3, .int i_537), (2, .int i_538), (0, .ref a_0), (1, .ref a_1)]) rfl ?_
          refine v_iload hC dX9_tellLine_42 rfl ?_
          refine v_iconst hC dX9_tellLine_44 (v := (-1)) (by decide) ?_
          have jn_605 : ∀ (f_606 : Nat → va_E) (hW_607 : WT T L f_606) (hF_608 : FR [7] f_577 f_606) , V z E 5 0 0 L f_606 53 [(4, .int r_581), (3, .int i_537), (2, .int i_538), (0, .ref a_0), (1, .ref a_1)] [] := by
            intro f_606 hW_607 hF_608
            refine v_aload_n hC dX9_tellLine_53 rfl ?_
            obtain ⟨v_610, v_612, v_613, v_615, v_617, v_618, e_609, b_611, b_614, b_616⟩ := hW_607.at m_1 t_2
            refine v_vv hC (rest := []) m_1 e_609 rfl mi_X7_advance ms_X7_advance (p_X7_advance hW_607 k_1) mx_X7_advance ml_X9_69 (by decide) rfl (cells1 := 0) (slots1 := 0) (by decide) (by decide) (Nat.le_of_ble_eq_true rfl) (Nat.le_of_ble_eq_true rfl) rfl (Nat.le_of_ble_eq_true rfl) dX9_tellLine_54 (fun L_620 f_621 h_622 => ?_)
            obtain ⟨rfl, hW_623, hF_624⟩ := h_622
            refine v_aload_n hC dX9_tellLine_57 rfl ?_
            refine v_iload hC dX9_tellLine_58 rfl ?_
            obtain ⟨v_626, v_628, e_625, b_627⟩ := hW_623.at m_567 t_568
            refine v_vv hC (rest := []) m_567 e_625 rfl mi_X9_addCode ms_X9_addCode (p_X9_addCode hW_623 k_0) mx_X9_addCode ml_X9_72 (by decide) rfl (cells1 := 0) (slots1 := 0) (by decide) (by decide) (Nat.le_of_ble_eq_true rfl) (Nat.le_of_ble_eq_true rfl) rfl (Nat.le_of_ble_eq_true rfl) dX9_tellLine_60 (fun L_630 f_631 h_632 => ?_)
            obtain ⟨rfl, hW_633, hF_634⟩ := h_632
            refine v_iload hC dX9_tellLine_63 rfl ?_
            refine v_sipush hC dX9_tellLine_65 (v := 2007) (by decide) ?_
            refine v_icmp_ne hC dX9_tellLine_68 (tgt := 72) (by decide) (fun h_635 => ?_) (fun h_635 => ?_)
            · simp only [Int32.lt_iff_toInt_lt, Int32.le_iff_toInt_le, Int32.reduceToInt, ← Int32.toInt_inj] at h_635
              refine v_iload hC dX9_tellLine_72 rfl ?_
              refine v_sipush hC dX9_tellLine_74 (v := 2006) (by decide) ?_
              refine v_icmp_eq hC dX9_tellLine_77 (tgt := 96) (by decide) (fun h_636 => ?_) (fun h_636 => ?_)
              · simp only [Int32.lt_iff_toInt_lt, Int32.le_iff_toInt_le, Int32.reduceToInt, ← Int32.toInt_inj] at h_636
                refine v_iconst hC dX9_tellLine_96 (v := 0) (by decide) ?_
                refine v_istore_n hC dX9_tellLine_97 (by decide) (lv' := [(2, .int 0), (4, .int r_581), (3, .int i_537), (0, .ref a_0), (1, .ref a_1)]) rfl ?_
                obtain ⟨v_637, h_638⟩ : ∃ v9 : Int32, i_537 + Int32.ofInt 1 = v9 := ⟨_, rfl⟩
                have h_639 := add_v (b := 1) h_638 (by first | omega | (simp only [Int32.lt_iff_toInt_lt, Int32.le_iff_toInt_le, Int32.reduceToInt, ← Int32.toInt_inj, true_and, and_true, or_true, true_or, false_or, or_false, false_and, and_false, not_true_eq_false, not_false_eq_true] <;> omega)) (by first | omega | (simp only [Int32.lt_iff_toInt_lt, Int32.le_iff_toInt_le, Int32.reduceToInt, ← Int32.toInt_inj, true_and, and_true, or_true, true_or, false_or, or_false, false_and, and_false, not_true_eq_false, not_false_eq_true] <;> omega))
                simp only [Int32.reduceToInt] at h_639
                refine v_iinc hC dX9_tellLine_98 (k := 2) rfl (v := v_637) h_638 (by decide) (lv' := [(3, .int v_637), (2, .int 0), (4, .int r_581), (0, .ref a_0), (1, .ref a_1)]) rfl ?_
                refine v_goto hC dX9_tellLine_101 (tgt := 16) (by decide) ?_
                refine v_pick [0, 1, 3, 4] rfl ?_
                exact ih_546 f_631 hW_633 (((((hF_541.tr hF_580).tr hF_608).tr hF_624).tr hF_634).mono rfl) v_637 (by first | omega | (simp only [Int32.lt_iff_toInt_lt, Int32.le_iff_toInt_le, Int32.reduceToInt, ← Int32.toInt_inj, true_and, and_true, or_true, true_or, false_or, or_false, false_and, and_false, not_true_eq_false, not_false_eq_true] <;> omega)) 0 (by decide) (by first | omega | (simp only [Int32.lt_iff_toInt_lt, Int32.le_iff_toInt_le, Int32.reduceToInt, ← Int32.toInt_inj, true_and, and_true, or_true, true_or, false_or, or_false, false_and, and_false, not_true_eq_false, not_false_eq_true] <;> omega))
              · simp only [Int32.lt_iff_toInt_lt, Int32.le_iff_toInt_le, Int32.reduceToInt, ← Int32.toInt_inj] at h_636
                refine v_iload_n hC dX9_tellLine_80 rfl ?_
                refine v_if_ne hC dX9_tellLine_81 (tgt := 92) (by decide) (fun h_640 => ?_) (fun h_640 => ?_)
                · simp only [Int32.lt_iff_toInt_lt, Int32.le_iff_toInt_le, Int32.reduceToInt, ← Int32.toInt_inj] at h_640
                  refine v_iconst hC dX9_tellLine_92 (v := 1) (by decide) ?_
                  refine v_goto hC dX9_tellLine_93 (tgt := 97) (by decide) ?_
                  refine v_istore_n hC dX9_tellLine_97 (by decide) (lv' := [(2, .int 1), (4, .int r_581), (3, .int i_537), (0, .ref a_0), (1, .ref a_1)]) rfl ?_
                  obtain ⟨v_641, h_642⟩ : ∃ v9 : Int32, i_537 + Int32.ofInt 1 = v9 := ⟨_, rfl⟩
                  have h_643 := add_v (b := 1) h_642 (by first | omega | (simp only [Int32.lt_iff_toInt_lt, Int32.le_iff_toInt_le, Int32.reduceToInt, ← Int32.toInt_inj, true_and, and_true, or_true, true_or, false_or, or_false, false_and, and_false, not_true_eq_false, not_false_eq_true] <;> omega)) (by first | omega | (simp only [Int32.lt_iff_toInt_lt, Int32.le_iff_toInt_le, Int32.reduceToInt, ← Int32.toInt_inj, true_and, and_true, or_true, true_or, false_or, or_false, false_and, and_false, not_true_eq_false, not_false_eq_true] <;> omega))
                  simp only [Int32.reduceToInt] at h_643
                  refine v_iinc hC dX9_tellLine_98 (k := 2) rfl (v := v_641) h_642 (by decide) (lv' := [(3, .int v_641), (2, .int 1), (4, .int r_581), (0, .ref a_0), (1, .ref a_1)]) rfl ?_
                  refine v_goto hC dX9_tellLine_101 (tgt := 16) (by decide) ?_
                  refine v_pick [0, 1, 3, 4] rfl ?_
                  exact ih_546 f_631 hW_633 (((((hF_541.tr hF_580).tr hF_608).tr hF_624).tr hF_634).mono rfl) v_641 (by first | omega | (simp only [Int32.lt_iff_toInt_lt, Int32.le_iff_toInt_le, Int32.reduceToInt, ← Int32.toInt_inj, true_and, and_true, or_true, true_or, false_or, or_false, false_and, and_false, not_true_eq_false, not_false_eq_true] <;> omega)) 1 (by decide) (by first | omega | (simp only [Int32.lt_iff_toInt_lt, Int32.le_iff_toInt_le, Int32.reduceToInt, ← Int32.toInt_inj, true_and, and_true, or_true, true_or, false_or, or_false, false_and, and_false, not_true_eq_false, not_false_eq_true] <;> omega))
                · simp only [Int32.lt_iff_toInt_lt, Int32.le_iff_toInt_le, Int32.reduceToInt, ← Int32.toInt_inj] at h_640
                  refine v_iload hC dX9_tellLine_84 rfl ?_
                  refine v_sipush hC dX9_tellLine_86 (v := 2003) (by decide) ?_
                  refine v_icmp_lt hC dX9_tellLine_89 (tgt := 96) (by decide) (fun h_644 => ?_) (fun h_644 => ?_)
                  · simp only [Int32.lt_iff_toInt_lt, Int32.le_iff_toInt_le, Int32.reduceToInt, ← Int32.toInt_inj] at h_644
                    refine v_iconst hC dX9_tellLine_96 (v := 0) (by decide) ?_
                    refine v_istore_n hC dX9_tellLine_97 (by decide) (lv' := [(2, .int 0), (4, .int r_581), (3, .int i_537), (0, .ref a_0), (1, .ref a_1)]) rfl ?_
                    obtain ⟨v_645, h_646⟩ : ∃ v9 : Int32, i_537 + Int32.ofInt 1 = v9 := ⟨_, rfl⟩
                    have h_647 := add_v (b := 1) h_646 (by first | omega | (simp only [Int32.lt_iff_toInt_lt, Int32.le_iff_toInt_le, Int32.reduceToInt, ← Int32.toInt_inj, true_and, and_true, or_true, true_or, false_or, or_false, false_and, and_false, not_true_eq_false, not_false_eq_true] <;> omega)) (by first | omega | (simp only [Int32.lt_iff_toInt_lt, Int32.le_iff_toInt_le, Int32.reduceToInt, ← Int32.toInt_inj, true_and, and_true, or_true, true_or, false_or, or_false, false_and, and_false, not_true_eq_false, not_false_eq_true] <;> omega))
                    simp only [Int32.reduceToInt] at h_647
                    refine v_iinc hC dX9_tellLine_98 (k := 2) rfl (v := v_645) h_646 (by decide) (lv' := [(3, .int v_645), (2, .int 0), (4, .int r_581), (0, .ref a_0), (1, .ref a_1)]) rfl ?_
                    refine v_goto hC dX9_tellLine_101 (tgt := 16) (by decide) ?_
                    refine v_pick [0, 1, 3, 4] rfl ?_
                    exact ih_546 f_631 hW_633 (((((hF_541.tr hF_580).tr hF_608).tr hF_624).tr hF_634).mono rfl) v_645 (by first | omega | (simp only [Int32.lt_iff_toInt_lt, Int32.le_iff_toInt_le, Int32.reduceToInt, ← Int32.toInt_inj, true_and, and_true, or_true, true_or, false_or, or_false, false_and, and_false, not_true_eq_false, not_false_eq_true] <;> omega)) 0 (by decide) (by first | omega | (simp only [Int32.lt_iff_toInt_lt, Int32.le_iff_toInt_le, Int32.reduceToInt, ← Int32.toInt_inj, true_and, and_true, or_true, true_or, false_or, or_false, false_and, and_false, not_true_eq_false, not_false_eq_true] <;> omega))
                  · simp only [Int32.lt_iff_toInt_lt, Int32.le_iff_toInt_le, Int32.reduceToInt, ← Int32.toInt_inj] at h_644
                    refine v_iconst hC dX9_tellLine_92 (v := 1) (by decide) ?_
                    refine v_goto hC dX9_tellLine_93 (tgt := 97) (by decide) ?_
                    refine v_istore_n hC dX9_tellLine_97 (by decide) (lv' := [(2, .int 1), (4, .int r_581), (3, .int i_537), (0, .ref a_0), (1, .ref a_1)]) rfl ?_
                    obtain ⟨v_648, h_649⟩ : ∃ v9 : Int32, i_537 + Int32.ofInt 1 = v9 := ⟨_, rfl⟩
                    have h_650 := add_v (b := 1) h_649 (by first | omega | (simp only [Int32.lt_iff_toInt_lt, Int32.le_iff_toInt_le, Int32.reduceToInt, ← Int32.toInt_inj, true_and, and_true, or_true, true_or, false_or, or_false, false_and, and_false, not_true_eq_false, not_false_eq_true] <;> omega)) (by first | omega | (simp only [Int32.lt_iff_toInt_lt, Int32.le_iff_toInt_le, Int32.reduceToInt, ← Int32.toInt_inj, true_and, and_true, or_true, true_or, false_or, or_false, false_and, and_false, not_true_eq_false, not_false_eq_true] <;> omega))
                    simp only [Int32.reduceToInt] at h_650
                    refine v_iinc hC dX9_tellLine_98 (k := 2) rfl (v := v_648) h_649 (by decide) (lv' := [(3, .int v_648), (2, .int 1), (4, .int r_581), (0, .ref a_0), (1, .ref a_1)]) rfl ?_
                    refine v_goto hC dX9_tellLine_101 (tgt := 16) (by decide) ?_
                    refine v_pick [0, 1, 3, 4] rfl ?_
                    exact ih_546 f_631 hW_633 (((((hF_541.tr hF_580).tr hF_608).tr hF_624).tr hF_634).mono rfl) v_648 (by first | omega | (simp only [Int32.lt_iff_toInt_lt, Int32.le_iff_toInt_le, Int32.reduceToInt, ← Int32.toInt_inj, true_and, and_true, or_true, true_or, false_or, or_false, false_and, and_false, not_true_eq_false, not_false_eq_true] <;> omega)) 1 (by decide) (by first | omega | (simp only [Int32.lt_iff_toInt_lt, Int32.le_iff_toInt_le, Int32.reduceToInt, ← Int32.toInt_inj, true_and, and_true, or_true, true_or, false_or, or_false, false_and, and_false, not_true_eq_false, not_false_eq_true] <;> omega))
            · simp only [Int32.lt_iff_toInt_lt, Int32.le_iff_toInt_le, Int32.reduceToInt, ← Int32.toInt_inj] at h_635
              exact hR _ _ _ _ _ _ dX9_tellLine_71 (Nat.le_of_ble_eq_true rfl) (Nat.le_of_ble_eq_true rfl) ⟨rfl, hW_633, (((((((hF_20.tr hF_36).tr hF_541).tr hF_580).tr hF_608).tr hF_624).tr hF_634).mono rfl)⟩
          refine v_icmp_ne hC dX9_tellLine_45 (tgt := 53) (by decide) (fun h_588 => ?_) (fun h_588 => ?_)
          · simp only [Int32.lt_iff_toInt_lt, Int32.le_iff_toInt_le, Int32.reduceToInt, ← Int32.toInt_inj] at h_588
            refine v_pick [0, 1, 2, 3, 4] rfl ?_
            exact jn_605 f_577 hW_579 FR.rf
          · simp only [Int32.lt_iff_toInt_lt, Int32.le_iff_toInt_le, Int32.reduceToInt, ← Int32.toInt_inj] at h_588
            refine v_aload_n hC dX9_tellLine_48 rfl ?_
            refine v_iconst hC dX9_tellLine_49 (v := 1) (by decide) ?_
            obtain ⟨v_652, v_654, v_655, v_657, v_659, v_660, e_651, b_653, b_656, b_658⟩ := hW_579.at m_1 t_2
            refine v_vv hC (rest := []) m_1 e_651 rfl mi_X7_complain ms_X7_complain (p_X7_complain hW_579 k_1) mx_X7_complain ml_X9_45 (by decide) rfl (cells1 := 0) (slots1 := 0) (by decide) (by decide) (Nat.le_of_ble_eq_true rfl) (Nat.le_of_ble_eq_true rfl) rfl (Nat.le_of_ble_eq_true rfl) dX9_tellLine_50 (fun L_662 f_663 h_664 => ?_)
            obtain ⟨rfl, hW_665, hF_666⟩ := h_664
            refine v_pick [0, 1, 2, 3, 4] rfl ?_
            exact jn_605 f_663 hW_665 (hF_666.mono rfl)
  refine v_pick [0, 1, 2, 3] rfl ?_
  exact lp_544 302 f_33 hW_35 FR.rf 0 (by decide) 0 (by decide) (by decide)
set_option maxRecDepth 100000 in
set_option maxHeartbeats 8000000 in
theorem p_X9_tell {l : Launch} {E : Ez} {L : List Nat} {f : Nat → va_E} {T : Nat → va_E → Prop} {a_0 : Nat} {a_1 : Nat} (hW : WT T L f) (k_0 : isWat T L E a_0) (k_1 : isTape T L E a_1) : CI l yX9_tell cX9_tell 3 .boolean 8 0 0 E [.ref a_0, .ref a_1] L f (fun r L1 f1 => L = L1 ∧ WT T L f1 ∧ FR [7, 9, 400] f f1 ∧ (0 ≤ r.toInt ∧ r.toInt ≤ 1)) := by
  refine ci_of (by decide) (Nat.le_of_ble_eq_true rfl) (fun z hz hnm hC hR => ?_)
  have hC : Cx z E cX9_tell RX9 3 8 0 0 := hC
  subst hz
  show V z E 3 0 0 L f 0 [(0, .ref a_0), (1, .ref a_1)] []
  refine v_aload_n hC dX9_tell_0 rfl ?_
  obtain ⟨m_1, q_3, t_2, k_4⟩ := id k_1
  obtain ⟨v_6, v_8, v_9, v_11, v_13, v_14, e_5, b_7, b_10, b_12⟩ := hW.at m_1 t_2
  refine v_vv hC (rest := []) m_1 e_5 rfl mi_X7_start ms_X7_start (p_X7_start hW k_1) mx_X7_start ml_X9_30 (by decide) rfl (cells1 := 0) (slots1 := 0) (by decide) (by decide) (Nat.le_of_ble_eq_true rfl) (Nat.le_of_ble_eq_true rfl) rfl (Nat.le_of_ble_eq_true rfl) dX9_tell_1 (fun L_16 f_17 h_18 => ?_)
  obtain ⟨rfl, hW_19, hF_20⟩ := h_18
  refine v_aload_n hC dX9_tell_4 rfl ?_
  refine v_iconst hC dX9_tell_5 (v := 0) (by decide) ?_
  obtain ⟨m_21, q_23, t_22, k_24⟩ := id k_0
  obtain ⟨v_26, v_28, e_25, b_27⟩ := hW_19.at m_21 t_22
  refine v_put hC fl_X9_23 m_21 e_25 rfl rfl (Nat.le_of_ble_eq_true rfl) (fs' := [.ref q_23, .int 0, .int v_28]) rfl dX9_tell_6 (fun f_29 hf_30 hk_31 => ?_)
  have hW_32 := hW_19.up hf_30 hk_31 t_22 ⟨0, v_28, rfl, (by decide)⟩
  have fr_33 := FR.w hk_31 e_25 (k := 9) rfl
  refine v_aload_n hC dX9_tell_9 rfl ?_
  refine v_iconst hC dX9_tell_10 (v := 0) (by decide) ?_
  refine v_put hC fl_X9_27 m_21 hf_30 rfl rfl (Nat.le_of_ble_eq_true rfl) (fs' := [.ref q_23, .int 0, .int 0]) rfl dX9_tell_11 (fun f_34 hf_35 hk_36 => ?_)
  have hW_37 := hW_32.up hf_35 hk_36 t_22 ⟨0, 0, rfl, (by decide)⟩
  have fr_38 := FR.w hk_36 hf_30 (k := 9) rfl
  refine v_iconst hC dX9_tell_14 (v := 0) (by decide) ?_
  refine v_istore_n hC dX9_tell_15 (by decide) (lv' := [(2, .int 0), (0, .ref a_0), (1, .ref a_1)]) rfl ?_
  have lp_466 : ∀ (n_467 : Nat) (f_462 : Nat → va_E) (hW_463 : WT T L f_462) (hF_464 : FR [7, 9, 400] f_34 f_462) (i_461 : Int32) (b_465 : (0 ≤ i_461.toInt ∧ i_461.toInt ≤ 13)) (hm_469 : 13 - i_461.toInt < (n_467 : Int)), V z E 3 0 0 L f_462 16 [(2, .int i_461), (0, .ref a_0), (1, .ref a_1)] [] := by
    intro n_467
    induction n_467 with
    | zero =>
      intro f_462 hW_463 hF_464 i_461 b_465 hm_469
      exfalso; omega
    | succ n_467 ih_468 =>
      intro f_462 hW_463 hF_464 i_461 b_465 hm_469
      refine v_iload_n hC dX9_tell_16 rfl ?_
      refine v_bipush hC dX9_tell_17 (v := 12) (by decide) ?_
      refine v_icmp_gt hC dX9_tell_19 (tgt := 70) (by decide) (fun h_470 => ?_) (fun h_470 => ?_)
      · simp only [Int32.lt_iff_toInt_lt, Int32.le_iff_toInt_le, Int32.reduceToInt, ← Int32.toInt_inj] at h_470
        refine v_aload_n hC dX9_tell_70 rfl ?_
        obtain ⟨v_472, v_474, v_475, v_477, v_479, v_480, e_471, b_473, b_476, b_478⟩ := hW_463.at m_1 t_2
        refine v_vi hC (rest := []) m_1 e_471 rfl mi_X7_isFine ms_X7_isFine (p_X7_isFine hW_463 k_1) mx_X7_isFine ml_X9_53 (by decide) rfl (cells1 := 0) (slots1 := 0) (by decide) (by decide) (Nat.le_of_ble_eq_true rfl) (Nat.le_of_ble_eq_true rfl) rfl (Nat.le_of_ble_eq_true rfl) dX9_tell_71 (fun r_481 L_482 f_483 h_484 => ?_)
        obtain ⟨rfl, rfl, b_485⟩ := h_484
        exact hR _ _ _ _ _ _ _ dX9_tell_74 (nar01 (by first | omega | (simp only [Int32.lt_iff_toInt_lt, Int32.le_iff_toInt_le, Int32.reduceToInt, ← Int32.toInt_inj, true_and, and_true, or_true, true_or, false_or, or_false, false_and, and_false, not_true_eq_false, not_false_eq_true] <;> omega))) (Nat.le_of_ble_eq_true rfl) (Nat.le_of_ble_eq_true rfl) ⟨rfl, hW_463, ((((hF_20.tr fr_33).tr fr_38).tr hF_464).mono rfl), (by first | omega | (simp only [Int32.lt_iff_toInt_lt, Int32.le_iff_toInt_le, Int32.reduceToInt, ← Int32.toInt_inj, true_and, and_true, or_true, true_or, false_or, or_false, false_and, and_false, not_true_eq_false, not_false_eq_true] <;> omega))⟩
      · simp only [Int32.lt_iff_toInt_lt, Int32.le_iff_toInt_le, Int32.reduceToInt, ← Int32.toInt_inj] at h_470
        refine v_aload_n hC dX9_tell_22 rfl ?_
        obtain ⟨v_489, v_491, v_492, v_494, v_496, v_497, e_488, b_490, b_493, b_495⟩ := hW_463.at m_1 t_2
        refine v_vi hC (rest := []) m_1 e_488 rfl mi_X7_goesOn ms_X7_goesOn (p_X7_goesOn hW_463 k_1) mx_X7_goesOn ml_X9_35 (by decide) rfl (cells1 := 0) (slots1 := 0) (by decide) (by decide) (Nat.le_of_ble_eq_true rfl) (Nat.le_of_ble_eq_true rfl) rfl (Nat.le_of_ble_eq_true rfl) dX9_tell_23 (fun r_498 L_499 f_500 h_501 => ?_)
        obtain ⟨rfl, rfl, b_502⟩ := h_501
        refine v_if_eq hC dX9_tell_26 (tgt := 70) (by decide) (fun h_505 => ?_) (fun h_505 => ?_)
        · simp only [Int32.lt_iff_toInt_lt, Int32.le_iff_toInt_le, Int32.reduceToInt, ← Int32.toInt_inj] at h_505
          refine v_aload_n hC dX9_tell_70 rfl ?_
          refine v_vi hC (rest := []) m_1 e_488 rfl mi_X7_isFine ms_X7_isFine (p_X7_isFine hW_463 k_1) mx_X7_isFine ml_X9_53 (by decide) rfl (cells1 := 0) (slots1 := 0) (by decide) (by decide) (Nat.le_of_ble_eq_true rfl) (Nat.le_of_ble_eq_true rfl) rfl (Nat.le_of_ble_eq_true rfl) dX9_tell_71 (fun r_506 L_507 f_508 h_509 => ?_)
          obtain ⟨rfl, rfl, b_510⟩ := h_509
          exact hR _ _ _ _ _ _ _ dX9_tell_74 (nar01 (by first | omega | (simp only [Int32.lt_iff_toInt_lt, Int32.le_iff_toInt_le, Int32.reduceToInt, ← Int32.toInt_inj, true_and, and_true, or_true, true_or, false_or, or_false, false_and, and_false, not_true_eq_false, not_false_eq_true] <;> omega))) (Nat.le_of_ble_eq_true rfl) (Nat.le_of_ble_eq_true rfl) ⟨rfl, hW_463, ((((hF_20.tr fr_33).tr fr_38).tr hF_464).mono rfl), (by first | omega | (simp only [Int32.lt_iff_toInt_lt, Int32.le_iff_toInt_le, Int32.reduceToInt, ← Int32.toInt_inj, true_and, and_true, or_true, true_or, false_or, or_false, false_and, and_false, not_true_eq_false, not_false_eq_true] <;> omega))⟩
        · simp only [Int32.lt_iff_toInt_lt, Int32.le_iff_toInt_le, Int32.reduceToInt, ← Int32.toInt_inj] at h_505
          refine v_iload_n hC dX9_tell_29 rfl ?_
          refine v_bipush hC dX9_tell_30 (v := 12) (by decide) ?_
          have jn_528 : ∀ (f_529 : Nat → va_E) (hW_530 : WT T L f_529) (hF_531 : FR [7] f_462 f_529) , V z E 3 0 0 L f_529 49 [(2, .int i_461), (0, .ref a_0), (1, .ref a_1)] [] := by
            intro f_529 hW_530 hF_531
            refine v_aload_n hC dX9_tell_49 rfl ?_
            refine v_aload_n hC dX9_tell_50 rfl ?_
            obtain ⟨v_533, v_535, e_532, b_534⟩ := hW_530.at m_21 t_22
            refine v_vv hC (rest := []) m_21 e_532 rfl mi_X9_tellLine ms_X9_tellLine (p_X9_tellLine hW_530 k_0 k_1) mx_X9_tellLine ml_X9_49 (by decide) rfl (cells1 := 0) (slots1 := 0) (by decide) (by decide) (Nat.le_of_ble_eq_true rfl) (Nat.le_of_ble_eq_true rfl) rfl (Nat.le_of_ble_eq_true rfl) dX9_tell_51 (fun L_537 f_538 h_539 => ?_)
            obtain ⟨rfl, hW_540, hF_541⟩ := h_539
            refine v_aload_n hC dX9_tell_54 rfl ?_
            refine v_dup hC dX9_tell_55 rfl ?_
            obtain ⟨v_543, v_545, e_542, b_544⟩ := hW_540.at m_21 t_22
            refine v_get hC fl_X9_27 m_21 e_542 rfl dX9_tell_56 ?_
            refine v_iconst hC dX9_tell_59 (v := 1) (by decide) ?_
            obtain ⟨v_546, h_547⟩ : ∃ v9 : Int32, v_545 + 1 = v9 := ⟨_, rfl⟩
            refine v_iadd hC dX9_tell_60 h_547 ?_
            refine v_put hC fl_X9_27 m_21 e_542 rfl rfl (Nat.le_of_ble_eq_true rfl) (fs' := [.ref q_23, .int v_543, .int v_546]) rfl dX9_tell_61 (fun f_549 hf_550 hk_551 => ?_)
            have hW_552 := hW_540.up hf_550 hk_551 t_22 ⟨v_543, v_546, rfl, (by first | omega | (simp only [Int32.lt_iff_toInt_lt, Int32.le_iff_toInt_le, Int32.reduceToInt, ← Int32.toInt_inj, true_and, and_true, or_true, true_or, false_or, or_false, false_and, and_false, not_true_eq_false, not_false_eq_true] <;> omega))⟩
            have fr_553 := FR.w hk_551 e_542 (k := 9) rfl
            obtain ⟨v_554, h_555⟩ : ∃ v9 : Int32, i_461 + Int32.ofInt 1 = v9 := ⟨_, rfl⟩
            have h_556 := add_v (b := 1) h_555 (by first | omega | (simp only [Int32.lt_iff_toInt_lt, Int32.le_iff_toInt_le, Int32.reduceToInt, ← Int32.toInt_inj, true_and, and_true, or_true, true_or, false_or, or_false, false_and, and_false, not_true_eq_false, not_false_eq_true] <;> omega)) (by first | omega | (simp only [Int32.lt_iff_toInt_lt, Int32.le_iff_toInt_le, Int32.reduceToInt, ← Int32.toInt_inj, true_and, and_true, or_true, true_or, false_or, or_false, false_and, and_false, not_true_eq_false, not_false_eq_true] <;> omega))
            simp only [Int32.reduceToInt] at h_556
            refine v_iinc hC dX9_tell_64 (k := 0) rfl (v := v_554) h_555 (by decide) (lv' := [(2, .int v_554), (0, .ref a_0), (1, .ref a_1)]) rfl ?_
            refine v_goto hC dX9_tell_67 (tgt := 16) (by decide) ?_
            refine v_pick [0, 1, 2] rfl ?_
            exact ih_468 f_549 hW_552 ((((hF_464.tr hF_531).tr hF_541).tr fr_553).mono rfl) v_554 (by first | omega | (simp only [Int32.lt_iff_toInt_lt, Int32.le_iff_toInt_le, Int32.reduceToInt, ← Int32.toInt_inj, true_and, and_true, or_true, true_or, false_or, or_false, false_and, and_false, not_true_eq_false, not_false_eq_true] <;> omega)) (by first | omega | (simp only [Int32.lt_iff_toInt_lt, Int32.le_iff_toInt_le, Int32.reduceToInt, ← Int32.toInt_inj, true_and, and_true, or_true, true_or, false_or, or_false, false_and, and_false, not_true_eq_false, not_false_eq_true] <;> omega))
          refine v_icmp_ne hC dX9_tell_32 (tgt := 49) (by decide) (fun h_513 => ?_) (fun h_513 => ?_)
          · simp only [Int32.lt_iff_toInt_lt, Int32.le_iff_toInt_le, Int32.reduceToInt, ← Int32.toInt_inj] at h_513
            refine v_pick [0, 1, 2] rfl ?_
            exact jn_528 f_462 hW_463 FR.rf
          · simp only [Int32.lt_iff_toInt_lt, Int32.le_iff_toInt_le, Int32.reduceToInt, ← Int32.toInt_inj] at h_513
            refine v_aload_n hC dX9_tell_35 rfl ?_
            refine v_ldcS hC sr_X9_39 dX9_tell_36 ?_
            refine v_vi hC (rest := []) m_1 e_488 rfl mi_X7_isWord ms_X7_isWord (p_X7_isWord hW_463 k_1 (by decide)) mx_X7_isWord ml_X9_41 (by decide) rfl (cells1 := 0) (slots1 := 0) (by decide) (by decide) (Nat.le_of_ble_eq_true rfl) (Nat.le_of_ble_eq_true rfl) rfl (Nat.le_of_ble_eq_true rfl) dX9_tell_38 (fun r_557 L_558 f_559 h_560 => ?_)
            obtain ⟨rfl, rfl, b_561⟩ := h_560
            refine v_if_eq hC dX9_tell_41 (tgt := 49) (by decide) (fun h_564 => ?_) (fun h_564 => ?_)
            · simp only [Int32.lt_iff_toInt_lt, Int32.le_iff_toInt_le, Int32.reduceToInt, ← Int32.toInt_inj] at h_564
              refine v_pick [0, 1, 2] rfl ?_
              exact jn_528 f_462 hW_463 FR.rf
            · simp only [Int32.lt_iff_toInt_lt, Int32.le_iff_toInt_le, Int32.reduceToInt, ← Int32.toInt_inj] at h_564
              refine v_aload_n hC dX9_tell_44 rfl ?_
              refine v_iconst hC dX9_tell_45 (v := 3) (by decide) ?_
              refine v_vv hC (rest := []) m_1 e_488 rfl mi_X7_complain ms_X7_complain (p_X7_complain hW_463 k_1) mx_X7_complain ml_X9_45 (by decide) rfl (cells1 := 0) (slots1 := 0) (by decide) (by decide) (Nat.le_of_ble_eq_true rfl) (Nat.le_of_ble_eq_true rfl) rfl (Nat.le_of_ble_eq_true rfl) dX9_tell_46 (fun L_566 f_567 h_568 => ?_)
              obtain ⟨rfl, hW_569, hF_570⟩ := h_568
              refine v_pick [0, 1, 2] rfl ?_
              exact jn_528 f_567 hW_569 (hF_570.mono rfl)
  refine v_pick [0, 1, 2] rfl ?_
  exact lp_466 15 f_34 hW_37 FR.rf 0 (by decide) (by decide)
set_option maxRecDepth 100000 in
set_option maxHeartbeats 8000000 in
theorem p_X9_codeAt {l : Launch} {E : Ez} {L : List Nat} {f : Nat → va_E} {T : Nat → va_E → Prop} {a_0 : Nat} {a_1 : Int32} (hW : WT T L f) (k_0 : isWat T L E a_0) : CI l yX9_codeAt cX9_codeAt 2 .int 0 0 0 E [.ref a_0, .int a_1] L f (fun r L1 f1 => L = L1 ∧ f = f1 ∧ (¬ r.toInt = 0 ∨ (0 ≤ a_1.toInt ∧ a_1.toInt ≤ 299))) := by
  refine ci_of (by decide) (Nat.le_of_ble_eq_true rfl) (fun z hz hnm hC hR => ?_)
  have hC : Cx z E cX9_codeAt RX9 2 0 0 0 := hC
  subst hz
  show V z E 2 0 0 L f 0 [(0, .ref a_0), (1, .int a_1)] []
  refine v_iload_n hC dX9_codeAt_0 rfl ?_
  refine v_if_lt hC dX9_codeAt_1 (tgt := 28) (by decide) (fun h_1 => ?_) (fun h_1 => ?_)
  · simp only [Int32.lt_iff_toInt_lt, Int32.le_iff_toInt_le, Int32.reduceToInt, ← Int32.toInt_inj] at h_1
    refine v_sipush hC dX9_codeAt_28 (v := 2007) (by decide) ?_
    exact hR _ _ _ _ _ _ _ dX9_codeAt_31 rfl (Nat.le_of_ble_eq_true rfl) (Nat.le_of_ble_eq_true rfl) ⟨rfl, rfl, (.inl (by decide))⟩
  · simp only [Int32.lt_iff_toInt_lt, Int32.le_iff_toInt_le, Int32.reduceToInt, ← Int32.toInt_inj] at h_1
    refine v_iload_n hC dX9_codeAt_4 rfl ?_
    refine v_aload_n hC dX9_codeAt_5 rfl ?_
    obtain ⟨m_2, q_4, t_3, k_5⟩ := id k_0
    obtain ⟨v_7, v_9, e_6, b_8⟩ := hW.at m_2 t_3
    refine v_get hC fl_X9_23 m_2 e_6 rfl dX9_codeAt_6 ?_
    refine v_icmp_ge hC dX9_codeAt_9 (tgt := 28) (by decide) (fun h_10 => ?_) (fun h_10 => ?_)
    · simp only [Int32.lt_iff_toInt_lt, Int32.le_iff_toInt_le, Int32.reduceToInt, ← Int32.toInt_inj] at h_10
      refine v_sipush hC dX9_codeAt_28 (v := 2007) (by decide) ?_
      exact hR _ _ _ _ _ _ _ dX9_codeAt_31 rfl (Nat.le_of_ble_eq_true rfl) (Nat.le_of_ble_eq_true rfl) ⟨rfl, rfl, (.inl (by decide))⟩
    · simp only [Int32.lt_iff_toInt_lt, Int32.le_iff_toInt_le, Int32.reduceToInt, ← Int32.toInt_inj] at h_10
      refine v_iload_n hC dX9_codeAt_12 rfl ?_
      refine v_sipush hC dX9_codeAt_13 (v := 300) (by decide) ?_
      refine v_icmp_ge_f hC dX9_codeAt_16 (tgt := 28) (by decide) (by first | omega | (simp only [Int32.lt_iff_toInt_lt, Int32.le_iff_toInt_le, Int32.reduceToInt, ← Int32.toInt_inj, true_and, and_true, or_true, true_or, false_or, or_false, false_and, and_false, not_true_eq_false, not_false_eq_true] <;> omega)) ?_
      refine v_aload_n hC dX9_codeAt_19 rfl ?_
      refine v_get hC fl_X9_13 m_2 e_6 rfl dX9_codeAt_20 ?_
      refine v_iload_n hC dX9_codeAt_23 rfl ?_
      obtain ⟨m_11, t_12⟩ := id k_5
      obtain ⟨g_14, e_13⟩ := hW.at m_11 t_12
      obtain ⟨v_15, h_16⟩ : ∃ v9 : Int32, g_14 (a_1 : Int32).toNatClampNeg = v9 := ⟨_, rfl⟩
      refine v_iald hC m_11 e_13 (vp_in_iff.mpr (by first | omega | (simp only [Int32.lt_iff_toInt_lt, Int32.le_iff_toInt_le, Int32.reduceToInt, ← Int32.toInt_inj, true_and, and_true, or_true, true_or, false_or, or_false, false_and, and_false, not_true_eq_false, not_false_eq_true] <;> omega))) h_16 dX9_codeAt_24 ?_
      refine v_goto hC dX9_codeAt_25 (tgt := 31) (by decide) ?_
      exact hR _ _ _ _ _ _ _ dX9_codeAt_31 rfl (Nat.le_of_ble_eq_true rfl) (Nat.le_of_ble_eq_true rfl) ⟨rfl, rfl, (.inr (by first | omega | (simp only [Int32.lt_iff_toInt_lt, Int32.le_iff_toInt_le, Int32.reduceToInt, ← Int32.toInt_inj, true_and, and_true, or_true, true_or, false_or, or_false, false_and, and_false, not_true_eq_false, not_false_eq_true] <;> omega)))⟩
set_option maxRecDepth 100000 in
set_option maxHeartbeats 8000000 in
theorem p_X9_isBeyond {l : Launch} {E : Ez} {L : List Nat} {f : Nat → va_E} {T : Nat → va_E → Prop} {a_0 : Int64} (hW : WT T L f) : CI l yX9_isBeyond cX9_isBeyond 2 .boolean 0 0 0 E [.long a_0] L f (fun r L1 f1 => L = L1 ∧ f = f1 ∧ (0 ≤ r.toInt ∧ r.toInt ≤ 1)) := by
  refine ci_of (by decide) (Nat.le_of_ble_eq_true rfl) (fun z hz hnm hC hR => ?_)
  have hC : Cx z E cX9_isBeyond RX9 2 0 0 0 := hC
  subst hz
  show V z E 2 0 0 L f 0 [(0, .long a_0)] []
  refine v_lload_n hC dX9_isBeyond_0 rfl ?_
  refine v_ldc2 hC kl_X9_148 dX9_isBeyond_1 ?_
  obtain ⟨v_1, h_2⟩ : ∃ v9 : Int32, lg_cmp (a_0 : Int64) 1000000000 = v9 := ⟨_, rfl⟩
  refine v_lcmp hC dX9_isBeyond_4 h_2 ?_
  refine v_if_gt hC dX9_isBeyond_5 (tgt := 16) (by decide) (fun h_3 => ?_) (fun h_3 => ?_)
  · rw [← h_2] at h_3
    have h_4 := (lgc_gt.mp h_3)
    simp only [Int64.lt_iff_toInt_lt, Int64.le_iff_toInt_le] at h_4
    refine v_iconst hC dX9_isBeyond_16 (v := 1) (by decide) ?_
    refine v_goto hC dX9_isBeyond_17 (tgt := 21) (by decide) ?_
    exact hR _ _ _ _ _ _ _ dX9_isBeyond_21 rfl (Nat.le_of_ble_eq_true rfl) (Nat.le_of_ble_eq_true rfl) ⟨rfl, rfl, (by decide)⟩
  · rw [← h_2] at h_3
    have h_5 := (mt lgc_gt.mpr h_3)
    simp only [Int64.lt_iff_toInt_lt, Int64.le_iff_toInt_le] at h_5
    refine v_lload_n hC dX9_isBeyond_8 rfl ?_
    refine v_ldc2 hC kl_X9_150 dX9_isBeyond_9 ?_
    obtain ⟨v_6, h_7⟩ : ∃ v9 : Int32, lg_cmp (a_0 : Int64) (-1000000000) = v9 := ⟨_, rfl⟩
    refine v_lcmp hC dX9_isBeyond_12 h_7 ?_
    refine v_if_ge hC dX9_isBeyond_13 (tgt := 20) (by decide) (fun h_8 => ?_) (fun h_8 => ?_)
    · rw [← h_7] at h_8
      have h_9 := (lgc_ge.mp h_8)
      simp only [Int64.lt_iff_toInt_lt, Int64.le_iff_toInt_le] at h_9
      refine v_iconst hC dX9_isBeyond_20 (v := 0) (by decide) ?_
      exact hR _ _ _ _ _ _ _ dX9_isBeyond_21 rfl (Nat.le_of_ble_eq_true rfl) (Nat.le_of_ble_eq_true rfl) ⟨rfl, rfl, (by decide)⟩
    · rw [← h_7] at h_8
      have h_10 := (mt lgc_ge.mpr h_8)
      simp only [Int64.lt_iff_toInt_lt, Int64.le_iff_toInt_le] at h_10
      refine v_iconst hC dX9_isBeyond_16 (v := 1) (by decide) ?_
      refine v_goto hC dX9_isBeyond_17 (tgt := 21) (by decide) ?_
      exact hR _ _ _ _ _ _ _ dX9_isBeyond_21 rfl (Nat.le_of_ble_eq_true rfl) (Nat.le_of_ble_eq_true rfl) ⟨rfl, rfl, (by decide)⟩
set_option maxRecDepth 100000 in
set_option maxHeartbeats 8000000 in
theorem p_X6_mostInRow {l : Launch} {E : Ez} {L : List Nat} {f : Nat → va_E} {T : Nat → va_E → Prop} {a_0 : Nat} (hW : WT T L f) (k_0 : isTal T L E a_0) : CI l yX6_mostInRow cX6_mostInRow 3 .int 0 0 0 E [.ref a_0] L f (fun r L1 f1 => L = L1 ∧ f = f1) := by
  refine ci_of (by decide) (Nat.le_of_ble_eq_true rfl) (fun z hz hnm hC hR => ?_)
  have hC : Cx z E cX6_mostInRow RX6 3 0 0 0 := hC
  subst hz
  show V z E 3 0 0 L f 0 [(0, .ref a_0)] []
  refine v_iconst hC dX6_mostInRow_0 (v := 0) (by decide) ?_
  refine v_istore_n hC dX6_mostInRow_1 (by decide) (lv' := [(1, .int 0), (0, .ref a_0)]) rfl ?_
  refine v_iconst hC dX6_mostInRow_2 (v := 0) (by decide) ?_
  refine v_istore_n hC dX6_mostInRow_3 (by decide) (lv' := [(2, .int 0), (1, .int 0), (0, .ref a_0)]) rfl ?_
  have lp_243 : ∀ (n_244 : Nat) (i_240 : Int32) (b_242 : (0 ≤ i_240.toInt ∧ i_240.toInt ≤ 16)) (i_241 : Int32) (hm_246 : 16 - i_240.toInt < (n_244 : Int)), V z E 3 0 0 L f 4 [(2, .int i_240), (1, .int i_241), (0, .ref a_0)] [] := by
    intro n_244
    induction n_244 with
    | zero =>
      intro i_240 b_242 i_241 hm_246
      exfalso; omega
    | succ n_244 ih_245 =>
      intro i_240 b_242 i_241 hm_246
      refine v_iload_n hC dX6_mostInRow_4 rfl ?_
      refine v_aload_n hC dX6_mostInRow_5 rfl ?_
      obtain ⟨m_247, q_249, q_250, q_251, q_252, q_253, t_248, k_254, k_255, k_256, k_257, k_258⟩ := id k_0
      obtain ⟨v_260, v_261, v_263, v_265, v_266, e_259, b_262, b_264⟩ := hW.at m_247 t_248
      refine v_get hC fl_X6_57 m_247 e_259 rfl dX6_mostInRow_6 ?_
      refine v_icmp_ge hC dX6_mostInRow_9 (tgt := 35) (by decide) (fun h_267 => ?_) (fun h_267 => ?_)
      · simp only [Int32.lt_iff_toInt_lt, Int32.le_iff_toInt_le, Int32.reduceToInt, ← Int32.toInt_inj] at h_267
        refine v_iload_n hC dX6_mostInRow_35 rfl ?_
        exact hR _ _ _ _ _ _ _ dX6_mostInRow_36 rfl (Nat.le_of_ble_eq_true rfl) (Nat.le_of_ble_eq_true rfl) ⟨rfl, rfl⟩
      · simp only [Int32.lt_iff_toInt_lt, Int32.le_iff_toInt_le, Int32.reduceToInt, ← Int32.toInt_inj] at h_267
        refine v_aload_n hC dX6_mostInRow_12 rfl ?_
        refine v_get hC fl_X6_22 m_247 e_259 rfl dX6_mostInRow_13 ?_
        refine v_iload_n hC dX6_mostInRow_16 rfl ?_
        obtain ⟨m_268, t_269⟩ := id k_256
        obtain ⟨g_271, e_270⟩ := hW.at m_268 t_269
        obtain ⟨v_272, h_273⟩ : ∃ v9 : Int32, g_271 (i_240 : Int32).toNatClampNeg = v9 := ⟨_, rfl⟩
        refine v_iald hC m_268 e_270 (vp_in_iff.mpr (by first | omega | (simp only [Int32.lt_iff_toInt_lt, Int32.le_iff_toInt_le, Int32.reduceToInt, ← Int32.toInt_inj, true_and, and_true, or_true, true_or, false_or, or_false, false_and, and_false, not_true_eq_false, not_false_eq_true] <;> omega))) h_273 dX6_mostInRow_17 ?_
        refine v_iload_n hC dX6_mostInRow_18 rfl ?_
        refine v_icmp_le hC dX6_mostInRow_19 (tgt := 29) (by decide) (fun h_274 => ?_) (fun h_274 => ?_)
        · simp only [Int32.lt_iff_toInt_lt, Int32.le_iff_toInt_le, Int32.reduceToInt, ← Int32.toInt_inj] at h_274
          obtain ⟨v_275, h_276⟩ : ∃ v9 : Int32, i_240 + Int32.ofInt 1 = v9 := ⟨_, rfl⟩
          have h_277 := add_v (b := 1) h_276 (by first | omega | (simp only [Int32.lt_iff_toInt_lt, Int32.le_iff_toInt_le, Int32.reduceToInt, ← Int32.toInt_inj, true_and, and_true, or_true, true_or, false_or, or_false, false_and, and_false, not_true_eq_false, not_false_eq_true] <;> omega)) (by first | omega | (simp only [Int32.lt_iff_toInt_lt, Int32.le_iff_toInt_le, Int32.reduceToInt, ← Int32.toInt_inj, true_and, and_true, or_true, true_or, false_or, or_false, false_and, and_false, not_true_eq_false, not_false_eq_true] <;> omega))
          simp only [Int32.reduceToInt] at h_277
          refine v_iinc hC dX6_mostInRow_29 (k := 0) rfl (v := v_275) h_276 (by decide) (lv' := [(2, .int v_275), (1, .int i_241), (0, .ref a_0)]) rfl ?_
          refine v_goto hC dX6_mostInRow_32 (tgt := 4) (by decide) ?_
          refine v_pick [0, 1, 2] rfl ?_
          exact ih_245 v_275 (by first | omega | (simp only [Int32.lt_iff_toInt_lt, Int32.le_iff_toInt_le, Int32.reduceToInt, ← Int32.toInt_inj, true_and, and_true, or_true, true_or, false_or, or_false, false_and, and_false, not_true_eq_false, not_false_eq_true] <;> omega)) i_241 (by first | omega | (simp only [Int32.lt_iff_toInt_lt, Int32.le_iff_toInt_le, Int32.reduceToInt, ← Int32.toInt_inj, true_and, and_true, or_true, true_or, false_or, or_false, false_and, and_false, not_true_eq_false, not_false_eq_true] <;> omega))
        · simp only [Int32.lt_iff_toInt_lt, Int32.le_iff_toInt_le, Int32.reduceToInt, ← Int32.toInt_inj] at h_274
          refine v_aload_n hC dX6_mostInRow_22 rfl ?_
          refine v_get hC fl_X6_22 m_247 e_259 rfl dX6_mostInRow_23 ?_
          refine v_iload_n hC dX6_mostInRow_26 rfl ?_
          obtain ⟨v_278, h_279⟩ : ∃ v9 : Int32, g_271 (i_240 : Int32).toNatClampNeg = v9 := ⟨_, rfl⟩
          refine v_iald hC m_268 e_270 (vp_in_iff.mpr (by first | omega | (simp only [Int32.lt_iff_toInt_lt, Int32.le_iff_toInt_le, Int32.reduceToInt, ← Int32.toInt_inj, true_and, and_true, or_true, true_or, false_or, or_false, false_and, and_false, not_true_eq_false, not_false_eq_true] <;> omega))) h_279 dX6_mostInRow_27 ?_
          refine v_istore_n hC dX6_mostInRow_28 (by decide) (lv' := [(1, .int v_278), (2, .int i_240), (0, .ref a_0)]) rfl ?_
          obtain ⟨v_280, h_281⟩ : ∃ v9 : Int32, i_240 + Int32.ofInt 1 = v9 := ⟨_, rfl⟩
          have h_282 := add_v (b := 1) h_281 (by first | omega | (simp only [Int32.lt_iff_toInt_lt, Int32.le_iff_toInt_le, Int32.reduceToInt, ← Int32.toInt_inj, true_and, and_true, or_true, true_or, false_or, or_false, false_and, and_false, not_true_eq_false, not_false_eq_true] <;> omega)) (by first | omega | (simp only [Int32.lt_iff_toInt_lt, Int32.le_iff_toInt_le, Int32.reduceToInt, ← Int32.toInt_inj, true_and, and_true, or_true, true_or, false_or, or_false, false_and, and_false, not_true_eq_false, not_false_eq_true] <;> omega))
          simp only [Int32.reduceToInt] at h_282
          refine v_iinc hC dX6_mostInRow_29 (k := 1) rfl (v := v_280) h_281 (by decide) (lv' := [(2, .int v_280), (1, .int v_278), (0, .ref a_0)]) rfl ?_
          refine v_goto hC dX6_mostInRow_32 (tgt := 4) (by decide) ?_
          refine v_pick [0, 1, 2] rfl ?_
          exact ih_245 v_280 (by first | omega | (simp only [Int32.lt_iff_toInt_lt, Int32.le_iff_toInt_le, Int32.reduceToInt, ← Int32.toInt_inj, true_and, and_true, or_true, true_or, false_or, or_false, false_and, and_false, not_true_eq_false, not_false_eq_true] <;> omega)) v_278 (by first | omega | (simp only [Int32.lt_iff_toInt_lt, Int32.le_iff_toInt_le, Int32.reduceToInt, ← Int32.toInt_inj, true_and, and_true, or_true, true_or, false_or, or_false, false_and, and_false, not_true_eq_false, not_false_eq_true] <;> omega))
  refine v_pick [0, 1, 2] rfl ?_
  exact lp_243 18 0 (by decide) 0 (by decide)
set_option maxRecDepth 100000 in
set_option maxHeartbeats 8000000 in
theorem p_X6_leastInRow {l : Launch} {E : Ez} {L : List Nat} {f : Nat → va_E} {T : Nat → va_E → Prop} {a_0 : Nat} (hW : WT T L f) (k_0 : isTal T L E a_0) : CI l yX6_leastInRow cX6_leastInRow 3 .int 0 0 0 E [.ref a_0] L f (fun r L1 f1 => L = L1 ∧ f = f1) := by
  refine ci_of (by decide) (Nat.le_of_ble_eq_true rfl) (fun z hz hnm hC hR => ?_)
  have hC : Cx z E cX6_leastInRow RX6 3 0 0 0 := hC
  subst hz
  show V z E 3 0 0 L f 0 [(0, .ref a_0)] []
  refine v_bipush hC dX6_leastInRow_0 (v := 16) (by decide) ?_
  refine v_istore_n hC dX6_leastInRow_2 (by decide) (lv' := [(1, .int 16), (0, .ref a_0)]) rfl ?_
  refine v_iconst hC dX6_leastInRow_3 (v := 0) (by decide) ?_
  refine v_istore_n hC dX6_leastInRow_4 (by decide) (lv' := [(2, .int 0), (1, .int 16), (0, .ref a_0)]) rfl ?_
  have lp_243 : ∀ (n_244 : Nat) (i_240 : Int32) (b_242 : (0 ≤ i_240.toInt ∧ i_240.toInt ≤ 16)) (i_241 : Int32) (hm_246 : 16 - i_240.toInt < (n_244 : Int)), V z E 3 0 0 L f 5 [(2, .int i_240), (1, .int i_241), (0, .ref a_0)] [] := by
    intro n_244
    induction n_244 with
    | zero =>
      intro i_240 b_242 i_241 hm_246
      exfalso; omega
    | succ n_244 ih_245 =>
      intro i_240 b_242 i_241 hm_246
      refine v_iload_n hC dX6_leastInRow_5 rfl ?_
      refine v_aload_n hC dX6_leastInRow_6 rfl ?_
      obtain ⟨m_247, q_249, q_250, q_251, q_252, q_253, t_248, k_254, k_255, k_256, k_257, k_258⟩ := id k_0
      obtain ⟨v_260, v_261, v_263, v_265, v_266, e_259, b_262, b_264⟩ := hW.at m_247 t_248
      refine v_get hC fl_X6_57 m_247 e_259 rfl dX6_leastInRow_7 ?_
      refine v_icmp_ge hC dX6_leastInRow_10 (tgt := 36) (by decide) (fun h_267 => ?_) (fun h_267 => ?_)
      · simp only [Int32.lt_iff_toInt_lt, Int32.le_iff_toInt_le, Int32.reduceToInt, ← Int32.toInt_inj] at h_267
        refine v_iload_n hC dX6_leastInRow_36 rfl ?_
        exact hR _ _ _ _ _ _ _ dX6_leastInRow_37 rfl (Nat.le_of_ble_eq_true rfl) (Nat.le_of_ble_eq_true rfl) ⟨rfl, rfl⟩
      · simp only [Int32.lt_iff_toInt_lt, Int32.le_iff_toInt_le, Int32.reduceToInt, ← Int32.toInt_inj] at h_267
        refine v_aload_n hC dX6_leastInRow_13 rfl ?_
        refine v_get hC fl_X6_22 m_247 e_259 rfl dX6_leastInRow_14 ?_
        refine v_iload_n hC dX6_leastInRow_17 rfl ?_
        obtain ⟨m_268, t_269⟩ := id k_256
        obtain ⟨g_271, e_270⟩ := hW.at m_268 t_269
        obtain ⟨v_272, h_273⟩ : ∃ v9 : Int32, g_271 (i_240 : Int32).toNatClampNeg = v9 := ⟨_, rfl⟩
        refine v_iald hC m_268 e_270 (vp_in_iff.mpr (by first | omega | (simp only [Int32.lt_iff_toInt_lt, Int32.le_iff_toInt_le, Int32.reduceToInt, ← Int32.toInt_inj, true_and, and_true, or_true, true_or, false_or, or_false, false_and, and_false, not_true_eq_false, not_false_eq_true] <;> omega))) h_273 dX6_leastInRow_18 ?_
        refine v_iload_n hC dX6_leastInRow_19 rfl ?_
        refine v_icmp_ge hC dX6_leastInRow_20 (tgt := 30) (by decide) (fun h_274 => ?_) (fun h_274 => ?_)
        · simp only [Int32.lt_iff_toInt_lt, Int32.le_iff_toInt_le, Int32.reduceToInt, ← Int32.toInt_inj] at h_274
          obtain ⟨v_275, h_276⟩ : ∃ v9 : Int32, i_240 + Int32.ofInt 1 = v9 := ⟨_, rfl⟩
          have h_277 := add_v (b := 1) h_276 (by first | omega | (simp only [Int32.lt_iff_toInt_lt, Int32.le_iff_toInt_le, Int32.reduceToInt, ← Int32.toInt_inj, true_and, and_true, or_true, true_or, false_or, or_false, false_and, and_false, not_true_eq_false, not_false_eq_true] <;> omega)) (by first | omega | (simp only [Int32.lt_iff_toInt_lt, Int32.le_iff_toInt_le, Int32.reduceToInt, ← Int32.toInt_inj, true_and, and_true, or_true, true_or, false_or, or_false, false_and, and_false, not_true_eq_false, not_false_eq_true] <;> omega))
          simp only [Int32.reduceToInt] at h_277
          refine v_iinc hC dX6_leastInRow_30 (k := 0) rfl (v := v_275) h_276 (by decide) (lv' := [(2, .int v_275), (1, .int i_241), (0, .ref a_0)]) rfl ?_
          refine v_goto hC dX6_leastInRow_33 (tgt := 5) (by decide) ?_
          refine v_pick [0, 1, 2] rfl ?_
          exact ih_245 v_275 (by first | omega | (simp only [Int32.lt_iff_toInt_lt, Int32.le_iff_toInt_le, Int32.reduceToInt, ← Int32.toInt_inj, true_and, and_true, or_true, true_or, false_or, or_false, false_and, and_false, not_true_eq_false, not_false_eq_true] <;> omega)) i_241 (by first | omega | (simp only [Int32.lt_iff_toInt_lt, Int32.le_iff_toInt_le, Int32.reduceToInt, ← Int32.toInt_inj, true_and, and_true, or_true, true_or, false_or, or_false, false_and, and_false, not_true_eq_false, not_false_eq_true] <;> omega))
        · simp only [Int32.lt_iff_toInt_lt, Int32.le_iff_toInt_le, Int32.reduceToInt, ← Int32.toInt_inj] at h_274
          refine v_aload_n hC dX6_leastInRow_23 rfl ?_
          refine v_get hC fl_X6_22 m_247 e_259 rfl dX6_leastInRow_24 ?_
          refine v_iload_n hC dX6_leastInRow_27 rfl ?_
          obtain ⟨v_278, h_279⟩ : ∃ v9 : Int32, g_271 (i_240 : Int32).toNatClampNeg = v9 := ⟨_, rfl⟩
          refine v_iald hC m_268 e_270 (vp_in_iff.mpr (by first | omega | (simp only [Int32.lt_iff_toInt_lt, Int32.le_iff_toInt_le, Int32.reduceToInt, ← Int32.toInt_inj, true_and, and_true, or_true, true_or, false_or, or_false, false_and, and_false, not_true_eq_false, not_false_eq_true] <;> omega))) h_279 dX6_leastInRow_28 ?_
          refine v_istore_n hC dX6_leastInRow_29 (by decide) (lv' := [(1, .int v_278), (2, .int i_240), (0, .ref a_0)]) rfl ?_
          obtain ⟨v_280, h_281⟩ : ∃ v9 : Int32, i_240 + Int32.ofInt 1 = v9 := ⟨_, rfl⟩
          have h_282 := add_v (b := 1) h_281 (by first | omega | (simp only [Int32.lt_iff_toInt_lt, Int32.le_iff_toInt_le, Int32.reduceToInt, ← Int32.toInt_inj, true_and, and_true, or_true, true_or, false_or, or_false, false_and, and_false, not_true_eq_false, not_false_eq_true] <;> omega)) (by first | omega | (simp only [Int32.lt_iff_toInt_lt, Int32.le_iff_toInt_le, Int32.reduceToInt, ← Int32.toInt_inj, true_and, and_true, or_true, true_or, false_or, or_false, false_and, and_false, not_true_eq_false, not_false_eq_true] <;> omega))
          simp only [Int32.reduceToInt] at h_282
          refine v_iinc hC dX6_leastInRow_30 (k := 1) rfl (v := v_280) h_281 (by decide) (lv' := [(2, .int v_280), (1, .int v_278), (0, .ref a_0)]) rfl ?_
          refine v_goto hC dX6_leastInRow_33 (tgt := 5) (by decide) ?_
          refine v_pick [0, 1, 2] rfl ?_
          exact ih_245 v_280 (by first | omega | (simp only [Int32.lt_iff_toInt_lt, Int32.le_iff_toInt_le, Int32.reduceToInt, ← Int32.toInt_inj, true_and, and_true, or_true, true_or, false_or, or_false, false_and, and_false, not_true_eq_false, not_false_eq_true] <;> omega)) v_278 (by first | omega | (simp only [Int32.lt_iff_toInt_lt, Int32.le_iff_toInt_le, Int32.reduceToInt, ← Int32.toInt_inj, true_and, and_true, or_true, true_or, false_or, or_false, false_and, and_false, not_true_eq_false, not_false_eq_true] <;> omega))
  refine v_pick [0, 1, 2] rfl ?_
  exact lp_243 18 0 (by decide) 16 (by decide)
set_option maxRecDepth 100000 in
set_option maxHeartbeats 8000000 in
theorem p_X6_valueOf {l : Launch} {E : Ez} {L : List Nat} {f : Nat → va_E} {T : Nat → va_E → Prop} {a_0 : Nat} {a_1 : Int32} (hW : WT T L f) (k_0 : isTal T L E a_0) : CI l yX6_valueOf cX6_valueOf 2 .int 1 0 0 E [.ref a_0, .int a_1] L f (fun r L1 f1 => L = L1 ∧ f = f1 ∧ (r.toInt = 0 ∨ (0 ≤ a_1.toInt ∧ a_1.toInt ≤ 7))) := by
  refine ci_of (by decide) (Nat.le_of_ble_eq_true rfl) (fun z hz hnm hC hR => ?_)
  have hC : Cx z E cX6_valueOf RX6 2 1 0 0 := hC
  subst hz
  show V z E 2 0 0 L f 0 [(0, .ref a_0), (1, .int a_1)] []
  refine v_iload_n hC dX6_valueOf_0 rfl ?_
  by_cases h_1 : a_1 = 3
  · refine v_tableIn hC dX6_valueOf_1 (off := 35) (tgt := 36) (by rw [h_1]; decide) (by rw [h_1]; decide) (by rw [h_1]; rfl) (by decide) ?_
    simp only [Int32.lt_iff_toInt_lt, Int32.le_iff_toInt_le, Int32.reduceToInt, ← Int32.toInt_inj] at h_1
    refine v_aload_n hC dX6_valueOf_36 rfl ?_
    obtain ⟨m_6, q_8, q_9, q_10, q_11, q_12, t_7, k_13, k_14, k_15, k_16, k_17⟩ := id k_0
    obtain ⟨v_19, v_20, v_22, v_24, v_25, e_18, b_21, b_23⟩ := hW.at m_6 t_7
    refine v_get hC fl_X6_69 m_6 e_18 rfl dX6_valueOf_37 ?_
    exact hR _ _ _ _ _ _ _ dX6_valueOf_40 rfl (Nat.le_of_ble_eq_true rfl) (Nat.le_of_ble_eq_true rfl) ⟨rfl, rfl, (.inr (by first | omega | (simp only [Int32.lt_iff_toInt_lt, Int32.le_iff_toInt_le, Int32.reduceToInt, ← Int32.toInt_inj, true_and, and_true, or_true, true_or, false_or, or_false, false_and, and_false, not_true_eq_false, not_false_eq_true] <;> omega)))⟩
  by_cases h_2 : a_1 = 4
  · refine v_tableIn hC dX6_valueOf_1 (off := 40) (tgt := 41) (by rw [h_2]; decide) (by rw [h_2]; decide) (by rw [h_2]; rfl) (by decide) ?_
    simp only [Int32.lt_iff_toInt_lt, Int32.le_iff_toInt_le, Int32.reduceToInt, ← Int32.toInt_inj] at h_2
    refine v_aload_n hC dX6_valueOf_41 rfl ?_
    obtain ⟨m_26, q_28, q_29, q_30, q_31, q_32, t_27, k_33, k_34, k_35, k_36, k_37⟩ := id k_0
    obtain ⟨v_39, v_40, v_42, v_44, v_45, e_38, b_41, b_43⟩ := hW.at m_26 t_27
    refine v_vi hC (rest := []) m_26 e_38 rfl mi_X6_mostInRow ms_X6_mostInRow (p_X6_mostInRow hW k_0) mx_X6_mostInRow ml_X6_99 (by decide) rfl (cells1 := 0) (slots1 := 0) (by decide) (by decide) (Nat.le_of_ble_eq_true rfl) (Nat.le_of_ble_eq_true rfl) rfl (Nat.le_of_ble_eq_true rfl) dX6_valueOf_42 (fun r_46 L_47 f_48 h_49 => ?_)
    obtain ⟨rfl, rfl⟩ := h_49
    exact hR _ _ _ _ _ _ _ dX6_valueOf_45 rfl (Nat.le_of_ble_eq_true rfl) (Nat.le_of_ble_eq_true rfl) ⟨rfl, rfl, (.inr (by first | omega | (simp only [Int32.lt_iff_toInt_lt, Int32.le_iff_toInt_le, Int32.reduceToInt, ← Int32.toInt_inj, true_and, and_true, or_true, true_or, false_or, or_false, false_and, and_false, not_true_eq_false, not_false_eq_true] <;> omega)))⟩
  by_cases h_3 : a_1 = 5
  · refine v_tableIn hC dX6_valueOf_1 (off := 45) (tgt := 46) (by rw [h_3]; decide) (by rw [h_3]; decide) (by rw [h_3]; rfl) (by decide) ?_
    simp only [Int32.lt_iff_toInt_lt, Int32.le_iff_toInt_le, Int32.reduceToInt, ← Int32.toInt_inj] at h_3
    refine v_aload_n hC dX6_valueOf_46 rfl ?_
    obtain ⟨m_52, q_54, q_55, q_56, q_57, q_58, t_53, k_59, k_60, k_61, k_62, k_63⟩ := id k_0
    obtain ⟨v_65, v_66, v_68, v_70, v_71, e_64, b_67, b_69⟩ := hW.at m_52 t_53
    refine v_vi hC (rest := []) m_52 e_64 rfl mi_X6_leastInRow ms_X6_leastInRow (p_X6_leastInRow hW k_0) mx_X6_leastInRow ml_X6_103 (by decide) rfl (cells1 := 0) (slots1 := 0) (by decide) (by decide) (Nat.le_of_ble_eq_true rfl) (Nat.le_of_ble_eq_true rfl) rfl (Nat.le_of_ble_eq_true rfl) dX6_valueOf_47 (fun r_72 L_73 f_74 h_75 => ?_)
    obtain ⟨rfl, rfl⟩ := h_75
    exact hR _ _ _ _ _ _ _ dX6_valueOf_50 rfl (Nat.le_of_ble_eq_true rfl) (Nat.le_of_ble_eq_true rfl) ⟨rfl, rfl, (.inr (by first | omega | (simp only [Int32.lt_iff_toInt_lt, Int32.le_iff_toInt_le, Int32.reduceToInt, ← Int32.toInt_inj, true_and, and_true, or_true, true_or, false_or, or_false, false_and, and_false, not_true_eq_false, not_false_eq_true] <;> omega)))⟩
  by_cases h_4 : a_1 = 6
  · refine v_tableIn hC dX6_valueOf_1 (off := 50) (tgt := 51) (by rw [h_4]; decide) (by rw [h_4]; decide) (by rw [h_4]; rfl) (by decide) ?_
    simp only [Int32.lt_iff_toInt_lt, Int32.le_iff_toInt_le, Int32.reduceToInt, ← Int32.toInt_inj] at h_4
    refine v_aload_n hC dX6_valueOf_51 rfl ?_
    obtain ⟨m_78, q_80, q_81, q_82, q_83, q_84, t_79, k_85, k_86, k_87, k_88, k_89⟩ := id k_0
    obtain ⟨v_91, v_92, v_94, v_96, v_97, e_90, b_93, b_95⟩ := hW.at m_78 t_79
    refine v_get hC fl_X6_66 m_78 e_90 rfl dX6_valueOf_52 ?_
    exact hR _ _ _ _ _ _ _ dX6_valueOf_55 rfl (Nat.le_of_ble_eq_true rfl) (Nat.le_of_ble_eq_true rfl) ⟨rfl, rfl, (.inr (by first | omega | (simp only [Int32.lt_iff_toInt_lt, Int32.le_iff_toInt_le, Int32.reduceToInt, ← Int32.toInt_inj, true_and, and_true, or_true, true_or, false_or, or_false, false_and, and_false, not_true_eq_false, not_false_eq_true] <;> omega)))⟩
  by_cases h_5 : a_1 = 7
  · refine v_tableIn hC dX6_valueOf_1 (off := 55) (tgt := 56) (by rw [h_5]; decide) (by rw [h_5]; decide) (by rw [h_5]; rfl) (by decide) ?_
    simp only [Int32.lt_iff_toInt_lt, Int32.le_iff_toInt_le, Int32.reduceToInt, ← Int32.toInt_inj] at h_5
    refine v_aload_n hC dX6_valueOf_56 rfl ?_
    obtain ⟨m_98, q_100, q_101, q_102, q_103, q_104, t_99, k_105, k_106, k_107, k_108, k_109⟩ := id k_0
    obtain ⟨v_111, v_112, v_114, v_116, v_117, e_110, b_113, b_115⟩ := hW.at m_98 t_99
    refine v_get hC fl_X6_61 m_98 e_110 rfl dX6_valueOf_57 ?_
    exact hR _ _ _ _ _ _ _ dX6_valueOf_60 rfl (Nat.le_of_ble_eq_true rfl) (Nat.le_of_ble_eq_true rfl) ⟨rfl, rfl, (.inr (by first | omega | (simp only [Int32.lt_iff_toInt_lt, Int32.le_iff_toInt_le, Int32.reduceToInt, ← Int32.toInt_inj, true_and, and_true, or_true, true_or, false_or, or_false, false_and, and_false, not_true_eq_false, not_false_eq_true] <;> omega)))⟩
  simp only [Int32.lt_iff_toInt_lt, Int32.le_iff_toInt_le, Int32.reduceToInt, ← Int32.toInt_inj] at h_1 h_2 h_3 h_4 h_5
  refine v_tableOut hC dX6_valueOf_1 (tgt := 61) (by omega) (by decide) ?_
  refine v_iload_n hC dX6_valueOf_61 rfl ?_
  refine v_if_lt hC dX6_valueOf_62 (tgt := 81) (by decide) (fun h_118 => ?_) (fun h_118 => ?_)
  · simp only [Int32.lt_iff_toInt_lt, Int32.le_iff_toInt_le, Int32.reduceToInt, ← Int32.toInt_inj] at h_118
    refine v_iconst hC dX6_valueOf_81 (v := 0) (by decide) ?_
    exact hR _ _ _ _ _ _ _ dX6_valueOf_82 rfl (Nat.le_of_ble_eq_true rfl) (Nat.le_of_ble_eq_true rfl) ⟨rfl, rfl, (.inl (by decide))⟩
  · simp only [Int32.lt_iff_toInt_lt, Int32.le_iff_toInt_le, Int32.reduceToInt, ← Int32.toInt_inj] at h_118
    refine v_iload_n hC dX6_valueOf_65 rfl ?_
    refine v_iconst hC dX6_valueOf_66 (v := 3) (by decide) ?_
    refine v_icmp_ge hC dX6_valueOf_67 (tgt := 81) (by decide) (fun h_119 => ?_) (fun h_119 => ?_)
    · simp only [Int32.lt_iff_toInt_lt, Int32.le_iff_toInt_le, Int32.reduceToInt, ← Int32.toInt_inj] at h_119
      refine v_iconst hC dX6_valueOf_81 (v := 0) (by decide) ?_
      exact hR _ _ _ _ _ _ _ dX6_valueOf_82 rfl (Nat.le_of_ble_eq_true rfl) (Nat.le_of_ble_eq_true rfl) ⟨rfl, rfl, (.inl (by decide))⟩
    · simp only [Int32.lt_iff_toInt_lt, Int32.le_iff_toInt_le, Int32.reduceToInt, ← Int32.toInt_inj] at h_119
      refine v_aload_n hC dX6_valueOf_70 rfl ?_
      obtain ⟨m_120, q_122, q_123, q_124, q_125, q_126, t_121, k_127, k_128, k_129, k_130, k_131⟩ := id k_0
      obtain ⟨v_133, v_134, v_136, v_138, v_139, e_132, b_135, b_137⟩ := hW.at m_120 t_121
      refine v_get hC fl_X6_18 m_120 e_132 rfl dX6_valueOf_71 ?_
      refine v_iconst hC dX6_valueOf_74 (v := 1) (by decide) ?_
      refine v_iload_n hC dX6_valueOf_75 rfl ?_
      obtain ⟨v_140, h_141⟩ : ∃ v9 : Int32, (1 : Int32) + a_1 = v9 := ⟨_, rfl⟩
      refine v_iadd hC dX6_valueOf_76 h_141 ?_
      have h_142 := add_v h_141 (by first | omega | (simp only [Int32.lt_iff_toInt_lt, Int32.le_iff_toInt_le, Int32.reduceToInt, ← Int32.toInt_inj, true_and, and_true, or_true, true_or, false_or, or_false, false_and, and_false, not_true_eq_false, not_false_eq_true] <;> omega)) (by first | omega | (simp only [Int32.lt_iff_toInt_lt, Int32.le_iff_toInt_le, Int32.reduceToInt, ← Int32.toInt_inj, true_and, and_true, or_true, true_or, false_or, or_false, false_and, and_false, not_true_eq_false, not_false_eq_true] <;> omega))
      try simp only [Int32.reduceToInt] at h_142
      obtain ⟨m_143, t_144⟩ := id k_128
      obtain ⟨g_146, e_145⟩ := hW.at m_143 t_144
      obtain ⟨v_147, h_148⟩ : ∃ v9 : Int32, g_146 (v_140 : Int32).toNatClampNeg = v9 := ⟨_, rfl⟩
      refine v_iald hC m_143 e_145 (vp_in_iff.mpr (by first | omega | (simp only [Int32.lt_iff_toInt_lt, Int32.le_iff_toInt_le, Int32.reduceToInt, ← Int32.toInt_inj, true_and, and_true, or_true, true_or, false_or, or_false, false_and, and_false, not_true_eq_false, not_false_eq_true] <;> omega))) h_148 dX6_valueOf_77 ?_
      refine v_goto hC dX6_valueOf_78 (tgt := 82) (by decide) ?_
      exact hR _ _ _ _ _ _ _ dX6_valueOf_82 rfl (Nat.le_of_ble_eq_true rfl) (Nat.le_of_ble_eq_true rfl) ⟨rfl, rfl, (.inr (by first | omega | (simp only [Int32.lt_iff_toInt_lt, Int32.le_iff_toInt_le, Int32.reduceToInt, ← Int32.toInt_inj, true_and, and_true, or_true, true_or, false_or, or_false, false_and, and_false, not_true_eq_false, not_false_eq_true] <;> omega)))⟩
set_option maxRecDepth 100000 in
set_option maxHeartbeats 8000000 in
theorem p_X9_sumOf {l : Launch} {E : Ez} {L : List Nat} {f : Nat → va_E} {T : Nat → va_E → Prop} {a_0 : Nat} {a_1 : Int32} {a_2 : Int32} {a_3 : Nat} (hW : WT T L f) (k_0 : isWat T L E a_0) (g_1 : (0 ≤ a_1.toInt ∧ a_1.toInt ≤ 301)) (g_2 : (0 ≤ a_2.toInt ∧ a_2.toInt ≤ 301)) (k_3 : isTal T L E a_3) : CJ l yX9_sumOf cX9_sumOf 11 2 0 0 E [.ref a_0, .int a_1, .int a_2, .ref a_3] L f (fun r L1 f1 => L = L1 ∧ f = f1) := by
  refine cj_of (by decide) (Nat.le_of_ble_eq_true rfl) (fun z hz hnm hC hR => ?_)
  have hC : Cx z E cX9_sumOf RX9 11 2 0 0 := hC
  subst hz
  show V z E 11 0 0 L f 0 [(0, .ref a_0), (1, .int a_1), (2, .int a_2), (3, .ref a_3)] []
  refine v_lconst hC dX9_sumOf_0 (v := 0) (by decide) ?_
  refine v_lstore hC dX9_sumOf_1 (by decide) (lv' := [(4, .long 0), (0, .ref a_0), (1, .int a_1), (2, .int a_2), (3, .ref a_3)]) rfl ?_
  refine v_lconst hC dX9_sumOf_3 (v := 1) (by decide) ?_
  refine v_lstore hC dX9_sumOf_4 (by decide) (lv' := [(6, .long 1), (4, .long 0), (0, .ref a_0), (1, .int a_1), (2, .int a_2), (3, .ref a_3)]) rfl ?_
  refine v_iconst hC dX9_sumOf_6 (v := 1) (by decide) ?_
  refine v_istore hC dX9_sumOf_7 (by decide) (lv' := [(8, .int 1), (6, .long 1), (4, .long 0), (0, .ref a_0), (1, .int a_1), (2, .int a_2), (3, .ref a_3)]) rfl ?_
  refine v_iload_n hC dX9_sumOf_9 rfl ?_
  refine v_istore hC dX9_sumOf_10 (by decide) (lv' := [(9, .int a_1), (8, .int 1), (6, .long 1), (4, .long 0), (0, .ref a_0), (1, .int a_1), (2, .int a_2), (3, .ref a_3)]) rfl ?_
  have lp_1274 : ∀ (n_1275 : Nat) (i_1268 : Int32) (b_1272 : (0 ≤ i_1268.toInt ∧ i_1268.toInt ≤ 301)) (i_1269 : Int32) (b_1273 : ((-1) ≤ i_1269.toInt ∧ i_1269.toInt ≤ 1)) (i_1270 : Int64) (i_1271 : Int64) (hm_1277 : 301 - i_1268.toInt < (n_1275 : Int)), V z E 11 0 0 L f 12 [(9, .int i_1268), (8, .int i_1269), (6, .long i_1270), (4, .long i_1271), (0, .ref a_0), (2, .int a_2), (3, .ref a_3)] [] := by
    intro n_1275
    induction n_1275 with
    | zero =>
      intro i_1268 b_1272 i_1269 b_1273 i_1270 i_1271 hm_1277
      exfalso; omega
    | succ n_1275 ih_1276 =>
      intro i_1268 b_1272 i_1269 b_1273 i_1270 i_1271 hm_1277
      refine v_iload hC dX9_sumOf_12 rfl ?_
      refine v_iload_n hC dX9_sumOf_14 rfl ?_
      refine v_icmp_ge hC dX9_sumOf_15 (tgt := 138) (by decide) (fun h_1278 => ?_) (fun h_1278 => ?_)
      · simp only [Int32.lt_iff_toInt_lt, Int32.le_iff_toInt_le, Int32.reduceToInt, ← Int32.toInt_inj] at h_1278
        refine v_lload hC dX9_sumOf_138 rfl ?_
        refine v_iload hC dX9_sumOf_140 rfl ?_
        obtain ⟨v_1279, h_1280⟩ : ∃ v9 : Int64, i_1269.toInt64 = v9 := ⟨_, rfl⟩
        refine v_i2l hC dX9_sumOf_142 h_1280 ?_
        have h_1281 : v_1279.toInt = i_1269.toInt := by rw [← h_1280]; exact Int32.toInt_toInt64 _
        refine v_lload hC dX9_sumOf_143 rfl ?_
        obtain ⟨v_1282, h_1283⟩ : ∃ v9 : Int64, v_1279 * i_1270 = v9 := ⟨_, rfl⟩
        refine v_lmul hC dX9_sumOf_145 h_1283 ?_
        obtain ⟨v_1284, h_1285⟩ : ∃ v9 : Int64, i_1271 + v_1282 = v9 := ⟨_, rfl⟩
        refine v_ladd hC dX9_sumOf_146 h_1285 ?_
        refine v_lstore hC dX9_sumOf_147 (by decide) (lv' := [(4, .long v_1284), (9, .int i_1268), (8, .int i_1269), (6, .long i_1270), (0, .ref a_0), (2, .int a_2), (3, .ref a_3)]) rfl ?_
        refine v_lload hC dX9_sumOf_149 rfl ?_
        refine v_si hC (rest := []) mt_X9_isBeyond (p_X9_isBeyond hW) mx_X9_isBeyond ml_X9_144 (by decide) rfl (cells1 := 0) (slots1 := 0) (by decide) (by decide) (Nat.le_of_ble_eq_true rfl) (Nat.le_of_ble_eq_true rfl) rfl (Nat.le_of_ble_eq_true rfl) dX9_sumOf_151 (fun r_1286 L_1287 f_1288 h_1289 => ?_)
        obtain ⟨rfl, rfl, b_1290⟩ := h_1289
        refine v_if_eq hC dX9_sumOf_154 (tgt := 163) (by decide) (fun h_1293 => ?_) (fun h_1293 => ?_)
        · simp only [Int32.lt_iff_toInt_lt, Int32.le_iff_toInt_le, Int32.reduceToInt, ← Int32.toInt_inj] at h_1293
          refine v_lload hC dX9_sumOf_163 rfl ?_
          exact hR _ _ _ _ _ _ _ dX9_sumOf_165 (Nat.le_of_ble_eq_true rfl) (Nat.le_of_ble_eq_true rfl) ⟨rfl, rfl⟩
        · simp only [Int32.lt_iff_toInt_lt, Int32.le_iff_toInt_le, Int32.reduceToInt, ← Int32.toInt_inj] at h_1293
          refine v_ldc2 hC kl_X9_137 dX9_sumOf_157 ?_
          refine v_goto hC dX9_sumOf_160 (tgt := 165) (by decide) ?_
          exact hR _ _ _ _ _ _ _ dX9_sumOf_165 (Nat.le_of_ble_eq_true rfl) (Nat.le_of_ble_eq_true rfl) ⟨rfl, rfl⟩
      · simp only [Int32.lt_iff_toInt_lt, Int32.le_iff_toInt_le, Int32.reduceToInt, ← Int32.toInt_inj] at h_1278
        refine v_aload_n hC dX9_sumOf_18 rfl ?_
        refine v_iload hC dX9_sumOf_19 rfl ?_
        obtain ⟨m_1294, q_1296, t_1295, k_1297⟩ := id k_0
        obtain ⟨v_1299, v_1301, e_1298, b_1300⟩ := hW.at m_1294 t_1295
        refine v_vi hC (rest := []) m_1294 e_1298 rfl mi_X9_codeAt ms_X9_codeAt (p_X9_codeAt hW k_0) mx_X9_codeAt ml_X9_125 (by decide) rfl (cells1 := 0) (slots1 := 0) (by decide) (by decide) (Nat.le_of_ble_eq_true rfl) (Nat.le_of_ble_eq_true rfl) rfl (Nat.le_of_ble_eq_true rfl) dX9_sumOf_21 (fun r_1302 L_1303 f_1304 h_1305 => ?_)
        obtain ⟨rfl, rfl, h_1306⟩ := h_1305
        refine v_istore hC dX9_sumOf_24 (by decide) (lv' := [(10, .int r_1302), (9, .int i_1268), (8, .int i_1269), (6, .long i_1270), (4, .long i_1271), (0, .ref a_0), (2, .int a_2), (3, .ref a_3)]) rfl ?_
        refine v_iload hC dX9_sumOf_26 rfl ?_
        refine v_sipush hC dX9_sumOf_28 (v := 2000) (by decide) ?_
        refine v_icmp_eq hC dX9_sumOf_31 (tgt := 42) (by decide) (fun h_1309 => ?_) (fun h_1309 => ?_)
        · simp only [Int32.lt_iff_toInt_lt, Int32.le_iff_toInt_le, Int32.reduceToInt, ← Int32.toInt_inj] at h_1309
          refine v_lload hC dX9_sumOf_42 rfl ?_
          refine v_iload hC dX9_sumOf_44 rfl ?_
          obtain ⟨v_1310, h_1311⟩ : ∃ v9 : Int64, i_1269.toInt64 = v9 := ⟨_, rfl⟩
          refine v_i2l hC dX9_sumOf_46 h_1311 ?_
          have h_1312 : v_1310.toInt = i_1269.toInt := by rw [← h_1311]; exact Int32.toInt_toInt64 _
          refine v_lload hC dX9_sumOf_47 rfl ?_
          obtain ⟨v_1313, h_1314⟩ : ∃ v9 : Int64, v_1310 * i_1270 = v9 := ⟨_, rfl⟩
          refine v_lmul hC dX9_sumOf_49 h_1314 ?_
          obtain ⟨v_1315, h_1316⟩ : ∃ v9 : Int64, i_1271 + v_1313 = v9 := ⟨_, rfl⟩
          refine v_ladd hC dX9_sumOf_50 h_1316 ?_
          refine v_lstore hC dX9_sumOf_51 (by decide) (lv' := [(4, .long v_1315), (10, .int r_1302), (9, .int i_1268), (8, .int i_1269), (6, .long i_1270), (0, .ref a_0), (2, .int a_2), (3, .ref a_3)]) rfl ?_
          refine v_iload hC dX9_sumOf_53 rfl ?_
          refine v_sipush hC dX9_sumOf_55 (v := 2000) (by decide) ?_
          refine v_icmp_ne_f hC dX9_sumOf_58 (tgt := 65) (by decide) (by first | omega | (simp only [Int32.lt_iff_toInt_lt, Int32.le_iff_toInt_le, Int32.reduceToInt, ← Int32.toInt_inj, true_and, and_true, or_true, true_or, false_or, or_false, false_and, and_false, not_true_eq_false, not_false_eq_true] <;> omega)) ?_
          refine v_iconst hC dX9_sumOf_61 (v := 1) (by decide) ?_
          refine v_goto hC dX9_sumOf_62 (tgt := 66) (by decide) ?_
          refine v_istore hC dX9_sumOf_66 (by decide) (lv' := [(8, .int 1), (4, .long v_1315), (10, .int r_1302), (9, .int i_1268), (6, .long i_1270), (0, .ref a_0), (2, .int a_2), (3, .ref a_3)]) rfl ?_
          refine v_lconst hC dX9_sumOf_68 (v := 1) (by decide) ?_
          refine v_lstore hC dX9_sumOf_69 (by decide) (lv' := [(6, .long 1), (8, .int 1), (4, .long v_1315), (10, .int r_1302), (9, .int i_1268), (0, .ref a_0), (2, .int a_2), (3, .ref a_3)]) rfl ?_
          refine v_goto hC dX9_sumOf_71 (tgt := 112) (by decide) ?_
          refine v_lload hC dX9_sumOf_112 rfl ?_
          refine v_si hC (rest := []) mt_X9_isBeyond (p_X9_isBeyond hW) mx_X9_isBeyond ml_X9_144 (by decide) rfl (cells1 := 0) (slots1 := 0) (by decide) (by decide) (Nat.le_of_ble_eq_true rfl) (Nat.le_of_ble_eq_true rfl) rfl (Nat.le_of_ble_eq_true rfl) dX9_sumOf_114 (fun r_1317 L_1318 f_1319 h_1320 => ?_)
          obtain ⟨rfl, rfl, b_1321⟩ := h_1320
          refine v_if_ne hC dX9_sumOf_117 (tgt := 128) (by decide) (fun h_1324 => ?_) (fun h_1324 => ?_)
          · simp only [Int32.lt_iff_toInt_lt, Int32.le_iff_toInt_le, Int32.reduceToInt, ← Int32.toInt_inj] at h_1324
            refine v_ldc2 hC kl_X9_137 dX9_sumOf_128 ?_
            exact hR _ _ _ _ _ _ _ dX9_sumOf_131 (Nat.le_of_ble_eq_true rfl) (Nat.le_of_ble_eq_true rfl) ⟨rfl, rfl⟩
          · simp only [Int32.lt_iff_toInt_lt, Int32.le_iff_toInt_le, Int32.reduceToInt, ← Int32.toInt_inj] at h_1324
            refine v_lload hC dX9_sumOf_120 rfl ?_
            refine v_si hC (rest := []) mt_X9_isBeyond (p_X9_isBeyond hW) mx_X9_isBeyond ml_X9_144 (by decide) rfl (cells1 := 0) (slots1 := 0) (by decide) (by decide) (Nat.le_of_ble_eq_true rfl) (Nat.le_of_ble_eq_true rfl) rfl (Nat.le_of_ble_eq_true rfl) dX9_sumOf_122 (fun r_1325 L_1326 f_1327 h_1328 => ?_)
            obtain ⟨rfl, rfl, b_1329⟩ := h_1328
            refine v_if_eq hC dX9_sumOf_125 (tgt := 132) (by decide) (fun h_1332 => ?_) (fun h_1332 => ?_)
            · simp only [Int32.lt_iff_toInt_lt, Int32.le_iff_toInt_le, Int32.reduceToInt, ← Int32.toInt_inj] at h_1332
              obtain ⟨v_1333, h_1334⟩ : ∃ v9 : Int32, i_1268 + Int32.ofInt 1 = v9 := ⟨_, rfl⟩
              have h_1335 := add_v (b := 1) h_1334 (by first | omega | (simp only [Int32.lt_iff_toInt_lt, Int32.le_iff_toInt_le, Int32.reduceToInt, ← Int32.toInt_inj, true_and, and_true, or_true, true_or, false_or, or_false, false_and, and_false, not_true_eq_false, not_false_eq_true] <;> omega)) (by first | omega | (simp only [Int32.lt_iff_toInt_lt, Int32.le_iff_toInt_le, Int32.reduceToInt, ← Int32.toInt_inj, true_and, and_true, or_true, true_or, false_or, or_false, false_and, and_false, not_true_eq_false, not_false_eq_true] <;> omega))
              simp only [Int32.reduceToInt] at h_1335
              refine v_iinc hC dX9_sumOf_132 (k := 4) rfl (v := v_1333) h_1334 (by decide) (lv' := [(9, .int v_1333), (6, .long 1), (8, .int 1), (4, .long v_1315), (10, .int r_1302), (0, .ref a_0), (2, .int a_2), (3, .ref a_3)]) rfl ?_
              refine v_goto hC dX9_sumOf_135 (tgt := 12) (by decide) ?_
              refine v_pick [0, 2, 1, 3, 5, 6, 7] rfl ?_
              exact ih_1276 v_1333 (by first | omega | (simp only [Int32.lt_iff_toInt_lt, Int32.le_iff_toInt_le, Int32.reduceToInt, ← Int32.toInt_inj, true_and, and_true, or_true, true_or, false_or, or_false, false_and, and_false, not_true_eq_false, not_false_eq_true] <;> omega)) 1 (by decide) 1 v_1315 (by first | omega | (simp only [Int32.lt_iff_toInt_lt, Int32.le_iff_toInt_le, Int32.reduceToInt, ← Int32.toInt_inj, true_and, and_true, or_true, true_or, false_or, or_false, false_and, and_false, not_true_eq_false, not_false_eq_true] <;> omega))
            · simp only [Int32.lt_iff_toInt_lt, Int32.le_iff_toInt_le, Int32.reduceToInt, ← Int32.toInt_inj] at h_1332
              refine v_ldc2 hC kl_X9_137 dX9_sumOf_128 ?_
              exact hR _ _ _ _ _ _ _ dX9_sumOf_131 (Nat.le_of_ble_eq_true rfl) (Nat.le_of_ble_eq_true rfl) ⟨rfl, rfl⟩
        · simp only [Int32.lt_iff_toInt_lt, Int32.le_iff_toInt_le, Int32.reduceToInt, ← Int32.toInt_inj] at h_1309
          refine v_iload hC dX9_sumOf_34 rfl ?_
          refine v_sipush hC dX9_sumOf_36 (v := 2001) (by decide) ?_
          refine v_icmp_ne hC dX9_sumOf_39 (tgt := 74) (by decide) (fun h_1336 => ?_) (fun h_1336 => ?_)
          · simp only [Int32.lt_iff_toInt_lt, Int32.le_iff_toInt_le, Int32.reduceToInt, ← Int32.toInt_inj] at h_1336
            refine v_iload hC dX9_sumOf_74 rfl ?_
            refine v_sipush hC dX9_sumOf_76 (v := 2002) (by decide) ?_
            refine v_icmp_eq hC dX9_sumOf_79 (tgt := 112) (by decide) (fun h_1337 => ?_) (fun h_1337 => ?_)
            · simp only [Int32.lt_iff_toInt_lt, Int32.le_iff_toInt_le, Int32.reduceToInt, ← Int32.toInt_inj] at h_1337
              refine v_lload hC dX9_sumOf_112 rfl ?_
              refine v_si hC (rest := []) mt_X9_isBeyond (p_X9_isBeyond hW) mx_X9_isBeyond ml_X9_144 (by decide) rfl (cells1 := 0) (slots1 := 0) (by decide) (by decide) (Nat.le_of_ble_eq_true rfl) (Nat.le_of_ble_eq_true rfl) rfl (Nat.le_of_ble_eq_true rfl) dX9_sumOf_114 (fun r_1338 L_1339 f_1340 h_1341 => ?_)
              obtain ⟨rfl, rfl, b_1342⟩ := h_1341
              refine v_if_ne hC dX9_sumOf_117 (tgt := 128) (by decide) (fun h_1345 => ?_) (fun h_1345 => ?_)
              · simp only [Int32.lt_iff_toInt_lt, Int32.le_iff_toInt_le, Int32.reduceToInt, ← Int32.toInt_inj] at h_1345
                refine v_ldc2 hC kl_X9_137 dX9_sumOf_128 ?_
                exact hR _ _ _ _ _ _ _ dX9_sumOf_131 (Nat.le_of_ble_eq_true rfl) (Nat.le_of_ble_eq_true rfl) ⟨rfl, rfl⟩
              · simp only [Int32.lt_iff_toInt_lt, Int32.le_iff_toInt_le, Int32.reduceToInt, ← Int32.toInt_inj] at h_1345
                refine v_lload hC dX9_sumOf_120 rfl ?_
                refine v_si hC (rest := []) mt_X9_isBeyond (p_X9_isBeyond hW) mx_X9_isBeyond ml_X9_144 (by decide) rfl (cells1 := 0) (slots1 := 0) (by decide) (by decide) (Nat.le_of_ble_eq_true rfl) (Nat.le_of_ble_eq_true rfl) rfl (Nat.le_of_ble_eq_true rfl) dX9_sumOf_122 (fun r_1346 L_1347 f_1348 h_1349 => ?_)
                obtain ⟨rfl, rfl, b_1350⟩ := h_1349
                refine v_if_eq hC dX9_sumOf_125 (tgt := 132) (by decide) (fun h_1353 => ?_) (fun h_1353 => ?_)
                · simp only [Int32.lt_iff_toInt_lt, Int32.le_iff_toInt_le, Int32.reduceToInt, ← Int32.toInt_inj] at h_1353
                  obtain ⟨v_1354, h_1355⟩ : ∃ v9 : Int32, i_1268 + Int32.ofInt 1 = v9 := ⟨_, rfl⟩
                  have h_1356 := add_v (b := 1) h_1355 (by first | omega | (simp only [Int32.lt_iff_toInt_lt, Int32.le_iff_toInt_le, Int32.reduceToInt, ← Int32.toInt_inj, true_and, and_true, or_true, true_or, false_or, or_false, false_and, and_false, not_true_eq_false, not_false_eq_true] <;> omega)) (by first | omega | (simp only [Int32.lt_iff_toInt_lt, Int32.le_iff_toInt_le, Int32.reduceToInt, ← Int32.toInt_inj, true_and, and_true, or_true, true_or, false_or, or_false, false_and, and_false, not_true_eq_false, not_false_eq_true] <;> omega))
                  simp only [Int32.reduceToInt] at h_1356
                  refine v_iinc hC dX9_sumOf_132 (k := 1) rfl (v := v_1354) h_1355 (by decide) (lv' := [(9, .int v_1354), (10, .int r_1302), (8, .int i_1269), (6, .long i_1270), (4, .long i_1271), (0, .ref a_0), (2, .int a_2), (3, .ref a_3)]) rfl ?_
                  refine v_goto hC dX9_sumOf_135 (tgt := 12) (by decide) ?_
                  refine v_pick [0, 2, 3, 4, 5, 6, 7] rfl ?_
                  exact ih_1276 v_1354 (by first | omega | (simp only [Int32.lt_iff_toInt_lt, Int32.le_iff_toInt_le, Int32.reduceToInt, ← Int32.toInt_inj, true_and, and_true, or_true, true_or, false_or, or_false, false_and, and_false, not_true_eq_false, not_false_eq_true] <;> omega)) i_1269 (by first | omega | (simp only [Int32.lt_iff_toInt_lt, Int32.le_iff_toInt_le, Int32.reduceToInt, ← Int32.toInt_inj, true_and, and_true, or_true, true_or, false_or, or_false, false_and, and_false, not_true_eq_false, not_false_eq_true] <;> omega)) i_1270 i_1271 (by first | omega | (simp only [Int32.lt_iff_toInt_lt, Int32.le_iff_toInt_le, Int32.reduceToInt, ← Int32.toInt_inj, true_and, and_true, or_true, true_or, false_or, or_false, false_and, and_false, not_true_eq_false, not_false_eq_true] <;> omega))
                · simp only [Int32.lt_iff_toInt_lt, Int32.le_iff_toInt_le, Int32.reduceToInt, ← Int32.toInt_inj] at h_1353
                  refine v_ldc2 hC kl_X9_137 dX9_sumOf_128 ?_
                  exact hR _ _ _ _ _ _ _ dX9_sumOf_131 (Nat.le_of_ble_eq_true rfl) (Nat.le_of_ble_eq_true rfl) ⟨rfl, rfl⟩
            · simp only [Int32.lt_iff_toInt_lt, Int32.le_iff_toInt_le, Int32.reduceToInt, ← Int32.toInt_inj] at h_1337
              refine v_lload hC dX9_sumOf_82 rfl ?_
              refine v_iload hC dX9_sumOf_84 rfl ?_
              refine v_sipush hC dX9_sumOf_86 (v := 1000) (by decide) ?_
              have jn_1396 : ∀ (v_1397 : Int64), V z E 11 0 0 L f 109 [(9, .int i_1268), (8, .int i_1269), (4, .long i_1271), (0, .ref a_0), (2, .int a_2), (3, .ref a_3)] [.long v_1397, .long i_1270] := by
                intro v_1397
                obtain ⟨v_1398, h_1399⟩ : ∃ v9 : Int64, i_1270 * v_1397 = v9 := ⟨_, rfl⟩
                refine v_lmul hC dX9_sumOf_109 h_1399 ?_
                refine v_lstore hC dX9_sumOf_110 (by decide) (lv' := [(6, .long v_1398), (9, .int i_1268), (8, .int i_1269), (4, .long i_1271), (0, .ref a_0), (2, .int a_2), (3, .ref a_3)]) rfl ?_
                refine v_lload hC dX9_sumOf_112 rfl ?_
                refine v_si hC (rest := []) mt_X9_isBeyond (p_X9_isBeyond hW) mx_X9_isBeyond ml_X9_144 (by decide) rfl (cells1 := 0) (slots1 := 0) (by decide) (by decide) (Nat.le_of_ble_eq_true rfl) (Nat.le_of_ble_eq_true rfl) rfl (Nat.le_of_ble_eq_true rfl) dX9_sumOf_114 (fun r_1400 L_1401 f_1402 h_1403 => ?_)
                obtain ⟨rfl, rfl, b_1404⟩ := h_1403
                refine v_if_ne hC dX9_sumOf_117 (tgt := 128) (by decide) (fun h_1407 => ?_) (fun h_1407 => ?_)
                · simp only [Int32.lt_iff_toInt_lt, Int32.le_iff_toInt_le, Int32.reduceToInt, ← Int32.toInt_inj] at h_1407
                  refine v_ldc2 hC kl_X9_137 dX9_sumOf_128 ?_
                  exact hR _ _ _ _ _ _ _ dX9_sumOf_131 (Nat.le_of_ble_eq_true rfl) (Nat.le_of_ble_eq_true rfl) ⟨rfl, rfl⟩
                · simp only [Int32.lt_iff_toInt_lt, Int32.le_iff_toInt_le, Int32.reduceToInt, ← Int32.toInt_inj] at h_1407
                  refine v_lload hC dX9_sumOf_120 rfl ?_
                  refine v_si hC (rest := []) mt_X9_isBeyond (p_X9_isBeyond hW) mx_X9_isBeyond ml_X9_144 (by decide) rfl (cells1 := 0) (slots1 := 0) (by decide) (by decide) (Nat.le_of_ble_eq_true rfl) (Nat.le_of_ble_eq_true rfl) rfl (Nat.le_of_ble_eq_true rfl) dX9_sumOf_122 (fun r_1408 L_1409 f_1410 h_1411 => ?_)
                  obtain ⟨rfl, rfl, b_1412⟩ := h_1411
                  refine v_if_eq hC dX9_sumOf_125 (tgt := 132) (by decide) (fun h_1415 => ?_) (fun h_1415 => ?_)
                  · simp only [Int32.lt_iff_toInt_lt, Int32.le_iff_toInt_le, Int32.reduceToInt, ← Int32.toInt_inj] at h_1415
                    obtain ⟨v_1416, h_1417⟩ : ∃ v9 : Int32, i_1268 + Int32.ofInt 1 = v9 := ⟨_, rfl⟩
                    have h_1418 := add_v (b := 1) h_1417 (by first | omega | (simp only [Int32.lt_iff_toInt_lt, Int32.le_iff_toInt_le, Int32.reduceToInt, ← Int32.toInt_inj, true_and, and_true, or_true, true_or, false_or, or_false, false_and, and_false, not_true_eq_false, not_false_eq_true] <;> omega)) (by first | omega | (simp only [Int32.lt_iff_toInt_lt, Int32.le_iff_toInt_le, Int32.reduceToInt, ← Int32.toInt_inj, true_and, and_true, or_true, true_or, false_or, or_false, false_and, and_false, not_true_eq_false, not_false_eq_true] <;> omega))
                    simp only [Int32.reduceToInt] at h_1418
                    refine v_iinc hC dX9_sumOf_132 (k := 1) rfl (v := v_1416) h_1417 (by decide) (lv' := [(9, .int v_1416), (6, .long v_1398), (8, .int i_1269), (4, .long i_1271), (0, .ref a_0), (2, .int a_2), (3, .ref a_3)]) rfl ?_
                    refine v_goto hC dX9_sumOf_135 (tgt := 12) (by decide) ?_
                    refine v_pick [0, 2, 1, 3, 4, 5, 6] rfl ?_
                    exact ih_1276 v_1416 (by first | omega | (simp only [Int32.lt_iff_toInt_lt, Int32.le_iff_toInt_le, Int32.reduceToInt, ← Int32.toInt_inj, true_and, and_true, or_true, true_or, false_or, or_false, false_and, and_false, not_true_eq_false, not_false_eq_true] <;> omega)) i_1269 (by first | omega | (simp only [Int32.lt_iff_toInt_lt, Int32.le_iff_toInt_le, Int32.reduceToInt, ← Int32.toInt_inj, true_and, and_true, or_true, true_or, false_or, or_false, false_and, and_false, not_true_eq_false, not_false_eq_true] <;> omega)) v_1398 i_1271 (by first | omega | (simp only [Int32.lt_iff_toInt_lt, Int32.le_iff_toInt_le, Int32.reduceToInt, ← Int32.toInt_inj, true_and, and_true, or_true, true_or, false_or, or_false, false_and, and_false, not_true_eq_false, not_false_eq_true] <;> omega))
                  · simp only [Int32.lt_iff_toInt_lt, Int32.le_iff_toInt_le, Int32.reduceToInt, ← Int32.toInt_inj] at h_1415
                    refine v_ldc2 hC kl_X9_137 dX9_sumOf_128 ?_
                    exact hR _ _ _ _ _ _ _ dX9_sumOf_131 (Nat.le_of_ble_eq_true rfl) (Nat.le_of_ble_eq_true rfl) ⟨rfl, rfl⟩
              refine v_icmp_ge hC dX9_sumOf_89 (tgt := 98) (by decide) (fun h_1357 => ?_) (fun h_1357 => ?_)
              · simp only [Int32.lt_iff_toInt_lt, Int32.le_iff_toInt_le, Int32.reduceToInt, ← Int32.toInt_inj] at h_1357
                refine v_aload_n hC dX9_sumOf_98 rfl ?_
                refine v_iload hC dX9_sumOf_99 rfl ?_
                refine v_sipush hC dX9_sumOf_101 (v := 1000) (by decide) ?_
                obtain ⟨v_1419, h_1420⟩ : ∃ v9 : Int32, r_1302 - 1000 = v9 := ⟨_, rfl⟩
                refine v_isub hC dX9_sumOf_104 h_1420 ?_
                have rg_1422 := Int32.toInt_lt r_1302
                have rg_1423 := Int32.le_toInt r_1302
                have h_1421 := sub_v h_1420 (by first | omega | (simp only [Int32.lt_iff_toInt_lt, Int32.le_iff_toInt_le, Int32.reduceToInt, ← Int32.toInt_inj, true_and, and_true, or_true, true_or, false_or, or_false, false_and, and_false, not_true_eq_false, not_false_eq_true] <;> omega)) (by first | omega | (simp only [Int32.lt_iff_toInt_lt, Int32.le_iff_toInt_le, Int32.reduceToInt, ← Int32.toInt_inj, true_and, and_true, or_true, true_or, false_or, or_false, false_and, and_false, not_true_eq_false, not_false_eq_true] <;> omega))
                try simp only [Int32.reduceToInt] at h_1421
                obtain ⟨m_1424, q_1426, q_1427, q_1428, q_1429, q_1430, t_1425, k_1431, k_1432, k_1433, k_1434, k_1435⟩ := id k_3
                obtain ⟨v_1437, v_1438, v_1440, v_1442, v_1443, e_1436, b_1439, b_1441⟩ := hW.at m_1424 t_1425
                refine v_vi hC (rest := [.long i_1270]) m_1424 e_1436 rfl mi_X6_valueOf ms_X6_valueOf (p_X6_valueOf hW k_3) mx_X6_valueOf ml_X9_139 (by decide) rfl (cells1 := 0) (slots1 := 0) (by decide) (by decide) (Nat.le_of_ble_eq_true rfl) (Nat.le_of_ble_eq_true rfl) rfl (Nat.le_of_ble_eq_true rfl) dX9_sumOf_105 (fun r_1444 L_1445 f_1446 h_1447 => ?_)
                obtain ⟨rfl, rfl, h_1448⟩ := h_1447
                obtain ⟨v_1451, h_1452⟩ : ∃ v9 : Int64, r_1444.toInt64 = v9 := ⟨_, rfl⟩
                refine v_i2l hC dX9_sumOf_108 h_1452 ?_
                have h_1453 : v_1451.toInt = r_1444.toInt := by rw [← h_1452]; exact Int32.toInt_toInt64 _
                refine v_pick [1, 2, 4, 5, 6, 7] rfl ?_
                exact jn_1396 v_1451
              · simp only [Int32.lt_iff_toInt_lt, Int32.le_iff_toInt_le, Int32.reduceToInt, ← Int32.toInt_inj] at h_1357
                refine v_iload hC dX9_sumOf_92 rfl ?_
                obtain ⟨v_1454, h_1455⟩ : ∃ v9 : Int64, r_1302.toInt64 = v9 := ⟨_, rfl⟩
                refine v_i2l hC dX9_sumOf_94 h_1455 ?_
                have h_1456 : v_1454.toInt = r_1302.toInt := by rw [← h_1455]; exact Int32.toInt_toInt64 _
                refine v_goto hC dX9_sumOf_95 (tgt := 109) (by decide) ?_
                refine v_pick [1, 2, 4, 5, 6, 7] rfl ?_
                exact jn_1396 v_1454
          · simp only [Int32.lt_iff_toInt_lt, Int32.le_iff_toInt_le, Int32.reduceToInt, ← Int32.toInt_inj] at h_1336
            refine v_lload hC dX9_sumOf_42 rfl ?_
            refine v_iload hC dX9_sumOf_44 rfl ?_
            obtain ⟨v_1457, h_1458⟩ : ∃ v9 : Int64, i_1269.toInt64 = v9 := ⟨_, rfl⟩
            refine v_i2l hC dX9_sumOf_46 h_1458 ?_
            have h_1459 : v_1457.toInt = i_1269.toInt := by rw [← h_1458]; exact Int32.toInt_toInt64 _
            refine v_lload hC dX9_sumOf_47 rfl ?_
            obtain ⟨v_1460, h_1461⟩ : ∃ v9 : Int64, v_1457 * i_1270 = v9 := ⟨_, rfl⟩
            refine v_lmul hC dX9_sumOf_49 h_1461 ?_
            obtain ⟨v_1462, h_1463⟩ : ∃ v9 : Int64, i_1271 + v_1460 = v9 := ⟨_, rfl⟩
            refine v_ladd hC dX9_sumOf_50 h_1463 ?_
            refine v_lstore hC dX9_sumOf_51 (by decide) (lv' := [(4, .long v_1462), (10, .int r_1302), (9, .int i_1268), (8, .int i_1269), (6, .long i_1270), (0, .ref a_0), (2, .int a_2), (3, .ref a_3)]) rfl ?_
            refine v_iload hC dX9_sumOf_53 rfl ?_
            refine v_sipush hC dX9_sumOf_55 (v := 2000) (by decide) ?_
            refine v_icmp_ne_t hC dX9_sumOf_58 (tgt := 65) (by decide) (by first | omega | (simp only [Int32.lt_iff_toInt_lt, Int32.le_iff_toInt_le, Int32.reduceToInt, ← Int32.toInt_inj, true_and, and_true, or_true, true_or, false_or, or_false, false_and, and_false, not_true_eq_false, not_false_eq_true] <;> omega)) ?_
            refine v_iconst hC dX9_sumOf_65 (v := (-1)) (by decide) ?_
            refine v_istore hC dX9_sumOf_66 (by decide) (lv' := [(8, .int (-1)), (4, .long v_1462), (10, .int r_1302), (9, .int i_1268), (6, .long i_1270), (0, .ref a_0), (2, .int a_2), (3, .ref a_3)]) rfl ?_
            refine v_lconst hC dX9_sumOf_68 (v := 1) (by decide) ?_
            refine v_lstore hC dX9_sumOf_69 (by decide) (lv' := [(6, .long 1), (8, .int (-1)), (4, .long v_1462), (10, .int r_1302), (9, .int i_1268), (0, .ref a_0), (2, .int a_2), (3, .ref a_3)]) rfl ?_
            refine v_goto hC dX9_sumOf_71 (tgt := 112) (by decide) ?_
            refine v_lload hC dX9_sumOf_112 rfl ?_
            refine v_si hC (rest := []) mt_X9_isBeyond (p_X9_isBeyond hW) mx_X9_isBeyond ml_X9_144 (by decide) rfl (cells1 := 0) (slots1 := 0) (by decide) (by decide) (Nat.le_of_ble_eq_true rfl) (Nat.le_of_ble_eq_true rfl) rfl (Nat.le_of_ble_eq_true rfl) dX9_sumOf_114 (fun r_1464 L_1465 f_1466 h_1467 => ?_)
            obtain ⟨rfl, rfl, b_1468⟩ := h_1467
            refine v_if_ne hC dX9_sumOf_117 (tgt := 128) (by decide) (fun h_1471 => ?_) (fun h_1471 => ?_)
            · simp only [Int32.lt_iff_toInt_lt, Int32.le_iff_toInt_le, Int32.reduceToInt, ← Int32.toInt_inj] at h_1471
              refine v_ldc2 hC kl_X9_137 dX9_sumOf_128 ?_
              exact hR _ _ _ _ _ _ _ dX9_sumOf_131 (Nat.le_of_ble_eq_true rfl) (Nat.le_of_ble_eq_true rfl) ⟨rfl, rfl⟩
            · simp only [Int32.lt_iff_toInt_lt, Int32.le_iff_toInt_le, Int32.reduceToInt, ← Int32.toInt_inj] at h_1471
              refine v_lload hC dX9_sumOf_120 rfl ?_
              refine v_si hC (rest := []) mt_X9_isBeyond (p_X9_isBeyond hW) mx_X9_isBeyond ml_X9_144 (by decide) rfl (cells1 := 0) (slots1 := 0) (by decide) (by decide) (Nat.le_of_ble_eq_true rfl) (Nat.le_of_ble_eq_true rfl) rfl (Nat.le_of_ble_eq_true rfl) dX9_sumOf_122 (fun r_1472 L_1473 f_1474 h_1475 => ?_)
              obtain ⟨rfl, rfl, b_1476⟩ := h_1475
              refine v_if_eq hC dX9_sumOf_125 (tgt := 132) (by decide) (fun h_1479 => ?_) (fun h_1479 => ?_)
              · simp only [Int32.lt_iff_toInt_lt, Int32.le_iff_toInt_le, Int32.reduceToInt, ← Int32.toInt_inj] at h_1479
                obtain ⟨v_1480, h_1481⟩ : ∃ v9 : Int32, i_1268 + Int32.ofInt 1 = v9 := ⟨_, rfl⟩
                have h_1482 := add_v (b := 1) h_1481 (by first | omega | (simp only [Int32.lt_iff_toInt_lt, Int32.le_iff_toInt_le, Int32.reduceToInt, ← Int32.toInt_inj, true_and, and_true, or_true, true_or, false_or, or_false, false_and, and_false, not_true_eq_false, not_false_eq_true] <;> omega)) (by first | omega | (simp only [Int32.lt_iff_toInt_lt, Int32.le_iff_toInt_le, Int32.reduceToInt, ← Int32.toInt_inj, true_and, and_true, or_true, true_or, false_or, or_false, false_and, and_false, not_true_eq_false, not_false_eq_true] <;> omega))
                simp only [Int32.reduceToInt] at h_1482
                refine v_iinc hC dX9_sumOf_132 (k := 4) rfl (v := v_1480) h_1481 (by decide) (lv' := [(9, .int v_1480), (6, .long 1), (8, .int (-1)), (4, .long v_1462), (10, .int r_1302), (0, .ref a_0), (2, .int a_2), (3, .ref a_3)]) rfl ?_
                refine v_goto hC dX9_sumOf_135 (tgt := 12) (by decide) ?_
                refine v_pick [0, 2, 1, 3, 5, 6, 7] rfl ?_
                exact ih_1276 v_1480 (by first | omega | (simp only [Int32.lt_iff_toInt_lt, Int32.le_iff_toInt_le, Int32.reduceToInt, ← Int32.toInt_inj, true_and, and_true, or_true, true_or, false_or, or_false, false_and, and_false, not_true_eq_false, not_false_eq_true] <;> omega)) (-1) (by decide) 1 v_1462 (by first | omega | (simp only [Int32.lt_iff_toInt_lt, Int32.le_iff_toInt_le, Int32.reduceToInt, ← Int32.toInt_inj, true_and, and_true, or_true, true_or, false_or, or_false, false_and, and_false, not_true_eq_false, not_false_eq_true] <;> omega))
              · simp only [Int32.lt_iff_toInt_lt, Int32.le_iff_toInt_le, Int32.reduceToInt, ← Int32.toInt_inj] at h_1479
                refine v_ldc2 hC kl_X9_137 dX9_sumOf_128 ?_
                exact hR _ _ _ _ _ _ _ dX9_sumOf_131 (Nat.le_of_ble_eq_true rfl) (Nat.le_of_ble_eq_true rfl) ⟨rfl, rfl⟩
  refine v_pick [0, 1, 2, 3, 4, 6, 7] rfl ?_
  exact lp_1274 303 a_1 (by first | omega | (simp only [Int32.lt_iff_toInt_lt, Int32.le_iff_toInt_le, Int32.reduceToInt, ← Int32.toInt_inj, true_and, and_true, or_true, true_or, false_or, or_false, false_and, and_false, not_true_eq_false, not_false_eq_true] <;> omega)) 1 (by decide) 1 0 (by first | omega | (simp only [Int32.lt_iff_toInt_lt, Int32.le_iff_toInt_le, Int32.reduceToInt, ← Int32.toInt_inj, true_and, and_true, or_true, true_or, false_or, or_false, false_and, and_false, not_true_eq_false, not_false_eq_true] <;> omega))
set_option maxRecDepth 100000 in
set_option maxHeartbeats 8000000 in
theorem p_X9_testHolds {l : Launch} {E : Ez} {L : List Nat} {f : Nat → va_E} {T : Nat → va_E → Prop} {a_0 : Nat} {a_1 : Int32} {a_2 : Int32} {a_3 : Nat} (hW : WT T L f) (k_0 : isWat T L E a_0) (g_1 : (0 ≤ a_1.toInt ∧ a_1.toInt ≤ 300)) (g_2 : (0 ≤ a_2.toInt ∧ a_2.toInt ≤ 300)) (k_3 : isTal T L E a_3) : CI l yX9_testHolds cX9_testHolds 9 .boolean 3 0 0 E [.ref a_0, .int a_1, .int a_2, .ref a_3] L f (fun r L1 f1 => L = L1 ∧ f = f1 ∧ (0 ≤ r.toInt ∧ r.toInt ≤ 1)) := by
  refine ci_of (by decide) (Nat.le_of_ble_eq_true rfl) (fun z hz hnm hC hR => ?_)
  have hC : Cx z E cX9_testHolds RX9 9 3 0 0 := hC
  subst hz
  show V z E 9 0 0 L f 0 [(0, .ref a_0), (1, .int a_1), (2, .int a_2), (3, .ref a_3)] []
  refine v_iload_n hC dX9_testHolds_0 rfl ?_
  refine v_istore hC dX9_testHolds_1 (by decide) (lv' := [(4, .int a_1), (0, .ref a_0), (1, .int a_1), (2, .int a_2), (3, .ref a_3)]) rfl ?_
  have lp_368 : ∀ (n_369 : Nat) (i_366 : Int32) (b_367 : (0 ≤ i_366.toInt ∧ i_366.toInt ≤ 300)) (hm_371 : 300 - i_366.toInt < (n_369 : Int)), V z E 9 0 0 L f 3 [(4, .int i_366), (0, .ref a_0), (1, .int a_1), (2, .int a_2), (3, .ref a_3)] [] := by
    intro n_369
    induction n_369 with
    | zero =>
      intro i_366 b_367 hm_371
      exfalso; omega
    | succ n_369 ih_370 =>
      intro i_366 b_367 hm_371
      refine v_iload hC dX9_testHolds_3 rfl ?_
      refine v_iload_n hC dX9_testHolds_5 rfl ?_
      have jn_403 : V z E 9 0 0 L f 39 [(4, .int i_366), (0, .ref a_0), (1, .int a_1), (2, .int a_2), (3, .ref a_3)] [] := by
        refine v_aload_n hC dX9_testHolds_39 rfl ?_
        refine v_iload_n hC dX9_testHolds_40 rfl ?_
        refine v_iload hC dX9_testHolds_41 rfl ?_
        refine v_aload_n hC dX9_testHolds_43 rfl ?_
        obtain ⟨m_404, q_406, t_405, k_407⟩ := id k_0
        obtain ⟨v_409, v_411, e_408, b_410⟩ := hW.at m_404 t_405
        refine v_vj hC (rest := []) m_404 e_408 rfl mi_X9_sumOf ms_X9_sumOf (p_X9_sumOf hW k_0 (by first | omega | (simp only [Int32.lt_iff_toInt_lt, Int32.le_iff_toInt_le, Int32.reduceToInt, ← Int32.toInt_inj, true_and, and_true, or_true, true_or, false_or, or_false, false_and, and_false, not_true_eq_false, not_false_eq_true] <;> omega)) (by first | omega | (simp only [Int32.lt_iff_toInt_lt, Int32.le_iff_toInt_le, Int32.reduceToInt, ← Int32.toInt_inj, true_and, and_true, or_true, true_or, false_or, or_false, false_and, and_false, not_true_eq_false, not_false_eq_true] <;> omega)) k_3) mx_X9_sumOf ml_X9_133 (by decide) rfl (cells1 := 0) (slots1 := 0) (by decide) (by decide) (Nat.le_of_ble_eq_true rfl) (Nat.le_of_ble_eq_true rfl) rfl (Nat.le_of_ble_eq_true rfl) dX9_testHolds_44 (fun r_412 L_413 f_414 h_415 => ?_)
        obtain ⟨rfl, rfl⟩ := h_415
        refine v_lstore hC dX9_testHolds_47 (by decide) (lv' := [(5, .long r_412), (4, .int i_366), (0, .ref a_0), (1, .int a_1), (2, .int a_2), (3, .ref a_3)]) rfl ?_
        refine v_aload_n hC dX9_testHolds_49 rfl ?_
        refine v_iload hC dX9_testHolds_50 rfl ?_
        refine v_iconst hC dX9_testHolds_52 (v := 1) (by decide) ?_
        obtain ⟨v_418, h_419⟩ : ∃ v9 : Int32, i_366 + 1 = v9 := ⟨_, rfl⟩
        refine v_iadd hC dX9_testHolds_53 h_419 ?_
        have h_420 := add_v h_419 (by first | omega | (simp only [Int32.lt_iff_toInt_lt, Int32.le_iff_toInt_le, Int32.reduceToInt, ← Int32.toInt_inj, true_and, and_true, or_true, true_or, false_or, or_false, false_and, and_false, not_true_eq_false, not_false_eq_true] <;> omega)) (by first | omega | (simp only [Int32.lt_iff_toInt_lt, Int32.le_iff_toInt_le, Int32.reduceToInt, ← Int32.toInt_inj, true_and, and_true, or_true, true_or, false_or, or_false, false_and, and_false, not_true_eq_false, not_false_eq_true] <;> omega))
        try simp only [Int32.reduceToInt] at h_420
        refine v_iload_n hC dX9_testHolds_54 rfl ?_
        refine v_aload_n hC dX9_testHolds_55 rfl ?_
        refine v_vj hC (rest := []) m_404 e_408 rfl mi_X9_sumOf ms_X9_sumOf (p_X9_sumOf hW k_0 (by first | omega | (simp only [Int32.lt_iff_toInt_lt, Int32.le_iff_toInt_le, Int32.reduceToInt, ← Int32.toInt_inj, true_and, and_true, or_true, true_or, false_or, or_false, false_and, and_false, not_true_eq_false, not_false_eq_true] <;> omega)) (by first | omega | (simp only [Int32.lt_iff_toInt_lt, Int32.le_iff_toInt_le, Int32.reduceToInt, ← Int32.toInt_inj, true_and, and_true, or_true, true_or, false_or, or_false, false_and, and_false, not_true_eq_false, not_false_eq_true] <;> omega)) k_3) mx_X9_sumOf ml_X9_133 (by decide) rfl (cells1 := 0) (slots1 := 0) (by decide) (by decide) (Nat.le_of_ble_eq_true rfl) (Nat.le_of_ble_eq_true rfl) rfl (Nat.le_of_ble_eq_true rfl) dX9_testHolds_56 (fun r_421 L_422 f_423 h_424 => ?_)
        obtain ⟨rfl, rfl⟩ := h_424
        refine v_lstore hC dX9_testHolds_59 (by decide) (lv' := [(7, .long r_421), (5, .long r_412), (4, .int i_366), (0, .ref a_0), (1, .int a_1), (2, .int a_2), (3, .ref a_3)]) rfl ?_
        refine v_lload hC dX9_testHolds_61 rfl ?_
        refine v_ldc2 hC kl_X9_137 dX9_testHolds_63 ?_
        obtain ⟨v_427, h_428⟩ : ∃ v9 : Int32, lg_cmp (r_412 : Int64) 9223372036854775807 = v9 := ⟨_, rfl⟩
        refine v_lcmp hC dX9_testHolds_66 h_428 ?_
        refine v_if_eq hC dX9_testHolds_67 (tgt := 79) (by decide) (fun h_429 => ?_) (fun h_429 => ?_)
        · have h_430 := h_429
          refine v_iconst hC dX9_testHolds_79 (v := 0) (by decide) ?_
          exact hR _ _ _ _ _ _ _ dX9_testHolds_80 rfl (Nat.le_of_ble_eq_true rfl) (Nat.le_of_ble_eq_true rfl) ⟨rfl, rfl, (by decide)⟩
        · have h_431 := h_429
          refine v_lload hC dX9_testHolds_70 rfl ?_
          refine v_ldc2 hC kl_X9_137 dX9_testHolds_72 ?_
          obtain ⟨v_432, h_433⟩ : ∃ v9 : Int32, lg_cmp (r_421 : Int64) 9223372036854775807 = v9 := ⟨_, rfl⟩
          refine v_lcmp hC dX9_testHolds_75 h_433 ?_
          refine v_if_ne hC dX9_testHolds_76 (tgt := 81) (by decide) (fun h_434 => ?_) (fun h_434 => ?_)
          · have h_435 := h_434
            refine v_aload_n hC dX9_testHolds_81 rfl ?_
            refine v_iload hC dX9_testHolds_82 rfl ?_
            refine v_vi hC (rest := []) m_404 e_408 rfl mi_X9_codeAt ms_X9_codeAt (p_X9_codeAt hW k_0) mx_X9_codeAt ml_X9_125 (by decide) rfl (cells1 := 0) (slots1 := 0) (by decide) (by decide) (Nat.le_of_ble_eq_true rfl) (Nat.le_of_ble_eq_true rfl) rfl (Nat.le_of_ble_eq_true rfl) dX9_testHolds_84 (fun r_437 L_438 f_439 h_440 => ?_)
            obtain ⟨rfl, rfl, h_441⟩ := h_440
            by_cases h_444 : r_437 = 2003
            · refine v_lookup hC dX9_testHolds_87 (off := 25) (tgt := 112) (by decide) (by rw [h_444]; rfl) (by decide) ?_
              simp only [Int32.lt_iff_toInt_lt, Int32.le_iff_toInt_le, Int32.reduceToInt, ← Int32.toInt_inj] at h_444
              refine v_lload hC dX9_testHolds_112 rfl ?_
              refine v_lload hC dX9_testHolds_114 rfl ?_
              obtain ⟨v_446, h_447⟩ : ∃ v9 : Int32, lg_cmp (r_412 : Int64) r_421 = v9 := ⟨_, rfl⟩
              refine v_lcmp hC dX9_testHolds_116 h_447 ?_
              refine v_if_le hC dX9_testHolds_117 (tgt := 124) (by decide) (fun h_448 => ?_) (fun h_448 => ?_)
              · rw [← h_447] at h_448
                have h_449 := (lgc_le.mp h_448)
                simp only [Int64.lt_iff_toInt_lt, Int64.le_iff_toInt_le] at h_449
                refine v_iconst hC dX9_testHolds_124 (v := 0) (by decide) ?_
                exact hR _ _ _ _ _ _ _ dX9_testHolds_125 rfl (Nat.le_of_ble_eq_true rfl) (Nat.le_of_ble_eq_true rfl) ⟨rfl, rfl, (by decide)⟩
              · rw [← h_447] at h_448
                have h_450 := (mt lgc_le.mpr h_448)
                simp only [Int64.lt_iff_toInt_lt, Int64.le_iff_toInt_le] at h_450
                refine v_iconst hC dX9_testHolds_120 (v := 1) (by decide) ?_
                refine v_goto hC dX9_testHolds_121 (tgt := 125) (by decide) ?_
                exact hR _ _ _ _ _ _ _ dX9_testHolds_125 rfl (Nat.le_of_ble_eq_true rfl) (Nat.le_of_ble_eq_true rfl) ⟨rfl, rfl, (by decide)⟩
            by_cases h_445 : r_437 = 2004
            · refine v_lookup hC dX9_testHolds_87 (off := 39) (tgt := 126) (by decide) (by rw [h_445]; rfl) (by decide) ?_
              simp only [Int32.lt_iff_toInt_lt, Int32.le_iff_toInt_le, Int32.reduceToInt, ← Int32.toInt_inj] at h_445
              refine v_lload hC dX9_testHolds_126 rfl ?_
              refine v_lload hC dX9_testHolds_128 rfl ?_
              obtain ⟨v_451, h_452⟩ : ∃ v9 : Int32, lg_cmp (r_412 : Int64) r_421 = v9 := ⟨_, rfl⟩
              refine v_lcmp hC dX9_testHolds_130 h_452 ?_
              refine v_if_ge hC dX9_testHolds_131 (tgt := 138) (by decide) (fun h_453 => ?_) (fun h_453 => ?_)
              · rw [← h_452] at h_453
                have h_454 := (lgc_ge.mp h_453)
                simp only [Int64.lt_iff_toInt_lt, Int64.le_iff_toInt_le] at h_454
                refine v_iconst hC dX9_testHolds_138 (v := 0) (by decide) ?_
                exact hR _ _ _ _ _ _ _ dX9_testHolds_139 rfl (Nat.le_of_ble_eq_true rfl) (Nat.le_of_ble_eq_true rfl) ⟨rfl, rfl, (by decide)⟩
              · rw [← h_452] at h_453
                have h_455 := (mt lgc_ge.mpr h_453)
                simp only [Int64.lt_iff_toInt_lt, Int64.le_iff_toInt_le] at h_455
                refine v_iconst hC dX9_testHolds_134 (v := 1) (by decide) ?_
                refine v_goto hC dX9_testHolds_135 (tgt := 139) (by decide) ?_
                exact hR _ _ _ _ _ _ _ dX9_testHolds_139 rfl (Nat.le_of_ble_eq_true rfl) (Nat.le_of_ble_eq_true rfl) ⟨rfl, rfl, (by decide)⟩
            refine v_lookup hC dX9_testHolds_87 (off := 53) (tgt := 140) (by decide) (by refine (lv_osw h_444 rfl).trans ?_; refine (lv_osw h_445 rfl).trans ?_; rfl) (by decide) ?_
            simp only [Int32.lt_iff_toInt_lt, Int32.le_iff_toInt_le, Int32.reduceToInt, ← Int32.toInt_inj] at h_444 h_445
            refine v_lload hC dX9_testHolds_140 rfl ?_
            refine v_lload hC dX9_testHolds_142 rfl ?_
            obtain ⟨v_456, h_457⟩ : ∃ v9 : Int32, lg_cmp (r_412 : Int64) r_421 = v9 := ⟨_, rfl⟩
            refine v_lcmp hC dX9_testHolds_144 h_457 ?_
            refine v_if_ne hC dX9_testHolds_145 (tgt := 152) (by decide) (fun h_458 => ?_) (fun h_458 => ?_)
            · have h_459 := h_458
              refine v_iconst hC dX9_testHolds_152 (v := 0) (by decide) ?_
              exact hR _ _ _ _ _ _ _ dX9_testHolds_153 rfl (Nat.le_of_ble_eq_true rfl) (Nat.le_of_ble_eq_true rfl) ⟨rfl, rfl, (by decide)⟩
            · have h_460 := h_458
              refine v_iconst hC dX9_testHolds_148 (v := 1) (by decide) ?_
              refine v_goto hC dX9_testHolds_149 (tgt := 153) (by decide) ?_
              exact hR _ _ _ _ _ _ _ dX9_testHolds_153 rfl (Nat.le_of_ble_eq_true rfl) (Nat.le_of_ble_eq_true rfl) ⟨rfl, rfl, (by decide)⟩
          · have h_436 := h_434
            refine v_iconst hC dX9_testHolds_79 (v := 0) (by decide) ?_
            exact hR _ _ _ _ _ _ _ dX9_testHolds_80 rfl (Nat.le_of_ble_eq_true rfl) (Nat.le_of_ble_eq_true rfl) ⟨rfl, rfl, (by decide)⟩
      refine v_icmp_ge hC dX9_testHolds_6 (tgt := 39) (by decide) (fun h_372 => ?_) (fun h_372 => ?_)
      · simp only [Int32.lt_iff_toInt_lt, Int32.le_iff_toInt_le, Int32.reduceToInt, ← Int32.toInt_inj] at h_372
        refine v_pick [0, 1, 2, 3, 4] rfl ?_
        exact jn_403 
      · simp only [Int32.lt_iff_toInt_lt, Int32.le_iff_toInt_le, Int32.reduceToInt, ← Int32.toInt_inj] at h_372
        refine v_aload_n hC dX9_testHolds_9 rfl ?_
        refine v_iload hC dX9_testHolds_10 rfl ?_
        obtain ⟨m_461, q_463, t_462, k_464⟩ := id k_0
        obtain ⟨v_466, v_468, e_465, b_467⟩ := hW.at m_461 t_462
        refine v_vi hC (rest := []) m_461 e_465 rfl mi_X9_codeAt ms_X9_codeAt (p_X9_codeAt hW k_0) mx_X9_codeAt ml_X9_125 (by decide) rfl (cells1 := 0) (slots1 := 0) (by decide) (by decide) (Nat.le_of_ble_eq_true rfl) (Nat.le_of_ble_eq_true rfl) rfl (Nat.le_of_ble_eq_true rfl) dX9_testHolds_12 (fun r_469 L_470 f_471 h_472 => ?_)
        obtain ⟨rfl, rfl, h_473⟩ := h_472
        refine v_sipush hC dX9_testHolds_15 (v := 2003) (by decide) ?_
        refine v_icmp_lt hC dX9_testHolds_18 (tgt := 33) (by decide) (fun h_476 => ?_) (fun h_476 => ?_)
        · simp only [Int32.lt_iff_toInt_lt, Int32.le_iff_toInt_le, Int32.reduceToInt, ← Int32.toInt_inj] at h_476
          obtain ⟨v_477, h_478⟩ : ∃ v9 : Int32, i_366 + Int32.ofInt 1 = v9 := ⟨_, rfl⟩
          have h_479 := add_v (b := 1) h_478 (by first | omega | (simp only [Int32.lt_iff_toInt_lt, Int32.le_iff_toInt_le, Int32.reduceToInt, ← Int32.toInt_inj, true_and, and_true, or_true, true_or, false_or, or_false, false_and, and_false, not_true_eq_false, not_false_eq_true] <;> omega)) (by first | omega | (simp only [Int32.lt_iff_toInt_lt, Int32.le_iff_toInt_le, Int32.reduceToInt, ← Int32.toInt_inj, true_and, and_true, or_true, true_or, false_or, or_false, false_and, and_false, not_true_eq_false, not_false_eq_true] <;> omega))
          simp only [Int32.reduceToInt] at h_479
          refine v_iinc hC dX9_testHolds_33 (k := 0) rfl (v := v_477) h_478 (by decide) (lv' := [(4, .int v_477), (0, .ref a_0), (1, .int a_1), (2, .int a_2), (3, .ref a_3)]) rfl ?_
          refine v_goto hC dX9_testHolds_36 (tgt := 3) (by decide) ?_
          refine v_pick [0, 1, 2, 3, 4] rfl ?_
          exact ih_370 v_477 (by first | omega | (simp only [Int32.lt_iff_toInt_lt, Int32.le_iff_toInt_le, Int32.reduceToInt, ← Int32.toInt_inj, true_and, and_true, or_true, true_or, false_or, or_false, false_and, and_false, not_true_eq_false, not_false_eq_true] <;> omega)) (by first | omega | (simp only [Int32.lt_iff_toInt_lt, Int32.le_iff_toInt_le, Int32.reduceToInt, ← Int32.toInt_inj, true_and, and_true, or_true, true_or, false_or, or_false, false_and, and_false, not_true_eq_false, not_false_eq_true] <;> omega))
        · simp only [Int32.lt_iff_toInt_lt, Int32.le_iff_toInt_le, Int32.reduceToInt, ← Int32.toInt_inj] at h_476
          refine v_aload_n hC dX9_testHolds_21 rfl ?_
          refine v_iload hC dX9_testHolds_22 rfl ?_
          refine v_vi hC (rest := []) m_461 e_465 rfl mi_X9_codeAt ms_X9_codeAt (p_X9_codeAt hW k_0) mx_X9_codeAt ml_X9_125 (by decide) rfl (cells1 := 0) (slots1 := 0) (by decide) (by decide) (Nat.le_of_ble_eq_true rfl) (Nat.le_of_ble_eq_true rfl) rfl (Nat.le_of_ble_eq_true rfl) dX9_testHolds_24 (fun r_480 L_481 f_482 h_483 => ?_)
          obtain ⟨rfl, rfl, h_484⟩ := h_483
          refine v_sipush hC dX9_testHolds_27 (v := 2005) (by decide) ?_
          refine v_icmp_le hC dX9_testHolds_30 (tgt := 39) (by decide) (fun h_487 => ?_) (fun h_487 => ?_)
          · simp only [Int32.lt_iff_toInt_lt, Int32.le_iff_toInt_le, Int32.reduceToInt, ← Int32.toInt_inj] at h_487
            refine v_pick [0, 1, 2, 3, 4] rfl ?_
            exact jn_403 
          · simp only [Int32.lt_iff_toInt_lt, Int32.le_iff_toInt_le, Int32.reduceToInt, ← Int32.toInt_inj] at h_487
            obtain ⟨v_488, h_489⟩ : ∃ v9 : Int32, i_366 + Int32.ofInt 1 = v9 := ⟨_, rfl⟩
            have h_490 := add_v (b := 1) h_489 (by first | omega | (simp only [Int32.lt_iff_toInt_lt, Int32.le_iff_toInt_le, Int32.reduceToInt, ← Int32.toInt_inj, true_and, and_true, or_true, true_or, false_or, or_false, false_and, and_false, not_true_eq_false, not_false_eq_true] <;> omega)) (by first | omega | (simp only [Int32.lt_iff_toInt_lt, Int32.le_iff_toInt_le, Int32.reduceToInt, ← Int32.toInt_inj, true_and, and_true, or_true, true_or, false_or, or_false, false_and, and_false, not_true_eq_false, not_false_eq_true] <;> omega))
            simp only [Int32.reduceToInt] at h_490
            refine v_iinc hC dX9_testHolds_33 (k := 0) rfl (v := v_488) h_489 (by decide) (lv' := [(4, .int v_488), (0, .ref a_0), (1, .int a_1), (2, .int a_2), (3, .ref a_3)]) rfl ?_
            refine v_goto hC dX9_testHolds_36 (tgt := 3) (by decide) ?_
            refine v_pick [0, 1, 2, 3, 4] rfl ?_
            exact ih_370 v_488 (by first | omega | (simp only [Int32.lt_iff_toInt_lt, Int32.le_iff_toInt_le, Int32.reduceToInt, ← Int32.toInt_inj, true_and, and_true, or_true, true_or, false_or, or_false, false_and, and_false, not_true_eq_false, not_false_eq_true] <;> omega)) (by first | omega | (simp only [Int32.lt_iff_toInt_lt, Int32.le_iff_toInt_le, Int32.reduceToInt, ← Int32.toInt_inj, true_and, and_true, or_true, true_or, false_or, or_false, false_and, and_false, not_true_eq_false, not_false_eq_true] <;> omega))
  refine v_pick [0, 1, 2, 3, 4] rfl ?_
  exact lp_368 302 a_1 (by first | omega | (simp only [Int32.lt_iff_toInt_lt, Int32.le_iff_toInt_le, Int32.reduceToInt, ← Int32.toInt_inj, true_and, and_true, or_true, true_or, false_or, or_false, false_and, and_false, not_true_eq_false, not_false_eq_true] <;> omega)) (by first | omega | (simp only [Int32.lt_iff_toInt_lt, Int32.le_iff_toInt_le, Int32.reduceToInt, ← Int32.toInt_inj, true_and, and_true, or_true, true_or, false_or, or_false, false_and, and_false, not_true_eq_false, not_false_eq_true] <;> omega))
set_option maxRecDepth 100000 in
set_option maxHeartbeats 8000000 in
theorem p_X9_lineThatStops {l : Launch} {E : Ez} {L : List Nat} {f : Nat → va_E} {T : Nat → va_E → Prop} {a_0 : Nat} {a_1 : Nat} (hW : WT T L f) (k_0 : isWat T L E a_0) (k_1 : isTal T L E a_1) : CI l yX9_lineThatStops cX9_lineThatStops 7 .int 4 0 0 E [.ref a_0, .ref a_1] L f (fun r L1 f1 => L = L1 ∧ f = f1) := by
  refine ci_of (by decide) (Nat.le_of_ble_eq_true rfl) (fun z hz hnm hC hR => ?_)
  have hC : Cx z E cX9_lineThatStops RX9 7 4 0 0 := hC
  subst hz
  show V z E 7 0 0 L f 0 [(0, .ref a_0), (1, .ref a_1)] []
  refine v_iconst hC dX9_lineThatStops_0 (v := 0) (by decide) ?_
  refine v_istore_n hC dX9_lineThatStops_1 (by decide) (lv' := [(2, .int 0), (0, .ref a_0), (1, .ref a_1)]) rfl ?_
  refine v_iconst hC dX9_lineThatStops_2 (v := 0) (by decide) ?_
  refine v_istore_n hC dX9_lineThatStops_3 (by decide) (lv' := [(3, .int 0), (2, .int 0), (0, .ref a_0), (1, .ref a_1)]) rfl ?_
  refine v_iconst hC dX9_lineThatStops_4 (v := 1) (by decide) ?_
  refine v_istore hC dX9_lineThatStops_5 (by decide) (lv' := [(4, .int 1), (3, .int 0), (2, .int 0), (0, .ref a_0), (1, .ref a_1)]) rfl ?_
  refine v_iconst hC dX9_lineThatStops_7 (v := 0) (by decide) ?_
  refine v_istore hC dX9_lineThatStops_8 (by decide) (lv' := [(5, .int 0), (4, .int 1), (3, .int 0), (2, .int 0), (0, .ref a_0), (1, .ref a_1)]) rfl ?_
  have lp_1254 : ∀ (n_1255 : Nat) (i_1247 : Int32) (b_1251 : (0 ≤ i_1247.toInt ∧ i_1247.toInt ≤ 300)) (i_1248 : Int32) (b_1252 : (0 ≤ i_1248.toInt ∧ i_1248.toInt ≤ 1)) (i_1249 : Int32) (b_1253 : (0 ≤ i_1249.toInt ∧ i_1249.toInt ≤ 300)) (i_1250 : Int32) (hm_1257 : 300 - i_1247.toInt < (n_1255 : Int)), V z E 7 0 0 L f 10 [(5, .int i_1247), (4, .int i_1248), (3, .int i_1249), (2, .int i_1250), (0, .ref a_0), (1, .ref a_1)] [] := by
    intro n_1255
    induction n_1255 with
    | zero =>
      intro i_1247 b_1251 i_1248 b_1252 i_1249 b_1253 i_1250 hm_1257
      exfalso; omega
    | succ n_1255 ih_1256 =>
      intro i_1247 b_1251 i_1248 b_1252 i_1249 b_1253 i_1250 hm_1257
      refine v_iload hC dX9_lineThatStops_10 rfl ?_
      refine v_aload_n hC dX9_lineThatStops_12 rfl ?_
      obtain ⟨m_1258, q_1260, t_1259, k_1261⟩ := id k_0
      obtain ⟨v_1263, v_1265, e_1262, b_1264⟩ := hW.at m_1258 t_1259
      refine v_get hC fl_X9_23 m_1258 e_1262 rfl dX9_lineThatStops_13 ?_
      refine v_icmp_ge hC dX9_lineThatStops_16 (tgt := 98) (by decide) (fun h_1266 => ?_) (fun h_1266 => ?_)
      · simp only [Int32.lt_iff_toInt_lt, Int32.le_iff_toInt_le, Int32.reduceToInt, ← Int32.toInt_inj] at h_1266
        refine v_iconst hC dX9_lineThatStops_98 (v := (-1)) (by decide) ?_
        exact hR _ _ _ _ _ _ _ dX9_lineThatStops_99 rfl (Nat.le_of_ble_eq_true rfl) (Nat.le_of_ble_eq_true rfl) ⟨rfl, rfl⟩
      · simp only [Int32.lt_iff_toInt_lt, Int32.le_iff_toInt_le, Int32.reduceToInt, ← Int32.toInt_inj] at h_1266
        refine v_aload_n hC dX9_lineThatStops_19 rfl ?_
        refine v_iload hC dX9_lineThatStops_20 rfl ?_
        refine v_vi hC (rest := []) m_1258 e_1262 rfl mi_X9_codeAt ms_X9_codeAt (p_X9_codeAt hW k_0) mx_X9_codeAt ml_X9_125 (by decide) rfl (cells1 := 0) (slots1 := 0) (by decide) (by decide) (Nat.le_of_ble_eq_true rfl) (Nat.le_of_ble_eq_true rfl) rfl (Nat.le_of_ble_eq_true rfl) dX9_lineThatStops_22 (fun r_1267 L_1268 f_1269 h_1270 => ?_)
        obtain ⟨rfl, rfl, h_1271⟩ := h_1270
        refine v_istore hC dX9_lineThatStops_25 (by decide) (lv' := [(6, .int r_1267), (5, .int i_1247), (4, .int i_1248), (3, .int i_1249), (2, .int i_1250), (0, .ref a_0), (1, .ref a_1)]) rfl ?_
        refine v_iload hC dX9_lineThatStops_27 rfl ?_
        refine v_sipush hC dX9_lineThatStops_29 (v := 2006) (by decide) ?_
        have jn_1312 : ∀ (v_1313 : Int32) (b_1314 : (0 ≤ v_1313.toInt ∧ v_1313.toInt ≤ 300)) (v_1315 : Int32) (b_1316 : (0 ≤ v_1315.toInt ∧ v_1315.toInt ≤ 1)), V z E 7 0 0 L f 71 [(3, .int v_1313), (4, .int v_1315), (6, .int r_1267), (5, .int i_1247), (2, .int i_1250), (0, .ref a_0), (1, .ref a_1)] [] := by
          intro v_1313 b_1314 v_1315 b_1316
          refine v_iload hC dX9_lineThatStops_71 rfl ?_
          refine v_sipush hC dX9_lineThatStops_73 (v := 2007) (by decide) ?_
          refine v_icmp_ne hC dX9_lineThatStops_76 (tgt := 92) (by decide) (fun h_1317 => ?_) (fun h_1317 => ?_)
          · simp only [Int32.lt_iff_toInt_lt, Int32.le_iff_toInt_le, Int32.reduceToInt, ← Int32.toInt_inj] at h_1317
            obtain ⟨v_1318, h_1319⟩ : ∃ v9 : Int32, i_1247 + Int32.ofInt 1 = v9 := ⟨_, rfl⟩
            have h_1320 := add_v (b := 1) h_1319 (by first | omega | (simp only [Int32.lt_iff_toInt_lt, Int32.le_iff_toInt_le, Int32.reduceToInt, ← Int32.toInt_inj, true_and, and_true, or_true, true_or, false_or, or_false, false_and, and_false, not_true_eq_false, not_false_eq_true] <;> omega)) (by first | omega | (simp only [Int32.lt_iff_toInt_lt, Int32.le_iff_toInt_le, Int32.reduceToInt, ← Int32.toInt_inj, true_and, and_true, or_true, true_or, false_or, or_false, false_and, and_false, not_true_eq_false, not_false_eq_true] <;> omega))
            simp only [Int32.reduceToInt] at h_1320
            refine v_iinc hC dX9_lineThatStops_92 (k := 3) rfl (v := v_1318) h_1319 (by decide) (lv' := [(5, .int v_1318), (3, .int v_1313), (4, .int v_1315), (6, .int r_1267), (2, .int i_1250), (0, .ref a_0), (1, .ref a_1)]) rfl ?_
            refine v_goto hC dX9_lineThatStops_95 (tgt := 10) (by decide) ?_
            refine v_pick [0, 2, 1, 4, 5, 6] rfl ?_
            exact ih_1256 v_1318 (by first | omega | (simp only [Int32.lt_iff_toInt_lt, Int32.le_iff_toInt_le, Int32.reduceToInt, ← Int32.toInt_inj, true_and, and_true, or_true, true_or, false_or, or_false, false_and, and_false, not_true_eq_false, not_false_eq_true] <;> omega)) v_1315 (by first | omega | (simp only [Int32.lt_iff_toInt_lt, Int32.le_iff_toInt_le, Int32.reduceToInt, ← Int32.toInt_inj, true_and, and_true, or_true, true_or, false_or, or_false, false_and, and_false, not_true_eq_false, not_false_eq_true] <;> omega)) v_1313 (by first | omega | (simp only [Int32.lt_iff_toInt_lt, Int32.le_iff_toInt_le, Int32.reduceToInt, ← Int32.toInt_inj, true_and, and_true, or_true, true_or, false_or, or_false, false_and, and_false, not_true_eq_false, not_false_eq_true] <;> omega)) i_1250 (by first | omega | (simp only [Int32.lt_iff_toInt_lt, Int32.le_iff_toInt_le, Int32.reduceToInt, ← Int32.toInt_inj, true_and, and_true, or_true, true_or, false_or, or_false, false_and, and_false, not_true_eq_false, not_false_eq_true] <;> omega))
          · simp only [Int32.lt_iff_toInt_lt, Int32.le_iff_toInt_le, Int32.reduceToInt, ← Int32.toInt_inj] at h_1317
            refine v_iload hC dX9_lineThatStops_79 rfl ?_
            refine v_if_eq hC dX9_lineThatStops_81 (tgt := 86) (by decide) (fun h_1321 => ?_) (fun h_1321 => ?_)
            · simp only [Int32.lt_iff_toInt_lt, Int32.le_iff_toInt_le, Int32.reduceToInt, ← Int32.toInt_inj] at h_1321
              refine v_iconst hC dX9_lineThatStops_86 (v := 1) (by decide) ?_
              refine v_istore hC dX9_lineThatStops_87 (by decide) (lv' := [(4, .int 1), (3, .int v_1313), (6, .int r_1267), (5, .int i_1247), (2, .int i_1250), (0, .ref a_0), (1, .ref a_1)]) rfl ?_
              obtain ⟨v_1322, h_1323⟩ : ∃ v9 : Int32, i_1250 + Int32.ofInt 1 = v9 := ⟨_, rfl⟩
              refine v_iinc hC dX9_lineThatStops_89 (k := 4) rfl (v := v_1322) h_1323 (by decide) (lv' := [(2, .int v_1322), (4, .int 1), (3, .int v_1313), (6, .int r_1267), (5, .int i_1247), (0, .ref a_0), (1, .ref a_1)]) rfl ?_
              obtain ⟨v_1324, h_1325⟩ : ∃ v9 : Int32, i_1247 + Int32.ofInt 1 = v9 := ⟨_, rfl⟩
              have h_1326 := add_v (b := 1) h_1325 (by first | omega | (simp only [Int32.lt_iff_toInt_lt, Int32.le_iff_toInt_le, Int32.reduceToInt, ← Int32.toInt_inj, true_and, and_true, or_true, true_or, false_or, or_false, false_and, and_false, not_true_eq_false, not_false_eq_true] <;> omega)) (by first | omega | (simp only [Int32.lt_iff_toInt_lt, Int32.le_iff_toInt_le, Int32.reduceToInt, ← Int32.toInt_inj, true_and, and_true, or_true, true_or, false_or, or_false, false_and, and_false, not_true_eq_false, not_false_eq_true] <;> omega))
              simp only [Int32.reduceToInt] at h_1326
              refine v_iinc hC dX9_lineThatStops_92 (k := 4) rfl (v := v_1324) h_1325 (by decide) (lv' := [(5, .int v_1324), (2, .int v_1322), (4, .int 1), (3, .int v_1313), (6, .int r_1267), (0, .ref a_0), (1, .ref a_1)]) rfl ?_
              refine v_goto hC dX9_lineThatStops_95 (tgt := 10) (by decide) ?_
              refine v_pick [0, 2, 3, 1, 5, 6] rfl ?_
              exact ih_1256 v_1324 (by first | omega | (simp only [Int32.lt_iff_toInt_lt, Int32.le_iff_toInt_le, Int32.reduceToInt, ← Int32.toInt_inj, true_and, and_true, or_true, true_or, false_or, or_false, false_and, and_false, not_true_eq_false, not_false_eq_true] <;> omega)) 1 (by decide) v_1313 (by first | omega | (simp only [Int32.lt_iff_toInt_lt, Int32.le_iff_toInt_le, Int32.reduceToInt, ← Int32.toInt_inj, true_and, and_true, or_true, true_or, false_or, or_false, false_and, and_false, not_true_eq_false, not_false_eq_true] <;> omega)) v_1322 (by first | omega | (simp only [Int32.lt_iff_toInt_lt, Int32.le_iff_toInt_le, Int32.reduceToInt, ← Int32.toInt_inj, true_and, and_true, or_true, true_or, false_or, or_false, false_and, and_false, not_true_eq_false, not_false_eq_true] <;> omega))
            · simp only [Int32.lt_iff_toInt_lt, Int32.le_iff_toInt_le, Int32.reduceToInt, ← Int32.toInt_inj] at h_1321
              refine v_iload_n hC dX9_lineThatStops_84 rfl ?_
              exact hR _ _ _ _ _ _ _ dX9_lineThatStops_85 rfl (Nat.le_of_ble_eq_true rfl) (Nat.le_of_ble_eq_true rfl) ⟨rfl, rfl⟩
        refine v_icmp_eq hC dX9_lineThatStops_32 (tgt := 43) (by decide) (fun h_1274 => ?_) (fun h_1274 => ?_)
        · simp only [Int32.lt_iff_toInt_lt, Int32.le_iff_toInt_le, Int32.reduceToInt, ← Int32.toInt_inj] at h_1274
          refine v_iload hC dX9_lineThatStops_43 rfl ?_
          refine v_if_eq hC dX9_lineThatStops_45 (tgt := 63) (by decide) (fun h_1327 => ?_) (fun h_1327 => ?_)
          · simp only [Int32.lt_iff_toInt_lt, Int32.le_iff_toInt_le, Int32.reduceToInt, ← Int32.toInt_inj] at h_1327
            refine v_iconst hC dX9_lineThatStops_63 (v := 0) (by decide) ?_
            refine v_istore hC dX9_lineThatStops_64 (by decide) (lv' := [(4, .int 0), (6, .int r_1267), (5, .int i_1247), (3, .int i_1249), (2, .int i_1250), (0, .ref a_0), (1, .ref a_1)]) rfl ?_
            refine v_iload hC dX9_lineThatStops_66 rfl ?_
            refine v_iconst hC dX9_lineThatStops_68 (v := 1) (by decide) ?_
            obtain ⟨v_1328, h_1329⟩ : ∃ v9 : Int32, i_1247 + 1 = v9 := ⟨_, rfl⟩
            refine v_iadd hC dX9_lineThatStops_69 h_1329 ?_
            have h_1330 := add_v h_1329 (by first | omega | (simp only [Int32.lt_iff_toInt_lt, Int32.le_iff_toInt_le, Int32.reduceToInt, ← Int32.toInt_inj, true_and, and_true, or_true, true_or, false_or, or_false, false_and, and_false, not_true_eq_false, not_false_eq_true] <;> omega)) (by first | omega | (simp only [Int32.lt_iff_toInt_lt, Int32.le_iff_toInt_le, Int32.reduceToInt, ← Int32.toInt_inj, true_and, and_true, or_true, true_or, false_or, or_false, false_and, and_false, not_true_eq_false, not_false_eq_true] <;> omega))
            try simp only [Int32.reduceToInt] at h_1330
            refine v_istore_n hC dX9_lineThatStops_70 (by decide) (lv' := [(3, .int v_1328), (4, .int 0), (6, .int r_1267), (5, .int i_1247), (2, .int i_1250), (0, .ref a_0), (1, .ref a_1)]) rfl ?_
            refine v_pick [0, 1, 2, 3, 4, 5, 6] rfl ?_
            exact jn_1312 v_1328 (by first | omega | (simp only [Int32.lt_iff_toInt_lt, Int32.le_iff_toInt_le, Int32.reduceToInt, ← Int32.toInt_inj, true_and, and_true, or_true, true_or, false_or, or_false, false_and, and_false, not_true_eq_false, not_false_eq_true] <;> omega)) 0 (by decide)
          · simp only [Int32.lt_iff_toInt_lt, Int32.le_iff_toInt_le, Int32.reduceToInt, ← Int32.toInt_inj] at h_1327
            refine v_aload_n hC dX9_lineThatStops_48 rfl ?_
            refine v_iload_n hC dX9_lineThatStops_49 rfl ?_
            refine v_iload hC dX9_lineThatStops_50 rfl ?_
            refine v_aload_n hC dX9_lineThatStops_52 rfl ?_
            refine v_vi hC (rest := []) m_1258 e_1262 rfl mi_X9_testHolds ms_X9_testHolds (p_X9_testHolds hW k_0 (by first | omega | (simp only [Int32.lt_iff_toInt_lt, Int32.le_iff_toInt_le, Int32.reduceToInt, ← Int32.toInt_inj, true_and, and_true, or_true, true_or, false_or, or_false, false_and, and_false, not_true_eq_false, not_false_eq_true] <;> omega)) (by first | omega | (simp only [Int32.lt_iff_toInt_lt, Int32.le_iff_toInt_le, Int32.reduceToInt, ← Int32.toInt_inj, true_and, and_true, or_true, true_or, false_or, or_false, false_and, and_false, not_true_eq_false, not_false_eq_true] <;> omega)) k_1) mx_X9_testHolds ml_X9_129 (by decide) rfl (cells1 := 0) (slots1 := 0) (by decide) (by decide) (Nat.le_of_ble_eq_true rfl) (Nat.le_of_ble_eq_true rfl) rfl (Nat.le_of_ble_eq_true rfl) dX9_lineThatStops_53 (fun r_1331 L_1332 f_1333 h_1334 => ?_)
            obtain ⟨rfl, rfl, b_1335⟩ := h_1334
            refine v_if_eq hC dX9_lineThatStops_56 (tgt := 63) (by decide) (fun h_1338 => ?_) (fun h_1338 => ?_)
            · simp only [Int32.lt_iff_toInt_lt, Int32.le_iff_toInt_le, Int32.reduceToInt, ← Int32.toInt_inj] at h_1338
              refine v_iconst hC dX9_lineThatStops_63 (v := 0) (by decide) ?_
              refine v_istore hC dX9_lineThatStops_64 (by decide) (lv' := [(4, .int 0), (6, .int r_1267), (5, .int i_1247), (3, .int i_1249), (2, .int i_1250), (0, .ref a_0), (1, .ref a_1)]) rfl ?_
              refine v_iload hC dX9_lineThatStops_66 rfl ?_
              refine v_iconst hC dX9_lineThatStops_68 (v := 1) (by decide) ?_
              obtain ⟨v_1339, h_1340⟩ : ∃ v9 : Int32, i_1247 + 1 = v9 := ⟨_, rfl⟩
              refine v_iadd hC dX9_lineThatStops_69 h_1340 ?_
              have h_1341 := add_v h_1340 (by first | omega | (simp only [Int32.lt_iff_toInt_lt, Int32.le_iff_toInt_le, Int32.reduceToInt, ← Int32.toInt_inj, true_and, and_true, or_true, true_or, false_or, or_false, false_and, and_false, not_true_eq_false, not_false_eq_true] <;> omega)) (by first | omega | (simp only [Int32.lt_iff_toInt_lt, Int32.le_iff_toInt_le, Int32.reduceToInt, ← Int32.toInt_inj, true_and, and_true, or_true, true_or, false_or, or_false, false_and, and_false, not_true_eq_false, not_false_eq_true] <;> omega))
              try simp only [Int32.reduceToInt] at h_1341
              refine v_istore_n hC dX9_lineThatStops_70 (by decide) (lv' := [(3, .int v_1339), (4, .int 0), (6, .int r_1267), (5, .int i_1247), (2, .int i_1250), (0, .ref a_0), (1, .ref a_1)]) rfl ?_
              refine v_pick [0, 1, 2, 3, 4, 5, 6] rfl ?_
              exact jn_1312 v_1339 (by first | omega | (simp only [Int32.lt_iff_toInt_lt, Int32.le_iff_toInt_le, Int32.reduceToInt, ← Int32.toInt_inj, true_and, and_true, or_true, true_or, false_or, or_false, false_and, and_false, not_true_eq_false, not_false_eq_true] <;> omega)) 0 (by decide)
            · simp only [Int32.lt_iff_toInt_lt, Int32.le_iff_toInt_le, Int32.reduceToInt, ← Int32.toInt_inj] at h_1338
              refine v_iconst hC dX9_lineThatStops_59 (v := 1) (by decide) ?_
              refine v_goto hC dX9_lineThatStops_60 (tgt := 64) (by decide) ?_
              refine v_istore hC dX9_lineThatStops_64 (by decide) (lv' := [(4, .int 1), (6, .int r_1267), (5, .int i_1247), (3, .int i_1249), (2, .int i_1250), (0, .ref a_0), (1, .ref a_1)]) rfl ?_
              refine v_iload hC dX9_lineThatStops_66 rfl ?_
              refine v_iconst hC dX9_lineThatStops_68 (v := 1) (by decide) ?_
              obtain ⟨v_1342, h_1343⟩ : ∃ v9 : Int32, i_1247 + 1 = v9 := ⟨_, rfl⟩
              refine v_iadd hC dX9_lineThatStops_69 h_1343 ?_
              have h_1344 := add_v h_1343 (by first | omega | (simp only [Int32.lt_iff_toInt_lt, Int32.le_iff_toInt_le, Int32.reduceToInt, ← Int32.toInt_inj, true_and, and_true, or_true, true_or, false_or, or_false, false_and, and_false, not_true_eq_false, not_false_eq_true] <;> omega)) (by first | omega | (simp only [Int32.lt_iff_toInt_lt, Int32.le_iff_toInt_le, Int32.reduceToInt, ← Int32.toInt_inj, true_and, and_true, or_true, true_or, false_or, or_false, false_and, and_false, not_true_eq_false, not_false_eq_true] <;> omega))
              try simp only [Int32.reduceToInt] at h_1344
              refine v_istore_n hC dX9_lineThatStops_70 (by decide) (lv' := [(3, .int v_1342), (4, .int 1), (6, .int r_1267), (5, .int i_1247), (2, .int i_1250), (0, .ref a_0), (1, .ref a_1)]) rfl ?_
              refine v_pick [0, 1, 2, 3, 4, 5, 6] rfl ?_
              exact jn_1312 v_1342 (by first | omega | (simp only [Int32.lt_iff_toInt_lt, Int32.le_iff_toInt_le, Int32.reduceToInt, ← Int32.toInt_inj, true_and, and_true, or_true, true_or, false_or, or_false, false_and, and_false, not_true_eq_false, not_false_eq_true] <;> omega)) 1 (by decide)
        · simp only [Int32.lt_iff_toInt_lt, Int32.le_iff_toInt_le, Int32.reduceToInt, ← Int32.toInt_inj] at h_1274
          refine v_iload hC dX9_lineThatStops_35 rfl ?_
          refine v_sipush hC dX9_lineThatStops_37 (v := 2007) (by decide) ?_
          refine v_icmp_ne hC dX9_lineThatStops_40 (tgt := 71) (by decide) (fun h_1345 => ?_) (fun h_1345 => ?_)
          · simp only [Int32.lt_iff_toInt_lt, Int32.le_iff_toInt_le, Int32.reduceToInt, ← Int32.toInt_inj] at h_1345
            refine v_pick [3, 2, 0, 1, 4, 5, 6] rfl ?_
            exact jn_1312 i_1249 (by first | omega | (simp only [Int32.lt_iff_toInt_lt, Int32.le_iff_toInt_le, Int32.reduceToInt, ← Int32.toInt_inj, true_and, and_true, or_true, true_or, false_or, or_false, false_and, and_false, not_true_eq_false, not_false_eq_true] <;> omega)) i_1248 (by first | omega | (simp only [Int32.lt_iff_toInt_lt, Int32.le_iff_toInt_le, Int32.reduceToInt, ← Int32.toInt_inj, true_and, and_true, or_true, true_or, false_or, or_false, false_and, and_false, not_true_eq_false, not_false_eq_true] <;> omega))
          · simp only [Int32.lt_iff_toInt_lt, Int32.le_iff_toInt_le, Int32.reduceToInt, ← Int32.toInt_inj] at h_1345
            refine v_iload hC dX9_lineThatStops_43 rfl ?_
            refine v_if_eq hC dX9_lineThatStops_45 (tgt := 63) (by decide) (fun h_1346 => ?_) (fun h_1346 => ?_)
            · simp only [Int32.lt_iff_toInt_lt, Int32.le_iff_toInt_le, Int32.reduceToInt, ← Int32.toInt_inj] at h_1346
              refine v_iconst hC dX9_lineThatStops_63 (v := 0) (by decide) ?_
              refine v_istore hC dX9_lineThatStops_64 (by decide) (lv' := [(4, .int 0), (6, .int r_1267), (5, .int i_1247), (3, .int i_1249), (2, .int i_1250), (0, .ref a_0), (1, .ref a_1)]) rfl ?_
              refine v_iload hC dX9_lineThatStops_66 rfl ?_
              refine v_iconst hC dX9_lineThatStops_68 (v := 1) (by decide) ?_
              obtain ⟨v_1347, h_1348⟩ : ∃ v9 : Int32, i_1247 + 1 = v9 := ⟨_, rfl⟩
              refine v_iadd hC dX9_lineThatStops_69 h_1348 ?_
              have h_1349 := add_v h_1348 (by first | omega | (simp only [Int32.lt_iff_toInt_lt, Int32.le_iff_toInt_le, Int32.reduceToInt, ← Int32.toInt_inj, true_and, and_true, or_true, true_or, false_or, or_false, false_and, and_false, not_true_eq_false, not_false_eq_true] <;> omega)) (by first | omega | (simp only [Int32.lt_iff_toInt_lt, Int32.le_iff_toInt_le, Int32.reduceToInt, ← Int32.toInt_inj, true_and, and_true, or_true, true_or, false_or, or_false, false_and, and_false, not_true_eq_false, not_false_eq_true] <;> omega))
              try simp only [Int32.reduceToInt] at h_1349
              refine v_istore_n hC dX9_lineThatStops_70 (by decide) (lv' := [(3, .int v_1347), (4, .int 0), (6, .int r_1267), (5, .int i_1247), (2, .int i_1250), (0, .ref a_0), (1, .ref a_1)]) rfl ?_
              refine v_pick [0, 1, 2, 3, 4, 5, 6] rfl ?_
              exact jn_1312 v_1347 (by first | omega | (simp only [Int32.lt_iff_toInt_lt, Int32.le_iff_toInt_le, Int32.reduceToInt, ← Int32.toInt_inj, true_and, and_true, or_true, true_or, false_or, or_false, false_and, and_false, not_true_eq_false, not_false_eq_true] <;> omega)) 0 (by decide)
            · simp only [Int32.lt_iff_toInt_lt, Int32.le_iff_toInt_le, Int32.reduceToInt, ← Int32.toInt_inj] at h_1346
              refine v_aload_n hC dX9_lineThatStops_48 rfl ?_
              refine v_iload_n hC dX9_lineThatStops_49 rfl ?_
              refine v_iload hC dX9_lineThatStops_50 rfl ?_
              refine v_aload_n hC dX9_lineThatStops_52 rfl ?_
              refine v_vi hC (rest := []) m_1258 e_1262 rfl mi_X9_testHolds ms_X9_testHolds (p_X9_testHolds hW k_0 (by first | omega | (simp only [Int32.lt_iff_toInt_lt, Int32.le_iff_toInt_le, Int32.reduceToInt, ← Int32.toInt_inj, true_and, and_true, or_true, true_or, false_or, or_false, false_and, and_false, not_true_eq_false, not_false_eq_true] <;> omega)) (by first | omega | (simp only [Int32.lt_iff_toInt_lt, Int32.le_iff_toInt_le, Int32.reduceToInt, ← Int32.toInt_inj, true_and, and_true, or_true, true_or, false_or, or_false, false_and, and_false, not_true_eq_false, not_false_eq_true] <;> omega)) k_1) mx_X9_testHolds ml_X9_129 (by decide) rfl (cells1 := 0) (slots1 := 0) (by decide) (by decide) (Nat.le_of_ble_eq_true rfl) (Nat.le_of_ble_eq_true rfl) rfl (Nat.le_of_ble_eq_true rfl) dX9_lineThatStops_53 (fun r_1350 L_1351 f_1352 h_1353 => ?_)
              obtain ⟨rfl, rfl, b_1354⟩ := h_1353
              refine v_if_eq hC dX9_lineThatStops_56 (tgt := 63) (by decide) (fun h_1357 => ?_) (fun h_1357 => ?_)
              · simp only [Int32.lt_iff_toInt_lt, Int32.le_iff_toInt_le, Int32.reduceToInt, ← Int32.toInt_inj] at h_1357
                refine v_iconst hC dX9_lineThatStops_63 (v := 0) (by decide) ?_
                refine v_istore hC dX9_lineThatStops_64 (by decide) (lv' := [(4, .int 0), (6, .int r_1267), (5, .int i_1247), (3, .int i_1249), (2, .int i_1250), (0, .ref a_0), (1, .ref a_1)]) rfl ?_
                refine v_iload hC dX9_lineThatStops_66 rfl ?_
                refine v_iconst hC dX9_lineThatStops_68 (v := 1) (by decide) ?_
                obtain ⟨v_1358, h_1359⟩ : ∃ v9 : Int32, i_1247 + 1 = v9 := ⟨_, rfl⟩
                refine v_iadd hC dX9_lineThatStops_69 h_1359 ?_
                have h_1360 := add_v h_1359 (by first | omega | (simp only [Int32.lt_iff_toInt_lt, Int32.le_iff_toInt_le, Int32.reduceToInt, ← Int32.toInt_inj, true_and, and_true, or_true, true_or, false_or, or_false, false_and, and_false, not_true_eq_false, not_false_eq_true] <;> omega)) (by first | omega | (simp only [Int32.lt_iff_toInt_lt, Int32.le_iff_toInt_le, Int32.reduceToInt, ← Int32.toInt_inj, true_and, and_true, or_true, true_or, false_or, or_false, false_and, and_false, not_true_eq_false, not_false_eq_true] <;> omega))
                try simp only [Int32.reduceToInt] at h_1360
                refine v_istore_n hC dX9_lineThatStops_70 (by decide) (lv' := [(3, .int v_1358), (4, .int 0), (6, .int r_1267), (5, .int i_1247), (2, .int i_1250), (0, .ref a_0), (1, .ref a_1)]) rfl ?_
                refine v_pick [0, 1, 2, 3, 4, 5, 6] rfl ?_
                exact jn_1312 v_1358 (by first | omega | (simp only [Int32.lt_iff_toInt_lt, Int32.le_iff_toInt_le, Int32.reduceToInt, ← Int32.toInt_inj, true_and, and_true, or_true, true_or, false_or, or_false, false_and, and_false, not_true_eq_false, not_false_eq_true] <;> omega)) 0 (by decide)
              · simp only [Int32.lt_iff_toInt_lt, Int32.le_iff_toInt_le, Int32.reduceToInt, ← Int32.toInt_inj] at h_1357
                refine v_iconst hC dX9_lineThatStops_59 (v := 1) (by decide) ?_
                refine v_goto hC dX9_lineThatStops_60 (tgt := 64) (by decide) ?_
                refine v_istore hC dX9_lineThatStops_64 (by decide) (lv' := [(4, .int 1), (6, .int r_1267), (5, .int i_1247), (3, .int i_1249), (2, .int i_1250), (0, .ref a_0), (1, .ref a_1)]) rfl ?_
                refine v_iload hC dX9_lineThatStops_66 rfl ?_
                refine v_iconst hC dX9_lineThatStops_68 (v := 1) (by decide) ?_
                obtain ⟨v_1361, h_1362⟩ : ∃ v9 : Int32, i_1247 + 1 = v9 := ⟨_, rfl⟩
                refine v_iadd hC dX9_lineThatStops_69 h_1362 ?_
                have h_1363 := add_v h_1362 (by first | omega | (simp only [Int32.lt_iff_toInt_lt, Int32.le_iff_toInt_le, Int32.reduceToInt, ← Int32.toInt_inj, true_and, and_true, or_true, true_or, false_or, or_false, false_and, and_false, not_true_eq_false, not_false_eq_true] <;> omega)) (by first | omega | (simp only [Int32.lt_iff_toInt_lt, Int32.le_iff_toInt_le, Int32.reduceToInt, ← Int32.toInt_inj, true_and, and_true, or_true, true_or, false_or, or_false, false_and, and_false, not_true_eq_false, not_false_eq_true] <;> omega))
                try simp only [Int32.reduceToInt] at h_1363
                refine v_istore_n hC dX9_lineThatStops_70 (by decide) (lv' := [(3, .int v_1361), (4, .int 1), (6, .int r_1267), (5, .int i_1247), (2, .int i_1250), (0, .ref a_0), (1, .ref a_1)]) rfl ?_
                refine v_pick [0, 1, 2, 3, 4, 5, 6] rfl ?_
                exact jn_1312 v_1361 (by first | omega | (simp only [Int32.lt_iff_toInt_lt, Int32.le_iff_toInt_le, Int32.reduceToInt, ← Int32.toInt_inj, true_and, and_true, or_true, true_or, false_or, or_false, false_and, and_false, not_true_eq_false, not_false_eq_true] <;> omega)) 1 (by decide)
  refine v_pick [0, 1, 2, 3, 4, 5] rfl ?_
  exact lp_1254 302 0 (by decide) 1 (by decide) 0 (by decide) 0 (by decide)
set_option maxRecDepth 100000 in
set_option maxHeartbeats 8000000 in
theorem p_X3_takeFrom {l : Launch} {E : Ez} {L : List Nat} {f : Nat → va_E} {T : Nat → va_E → Prop} {a_0 : Nat} {a_1 : Nat} (hW : WT T L f) (k_0 : isLos T L E a_0) (k_1 : isLos T L E a_1) : CV l yX3_takeFrom cX3_takeFrom 2 1 0 0 E [.ref a_0, .ref a_1] L f (fun L1 f1 => L = L1 ∧ WT T L f1 ∧ FR [3, 112] f f1) := by
  refine cv_of (by decide) (Nat.le_of_ble_eq_true rfl) (fun z hz hnm hC hR => ?_)
  have hC : Cx z E cX3_takeFrom RX3 2 1 0 0 := hC
  subst hz
  show V z E 2 0 0 L f 0 [(0, .ref a_0), (1, .ref a_1)] []
  refine v_aload_n hC dX3_takeFrom_0 rfl ?_
  obtain ⟨m_1, q_3, q_4, q_5, t_2, k_6, k_7, k_8⟩ := id k_1
  obtain ⟨v_10, e_9, b_11⟩ := hW.at m_1 t_2
  refine v_get hC fl_X3_9 m_1 e_9 rfl dX3_takeFrom_1 ?_
  refine v_iconst hC dX3_takeFrom_4 (v := 0) (by decide) ?_
  refine v_aload_n hC dX3_takeFrom_5 rfl ?_
  obtain ⟨m_12, q_14, q_15, q_16, t_13, k_17, k_18, k_19⟩ := id k_0
  obtain ⟨v_21, e_20, b_22⟩ := hW.at m_12 t_13
  refine v_get hC fl_X3_9 m_12 e_20 rfl dX3_takeFrom_6 ?_
  refine v_iconst hC dX3_takeFrom_9 (v := 0) (by decide) ?_
  refine v_bipush hC dX3_takeFrom_10 (v := 12) (by decide) ?_
  obtain ⟨m_23, t_24⟩ := id k_6
  obtain ⟨g_26, e_25⟩ := hW.at m_23 t_24
  obtain ⟨m_27, t_28⟩ := id k_17
  obtain ⟨g_30, e_29⟩ := hW.at m_27 t_28
  refine v_copyi hC mo_X3_21 cp_n_ cp_s_ cp_i_ m_23 e_25 m_27 e_29 (by decide) (by decide) (by decide) (by decide) (by decide) (by decide) (Nat.le_of_ble_eq_true rfl) dX3_takeFrom_12 (fun f_31 hf_32 hk_33 => ?_)
  have hW_34 := hW.up hf_32 hk_33 t_28 ⟨_, rfl⟩
  obtain ⟨g_35, hf_32⟩ : ∃ g9, f_31 q_14 = aI E 12 g9 := ⟨_, hf_32⟩
  have hf_36 := (hk_33 a_1 (ne_kd e_9 e_29 rfl)).trans e_9
  have hf_37 := (hk_33 a_0 (ne_kd e_20 e_29 rfl)).trans e_20
  have fr_38 := FR.w hk_33 e_29 (k := 112) rfl
  refine v_aload_n hC dX3_takeFrom_15 rfl ?_
  refine v_get hC fl_X3_15 m_1 hf_36 rfl dX3_takeFrom_16 ?_
  refine v_iconst hC dX3_takeFrom_19 (v := 0) (by decide) ?_
  refine v_aload_n hC dX3_takeFrom_20 rfl ?_
  refine v_get hC fl_X3_15 m_12 hf_37 rfl dX3_takeFrom_21 ?_
  refine v_iconst hC dX3_takeFrom_24 (v := 0) (by decide) ?_
  refine v_bipush hC dX3_takeFrom_25 (v := 12) (by decide) ?_
  obtain ⟨m_39, t_40⟩ := id k_7
  obtain ⟨g_42, e_41⟩ := hW_34.at m_39 t_40
  obtain ⟨m_43, t_44⟩ := id k_18
  obtain ⟨g_46, e_45⟩ := hW_34.at m_43 t_44
  refine v_copyi hC mo_X3_21 cp_n_ cp_s_ cp_i_ m_39 e_41 m_43 e_45 (by decide) (by decide) (by decide) (by decide) (by decide) (by decide) (Nat.le_of_ble_eq_true rfl) dX3_takeFrom_27 (fun f_47 hf_48 hk_49 => ?_)
  have hW_50 := hW_34.up hf_48 hk_49 t_44 ⟨_, rfl⟩
  obtain ⟨g_51, hf_48⟩ : ∃ g9, f_47 q_15 = aI E 12 g9 := ⟨_, hf_48⟩
  have hf_52 := (hk_49 a_1 (ne_kd hf_36 e_45 rfl)).trans hf_36
  have hf_53 := (hk_49 a_0 (ne_kd hf_37 e_45 rfl)).trans hf_37
  have fr_54 := FR.w hk_49 e_45 (k := 112) rfl
  refine v_aload_n hC dX3_takeFrom_30 rfl ?_
  refine v_get hC fl_X3_18 m_1 hf_52 rfl dX3_takeFrom_31 ?_
  refine v_iconst hC dX3_takeFrom_34 (v := 0) (by decide) ?_
  refine v_aload_n hC dX3_takeFrom_35 rfl ?_
  refine v_get hC fl_X3_18 m_12 hf_53 rfl dX3_takeFrom_36 ?_
  refine v_iconst hC dX3_takeFrom_39 (v := 0) (by decide) ?_
  refine v_bipush hC dX3_takeFrom_40 (v := 12) (by decide) ?_
  obtain ⟨m_55, t_56⟩ := id k_8
  obtain ⟨g_58, e_57⟩ := hW_50.at m_55 t_56
  obtain ⟨m_59, t_60⟩ := id k_19
  obtain ⟨g_62, e_61⟩ := hW_50.at m_59 t_60
  refine v_copyi hC mo_X3_21 cp_n_ cp_s_ cp_i_ m_55 e_57 m_59 e_61 (by decide) (by decide) (by decide) (by decide) (by decide) (by decide) (Nat.le_of_ble_eq_true rfl) dX3_takeFrom_42 (fun f_63 hf_64 hk_65 => ?_)
  have hW_66 := hW_50.up hf_64 hk_65 t_60 ⟨_, rfl⟩
  obtain ⟨g_67, hf_64⟩ : ∃ g9, f_63 q_16 = aI E 12 g9 := ⟨_, hf_64⟩
  have hf_68 := (hk_65 a_1 (ne_kd hf_52 e_61 rfl)).trans hf_52
  have hf_69 := (hk_65 a_0 (ne_kd hf_53 e_61 rfl)).trans hf_53
  have fr_70 := FR.w hk_65 e_61 (k := 112) rfl
  refine v_aload_n hC dX3_takeFrom_45 rfl ?_
  refine v_aload_n hC dX3_takeFrom_46 rfl ?_
  refine v_get hC fl_X3_27 m_1 hf_68 rfl dX3_takeFrom_47 ?_
  refine v_put hC fl_X3_27 m_12 hf_69 rfl rfl (Nat.le_of_ble_eq_true rfl) (fs' := [.ref q_14, .ref q_15, .ref q_16, .int v_10]) rfl dX3_takeFrom_50 (fun f_71 hf_72 hk_73 => ?_)
  have hW_74 := hW_66.up hf_72 hk_73 t_13 ⟨v_10, rfl, (by first | omega | (simp only [Int32.lt_iff_toInt_lt, Int32.le_iff_toInt_le, Int32.reduceToInt, ← Int32.toInt_inj, true_and, and_true, or_true, true_or, false_or, or_false, false_and, and_false, not_true_eq_false, not_false_eq_true] <;> omega))⟩
  have hf_75 := (hk_73 q_16 (ne_kd hf_64 hf_69 rfl)).trans hf_64
  have fr_76 := FR.w hk_73 hf_69 (k := 3) rfl
  exact hR _ _ _ _ _ _ dX3_takeFrom_53 (Nat.le_of_ble_eq_true rfl) (Nat.le_of_ble_eq_true rfl) ⟨rfl, hW_74, ((((fr_38.tr fr_54).tr fr_70).tr fr_76).mono rfl)⟩
set_option maxRecDepth 100000 in
set_option maxHeartbeats 8000000 in
theorem p_X3_tellStretch {l : Launch} {E : Ez} {L : List Nat} {f : Nat → va_E} {T : Nat → va_E → Prop} {a_0 : Nat} {a_1 : Nat} (hW : WT T L f) (k_0 : isLos T L E a_0) (k_1 : isTape T L E a_1) : CV l yX3_tellStretch cX3_tellStretch 2 6 0 0 E [.ref a_0, .ref a_1] L f (fun L1 f1 => L = L1 ∧ WT T L f1 ∧ FR [7, 112] f f1) := by
  refine cv_of (by decide) (Nat.le_of_ble_eq_true rfl) (fun z hz hnm hC hR => ?_)
  have hC : Cx z E cX3_tellStretch RX3 2 6 0 0 := hC
  subst hz
  show V z E 2 0 0 L f 0 [(0, .ref a_0), (1, .ref a_1)] []
  refine v_aload_n hC dX3_tellStretch_0 rfl ?_
  obtain ⟨m_1, q_3, q_4, q_5, t_2, k_6, k_7, k_8⟩ := id k_0
  obtain ⟨v_10, e_9, b_11⟩ := hW.at m_1 t_2
  refine v_get hC fl_X3_27 m_1 e_9 rfl dX3_tellStretch_1 ?_
  refine v_bipush hC dX3_tellStretch_4 (v := 12) (by decide) ?_
  refine v_icmp_lt hC dX3_tellStretch_6 (tgt := 10) (by decide) (fun h_12 => ?_) (fun h_12 => ?_)
  · simp only [Int32.lt_iff_toInt_lt, Int32.le_iff_toInt_le, Int32.reduceToInt, ← Int32.toInt_inj] at h_12
    refine v_aload_n hC dX3_tellStretch_10 rfl ?_
    refine v_get hC fl_X3_9 m_1 e_9 rfl dX3_tellStretch_11 ?_
    refine v_aload_n hC dX3_tellStretch_14 rfl ?_
    refine v_get hC fl_X3_27 m_1 e_9 rfl dX3_tellStretch_15 ?_
    refine v_aload_n hC dX3_tellStretch_18 rfl ?_
    refine v_ldcS hC sr_X3_80 dX3_tellStretch_19 ?_
    obtain ⟨m_13, q_15, t_14, k_16⟩ := id k_1
    obtain ⟨v_18, v_20, v_21, v_23, v_25, v_26, e_17, b_19, b_22, b_24⟩ := hW.at m_13 t_14
    refine v_vi hC (rest := [.int v_10, .ref q_3]) m_13 e_17 rfl mi_X7_isWord ms_X7_isWord (p_X7_isWord hW k_1 (by decide)) mx_X7_isWord ml_X3_49 (by decide) rfl (cells1 := 0) (slots1 := 0) (by decide) (by decide) (Nat.le_of_ble_eq_true rfl) (Nat.le_of_ble_eq_true rfl) rfl (Nat.le_of_ble_eq_true rfl) dX3_tellStretch_21 (fun r_27 L_28 f_29 h_30 => ?_)
    obtain ⟨rfl, rfl, b_31⟩ := h_30
    have jn_35 : ∀ (v_36 : Int32) (b_37 : (0 ≤ v_36.toInt ∧ v_36.toInt ≤ 1)), V z E 2 0 0 L f 32 [(0, .ref a_0), (1, .ref a_1)] [.int v_36, .int v_10, .ref q_3] := by
      intro v_36 b_37
      obtain ⟨m_38, t_39⟩ := id k_6
      obtain ⟨g_41, e_40⟩ := hW.at m_38 t_39
      refine v_iast hC m_38 e_40 (vp_in_iff.mpr (by first | omega | (simp only [Int32.lt_iff_toInt_lt, Int32.le_iff_toInt_le, Int32.reduceToInt, ← Int32.toInt_inj, true_and, and_true, or_true, true_or, false_or, or_false, false_and, and_false, not_true_eq_false, not_false_eq_true] <;> omega))) dX3_tellStretch_32 (fun f_42 hf_43 hk_44 => ?_)
      have hW_46 := hW.up hf_43 hk_44 t_39 ⟨_, rfl⟩
      obtain ⟨g_45, hf_43⟩ : ∃ g9, f_42 q_3 = aI E 12 g9 := ⟨_, hf_43⟩
      have hf_47 := (hk_44 a_0 (ne_kd e_9 e_40 rfl)).trans e_9
      have hf_48 := (hk_44 a_1 (ne_kd e_17 e_40 rfl)).trans e_17
      have fr_49 := FR.w hk_44 e_40 (k := 112) rfl
      refine v_aload_n hC dX3_tellStretch_33 rfl ?_
      refine v_aload_n hC dX3_tellStretch_34 rfl ?_
      refine v_get hC fl_X3_9 m_1 hf_47 rfl dX3_tellStretch_35 ?_
      refine v_aload_n hC dX3_tellStretch_38 rfl ?_
      refine v_get hC fl_X3_27 m_1 hf_47 rfl dX3_tellStretch_39 ?_
      obtain ⟨v_50, h_51⟩ : ∃ v9 : Int32, g_45 (v_10 : Int32).toNatClampNeg = v9 := ⟨_, rfl⟩
      refine v_iald hC m_38 hf_43 (vp_in_iff.mpr (by first | omega | (simp only [Int32.lt_iff_toInt_lt, Int32.le_iff_toInt_le, Int32.reduceToInt, ← Int32.toInt_inj, true_and, and_true, or_true, true_or, false_or, or_false, false_and, and_false, not_true_eq_false, not_false_eq_true] <;> omega))) h_51 dX3_tellStretch_42 ?_
      refine v_iconst hC dX3_tellStretch_43 (v := 1) (by decide) ?_
      have jn_53 : ∀ (jj_54 : Nat) (hjj_54 : jj_54 < 77), V z E 2 0 0 L f_42 54 [(0, .ref a_0), (1, .ref a_1)] [.ref (eK E jj_54), .ref a_1] := by
        intro jj_54 hjj_54
        refine v_vv hC (rest := []) m_13 hf_48 rfl mi_X7_takeWord ms_X7_takeWord (p_X7_takeWord hW_46 k_1 hjj_54) mx_X7_takeWord ml_X3_70 (by decide) rfl (cells1 := 0) (slots1 := 0) (by decide) (by decide) (Nat.le_of_ble_eq_true rfl) (Nat.le_of_ble_eq_true rfl) rfl (Nat.le_of_ble_eq_true rfl) dX3_tellStretch_54 (fun L_56 f_57 h_58 => ?_)
        obtain ⟨rfl, hW_59, hF_60⟩ := h_58
        have hf_61 := hF_60.at hf_47 rfl
        have hf_62 := hF_60.at hf_43 rfl
        refine v_aload_n hC dX3_tellStretch_57 rfl ?_
        refine v_get hC fl_X3_15 m_1 hf_61 rfl dX3_tellStretch_58 ?_
        refine v_aload_n hC dX3_tellStretch_61 rfl ?_
        refine v_get hC fl_X3_27 m_1 hf_61 rfl dX3_tellStretch_62 ?_
        refine v_aload_n hC dX3_tellStretch_65 rfl ?_
        refine v_iconst hC dX3_tellStretch_66 (v := 0) (by decide) ?_
        refine v_bipush hC dX3_tellStretch_67 (v := 15) (by decide) ?_
        obtain ⟨v_64, v_66, v_67, v_69, v_71, v_72, e_63, b_65, b_68, b_70⟩ := hW_59.at m_13 t_14
        refine v_vi hC (rest := [.int v_10, .ref q_4]) m_13 e_63 rfl mi_X7_takeNumber ms_X7_takeNumber (p_X7_takeNumber hW_59 k_1) mx_X7_takeNumber ml_X3_64 (by decide) rfl (cells1 := 0) (slots1 := 0) (by decide) (by decide) (Nat.le_of_ble_eq_true rfl) (Nat.le_of_ble_eq_true rfl) rfl (Nat.le_of_ble_eq_true rfl) dX3_tellStretch_69 (fun r_73 L_74 f_75 h_76 => ?_)
        obtain ⟨rfl, hW_78, hF_79, x_77⟩ := h_76
        have hf_80 := hF_79.at hf_61 rfl
        have hf_81 := hF_79.at hf_62 rfl
        try simp only [Int32.reduceToInt, Int64.reduceToInt] at x_77
        obtain ⟨m_82, t_83⟩ := id k_7
        obtain ⟨g_85, e_84⟩ := hW_78.at m_82 t_83
        refine v_iast hC m_82 e_84 (vp_in_iff.mpr (by first | omega | (simp only [Int32.lt_iff_toInt_lt, Int32.le_iff_toInt_le, Int32.reduceToInt, ← Int32.toInt_inj, true_and, and_true, or_true, true_or, false_or, or_false, false_and, and_false, not_true_eq_false, not_false_eq_true] <;> omega))) dX3_tellStretch_72 (fun f_86 hf_87 hk_88 => ?_)
        have hW_90 := hW_78.up hf_87 hk_88 t_83 ⟨_, rfl⟩
        obtain ⟨g_89, hf_87⟩ : ∃ g9, f_86 q_4 = aI E 12 g9 := ⟨_, hf_87⟩
        have hf_91 := (hk_88 a_0 (ne_kd hf_80 e_84 rfl)).trans hf_80
        have fr_92 := FR.w hk_88 e_84 (k := 112) rfl
        refine v_aload_n hC dX3_tellStretch_73 rfl ?_
        refine v_ldcS hC sr_X3_84 dX3_tellStretch_74 ?_
        obtain ⟨v_94, v_96, v_97, v_99, v_101, v_102, e_93, b_95, b_98, b_100⟩ := hW_90.at m_13 t_14
        refine v_vv hC (rest := []) m_13 e_93 rfl mi_X7_takeWord ms_X7_takeWord (p_X7_takeWord hW_90 k_1 (by decide)) mx_X7_takeWord ml_X3_70 (by decide) rfl (cells1 := 0) (slots1 := 0) (by decide) (by decide) (Nat.le_of_ble_eq_true rfl) (Nat.le_of_ble_eq_true rfl) rfl (Nat.le_of_ble_eq_true rfl) dX3_tellStretch_76 (fun L_104 f_105 h_106 => ?_)
        obtain ⟨rfl, hW_107, hF_108⟩ := h_106
        have hf_109 := hF_108.at hf_91 rfl
        have hf_110 := hF_108.at hf_87 rfl
        refine v_aload_n hC dX3_tellStretch_79 rfl ?_
        refine v_get hC fl_X3_18 m_1 hf_109 rfl dX3_tellStretch_80 ?_
        refine v_aload_n hC dX3_tellStretch_83 rfl ?_
        refine v_get hC fl_X3_27 m_1 hf_109 rfl dX3_tellStretch_84 ?_
        refine v_aload_n hC dX3_tellStretch_87 rfl ?_
        refine v_aload_n hC dX3_tellStretch_88 rfl ?_
        refine v_get hC fl_X3_15 m_1 hf_109 rfl dX3_tellStretch_89 ?_
        refine v_aload_n hC dX3_tellStretch_92 rfl ?_
        refine v_get hC fl_X3_27 m_1 hf_109 rfl dX3_tellStretch_93 ?_
        obtain ⟨v_111, h_112⟩ : ∃ v9 : Int32, g_89 (v_10 : Int32).toNatClampNeg = v9 := ⟨_, rfl⟩
        refine v_iald hC m_82 hf_110 (vp_in_iff.mpr (by first | omega | (simp only [Int32.lt_iff_toInt_lt, Int32.le_iff_toInt_le, Int32.reduceToInt, ← Int32.toInt_inj, true_and, and_true, or_true, true_or, false_or, or_false, false_and, and_false, not_true_eq_false, not_false_eq_true] <;> omega))) h_112 dX3_tellStretch_96 ?_
        refine v_bipush hC dX3_tellStretch_97 (v := 15) (by decide) ?_
        obtain ⟨v_114, v_116, v_117, v_119, v_121, v_122, e_113, b_115, b_118, b_120⟩ := hW_107.at m_13 t_14
        refine v_vi hC (rest := [.int v_10, .ref q_5]) m_13 e_113 rfl mi_X7_takeNumber ms_X7_takeNumber (p_X7_takeNumber hW_107 k_1) mx_X7_takeNumber ml_X3_64 (by decide) rfl (cells1 := 0) (slots1 := 0) (by decide) (by decide) (Nat.le_of_ble_eq_true rfl) (Nat.le_of_ble_eq_true rfl) rfl (Nat.le_of_ble_eq_true rfl) dX3_tellStretch_99 (fun r_123 L_124 f_125 h_126 => ?_)
        obtain ⟨rfl, hW_128, hF_129, x_127⟩ := h_126
        have hf_130 := hF_129.at hf_109 rfl
        have hf_131 := hF_129.at hf_110 rfl
        try simp only [Int32.reduceToInt, Int64.reduceToInt] at x_127
        obtain ⟨m_132, t_133⟩ := id k_8
        obtain ⟨g_135, e_134⟩ := hW_128.at m_132 t_133
        refine v_iast hC m_132 e_134 (vp_in_iff.mpr (by first | omega | (simp only [Int32.lt_iff_toInt_lt, Int32.le_iff_toInt_le, Int32.reduceToInt, ← Int32.toInt_inj, true_and, and_true, or_true, true_or, false_or, or_false, false_and, and_false, not_true_eq_false, not_false_eq_true] <;> omega))) dX3_tellStretch_102 (fun f_136 hf_137 hk_138 => ?_)
        have hW_140 := hW_128.up hf_137 hk_138 t_133 ⟨_, rfl⟩
        obtain ⟨g_139, hf_137⟩ : ∃ g9, f_136 q_5 = aI E 12 g9 := ⟨_, hf_137⟩
        have hf_141 := (hk_138 a_0 (ne_kd hf_130 e_134 rfl)).trans hf_130
        have fr_142 := FR.w hk_138 e_134 (k := 112) rfl
        exact hR _ _ _ _ _ _ dX3_tellStretch_103 (Nat.le_of_ble_eq_true rfl) (Nat.le_of_ble_eq_true rfl) ⟨rfl, hW_140, (((((((fr_49.tr hF_60).tr hF_79).tr fr_92).tr hF_108).tr hF_129).tr fr_142).mono rfl)⟩
      refine v_icmp_ne hC dX3_tellStretch_44 (tgt := 52) (by decide) (fun h_52 => ?_) (fun h_52 => ?_)
      · simp only [Int32.lt_iff_toInt_lt, Int32.le_iff_toInt_le, Int32.reduceToInt, ← Int32.toInt_inj] at h_52
        refine v_ldcS hC sr_X3_82 dX3_tellStretch_52 ?_
        refine v_pick [0, 1] rfl ?_
        exact jn_53 38 (by decide)
      · simp only [Int32.lt_iff_toInt_lt, Int32.le_iff_toInt_le, Int32.reduceToInt, ← Int32.toInt_inj] at h_52
        refine v_ldcS hC sr_X3_80 dX3_tellStretch_47 ?_
        refine v_goto hC dX3_tellStretch_49 (tgt := 54) (by decide) ?_
        refine v_pick [0, 1] rfl ?_
        exact jn_53 37 (by decide)
    refine v_if_eq hC dX3_tellStretch_24 (tgt := 31) (by decide) (fun h_34 => ?_) (fun h_34 => ?_)
    · simp only [Int32.lt_iff_toInt_lt, Int32.le_iff_toInt_le, Int32.reduceToInt, ← Int32.toInt_inj] at h_34
      refine v_iconst hC dX3_tellStretch_31 (v := 0) (by decide) ?_
      refine v_pick [0, 1] rfl ?_
      exact jn_35 0 (by decide)
    · simp only [Int32.lt_iff_toInt_lt, Int32.le_iff_toInt_le, Int32.reduceToInt, ← Int32.toInt_inj] at h_34
      refine v_iconst hC dX3_tellStretch_27 (v := 1) (by decide) ?_
      refine v_goto hC dX3_tellStretch_28 (tgt := 32) (by decide) ?_
      refine v_pick [0, 1] rfl ?_
      exact jn_35 1 (by decide)
  · simp only [Int32.lt_iff_toInt_lt, Int32.le_iff_toInt_le, Int32.reduceToInt, ← Int32.toInt_inj] at h_12
    exact hR _ _ _ _ _ _ dX3_tellStretch_9 (Nat.le_of_ble_eq_true rfl) (Nat.le_of_ble_eq_true rfl) ⟨rfl, hW, FR.rf⟩
set_option maxRecDepth 100000 in
set_option maxHeartbeats 8000000 in
theorem p_X3_tellLoss {l : Launch} {E : Ez} {L : List Nat} {f : Nat → va_E} {T : Nat → va_E → Prop} {a_0 : Nat} {a_1 : Nat} (hW : WT T L f) (k_0 : isLos T L E a_0) (k_1 : isTape T L E a_1) : CV l yX3_tellLoss cX3_tellLoss 3 7 0 0 E [.ref a_0, .ref a_1] L f (fun L1 f1 => L = L1 ∧ WT T L f1 ∧ FR [3, 7, 112] f f1) := by
  refine cv_of (by decide) (Nat.le_of_ble_eq_true rfl) (fun z hz hnm hC hR => ?_)
  have hC : Cx z E cX3_tellLoss RX3 3 7 0 0 := hC
  subst hz
  show V z E 3 0 0 L f 0 [(0, .ref a_0), (1, .ref a_1)] []
  refine v_aload_n hC dX3_tellLoss_0 rfl ?_
  refine v_ldcS hC sr_X3_47 dX3_tellLoss_1 ?_
  obtain ⟨m_1, q_3, t_2, k_4⟩ := id k_1
  obtain ⟨v_6, v_8, v_9, v_11, v_13, v_14, e_5, b_7, b_10, b_12⟩ := hW.at m_1 t_2
  refine v_vi hC (rest := []) m_1 e_5 rfl mi_X7_isWord ms_X7_isWord (p_X7_isWord hW k_1 (by decide)) mx_X7_isWord ml_X3_49 (by decide) rfl (cells1 := 0) (slots1 := 0) (by decide) (by decide) (Nat.le_of_ble_eq_true rfl) (Nat.le_of_ble_eq_true rfl) rfl (Nat.le_of_ble_eq_true rfl) dX3_tellLoss_3 (fun r_15 L_16 f_17 h_18 => ?_)
  obtain ⟨rfl, rfl, b_19⟩ := h_18
  have jn_39 : ∀ (v_40 : Int32) (b_41 : (0 ≤ v_40.toInt ∧ v_40.toInt ≤ 1)), V z E 3 0 0 L f 32 [(0, .ref a_0), (1, .ref a_1)] [.int v_40] := by
    intro v_40 b_41
    refine v_istore_n hC dX3_tellLoss_32 (by decide) (lv' := [(2, .int v_40), (0, .ref a_0), (1, .ref a_1)]) rfl ?_
    refine v_aload_n hC dX3_tellLoss_33 rfl ?_
    obtain ⟨m_42, q_44, q_45, q_46, t_43, k_47, k_48, k_49⟩ := id k_0
    obtain ⟨v_51, e_50, b_52⟩ := hW.at m_42 t_43
    refine v_get hC fl_X3_27 m_42 e_50 rfl dX3_tellLoss_34 ?_
    refine v_bipush hC dX3_tellLoss_37 (v := 12) (by decide) ?_
    refine v_icmp_lt hC dX3_tellLoss_39 (tgt := 56) (by decide) (fun h_53 => ?_) (fun h_53 => ?_)
    · simp only [Int32.lt_iff_toInt_lt, Int32.le_iff_toInt_le, Int32.reduceToInt, ← Int32.toInt_inj] at h_53
      refine v_aload_n hC dX3_tellLoss_56 rfl ?_
      refine v_ldcS hC sr_X3_53 dX3_tellLoss_57 ?_
      refine v_vi hC (rest := []) m_1 e_5 rfl mi_X7_mayTakeWord ms_X7_mayTakeWord (p_X7_mayTakeWord hW k_1 (by decide)) mx_X7_mayTakeWord ml_X3_61 (by decide) rfl (cells1 := 0) (slots1 := 0) (by decide) (by decide) (Nat.le_of_ble_eq_true rfl) (Nat.le_of_ble_eq_true rfl) rfl (Nat.le_of_ble_eq_true rfl) dX3_tellLoss_59 (fun r_54 L_55 f_56 h_57 => ?_)
      obtain ⟨rfl, hW_59, hF_60, b_58⟩ := h_57
      have hf_61 := hF_60.at e_50 rfl
      refine v_if_eq hC dX3_tellLoss_62 (tgt := 117) (by decide) (fun h_62 => ?_) (fun h_62 => ?_)
      · simp only [Int32.lt_iff_toInt_lt, Int32.le_iff_toInt_le, Int32.reduceToInt, ← Int32.toInt_inj] at h_62
        refine v_aload_n hC dX3_tellLoss_117 rfl ?_
        refine v_ldcS hC sr_X3_55 dX3_tellLoss_118 ?_
        obtain ⟨v_64, v_66, v_67, v_69, v_71, v_72, e_63, b_65, b_68, b_70⟩ := hW_59.at m_1 t_2
        refine v_vi hC (rest := []) m_1 e_63 rfl mi_X7_mayTakeWord ms_X7_mayTakeWord (p_X7_mayTakeWord hW_59 k_1 (by decide)) mx_X7_mayTakeWord ml_X3_61 (by decide) rfl (cells1 := 0) (slots1 := 0) (by decide) (by decide) (Nat.le_of_ble_eq_true rfl) (Nat.le_of_ble_eq_true rfl) rfl (Nat.le_of_ble_eq_true rfl) dX3_tellLoss_120 (fun r_73 L_74 f_75 h_76 => ?_)
        obtain ⟨rfl, hW_78, hF_79, b_77⟩ := h_76
        have hf_80 := hF_79.at hf_61 rfl
        refine v_if_eq hC dX3_tellLoss_123 (tgt := 139) (by decide) (fun h_81 => ?_) (fun h_81 => ?_)
        · simp only [Int32.lt_iff_toInt_lt, Int32.le_iff_toInt_le, Int32.reduceToInt, ← Int32.toInt_inj] at h_81
          refine v_aload_n hC dX3_tellLoss_139 rfl ?_
          refine v_ldcS hC sr_X3_47 dX3_tellLoss_140 ?_
          obtain ⟨v_83, v_85, v_86, v_88, v_90, v_91, e_82, b_84, b_87, b_89⟩ := hW_78.at m_1 t_2
          refine v_vv hC (rest := []) m_1 e_82 rfl mi_X7_takeWord ms_X7_takeWord (p_X7_takeWord hW_78 k_1 (by decide)) mx_X7_takeWord ml_X3_70 (by decide) rfl (cells1 := 0) (slots1 := 0) (by decide) (by decide) (Nat.le_of_ble_eq_true rfl) (Nat.le_of_ble_eq_true rfl) rfl (Nat.le_of_ble_eq_true rfl) dX3_tellLoss_142 (fun L_93 f_94 h_95 => ?_)
          obtain ⟨rfl, hW_96, hF_97⟩ := h_95
          have hf_98 := hF_97.at hf_80 rfl
          refine v_aload_n hC dX3_tellLoss_145 rfl ?_
          refine v_aload_n hC dX3_tellLoss_146 rfl ?_
          refine v_vv hC (rest := []) m_42 hf_98 rfl mi_X3_tellStretch ms_X3_tellStretch (p_X3_tellStretch hW_96 k_0 k_1) mx_X3_tellStretch ml_X3_74 (by decide) rfl (cells1 := 0) (slots1 := 0) (by decide) (by decide) (Nat.le_of_ble_eq_true rfl) (Nat.le_of_ble_eq_true rfl) rfl (Nat.le_of_ble_eq_true rfl) dX3_tellLoss_147 (fun L_100 f_101 h_102 => ?_)
          obtain ⟨rfl, hW_103, hF_104⟩ := h_102
          have hf_105 := hF_104.at hf_98 rfl
          refine v_aload_n hC dX3_tellLoss_150 rfl ?_
          obtain ⟨v_107, v_109, v_110, v_112, v_114, v_115, e_106, b_108, b_111, b_113⟩ := hW_103.at m_1 t_2
          refine v_vv hC (rest := []) m_1 e_106 rfl mi_X7_takeSemicolon ms_X7_takeSemicolon (p_X7_takeSemicolon hW_103 k_1) mx_X7_takeSemicolon ml_X3_77 (by decide) rfl (cells1 := 0) (slots1 := 0) (by decide) (by decide) (Nat.le_of_ble_eq_true rfl) (Nat.le_of_ble_eq_true rfl) rfl (Nat.le_of_ble_eq_true rfl) dX3_tellLoss_151 (fun L_117 f_118 h_119 => ?_)
          obtain ⟨rfl, hW_120, hF_121⟩ := h_119
          have hf_122 := hF_121.at hf_105 rfl
          refine v_aload_n hC dX3_tellLoss_154 rfl ?_
          refine v_dup hC dX3_tellLoss_155 rfl ?_
          refine v_get hC fl_X3_27 m_42 hf_122 rfl dX3_tellLoss_156 ?_
          refine v_iconst hC dX3_tellLoss_159 (v := 1) (by decide) ?_
          obtain ⟨v_123, h_124⟩ : ∃ v9 : Int32, v_51 + 1 = v9 := ⟨_, rfl⟩
          refine v_iadd hC dX3_tellLoss_160 h_124 ?_
          have h_125 := add_v h_124 (by first | omega | (simp only [Int32.lt_iff_toInt_lt, Int32.le_iff_toInt_le, Int32.reduceToInt, ← Int32.toInt_inj, true_and, and_true, or_true, true_or, false_or, or_false, false_and, and_false, not_true_eq_false, not_false_eq_true] <;> omega)) (by first | omega | (simp only [Int32.lt_iff_toInt_lt, Int32.le_iff_toInt_le, Int32.reduceToInt, ← Int32.toInt_inj, true_and, and_true, or_true, true_or, false_or, or_false, false_and, and_false, not_true_eq_false, not_false_eq_true] <;> omega))
          try simp only [Int32.reduceToInt] at h_125
          refine v_put hC fl_X3_27 m_42 hf_122 rfl rfl (Nat.le_of_ble_eq_true rfl) (fs' := [.ref q_44, .ref q_45, .ref q_46, .int v_123]) rfl dX3_tellLoss_161 (fun f_126 hf_127 hk_128 => ?_)
          have hW_129 := hW_120.up hf_127 hk_128 t_43 ⟨v_123, rfl, (by first | omega | (simp only [Int32.lt_iff_toInt_lt, Int32.le_iff_toInt_le, Int32.reduceToInt, ← Int32.toInt_inj, true_and, and_true, or_true, true_or, false_or, or_false, false_and, and_false, not_true_eq_false, not_false_eq_true] <;> omega))⟩
          have fr_130 := FR.w hk_128 hf_122 (k := 3) rfl
          exact hR _ _ _ _ _ _ dX3_tellLoss_164 (Nat.le_of_ble_eq_true rfl) (Nat.le_of_ble_eq_true rfl) ⟨rfl, hW_129, ((((((hF_60.tr hF_79).tr hF_97).tr hF_104).tr hF_121).tr fr_130).mono rfl)⟩
        · simp only [Int32.lt_iff_toInt_lt, Int32.le_iff_toInt_le, Int32.reduceToInt, ← Int32.toInt_inj] at h_81
          refine v_aload_n hC dX3_tellLoss_126 rfl ?_
          refine v_get hC fl_X3_9 m_42 hf_80 rfl dX3_tellLoss_127 ?_
          refine v_aload_n hC dX3_tellLoss_130 rfl ?_
          refine v_get hC fl_X3_27 m_42 hf_80 rfl dX3_tellLoss_131 ?_
          refine v_iconst hC dX3_tellLoss_134 (v := 3) (by decide) ?_
          obtain ⟨m_131, t_132⟩ := id k_47
          obtain ⟨g_134, e_133⟩ := hW_78.at m_131 t_132
          refine v_iast hC m_131 e_133 (vp_in_iff.mpr (by first | omega | (simp only [Int32.lt_iff_toInt_lt, Int32.le_iff_toInt_le, Int32.reduceToInt, ← Int32.toInt_inj, true_and, and_true, or_true, true_or, false_or, or_false, false_and, and_false, not_true_eq_false, not_false_eq_true] <;> omega))) dX3_tellLoss_135 (fun f_135 hf_136 hk_137 => ?_)
          have hW_139 := hW_78.up hf_136 hk_137 t_132 ⟨_, rfl⟩
          obtain ⟨g_138, hf_136⟩ : ∃ g9, f_135 q_44 = aI E 12 g9 := ⟨_, hf_136⟩
          have hf_140 := (hk_137 a_0 (ne_kd hf_80 e_133 rfl)).trans hf_80
          have fr_141 := FR.w hk_137 e_133 (k := 112) rfl
          refine v_goto hC dX3_tellLoss_136 (tgt := 150) (by decide) ?_
          refine v_aload_n hC dX3_tellLoss_150 rfl ?_
          obtain ⟨v_143, v_145, v_146, v_148, v_150, v_151, e_142, b_144, b_147, b_149⟩ := hW_139.at m_1 t_2
          refine v_vv hC (rest := []) m_1 e_142 rfl mi_X7_takeSemicolon ms_X7_takeSemicolon (p_X7_takeSemicolon hW_139 k_1) mx_X7_takeSemicolon ml_X3_77 (by decide) rfl (cells1 := 0) (slots1 := 0) (by decide) (by decide) (Nat.le_of_ble_eq_true rfl) (Nat.le_of_ble_eq_true rfl) rfl (Nat.le_of_ble_eq_true rfl) dX3_tellLoss_151 (fun L_153 f_154 h_155 => ?_)
          obtain ⟨rfl, hW_156, hF_157⟩ := h_155
          have hf_158 := hF_157.at hf_140 rfl
          have hf_159 := hF_157.at hf_136 rfl
          refine v_aload_n hC dX3_tellLoss_154 rfl ?_
          refine v_dup hC dX3_tellLoss_155 rfl ?_
          refine v_get hC fl_X3_27 m_42 hf_158 rfl dX3_tellLoss_156 ?_
          refine v_iconst hC dX3_tellLoss_159 (v := 1) (by decide) ?_
          obtain ⟨v_160, h_161⟩ : ∃ v9 : Int32, v_51 + 1 = v9 := ⟨_, rfl⟩
          refine v_iadd hC dX3_tellLoss_160 h_161 ?_
          have h_162 := add_v h_161 (by first | omega | (simp only [Int32.lt_iff_toInt_lt, Int32.le_iff_toInt_le, Int32.reduceToInt, ← Int32.toInt_inj, true_and, and_true, or_true, true_or, false_or, or_false, false_and, and_false, not_true_eq_false, not_false_eq_true] <;> omega)) (by first | omega | (simp only [Int32.lt_iff_toInt_lt, Int32.le_iff_toInt_le, Int32.reduceToInt, ← Int32.toInt_inj, true_and, and_true, or_true, true_or, false_or, or_false, false_and, and_false, not_true_eq_false, not_false_eq_true] <;> omega))
          try simp only [Int32.reduceToInt] at h_162
          refine v_put hC fl_X3_27 m_42 hf_158 rfl rfl (Nat.le_of_ble_eq_true rfl) (fs' := [.ref q_44, .ref q_45, .ref q_46, .int v_160]) rfl dX3_tellLoss_161 (fun f_163 hf_164 hk_165 => ?_)
          have hW_166 := hW_156.up hf_164 hk_165 t_43 ⟨v_160, rfl, (by first | omega | (simp only [Int32.lt_iff_toInt_lt, Int32.le_iff_toInt_le, Int32.reduceToInt, ← Int32.toInt_inj, true_and, and_true, or_true, true_or, false_or, or_false, false_and, and_false, not_true_eq_false, not_false_eq_true] <;> omega))⟩
          have hf_167 := (hk_165 q_44 (ne_kd hf_159 hf_158 rfl)).trans hf_159
          have fr_168 := FR.w hk_165 hf_158 (k := 3) rfl
          exact hR _ _ _ _ _ _ dX3_tellLoss_164 (Nat.le_of_ble_eq_true rfl) (Nat.le_of_ble_eq_true rfl) ⟨rfl, hW_166, (((((hF_60.tr hF_79).tr fr_141).tr hF_157).tr fr_168).mono rfl)⟩
      · simp only [Int32.lt_iff_toInt_lt, Int32.le_iff_toInt_le, Int32.reduceToInt, ← Int32.toInt_inj] at h_62
        refine v_aload_n hC dX3_tellLoss_65 rfl ?_
        refine v_get hC fl_X3_9 m_42 hf_61 rfl dX3_tellLoss_66 ?_
        refine v_aload_n hC dX3_tellLoss_69 rfl ?_
        refine v_get hC fl_X3_27 m_42 hf_61 rfl dX3_tellLoss_70 ?_
        refine v_iconst hC dX3_tellLoss_73 (v := 2) (by decide) ?_
        obtain ⟨m_169, t_170⟩ := id k_47
        obtain ⟨g_172, e_171⟩ := hW_59.at m_169 t_170
        refine v_iast hC m_169 e_171 (vp_in_iff.mpr (by first | omega | (simp only [Int32.lt_iff_toInt_lt, Int32.le_iff_toInt_le, Int32.reduceToInt, ← Int32.toInt_inj, true_and, and_true, or_true, true_or, false_or, or_false, false_and, and_false, not_true_eq_false, not_false_eq_true] <;> omega))) dX3_tellLoss_74 (fun f_173 hf_174 hk_175 => ?_)
        have hW_177 := hW_59.up hf_174 hk_175 t_170 ⟨_, rfl⟩
        obtain ⟨g_176, hf_174⟩ : ∃ g9, f_173 q_44 = aI E 12 g9 := ⟨_, hf_174⟩
        have hf_178 := (hk_175 a_0 (ne_kd hf_61 e_171 rfl)).trans hf_61
        have fr_179 := FR.w hk_175 e_171 (k := 112) rfl
        refine v_aload_n hC dX3_tellLoss_75 rfl ?_
        refine v_get hC fl_X3_15 m_42 hf_178 rfl dX3_tellLoss_76 ?_
        refine v_aload_n hC dX3_tellLoss_79 rfl ?_
        refine v_get hC fl_X3_27 m_42 hf_178 rfl dX3_tellLoss_80 ?_
        refine v_aload_n hC dX3_tellLoss_83 rfl ?_
        refine v_iconst hC dX3_tellLoss_84 (v := 1) (by decide) ?_
        refine v_bipush hC dX3_tellLoss_85 (v := 99) (by decide) ?_
        obtain ⟨v_181, v_183, v_184, v_186, v_188, v_189, e_180, b_182, b_185, b_187⟩ := hW_177.at m_1 t_2
        refine v_vi hC (rest := [.int v_51, .ref q_45]) m_1 e_180 rfl mi_X7_takeNumber ms_X7_takeNumber (p_X7_takeNumber hW_177 k_1) mx_X7_takeNumber ml_X3_64 (by decide) rfl (cells1 := 0) (slots1 := 0) (by decide) (by decide) (Nat.le_of_ble_eq_true rfl) (Nat.le_of_ble_eq_true rfl) rfl (Nat.le_of_ble_eq_true rfl) dX3_tellLoss_87 (fun r_190 L_191 f_192 h_193 => ?_)
        obtain ⟨rfl, hW_195, hF_196, x_194⟩ := h_193
        have hf_197 := hF_196.at hf_178 rfl
        have hf_198 := hF_196.at hf_174 rfl
        try simp only [Int32.reduceToInt, Int64.reduceToInt] at x_194
        obtain ⟨m_199, t_200⟩ := id k_48
        obtain ⟨g_202, e_201⟩ := hW_195.at m_199 t_200
        refine v_iast hC m_199 e_201 (vp_in_iff.mpr (by first | omega | (simp only [Int32.lt_iff_toInt_lt, Int32.le_iff_toInt_le, Int32.reduceToInt, ← Int32.toInt_inj, true_and, and_true, or_true, true_or, false_or, or_false, false_and, and_false, not_true_eq_false, not_false_eq_true] <;> omega))) dX3_tellLoss_90 (fun f_203 hf_204 hk_205 => ?_)
        have hW_207 := hW_195.up hf_204 hk_205 t_200 ⟨_, rfl⟩
        obtain ⟨g_206, hf_204⟩ : ∃ g9, f_203 q_45 = aI E 12 g9 := ⟨_, hf_204⟩
        have hf_208 := (hk_205 a_0 (ne_kd hf_197 e_201 rfl)).trans hf_197
        have fr_209 := FR.w hk_205 e_201 (k := 112) rfl
        refine v_aload_n hC dX3_tellLoss_91 rfl ?_
        refine v_ldcS hC sr_X3_68 dX3_tellLoss_92 ?_
        obtain ⟨v_211, v_213, v_214, v_216, v_218, v_219, e_210, b_212, b_215, b_217⟩ := hW_207.at m_1 t_2
        refine v_vv hC (rest := []) m_1 e_210 rfl mi_X7_takeWord ms_X7_takeWord (p_X7_takeWord hW_207 k_1 (by decide)) mx_X7_takeWord ml_X3_70 (by decide) rfl (cells1 := 0) (slots1 := 0) (by decide) (by decide) (Nat.le_of_ble_eq_true rfl) (Nat.le_of_ble_eq_true rfl) rfl (Nat.le_of_ble_eq_true rfl) dX3_tellLoss_94 (fun L_221 f_222 h_223 => ?_)
        obtain ⟨rfl, hW_224, hF_225⟩ := h_223
        have hf_226 := hF_225.at hf_208 rfl
        have hf_227 := hF_225.at hf_204 rfl
        refine v_aload_n hC dX3_tellLoss_97 rfl ?_
        refine v_get hC fl_X3_18 m_42 hf_226 rfl dX3_tellLoss_98 ?_
        refine v_aload_n hC dX3_tellLoss_101 rfl ?_
        refine v_get hC fl_X3_27 m_42 hf_226 rfl dX3_tellLoss_102 ?_
        refine v_aload_n hC dX3_tellLoss_105 rfl ?_
        refine v_iconst hC dX3_tellLoss_106 (v := 0) (by decide) ?_
        refine v_sipush hC dX3_tellLoss_107 (v := 255) (by decide) ?_
        obtain ⟨v_229, v_231, v_232, v_234, v_236, v_237, e_228, b_230, b_233, b_235⟩ := hW_224.at m_1 t_2
        refine v_vi hC (rest := [.int v_51, .ref q_46]) m_1 e_228 rfl mi_X7_takeNumber ms_X7_takeNumber (p_X7_takeNumber hW_224 k_1) mx_X7_takeNumber ml_X3_64 (by decide) rfl (cells1 := 0) (slots1 := 0) (by decide) (by decide) (Nat.le_of_ble_eq_true rfl) (Nat.le_of_ble_eq_true rfl) rfl (Nat.le_of_ble_eq_true rfl) dX3_tellLoss_110 (fun r_238 L_239 f_240 h_241 => ?_)
        obtain ⟨rfl, hW_243, hF_244, x_242⟩ := h_241
        have hf_245 := hF_244.at hf_226 rfl
        have hf_246 := hF_244.at hf_227 rfl
        try simp only [Int32.reduceToInt, Int64.reduceToInt] at x_242
        obtain ⟨m_247, t_248⟩ := id k_49
        obtain ⟨g_250, e_249⟩ := hW_243.at m_247 t_248
        refine v_iast hC m_247 e_249 (vp_in_iff.mpr (by first | omega | (simp only [Int32.lt_iff_toInt_lt, Int32.le_iff_toInt_le, Int32.reduceToInt, ← Int32.toInt_inj, true_and, and_true, or_true, true_or, false_or, or_false, false_and, and_false, not_true_eq_false, not_false_eq_true] <;> omega))) dX3_tellLoss_113 (fun f_251 hf_252 hk_253 => ?_)
        have hW_255 := hW_243.up hf_252 hk_253 t_248 ⟨_, rfl⟩
        obtain ⟨g_254, hf_252⟩ : ∃ g9, f_251 q_46 = aI E 12 g9 := ⟨_, hf_252⟩
        have hf_256 := (hk_253 a_0 (ne_kd hf_245 e_249 rfl)).trans hf_245
        have fr_257 := FR.w hk_253 e_249 (k := 112) rfl
        refine v_goto hC dX3_tellLoss_114 (tgt := 150) (by decide) ?_
        refine v_aload_n hC dX3_tellLoss_150 rfl ?_
        obtain ⟨v_259, v_261, v_262, v_264, v_266, v_267, e_258, b_260, b_263, b_265⟩ := hW_255.at m_1 t_2
        refine v_vv hC (rest := []) m_1 e_258 rfl mi_X7_takeSemicolon ms_X7_takeSemicolon (p_X7_takeSemicolon hW_255 k_1) mx_X7_takeSemicolon ml_X3_77 (by decide) rfl (cells1 := 0) (slots1 := 0) (by decide) (by decide) (Nat.le_of_ble_eq_true rfl) (Nat.le_of_ble_eq_true rfl) rfl (Nat.le_of_ble_eq_true rfl) dX3_tellLoss_151 (fun L_269 f_270 h_271 => ?_)
        obtain ⟨rfl, hW_272, hF_273⟩ := h_271
        have hf_274 := hF_273.at hf_256 rfl
        have hf_275 := hF_273.at hf_252 rfl
        refine v_aload_n hC dX3_tellLoss_154 rfl ?_
        refine v_dup hC dX3_tellLoss_155 rfl ?_
        refine v_get hC fl_X3_27 m_42 hf_274 rfl dX3_tellLoss_156 ?_
        refine v_iconst hC dX3_tellLoss_159 (v := 1) (by decide) ?_
        obtain ⟨v_276, h_277⟩ : ∃ v9 : Int32, v_51 + 1 = v9 := ⟨_, rfl⟩
        refine v_iadd hC dX3_tellLoss_160 h_277 ?_
        have h_278 := add_v h_277 (by first | omega | (simp only [Int32.lt_iff_toInt_lt, Int32.le_iff_toInt_le, Int32.reduceToInt, ← Int32.toInt_inj, true_and, and_true, or_true, true_or, false_or, or_false, false_and, and_false, not_true_eq_false, not_false_eq_true] <;> omega)) (by first | omega | (simp only [Int32.lt_iff_toInt_lt, Int32.le_iff_toInt_le, Int32.reduceToInt, ← Int32.toInt_inj, true_and, and_true, or_true, true_or, false_or, or_false, false_and, and_false, not_true_eq_false, not_false_eq_true] <;> omega))
        try simp only [Int32.reduceToInt] at h_278
        refine v_put hC fl_X3_27 m_42 hf_274 rfl rfl (Nat.le_of_ble_eq_true rfl) (fs' := [.ref q_44, .ref q_45, .ref q_46, .int v_276]) rfl dX3_tellLoss_161 (fun f_279 hf_280 hk_281 => ?_)
        have hW_282 := hW_272.up hf_280 hk_281 t_43 ⟨v_276, rfl, (by first | omega | (simp only [Int32.lt_iff_toInt_lt, Int32.le_iff_toInt_le, Int32.reduceToInt, ← Int32.toInt_inj, true_and, and_true, or_true, true_or, false_or, or_false, false_and, and_false, not_true_eq_false, not_false_eq_true] <;> omega))⟩
        have hf_283 := (hk_281 q_46 (ne_kd hf_275 hf_274 rfl)).trans hf_275
        have fr_284 := FR.w hk_281 hf_274 (k := 3) rfl
        exact hR _ _ _ _ _ _ dX3_tellLoss_164 (Nat.le_of_ble_eq_true rfl) (Nat.le_of_ble_eq_true rfl) ⟨rfl, hW_282, (((((((((hF_60.tr fr_179).tr hF_196).tr fr_209).tr hF_225).tr hF_244).tr fr_257).tr hF_273).tr fr_284).mono rfl)⟩
    · simp only [Int32.lt_iff_toInt_lt, Int32.le_iff_toInt_le, Int32.reduceToInt, ← Int32.toInt_inj] at h_53
      refine v_aload_n hC dX3_tellLoss_42 rfl ?_
      refine v_iload_n hC dX3_tellLoss_43 rfl ?_
      refine v_if_eq hC dX3_tellLoss_44 (tgt := 51) (by decide) (fun h_285 => ?_) (fun h_285 => ?_)
      · simp only [Int32.lt_iff_toInt_lt, Int32.le_iff_toInt_le, Int32.reduceToInt, ← Int32.toInt_inj] at h_285
        refine v_iconst hC dX3_tellLoss_51 (v := 1) (by decide) ?_
        refine v_vv hC (rest := []) m_1 e_5 rfl mi_X7_complain ms_X7_complain (p_X7_complain hW k_1) mx_X7_complain ml_X3_57 (by decide) rfl (cells1 := 0) (slots1 := 0) (by decide) (by decide) (Nat.le_of_ble_eq_true rfl) (Nat.le_of_ble_eq_true rfl) rfl (Nat.le_of_ble_eq_true rfl) dX3_tellLoss_52 (fun L_287 f_288 h_289 => ?_)
        obtain ⟨rfl, hW_290, hF_291⟩ := h_289
        have hf_292 := hF_291.at e_50 rfl
        exact hR _ _ _ _ _ _ dX3_tellLoss_55 (Nat.le_of_ble_eq_true rfl) (Nat.le_of_ble_eq_true rfl) ⟨rfl, hW_290, (hF_291.mono rfl)⟩
      · simp only [Int32.lt_iff_toInt_lt, Int32.le_iff_toInt_le, Int32.reduceToInt, ← Int32.toInt_inj] at h_285
        refine v_iconst hC dX3_tellLoss_47 (v := 3) (by decide) ?_
        refine v_goto hC dX3_tellLoss_48 (tgt := 52) (by decide) ?_
        refine v_vv hC (rest := []) m_1 e_5 rfl mi_X7_complain ms_X7_complain (p_X7_complain hW k_1) mx_X7_complain ml_X3_57 (by decide) rfl (cells1 := 0) (slots1 := 0) (by decide) (by decide) (Nat.le_of_ble_eq_true rfl) (Nat.le_of_ble_eq_true rfl) rfl (Nat.le_of_ble_eq_true rfl) dX3_tellLoss_52 (fun L_294 f_295 h_296 => ?_)
        obtain ⟨rfl, hW_297, hF_298⟩ := h_296
        have hf_299 := hF_298.at e_50 rfl
        exact hR _ _ _ _ _ _ dX3_tellLoss_55 (Nat.le_of_ble_eq_true rfl) (Nat.le_of_ble_eq_true rfl) ⟨rfl, hW_297, (hF_298.mono rfl)⟩
  refine v_if_ne hC dX3_tellLoss_6 (tgt := 27) (by decide) (fun h_22 => ?_) (fun h_22 => ?_)
  · simp only [Int32.lt_iff_toInt_lt, Int32.le_iff_toInt_le, Int32.reduceToInt, ← Int32.toInt_inj] at h_22
    refine v_iconst hC dX3_tellLoss_27 (v := 1) (by decide) ?_
    refine v_goto hC dX3_tellLoss_28 (tgt := 32) (by decide) ?_
    refine v_pick [0, 1] rfl ?_
    exact jn_39 1 (by decide)
  · simp only [Int32.lt_iff_toInt_lt, Int32.le_iff_toInt_le, Int32.reduceToInt, ← Int32.toInt_inj] at h_22
    refine v_aload_n hC dX3_tellLoss_9 rfl ?_
    refine v_ldcS hC sr_X3_53 dX3_tellLoss_10 ?_
    refine v_vi hC (rest := []) m_1 e_5 rfl mi_X7_isWord ms_X7_isWord (p_X7_isWord hW k_1 (by decide)) mx_X7_isWord ml_X3_49 (by decide) rfl (cells1 := 0) (slots1 := 0) (by decide) (by decide) (Nat.le_of_ble_eq_true rfl) (Nat.le_of_ble_eq_true rfl) rfl (Nat.le_of_ble_eq_true rfl) dX3_tellLoss_12 (fun r_300 L_301 f_302 h_303 => ?_)
    obtain ⟨rfl, rfl, b_304⟩ := h_303
    refine v_if_ne hC dX3_tellLoss_15 (tgt := 27) (by decide) (fun h_307 => ?_) (fun h_307 => ?_)
    · simp only [Int32.lt_iff_toInt_lt, Int32.le_iff_toInt_le, Int32.reduceToInt, ← Int32.toInt_inj] at h_307
      refine v_iconst hC dX3_tellLoss_27 (v := 1) (by decide) ?_
      refine v_goto hC dX3_tellLoss_28 (tgt := 32) (by decide) ?_
      refine v_pick [0, 1] rfl ?_
      exact jn_39 1 (by decide)
    · simp only [Int32.lt_iff_toInt_lt, Int32.le_iff_toInt_le, Int32.reduceToInt, ← Int32.toInt_inj] at h_307
      refine v_aload_n hC dX3_tellLoss_18 rfl ?_
      refine v_ldcS hC sr_X3_55 dX3_tellLoss_19 ?_
      refine v_vi hC (rest := []) m_1 e_5 rfl mi_X7_isWord ms_X7_isWord (p_X7_isWord hW k_1 (by decide)) mx_X7_isWord ml_X3_49 (by decide) rfl (cells1 := 0) (slots1 := 0) (by decide) (by decide) (Nat.le_of_ble_eq_true rfl) (Nat.le_of_ble_eq_true rfl) rfl (Nat.le_of_ble_eq_true rfl) dX3_tellLoss_21 (fun r_308 L_309 f_310 h_311 => ?_)
      obtain ⟨rfl, rfl, b_312⟩ := h_311
      refine v_if_eq hC dX3_tellLoss_24 (tgt := 31) (by decide) (fun h_315 => ?_) (fun h_315 => ?_)
      · simp only [Int32.lt_iff_toInt_lt, Int32.le_iff_toInt_le, Int32.reduceToInt, ← Int32.toInt_inj] at h_315
        refine v_iconst hC dX3_tellLoss_31 (v := 0) (by decide) ?_
        refine v_pick [0, 1] rfl ?_
        exact jn_39 0 (by decide)
      · simp only [Int32.lt_iff_toInt_lt, Int32.le_iff_toInt_le, Int32.reduceToInt, ← Int32.toInt_inj] at h_315
        refine v_iconst hC dX3_tellLoss_27 (v := 1) (by decide) ?_
        refine v_goto hC dX3_tellLoss_28 (tgt := 32) (by decide) ?_
        refine v_pick [0, 1] rfl ?_
        exact jn_39 1 (by decide)
set_option maxRecDepth 100000 in
set_option maxHeartbeats 8000000 in
theorem p_X3_tell {l : Launch} {E : Ez} {L : List Nat} {f : Nat → va_E} {T : Nat → va_E → Prop} {a_0 : Nat} {a_1 : Nat} (hW : WT T L f) (k_0 : isLos T L E a_0) (k_1 : isTape T L E a_1) : CI l yX3_tell cX3_tell 3 .boolean 8 0 0 E [.ref a_0, .ref a_1] L f (fun r L1 f1 => L = L1 ∧ WT T L f1 ∧ FR [3, 7, 112] f f1 ∧ (0 ≤ r.toInt ∧ r.toInt ≤ 1)) := by
  refine ci_of (by decide) (Nat.le_of_ble_eq_true rfl) (fun z hz hnm hC hR => ?_)
  have hC : Cx z E cX3_tell RX3 3 8 0 0 := hC
  subst hz
  show V z E 3 0 0 L f 0 [(0, .ref a_0), (1, .ref a_1)] []
  refine v_aload_n hC dX3_tell_0 rfl ?_
  obtain ⟨m_1, q_3, t_2, k_4⟩ := id k_1
  obtain ⟨v_6, v_8, v_9, v_11, v_13, v_14, e_5, b_7, b_10, b_12⟩ := hW.at m_1 t_2
  refine v_vv hC (rest := []) m_1 e_5 rfl mi_X7_start ms_X7_start (p_X7_start hW k_1) mx_X7_start ml_X3_31 (by decide) rfl (cells1 := 0) (slots1 := 0) (by decide) (by decide) (Nat.le_of_ble_eq_true rfl) (Nat.le_of_ble_eq_true rfl) rfl (Nat.le_of_ble_eq_true rfl) dX3_tell_1 (fun L_16 f_17 h_18 => ?_)
  obtain ⟨rfl, hW_19, hF_20⟩ := h_18
  refine v_aload_n hC dX3_tell_4 rfl ?_
  refine v_iconst hC dX3_tell_5 (v := 0) (by decide) ?_
  obtain ⟨m_21, q_23, q_24, q_25, t_22, k_26, k_27, k_28⟩ := id k_0
  obtain ⟨v_30, e_29, b_31⟩ := hW_19.at m_21 t_22
  refine v_put hC fl_X3_27 m_21 e_29 rfl rfl (Nat.le_of_ble_eq_true rfl) (fs' := [.ref q_23, .ref q_24, .ref q_25, .int 0]) rfl dX3_tell_6 (fun f_32 hf_33 hk_34 => ?_)
  have hW_35 := hW_19.up hf_33 hk_34 t_22 ⟨0, rfl, (by decide)⟩
  have fr_36 := FR.w hk_34 e_29 (k := 3) rfl
  refine v_iconst hC dX3_tell_9 (v := 0) (by decide) ?_
  refine v_istore_n hC dX3_tell_10 (by decide) (lv' := [(2, .int 0), (0, .ref a_0), (1, .ref a_1)]) rfl ?_
  have lp_278 : ∀ (n_279 : Nat) (f_274 : Nat → va_E) (hW_275 : WT T L f_274) (hF_276 : FR [3, 7, 112] f_32 f_274) (i_273 : Int32) (b_277 : (0 ≤ i_273.toInt ∧ i_273.toInt ≤ 13)) (hm_281 : 13 - i_273.toInt < (n_279 : Int)), V z E 3 0 0 L f_274 11 [(2, .int i_273), (0, .ref a_0), (1, .ref a_1)] [] := by
    intro n_279
    induction n_279 with
    | zero =>
      intro f_274 hW_275 hF_276 i_273 b_277 hm_281
      exfalso; omega
    | succ n_279 ih_280 =>
      intro f_274 hW_275 hF_276 i_273 b_277 hm_281
      refine v_iload_n hC dX3_tell_11 rfl ?_
      refine v_bipush hC dX3_tell_12 (v := 12) (by decide) ?_
      refine v_icmp_gt hC dX3_tell_14 (tgt := 35) (by decide) (fun h_282 => ?_) (fun h_282 => ?_)
      · simp only [Int32.lt_iff_toInt_lt, Int32.le_iff_toInt_le, Int32.reduceToInt, ← Int32.toInt_inj] at h_282
        refine v_aload_n hC dX3_tell_35 rfl ?_
        obtain ⟨v_284, v_286, v_287, v_289, v_291, v_292, e_283, b_285, b_288, b_290⟩ := hW_275.at m_1 t_2
        refine v_vi hC (rest := []) m_1 e_283 rfl mi_X7_isFine ms_X7_isFine (p_X7_isFine hW_275 k_1) mx_X7_isFine ml_X3_44 (by decide) rfl (cells1 := 0) (slots1 := 0) (by decide) (by decide) (Nat.le_of_ble_eq_true rfl) (Nat.le_of_ble_eq_true rfl) rfl (Nat.le_of_ble_eq_true rfl) dX3_tell_36 (fun r_293 L_294 f_295 h_296 => ?_)
        obtain ⟨rfl, rfl, b_297⟩ := h_296
        exact hR _ _ _ _ _ _ _ dX3_tell_39 (nar01 (by first | omega | (simp only [Int32.lt_iff_toInt_lt, Int32.le_iff_toInt_le, Int32.reduceToInt, ← Int32.toInt_inj, true_and, and_true, or_true, true_or, false_or, or_false, false_and, and_false, not_true_eq_false, not_false_eq_true] <;> omega))) (Nat.le_of_ble_eq_true rfl) (Nat.le_of_ble_eq_true rfl) ⟨rfl, hW_275, (((hF_20.tr fr_36).tr hF_276).mono rfl), (by first | omega | (simp only [Int32.lt_iff_toInt_lt, Int32.le_iff_toInt_le, Int32.reduceToInt, ← Int32.toInt_inj, true_and, and_true, or_true, true_or, false_or, or_false, false_and, and_false, not_true_eq_false, not_false_eq_true] <;> omega))⟩
      · simp only [Int32.lt_iff_toInt_lt, Int32.le_iff_toInt_le, Int32.reduceToInt, ← Int32.toInt_inj] at h_282
        refine v_aload_n hC dX3_tell_17 rfl ?_
        obtain ⟨v_301, v_303, v_304, v_306, v_308, v_309, e_300, b_302, b_305, b_307⟩ := hW_275.at m_1 t_2
        refine v_vi hC (rest := []) m_1 e_300 rfl mi_X7_goesOn ms_X7_goesOn (p_X7_goesOn hW_275 k_1) mx_X7_goesOn ml_X3_36 (by decide) rfl (cells1 := 0) (slots1 := 0) (by decide) (by decide) (Nat.le_of_ble_eq_true rfl) (Nat.le_of_ble_eq_true rfl) rfl (Nat.le_of_ble_eq_true rfl) dX3_tell_18 (fun r_310 L_311 f_312 h_313 => ?_)
        obtain ⟨rfl, rfl, b_314⟩ := h_313
        refine v_if_eq hC dX3_tell_21 (tgt := 35) (by decide) (fun h_317 => ?_) (fun h_317 => ?_)
        · simp only [Int32.lt_iff_toInt_lt, Int32.le_iff_toInt_le, Int32.reduceToInt, ← Int32.toInt_inj] at h_317
          refine v_aload_n hC dX3_tell_35 rfl ?_
          refine v_vi hC (rest := []) m_1 e_300 rfl mi_X7_isFine ms_X7_isFine (p_X7_isFine hW_275 k_1) mx_X7_isFine ml_X3_44 (by decide) rfl (cells1 := 0) (slots1 := 0) (by decide) (by decide) (Nat.le_of_ble_eq_true rfl) (Nat.le_of_ble_eq_true rfl) rfl (Nat.le_of_ble_eq_true rfl) dX3_tell_36 (fun r_318 L_319 f_320 h_321 => ?_)
          obtain ⟨rfl, rfl, b_322⟩ := h_321
          exact hR _ _ _ _ _ _ _ dX3_tell_39 (nar01 (by first | omega | (simp only [Int32.lt_iff_toInt_lt, Int32.le_iff_toInt_le, Int32.reduceToInt, ← Int32.toInt_inj, true_and, and_true, or_true, true_or, false_or, or_false, false_and, and_false, not_true_eq_false, not_false_eq_true] <;> omega))) (Nat.le_of_ble_eq_true rfl) (Nat.le_of_ble_eq_true rfl) ⟨rfl, hW_275, (((hF_20.tr fr_36).tr hF_276).mono rfl), (by first | omega | (simp only [Int32.lt_iff_toInt_lt, Int32.le_iff_toInt_le, Int32.reduceToInt, ← Int32.toInt_inj, true_and, and_true, or_true, true_or, false_or, or_false, false_and, and_false, not_true_eq_false, not_false_eq_true] <;> omega))⟩
        · simp only [Int32.lt_iff_toInt_lt, Int32.le_iff_toInt_le, Int32.reduceToInt, ← Int32.toInt_inj] at h_317
          refine v_aload_n hC dX3_tell_24 rfl ?_
          refine v_aload_n hC dX3_tell_25 rfl ?_
          obtain ⟨v_326, e_325, b_327⟩ := hW_275.at m_21 t_22
          refine v_vv hC (rest := []) m_21 e_325 rfl mi_X3_tellLoss ms_X3_tellLoss (p_X3_tellLoss hW_275 k_0 k_1) mx_X3_tellLoss ml_X3_40 (by decide) rfl (cells1 := 0) (slots1 := 0) (by decide) (by decide) (Nat.le_of_ble_eq_true rfl) (Nat.le_of_ble_eq_true rfl) rfl (Nat.le_of_ble_eq_true rfl) dX3_tell_26 (fun L_329 f_330 h_331 => ?_)
          obtain ⟨rfl, hW_332, hF_333⟩ := h_331
          obtain ⟨v_334, h_335⟩ : ∃ v9 : Int32, i_273 + Int32.ofInt 1 = v9 := ⟨_, rfl⟩
          have h_336 := add_v (b := 1) h_335 (by first | omega | (simp only [Int32.lt_iff_toInt_lt, Int32.le_iff_toInt_le, Int32.reduceToInt, ← Int32.toInt_inj, true_and, and_true, or_true, true_or, false_or, or_false, false_and, and_false, not_true_eq_false, not_false_eq_true] <;> omega)) (by first | omega | (simp only [Int32.lt_iff_toInt_lt, Int32.le_iff_toInt_le, Int32.reduceToInt, ← Int32.toInt_inj, true_and, and_true, or_true, true_or, false_or, or_false, false_and, and_false, not_true_eq_false, not_false_eq_true] <;> omega))
          simp only [Int32.reduceToInt] at h_336
          refine v_iinc hC dX3_tell_29 (k := 0) rfl (v := v_334) h_335 (by decide) (lv' := [(2, .int v_334), (0, .ref a_0), (1, .ref a_1)]) rfl ?_
          refine v_goto hC dX3_tell_32 (tgt := 11) (by decide) ?_
          refine v_pick [0, 1, 2] rfl ?_
          exact ih_280 f_330 hW_332 ((hF_276.tr hF_333).mono rfl) v_334 (by first | omega | (simp only [Int32.lt_iff_toInt_lt, Int32.le_iff_toInt_le, Int32.reduceToInt, ← Int32.toInt_inj, true_and, and_true, or_true, true_or, false_or, or_false, false_and, and_false, not_true_eq_false, not_false_eq_true] <;> omega)) (by first | omega | (simp only [Int32.lt_iff_toInt_lt, Int32.le_iff_toInt_le, Int32.reduceToInt, ← Int32.toInt_inj, true_and, and_true, or_true, true_or, false_or, or_false, false_and, and_false, not_true_eq_false, not_false_eq_true] <;> omega))
  refine v_pick [0, 1, 2] rfl ?_
  exact lp_278 15 f_32 hW_35 FR.rf 0 (by decide) (by decide)
set_option maxRecDepth 100000 in
set_option maxHeartbeats 8000000 in
theorem p_X3_takes {l : Launch} {E : Ez} {L : List Nat} {f : Nat → va_E} {T : Nat → va_E → Prop} {a_0 : Nat} {a_1 : Int32} {a_2 : Int32} {a_3 : Nat} (hW : WT T L f) (k_0 : isLos T L E a_0) (k_3 : isPat T L E a_3) : CI l yX3_takes cX3_takes 6 .boolean 1 0 0 E [.ref a_0, .int a_1, .int a_2, .ref a_3] L f (fun r L1 f1 => L = L1 ∧ f = f1 ∧ (0 ≤ r.toInt ∧ r.toInt ≤ 1) ∧ (r.toInt = 0 ∨ (0 ≤ a_1.toInt ∧ a_1.toInt ≤ 11))) := by
  refine ci_of (by decide) (Nat.le_of_ble_eq_true rfl) (fun z hz hnm hC hR => ?_)
  have hC : Cx z E cX3_takes RX3 6 1 0 0 := hC
  subst hz
  show V z E 6 0 0 L f 0 [(0, .ref a_0), (1, .int a_1), (2, .int a_2), (3, .ref a_3)] []
  refine v_iload_n hC dX3_takes_0 rfl ?_
  refine v_if_lt hC dX3_takes_1 (tgt := 10) (by decide) (fun h_1 => ?_) (fun h_1 => ?_)
  · simp only [Int32.lt_iff_toInt_lt, Int32.le_iff_toInt_le, Int32.reduceToInt, ← Int32.toInt_inj] at h_1
    refine v_iconst hC dX3_takes_10 (v := 0) (by decide) ?_
    exact hR _ _ _ _ _ _ _ dX3_takes_11 rfl (Nat.le_of_ble_eq_true rfl) (Nat.le_of_ble_eq_true rfl) ⟨rfl, rfl, (by decide), (.inl (by decide))⟩
  · simp only [Int32.lt_iff_toInt_lt, Int32.le_iff_toInt_le, Int32.reduceToInt, ← Int32.toInt_inj] at h_1
    refine v_iload_n hC dX3_takes_4 rfl ?_
    refine v_bipush hC dX3_takes_5 (v := 12) (by decide) ?_
    refine v_icmp_lt hC dX3_takes_7 (tgt := 12) (by decide) (fun h_2 => ?_) (fun h_2 => ?_)
    · simp only [Int32.lt_iff_toInt_lt, Int32.le_iff_toInt_le, Int32.reduceToInt, ← Int32.toInt_inj] at h_2
      refine v_aload_n hC dX3_takes_12 rfl ?_
      obtain ⟨m_3, q_5, q_6, q_7, t_4, k_8, k_9, k_10⟩ := id k_0
      obtain ⟨v_12, e_11, b_13⟩ := hW.at m_3 t_4
      refine v_get hC fl_X3_15 m_3 e_11 rfl dX3_takes_13 ?_
      refine v_iload_n hC dX3_takes_16 rfl ?_
      obtain ⟨m_14, t_15⟩ := id k_9
      obtain ⟨g_17, e_16⟩ := hW.at m_14 t_15
      obtain ⟨v_18, h_19⟩ : ∃ v9 : Int32, g_17 (a_1 : Int32).toNatClampNeg = v9 := ⟨_, rfl⟩
      refine v_iald hC m_14 e_16 (vp_in_iff.mpr (by first | omega | (simp only [Int32.lt_iff_toInt_lt, Int32.le_iff_toInt_le, Int32.reduceToInt, ← Int32.toInt_inj, true_and, and_true, or_true, true_or, false_or, or_false, false_and, and_false, not_true_eq_false, not_false_eq_true] <;> omega))) h_19 dX3_takes_17 ?_
      refine v_istore hC dX3_takes_18 (by decide) (lv' := [(4, .int v_18), (0, .ref a_0), (1, .int a_1), (2, .int a_2), (3, .ref a_3)]) rfl ?_
      refine v_aload_n hC dX3_takes_20 rfl ?_
      refine v_get hC fl_X3_18 m_3 e_11 rfl dX3_takes_21 ?_
      refine v_iload_n hC dX3_takes_24 rfl ?_
      obtain ⟨m_20, t_21⟩ := id k_10
      obtain ⟨g_23, e_22⟩ := hW.at m_20 t_21
      obtain ⟨v_24, h_25⟩ : ∃ v9 : Int32, g_23 (a_1 : Int32).toNatClampNeg = v9 := ⟨_, rfl⟩
      refine v_iald hC m_20 e_22 (vp_in_iff.mpr (by first | omega | (simp only [Int32.lt_iff_toInt_lt, Int32.le_iff_toInt_le, Int32.reduceToInt, ← Int32.toInt_inj, true_and, and_true, or_true, true_or, false_or, or_false, false_and, and_false, not_true_eq_false, not_false_eq_true] <;> omega))) h_25 dX3_takes_25 ?_
      refine v_istore hC dX3_takes_26 (by decide) (lv' := [(5, .int v_24), (4, .int v_18), (0, .ref a_0), (1, .int a_1), (2, .int a_2), (3, .ref a_3)]) rfl ?_
      refine v_aload_n hC dX3_takes_28 rfl ?_
      refine v_get hC fl_X3_9 m_3 e_11 rfl dX3_takes_29 ?_
      refine v_iload_n hC dX3_takes_32 rfl ?_
      obtain ⟨m_26, t_27⟩ := id k_8
      obtain ⟨g_29, e_28⟩ := hW.at m_26 t_27
      obtain ⟨v_30, h_31⟩ : ∃ v9 : Int32, g_29 (a_1 : Int32).toNatClampNeg = v9 := ⟨_, rfl⟩
      refine v_iald hC m_26 e_28 (vp_in_iff.mpr (by first | omega | (simp only [Int32.lt_iff_toInt_lt, Int32.le_iff_toInt_le, Int32.reduceToInt, ← Int32.toInt_inj, true_and, and_true, or_true, true_or, false_or, or_false, false_and, and_false, not_true_eq_false, not_false_eq_true] <;> omega))) h_31 dX3_takes_33 ?_
      by_cases h_32 : v_30 = 0
      · refine v_tableIn hC dX3_takes_34 (off := 26) (tgt := 60) (by rw [h_32]; decide) (by rw [h_32]; decide) (by rw [h_32]; rfl) (by decide) ?_
        simp only [Int32.lt_iff_toInt_lt, Int32.le_iff_toInt_le, Int32.reduceToInt, ← Int32.toInt_inj] at h_32
        refine v_aload_n hC dX3_takes_60 rfl ?_
        refine v_iload_n hC dX3_takes_61 rfl ?_
        obtain ⟨m_35, q_37, q_38, t_36, k_39, k_40⟩ := id k_3
        obtain ⟨v_42, v_44, v_46, e_41, b_43, b_45, b_47⟩ := hW.at m_35 t_36
        refine v_vi hC (rest := []) m_35 e_41 rfl mi_X4_rowOf ms_X4_rowOf (p_X4_rowOf hW k_3) mx_X4_rowOf ml_X3_106 (by decide) rfl (cells1 := 0) (slots1 := 0) (by decide) (by decide) (Nat.le_of_ble_eq_true rfl) (Nat.le_of_ble_eq_true rfl) rfl (Nat.le_of_ble_eq_true rfl) dX3_takes_62 (fun r_48 L_49 f_50 h_51 => ?_)
        obtain ⟨rfl, rfl⟩ := h_51
        refine v_iload hC dX3_takes_65 rfl ?_
        refine v_icmp_lt hC dX3_takes_67 (tgt := 84) (by decide) (fun h_54 => ?_) (fun h_54 => ?_)
        · simp only [Int32.lt_iff_toInt_lt, Int32.le_iff_toInt_le, Int32.reduceToInt, ← Int32.toInt_inj] at h_54
          refine v_iconst hC dX3_takes_84 (v := 0) (by decide) ?_
          exact hR _ _ _ _ _ _ _ dX3_takes_85 rfl (Nat.le_of_ble_eq_true rfl) (Nat.le_of_ble_eq_true rfl) ⟨rfl, rfl, (by decide), (.inl (by decide))⟩
        · simp only [Int32.lt_iff_toInt_lt, Int32.le_iff_toInt_le, Int32.reduceToInt, ← Int32.toInt_inj] at h_54
          refine v_aload_n hC dX3_takes_70 rfl ?_
          refine v_iload_n hC dX3_takes_71 rfl ?_
          refine v_vi hC (rest := []) m_35 e_41 rfl mi_X4_rowOf ms_X4_rowOf (p_X4_rowOf hW k_3) mx_X4_rowOf ml_X3_106 (by decide) rfl (cells1 := 0) (slots1 := 0) (by decide) (by decide) (Nat.le_of_ble_eq_true rfl) (Nat.le_of_ble_eq_true rfl) rfl (Nat.le_of_ble_eq_true rfl) dX3_takes_72 (fun r_55 L_56 f_57 h_58 => ?_)
          obtain ⟨rfl, rfl⟩ := h_58
          refine v_iload hC dX3_takes_75 rfl ?_
          refine v_icmp_gt hC dX3_takes_77 (tgt := 84) (by decide) (fun h_61 => ?_) (fun h_61 => ?_)
          · simp only [Int32.lt_iff_toInt_lt, Int32.le_iff_toInt_le, Int32.reduceToInt, ← Int32.toInt_inj] at h_61
            refine v_iconst hC dX3_takes_84 (v := 0) (by decide) ?_
            exact hR _ _ _ _ _ _ _ dX3_takes_85 rfl (Nat.le_of_ble_eq_true rfl) (Nat.le_of_ble_eq_true rfl) ⟨rfl, rfl, (by decide), (.inl (by decide))⟩
          · simp only [Int32.lt_iff_toInt_lt, Int32.le_iff_toInt_le, Int32.reduceToInt, ← Int32.toInt_inj] at h_61
            refine v_iconst hC dX3_takes_80 (v := 1) (by decide) ?_
            refine v_goto hC dX3_takes_81 (tgt := 85) (by decide) ?_
            exact hR _ _ _ _ _ _ _ dX3_takes_85 rfl (Nat.le_of_ble_eq_true rfl) (Nat.le_of_ble_eq_true rfl) ⟨rfl, rfl, (by decide), (.inr (by first | omega | (simp only [Int32.lt_iff_toInt_lt, Int32.le_iff_toInt_le, Int32.reduceToInt, ← Int32.toInt_inj, true_and, and_true, or_true, true_or, false_or, or_false, false_and, and_false, not_true_eq_false, not_false_eq_true] <;> omega)))⟩
      by_cases h_33 : v_30 = 1
      · refine v_tableIn hC dX3_takes_34 (off := 52) (tgt := 86) (by rw [h_33]; decide) (by rw [h_33]; decide) (by rw [h_33]; rfl) (by decide) ?_
        simp only [Int32.lt_iff_toInt_lt, Int32.le_iff_toInt_le, Int32.reduceToInt, ← Int32.toInt_inj] at h_33
        refine v_aload_n hC dX3_takes_86 rfl ?_
        refine v_iload_n hC dX3_takes_87 rfl ?_
        obtain ⟨m_62, q_64, q_65, t_63, k_66, k_67⟩ := id k_3
        obtain ⟨v_69, v_71, v_73, e_68, b_70, b_72, b_74⟩ := hW.at m_62 t_63
        refine v_vi hC (rest := []) m_62 e_68 rfl mi_X4_columnOf ms_X4_columnOf (p_X4_columnOf hW k_3) mx_X4_columnOf ml_X3_109 (by decide) rfl (cells1 := 0) (slots1 := 0) (by decide) (by decide) (Nat.le_of_ble_eq_true rfl) (Nat.le_of_ble_eq_true rfl) rfl (Nat.le_of_ble_eq_true rfl) dX3_takes_88 (fun r_75 L_76 f_77 h_78 => ?_)
        obtain ⟨rfl, rfl⟩ := h_78
        refine v_iload hC dX3_takes_91 rfl ?_
        refine v_icmp_lt hC dX3_takes_93 (tgt := 110) (by decide) (fun h_81 => ?_) (fun h_81 => ?_)
        · simp only [Int32.lt_iff_toInt_lt, Int32.le_iff_toInt_le, Int32.reduceToInt, ← Int32.toInt_inj] at h_81
          refine v_iconst hC dX3_takes_110 (v := 0) (by decide) ?_
          exact hR _ _ _ _ _ _ _ dX3_takes_111 rfl (Nat.le_of_ble_eq_true rfl) (Nat.le_of_ble_eq_true rfl) ⟨rfl, rfl, (by decide), (.inl (by decide))⟩
        · simp only [Int32.lt_iff_toInt_lt, Int32.le_iff_toInt_le, Int32.reduceToInt, ← Int32.toInt_inj] at h_81
          refine v_aload_n hC dX3_takes_96 rfl ?_
          refine v_iload_n hC dX3_takes_97 rfl ?_
          refine v_vi hC (rest := []) m_62 e_68 rfl mi_X4_columnOf ms_X4_columnOf (p_X4_columnOf hW k_3) mx_X4_columnOf ml_X3_109 (by decide) rfl (cells1 := 0) (slots1 := 0) (by decide) (by decide) (Nat.le_of_ble_eq_true rfl) (Nat.le_of_ble_eq_true rfl) rfl (Nat.le_of_ble_eq_true rfl) dX3_takes_98 (fun r_82 L_83 f_84 h_85 => ?_)
          obtain ⟨rfl, rfl⟩ := h_85
          refine v_iload hC dX3_takes_101 rfl ?_
          refine v_icmp_gt hC dX3_takes_103 (tgt := 110) (by decide) (fun h_88 => ?_) (fun h_88 => ?_)
          · simp only [Int32.lt_iff_toInt_lt, Int32.le_iff_toInt_le, Int32.reduceToInt, ← Int32.toInt_inj] at h_88
            refine v_iconst hC dX3_takes_110 (v := 0) (by decide) ?_
            exact hR _ _ _ _ _ _ _ dX3_takes_111 rfl (Nat.le_of_ble_eq_true rfl) (Nat.le_of_ble_eq_true rfl) ⟨rfl, rfl, (by decide), (.inl (by decide))⟩
          · simp only [Int32.lt_iff_toInt_lt, Int32.le_iff_toInt_le, Int32.reduceToInt, ← Int32.toInt_inj] at h_88
            refine v_iconst hC dX3_takes_106 (v := 1) (by decide) ?_
            refine v_goto hC dX3_takes_107 (tgt := 111) (by decide) ?_
            exact hR _ _ _ _ _ _ _ dX3_takes_111 rfl (Nat.le_of_ble_eq_true rfl) (Nat.le_of_ble_eq_true rfl) ⟨rfl, rfl, (by decide), (.inr (by first | omega | (simp only [Int32.lt_iff_toInt_lt, Int32.le_iff_toInt_le, Int32.reduceToInt, ← Int32.toInt_inj, true_and, and_true, or_true, true_or, false_or, or_false, false_and, and_false, not_true_eq_false, not_false_eq_true] <;> omega)))⟩
      by_cases h_34 : v_30 = 2
      · refine v_tableIn hC dX3_takes_34 (off := 78) (tgt := 112) (by rw [h_34]; decide) (by rw [h_34]; decide) (by rw [h_34]; rfl) (by decide) ?_
        simp only [Int32.lt_iff_toInt_lt, Int32.le_iff_toInt_le, Int32.reduceToInt, ← Int32.toInt_inj] at h_34
        refine v_iload_n hC dX3_takes_112 rfl ?_
        refine v_iload hC dX3_takes_113 rfl ?_
        refine v_icmp_lt hC dX3_takes_115 (tgt := 137) (by decide) (fun h_89 => ?_) (fun h_89 => ?_)
        · simp only [Int32.lt_iff_toInt_lt, Int32.le_iff_toInt_le, Int32.reduceToInt, ← Int32.toInt_inj] at h_89
          refine v_iconst hC dX3_takes_137 (v := 0) (by decide) ?_
          exact hR _ _ _ _ _ _ _ dX3_takes_138 rfl (Nat.le_of_ble_eq_true rfl) (Nat.le_of_ble_eq_true rfl) ⟨rfl, rfl, (by decide), (.inl (by decide))⟩
        · simp only [Int32.lt_iff_toInt_lt, Int32.le_iff_toInt_le, Int32.reduceToInt, ← Int32.toInt_inj] at h_89
          refine v_iload hC dX3_takes_118 rfl ?_
          refine v_if_le hC dX3_takes_120 (tgt := 137) (by decide) (fun h_90 => ?_) (fun h_90 => ?_)
          · simp only [Int32.lt_iff_toInt_lt, Int32.le_iff_toInt_le, Int32.reduceToInt, ← Int32.toInt_inj] at h_90
            refine v_iconst hC dX3_takes_137 (v := 0) (by decide) ?_
            exact hR _ _ _ _ _ _ _ dX3_takes_138 rfl (Nat.le_of_ble_eq_true rfl) (Nat.le_of_ble_eq_true rfl) ⟨rfl, rfl, (by decide), (.inl (by decide))⟩
          · simp only [Int32.lt_iff_toInt_lt, Int32.le_iff_toInt_le, Int32.reduceToInt, ← Int32.toInt_inj] at h_90
            refine v_iload_n hC dX3_takes_123 rfl ?_
            refine v_iload hC dX3_takes_124 rfl ?_
            obtain ⟨v_91, h_92⟩ : ∃ v9 : Int32, a_2 - v_24 = v9 := ⟨_, rfl⟩
            refine v_isub hC dX3_takes_126 h_92 ?_
            refine v_iload hC dX3_takes_127 rfl ?_
            obtain ⟨v_94, h_95⟩ : ∃ v9 : Int32, v_91 - v_91 / v_18 * v_18 = v9 := ⟨_, rfl⟩
            refine v_irem hC dX3_takes_129 (by first | omega | (simp only [Int32.lt_iff_toInt_lt, Int32.le_iff_toInt_le, Int32.reduceToInt, ← Int32.toInt_inj, true_and, and_true, or_true, true_or, false_or, or_false, false_and, and_false, not_true_eq_false, not_false_eq_true] <;> omega)) h_95 ?_
            refine v_if_ne hC dX3_takes_130 (tgt := 137) (by decide) (fun h_97 => ?_) (fun h_97 => ?_)
            · simp only [Int32.lt_iff_toInt_lt, Int32.le_iff_toInt_le, Int32.reduceToInt, ← Int32.toInt_inj] at h_97
              refine v_iconst hC dX3_takes_137 (v := 0) (by decide) ?_
              exact hR _ _ _ _ _ _ _ dX3_takes_138 rfl (Nat.le_of_ble_eq_true rfl) (Nat.le_of_ble_eq_true rfl) ⟨rfl, rfl, (by decide), (.inl (by decide))⟩
            · simp only [Int32.lt_iff_toInt_lt, Int32.le_iff_toInt_le, Int32.reduceToInt, ← Int32.toInt_inj] at h_97
              refine v_iconst hC dX3_takes_133 (v := 1) (by decide) ?_
              refine v_goto hC dX3_takes_134 (tgt := 138) (by decide) ?_
              exact hR _ _ _ _ _ _ _ dX3_takes_138 rfl (Nat.le_of_ble_eq_true rfl) (Nat.le_of_ble_eq_true rfl) ⟨rfl, rfl, (by decide), (.inr (by first | omega | (simp only [Int32.lt_iff_toInt_lt, Int32.le_iff_toInt_le, Int32.reduceToInt, ← Int32.toInt_inj, true_and, and_true, or_true, true_or, false_or, or_false, false_and, and_false, not_true_eq_false, not_false_eq_true] <;> omega)))⟩
      simp only [Int32.lt_iff_toInt_lt, Int32.le_iff_toInt_le, Int32.reduceToInt, ← Int32.toInt_inj] at h_32 h_33 h_34
      refine v_tableOut hC dX3_takes_34 (tgt := 139) (by omega) (by decide) ?_
      refine v_iconst hC dX3_takes_139 (v := 0) (by decide) ?_
      exact hR _ _ _ _ _ _ _ dX3_takes_140 rfl (Nat.le_of_ble_eq_true rfl) (Nat.le_of_ble_eq_true rfl) ⟨rfl, rfl, (by decide), (.inl (by decide))⟩
    · simp only [Int32.lt_iff_toInt_lt, Int32.le_iff_toInt_le, Int32.reduceToInt, ← Int32.toInt_inj] at h_2
      refine v_iconst hC dX3_takes_10 (v := 0) (by decide) ?_
      exact hR _ _ _ _ _ _ _ dX3_takes_11 rfl (Nat.le_of_ble_eq_true rfl) (Nat.le_of_ble_eq_true rfl) ⟨rfl, rfl, (by decide), (.inl (by decide))⟩
set_option maxRecDepth 100000 in
set_option maxHeartbeats 8000000 in
theorem p_X1_stitchAt {l : Launch} {E : Ez} {L : List Nat} {f : Nat → va_E} {T : Nat → va_E → Prop} {a_0 : Nat} {a_1 : Int32} (hW : WT T L f) (k_0 : isClo T L E a_0) : CI l yX1_stitchAt cX1_stitchAt 2 .int 0 0 0 E [.ref a_0, .int a_1] L f (fun r L1 f1 => L = L1 ∧ f = f1 ∧ (¬ r.toInt = 0 ∨ (0 ≤ a_1.toInt ∧ a_1.toInt ≤ 255))) := by
  refine ci_of (by decide) (Nat.le_of_ble_eq_true rfl) (fun z hz hnm hC hR => ?_)
  have hC : Cx z E cX1_stitchAt RX1 2 0 0 0 := hC
  subst hz
  show V z E 2 0 0 L f 0 [(0, .ref a_0), (1, .int a_1)] []
  refine v_iload_n hC dX1_stitchAt_0 rfl ?_
  refine v_if_lt hC dX1_stitchAt_1 (tgt := 20) (by decide) (fun h_1 => ?_) (fun h_1 => ?_)
  · simp only [Int32.lt_iff_toInt_lt, Int32.le_iff_toInt_le, Int32.reduceToInt, ← Int32.toInt_inj] at h_1
    refine v_iconst hC dX1_stitchAt_20 (v := 4) (by decide) ?_
    exact hR _ _ _ _ _ _ _ dX1_stitchAt_21 rfl (Nat.le_of_ble_eq_true rfl) (Nat.le_of_ble_eq_true rfl) ⟨rfl, rfl, (.inl (by decide))⟩
  · simp only [Int32.lt_iff_toInt_lt, Int32.le_iff_toInt_le, Int32.reduceToInt, ← Int32.toInt_inj] at h_1
    refine v_iload_n hC dX1_stitchAt_4 rfl ?_
    refine v_sipush hC dX1_stitchAt_5 (v := 256) (by decide) ?_
    refine v_icmp_ge hC dX1_stitchAt_8 (tgt := 20) (by decide) (fun h_2 => ?_) (fun h_2 => ?_)
    · simp only [Int32.lt_iff_toInt_lt, Int32.le_iff_toInt_le, Int32.reduceToInt, ← Int32.toInt_inj] at h_2
      refine v_iconst hC dX1_stitchAt_20 (v := 4) (by decide) ?_
      exact hR _ _ _ _ _ _ _ dX1_stitchAt_21 rfl (Nat.le_of_ble_eq_true rfl) (Nat.le_of_ble_eq_true rfl) ⟨rfl, rfl, (.inl (by decide))⟩
    · simp only [Int32.lt_iff_toInt_lt, Int32.le_iff_toInt_le, Int32.reduceToInt, ← Int32.toInt_inj] at h_2
      refine v_aload_n hC dX1_stitchAt_11 rfl ?_
      obtain ⟨m_3, q_5, t_4, k_6⟩ := id k_0
      obtain ⟨v_8, e_7, b_9⟩ := hW.at m_3 t_4
      refine v_get hC fl_X1_9 m_3 e_7 rfl dX1_stitchAt_12 ?_
      refine v_iload_n hC dX1_stitchAt_15 rfl ?_
      obtain ⟨m_10, t_11⟩ := id k_6
      obtain ⟨g_13, e_12, fit_14⟩ := hW.at m_10 t_11
      obtain ⟨v_15, h_16⟩ : ∃ v9 : Int32, g_13 (a_1 : Int32).toNatClampNeg = v9 := ⟨_, rfl⟩
      refine v_bald hC m_10 e_12 (vp_in_iff.mpr (by first | omega | (simp only [Int32.lt_iff_toInt_lt, Int32.le_iff_toInt_le, Int32.reduceToInt, ← Int32.toInt_inj, true_and, and_true, or_true, true_or, false_or, or_false, false_and, and_false, not_true_eq_false, not_false_eq_true] <;> omega))) h_16 dX1_stitchAt_16 ?_
      refine v_goto hC dX1_stitchAt_17 (tgt := 21) (by decide) ?_
      exact hR _ _ _ _ _ _ _ dX1_stitchAt_21 rfl (Nat.le_of_ble_eq_true rfl) (Nat.le_of_ble_eq_true rfl) ⟨rfl, rfl, (.inr (by first | omega | (simp only [Int32.lt_iff_toInt_lt, Int32.le_iff_toInt_le, Int32.reduceToInt, ← Int32.toInt_inj, true_and, and_true, or_true, true_or, false_or, or_false, false_and, and_false, not_true_eq_false, not_false_eq_true] <;> omega)))⟩
set_option maxRecDepth 100000 in
set_option maxHeartbeats 8000000 in
theorem p_X1_setStitch {l : Launch} {E : Ez} {L : List Nat} {f : Nat → va_E} {T : Nat → va_E → Prop} {a_0 : Nat} {a_1 : Int32} {a_2 : Int32} (hW : WT T L f) (k_0 : isClo T L E a_0) : CV l yX1_setStitch cX1_setStitch 3 0 0 0 E [.ref a_0, .int a_1, .int a_2] L f (fun L1 f1 => L = L1 ∧ WT T L f1 ∧ FR [356] f f1) := by
  refine cv_of (by decide) (Nat.le_of_ble_eq_true rfl) (fun z hz hnm hC hR => ?_)
  have hC : Cx z E cX1_setStitch RX1 3 0 0 0 := hC
  subst hz
  show V z E 3 0 0 L f 0 [(0, .ref a_0), (1, .int a_1), (2, .int a_2)] []
  refine v_iload_n hC dX1_setStitch_0 rfl ?_
  refine v_if_lt hC dX1_setStitch_1 (tgt := 19) (by decide) (fun h_1 => ?_) (fun h_1 => ?_)
  · simp only [Int32.lt_iff_toInt_lt, Int32.le_iff_toInt_le, Int32.reduceToInt, ← Int32.toInt_inj] at h_1
    exact hR _ _ _ _ _ _ dX1_setStitch_19 (Nat.le_of_ble_eq_true rfl) (Nat.le_of_ble_eq_true rfl) ⟨rfl, hW, FR.rf⟩
  · simp only [Int32.lt_iff_toInt_lt, Int32.le_iff_toInt_le, Int32.reduceToInt, ← Int32.toInt_inj] at h_1
    refine v_iload_n hC dX1_setStitch_4 rfl ?_
    refine v_sipush hC dX1_setStitch_5 (v := 256) (by decide) ?_
    refine v_icmp_ge hC dX1_setStitch_8 (tgt := 19) (by decide) (fun h_2 => ?_) (fun h_2 => ?_)
    · simp only [Int32.lt_iff_toInt_lt, Int32.le_iff_toInt_le, Int32.reduceToInt, ← Int32.toInt_inj] at h_2
      exact hR _ _ _ _ _ _ dX1_setStitch_19 (Nat.le_of_ble_eq_true rfl) (Nat.le_of_ble_eq_true rfl) ⟨rfl, hW, FR.rf⟩
    · simp only [Int32.lt_iff_toInt_lt, Int32.le_iff_toInt_le, Int32.reduceToInt, ← Int32.toInt_inj] at h_2
      refine v_aload_n hC dX1_setStitch_11 rfl ?_
      obtain ⟨m_3, q_5, t_4, k_6⟩ := id k_0
      obtain ⟨v_8, e_7, b_9⟩ := hW.at m_3 t_4
      refine v_get hC fl_X1_9 m_3 e_7 rfl dX1_setStitch_12 ?_
      refine v_iload_n hC dX1_setStitch_15 rfl ?_
      refine v_iload_n hC dX1_setStitch_16 rfl ?_
      obtain ⟨v_10, h_11⟩ : ∃ v9 : Int32, a_2.toInt8.toInt32 = v9 := ⟨_, rfl⟩
      refine v_i2b hC dX1_setStitch_17 h_11 ?_
      obtain ⟨m_12, t_13⟩ := id k_6
      obtain ⟨g_15, e_14, fit_16⟩ := hW.at m_12 t_13
      refine v_bast hC m_12 e_14 (vp_in_iff.mpr (by first | omega | (simp only [Int32.lt_iff_toInt_lt, Int32.le_iff_toInt_le, Int32.reduceToInt, ← Int32.toInt_inj, true_and, and_true, or_true, true_or, false_or, or_false, false_and, and_false, not_true_eq_false, not_false_eq_true] <;> omega))) dX1_setStitch_18 (fun f_17 hf_18 hk_19 => ?_)
      have hW_21 := hW.up hf_18 hk_19 t_13 ⟨_, rfl, (fit_upd fit_16)⟩
      obtain ⟨g_20, hf_18, fit_22⟩ : ∃ g9, f_17 q_5 = aB E 256 g9 ∧ ∀ j, fits .byte (.int (g9 j)) = true := ⟨_, hf_18, (fit_upd fit_16)⟩
      have hf_23 := (hk_19 a_0 (ne_kd e_7 e_14 rfl)).trans e_7
      have fr_24 := FR.w hk_19 e_14 (k := 356) rfl
      exact hR _ _ _ _ _ _ dX1_setStitch_19 (Nat.le_of_ble_eq_true rfl) (Nat.le_of_ble_eq_true rfl) ⟨rfl, hW_21, (fr_24.mono rfl)⟩
