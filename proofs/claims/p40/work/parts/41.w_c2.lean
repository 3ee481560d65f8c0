set_option maxRecDepth 100000 in
set_option maxHeartbeats 8000000 in
theorem p_X12_readTest {l : Launch} {E : Ez} {L : List Nat} {f : Nat → va_E} {T : Nat → va_E → Prop} {a_0 : Nat} {q : Nat → Nat} {g_f : Nat → Int32} (hW : WT T L f) (k_0 : isM T L E a_0 q) (e_f : f (q 14) = aI E 2076 g_f) (o_f : FOK g_f) (hWC : WC g_f) (hPT : (¬ fld (f a_0) 12 = 0 ∨ 4 * (g_f 5).toInt ≤ fld (f a_0) 9)) (hNX : (¬ fld (f a_0) 12 = 0 ∨ fld (f a_0) 10 = 0 ∨ fld (f a_0) 9 < fld (f a_0) 8)) : CV l yX12_readTest cX12_readTest 4 7 0 0 E [.ref a_0] L f (fun L1 f1 => L = L1 ∧ WT T L f1 ∧ FR [12, 2176] f f1 ∧ (∃ g9 : Nat → Int32, f1 (q 14) = aI E 2076 g9 ∧ FOK g9 ∧ WC g9 ∧ (¬ fld (f1 a_0) 12 = 0 ∨ 4 * (g9 5).toInt ≤ fld (f1 a_0) 9 + 3)) ∧ (¬ fld (f1 a_0) 12 = 0 ∨ (fld (f a_0) 12 = 0 ∧ fld (f a_0) 8 < fld (f1 a_0) 8 ∧ fld (f a_0) 8 ≤ fld (f1 a_0) 9 ∧ fld (f1 a_0) 9 ≤ fld (f1 a_0) 8 ∧ (fld (f1 a_0) 10 = 0 ∨ fld (f1 a_0) 9 < fld (f1 a_0) 8)))) := by
  refine cv_of (by decide) (Nat.le_of_ble_eq_true rfl) (fun z hz hnm hC hR => ?_)
  have hC : Cx z E cX12_readTest RX12 4 7 0 0 := hC
  subst hz
  show V z E 4 0 0 L f 0 [(0, .ref a_0)] []
  obtain ⟨m_1, t_2, nq_21, k_3, k_4, k_5, k_6, k_7, k_8, k_9, k_10, k_11, k_12, k_13, k_14, k_15, k_16, k_17, k_18, k_19, k_20⟩ := id k_0
  obtain ⟨m_22, t_23⟩ := id k_8
  obtain ⟨v_25, v_26, v_27, v_29, v_31, v_33, v_35, v_36, v_37, v_38, v_39, e_24, -, b_28, b_30, b_32, b_34, -, -⟩ := hW.at m_1 t_2
  have mz_40 : fld (f a_0) 8 = v_29.toInt := by rw [e_24]; rfl
  have mz_41 : fld (f a_0) 9 = v_31.toInt := by rw [e_24]; rfl
  have mz_42 : fld (f a_0) 10 = v_33.toInt := by rw [e_24]; rfl
  have mz_43 : fld (f a_0) 12 = v_36.toInt := by rw [e_24]; rfl
  rw [mz_43, mz_41] at hPT
  rw [mz_43, mz_42, mz_41, mz_40] at hNX
  have wc_1 := hWC.1
  have wc_2 := hWC.2.1
  refine v_aload_n hC dX12_readTest_0 rfl ?_
  refine v_get hC fl_X12_34 m_1 e_24 rfl dX12_readTest_1 ?_
  refine v_iconst hC dX12_readTest_4 (v := 5) (by decide) ?_
  refine v_iald hC m_22 e_f (vp_in_iff.mpr (by decide)) (v := g_f 5) rfl dX12_readTest_5 ?_
  refine v_istore_n hC dX12_readTest_6 (by decide) (lv' := [(1, .int (g_f 5)), (0, .ref a_0)]) rfl ?_
  refine v_aload_n hC dX12_readTest_7 rfl ?_
  refine v_iconst hC dX12_readTest_8 (v := 0) (by decide) ?_
  have fe_44 : fld (f a_0) 9 = (v_31 : Int32).toInt := by rw [e_24]; rfl
  have fe_45 : fld (f a_0) 12 = (v_36 : Int32).toInt := by rw [e_24]; rfl
  have fe_46 : fld (f a_0) 8 = (v_29 : Int32).toInt := by rw [e_24]; rfl
  have fe_47 : fld (f a_0) 9 = (v_31 : Int32).toInt := by rw [e_24]; rfl
  have fe_48 : fld (f a_0) 10 = (v_33 : Int32).toInt := by rw [e_24]; rfl
  have fe_49 : fld (f a_0) 12 = (v_36 : Int32).toInt := by rw [e_24]; rfl
  refine v_vv hC (rest := []) m_1 e_24 rfl mi_X12_readSum ms_X12_readSum (p_X12_readSum hW k_0 e_f o_f (by first | omega | (simp only [Int32.lt_iff_toInt_lt, Int32.le_iff_toInt_le, Int32.reduceToInt, ← Int32.toInt_inj, true_and, and_true, or_true, true_or, false_or, or_false, false_and, and_false, not_true_eq_false, not_false_eq_true] <;> omega)) (by simp only [fe_44, fe_45]; omega) (by simp only [fe_46, fe_47, fe_48, fe_49]; omega)) mx_X12_readSum ml_X12_269 (by decide) rfl (cells1 := 0) (slots1 := 0) (by decide) (by decide) (Nat.le_of_ble_eq_true rfl) (Nat.le_of_ble_eq_true rfl) rfl (Nat.le_of_ble_eq_true rfl) dX12_readTest_9 (fun L_51 f_52 h_53 => ?_)
  obtain ⟨rfl, hW_56, hF_57, x_54, x_55⟩ := h_53
  have fe_58 : fld (f a_0) 8 = (v_29 : Int32).toInt := by rw [e_24]; rfl
  have fe_59 : fld (f a_0) 12 = (v_36 : Int32).toInt := by rw [e_24]; rfl
  obtain ⟨v_61, v_62, v_63, v_65, v_67, v_69, v_71, v_72, v_73, v_74, v_75, e_60, -, b_64, b_66, b_68, b_70, -, -⟩ := hW_56.at m_1 t_2
  have fe_76 : fld (f_52 a_0) 8 = (v_65 : Int32).toInt := by rw [e_60]; rfl
  have fe_77 : fld (f_52 a_0) 9 = (v_67 : Int32).toInt := by rw [e_60]; rfl
  have fe_78 : fld (f_52 a_0) 10 = (v_69 : Int32).toInt := by rw [e_60]; rfl
  have fe_79 : fld (f_52 a_0) 12 = (v_72 : Int32).toInt := by rw [e_60]; rfl
  rw [fe_79, fe_77] at x_54
  rw [fe_79, fe_59, fe_58, fe_77, fe_76, fe_78] at x_55
  clear fe_58 fe_59 fe_76 fe_77 fe_78 fe_79
  obtain ⟨g_80, e_81, ok_82, pg_83, bp_84, gs_85⟩ := x_54
  have pg_86 := PG.tr PG.rf pg_83
  refine v_aload_n hC dX12_readTest_12 rfl ?_
  refine v_ldcwS hC sr_X12_272 dX12_readTest_13 ?_
  refine v_vi hC (rest := []) m_1 e_60 rfl mi_X12_is ms_X12_is (p_X12_is hW_56 k_0 (by decide)) mx_X12_is ml_X12_152 (by decide) rfl (cells1 := 0) (slots1 := 0) (by decide) (by decide) (Nat.le_of_ble_eq_true rfl) (Nat.le_of_ble_eq_true rfl) rfl (Nat.le_of_ble_eq_true rfl) dX12_readTest_16 (fun r_87 L_88 f_89 h_90 => ?_)
  obtain ⟨rfl, rfl, rfl⟩ := h_90
  refine v_if_eq hC dX12_readTest_19 (tgt := 26) (by decide) (fun h_93 => ?_) (fun h_93 => ?_)
  · simp only [Int32.lt_iff_toInt_lt, Int32.le_iff_toInt_le, Int32.reduceToInt, ← Int32.toInt_inj] at h_93
    refine v_aload_n hC dX12_readTest_26 rfl ?_
    refine v_ldcwS hC sr_X12_274 dX12_readTest_27 ?_
    refine v_vi hC (rest := []) m_1 e_60 rfl mi_X12_is ms_X12_is (p_X12_is hW_56 k_0 (by decide)) mx_X12_is ml_X12_152 (by decide) rfl (cells1 := 0) (slots1 := 0) (by decide) (by decide) (Nat.le_of_ble_eq_true rfl) (Nat.le_of_ble_eq_true rfl) rfl (Nat.le_of_ble_eq_true rfl) dX12_readTest_30 (fun r_103 L_104 f_105 h_106 => ?_)
    obtain ⟨rfl, rfl, rfl⟩ := h_106
    refine v_if_eq hC dX12_readTest_33 (tgt := 40) (by decide) (fun h_109 => ?_) (fun h_109 => ?_)
    · simp only [Int32.lt_iff_toInt_lt, Int32.le_iff_toInt_le, Int32.reduceToInt, ← Int32.toInt_inj] at h_109
      refine v_aload_n hC dX12_readTest_40 rfl ?_
      refine v_ldcwS hC sr_X12_276 dX12_readTest_41 ?_
      refine v_vi hC (rest := []) m_1 e_60 rfl mi_X12_is ms_X12_is (p_X12_is hW_56 k_0 (by decide)) mx_X12_is ml_X12_152 (by decide) rfl (cells1 := 0) (slots1 := 0) (by decide) (by decide) (Nat.le_of_ble_eq_true rfl) (Nat.le_of_ble_eq_true rfl) rfl (Nat.le_of_ble_eq_true rfl) dX12_readTest_44 (fun r_119 L_120 f_121 h_122 => ?_)
      obtain ⟨rfl, rfl, rfl⟩ := h_122
      refine v_if_eq hC dX12_readTest_47 (tgt := 54) (by decide) (fun h_125 => ?_) (fun h_125 => ?_)
      · simp only [Int32.lt_iff_toInt_lt, Int32.le_iff_toInt_le, Int32.reduceToInt, ← Int32.toInt_inj] at h_125
        refine v_iconst hC dX12_readTest_54 (v := (-1)) (by decide) ?_
        refine v_istore_n hC dX12_readTest_55 (by decide) (lv' := [(2, .int (-1)), (1, .int (g_f 5)), (0, .ref a_0)]) rfl ?_
        refine v_iload_n hC dX12_readTest_56 rfl ?_
        refine v_iconst hC dX12_readTest_57 (v := (-1)) (by decide) ?_
        refine v_icmp_ne_f hC dX12_readTest_58 (tgt := 66) (by decide) (by decide) ?_
        refine v_aload_n hC dX12_readTest_61 rfl ?_
        refine v_iconst hC dX12_readTest_62 (v := 1) (by decide) ?_
        refine v_vv hC (rest := []) m_1 e_60 rfl mi_X12_errs ms_X12_errs (p_X12_errs hW_56 k_0 (by decide)) mx_X12_errs ml_X12_162 (by decide) rfl (cells1 := 0) (slots1 := 0) (by decide) (by decide) (Nat.le_of_ble_eq_true rfl) (Nat.le_of_ble_eq_true rfl) rfl (Nat.le_of_ble_eq_true rfl) dX12_readTest_63 (fun L_136 f_137 h_138 => ?_)
        obtain ⟨rfl, hW_141, hF_142, x_139, x_140, -, -, -⟩ := h_138
        have fe_143 : fld (f_52 a_0) 8 = (v_65 : Int32).toInt := by rw [e_60]; rfl
        have hf_144 := hF_142.at e_81 rfl
        obtain ⟨v_146, v_147, v_148, v_150, v_152, v_154, v_156, v_157, v_158, v_159, v_160, e_145, -, b_149, b_151, b_153, b_155, -, -⟩ := hW_141.at m_1 t_2
        have fe_161 : fld (f_137 a_0) 8 = (v_150 : Int32).toInt := by rw [e_145]; rfl
        have fe_162 : fld (f_137 a_0) 12 = (v_157 : Int32).toInt := by rw [e_145]; rfl
        rw [fe_162] at x_139
        rw [fe_161, fe_143] at x_140
        clear x_55
        clear gs_85
        clear fe_143 fe_161 fe_162
        refine v_aload_n hC dX12_readTest_66 rfl ?_
        refine v_vi hC (rest := []) m_1 e_145 rfl mi_X12_good ms_X12_good (p_X12_good hW_141 k_0) mx_X12_good ml_X12_139 (by decide) rfl (cells1 := 0) (slots1 := 0) (by decide) (by decide) (Nat.le_of_ble_eq_true rfl) (Nat.le_of_ble_eq_true rfl) rfl (Nat.le_of_ble_eq_true rfl) dX12_readTest_67 (fun r_163 L_164 f_165 h_166 => ?_)
        obtain ⟨rfl, rfl, b_167, x_168⟩ := h_166
        have fe_171 : fld (f_137 a_0) 12 = (v_157 : Int32).toInt := by rw [e_145]; rfl
        rw [fe_171] at x_168
        clear fe_171
        try simp only [Int32.reduceToInt, Int64.reduceToInt] at x_168
        refine v_if_eq_t hC dX12_readTest_70 (tgt := 77) (by decide) (gdb_z x_168 x_139) ?_
        refine v_aload_n hC dX12_readTest_77 rfl ?_
        refine v_vi hC (rest := []) m_1 e_145 rfl mi_X12_good ms_X12_good (p_X12_good hW_141 k_0) mx_X12_good ml_X12_139 (by decide) rfl (cells1 := 0) (slots1 := 0) (by decide) (by decide) (Nat.le_of_ble_eq_true rfl) (Nat.le_of_ble_eq_true rfl) rfl (Nat.le_of_ble_eq_true rfl) dX12_readTest_78 (fun r_172 L_173 f_174 h_175 => ?_)
        obtain ⟨rfl, rfl, b_176, x_177⟩ := h_175
        have fe_180 : fld (f_137 a_0) 12 = (v_157 : Int32).toInt := by rw [e_145]; rfl
        rw [fe_180] at x_177
        clear fe_180
        try simp only [Int32.reduceToInt, Int64.reduceToInt] at x_177
        refine v_if_eq_t hC dX12_readTest_81 (tgt := 89) (by decide) (gdb_z x_177 x_139) ?_
        refine v_aload_n hC dX12_readTest_89 rfl ?_
        refine v_vi hC (rest := []) m_1 e_145 rfl mi_X12_good ms_X12_good (p_X12_good hW_141 k_0) mx_X12_good ml_X12_139 (by decide) rfl (cells1 := 0) (slots1 := 0) (by decide) (by decide) (Nat.le_of_ble_eq_true rfl) (Nat.le_of_ble_eq_true rfl) rfl (Nat.le_of_ble_eq_true rfl) dX12_readTest_90 (fun r_181 L_182 f_183 h_184 => ?_)
        obtain ⟨rfl, rfl, b_185, x_186⟩ := h_184
        have fe_189 : fld (f_137 a_0) 12 = (v_157 : Int32).toInt := by rw [e_145]; rfl
        rw [fe_189] at x_186
        clear fe_189
        try simp only [Int32.reduceToInt, Int64.reduceToInt] at x_186
        refine v_if_ne_f hC dX12_readTest_93 (tgt := 97) (by decide) (gdb_z x_186 x_139) ?_
        have fe_190 : fld (f_137 a_0) 9 = (v_152 : Int32).toInt := by rw [e_145]; rfl
        have fe_191 : fld (f_137 a_0) 12 = (v_157 : Int32).toInt := by rw [e_145]; rfl
        have fe_192 : fld (f_137 a_0) 8 = (v_150 : Int32).toInt := by rw [e_145]; rfl
        have fe_193 : fld (f_137 a_0) 9 = (v_152 : Int32).toInt := by rw [e_145]; rfl
        have fe_194 : fld (f_137 a_0) 10 = (v_154 : Int32).toInt := by rw [e_145]; rfl
        have fe_195 : fld (f_137 a_0) 12 = (v_157 : Int32).toInt := by rw [e_145]; rfl
        exact hR _ _ _ _ _ _ dX12_readTest_96 (Nat.le_of_ble_eq_true rfl) (Nat.le_of_ble_eq_true rfl) ⟨rfl, hW_141, ((hF_57.tr hF_142).mono rfl), ⟨_, hf_144, ok_82, (hWC.pg pg_86 (by omega)), (by simp only [fe_190, fe_191]; exact .inl x_139)⟩, (by simp only [fe_192, fe_193, fe_194, fe_195, mz_40, mz_43]; exact .inl x_139)⟩
      · simp only [Int32.lt_iff_toInt_lt, Int32.le_iff_toInt_le, Int32.reduceToInt, ← Int32.toInt_inj] at h_125
        have ip_126 := (iw_b (f_52 a_0) (f_52 (q 4)) 69).2.resolve_left (by omega)
        have ln_127 : ((bytStr.getD 69 []).length : Int) = 4 := by rfl
        have fe_128 : fld (f_52 a_0) 8 = (v_65 : Int32).toInt := by rw [e_60]; rfl
        have fe_129 : fld (f_52 a_0) 9 = (v_67 : Int32).toInt := by rw [e_60]; rfl
        have fe_130 : fld (f_52 a_0) 10 = (v_69 : Int32).toInt := by rw [e_60]; rfl
        have fe_131 : fld (f_52 a_0) 12 = (v_72 : Int32).toInt := by rw [e_60]; rfl
        rw [fe_128, fe_129, fe_130, fe_131] at ip_126
        have g0_132 := ip_126.1
        have gp_133 := gs_85.resolve_left (fun h9 => h9 g0_132)
        clear gs_85
        have gp_134 := x_55.resolve_left (fun h9 => h9 g0_132)
        clear x_55
        refine v_iconst hC dX12_readTest_50 (v := 2) (by decide) ?_
        refine v_goto hC dX12_readTest_51 (tgt := 55) (by decide) ?_
        refine v_istore_n hC dX12_readTest_55 (by decide) (lv' := [(2, .int 2), (1, .int (g_f 5)), (0, .ref a_0)]) rfl ?_
        refine v_iload_n hC dX12_readTest_56 rfl ?_
        refine v_iconst hC dX12_readTest_57 (v := (-1)) (by decide) ?_
        refine v_icmp_ne_t hC dX12_readTest_58 (tgt := 66) (by decide) (by decide) ?_
        refine v_aload_n hC dX12_readTest_66 rfl ?_
        refine v_vi hC (rest := []) m_1 e_60 rfl mi_X12_good ms_X12_good (p_X12_good hW_56 k_0) mx_X12_good ml_X12_139 (by decide) rfl (cells1 := 0) (slots1 := 0) (by decide) (by decide) (Nat.le_of_ble_eq_true rfl) (Nat.le_of_ble_eq_true rfl) rfl (Nat.le_of_ble_eq_true rfl) dX12_readTest_67 (fun r_196 L_197 f_198 h_199 => ?_)
        obtain ⟨rfl, rfl, b_200, x_201⟩ := h_199
        have fe_204 : fld (f_52 a_0) 12 = (v_72 : Int32).toInt := by rw [e_60]; rfl
        rw [fe_204] at x_201
        clear fe_204
        try simp only [Int32.reduceToInt, Int64.reduceToInt] at x_201
        refine v_if_eq_f hC dX12_readTest_70 (tgt := 77) (by decide) (gdb_n x_201 g0_132) ?_
        refine v_aload_n hC dX12_readTest_73 rfl ?_
        refine v_vv hC (rest := []) m_1 e_60 rfl mi_X12_advance ms_X12_advance (p_X12_advance hW_56 k_0) mx_X12_advance ml_X12_156 (by decide) rfl (cells1 := 0) (slots1 := 0) (by decide) (by decide) (Nat.le_of_ble_eq_true rfl) (Nat.le_of_ble_eq_true rfl) rfl (Nat.le_of_ble_eq_true rfl) dX12_readTest_74 (fun L_206 f_207 h_208 => ?_)
        obtain ⟨rfl, hW_212, hF_213, x_209, x_210, x_211, -⟩ := h_208
        have fe_214 : fld (f_52 a_0) 8 = (v_65 : Int32).toInt := by rw [e_60]; rfl
        have fe_215 : fld (f_52 a_0) 12 = (v_72 : Int32).toInt := by rw [e_60]; rfl
        have hf_216 := hF_213.at e_81 rfl
        obtain ⟨v_218, v_219, v_220, v_222, v_224, v_226, v_228, v_229, v_230, v_231, v_232, e_217, -, b_221, b_223, b_225, b_227, -, -⟩ := hW_212.at m_1 t_2
        have fe_233 : fld (f_207 a_0) 8 = (v_222 : Int32).toInt := by rw [e_217]; rfl
        have fe_234 : fld (f_207 a_0) 9 = (v_224 : Int32).toInt := by rw [e_217]; rfl
        have fe_235 : fld (f_207 a_0) 10 = (v_226 : Int32).toInt := by rw [e_217]; rfl
        have fe_236 : fld (f_207 a_0) 12 = (v_229 : Int32).toInt := by rw [e_217]; rfl
        rw [fe_214, fe_234, fe_233] at x_209
        rw [fe_235, fe_234, fe_233] at x_210
        rw [fe_236, fe_215] at x_211
        have g0_237 := x_211.trans g0_132
        clear fe_214 fe_215 fe_233 fe_234 fe_235 fe_236
        refine v_aload_n hC dX12_readTest_77 rfl ?_
        refine v_vi hC (rest := []) m_1 e_217 rfl mi_X12_good ms_X12_good (p_X12_good hW_212 k_0) mx_X12_good ml_X12_139 (by decide) rfl (cells1 := 0) (slots1 := 0) (by decide) (by decide) (Nat.le_of_ble_eq_true rfl) (Nat.le_of_ble_eq_true rfl) rfl (Nat.le_of_ble_eq_true rfl) dX12_readTest_78 (fun r_238 L_239 f_240 h_241 => ?_)
        obtain ⟨rfl, rfl, b_242, x_243⟩ := h_241
        have fe_246 : fld (f_207 a_0) 12 = (v_229 : Int32).toInt := by rw [e_217]; rfl
        rw [fe_246] at x_243
        clear fe_246
        try simp only [Int32.reduceToInt, Int64.reduceToInt] at x_243
        refine v_if_eq_f hC dX12_readTest_81 (tgt := 89) (by decide) (gdb_n x_243 g0_237) ?_
        refine v_aload_n hC dX12_readTest_84 rfl ?_
        refine v_iconst hC dX12_readTest_85 (v := 4) (by decide) ?_
        have fe_247 : fld (f_207 a_0) 9 = (v_224 : Int32).toInt := by rw [e_217]; rfl
        have fe_248 : fld (f_207 a_0) 12 = (v_229 : Int32).toInt := by rw [e_217]; rfl
        have fe_249 : fld (f_207 a_0) 8 = (v_222 : Int32).toInt := by rw [e_217]; rfl
        have fe_250 : fld (f_207 a_0) 9 = (v_224 : Int32).toInt := by rw [e_217]; rfl
        have fe_251 : fld (f_207 a_0) 10 = (v_226 : Int32).toInt := by rw [e_217]; rfl
        have fe_252 : fld (f_207 a_0) 12 = (v_229 : Int32).toInt := by rw [e_217]; rfl
        refine v_vv hC (rest := []) m_1 e_217 rfl mi_X12_readSum ms_X12_readSum (p_X12_readSum hW_212 k_0 hf_216 ok_82 (by first | omega | (simp only [Int32.lt_iff_toInt_lt, Int32.le_iff_toInt_le, Int32.reduceToInt, ← Int32.toInt_inj, true_and, and_true, or_true, true_or, false_or, or_false, false_and, and_false, not_true_eq_false, not_false_eq_true] <;> omega)) (by simp only [fe_247, fe_248]; omega) (by simp only [fe_249, fe_250, fe_251, fe_252]; omega)) mx_X12_readSum ml_X12_269 (by decide) rfl (cells1 := 0) (slots1 := 0) (by decide) (by decide) (Nat.le_of_ble_eq_true rfl) (Nat.le_of_ble_eq_true rfl) rfl (Nat.le_of_ble_eq_true rfl) dX12_readTest_86 (fun L_254 f_255 h_256 => ?_)
        obtain ⟨rfl, hW_259, hF_260, x_257, x_258⟩ := h_256
        have fe_261 : fld (f_207 a_0) 8 = (v_222 : Int32).toInt := by rw [e_217]; rfl
        have fe_262 : fld (f_207 a_0) 12 = (v_229 : Int32).toInt := by rw [e_217]; rfl
        obtain ⟨v_264, v_265, v_266, v_268, v_270, v_272, v_274, v_275, v_276, v_277, v_278, e_263, -, b_267, b_269, b_271, b_273, -, -⟩ := hW_259.at m_1 t_2
        have fe_279 : fld (f_255 a_0) 8 = (v_268 : Int32).toInt := by rw [e_263]; rfl
        have fe_280 : fld (f_255 a_0) 9 = (v_270 : Int32).toInt := by rw [e_263]; rfl
        have fe_281 : fld (f_255 a_0) 10 = (v_272 : Int32).toInt := by rw [e_263]; rfl
        have fe_282 : fld (f_255 a_0) 12 = (v_275 : Int32).toInt := by rw [e_263]; rfl
        rw [fe_282, fe_280] at x_257
        rw [fe_282, fe_262, fe_261, fe_280, fe_279, fe_281] at x_258
        clear fe_261 fe_262 fe_279 fe_280 fe_281 fe_282
        obtain ⟨g_283, e_284, ok_285, pg_286, bp_287, gs_288⟩ := x_257
        have pg_289 := PG.tr pg_86 pg_286
        refine v_aload_n hC dX12_readTest_89 rfl ?_
        refine v_vi hC (rest := []) m_1 e_263 rfl mi_X12_good ms_X12_good (p_X12_good hW_259 k_0) mx_X12_good ml_X12_139 (by decide) rfl (cells1 := 0) (slots1 := 0) (by decide) (by decide) (Nat.le_of_ble_eq_true rfl) (Nat.le_of_ble_eq_true rfl) rfl (Nat.le_of_ble_eq_true rfl) dX12_readTest_90 (fun r_290 L_291 f_292 h_293 => ?_)
        obtain ⟨rfl, rfl, b_294, x_295⟩ := h_293
        have fe_298 : fld (f_255 a_0) 12 = (v_275 : Int32).toInt := by rw [e_263]; rfl
        rw [fe_298] at x_295
        clear fe_298
        try simp only [Int32.reduceToInt, Int64.reduceToInt] at x_295
        refine v_if_ne hC dX12_readTest_93 (tgt := 97) (by decide) (fun h_299 => ?_) (fun h_299 => ?_)
        · simp only [Int32.lt_iff_toInt_lt, Int32.le_iff_toInt_le, Int32.reduceToInt, ← Int32.toInt_inj] at h_299
          have nb_300 : (1 ≤ r_290.toInt ∧ r_290.toInt ≤ 1) := by omega
          have g0_301 := gd_t x_295 h_299
          clear x_295
          have gp_302 := gs_288.resolve_left (fun h9 => h9 g0_301)
          clear gs_288
          have gp_303 := x_258.resolve_left (fun h9 => h9 g0_301)
          clear x_258
          refine v_sipush hC dX12_readTest_97 (v := 162) (by decide) ?_
          refine v_iconst hC dX12_readTest_100 (v := 4) (by decide) ?_
          refine v_aload_n hC dX12_readTest_101 rfl ?_
          refine v_get hC fl_X12_34 m_1 e_263 rfl dX12_readTest_102 ?_
          refine v_iconst hC dX12_readTest_105 (v := 4) (by decide) ?_
          refine v_iald hC m_22 e_284 (vp_in_iff.mpr (by decide)) (v := g_283 4) rfl dX12_readTest_106 ?_
          have h4_305 : (g_283 4).toInt = (g_f 4).toInt := congrArg Int32.toInt (pg_289 4 (by decide) (by decide))
          obtain ⟨v_306, h_307⟩ : ∃ v9 : Int32, (4 : Int32) * (g_283 4) = v9 := ⟨_, rfl⟩
          refine v_imul hC dX12_readTest_107 h_307 ?_
          have h_308 := mul_v 4 75 300 h_307 (by decide) (by first | omega | (simp only [Int32.lt_iff_toInt_lt, Int32.le_iff_toInt_le, Int32.reduceToInt, ← Int32.toInt_inj, true_and, and_true, or_true, true_or, false_or, or_false, false_and, and_false, not_true_eq_false, not_false_eq_true] <;> omega)) (by decide) (by decide)
          try simp only [Int32.reduceToInt] at h_308
          obtain ⟨v_309, h_310⟩ : ∃ v9 : Int32, (162 : Int32) + v_306 = v9 := ⟨_, rfl⟩
          refine v_iadd hC dX12_readTest_108 h_310 ?_
          have h_311 := add_v h_310 (by first | omega | (simp only [Int32.lt_iff_toInt_lt, Int32.le_iff_toInt_le, Int32.reduceToInt, ← Int32.toInt_inj, true_and, and_true, or_true, true_or, false_or, or_false, false_and, and_false, not_true_eq_false, not_false_eq_true] <;> omega)) (by first | omega | (simp only [Int32.lt_iff_toInt_lt, Int32.le_iff_toInt_le, Int32.reduceToInt, ← Int32.toInt_inj, true_and, and_true, or_true, true_or, false_or, or_false, false_and, and_false, not_true_eq_false, not_false_eq_true] <;> omega))
          try simp only [Int32.reduceToInt] at h_311
          refine v_istore_n hC dX12_readTest_109 (by decide) (lv' := [(3, .int v_309), (2, .int 2), (1, .int (g_f 5)), (0, .ref a_0)]) rfl ?_
          refine v_aload_n hC dX12_readTest_110 rfl ?_
          refine v_get hC fl_X12_34 m_1 e_263 rfl dX12_readTest_111 ?_
          refine v_iload_n hC dX12_readTest_114 rfl ?_
          refine v_aload_n hC dX12_readTest_115 rfl ?_
          refine v_get hC fl_X12_34 m_1 e_263 rfl dX12_readTest_116 ?_
          refine v_iconst hC dX12_readTest_119 (v := 3) (by decide) ?_
          refine v_iald hC m_22 e_284 (vp_in_iff.mpr (by decide)) (v := g_283 3) rfl dX12_readTest_120 ?_
          refine v_iast hC m_22 e_284 (vp_in_iff.mpr (by first | omega | (simp only [Int32.lt_iff_toInt_lt, Int32.le_iff_toInt_le, Int32.reduceToInt, ← Int32.toInt_inj, true_and, and_true, or_true, true_or, false_or, or_false, false_and, and_false, not_true_eq_false, not_false_eq_true] <;> omega))) dX12_readTest_121 (fun f_312 hf_313 hk_314 => ?_)
          have hW_316 := hW_259.up hf_313 hk_314 t_23 ⟨_, rfl, (ok_285.up (by first | omega | (simp only [Int32.lt_iff_toInt_lt, Int32.le_iff_toInt_le, Int32.reduceToInt, ← Int32.toInt_inj, true_and, and_true, or_true, true_or, false_or, or_false, false_and, and_false, not_true_eq_false, not_false_eq_true] <;> omega)) (fun q1 q2 => (by first | omega | (simp only [Int32.lt_iff_toInt_lt, Int32.le_iff_toInt_le, Int32.reduceToInt, ← Int32.toInt_inj] at *; omega))) (fun k9 q1 q2 q3 => (by first | omega | (simp only [Int32.lt_iff_toInt_lt, Int32.le_iff_toInt_le, Int32.reduceToInt, ← Int32.toInt_inj] at *; omega))))⟩
          obtain ⟨g_315, hf_313, ok_317, eg_318⟩ : ∃ g9, f_312 (q 14) = aI E 2076 g9 ∧ FOK g9 ∧ g9 = upd g_283 (v_309 : Int32).toNatClampNeg (g_283 3) := ⟨_, hf_313, (ok_285.up (by first | omega | (simp only [Int32.lt_iff_toInt_lt, Int32.le_iff_toInt_le, Int32.reduceToInt, ← Int32.toInt_inj, true_and, and_true, or_true, true_or, false_or, or_false, false_and, and_false, not_true_eq_false, not_false_eq_true] <;> omega)) (fun q1 q2 => (by first | omega | (simp only [Int32.lt_iff_toInt_lt, Int32.le_iff_toInt_le, Int32.reduceToInt, ← Int32.toInt_inj] at *; omega))) (fun k9 q1 q2 q3 => (by first | omega | (simp only [Int32.lt_iff_toInt_lt, Int32.le_iff_toInt_le, Int32.reduceToInt, ← Int32.toInt_inj] at *; omega)))), rfl⟩
          have hf_319 := (hk_314 a_0 (ne_kd e_263 e_284 rfl)).trans e_263
          have fr_320 := FR.w hk_314 e_284 (k := 2176) rfl
          have h4_321 : (g_315 4).toInt = (g_f 4).toInt := upd_lo (g0 := g_f) 4 eg_318 h4_305 (by omega)
          have h5_322 : (g_315 5).toInt = (g_283 5).toInt := upd_lo (g0 := g_283) 5 eg_318 rfl (by omega)
          refine v_aload_n hC dX12_readTest_122 rfl ?_
          refine v_get hC fl_X12_34 m_1 hf_319 rfl dX12_readTest_123 ?_
          refine v_iload_n hC dX12_readTest_126 rfl ?_
          refine v_iconst hC dX12_readTest_127 (v := 1) (by decide) ?_
          obtain ⟨v_323, h_324⟩ : ∃ v9 : Int32, v_309 + 1 = v9 := ⟨_, rfl⟩
          refine v_iadd hC dX12_readTest_128 h_324 ?_
          have h_325 := add_v h_324 (by first | omega | (simp only [Int32.lt_iff_toInt_lt, Int32.le_iff_toInt_le, Int32.reduceToInt, ← Int32.toInt_inj, true_and, and_true, or_true, true_or, false_or, or_false, false_and, and_false, not_true_eq_false, not_false_eq_true] <;> omega)) (by first | omega | (simp only [Int32.lt_iff_toInt_lt, Int32.le_iff_toInt_le, Int32.reduceToInt, ← Int32.toInt_inj, true_and, and_true, or_true, true_or, false_or, or_false, false_and, and_false, not_true_eq_false, not_false_eq_true] <;> omega))
          try simp only [Int32.reduceToInt] at h_325
          refine v_iload_n hC dX12_readTest_129 rfl ?_
          refine v_iast hC m_22 hf_313 (vp_in_iff.mpr (by first | omega | (simp only [Int32.lt_iff_toInt_lt, Int32.le_iff_toInt_le, Int32.reduceToInt, ← Int32.toInt_inj, true_and, and_true, or_true, true_or, false_or, or_false, false_and, and_false, not_true_eq_false, not_false_eq_true] <;> omega))) dX12_readTest_130 (fun f_326 hf_327 hk_328 => ?_)
          have hW_330 := hW_316.up hf_327 hk_328 t_23 ⟨_, rfl, (ok_317.up (by first | omega | (simp only [Int32.lt_iff_toInt_lt, Int32.le_iff_toInt_le, Int32.reduceToInt, ← Int32.toInt_inj, true_and, and_true, or_true, true_or, false_or, or_false, false_and, and_false, not_true_eq_false, not_false_eq_true] <;> omega)) (fun q1 q2 => (by first | omega | (simp only [Int32.lt_iff_toInt_lt, Int32.le_iff_toInt_le, Int32.reduceToInt, ← Int32.toInt_inj] at *; omega))) (fun k9 q1 q2 q3 => (by first | omega | (simp only [Int32.lt_iff_toInt_lt, Int32.le_iff_toInt_le, Int32.reduceToInt, ← Int32.toInt_inj] at *; omega))))⟩
          obtain ⟨g_329, hf_327, ok_331, eg_332⟩ : ∃ g9, f_326 (q 14) = aI E 2076 g9 ∧ FOK g9 ∧ g9 = upd g_315 (v_323 : Int32).toNatClampNeg (g_f 5) := ⟨_, hf_327, (ok_317.up (by first | omega | (simp only [Int32.lt_iff_toInt_lt, Int32.le_iff_toInt_le, Int32.reduceToInt, ← Int32.toInt_inj, true_and, and_true, or_true, true_or, false_or, or_false, false_and, and_false, not_true_eq_false, not_false_eq_true] <;> omega)) (fun q1 q2 => (by first | omega | (simp only [Int32.lt_iff_toInt_lt, Int32.le_iff_toInt_le, Int32.reduceToInt, ← Int32.toInt_inj] at *; omega))) (fun k9 q1 q2 q3 => (by first | omega | (simp only [Int32.lt_iff_toInt_lt, Int32.le_iff_toInt_le, Int32.reduceToInt, ← Int32.toInt_inj] at *; omega)))), rfl⟩
          have hf_333 := (hk_328 a_0 (ne_kd hf_319 hf_313 rfl)).trans hf_319
          have fr_334 := FR.w hk_328 hf_313 (k := 2176) rfl
          have h4_335 : (g_329 4).toInt = (g_f 4).toInt := upd_lo (g0 := g_f) 4 eg_332 h4_321 (by omega)
          have h5_336 : (g_329 5).toInt = (g_283 5).toInt := upd_lo (g0 := g_283) 5 eg_332 h5_322 (by omega)
          refine v_aload_n hC dX12_readTest_131 rfl ?_
          refine v_get hC fl_X12_34 m_1 hf_333 rfl dX12_readTest_132 ?_
          refine v_iload_n hC dX12_readTest_135 rfl ?_
          refine v_iconst hC dX12_readTest_136 (v := 2) (by decide) ?_
          obtain ⟨v_337, h_338⟩ : ∃ v9 : Int32, v_309 + 2 = v9 := ⟨_, rfl⟩
          refine v_iadd hC dX12_readTest_137 h_338 ?_
          have h_339 := add_v h_338 (by first | omega | (simp only [Int32.lt_iff_toInt_lt, Int32.le_iff_toInt_le, Int32.reduceToInt, ← Int32.toInt_inj, true_and, and_true, or_true, true_or, false_or, or_false, false_and, and_false, not_true_eq_false, not_false_eq_true] <;> omega)) (by first | omega | (simp only [Int32.lt_iff_toInt_lt, Int32.le_iff_toInt_le, Int32.reduceToInt, ← Int32.toInt_inj, true_and, and_true, or_true, true_or, false_or, or_false, false_and, and_false, not_true_eq_false, not_false_eq_true] <;> omega))
          try simp only [Int32.reduceToInt] at h_339
          refine v_aload_n hC dX12_readTest_138 rfl ?_
          refine v_get hC fl_X12_34 m_1 hf_333 rfl dX12_readTest_139 ?_
          refine v_iconst hC dX12_readTest_142 (v := 5) (by decide) ?_
          refine v_iald hC m_22 hf_327 (vp_in_iff.mpr (by decide)) (v := g_329 5) rfl dX12_readTest_143 ?_
          refine v_iload_n hC dX12_readTest_144 rfl ?_
          obtain ⟨v_340, h_341⟩ : ∃ v9 : Int32, (g_329 5) - (g_f 5) = v9 := ⟨_, rfl⟩
          refine v_isub hC dX12_readTest_145 h_341 ?_
          have h_342 := sub_v h_341 (by first | omega | (simp only [Int32.lt_iff_toInt_lt, Int32.le_iff_toInt_le, Int32.reduceToInt, ← Int32.toInt_inj, true_and, and_true, or_true, true_or, false_or, or_false, false_and, and_false, not_true_eq_false, not_false_eq_true] <;> omega)) (by first | omega | (simp only [Int32.lt_iff_toInt_lt, Int32.le_iff_toInt_le, Int32.reduceToInt, ← Int32.toInt_inj, true_and, and_true, or_true, true_or, false_or, or_false, false_and, and_false, not_true_eq_false, not_false_eq_true] <;> omega))
          refine v_iast hC m_22 hf_327 (vp_in_iff.mpr (by first | omega | (simp only [Int32.lt_iff_toInt_lt, Int32.le_iff_toInt_le, Int32.reduceToInt, ← Int32.toInt_inj, true_and, and_true, or_true, true_or, false_or, or_false, false_and, and_false, not_true_eq_false, not_false_eq_true] <;> omega))) dX12_readTest_146 (fun f_343 hf_344 hk_345 => ?_)
          have hW_347 := hW_330.up hf_344 hk_345 t_23 ⟨_, rfl, (ok_331.up (by first | omega | (simp only [Int32.lt_iff_toInt_lt, Int32.le_iff_toInt_le, Int32.reduceToInt, ← Int32.toInt_inj, true_and, and_true, or_true, true_or, false_or, or_false, false_and, and_false, not_true_eq_false, not_false_eq_true] <;> omega)) (fun q1 q2 => (by first | omega | (simp only [Int32.lt_iff_toInt_lt, Int32.le_iff_toInt_le, Int32.reduceToInt, ← Int32.toInt_inj] at *; omega))) (fun k9 q1 q2 q3 => (by first | omega | (simp only [Int32.lt_iff_toInt_lt, Int32.le_iff_toInt_le, Int32.reduceToInt, ← Int32.toInt_inj] at *; omega))))⟩
          obtain ⟨g_346, hf_344, ok_348, eg_349⟩ : ∃ g9, f_343 (q 14) = aI E 2076 g9 ∧ FOK g9 ∧ g9 = upd g_329 (v_337 : Int32).toNatClampNeg v_340 := ⟨_, hf_344, (ok_331.up (by first | omega | (simp only [Int32.lt_iff_toInt_lt, Int32.le_iff_toInt_le, Int32.reduceToInt, ← Int32.toInt_inj, true_and, and_true, or_true, true_or, false_or, or_false, false_and, and_false, not_true_eq_false, not_false_eq_true] <;> omega)) (fun q1 q2 => (by first | omega | (simp only [Int32.lt_iff_toInt_lt, Int32.le_iff_toInt_le, Int32.reduceToInt, ← Int32.toInt_inj] at *; omega))) (fun k9 q1 q2 q3 => (by first | omega | (simp only [Int32.lt_iff_toInt_lt, Int32.le_iff_toInt_le, Int32.reduceToInt, ← Int32.toInt_inj] at *; omega)))), rfl⟩
          have hf_350 := (hk_345 a_0 (ne_kd hf_333 hf_327 rfl)).trans hf_333
          have fr_351 := FR.w hk_345 hf_327 (k := 2176) rfl
          have h4_352 : (g_346 4).toInt = (g_f 4).toInt := upd_lo (g0 := g_f) 4 eg_349 h4_335 (by omega)
          have h5_353 : (g_346 5).toInt = (g_283 5).toInt := upd_lo (g0 := g_283) 5 eg_349 h5_336 (by omega)
          refine v_aload_n hC dX12_readTest_147 rfl ?_
          refine v_get hC fl_X12_34 m_1 hf_350 rfl dX12_readTest_148 ?_
          refine v_iload_n hC dX12_readTest_151 rfl ?_
          refine v_iconst hC dX12_readTest_152 (v := 3) (by decide) ?_
          obtain ⟨v_354, h_355⟩ : ∃ v9 : Int32, v_309 + 3 = v9 := ⟨_, rfl⟩
          refine v_iadd hC dX12_readTest_153 h_355 ?_
          have h_356 := add_v h_355 (by first | omega | (simp only [Int32.lt_iff_toInt_lt, Int32.le_iff_toInt_le, Int32.reduceToInt, ← Int32.toInt_inj, true_and, and_true, or_true, true_or, false_or, or_false, false_and, and_false, not_true_eq_false, not_false_eq_true] <;> omega)) (by first | omega | (simp only [Int32.lt_iff_toInt_lt, Int32.le_iff_toInt_le, Int32.reduceToInt, ← Int32.toInt_inj, true_and, and_true, or_true, true_or, false_or, or_false, false_and, and_false, not_true_eq_false, not_false_eq_true] <;> omega))
          try simp only [Int32.reduceToInt] at h_356
          refine v_iload_n hC dX12_readTest_154 rfl ?_
          refine v_iast hC m_22 hf_344 (vp_in_iff.mpr (by first | omega | (simp only [Int32.lt_iff_toInt_lt, Int32.le_iff_toInt_le, Int32.reduceToInt, ← Int32.toInt_inj, true_and, and_true, or_true, true_or, false_or, or_false, false_and, and_false, not_true_eq_false, not_false_eq_true] <;> omega))) dX12_readTest_155 (fun f_357 hf_358 hk_359 => ?_)
          have hW_361 := hW_347.up hf_358 hk_359 t_23 ⟨_, rfl, (ok_348.up (by first | omega | (simp only [Int32.lt_iff_toInt_lt, Int32.le_iff_toInt_le, Int32.reduceToInt, ← Int32.toInt_inj, true_and, and_true, or_true, true_or, false_or, or_false, false_and, and_false, not_true_eq_false, not_false_eq_true] <;> omega)) (fun q1 q2 => (by first | omega | (simp only [Int32.lt_iff_toInt_lt, Int32.le_iff_toInt_le, Int32.reduceToInt, ← Int32.toInt_inj] at *; omega))) (fun k9 q1 q2 q3 => (by first | omega | (simp only [Int32.lt_iff_toInt_lt, Int32.le_iff_toInt_le, Int32.reduceToInt, ← Int32.toInt_inj] at *; omega))))⟩
          obtain ⟨g_360, hf_358, ok_362, eg_363⟩ : ∃ g9, f_357 (q 14) = aI E 2076 g9 ∧ FOK g9 ∧ g9 = upd g_346 (v_354 : Int32).toNatClampNeg 2 := ⟨_, hf_358, (ok_348.up (by first | omega | (simp only [Int32.lt_iff_toInt_lt, Int32.le_iff_toInt_le, Int32.reduceToInt, ← Int32.toInt_inj, true_and, and_true, or_true, true_or, false_or, or_false, false_and, and_false, not_true_eq_false, not_false_eq_true] <;> omega)) (fun q1 q2 => (by first | omega | (simp only [Int32.lt_iff_toInt_lt, Int32.le_iff_toInt_le, Int32.reduceToInt, ← Int32.toInt_inj] at *; omega))) (fun k9 q1 q2 q3 => (by first | omega | (simp only [Int32.lt_iff_toInt_lt, Int32.le_iff_toInt_le, Int32.reduceToInt, ← Int32.toInt_inj] at *; omega)))), rfl⟩
          have hf_364 := (hk_359 a_0 (ne_kd hf_350 hf_344 rfl)).trans hf_350
          have fr_365 := FR.w hk_359 hf_344 (k := 2176) rfl
          have h4_366 : (g_360 4).toInt = (g_f 4).toInt := upd_lo (g0 := g_f) 4 eg_363 h4_352 (by omega)
          have h5_367 : (g_360 5).toInt = (g_283 5).toInt := upd_lo (g0 := g_283) 5 eg_363 h5_353 (by omega)
          refine v_aload_n hC dX12_readTest_156 rfl ?_
          refine v_get hC fl_X12_34 m_1 hf_364 rfl dX12_readTest_157 ?_
          refine v_iconst hC dX12_readTest_160 (v := 4) (by decide) ?_
          refine v_dup2 hC dX12_readTest_161 rfl rfl ?_
          refine v_iald hC m_22 hf_358 (vp_in_iff.mpr (by decide)) (v := g_360 4) rfl dX12_readTest_162 ?_
          refine v_iconst hC dX12_readTest_163 (v := 1) (by decide) ?_
          obtain ⟨v_368, h_369⟩ : ∃ v9 : Int32, (g_360 4) + 1 = v9 := ⟨_, rfl⟩
          refine v_iadd hC dX12_readTest_164 h_369 ?_
          have h_370 := add_v h_369 (by first | omega | (simp only [Int32.lt_iff_toInt_lt, Int32.le_iff_toInt_le, Int32.reduceToInt, ← Int32.toInt_inj, true_and, and_true, or_true, true_or, false_or, or_false, false_and, and_false, not_true_eq_false, not_false_eq_true] <;> omega)) (by first | omega | (simp only [Int32.lt_iff_toInt_lt, Int32.le_iff_toInt_le, Int32.reduceToInt, ← Int32.toInt_inj, true_and, and_true, or_true, true_or, false_or, or_false, false_and, and_false, not_true_eq_false, not_false_eq_true] <;> omega))
          try simp only [Int32.reduceToInt] at h_370
          refine v_iast hC m_22 hf_358 (vp_in_iff.mpr (by decide)) dX12_readTest_165 (fun f_371 hf_372 hk_373 => ?_)
          have hW_375 := hW_361.up hf_372 hk_373 t_23 ⟨_, rfl, (ok_362.up (i := 4) (by decide) (fun q1 q2 => absurd (And.intro q1 q2) (by decide)) (fun k9 q1 q2 q3 => by simp only [Int32.reduceToInt] at q3; omega))⟩
          obtain ⟨g_374, hf_372, ok_376, eg_377⟩ : ∃ g9, f_371 (q 14) = aI E 2076 g9 ∧ FOK g9 ∧ g9 = upd g_360 (4 : Int32).toNatClampNeg v_368 := ⟨_, hf_372, (ok_362.up (i := 4) (by decide) (fun q1 q2 => absurd (And.intro q1 q2) (by decide)) (fun k9 q1 q2 q3 => by simp only [Int32.reduceToInt] at q3; omega)), rfl⟩
          have hf_378 := (hk_373 a_0 (ne_kd hf_364 hf_358 rfl)).trans hf_364
          have fr_379 := FR.w hk_373 hf_358 (k := 2176) rfl
          have wf_380 := WC.fin hWC pg_289 (by omega) eg_318 eg_332 eg_349 eg_363 eg_377 (by omega) (by omega) (by omega) (by omega) (by omega) (by omega) (by omega) (by omega)
          have wf_380_t := wf_380.2
          have fe_381 : fld (f_371 a_0) 9 = (v_270 : Int32).toInt := by rw [hf_378]; rfl
          have fe_382 : fld (f_371 a_0) 12 = (v_275 : Int32).toInt := by rw [hf_378]; rfl
          have fe_383 : fld (f_371 a_0) 8 = (v_268 : Int32).toInt := by rw [hf_378]; rfl
          have fe_384 : fld (f_371 a_0) 9 = (v_270 : Int32).toInt := by rw [hf_378]; rfl
          have fe_385 : fld (f_371 a_0) 10 = (v_272 : Int32).toInt := by rw [hf_378]; rfl
          have fe_386 : fld (f_371 a_0) 12 = (v_275 : Int32).toInt := by rw [hf_378]; rfl
          exact hR _ _ _ _ _ _ dX12_readTest_166 (Nat.le_of_ble_eq_true rfl) (Nat.le_of_ble_eq_true rfl) ⟨rfl, hW_375, ((((((((hF_57.tr hF_213).tr hF_260).tr fr_320).tr fr_334).tr fr_351).tr fr_365).tr fr_379).mono rfl), ⟨_, hf_372, ok_376, wf_380.1, (by simp only [fe_381, fe_382]; by_cases q9 : (v_275 : Int32).toInt = 0; (right; omega); exact .inl q9)⟩, (by simp only [fe_383, fe_384, fe_385, fe_386, mz_40, mz_43]; by_cases q9 : (v_275 : Int32).toInt = 0; (right; omega); exact .inl q9)⟩
        · simp only [Int32.lt_iff_toInt_lt, Int32.le_iff_toInt_le, Int32.reduceToInt, ← Int32.toInt_inj] at h_299
          have g0_304 := gd_f x_295 h_299
          clear x_295
          clear x_258
          clear gs_288
          have fe_387 : fld (f_255 a_0) 9 = (v_270 : Int32).toInt := by rw [e_263]; rfl
          have fe_388 : fld (f_255 a_0) 12 = (v_275 : Int32).toInt := by rw [e_263]; rfl
          have fe_389 : fld (f_255 a_0) 8 = (v_268 : Int32).toInt := by rw [e_263]; rfl
          have fe_390 : fld (f_255 a_0) 9 = (v_270 : Int32).toInt := by rw [e_263]; rfl
          have fe_391 : fld (f_255 a_0) 10 = (v_272 : Int32).toInt := by rw [e_263]; rfl
          have fe_392 : fld (f_255 a_0) 12 = (v_275 : Int32).toInt := by rw [e_263]; rfl
          exact hR _ _ _ _ _ _ dX12_readTest_96 (Nat.le_of_ble_eq_true rfl) (Nat.le_of_ble_eq_true rfl) ⟨rfl, hW_259, (((hF_57.tr hF_213).tr hF_260).mono rfl), ⟨_, e_284, ok_285, (hWC.pg pg_289 (by omega)), (by simp only [fe_387, fe_388]; exact .inl g0_304)⟩, (by simp only [fe_389, fe_390, fe_391, fe_392, mz_40, mz_43]; exact .inl g0_304)⟩
    · simp only [Int32.lt_iff_toInt_lt, Int32.le_iff_toInt_le, Int32.reduceToInt, ← Int32.toInt_inj] at h_109
      have ip_110 := (iw_b (f_52 a_0) (f_52 (q 4)) 68).2.resolve_left (by omega)
      have ln_111 : ((bytStr.getD 68 []).length : Int) = 4 := by rfl
      have fe_112 : fld (f_52 a_0) 8 = (v_65 : Int32).toInt := by rw [e_60]; rfl
      have fe_113 : fld (f_52 a_0) 9 = (v_67 : Int32).toInt := by rw [e_60]; rfl
      have fe_114 : fld (f_52 a_0) 10 = (v_69 : Int32).toInt := by rw [e_60]; rfl
      have fe_115 : fld (f_52 a_0) 12 = (v_72 : Int32).toInt := by rw [e_60]; rfl
      rw [fe_112, fe_113, fe_114, fe_115] at ip_110
      have g0_116 := ip_110.1
      have gp_117 := gs_85.resolve_left (fun h9 => h9 g0_116)
      clear gs_85
      have gp_118 := x_55.resolve_left (fun h9 => h9 g0_116)
      clear x_55
      refine v_iconst hC dX12_readTest_36 (v := 1) (by decide) ?_
      refine v_goto hC dX12_readTest_37 (tgt := 55) (by decide) ?_
      refine v_istore_n hC dX12_readTest_55 (by decide) (lv' := [(2, .int 1), (1, .int (g_f 5)), (0, .ref a_0)]) rfl ?_
      refine v_iload_n hC dX12_readTest_56 rfl ?_
      refine v_iconst hC dX12_readTest_57 (v := (-1)) (by decide) ?_
      refine v_icmp_ne_t hC dX12_readTest_58 (tgt := 66) (by decide) (by decide) ?_
      refine v_aload_n hC dX12_readTest_66 rfl ?_
      refine v_vi hC (rest := []) m_1 e_60 rfl mi_X12_good ms_X12_good (p_X12_good hW_56 k_0) mx_X12_good ml_X12_139 (by decide) rfl (cells1 := 0) (slots1 := 0) (by decide) (by decide) (Nat.le_of_ble_eq_true rfl) (Nat.le_of_ble_eq_true rfl) rfl (Nat.le_of_ble_eq_true rfl) dX12_readTest_67 (fun r_393 L_394 f_395 h_396 => ?_)
      obtain ⟨rfl, rfl, b_397, x_398⟩ := h_396
      have fe_401 : fld (f_52 a_0) 12 = (v_72 : Int32).toInt := by rw [e_60]; rfl
      rw [fe_401] at x_398
      clear fe_401
      try simp only [Int32.reduceToInt, Int64.reduceToInt] at x_398
      refine v_if_eq_f hC dX12_readTest_70 (tgt := 77) (by decide) (gdb_n x_398 g0_116) ?_
      refine v_aload_n hC dX12_readTest_73 rfl ?_
      refine v_vv hC (rest := []) m_1 e_60 rfl mi_X12_advance ms_X12_advance (p_X12_advance hW_56 k_0) mx_X12_advance ml_X12_156 (by decide) rfl (cells1 := 0) (slots1 := 0) (by decide) (by decide) (Nat.le_of_ble_eq_true rfl) (Nat.le_of_ble_eq_true rfl) rfl (Nat.le_of_ble_eq_true rfl) dX12_readTest_74 (fun L_403 f_404 h_405 => ?_)
      obtain ⟨rfl, hW_409, hF_410, x_406, x_407, x_408, -⟩ := h_405
      have fe_411 : fld (f_52 a_0) 8 = (v_65 : Int32).toInt := by rw [e_60]; rfl
      have fe_412 : fld (f_52 a_0) 12 = (v_72 : Int32).toInt := by rw [e_60]; rfl
      have hf_413 := hF_410.at e_81 rfl
      obtain ⟨v_415, v_416, v_417, v_419, v_421, v_423, v_425, v_426, v_427, v_428, v_429, e_414, -, b_418, b_420, b_422, b_424, -, -⟩ := hW_409.at m_1 t_2
      have fe_430 : fld (f_404 a_0) 8 = (v_419 : Int32).toInt := by rw [e_414]; rfl
      have fe_431 : fld (f_404 a_0) 9 = (v_421 : Int32).toInt := by rw [e_414]; rfl
      have fe_432 : fld (f_404 a_0) 10 = (v_423 : Int32).toInt := by rw [e_414]; rfl
      have fe_433 : fld (f_404 a_0) 12 = (v_426 : Int32).toInt := by rw [e_414]; rfl
      rw [fe_411, fe_431, fe_430] at x_406
      rw [fe_432, fe_431, fe_430] at x_407
      rw [fe_433, fe_412] at x_408
      have g0_434 := x_408.trans g0_116
      clear fe_411 fe_412 fe_430 fe_431 fe_432 fe_433
      refine v_aload_n hC dX12_readTest_77 rfl ?_
      refine v_vi hC (rest := []) m_1 e_414 rfl mi_X12_good ms_X12_good (p_X12_good hW_409 k_0) mx_X12_good ml_X12_139 (by decide) rfl (cells1 := 0) (slots1 := 0) (by decide) (by decide) (Nat.le_of_ble_eq_true rfl) (Nat.le_of_ble_eq_true rfl) rfl (Nat.le_of_ble_eq_true rfl) dX12_readTest_78 (fun r_435 L_436 f_437 h_438 => ?_)
      obtain ⟨rfl, rfl, b_439, x_440⟩ := h_438
      have fe_443 : fld (f_404 a_0) 12 = (v_426 : Int32).toInt := by rw [e_414]; rfl
      rw [fe_443] at x_440
      clear fe_443
      try simp only [Int32.reduceToInt, Int64.reduceToInt] at x_440
      refine v_if_eq_f hC dX12_readTest_81 (tgt := 89) (by decide) (gdb_n x_440 g0_434) ?_
      refine v_aload_n hC dX12_readTest_84 rfl ?_
      refine v_iconst hC dX12_readTest_85 (v := 4) (by decide) ?_
      have fe_444 : fld (f_404 a_0) 9 = (v_421 : Int32).toInt := by rw [e_414]; rfl
      have fe_445 : fld (f_404 a_0) 12 = (v_426 : Int32).toInt := by rw [e_414]; rfl
      have fe_446 : fld (f_404 a_0) 8 = (v_419 : Int32).toInt := by rw [e_414]; rfl
      have fe_447 : fld (f_404 a_0) 9 = (v_421 : Int32).toInt := by rw [e_414]; rfl
      have fe_448 : fld (f_404 a_0) 10 = (v_423 : Int32).toInt := by rw [e_414]; rfl
      have fe_449 : fld (f_404 a_0) 12 = (v_426 : Int32).toInt := by rw [e_414]; rfl
      refine v_vv hC (rest := []) m_1 e_414 rfl mi_X12_readSum ms_X12_readSum (p_X12_readSum hW_409 k_0 hf_413 ok_82 (by first | omega | (simp only [Int32.lt_iff_toInt_lt, Int32.le_iff_toInt_le, Int32.reduceToInt, ← Int32.toInt_inj, true_and, and_true, or_true, true_or, false_or, or_false, false_and, and_false, not_true_eq_false, not_false_eq_true] <;> omega)) (by simp only [fe_444, fe_445]; omega) (by simp only [fe_446, fe_447, fe_448, fe_449]; omega)) mx_X12_readSum ml_X12_269 (by decide) rfl (cells1 := 0) (slots1 := 0) (by decide) (by decide) (Nat.le_of_ble_eq_true rfl) (Nat.le_of_ble_eq_true rfl) rfl (Nat.le_of_ble_eq_true rfl) dX12_readTest_86 (fun L_451 f_452 h_453 => ?_)
      obtain ⟨rfl, hW_456, hF_457, x_454, x_455⟩ := h_453
      have fe_458 : fld (f_404 a_0) 8 = (v_419 : Int32).toInt := by rw [e_414]; rfl
      have fe_459 : fld (f_404 a_0) 12 = (v_426 : Int32).toInt := by rw [e_414]; rfl
      obtain ⟨v_461, v_462, v_463, v_465, v_467, v_469, v_471, v_472, v_473, v_474, v_475, e_460, -, b_464, b_466, b_468, b_470, -, -⟩ := hW_456.at m_1 t_2
      have fe_476 : fld (f_452 a_0) 8 = (v_465 : Int32).toInt := by rw [e_460]; rfl
      have fe_477 : fld (f_452 a_0) 9 = (v_467 : Int32).toInt := by rw [e_460]; rfl
      have fe_478 : fld (f_452 a_0) 10 = (v_469 : Int32).toInt := by rw [e_460]; rfl
      have fe_479 : fld (f_452 a_0) 12 = (v_472 : Int32).toInt := by rw [e_460]; rfl
      rw [fe_479, fe_477] at x_454
      rw [fe_479, fe_459, fe_458, fe_477, fe_476, fe_478] at x_455
      clear fe_458 fe_459 fe_476 fe_477 fe_478 fe_479
      obtain ⟨g_480, e_481, ok_482, pg_483, bp_484, gs_485⟩ := x_454
      have pg_486 := PG.tr pg_86 pg_483
      refine v_aload_n hC dX12_readTest_89 rfl ?_
      refine v_vi hC (rest := []) m_1 e_460 rfl mi_X12_good ms_X12_good (p_X12_good hW_456 k_0) mx_X12_good ml_X12_139 (by decide) rfl (cells1 := 0) (slots1 := 0) (by decide) (by decide) (Nat.le_of_ble_eq_true rfl) (Nat.le_of_ble_eq_true rfl) rfl (Nat.le_of_ble_eq_true rfl) dX12_readTest_90 (fun r_487 L_488 f_489 h_490 => ?_)
      obtain ⟨rfl, rfl, b_491, x_492⟩ := h_490
      have fe_495 : fld (f_452 a_0) 12 = (v_472 : Int32).toInt := by rw [e_460]; rfl
      rw [fe_495] at x_492
      clear fe_495
      try simp only [Int32.reduceToInt, Int64.reduceToInt] at x_492
      refine v_if_ne hC dX12_readTest_93 (tgt := 97) (by decide) (fun h_496 => ?_) (fun h_496 => ?_)
      · simp only [Int32.lt_iff_toInt_lt, Int32.le_iff_toInt_le, Int32.reduceToInt, ← Int32.toInt_inj] at h_496
        have nb_497 : (1 ≤ r_487.toInt ∧ r_487.toInt ≤ 1) := by omega
        have g0_498 := gd_t x_492 h_496
        clear x_492
        have gp_499 := gs_485.resolve_left (fun h9 => h9 g0_498)
        clear gs_485
        have gp_500 := x_455.resolve_left (fun h9 => h9 g0_498)
        clear x_455
        refine v_sipush hC dX12_readTest_97 (v := 162) (by decide) ?_
        refine v_iconst hC dX12_readTest_100 (v := 4) (by decide) ?_
        refine v_aload_n hC dX12_readTest_101 rfl ?_
        refine v_get hC fl_X12_34 m_1 e_460 rfl dX12_readTest_102 ?_
        refine v_iconst hC dX12_readTest_105 (v := 4) (by decide) ?_
        refine v_iald hC m_22 e_481 (vp_in_iff.mpr (by decide)) (v := g_480 4) rfl dX12_readTest_106 ?_
        have h4_502 : (g_480 4).toInt = (g_f 4).toInt := congrArg Int32.toInt (pg_486 4 (by decide) (by decide))
        obtain ⟨v_503, h_504⟩ : ∃ v9 : Int32, (4 : Int32) * (g_480 4) = v9 := ⟨_, rfl⟩
        refine v_imul hC dX12_readTest_107 h_504 ?_
        have h_505 := mul_v 4 75 300 h_504 (by decide) (by first | omega | (simp only [Int32.lt_iff_toInt_lt, Int32.le_iff_toInt_le, Int32.reduceToInt, ← Int32.toInt_inj, true_and, and_true, or_true, true_or, false_or, or_false, false_and, and_false, not_true_eq_false, not_false_eq_true] <;> omega)) (by decide) (by decide)
        try simp only [Int32.reduceToInt] at h_505
        obtain ⟨v_506, h_507⟩ : ∃ v9 : Int32, (162 : Int32) + v_503 = v9 := ⟨_, rfl⟩
        refine v_iadd hC dX12_readTest_108 h_507 ?_
        have h_508 := add_v h_507 (by first | omega | (simp only [Int32.lt_iff_toInt_lt, Int32.le_iff_toInt_le, Int32.reduceToInt, ← Int32.toInt_inj, true_and, and_true, or_true, true_or, false_or, or_false, false_and, and_false, not_true_eq_false, not_false_eq_true] <;> omega)) (by first | omega | (simp only [Int32.lt_iff_toInt_lt, Int32.le_iff_toInt_le, Int32.reduceToInt, ← Int32.toInt_inj, true_and, and_true, or_true, true_or, false_or, or_false, false_and, and_false, not_true_eq_false, not_false_eq_true] <;> omega))
        try simp only [Int32.reduceToInt] at h_508
        refine v_istore_n hC dX12_readTest_109 (by decide) (lv' := [(3, .int v_506), (2, .int 1), (1, .int (g_f 5)), (0, .ref a_0)]) rfl ?_
        refine v_aload_n hC dX12_readTest_110 rfl ?_
        refine v_get hC fl_X12_34 m_1 e_460 rfl dX12_readTest_111 ?_
        refine v_iload_n hC dX12_readTest_114 rfl ?_
        refine v_aload_n hC dX12_readTest_115 rfl ?_
        refine v_get hC fl_X12_34 m_1 e_460 rfl dX12_readTest_116 ?_
        refine v_iconst hC dX12_readTest_119 (v := 3) (by decide) ?_
        refine v_iald hC m_22 e_481 (vp_in_iff.mpr (by decide)) (v := g_480 3) rfl dX12_readTest_120 ?_
        refine v_iast hC m_22 e_481 (vp_in_iff.mpr (by first | omega | (simp only [Int32.lt_iff_toInt_lt, Int32.le_iff_toInt_le, Int32.reduceToInt, ← Int32.toInt_inj, true_and, and_true, or_true, true_or, false_or, or_false, false_and, and_false, not_true_eq_false, not_false_eq_true] <;> omega))) dX12_readTest_121 (fun f_509 hf_510 hk_511 => ?_)
        have hW_513 := hW_456.up hf_510 hk_511 t_23 ⟨_, rfl, (ok_482.up (by first | omega | (simp only [Int32.lt_iff_toInt_lt, Int32.le_iff_toInt_le, Int32.reduceToInt, ← Int32.toInt_inj, true_and, and_true, or_true, true_or, false_or, or_false, false_and, and_false, not_true_eq_false, not_false_eq_true] <;> omega)) (fun q1 q2 => (by first | omega | (simp only [Int32.lt_iff_toInt_lt, Int32.le_iff_toInt_le, Int32.reduceToInt, ← Int32.toInt_inj] at *; omega))) (fun k9 q1 q2 q3 => (by first | omega | (simp only [Int32.lt_iff_toInt_lt, Int32.le_iff_toInt_le, Int32.reduceToInt, ← Int32.toInt_inj] at *; omega))))⟩
        obtain ⟨g_512, hf_510, ok_514, eg_515⟩ : ∃ g9, f_509 (q 14) = aI E 2076 g9 ∧ FOK g9 ∧ g9 = upd g_480 (v_506 : Int32).toNatClampNeg (g_480 3) := ⟨_, hf_510, (ok_482.up (by first | omega | (simp only [Int32.lt_iff_toInt_lt, Int32.le_iff_toInt_le, Int32.reduceToInt, ← Int32.toInt_inj, true_and, and_true, or_true, true_or, false_or, or_false, false_and, and_false, not_true_eq_false, not_false_eq_true] <;> omega)) (fun q1 q2 => (by first | omega | (simp only [Int32.lt_iff_toInt_lt, Int32.le_iff_toInt_le, Int32.reduceToInt, ← Int32.toInt_inj] at *; omega))) (fun k9 q1 q2 q3 => (by first | omega | (simp only [Int32.lt_iff_toInt_lt, Int32.le_iff_toInt_le, Int32.reduceToInt, ← Int32.toInt_inj] at *; omega)))), rfl⟩
        have hf_516 := (hk_511 a_0 (ne_kd e_460 e_481 rfl)).trans e_460
        have fr_517 := FR.w hk_511 e_481 (k := 2176) rfl
        have h4_518 : (g_512 4).toInt = (g_f 4).toInt := upd_lo (g0 := g_f) 4 eg_515 h4_502 (by omega)
        have h5_519 : (g_512 5).toInt = (g_480 5).toInt := upd_lo (g0 := g_480) 5 eg_515 rfl (by omega)
        refine v_aload_n hC dX12_readTest_122 rfl ?_
        refine v_get hC fl_X12_34 m_1 hf_516 rfl dX12_readTest_123 ?_
        refine v_iload_n hC dX12_readTest_126 rfl ?_
        refine v_iconst hC dX12_readTest_127 (v := 1) (by decide) ?_
        obtain ⟨v_520, h_521⟩ : ∃ v9 : Int32, v_506 + 1 = v9 := ⟨_, rfl⟩
        refine v_iadd hC dX12_readTest_128 h_521 ?_
        have h_522 := add_v h_521 (by first | omega | (simp only [Int32.lt_iff_toInt_lt, Int32.le_iff_toInt_le, Int32.reduceToInt, ← Int32.toInt_inj, true_and, and_true, or_true, true_or, false_or, or_false, false_and, and_false, not_true_eq_false, not_false_eq_true] <;> omega)) (by first | omega | (simp only [Int32.lt_iff_toInt_lt, Int32.le_iff_toInt_le, Int32.reduceToInt, ← Int32.toInt_inj, true_and, and_true, or_true, true_or, false_or, or_false, false_and, and_false, not_true_eq_false, not_false_eq_true] <;> omega))
        try simp only [Int32.reduceToInt] at h_522
        refine v_iload_n hC dX12_readTest_129 rfl ?_
        refine v_iast hC m_22 hf_510 (vp_in_iff.mpr (by first | omega | (simp only [Int32.lt_iff_toInt_lt, Int32.le_iff_toInt_le, Int32.reduceToInt, ← Int32.toInt_inj, true_and, and_true, or_true, true_or, false_or, or_false, false_and, and_false, not_true_eq_false, not_false_eq_true] <;> omega))) dX12_readTest_130 (fun f_523 hf_524 hk_525 => ?_)
        have hW_527 := hW_513.up hf_524 hk_525 t_23 ⟨_, rfl, (ok_514.up (by first | omega | (simp only [Int32.lt_iff_toInt_lt, Int32.le_iff_toInt_le, Int32.reduceToInt, ← Int32.toInt_inj, true_and, and_true, or_true, true_or, false_or, or_false, false_and, and_false, not_true_eq_false, not_false_eq_true] <;> omega)) (fun q1 q2 => (by first | omega | (simp only [Int32.lt_iff_toInt_lt, Int32.le_iff_toInt_le, Int32.reduceToInt, ← Int32.toInt_inj] at *; omega))) (fun k9 q1 q2 q3 => (by first | omega | (simp only [Int32.lt_iff_toInt_lt, Int32.le_iff_toInt_le, Int32.reduceToInt, ← Int32.toInt_inj] at *; omega))))⟩
        obtain ⟨g_526, hf_524, ok_528, eg_529⟩ : ∃ g9, f_523 (q 14) = aI E 2076 g9 ∧ FOK g9 ∧ g9 = upd g_512 (v_520 : Int32).toNatClampNeg (g_f 5) := ⟨_, hf_524, (ok_514.up (by first | omega | (simp only [Int32.lt_iff_toInt_lt, Int32.le_iff_toInt_le, Int32.reduceToInt, ← Int32.toInt_inj, true_and, and_true, or_true, true_or, false_or, or_false, false_and, and_false, not_true_eq_false, not_false_eq_true] <;> omega)) (fun q1 q2 => (by first | omega | (simp only [Int32.lt_iff_toInt_lt, Int32.le_iff_toInt_le, Int32.reduceToInt, ← Int32.toInt_inj] at *; omega))) (fun k9 q1 q2 q3 => (by first | omega | (simp only [Int32.lt_iff_toInt_lt, Int32.le_iff_toInt_le, Int32.reduceToInt, ← Int32.toInt_inj] at *; omega)))), rfl⟩
        have hf_530 := (hk_525 a_0 (ne_kd hf_516 hf_510 rfl)).trans hf_516
        have fr_531 := FR.w hk_525 hf_510 (k := 2176) rfl
        have h4_532 : (g_526 4).toInt = (g_f 4).toInt := upd_lo (g0 := g_f) 4 eg_529 h4_518 (by omega)
        have h5_533 : (g_526 5).toInt = (g_480 5).toInt := upd_lo (g0 := g_480) 5 eg_529 h5_519 (by omega)
        refine v_aload_n hC dX12_readTest_131 rfl ?_
        refine v_get hC fl_X12_34 m_1 hf_530 rfl dX12_readTest_132 ?_
        refine v_iload_n hC dX12_readTest_135 rfl ?_
        refine v_iconst hC dX12_readTest_136 (v := 2) (by decide) ?_
        obtain ⟨v_534, h_535⟩ : ∃ v9 : Int32, v_506 + 2 = v9 := ⟨_, rfl⟩
        refine v_iadd hC dX12_readTest_137 h_535 ?_
        have h_536 := add_v h_535 (by first | omega | (simp only [Int32.lt_iff_toInt_lt, Int32.le_iff_toInt_le, Int32.reduceToInt, ← Int32.toInt_inj, true_and, and_true, or_true, true_or, false_or, or_false, false_and, and_false, not_true_eq_false, not_false_eq_true] <;> omega)) (by first | omega | (simp only [Int32.lt_iff_toInt_lt, Int32.le_iff_toInt_le, Int32.reduceToInt, ← Int32.toInt_inj, true_and, and_true, or_true, true_or, false_or, or_false, false_and, and_false, not_true_eq_false, not_false_eq_true] <;> omega))
        try simp only [Int32.reduceToInt] at h_536
        refine v_aload_n hC dX12_readTest_138 rfl ?_
        refine v_get hC fl_X12_34 m_1 hf_530 rfl dX12_readTest_139 ?_
        refine v_iconst hC dX12_readTest_142 (v := 5) (by decide) ?_
        refine v_iald hC m_22 hf_524 (vp_in_iff.mpr (by decide)) (v := g_526 5) rfl dX12_readTest_143 ?_
        refine v_iload_n hC dX12_readTest_144 rfl ?_
        obtain ⟨v_537, h_538⟩ : ∃ v9 : Int32, (g_526 5) - (g_f 5) = v9 := ⟨_, rfl⟩
        refine v_isub hC dX12_readTest_145 h_538 ?_
        have h_539 := sub_v h_538 (by first | omega | (simp only [Int32.lt_iff_toInt_lt, Int32.le_iff_toInt_le, Int32.reduceToInt, ← Int32.toInt_inj, true_and, and_true, or_true, true_or, false_or, or_false, false_and, and_false, not_true_eq_false, not_false_eq_true] <;> omega)) (by first | omega | (simp only [Int32.lt_iff_toInt_lt, Int32.le_iff_toInt_le, Int32.reduceToInt, ← Int32.toInt_inj, true_and, and_true, or_true, true_or, false_or, or_false, false_and, and_false, not_true_eq_false, not_false_eq_true] <;> omega))
        refine v_iast hC m_22 hf_524 (vp_in_iff.mpr (by first | omega | (simp only [Int32.lt_iff_toInt_lt, Int32.le_iff_toInt_le, Int32.reduceToInt, ← Int32.toInt_inj, true_and, and_true, or_true, true_or, false_or, or_false, false_and, and_false, not_true_eq_false, not_false_eq_true] <;> omega))) dX12_readTest_146 (fun f_540 hf_541 hk_542 => ?_)
        have hW_544 := hW_527.up hf_541 hk_542 t_23 ⟨_, rfl, (ok_528.up (by first | omega | (simp only [Int32.lt_iff_toInt_lt, Int32.le_iff_toInt_le, Int32.reduceToInt, ← Int32.toInt_inj, true_and, and_true, or_true, true_or, false_or, or_false, false_and, and_false, not_true_eq_false, not_false_eq_true] <;> omega)) (fun q1 q2 => (by first | omega | (simp only [Int32.lt_iff_toInt_lt, Int32.le_iff_toInt_le, Int32.reduceToInt, ← Int32.toInt_inj] at *; omega))) (fun k9 q1 q2 q3 => (by first | omega | (simp only [Int32.lt_iff_toInt_lt, Int32.le_iff_toInt_le, Int32.reduceToInt, ← Int32.toInt_inj] at *; omega))))⟩
        obtain ⟨g_543, hf_541, ok_545, eg_546⟩ : ∃ g9, f_540 (q 14) = aI E 2076 g9 ∧ FOK g9 ∧ g9 = upd g_526 (v_534 : Int32).toNatClampNeg v_537 := ⟨_, hf_541, (ok_528.up (by first | omega | (simp only [Int32.lt_iff_toInt_lt, Int32.le_iff_toInt_le, Int32.reduceToInt, ← Int32.toInt_inj, true_and, and_true, or_true, true_or, false_or, or_false, false_and, and_false, not_true_eq_false, not_false_eq_true] <;> omega)) (fun q1 q2 => (by first | omega | (simp only [Int32.lt_iff_toInt_lt, Int32.le_iff_toInt_le, Int32.reduceToInt, ← Int32.toInt_inj] at *; omega))) (fun k9 q1 q2 q3 => (by first | omega | (simp only [Int32.lt_iff_toInt_lt, Int32.le_iff_toInt_le, Int32.reduceToInt, ← Int32.toInt_inj] at *; omega)))), rfl⟩
        have hf_547 := (hk_542 a_0 (ne_kd hf_530 hf_524 rfl)).trans hf_530
        have fr_548 := FR.w hk_542 hf_524 (k := 2176) rfl
        have h4_549 : (g_543 4).toInt = (g_f 4).toInt := upd_lo (g0 := g_f) 4 eg_546 h4_532 (by omega)
        have h5_550 : (g_543 5).toInt = (g_480 5).toInt := upd_lo (g0 := g_480) 5 eg_546 h5_533 (by omega)
        refine v_aload_n hC dX12_readTest_147 rfl ?_
        refine v_get hC fl_X12_34 m_1 hf_547 rfl dX12_readTest_148 ?_
        refine v_iload_n hC dX12_readTest_151 rfl ?_
        refine v_iconst hC dX12_readTest_152 (v := 3) (by decide) ?_
        obtain ⟨v_551, h_552⟩ : ∃ v9 : Int32, v_506 + 3 = v9 := ⟨_, rfl⟩
        refine v_iadd hC dX12_readTest_153 h_552 ?_
        have h_553 := add_v h_552 (by first | omega | (simp only [Int32.lt_iff_toInt_lt, Int32.le_iff_toInt_le, Int32.reduceToInt, ← Int32.toInt_inj, true_and, and_true, or_true, true_or, false_or, or_false, false_and, and_false, not_true_eq_false, not_false_eq_true] <;> omega)) (by first | omega | (simp only [Int32.lt_iff_toInt_lt, Int32.le_iff_toInt_le, Int32.reduceToInt, ← Int32.toInt_inj, true_and, and_true, or_true, true_or, false_or, or_false, false_and, and_false, not_true_eq_false, not_false_eq_true] <;> omega))
        try simp only [Int32.reduceToInt] at h_553
        refine v_iload_n hC dX12_readTest_154 rfl ?_
        refine v_iast hC m_22 hf_541 (vp_in_iff.mpr (by first | omega | (simp only [Int32.lt_iff_toInt_lt, Int32.le_iff_toInt_le, Int32.reduceToInt, ← Int32.toInt_inj, true_and, and_true, or_true, true_or, false_or, or_false, false_and, and_false, not_true_eq_false, not_false_eq_true] <;> omega))) dX12_readTest_155 (fun f_554 hf_555 hk_556 => ?_)
        have hW_558 := hW_544.up hf_555 hk_556 t_23 ⟨_, rfl, (ok_545.up (by first | omega | (simp only [Int32.lt_iff_toInt_lt, Int32.le_iff_toInt_le, Int32.reduceToInt, ← Int32.toInt_inj, true_and, and_true, or_true, true_or, false_or, or_false, false_and, and_false, not_true_eq_false, not_false_eq_true] <;> omega)) (fun q1 q2 => (by first | omega | (simp only [Int32.lt_iff_toInt_lt, Int32.le_iff_toInt_le, Int32.reduceToInt, ← Int32.toInt_inj] at *; omega))) (fun k9 q1 q2 q3 => (by first | omega | (simp only [Int32.lt_iff_toInt_lt, Int32.le_iff_toInt_le, Int32.reduceToInt, ← Int32.toInt_inj] at *; omega))))⟩
        obtain ⟨g_557, hf_555, ok_559, eg_560⟩ : ∃ g9, f_554 (q 14) = aI E 2076 g9 ∧ FOK g9 ∧ g9 = upd g_543 (v_551 : Int32).toNatClampNeg 1 := ⟨_, hf_555, (ok_545.up (by first | omega | (simp only [Int32.lt_iff_toInt_lt, Int32.le_iff_toInt_le, Int32.reduceToInt, ← Int32.toInt_inj, true_and, and_true, or_true, true_or, false_or, or_false, false_and, and_false, not_true_eq_false, not_false_eq_true] <;> omega)) (fun q1 q2 => (by first | omega | (simp only [Int32.lt_iff_toInt_lt, Int32.le_iff_toInt_le, Int32.reduceToInt, ← Int32.toInt_inj] at *; omega))) (fun k9 q1 q2 q3 => (by first | omega | (simp only [Int32.lt_iff_toInt_lt, Int32.le_iff_toInt_le, Int32.reduceToInt, ← Int32.toInt_inj] at *; omega)))), rfl⟩
        have hf_561 := (hk_556 a_0 (ne_kd hf_547 hf_541 rfl)).trans hf_547
        have fr_562 := FR.w hk_556 hf_541 (k := 2176) rfl
        have h4_563 : (g_557 4).toInt = (g_f 4).toInt := upd_lo (g0 := g_f) 4 eg_560 h4_549 (by omega)
        have h5_564 : (g_557 5).toInt = (g_480 5).toInt := upd_lo (g0 := g_480) 5 eg_560 h5_550 (by omega)
        refine v_aload_n hC dX12_readTest_156 rfl ?_
        refine v_get hC fl_X12_34 m_1 hf_561 rfl dX12_readTest_157 ?_
        refine v_iconst hC dX12_readTest_160 (v := 4) (by decide) ?_
        refine v_dup2 hC dX12_readTest_161 rfl rfl ?_
        refine v_iald hC m_22 hf_555 (vp_in_iff.mpr (by decide)) (v := g_557 4) rfl dX12_readTest_162 ?_
        refine v_iconst hC dX12_readTest_163 (v := 1) (by decide) ?_
        obtain ⟨v_565, h_566⟩ : ∃ v9 : Int32, (g_557 4) + 1 = v9 := ⟨_, rfl⟩
        refine v_iadd hC dX12_readTest_164 h_566 ?_
        have h_567 := add_v h_566 (by first | omega | (simp only [Int32.lt_iff_toInt_lt, Int32.le_iff_toInt_le, Int32.reduceToInt, ← Int32.toInt_inj, true_and, and_true, or_true, true_or, false_or, or_false, false_and, and_false, not_true_eq_false, not_false_eq_true] <;> omega)) (by first | omega | (simp only [Int32.lt_iff_toInt_lt, Int32.le_iff_toInt_le, Int32.reduceToInt, ← Int32.toInt_inj, true_and, and_true, or_true, true_or, false_or, or_false, false_and, and_false, not_true_eq_false, not_false_eq_true] <;> omega))
        try simp only [Int32.reduceToInt] at h_567
        refine v_iast hC m_22 hf_555 (vp_in_iff.mpr (by decide)) dX12_readTest_165 (fun f_568 hf_569 hk_570 => ?_)
        have hW_572 := hW_558.up hf_569 hk_570 t_23 ⟨_, rfl, (ok_559.up (i := 4) (by decide) (fun q1 q2 => absurd (And.intro q1 q2) (by decide)) (fun k9 q1 q2 q3 => by simp only [Int32.reduceToInt] at q3; omega))⟩
        obtain ⟨g_571, hf_569, ok_573, eg_574⟩ : ∃ g9, f_568 (q 14) = aI E 2076 g9 ∧ FOK g9 ∧ g9 = upd g_557 (4 : Int32).toNatClampNeg v_565 := ⟨_, hf_569, (ok_559.up (i := 4) (by decide) (fun q1 q2 => absurd (And.intro q1 q2) (by decide)) (fun k9 q1 q2 q3 => by simp only [Int32.reduceToInt] at q3; omega)), rfl⟩
        have hf_575 := (hk_570 a_0 (ne_kd hf_561 hf_555 rfl)).trans hf_561
        have fr_576 := FR.w hk_570 hf_555 (k := 2176) rfl
        have wf_577 := WC.fin hWC pg_486 (by omega) eg_515 eg_529 eg_546 eg_560 eg_574 (by omega) (by omega) (by omega) (by omega) (by omega) (by omega) (by omega) (by omega)
        have wf_577_t := wf_577.2
        have fe_578 : fld (f_568 a_0) 9 = (v_467 : Int32).toInt := by rw [hf_575]; rfl
        have fe_579 : fld (f_568 a_0) 12 = (v_472 : Int32).toInt := by rw [hf_575]; rfl
        have fe_580 : fld (f_568 a_0) 8 = (v_465 : Int32).toInt := by rw [hf_575]; rfl
        have fe_581 : fld (f_568 a_0) 9 = (v_467 : Int32).toInt := by rw [hf_575]; rfl
        have fe_582 : fld (f_568 a_0) 10 = (v_469 : Int32).toInt := by rw [hf_575]; rfl
        have fe_583 : fld (f_568 a_0) 12 = (v_472 : Int32).toInt := by rw [hf_575]; rfl
        exact hR _ _ _ _ _ _ dX12_readTest_166 (Nat.le_of_ble_eq_true rfl) (Nat.le_of_ble_eq_true rfl) ⟨rfl, hW_572, ((((((((hF_57.tr hF_410).tr hF_457).tr fr_517).tr fr_531).tr fr_548).tr fr_562).tr fr_576).mono rfl), ⟨_, hf_569, ok_573, wf_577.1, (by simp only [fe_578, fe_579]; by_cases q9 : (v_472 : Int32).toInt = 0; (right; omega); exact .inl q9)⟩, (by simp only [fe_580, fe_581, fe_582, fe_583, mz_40, mz_43]; by_cases q9 : (v_472 : Int32).toInt = 0; (right; omega); exact .inl q9)⟩
      · simp only [Int32.lt_iff_toInt_lt, Int32.le_iff_toInt_le, Int32.reduceToInt, ← Int32.toInt_inj] at h_496
        have g0_501 := gd_f x_492 h_496
        clear x_492
        clear x_455
        clear gs_485
        have fe_584 : fld (f_452 a_0) 9 = (v_467 : Int32).toInt := by rw [e_460]; rfl
        have fe_585 : fld (f_452 a_0) 12 = (v_472 : Int32).toInt := by rw [e_460]; rfl
        have fe_586 : fld (f_452 a_0) 8 = (v_465 : Int32).toInt := by rw [e_460]; rfl
        have fe_587 : fld (f_452 a_0) 9 = (v_467 : Int32).toInt := by rw [e_460]; rfl
        have fe_588 : fld (f_452 a_0) 10 = (v_469 : Int32).toInt := by rw [e_460]; rfl
        have fe_589 : fld (f_452 a_0) 12 = (v_472 : Int32).toInt := by rw [e_460]; rfl
        exact hR _ _ _ _ _ _ dX12_readTest_96 (Nat.le_of_ble_eq_true rfl) (Nat.le_of_ble_eq_true rfl) ⟨rfl, hW_456, (((hF_57.tr hF_410).tr hF_457).mono rfl), ⟨_, e_481, ok_482, (hWC.pg pg_486 (by omega)), (by simp only [fe_584, fe_585]; exact .inl g0_501)⟩, (by simp only [fe_586, fe_587, fe_588, fe_589, mz_40, mz_43]; exact .inl g0_501)⟩
  · simp only [Int32.lt_iff_toInt_lt, Int32.le_iff_toInt_le, Int32.reduceToInt, ← Int32.toInt_inj] at h_93
    have ip_94 := (iw_b (f_52 a_0) (f_52 (q 4)) 67).2.resolve_left (by omega)
    have ln_95 : ((bytStr.getD 67 []).length : Int) = 4 := by rfl
    have fe_96 : fld (f_52 a_0) 8 = (v_65 : Int32).toInt := by rw [e_60]; rfl
    have fe_97 : fld (f_52 a_0) 9 = (v_67 : Int32).toInt := by rw [e_60]; rfl
    have fe_98 : fld (f_52 a_0) 10 = (v_69 : Int32).toInt := by rw [e_60]; rfl
    have fe_99 : fld (f_52 a_0) 12 = (v_72 : Int32).toInt := by rw [e_60]; rfl
    rw [fe_96, fe_97, fe_98, fe_99] at ip_94
    have g0_100 := ip_94.1
    have gp_101 := gs_85.resolve_left (fun h9 => h9 g0_100)
    clear gs_85
    have gp_102 := x_55.resolve_left (fun h9 => h9 g0_100)
    clear x_55
    refine v_iconst hC dX12_readTest_22 (v := 0) (by decide) ?_
    refine v_goto hC dX12_readTest_23 (tgt := 55) (by decide) ?_
    refine v_istore_n hC dX12_readTest_55 (by decide) (lv' := [(2, .int 0), (1, .int (g_f 5)), (0, .ref a_0)]) rfl ?_
    refine v_iload_n hC dX12_readTest_56 rfl ?_
    refine v_iconst hC dX12_readTest_57 (v := (-1)) (by decide) ?_
    refine v_icmp_ne_t hC dX12_readTest_58 (tgt := 66) (by decide) (by decide) ?_
    refine v_aload_n hC dX12_readTest_66 rfl ?_
    refine v_vi hC (rest := []) m_1 e_60 rfl mi_X12_good ms_X12_good (p_X12_good hW_56 k_0) mx_X12_good ml_X12_139 (by decide) rfl (cells1 := 0) (slots1 := 0) (by decide) (by decide) (Nat.le_of_ble_eq_true rfl) (Nat.le_of_ble_eq_true rfl) rfl (Nat.le_of_ble_eq_true rfl) dX12_readTest_67 (fun r_590 L_591 f_592 h_593 => ?_)
    obtain ⟨rfl, rfl, b_594, x_595⟩ := h_593
    have fe_598 : fld (f_52 a_0) 12 = (v_72 : Int32).toInt := by rw [e_60]; rfl
    rw [fe_598] at x_595
    clear fe_598
    try simp only [Int32.reduceToInt, Int64.reduceToInt] at x_595
    refine v_if_eq_f hC dX12_readTest_70 (tgt := 77) (by decide) (gdb_n x_595 g0_100) ?_
    refine v_aload_n hC dX12_readTest_73 rfl ?_
    refine v_vv hC (rest := []) m_1 e_60 rfl mi_X12_advance ms_X12_advance (p_X12_advance hW_56 k_0) mx_X12_advance ml_X12_156 (by decide) rfl (cells1 := 0) (slots1 := 0) (by decide) (by decide) (Nat.le_of_ble_eq_true rfl) (Nat.le_of_ble_eq_true rfl) rfl (Nat.le_of_ble_eq_true rfl) dX12_readTest_74 (fun L_600 f_601 h_602 => ?_)
    obtain ⟨rfl, hW_606, hF_607, x_603, x_604, x_605, -⟩ := h_602
    have fe_608 : fld (f_52 a_0) 8 = (v_65 : Int32).toInt := by rw [e_60]; rfl
    have fe_609 : fld (f_52 a_0) 12 = (v_72 : Int32).toInt := by rw [e_60]; rfl
    have hf_610 := hF_607.at e_81 rfl
    obtain ⟨v_612, v_613, v_614, v_616, v_618, v_620, v_622, v_623, v_624, v_625, v_626, e_611, -, b_615, b_617, b_619, b_621, -, -⟩ := hW_606.at m_1 t_2
    have fe_627 : fld (f_601 a_0) 8 = (v_616 : Int32).toInt := by rw [e_611]; rfl
    have fe_628 : fld (f_601 a_0) 9 = (v_618 : Int32).toInt := by rw [e_611]; rfl
    have fe_629 : fld (f_601 a_0) 10 = (v_620 : Int32).toInt := by rw [e_611]; rfl
    have fe_630 : fld (f_601 a_0) 12 = (v_623 : Int32).toInt := by rw [e_611]; rfl
    rw [fe_608, fe_628, fe_627] at x_603
    rw [fe_629, fe_628, fe_627] at x_604
    rw [fe_630, fe_609] at x_605
    have g0_631 := x_605.trans g0_100
    clear fe_608 fe_609 fe_627 fe_628 fe_629 fe_630
    refine v_aload_n hC dX12_readTest_77 rfl ?_
    refine v_vi hC (rest := []) m_1 e_611 rfl mi_X12_good ms_X12_good (p_X12_good hW_606 k_0) mx_X12_good ml_X12_139 (by decide) rfl (cells1 := 0) (slots1 := 0) (by decide) (by decide) (Nat.le_of_ble_eq_true rfl) (Nat.le_of_ble_eq_true rfl) rfl (Nat.le_of_ble_eq_true rfl) dX12_readTest_78 (fun r_632 L_633 f_634 h_635 => ?_)
    obtain ⟨rfl, rfl, b_636, x_637⟩ := h_635
    have fe_640 : fld (f_601 a_0) 12 = (v_623 : Int32).toInt := by rw [e_611]; rfl
    rw [fe_640] at x_637
    clear fe_640
    try simp only [Int32.reduceToInt, Int64.reduceToInt] at x_637
    refine v_if_eq_f hC dX12_readTest_81 (tgt := 89) (by decide) (gdb_n x_637 g0_631) ?_
    refine v_aload_n hC dX12_readTest_84 rfl ?_
    refine v_iconst hC dX12_readTest_85 (v := 4) (by decide) ?_
    have fe_641 : fld (f_601 a_0) 9 = (v_618 : Int32).toInt := by rw [e_611]; rfl
    have fe_642 : fld (f_601 a_0) 12 = (v_623 : Int32).toInt := by rw [e_611]; rfl
    have fe_643 : fld (f_601 a_0) 8 = (v_616 : Int32).toInt := by rw [e_611]; rfl
    have fe_644 : fld (f_601 a_0) 9 = (v_618 : Int32).toInt := by rw [e_611]; rfl
    have fe_645 : fld (f_601 a_0) 10 = (v_620 : Int32).toInt := by rw [e_611]; rfl
    have fe_646 : fld (f_601 a_0) 12 = (v_623 : Int32).toInt := by rw [e_611]; rfl
    refine v_vv hC (rest := []) m_1 e_611 rfl mi_X12_readSum ms_X12_readSum (p_X12_readSum hW_606 k_0 hf_610 ok_82 (by first | omega | (simp only [Int32.lt_iff_toInt_lt, Int32.le_iff_toInt_le, Int32.reduceToInt, ← Int32.toInt_inj, true_and, and_true, or_true, true_or, false_or, or_false, false_and, and_false, not_true_eq_false, not_false_eq_true] <;> omega)) (by simp only [fe_641, fe_642]; omega) (by simp only [fe_643, fe_644, fe_645, fe_646]; omega)) mx_X12_readSum ml_X12_269 (by decide) rfl (cells1 := 0) (slots1 := 0) (by decide) (by decide) (Nat.le_of_ble_eq_true rfl) (Nat.le_of_ble_eq_true rfl) rfl (Nat.le_of_ble_eq_true rfl) dX12_readTest_86 (fun L_648 f_649 h_650 => ?_)
    obtain ⟨rfl, hW_653, hF_654, x_651, x_652⟩ := h_650
    have fe_655 : fld (f_601 a_0) 8 = (v_616 : Int32).toInt := by rw [e_611]; rfl
    have fe_656 : fld (f_601 a_0) 12 = (v_623 : Int32).toInt := by rw [e_611]; rfl
    obtain ⟨v_658, v_659, v_660, v_662, v_664, v_666, v_668, v_669, v_670, v_671, v_672, e_657, -, b_661, b_663, b_665, b_667, -, -⟩ := hW_653.at m_1 t_2
    have fe_673 : fld (f_649 a_0) 8 = (v_662 : Int32).toInt := by rw [e_657]; rfl
    have fe_674 : fld (f_649 a_0) 9 = (v_664 : Int32).toInt := by rw [e_657]; rfl
    have fe_675 : fld (f_649 a_0) 10 = (v_666 : Int32).toInt := by rw [e_657]; rfl
    have fe_676 : fld (f_649 a_0) 12 = (v_669 : Int32).toInt := by rw [e_657]; rfl
    rw [fe_676, fe_674] at x_651
    rw [fe_676, fe_656, fe_655, fe_674, fe_673, fe_675] at x_652
    clear fe_655 fe_656 fe_673 fe_674 fe_675 fe_676
    obtain ⟨g_677, e_678, ok_679, pg_680, bp_681, gs_682⟩ := x_651
    have pg_683 := PG.tr pg_86 pg_680
    refine v_aload_n hC dX12_readTest_89 rfl ?_
    refine v_vi hC (rest := []) m_1 e_657 rfl mi_X12_good ms_X12_good (p_X12_good hW_653 k_0) mx_X12_good ml_X12_139 (by decide) rfl (cells1 := 0) (slots1 := 0) (by decide) (by decide) (Nat.le_of_ble_eq_true rfl) (Nat.le_of_ble_eq_true rfl) rfl (Nat.le_of_ble_eq_true rfl) dX12_readTest_90 (fun r_684 L_685 f_686 h_687 => ?_)
    obtain ⟨rfl, rfl, b_688, x_689⟩ := h_687
    have fe_692 : fld (f_649 a_0) 12 = (v_669 : Int32).toInt := by rw [e_657]; rfl
    rw [fe_692] at x_689
    clear fe_692
    try simp only [Int32.reduceToInt, Int64.reduceToInt] at x_689
    refine v_if_ne hC dX12_readTest_93 (tgt := 97) (by decide) (fun h_693 => ?_) (fun h_693 => ?_)
    · simp only [Int32.lt_iff_toInt_lt, Int32.le_iff_toInt_le, Int32.reduceToInt, ← Int32.toInt_inj] at h_693
      have nb_694 : (1 ≤ r_684.toInt ∧ r_684.toInt ≤ 1) := by omega
      have g0_695 := gd_t x_689 h_693
      clear x_689
      have gp_696 := gs_682.resolve_left (fun h9 => h9 g0_695)
      clear gs_682
      have gp_697 := x_652.resolve_left (fun h9 => h9 g0_695)
      clear x_652
      refine v_sipush hC dX12_readTest_97 (v := 162) (by decide) ?_
      refine v_iconst hC dX12_readTest_100 (v := 4) (by decide) ?_
      refine v_aload_n hC dX12_readTest_101 rfl ?_
      refine v_get hC fl_X12_34 m_1 e_657 rfl dX12_readTest_102 ?_
      refine v_iconst hC dX12_readTest_105 (v := 4) (by decide) ?_
      refine v_iald hC m_22 e_678 (vp_in_iff.mpr (by decide)) (v := g_677 4) rfl dX12_readTest_106 ?_
      have h4_699 : (g_677 4).toInt = (g_f 4).toInt := congrArg Int32.toInt (pg_683 4 (by decide) (by decide))
      obtain ⟨v_700, h_701⟩ : ∃ v9 : Int32, (4 : Int32) * (g_677 4) = v9 := ⟨_, rfl⟩
      refine v_imul hC dX12_readTest_107 h_701 ?_
      have h_702 := mul_v 4 75 300 h_701 (by decide) (by first | omega | (simp only [Int32.lt_iff_toInt_lt, Int32.le_iff_toInt_le, Int32.reduceToInt, ← Int32.toInt_inj, true_and, and_true, or_true, true_or, false_or, or_false, false_and, and_false, not_true_eq_false, not_false_eq_true] <;> omega)) (by decide) (by decide)
      try simp only [Int32.reduceToInt] at h_702
      obtain ⟨v_703, h_704⟩ : ∃ v9 : Int32, (162 : Int32) + v_700 = v9 := ⟨_, rfl⟩
      refine v_iadd hC dX12_readTest_108 h_704 ?_
      have h_705 := add_v h_704 (by first | omega | (simp only [Int32.lt_iff_toInt_lt, Int32.le_iff_toInt_le, Int32.reduceToInt, ← Int32.toInt_inj, true_and, and_true, or_true, true_or, false_or, or_false, false_and, and_false, not_true_eq_false, not_false_eq_true] <;> omega)) (by first | omega | (simp only [Int32.lt_iff_toInt_lt, Int32.le_iff_toInt_le, Int32.reduceToInt, ← Int32.toInt_inj, true_and, and_true, or_true, true_or, false_or, or_false, false_and, and_false, not_true_eq_false, not_false_eq_true] <;> omega))
      try simp only [Int32.reduceToInt] at h_705
      refine v_istore_n hC dX12_readTest_109 (by decide) (lv' := [(3, .int v_703), (2, .int 0), (1, .int (g_f 5)), (0, .ref a_0)]) rfl ?_
      refine v_aload_n hC dX12_readTest_110 rfl ?_
      refine v_get hC fl_X12_34 m_1 e_657 rfl dX12_readTest_111 ?_
      refine v_iload_n hC dX12_readTest_114 rfl ?_
      refine v_aload_n hC dX12_readTest_115 rfl ?_
      refine v_get hC fl_X12_34 m_1 e_657 rfl dX12_readTest_116 ?_
      refine v_iconst hC dX12_readTest_119 (v := 3) (by decide) ?_
      refine v_iald hC m_22 e_678 (vp_in_iff.mpr (by decide)) (v := g_677 3) rfl dX12_readTest_120 ?_
      refine v_iast hC m_22 e_678 (vp_in_iff.mpr (by first | omega | (simp only [Int32.lt_iff_toInt_lt, Int32.le_iff_toInt_le, Int32.reduceToInt, ← Int32.toInt_inj, true_and, and_true, or_true, true_or, false_or, or_false, false_and, and_false, not_true_eq_false, not_false_eq_true] <;> omega))) dX12_readTest_121 (fun f_706 hf_707 hk_708 => ?_)
      have hW_710 := hW_653.up hf_707 hk_708 t_23 ⟨_, rfl, (ok_679.up (by first | omega | (simp only [Int32.lt_iff_toInt_lt, Int32.le_iff_toInt_le, Int32.reduceToInt, ← Int32.toInt_inj, true_and, and_true, or_true, true_or, false_or, or_false, false_and, and_false, not_true_eq_false, not_false_eq_true] <;> omega)) (fun q1 q2 => (by first | omega | (simp only [Int32.lt_iff_toInt_lt, Int32.le_iff_toInt_le, Int32.reduceToInt, ← Int32.toInt_inj] at *; omega))) (fun k9 q1 q2 q3 => (by first | omega | (simp only [Int32.lt_iff_toInt_lt, Int32.le_iff_toInt_le, Int32.reduceToInt, ← Int32.toInt_inj] at *; omega))))⟩
      obtain ⟨g_709, hf_707, ok_711, eg_712⟩ : ∃ g9, f_706 (q 14) = aI E 2076 g9 ∧ FOK g9 ∧ g9 = upd g_677 (v_703 : Int32).toNatClampNeg (g_677 3) := ⟨_, hf_707, (ok_679.up (by first | omega | (simp only [Int32.lt_iff_toInt_lt, Int32.le_iff_toInt_le, Int32.reduceToInt, ← Int32.toInt_inj, true_and, and_true, or_true, true_or, false_or, or_false, false_and, and_false, not_true_eq_false, not_false_eq_true] <;> omega)) (fun q1 q2 => (by first | omega | (simp only [Int32.lt_iff_toInt_lt, Int32.le_iff_toInt_le, Int32.reduceToInt, ← Int32.toInt_inj] at *; omega))) (fun k9 q1 q2 q3 => (by first | omega | (simp only [Int32.lt_iff_toInt_lt, Int32.le_iff_toInt_le, Int32.reduceToInt, ← Int32.toInt_inj] at *; omega)))), rfl⟩
      have hf_713 := (hk_708 a_0 (ne_kd e_657 e_678 rfl)).trans e_657
      have fr_714 := FR.w hk_708 e_678 (k := 2176) rfl
      have h4_715 : (g_709 4).toInt = (g_f 4).toInt := upd_lo (g0 := g_f) 4 eg_712 h4_699 (by omega)
      have h5_716 : (g_709 5).toInt = (g_677 5).toInt := upd_lo (g0 := g_677) 5 eg_712 rfl (by omega)
      refine v_aload_n hC dX12_readTest_122 rfl ?_
      refine v_get hC fl_X12_34 m_1 hf_713 rfl dX12_readTest_123 ?_
      refine v_iload_n hC dX12_readTest_126 rfl ?_
      refine v_iconst hC dX12_readTest_127 (v := 1) (by decide) ?_
      obtain ⟨v_717, h_718⟩ : ∃ v9 : Int32, v_703 + 1 = v9 := ⟨_, rfl⟩
      refine v_iadd hC dX12_readTest_128 h_718 ?_
      have h_719 := add_v h_718 (by first | omega | (simp only [Int32.lt_iff_toInt_lt, Int32.le_iff_toInt_le, Int32.reduceToInt, ← Int32.toInt_inj, true_and, and_true, or_true, true_or, false_or, or_false, false_and, and_false, not_true_eq_false, not_false_eq_true] <;> omega)) (by first | omega | (simp only [Int32.lt_iff_toInt_lt, Int32.le_iff_toInt_le, Int32.reduceToInt, ← Int32.toInt_inj, true_and, and_true, or_true, true_or, false_or, or_false, false_and, and_false, not_true_eq_false, not_false_eq_true] <;> omega))
      try simp only [Int32.reduceToInt] at h_719
      refine v_iload_n hC dX12_readTest_129 rfl ?_
      refine v_iast hC m_22 hf_707 (vp_in_iff.mpr (by first | omega | (simp only [Int32.lt_iff_toInt_lt, Int32.le_iff_toInt_le, Int32.reduceToInt, ← Int32.toInt_inj, true_and, and_true, or_true, true_or, false_or, or_false, false_and, and_false, not_true_eq_false, not_false_eq_true] <;> omega))) dX12_readTest_130 (fun f_720 hf_721 hk_722 => ?_)
      have hW_724 := hW_710.up hf_721 hk_722 t_23 ⟨_, rfl, (ok_711.up (by first | omega | (simp only [Int32.lt_iff_toInt_lt, Int32.le_iff_toInt_le, Int32.reduceToInt, ← Int32.toInt_inj, true_and, and_true, or_true, true_or, false_or, or_false, false_and, and_false, not_true_eq_false, not_false_eq_true] <;> omega)) (fun q1 q2 => (by first | omega | (simp only [Int32.lt_iff_toInt_lt, Int32.le_iff_toInt_le, Int32.reduceToInt, ← Int32.toInt_inj] at *; omega))) (fun k9 q1 q2 q3 => (by first | omega | (simp only [Int32.lt_iff_toInt_lt, Int32.le_iff_toInt_le, Int32.reduceToInt, ← Int32.toInt_inj] at *; omega))))⟩
      obtain ⟨g_723, hf_721, ok_725, eg_726⟩ : ∃ g9, f_720 (q 14) = aI E 2076 g9 ∧ FOK g9 ∧ g9 = upd g_709 (v_717 : Int32).toNatClampNeg (g_f 5) := ⟨_, hf_721, (ok_711.up (by first | omega | (simp only [Int32.lt_iff_toInt_lt, Int32.le_iff_toInt_le, Int32.reduceToInt, ← Int32.toInt_inj, true_and, and_true, or_true, true_or, false_or, or_false, false_and, and_false, not_true_eq_false, not_false_eq_true] <;> omega)) (fun q1 q2 => (by first | omega | (simp only [Int32.lt_iff_toInt_lt, Int32.le_iff_toInt_le, Int32.reduceToInt, ← Int32.toInt_inj] at *; omega))) (fun k9 q1 q2 q3 => (by first | omega | (simp only [Int32.lt_iff_toInt_lt, Int32.le_iff_toInt_le, Int32.reduceToInt, ← Int32.toInt_inj] at *; omega)))), rfl⟩
      have hf_727 := (hk_722 a_0 (ne_kd hf_713 hf_707 rfl)).trans hf_713
      have fr_728 := FR.w hk_722 hf_707 (k := 2176) rfl
      have h4_729 : (g_723 4).toInt = (g_f 4).toInt := upd_lo (g0 := g_f) 4 eg_726 h4_715 (by omega)
      have h5_730 : (g_723 5).toInt = (g_677 5).toInt := upd_lo (g0 := g_677) 5 eg_726 h5_716 (by omega)
      refine v_aload_n hC dX12_readTest_131 rfl ?_
      refine v_get hC fl_X12_34 m_1 hf_727 rfl dX12_readTest_132 ?_
      refine v_iload_n hC dX12_readTest_135 rfl ?_
      refine v_iconst hC dX12_readTest_136 (v := 2) (by decide) ?_
      obtain ⟨v_731, h_732⟩ : ∃ v9 : Int32, v_703 + 2 = v9 := ⟨_, rfl⟩
      refine v_iadd hC dX12_readTest_137 h_732 ?_
      have h_733 := add_v h_732 (by first | omega | (simp only [Int32.lt_iff_toInt_lt, Int32.le_iff_toInt_le, Int32.reduceToInt, ← Int32.toInt_inj, true_and, and_true, or_true, true_or, false_or, or_false, false_and, and_false, not_true_eq_false, not_false_eq_true] <;> omega)) (by first | omega | (simp only [Int32.lt_iff_toInt_lt, Int32.le_iff_toInt_le, Int32.reduceToInt, ← Int32.toInt_inj, true_and, and_true, or_true, true_or, false_or, or_false, false_and, and_false, not_true_eq_false, not_false_eq_true] <;> omega))
      try simp only [Int32.reduceToInt] at h_733
      refine v_aload_n hC dX12_readTest_138 rfl ?_
      refine v_get hC fl_X12_34 m_1 hf_727 rfl dX12_readTest_139 ?_
      refine v_iconst hC dX12_readTest_142 (v := 5) (by decide) ?_
      refine v_iald hC m_22 hf_721 (vp_in_iff.mpr (by decide)) (v := g_723 5) rfl dX12_readTest_143 ?_
      refine v_iload_n hC dX12_readTest_144 rfl ?_
      obtain ⟨v_734, h_735⟩ : ∃ v9 : Int32, (g_723 5) - (g_f 5) = v9 := ⟨_, rfl⟩
      refine v_isub hC dX12_readTest_145 h_735 ?_
      have h_736 := sub_v h_735 (by first | omega | (simp only [Int32.lt_iff_toInt_lt, Int32.le_iff_toInt_le, Int32.reduceToInt, ← Int32.toInt_inj, true_and, and_true, or_true, true_or, false_or, or_false, false_and, and_false, not_true_eq_false, not_false_eq_true] <;> omega)) (by first | omega | (simp only [Int32.lt_iff_toInt_lt, Int32.le_iff_toInt_le, Int32.reduceToInt, ← Int32.toInt_inj, true_and, and_true, or_true, true_or, false_or, or_false, false_and, and_false, not_true_eq_false, not_false_eq_true] <;> omega))
      refine v_iast hC m_22 hf_721 (vp_in_iff.mpr (by first | omega | (simp only [Int32.lt_iff_toInt_lt, Int32.le_iff_toInt_le, Int32.reduceToInt, ← Int32.toInt_inj, true_and, and_true, or_true, true_or, false_or, or_false, false_and, and_false, not_true_eq_false, not_false_eq_true] <;> omega))) dX12_readTest_146 (fun f_737 hf_738 hk_739 => ?_)
      have hW_741 := hW_724.up hf_738 hk_739 t_23 ⟨_, rfl, (ok_725.up (by first | omega | (simp only [Int32.lt_iff_toInt_lt, Int32.le_iff_toInt_le, Int32.reduceToInt, ← Int32.toInt_inj, true_and, and_true, or_true, true_or, false_or, or_false, false_and, and_false, not_true_eq_false, not_false_eq_true] <;> omega)) (fun q1 q2 => (by first | omega | (simp only [Int32.lt_iff_toInt_lt, Int32.le_iff_toInt_le, Int32.reduceToInt, ← Int32.toInt_inj] at *; omega))) (fun k9 q1 q2 q3 => (by first | omega | (simp only [Int32.lt_iff_toInt_lt, Int32.le_iff_toInt_le, Int32.reduceToInt, ← Int32.toInt_inj] at *; omega))))⟩
      obtain ⟨g_740, hf_738, ok_742, eg_743⟩ : ∃ g9, f_737 (q 14) = aI E 2076 g9 ∧ FOK g9 ∧ g9 = upd g_723 (v_731 : Int32).toNatClampNeg v_734 := ⟨_, hf_738, (ok_725.up (by first | omega | (simp only [Int32.lt_iff_toInt_lt, Int32.le_iff_toInt_le, Int32.reduceToInt, ← Int32.toInt_inj, true_and, and_true, or_true, true_or, false_or, or_false, false_and, and_false, not_true_eq_false, not_false_eq_true] <;> omega)) (fun q1 q2 => (by first | omega | (simp only [Int32.lt_iff_toInt_lt, Int32.le_iff_toInt_le, Int32.reduceToInt, ← Int32.toInt_inj] at *; omega))) (fun k9 q1 q2 q3 => (by first | omega | (simp only [Int32.lt_iff_toInt_lt, Int32.le_iff_toInt_le, Int32.reduceToInt, ← Int32.toInt_inj] at *; omega)))), rfl⟩
      have hf_744 := (hk_739 a_0 (ne_kd hf_727 hf_721 rfl)).trans hf_727
      have fr_745 := FR.w hk_739 hf_721 (k := 2176) rfl
      have h4_746 : (g_740 4).toInt = (g_f 4).toInt := upd_lo (g0 := g_f) 4 eg_743 h4_729 (by omega)
      have h5_747 : (g_740 5).toInt = (g_677 5).toInt := upd_lo (g0 := g_677) 5 eg_743 h5_730 (by omega)
      refine v_aload_n hC dX12_readTest_147 rfl ?_
      refine v_get hC fl_X12_34 m_1 hf_744 rfl dX12_readTest_148 ?_
      refine v_iload_n hC dX12_readTest_151 rfl ?_
      refine v_iconst hC dX12_readTest_152 (v := 3) (by decide) ?_
      obtain ⟨v_748, h_749⟩ : ∃ v9 : Int32, v_703 + 3 = v9 := ⟨_, rfl⟩
      refine v_iadd hC dX12_readTest_153 h_749 ?_
      have h_750 := add_v h_749 (by first | omega | (simp only [Int32.lt_iff_toInt_lt, Int32.le_iff_toInt_le, Int32.reduceToInt, ← Int32.toInt_inj, true_and, and_true, or_true, true_or, false_or, or_false, false_and, and_false, not_true_eq_false, not_false_eq_true] <;> omega)) (by first | omega | (simp only [Int32.lt_iff_toInt_lt, Int32.le_iff_toInt_le, Int32.reduceToInt, ← Int32.toInt_inj, true_and, and_true, or_true, true_or, false_or, or_false, false_and, and_false, not_true_eq_false, not_false_eq_true] <;> omega))
      try simp only [Int32.reduceToInt] at h_750
      refine v_iload_n hC dX12_readTest_154 rfl ?_
      refine v_iast hC m_22 hf_738 (vp_in_iff.mpr (by first | omega | (simp only [Int32.lt_iff_toInt_lt, Int32.le_iff_toInt_le, Int32.reduceToInt, ← Int32.toInt_inj, true_and, and_true, or_true, true_or, false_or, or_false, false_and, and_false, not_true_eq_false, not_false_eq_true] <;> omega))) dX12_readTest_155 (fun f_751 hf_752 hk_753 => ?_)
      have hW_755 := hW_741.up hf_752 hk_753 t_23 ⟨_, rfl, (ok_742.up (by first | omega | (simp only [Int32.lt_iff_toInt_lt, Int32.le_iff_toInt_le, Int32.reduceToInt, ← Int32.toInt_inj, true_and, and_true, or_true, true_or, false_or, or_false, false_and, and_false, not_true_eq_false, not_false_eq_true] <;> omega)) (fun q1 q2 => (by first | omega | (simp only [Int32.lt_iff_toInt_lt, Int32.le_iff_toInt_le, Int32.reduceToInt, ← Int32.toInt_inj] at *; omega))) (fun k9 q1 q2 q3 => (by first | omega | (simp only [Int32.lt_iff_toInt_lt, Int32.le_iff_toInt_le, Int32.reduceToInt, ← Int32.toInt_inj] at *; omega))))⟩
      obtain ⟨g_754, hf_752, ok_756, eg_757⟩ : ∃ g9, f_751 (q 14) = aI E 2076 g9 ∧ FOK g9 ∧ g9 = upd g_740 (v_748 : Int32).toNatClampNeg 0 := ⟨_, hf_752, (ok_742.up (by first | omega | (simp only [Int32.lt_iff_toInt_lt, Int32.le_iff_toInt_le, Int32.reduceToInt, ← Int32.toInt_inj, true_and, and_true, or_true, true_or, false_or, or_false, false_and, and_false, not_true_eq_false, not_false_eq_true] <;> omega)) (fun q1 q2 => (by first | omega | (simp only [Int32.lt_iff_toInt_lt, Int32.le_iff_toInt_le, Int32.reduceToInt, ← Int32.toInt_inj] at *; omega))) (fun k9 q1 q2 q3 => (by first | omega | (simp only [Int32.lt_iff_toInt_lt, Int32.le_iff_toInt_le, Int32.reduceToInt, ← Int32.toInt_inj] at *; omega)))), rfl⟩
      have hf_758 := (hk_753 a_0 (ne_kd hf_744 hf_738 rfl)).trans hf_744
      have fr_759 := FR.w hk_753 hf_738 (k := 2176) rfl
      have h4_760 : (g_754 4).toInt = (g_f 4).toInt := upd_lo (g0 := g_f) 4 eg_757 h4_746 (by omega)
      have h5_761 : (g_754 5).toInt = (g_677 5).toInt := upd_lo (g0 := g_677) 5 eg_757 h5_747 (by omega)
      refine v_aload_n hC dX12_readTest_156 rfl ?_
      refine v_get hC fl_X12_34 m_1 hf_758 rfl dX12_readTest_157 ?_
      refine v_iconst hC dX12_readTest_160 (v := 4) (by decide) ?_
      refine v_dup2 hC dX12_readTest_161 rfl rfl ?_
      refine v_iald hC m_22 hf_752 (vp_in_iff.mpr (by decide)) (v := g_754 4) rfl dX12_readTest_162 ?_
      refine v_iconst hC dX12_readTest_163 (v := 1) (by decide) ?_
      obtain ⟨v_762, h_763⟩ : ∃ v9 : Int32, (g_754 4) + 1 = v9 := ⟨_, rfl⟩
      refine v_iadd hC dX12_readTest_164 h_763 ?_
      have h_764 := add_v h_763 (by first | omega | (simp only [Int32.lt_iff_toInt_lt, Int32.le_iff_toInt_le, Int32.reduceToInt, ← Int32.toInt_inj, true_and, and_true, or_true, true_or, false_or, or_false, false_and, and_false, not_true_eq_false, not_false_eq_true] <;> omega)) (by first | omega | (simp only [Int32.lt_iff_toInt_lt, Int32.le_iff_toInt_le, Int32.reduceToInt, ← Int32.toInt_inj, true_and, and_true, or_true, true_or, false_or, or_false, false_and, and_false, not_true_eq_false, not_false_eq_true] <;> omega))
      try simp only [Int32.reduceToInt] at h_764
      refine v_iast hC m_22 hf_752 (vp_in_iff.mpr (by decide)) dX12_readTest_165 (fun f_765 hf_766 hk_767 => ?_)
      have hW_769 := hW_755.up hf_766 hk_767 t_23 ⟨_, rfl, (ok_756.up (i := 4) (by decide) (fun q1 q2 => absurd (And.intro q1 q2) (by decide)) (fun k9 q1 q2 q3 => by simp only [Int32.reduceToInt] at q3; omega))⟩
      obtain ⟨g_768, hf_766, ok_770, eg_771⟩ : ∃ g9, f_765 (q 14) = aI E 2076 g9 ∧ FOK g9 ∧ g9 = upd g_754 (4 : Int32).toNatClampNeg v_762 := ⟨_, hf_766, (ok_756.up (i := 4) (by decide) (fun q1 q2 => absurd (And.intro q1 q2) (by decide)) (fun k9 q1 q2 q3 => by simp only [Int32.reduceToInt] at q3; omega)), rfl⟩
      have hf_772 := (hk_767 a_0 (ne_kd hf_758 hf_752 rfl)).trans hf_758
      have fr_773 := FR.w hk_767 hf_752 (k := 2176) rfl
      have wf_774 := WC.fin hWC pg_683 (by omega) eg_712 eg_726 eg_743 eg_757 eg_771 (by omega) (by omega) (by omega) (by omega) (by omega) (by omega) (by omega) (by omega)
      have wf_774_t := wf_774.2
      have fe_775 : fld (f_765 a_0) 9 = (v_664 : Int32).toInt := by rw [hf_772]; rfl
      have fe_776 : fld (f_765 a_0) 12 = (v_669 : Int32).toInt := by rw [hf_772]; rfl
      have fe_777 : fld (f_765 a_0) 8 = (v_662 : Int32).toInt := by rw [hf_772]; rfl
      have fe_778 : fld (f_765 a_0) 9 = (v_664 : Int32).toInt := by rw [hf_772]; rfl
      have fe_779 : fld (f_765 a_0) 10 = (v_666 : Int32).toInt := by rw [hf_772]; rfl
      have fe_780 : fld (f_765 a_0) 12 = (v_669 : Int32).toInt := by rw [hf_772]; rfl
      exact hR _ _ _ _ _ _ dX12_readTest_166 (Nat.le_of_ble_eq_true rfl) (Nat.le_of_ble_eq_true rfl) ⟨rfl, hW_769, ((((((((hF_57.tr hF_607).tr hF_654).tr fr_714).tr fr_728).tr fr_745).tr fr_759).tr fr_773).mono rfl), ⟨_, hf_766, ok_770, wf_774.1, (by simp only [fe_775, fe_776]; by_cases q9 : (v_669 : Int32).toInt = 0; (right; omega); exact .inl q9)⟩, (by simp only [fe_777, fe_778, fe_779, fe_780, mz_40, mz_43]; by_cases q9 : (v_669 : Int32).toInt = 0; (right; omega); exact .inl q9)⟩
    · simp only [Int32.lt_iff_toInt_lt, Int32.le_iff_toInt_le, Int32.reduceToInt, ← Int32.toInt_inj] at h_693
      have g0_698 := gd_f x_689 h_693
      clear x_689
      clear x_652
      clear gs_682
      have fe_781 : fld (f_649 a_0) 9 = (v_664 : Int32).toInt := by rw [e_657]; rfl
      have fe_782 : fld (f_649 a_0) 12 = (v_669 : Int32).toInt := by rw [e_657]; rfl
      have fe_783 : fld (f_649 a_0) 8 = (v_662 : Int32).toInt := by rw [e_657]; rfl
      have fe_784 : fld (f_649 a_0) 9 = (v_664 : Int32).toInt := by rw [e_657]; rfl
      have fe_785 : fld (f_649 a_0) 10 = (v_666 : Int32).toInt := by rw [e_657]; rfl
      have fe_786 : fld (f_649 a_0) 12 = (v_669 : Int32).toInt := by rw [e_657]; rfl
      exact hR _ _ _ _ _ _ dX12_readTest_96 (Nat.le_of_ble_eq_true rfl) (Nat.le_of_ble_eq_true rfl) ⟨rfl, hW_653, (((hF_57.tr hF_607).tr hF_654).mono rfl), ⟨_, e_678, ok_679, (hWC.pg pg_683 (by omega)), (by simp only [fe_781, fe_782]; exact .inl g0_698)⟩, (by simp only [fe_783, fe_784, fe_785, fe_786, mz_40, mz_43]; exact .inl g0_698)⟩
