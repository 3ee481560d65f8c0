set_option maxRecDepth 100000 in
set_option maxHeartbeats 8000000 in
theorem p_X12_readPart {l : Launch} {E : Ez} {L : List Nat} {f : Nat → va_E} {T : Nat → va_E → Prop} {a_0 : Nat} {a_1 : Int32} {q : Nat → Nat} {g_f : Nat → Int32} (hW : WT T L f) (k_0 : isM T L E a_0 q) (e_f : f (q 14) = aI E 2076 g_f) (o_f : FOK g_f) (hPB : 0 ≤ (g_f 5).toInt ∧ (g_f 5).toInt ≤ 150) (hPT : (¬ fld (f a_0) 12 = 0 ∨ 4 * (g_f 5).toInt ≤ fld (f a_0) 9)) (hNX : (¬ fld (f a_0) 12 = 0 ∨ fld (f a_0) 10 = 0 ∨ fld (f a_0) 9 < fld (f a_0) 8)) : CV l yX12_readPart cX12_readPart 5 5 0 0 E [.ref a_0, .int a_1] L f (fun L1 f1 => L = L1 ∧ WT T L f1 ∧ FR [12, 2176] f f1 ∧ (∃ g9 : Nat → Int32, f1 (q 14) = aI E 2076 g9 ∧ FOK g9 ∧ PG g_f g9 ∧ ((g_f 5).toInt ≤ (g9 5).toInt ∧ (g9 5).toInt ≤ 150) ∧ (¬ fld (f1 a_0) 12 = 0 ∨ (g9 5).toInt = (g_f 5).toInt + 1)) ∧ (¬ fld (f1 a_0) 12 = 0 ∨ (fld (f a_0) 12 = 0 ∧ fld (f a_0) 9 < fld (f a_0) 8 ∧ fld (f a_0) 8 ≤ fld (f1 a_0) 9 ∧ fld (f1 a_0) 9 ≤ fld (f1 a_0) 8 ∧ (fld (f1 a_0) 10 = 0 ∨ fld (f1 a_0) 9 < fld (f1 a_0) 8)))) := by
  refine cv_of (by decide) (Nat.le_of_ble_eq_true rfl) (fun z hz hnm hC hR => ?_)
  have hC : Cx z E cX12_readPart RX12 5 5 0 0 := hC
  subst hz
  show V z E 5 0 0 L f 0 [(0, .ref a_0), (1, .int a_1)] []
  obtain ⟨m_1, t_2, nq_21, k_3, k_4, k_5, k_6, k_7, k_8, k_9, k_10, k_11, k_12, k_13, k_14, k_15, k_16, k_17, k_18, k_19, k_20⟩ := id k_0
  obtain ⟨m_22, t_23⟩ := id k_8
  obtain ⟨v_25, v_26, v_27, v_29, v_31, v_33, v_35, v_36, v_37, v_38, v_39, e_24, -, b_28, b_30, b_32, b_34, -, -⟩ := hW.at m_1 t_2
  have mz_40 : fld (f a_0) 8 = v_29.toInt := by rw [e_24]; rfl
  have mz_41 : fld (f a_0) 9 = v_31.toInt := by rw [e_24]; rfl
  have mz_42 : fld (f a_0) 10 = v_33.toInt := by rw [e_24]; rfl
  have mz_43 : fld (f a_0) 12 = v_36.toInt := by rw [e_24]; rfl
  rw [mz_43, mz_41] at hPT
  rw [mz_43, mz_42, mz_41, mz_40] at hNX
  refine v_aload_n hC dX12_readPart_0 rfl ?_
  refine v_ldcS hC sr_X12_244 dX12_readPart_1 ?_
  refine v_vi hC (rest := []) m_1 e_24 rfl mi_X12_is ms_X12_is (p_X12_is hW k_0 (by decide)) mx_X12_is ml_X12_152 (by decide) rfl (cells1 := 0) (slots1 := 0) (by decide) (by decide) (Nat.le_of_ble_eq_true rfl) (Nat.le_of_ble_eq_true rfl) rfl (Nat.le_of_ble_eq_true rfl) dX12_readPart_3 (fun r_44 L_45 f_46 h_47 => ?_)
  obtain ⟨rfl, rfl, rfl⟩ := h_47
  have jn_156 : ∀ (v_157 : Int32) (b_158 : (0 ≤ v_157.toInt ∧ v_157.toInt ≤ 8)) (jv_159 : ((v_157 : Int32).toInt = 8 ∨ fld (f a_0) 10 = 1)), V z E 5 0 0 L f 110 [(0, .ref a_0), (1, .int a_1)] [.int v_157] := by
    intro v_157 b_158 jv_159
    have fe_160 : fld (f a_0) 10 = (v_33 : Int32).toInt := by rw [e_24]; rfl
    rw [fe_160] at jv_159
    refine v_istore_n hC dX12_readPart_110 (by decide) (lv' := [(2, .int v_157), (0, .ref a_0), (1, .int a_1)]) rfl ?_
    refine v_aload_n hC dX12_readPart_111 rfl ?_
    refine v_vi hC (rest := []) m_1 e_24 rfl mi_X12_good ms_X12_good (p_X12_good hW k_0) mx_X12_good ml_X12_139 (by decide) rfl (cells1 := 0) (slots1 := 0) (by decide) (by decide) (Nat.le_of_ble_eq_true rfl) (Nat.le_of_ble_eq_true rfl) rfl (Nat.le_of_ble_eq_true rfl) dX12_readPart_112 (fun r_161 L_162 f_163 h_164 => ?_)
    obtain ⟨rfl, rfl, b_165, x_166⟩ := h_164
    have fe_169 : fld (f a_0) 12 = (v_36 : Int32).toInt := by rw [e_24]; rfl
    rw [fe_169] at x_166
    clear fe_169
    try simp only [Int32.reduceToInt, Int64.reduceToInt] at x_166
    refine v_if_eq hC dX12_readPart_115 (tgt := 128) (by decide) (fun h_170 => ?_) (fun h_170 => ?_)
    · simp only [Int32.lt_iff_toInt_lt, Int32.le_iff_toInt_le, Int32.reduceToInt, ← Int32.toInt_inj] at h_170
      have g0_171 := gd_f x_166 h_170
      clear x_166
      refine v_iload_n hC dX12_readPart_128 rfl ?_
      refine v_bipush hC dX12_readPart_129 (v := 8) (by decide) ?_
      refine v_icmp_ne hC dX12_readPart_131 (tgt := 145) (by decide) (fun h_174 => ?_) (fun h_174 => ?_)
      · simp only [Int32.lt_iff_toInt_lt, Int32.le_iff_toInt_le, Int32.reduceToInt, ← Int32.toInt_inj] at h_174
        have nb_175 : (0 ≤ v_157.toInt ∧ v_157.toInt ≤ 7) := by omega
        refine v_iconst hC dX12_readPart_145 (v := 0) (by decide) ?_
        refine v_istore_n hC dX12_readPart_146 (by decide) (lv' := [(3, .int 0), (2, .int v_157), (0, .ref a_0), (1, .int a_1)]) rfl ?_
        refine v_aload_n hC dX12_readPart_147 rfl ?_
        refine v_vi hC (rest := []) m_1 e_24 rfl mi_X12_good ms_X12_good (p_X12_good hW k_0) mx_X12_good ml_X12_139 (by decide) rfl (cells1 := 0) (slots1 := 0) (by decide) (by decide) (Nat.le_of_ble_eq_true rfl) (Nat.le_of_ble_eq_true rfl) rfl (Nat.le_of_ble_eq_true rfl) dX12_readPart_148 (fun r_176 L_177 f_178 h_179 => ?_)
        obtain ⟨rfl, rfl, b_180, x_181⟩ := h_179
        have fe_184 : fld (f a_0) 12 = (v_36 : Int32).toInt := by rw [e_24]; rfl
        rw [fe_184] at x_181
        clear fe_184
        try simp only [Int32.reduceToInt, Int64.reduceToInt] at x_181
        refine v_if_ne_f hC dX12_readPart_151 (tgt := 155) (by decide) (gdb_z x_181 g0_171) ?_
        have fe_185 : fld (f a_0) 12 = (v_36 : Int32).toInt := by rw [e_24]; rfl
        have fe_186 : fld (f a_0) 8 = (v_29 : Int32).toInt := by rw [e_24]; rfl
        have fe_187 : fld (f a_0) 9 = (v_31 : Int32).toInt := by rw [e_24]; rfl
        have fe_188 : fld (f a_0) 10 = (v_33 : Int32).toInt := by rw [e_24]; rfl
        have fe_189 : fld (f a_0) 12 = (v_36 : Int32).toInt := by rw [e_24]; rfl
        exact hR _ _ _ _ _ _ dX12_readPart_154 (Nat.le_of_ble_eq_true rfl) (Nat.le_of_ble_eq_true rfl) ⟨rfl, hW, FR.rf, ⟨_, e_f, o_f, PG.rf, (by omega), (by simp only [fe_185]; exact .inl g0_171)⟩, (by simp only [fe_186, fe_187, fe_188, fe_189, mz_40, mz_41, mz_43]; exact .inl g0_171)⟩
      · simp only [Int32.lt_iff_toInt_lt, Int32.le_iff_toInt_le, Int32.reduceToInt, ← Int32.toInt_inj] at h_174
        refine v_aload_n hC dX12_readPart_134 rfl ?_
        refine v_iconst hC dX12_readPart_135 (v := 0) (by decide) ?_
        refine v_sipush hC dX12_readPart_136 (v := 999) (by decide) ?_
        refine v_vi hC (rest := []) m_1 e_24 rfl mi_X12_number ms_X12_number (p_X12_number hW k_0) mx_X12_number ml_X12_170 (by decide) rfl (cells1 := 0) (slots1 := 0) (by decide) (by decide) (Nat.le_of_ble_eq_true rfl) (Nat.le_of_ble_eq_true rfl) rfl (Nat.le_of_ble_eq_true rfl) dX12_readPart_139 (fun r_190 L_191 f_192 h_193 => ?_)
        obtain ⟨rfl, hW_195, hF_196, -, -, -, -, -, x_194⟩ := h_193
        have fe_197 : fld (f a_0) 8 = (v_29 : Int32).toInt := by rw [e_24]; rfl
        have fe_198 : fld (f a_0) 10 = (v_33 : Int32).toInt := by rw [e_24]; rfl
        have fe_199 : fld (f a_0) 12 = (v_36 : Int32).toInt := by rw [e_24]; rfl
        have hf_200 := hF_196.at e_f rfl
        obtain ⟨v_202, v_203, v_204, v_206, v_208, v_210, v_212, v_213, v_214, v_215, v_216, e_201, -, b_205, b_207, b_209, b_211, -, -⟩ := hW_195.at m_1 t_2
        have fe_217 : fld (f_192 a_0) 8 = (v_206 : Int32).toInt := by rw [e_201]; rfl
        have fe_218 : fld (f_192 a_0) 9 = (v_208 : Int32).toInt := by rw [e_201]; rfl
        have fe_219 : fld (f_192 a_0) 10 = (v_210 : Int32).toInt := by rw [e_201]; rfl
        have fe_220 : fld (f_192 a_0) 12 = (v_213 : Int32).toInt := by rw [e_201]; rfl
        rw [fe_220, fe_199, fe_198, fe_197, fe_218, fe_217, fe_219] at x_194
        have nb_221 : ¬ (v_213 : Int32).toInt = 0 := x_194.elim id (fun h9 => absurd h9.1 g0_171)
        clear x_194
        clear fe_197 fe_198 fe_199 fe_217 fe_218 fe_219 fe_220
        try simp only [Int32.reduceToInt, Int64.reduceToInt] at x_194
        refine v_goto hC dX12_readPart_142 (tgt := 146) (by decide) ?_
        refine v_istore_n hC dX12_readPart_146 (by decide) (lv' := [(3, .int r_190), (2, .int v_157), (0, .ref a_0), (1, .int a_1)]) rfl ?_
        refine v_aload_n hC dX12_readPart_147 rfl ?_
        refine v_vi hC (rest := []) m_1 e_201 rfl mi_X12_good ms_X12_good (p_X12_good hW_195 k_0) mx_X12_good ml_X12_139 (by decide) rfl (cells1 := 0) (slots1 := 0) (by decide) (by decide) (Nat.le_of_ble_eq_true rfl) (Nat.le_of_ble_eq_true rfl) rfl (Nat.le_of_ble_eq_true rfl) dX12_readPart_148 (fun r_222 L_223 f_224 h_225 => ?_)
        obtain ⟨rfl, rfl, b_226, x_227⟩ := h_225
        have fe_230 : fld (f_192 a_0) 12 = (v_213 : Int32).toInt := by rw [e_201]; rfl
        rw [fe_230] at x_227
        clear fe_230
        try simp only [Int32.reduceToInt, Int64.reduceToInt] at x_227
        refine v_if_ne_f hC dX12_readPart_151 (tgt := 155) (by decide) (gdb_z x_227 nb_221) ?_
        have fe_231 : fld (f_192 a_0) 12 = (v_213 : Int32).toInt := by rw [e_201]; rfl
        have fe_232 : fld (f_192 a_0) 8 = (v_206 : Int32).toInt := by rw [e_201]; rfl
        have fe_233 : fld (f_192 a_0) 9 = (v_208 : Int32).toInt := by rw [e_201]; rfl
        have fe_234 : fld (f_192 a_0) 10 = (v_210 : Int32).toInt := by rw [e_201]; rfl
        have fe_235 : fld (f_192 a_0) 12 = (v_213 : Int32).toInt := by rw [e_201]; rfl
        exact hR _ _ _ _ _ _ dX12_readPart_154 (Nat.le_of_ble_eq_true rfl) (Nat.le_of_ble_eq_true rfl) ⟨rfl, hW_195, (hF_196.mono rfl), ⟨_, hf_200, o_f, PG.rf, (by omega), (by simp only [fe_231]; exact .inl nb_221)⟩, (by simp only [fe_232, fe_233, fe_234, fe_235, mz_40, mz_41, mz_43]; exact .inl nb_221)⟩
    · simp only [Int32.lt_iff_toInt_lt, Int32.le_iff_toInt_le, Int32.reduceToInt, ← Int32.toInt_inj] at h_170
      have nb_172 : (1 ≤ r_161.toInt ∧ r_161.toInt ≤ 1) := by omega
      have g0_173 := gd_t x_166 h_170
      clear x_166
      refine v_iload_n hC dX12_readPart_118 rfl ?_
      refine v_bipush hC dX12_readPart_119 (v := 8) (by decide) ?_
      refine v_icmp_ge hC dX12_readPart_121 (tgt := 128) (by decide) (fun h_236 => ?_) (fun h_236 => ?_)
      · simp only [Int32.lt_iff_toInt_lt, Int32.le_iff_toInt_le, Int32.reduceToInt, ← Int32.toInt_inj] at h_236
        refine v_iload_n hC dX12_readPart_128 rfl ?_
        refine v_bipush hC dX12_readPart_129 (v := 8) (by decide) ?_
        refine v_icmp_ne_f hC dX12_readPart_131 (tgt := 145) (by decide) (by first | omega | (simp only [Int32.lt_iff_toInt_lt, Int32.le_iff_toInt_le, Int32.reduceToInt, ← Int32.toInt_inj, true_and, and_true, or_true, true_or, false_or, or_false, false_and, and_false, not_true_eq_false, not_false_eq_true] <;> omega)) ?_
        refine v_aload_n hC dX12_readPart_134 rfl ?_
        refine v_iconst hC dX12_readPart_135 (v := 0) (by decide) ?_
        refine v_sipush hC dX12_readPart_136 (v := 999) (by decide) ?_
        refine v_vi hC (rest := []) m_1 e_24 rfl mi_X12_number ms_X12_number (p_X12_number hW k_0) mx_X12_number ml_X12_170 (by decide) rfl (cells1 := 0) (slots1 := 0) (by decide) (by decide) (Nat.le_of_ble_eq_true rfl) (Nat.le_of_ble_eq_true rfl) rfl (Nat.le_of_ble_eq_true rfl) dX12_readPart_139 (fun r_237 L_238 f_239 h_240 => ?_)
        obtain ⟨rfl, hW_242, hF_243, -, -, -, -, -, x_241⟩ := h_240
        have fe_244 : fld (f a_0) 8 = (v_29 : Int32).toInt := by rw [e_24]; rfl
        have fe_245 : fld (f a_0) 10 = (v_33 : Int32).toInt := by rw [e_24]; rfl
        have fe_246 : fld (f a_0) 12 = (v_36 : Int32).toInt := by rw [e_24]; rfl
        have hf_247 := hF_243.at e_f rfl
        obtain ⟨v_249, v_250, v_251, v_253, v_255, v_257, v_259, v_260, v_261, v_262, v_263, e_248, -, b_252, b_254, b_256, b_258, -, -⟩ := hW_242.at m_1 t_2
        have fe_264 : fld (f_239 a_0) 8 = (v_253 : Int32).toInt := by rw [e_248]; rfl
        have fe_265 : fld (f_239 a_0) 9 = (v_255 : Int32).toInt := by rw [e_248]; rfl
        have fe_266 : fld (f_239 a_0) 10 = (v_257 : Int32).toInt := by rw [e_248]; rfl
        have fe_267 : fld (f_239 a_0) 12 = (v_260 : Int32).toInt := by rw [e_248]; rfl
        rw [fe_267, fe_246, fe_245, fe_244, fe_265, fe_264, fe_266] at x_241
        clear fe_244 fe_245 fe_246 fe_264 fe_265 fe_266 fe_267
        try simp only [Int32.reduceToInt, Int64.reduceToInt] at x_241
        refine v_goto hC dX12_readPart_142 (tgt := 146) (by decide) ?_
        refine v_istore_n hC dX12_readPart_146 (by decide) (lv' := [(3, .int r_237), (2, .int v_157), (0, .ref a_0), (1, .int a_1)]) rfl ?_
        refine v_aload_n hC dX12_readPart_147 rfl ?_
        refine v_vi hC (rest := []) m_1 e_248 rfl mi_X12_good ms_X12_good (p_X12_good hW_242 k_0) mx_X12_good ml_X12_139 (by decide) rfl (cells1 := 0) (slots1 := 0) (by decide) (by decide) (Nat.le_of_ble_eq_true rfl) (Nat.le_of_ble_eq_true rfl) rfl (Nat.le_of_ble_eq_true rfl) dX12_readPart_148 (fun r_268 L_269 f_270 h_271 => ?_)
        obtain ⟨rfl, rfl, b_272, x_273⟩ := h_271
        have fe_276 : fld (f_239 a_0) 12 = (v_260 : Int32).toInt := by rw [e_248]; rfl
        rw [fe_276] at x_273
        clear fe_276
        try simp only [Int32.reduceToInt, Int64.reduceToInt] at x_273
        refine v_if_ne hC dX12_readPart_151 (tgt := 155) (by decide) (fun h_277 => ?_) (fun h_277 => ?_)
        · simp only [Int32.lt_iff_toInt_lt, Int32.le_iff_toInt_le, Int32.reduceToInt, ← Int32.toInt_inj] at h_277
          have nb_278 : (1 ≤ r_268.toInt ∧ r_268.toInt ≤ 1) := by omega
          have g0_279 := gd_t x_273 h_277
          clear x_273
          have gp_280 := x_241.resolve_left (fun h9 => h9 g0_279)
          clear x_241
          refine v_sipush hC dX12_readPart_155 (v := 562) (by decide) ?_
          refine v_iconst hC dX12_readPart_158 (v := 3) (by decide) ?_
          refine v_aload_n hC dX12_readPart_159 rfl ?_
          refine v_get hC fl_X12_34 m_1 e_248 rfl dX12_readPart_160 ?_
          refine v_iconst hC dX12_readPart_163 (v := 5) (by decide) ?_
          refine v_iald hC m_22 hf_247 (vp_in_iff.mpr (by decide)) (v := g_f 5) rfl dX12_readPart_164 ?_
          have b_282 : 0 ≤ (g_f 5).toInt ∧ (g_f 5).toInt ≤ 149 := by omega
          obtain ⟨v_283, h_284⟩ : ∃ v9 : Int32, (3 : Int32) * (g_f 5) = v9 := ⟨_, rfl⟩
          refine v_imul hC dX12_readPart_165 h_284 ?_
          have h_285 := mul_v 3 149 447 h_284 (by decide) (by first | omega | (simp only [Int32.lt_iff_toInt_lt, Int32.le_iff_toInt_le, Int32.reduceToInt, ← Int32.toInt_inj, true_and, and_true, or_true, true_or, false_or, or_false, false_and, and_false, not_true_eq_false, not_false_eq_true] <;> omega)) (by decide) (by decide)
          try simp only [Int32.reduceToInt] at h_285
          obtain ⟨v_286, h_287⟩ : ∃ v9 : Int32, (562 : Int32) + v_283 = v9 := ⟨_, rfl⟩
          refine v_iadd hC dX12_readPart_166 h_287 ?_
          have h_288 := add_v h_287 (by first | omega | (simp only [Int32.lt_iff_toInt_lt, Int32.le_iff_toInt_le, Int32.reduceToInt, ← Int32.toInt_inj, true_and, and_true, or_true, true_or, false_or, or_false, false_and, and_false, not_true_eq_false, not_false_eq_true] <;> omega)) (by first | omega | (simp only [Int32.lt_iff_toInt_lt, Int32.le_iff_toInt_le, Int32.reduceToInt, ← Int32.toInt_inj, true_and, and_true, or_true, true_or, false_or, or_false, false_and, and_false, not_true_eq_false, not_false_eq_true] <;> omega))
          try simp only [Int32.reduceToInt] at h_288
          refine v_istore hC dX12_readPart_167 (by decide) (lv' := [(4, .int v_286), (3, .int r_237), (2, .int v_157), (0, .ref a_0), (1, .int a_1)]) rfl ?_
          refine v_aload_n hC dX12_readPart_169 rfl ?_
          refine v_get hC fl_X12_34 m_1 e_248 rfl dX12_readPart_170 ?_
          refine v_iload hC dX12_readPart_173 rfl ?_
          refine v_iload_n hC dX12_readPart_175 rfl ?_
          refine v_iast hC m_22 hf_247 (vp_in_iff.mpr (by first | omega | (simp only [Int32.lt_iff_toInt_lt, Int32.le_iff_toInt_le, Int32.reduceToInt, ← Int32.toInt_inj, true_and, and_true, or_true, true_or, false_or, or_false, false_and, and_false, not_true_eq_false, not_false_eq_true] <;> omega))) dX12_readPart_176 (fun f_289 hf_290 hk_291 => ?_)
          have hW_293 := hW_242.up hf_290 hk_291 t_23 ⟨_, rfl, (o_f.up (by first | omega | (simp only [Int32.lt_iff_toInt_lt, Int32.le_iff_toInt_le, Int32.reduceToInt, ← Int32.toInt_inj, true_and, and_true, or_true, true_or, false_or, or_false, false_and, and_false, not_true_eq_false, not_false_eq_true] <;> omega)) (fun q1 q2 => (by first | omega | (simp only [Int32.lt_iff_toInt_lt, Int32.le_iff_toInt_le, Int32.reduceToInt, ← Int32.toInt_inj] at *; omega))) (fun k9 q1 q2 q3 => (by first | omega | (simp only [Int32.lt_iff_toInt_lt, Int32.le_iff_toInt_le, Int32.reduceToInt, ← Int32.toInt_inj] at *; omega))))⟩
          obtain ⟨g_292, hf_290, ok_294, eg_295⟩ : ∃ g9, f_289 (q 14) = aI E 2076 g9 ∧ FOK g9 ∧ g9 = upd g_f (v_286 : Int32).toNatClampNeg a_1 := ⟨_, hf_290, (o_f.up (by first | omega | (simp only [Int32.lt_iff_toInt_lt, Int32.le_iff_toInt_le, Int32.reduceToInt, ← Int32.toInt_inj, true_and, and_true, or_true, true_or, false_or, or_false, false_and, and_false, not_true_eq_false, not_false_eq_true] <;> omega)) (fun q1 q2 => (by first | omega | (simp only [Int32.lt_iff_toInt_lt, Int32.le_iff_toInt_le, Int32.reduceToInt, ← Int32.toInt_inj] at *; omega))) (fun k9 q1 q2 q3 => (by first | omega | (simp only [Int32.lt_iff_toInt_lt, Int32.le_iff_toInt_le, Int32.reduceToInt, ← Int32.toInt_inj] at *; omega)))), rfl⟩
          have hf_296 := (hk_291 a_0 (ne_kd e_248 hf_247 rfl)).trans e_248
          have fr_297 := FR.w hk_291 hf_247 (k := 2176) rfl
          have pg_298 := PG.st PG.rf eg_295 (by omega)
          have h5_299 : (g_292 5).toInt = (g_f 5).toInt := upd_lo (g0 := g_f) 5 eg_295 rfl (by omega)
          refine v_aload_n hC dX12_readPart_177 rfl ?_
          refine v_get hC fl_X12_34 m_1 hf_296 rfl dX12_readPart_178 ?_
          refine v_iload hC dX12_readPart_181 rfl ?_
          refine v_iconst hC dX12_readPart_183 (v := 1) (by decide) ?_
          obtain ⟨v_300, h_301⟩ : ∃ v9 : Int32, v_286 + 1 = v9 := ⟨_, rfl⟩
          refine v_iadd hC dX12_readPart_184 h_301 ?_
          have h_302 := add_v h_301 (by first | omega | (simp only [Int32.lt_iff_toInt_lt, Int32.le_iff_toInt_le, Int32.reduceToInt, ← Int32.toInt_inj, true_and, and_true, or_true, true_or, false_or, or_false, false_and, and_false, not_true_eq_false, not_false_eq_true] <;> omega)) (by first | omega | (simp only [Int32.lt_iff_toInt_lt, Int32.le_iff_toInt_le, Int32.reduceToInt, ← Int32.toInt_inj, true_and, and_true, or_true, true_or, false_or, or_false, false_and, and_false, not_true_eq_false, not_false_eq_true] <;> omega))
          try simp only [Int32.reduceToInt] at h_302
          refine v_iload_n hC dX12_readPart_185 rfl ?_
          refine v_iast hC m_22 hf_290 (vp_in_iff.mpr (by first | omega | (simp only [Int32.lt_iff_toInt_lt, Int32.le_iff_toInt_le, Int32.reduceToInt, ← Int32.toInt_inj, true_and, and_true, or_true, true_or, false_or, or_false, false_and, and_false, not_true_eq_false, not_false_eq_true] <;> omega))) dX12_readPart_186 (fun f_303 hf_304 hk_305 => ?_)
          have hW_307 := hW_293.up hf_304 hk_305 t_23 ⟨_, rfl, (ok_294.up (by first | omega | (simp only [Int32.lt_iff_toInt_lt, Int32.le_iff_toInt_le, Int32.reduceToInt, ← Int32.toInt_inj, true_and, and_true, or_true, true_or, false_or, or_false, false_and, and_false, not_true_eq_false, not_false_eq_true] <;> omega)) (fun q1 q2 => (by first | omega | (simp only [Int32.lt_iff_toInt_lt, Int32.le_iff_toInt_le, Int32.reduceToInt, ← Int32.toInt_inj] at *; omega))) (fun k9 q1 q2 q3 => (by first | omega | (simp only [Int32.lt_iff_toInt_lt, Int32.le_iff_toInt_le, Int32.reduceToInt, ← Int32.toInt_inj] at *; omega))))⟩
          obtain ⟨g_306, hf_304, ok_308, eg_309⟩ : ∃ g9, f_303 (q 14) = aI E 2076 g9 ∧ FOK g9 ∧ g9 = upd g_292 (v_300 : Int32).toNatClampNeg v_157 := ⟨_, hf_304, (ok_294.up (by first | omega | (simp only [Int32.lt_iff_toInt_lt, Int32.le_iff_toInt_le, Int32.reduceToInt, ← Int32.toInt_inj, true_and, and_true, or_true, true_or, false_or, or_false, false_and, and_false, not_true_eq_false, not_false_eq_true] <;> omega)) (fun q1 q2 => (by first | omega | (simp only [Int32.lt_iff_toInt_lt, Int32.le_iff_toInt_le, Int32.reduceToInt, ← Int32.toInt_inj] at *; omega))) (fun k9 q1 q2 q3 => (by first | omega | (simp only [Int32.lt_iff_toInt_lt, Int32.le_iff_toInt_le, Int32.reduceToInt, ← Int32.toInt_inj] at *; omega)))), rfl⟩
          have hf_310 := (hk_305 a_0 (ne_kd hf_296 hf_290 rfl)).trans hf_296
          have fr_311 := FR.w hk_305 hf_290 (k := 2176) rfl
          have pg_312 := PG.st pg_298 eg_309 (by omega)
          have h5_313 : (g_306 5).toInt = (g_f 5).toInt := upd_lo (g0 := g_f) 5 eg_309 h5_299 (by omega)
          refine v_aload_n hC dX12_readPart_187 rfl ?_
          refine v_get hC fl_X12_34 m_1 hf_310 rfl dX12_readPart_188 ?_
          refine v_iload hC dX12_readPart_191 rfl ?_
          refine v_iconst hC dX12_readPart_193 (v := 2) (by decide) ?_
          obtain ⟨v_314, h_315⟩ : ∃ v9 : Int32, v_286 + 2 = v9 := ⟨_, rfl⟩
          refine v_iadd hC dX12_readPart_194 h_315 ?_
          have h_316 := add_v h_315 (by first | omega | (simp only [Int32.lt_iff_toInt_lt, Int32.le_iff_toInt_le, Int32.reduceToInt, ← Int32.toInt_inj, true_and, and_true, or_true, true_or, false_or, or_false, false_and, and_false, not_true_eq_false, not_false_eq_true] <;> omega)) (by first | omega | (simp only [Int32.lt_iff_toInt_lt, Int32.le_iff_toInt_le, Int32.reduceToInt, ← Int32.toInt_inj, true_and, and_true, or_true, true_or, false_or, or_false, false_and, and_false, not_true_eq_false, not_false_eq_true] <;> omega))
          try simp only [Int32.reduceToInt] at h_316
          refine v_iload_n hC dX12_readPart_195 rfl ?_
          refine v_iast hC m_22 hf_304 (vp_in_iff.mpr (by first | omega | (simp only [Int32.lt_iff_toInt_lt, Int32.le_iff_toInt_le, Int32.reduceToInt, ← Int32.toInt_inj, true_and, and_true, or_true, true_or, false_or, or_false, false_and, and_false, not_true_eq_false, not_false_eq_true] <;> omega))) dX12_readPart_196 (fun f_317 hf_318 hk_319 => ?_)
          have hW_321 := hW_307.up hf_318 hk_319 t_23 ⟨_, rfl, (ok_308.up (by first | omega | (simp only [Int32.lt_iff_toInt_lt, Int32.le_iff_toInt_le, Int32.reduceToInt, ← Int32.toInt_inj, true_and, and_true, or_true, true_or, false_or, or_false, false_and, and_false, not_true_eq_false, not_false_eq_true] <;> omega)) (fun q1 q2 => (by first | omega | (simp only [Int32.lt_iff_toInt_lt, Int32.le_iff_toInt_le, Int32.reduceToInt, ← Int32.toInt_inj] at *; omega))) (fun k9 q1 q2 q3 => (by first | omega | (simp only [Int32.lt_iff_toInt_lt, Int32.le_iff_toInt_le, Int32.reduceToInt, ← Int32.toInt_inj] at *; omega))))⟩
          obtain ⟨g_320, hf_318, ok_322, eg_323⟩ : ∃ g9, f_317 (q 14) = aI E 2076 g9 ∧ FOK g9 ∧ g9 = upd g_306 (v_314 : Int32).toNatClampNeg r_237 := ⟨_, hf_318, (ok_308.up (by first | omega | (simp only [Int32.lt_iff_toInt_lt, Int32.le_iff_toInt_le, Int32.reduceToInt, ← Int32.toInt_inj, true_and, and_true, or_true, true_or, false_or, or_false, false_and, and_false, not_true_eq_false, not_false_eq_true] <;> omega)) (fun q1 q2 => (by first | omega | (simp only [Int32.lt_iff_toInt_lt, Int32.le_iff_toInt_le, Int32.reduceToInt, ← Int32.toInt_inj] at *; omega))) (fun k9 q1 q2 q3 => (by first | omega | (simp only [Int32.lt_iff_toInt_lt, Int32.le_iff_toInt_le, Int32.reduceToInt, ← Int32.toInt_inj] at *; omega)))), rfl⟩
          have hf_324 := (hk_319 a_0 (ne_kd hf_310 hf_304 rfl)).trans hf_310
          have fr_325 := FR.w hk_319 hf_304 (k := 2176) rfl
          have pg_326 := PG.st pg_312 eg_323 (by omega)
          have h5_327 : (g_320 5).toInt = (g_f 5).toInt := upd_lo (g0 := g_f) 5 eg_323 h5_313 (by omega)
          refine v_aload_n hC dX12_readPart_197 rfl ?_
          refine v_get hC fl_X12_34 m_1 hf_324 rfl dX12_readPart_198 ?_
          refine v_iconst hC dX12_readPart_201 (v := 5) (by decide) ?_
          refine v_dup2 hC dX12_readPart_202 rfl rfl ?_
          refine v_iald hC m_22 hf_318 (vp_in_iff.mpr (by decide)) (v := g_320 5) rfl dX12_readPart_203 ?_
          refine v_iconst hC dX12_readPart_204 (v := 1) (by decide) ?_
          obtain ⟨v_328, h_329⟩ : ∃ v9 : Int32, (g_320 5) + 1 = v9 := ⟨_, rfl⟩
          refine v_iadd hC dX12_readPart_205 h_329 ?_
          have h_330 := add_v h_329 (by first | omega | (simp only [Int32.lt_iff_toInt_lt, Int32.le_iff_toInt_le, Int32.reduceToInt, ← Int32.toInt_inj, true_and, and_true, or_true, true_or, false_or, or_false, false_and, and_false, not_true_eq_false, not_false_eq_true] <;> omega)) (by first | omega | (simp only [Int32.lt_iff_toInt_lt, Int32.le_iff_toInt_le, Int32.reduceToInt, ← Int32.toInt_inj, true_and, and_true, or_true, true_or, false_or, or_false, false_and, and_false, not_true_eq_false, not_false_eq_true] <;> omega))
          try simp only [Int32.reduceToInt] at h_330
          refine v_iast hC m_22 hf_318 (vp_in_iff.mpr (by decide)) dX12_readPart_206 (fun f_331 hf_332 hk_333 => ?_)
          have hW_335 := hW_321.up hf_332 hk_333 t_23 ⟨_, rfl, (ok_322.up (i := 5) (by decide) (fun q1 q2 => absurd (And.intro q1 q2) (by decide)) (fun k9 q1 q2 q3 => by simp only [Int32.reduceToInt] at q3; omega))⟩
          obtain ⟨g_334, hf_332, ok_336, eg_337⟩ : ∃ g9, f_331 (q 14) = aI E 2076 g9 ∧ FOK g9 ∧ g9 = upd g_320 (5 : Int32).toNatClampNeg v_328 := ⟨_, hf_332, (ok_322.up (i := 5) (by decide) (fun q1 q2 => absurd (And.intro q1 q2) (by decide)) (fun k9 q1 q2 q3 => by simp only [Int32.reduceToInt] at q3; omega)), rfl⟩
          have hf_338 := (hk_333 a_0 (ne_kd hf_324 hf_318 rfl)).trans hf_324
          have fr_339 := FR.w hk_333 hf_318 (k := 2176) rfl
          have pg_340 := PG.st5 pg_326 eg_337
          have pg_340_t : (g_334 5).toInt = (v_328 : Int32).toInt := congrArg Int32.toInt pg_340.2
          have fe_341 : fld (f_331 a_0) 12 = (v_260 : Int32).toInt := by rw [hf_338]; rfl
          have fe_342 : fld (f_331 a_0) 8 = (v_253 : Int32).toInt := by rw [hf_338]; rfl
          have fe_343 : fld (f_331 a_0) 9 = (v_255 : Int32).toInt := by rw [hf_338]; rfl
          have fe_344 : fld (f_331 a_0) 10 = (v_257 : Int32).toInt := by rw [hf_338]; rfl
          have fe_345 : fld (f_331 a_0) 12 = (v_260 : Int32).toInt := by rw [hf_338]; rfl
          exact hR _ _ _ _ _ _ dX12_readPart_207 (Nat.le_of_ble_eq_true rfl) (Nat.le_of_ble_eq_true rfl) ⟨rfl, hW_335, (((((hF_243.tr fr_297).tr fr_311).tr fr_325).tr fr_339).mono rfl), ⟨_, hf_332, ok_336, pg_340.1, (by omega), (by simp only [fe_341]; by_cases q9 : (v_260 : Int32).toInt = 0; (right; omega); exact .inl q9)⟩, (by simp only [fe_342, fe_343, fe_344, fe_345, mz_40, mz_41, mz_43]; by_cases q9 : (v_260 : Int32).toInt = 0; (right; omega); exact .inl q9)⟩
        · simp only [Int32.lt_iff_toInt_lt, Int32.le_iff_toInt_le, Int32.reduceToInt, ← Int32.toInt_inj] at h_277
          have g0_281 := gd_f x_273 h_277
          clear x_273
          clear x_241
          have fe_346 : fld (f_239 a_0) 12 = (v_260 : Int32).toInt := by rw [e_248]; rfl
          have fe_347 : fld (f_239 a_0) 8 = (v_253 : Int32).toInt := by rw [e_248]; rfl
          have fe_348 : fld (f_239 a_0) 9 = (v_255 : Int32).toInt := by rw [e_248]; rfl
          have fe_349 : fld (f_239 a_0) 10 = (v_257 : Int32).toInt := by rw [e_248]; rfl
          have fe_350 : fld (f_239 a_0) 12 = (v_260 : Int32).toInt := by rw [e_248]; rfl
          exact hR _ _ _ _ _ _ dX12_readPart_154 (Nat.le_of_ble_eq_true rfl) (Nat.le_of_ble_eq_true rfl) ⟨rfl, hW_242, (hF_243.mono rfl), ⟨_, hf_247, o_f, PG.rf, (by omega), (by simp only [fe_346]; exact .inl g0_281)⟩, (by simp only [fe_347, fe_348, fe_349, fe_350, mz_40, mz_41, mz_43]; exact .inl g0_281)⟩
      · simp only [Int32.lt_iff_toInt_lt, Int32.le_iff_toInt_le, Int32.reduceToInt, ← Int32.toInt_inj] at h_236
        refine v_aload_n hC dX12_readPart_124 rfl ?_
        refine v_vv hC (rest := []) m_1 e_24 rfl mi_X12_advance ms_X12_advance (p_X12_advance hW k_0) mx_X12_advance ml_X12_156 (by decide) rfl (cells1 := 0) (slots1 := 0) (by decide) (by decide) (Nat.le_of_ble_eq_true rfl) (Nat.le_of_ble_eq_true rfl) rfl (Nat.le_of_ble_eq_true rfl) dX12_readPart_125 (fun L_352 f_353 h_354 => ?_)
        obtain ⟨rfl, hW_358, hF_359, x_355, x_356, x_357, -⟩ := h_354
        have fe_360 : fld (f a_0) 8 = (v_29 : Int32).toInt := by rw [e_24]; rfl
        have fe_361 : fld (f a_0) 12 = (v_36 : Int32).toInt := by rw [e_24]; rfl
        have hf_362 := hF_359.at e_f rfl
        obtain ⟨v_364, v_365, v_366, v_368, v_370, v_372, v_374, v_375, v_376, v_377, v_378, e_363, -, b_367, b_369, b_371, b_373, -, -⟩ := hW_358.at m_1 t_2
        have fe_379 : fld (f_353 a_0) 8 = (v_368 : Int32).toInt := by rw [e_363]; rfl
        have fe_380 : fld (f_353 a_0) 9 = (v_370 : Int32).toInt := by rw [e_363]; rfl
        have fe_381 : fld (f_353 a_0) 10 = (v_372 : Int32).toInt := by rw [e_363]; rfl
        have fe_382 : fld (f_353 a_0) 12 = (v_375 : Int32).toInt := by rw [e_363]; rfl
        rw [fe_360, fe_380, fe_379] at x_355
        rw [fe_381, fe_380, fe_379] at x_356
        rw [fe_382, fe_361] at x_357
        have g0_383 := x_357.trans g0_173
        clear fe_360 fe_361 fe_379 fe_380 fe_381 fe_382
        refine v_iload_n hC dX12_readPart_128 rfl ?_
        refine v_bipush hC dX12_readPart_129 (v := 8) (by decide) ?_
        refine v_icmp_ne_t hC dX12_readPart_131 (tgt := 145) (by decide) (by first | omega | (simp only [Int32.lt_iff_toInt_lt, Int32.le_iff_toInt_le, Int32.reduceToInt, ← Int32.toInt_inj, true_and, and_true, or_true, true_or, false_or, or_false, false_and, and_false, not_true_eq_false, not_false_eq_true] <;> omega)) ?_
        refine v_iconst hC dX12_readPart_145 (v := 0) (by decide) ?_
        refine v_istore_n hC dX12_readPart_146 (by decide) (lv' := [(3, .int 0), (2, .int v_157), (0, .ref a_0), (1, .int a_1)]) rfl ?_
        refine v_aload_n hC dX12_readPart_147 rfl ?_
        refine v_vi hC (rest := []) m_1 e_363 rfl mi_X12_good ms_X12_good (p_X12_good hW_358 k_0) mx_X12_good ml_X12_139 (by decide) rfl (cells1 := 0) (slots1 := 0) (by decide) (by decide) (Nat.le_of_ble_eq_true rfl) (Nat.le_of_ble_eq_true rfl) rfl (Nat.le_of_ble_eq_true rfl) dX12_readPart_148 (fun r_384 L_385 f_386 h_387 => ?_)
        obtain ⟨rfl, rfl, b_388, x_389⟩ := h_387
        have fe_392 : fld (f_353 a_0) 12 = (v_375 : Int32).toInt := by rw [e_363]; rfl
        rw [fe_392] at x_389
        clear fe_392
        try simp only [Int32.reduceToInt, Int64.reduceToInt] at x_389
        refine v_if_ne_t hC dX12_readPart_151 (tgt := 155) (by decide) (gdb_n x_389 g0_383) ?_
        refine v_sipush hC dX12_readPart_155 (v := 562) (by decide) ?_
        refine v_iconst hC dX12_readPart_158 (v := 3) (by decide) ?_
        refine v_aload_n hC dX12_readPart_159 rfl ?_
        refine v_get hC fl_X12_34 m_1 e_363 rfl dX12_readPart_160 ?_
        refine v_iconst hC dX12_readPart_163 (v := 5) (by decide) ?_
        refine v_iald hC m_22 hf_362 (vp_in_iff.mpr (by decide)) (v := g_f 5) rfl dX12_readPart_164 ?_
        have b_393 : 0 ≤ (g_f 5).toInt ∧ (g_f 5).toInt ≤ 149 := by omega
        obtain ⟨v_394, h_395⟩ : ∃ v9 : Int32, (3 : Int32) * (g_f 5) = v9 := ⟨_, rfl⟩
        refine v_imul hC dX12_readPart_165 h_395 ?_
        have h_396 := mul_v 3 149 447 h_395 (by decide) (by first | omega | (simp only [Int32.lt_iff_toInt_lt, Int32.le_iff_toInt_le, Int32.reduceToInt, ← Int32.toInt_inj, true_and, and_true, or_true, true_or, false_or, or_false, false_and, and_false, not_true_eq_false, not_false_eq_true] <;> omega)) (by decide) (by decide)
        try simp only [Int32.reduceToInt] at h_396
        obtain ⟨v_397, h_398⟩ : ∃ v9 : Int32, (562 : Int32) + v_394 = v9 := ⟨_, rfl⟩
        refine v_iadd hC dX12_readPart_166 h_398 ?_
        have h_399 := add_v h_398 (by first | omega | (simp only [Int32.lt_iff_toInt_lt, Int32.le_iff_toInt_le, Int32.reduceToInt, ← Int32.toInt_inj, true_and, and_true, or_true, true_or, false_or, or_false, false_and, and_false, not_true_eq_false, not_false_eq_true] <;> omega)) (by first | omega | (simp only [Int32.lt_iff_toInt_lt, Int32.le_iff_toInt_le, Int32.reduceToInt, ← Int32.toInt_inj, true_and, and_true, or_true, true_or, false_or, or_false, false_and, and_false, not_true_eq_false, not_false_eq_true] <;> omega))
        try simp only [Int32.reduceToInt] at h_399
        refine v_istore hC dX12_readPart_167 (by decide) (lv' := [(4, .int v_397), (3, .int 0), (2, .int v_157), (0, .ref a_0), (1, .int a_1)]) rfl ?_
        refine v_aload_n hC dX12_readPart_169 rfl ?_
        refine v_get hC fl_X12_34 m_1 e_363 rfl dX12_readPart_170 ?_
        refine v_iload hC dX12_readPart_173 rfl ?_
        refine v_iload_n hC dX12_readPart_175 rfl ?_
        refine v_iast hC m_22 hf_362 (vp_in_iff.mpr (by first | omega | (simp only [Int32.lt_iff_toInt_lt, Int32.le_iff_toInt_le, Int32.reduceToInt, ← Int32.toInt_inj, true_and, and_true, or_true, true_or, false_or, or_false, false_and, and_false, not_true_eq_false, not_false_eq_true] <;> omega))) dX12_readPart_176 (fun f_400 hf_401 hk_402 => ?_)
        have hW_404 := hW_358.up hf_401 hk_402 t_23 ⟨_, rfl, (o_f.up (by first | omega | (simp only [Int32.lt_iff_toInt_lt, Int32.le_iff_toInt_le, Int32.reduceToInt, ← Int32.toInt_inj, true_and, and_true, or_true, true_or, false_or, or_false, false_and, and_false, not_true_eq_false, not_false_eq_true] <;> omega)) (fun q1 q2 => (by first | omega | (simp only [Int32.lt_iff_toInt_lt, Int32.le_iff_toInt_le, Int32.reduceToInt, ← Int32.toInt_inj] at *; omega))) (fun k9 q1 q2 q3 => (by first | omega | (simp only [Int32.lt_iff_toInt_lt, Int32.le_iff_toInt_le, Int32.reduceToInt, ← Int32.toInt_inj] at *; omega))))⟩
        obtain ⟨g_403, hf_401, ok_405, eg_406⟩ : ∃ g9, f_400 (q 14) = aI E 2076 g9 ∧ FOK g9 ∧ g9 = upd g_f (v_397 : Int32).toNatClampNeg a_1 := ⟨_, hf_401, (o_f.up (by first | omega | (simp only [Int32.lt_iff_toInt_lt, Int32.le_iff_toInt_le, Int32.reduceToInt, ← Int32.toInt_inj, true_and, and_true, or_true, true_or, false_or, or_false, false_and, and_false, not_true_eq_false, not_false_eq_true] <;> omega)) (fun q1 q2 => (by first | omega | (simp only [Int32.lt_iff_toInt_lt, Int32.le_iff_toInt_le, Int32.reduceToInt, ← Int32.toInt_inj] at *; omega))) (fun k9 q1 q2 q3 => (by first | omega | (simp only [Int32.lt_iff_toInt_lt, Int32.le_iff_toInt_le, Int32.reduceToInt, ← Int32.toInt_inj] at *; omega)))), rfl⟩
        have hf_407 := (hk_402 a_0 (ne_kd e_363 hf_362 rfl)).trans e_363
        have fr_408 := FR.w hk_402 hf_362 (k := 2176) rfl
        have pg_409 := PG.st PG.rf eg_406 (by omega)
        have h5_410 : (g_403 5).toInt = (g_f 5).toInt := upd_lo (g0 := g_f) 5 eg_406 rfl (by omega)
        refine v_aload_n hC dX12_readPart_177 rfl ?_
        refine v_get hC fl_X12_34 m_1 hf_407 rfl dX12_readPart_178 ?_
        refine v_iload hC dX12_readPart_181 rfl ?_
        refine v_iconst hC dX12_readPart_183 (v := 1) (by decide) ?_
        obtain ⟨v_411, h_412⟩ : ∃ v9 : Int32, v_397 + 1 = v9 := ⟨_, rfl⟩
        refine v_iadd hC dX12_readPart_184 h_412 ?_
        have h_413 := add_v h_412 (by first | omega | (simp only [Int32.lt_iff_toInt_lt, Int32.le_iff_toInt_le, Int32.reduceToInt, ← Int32.toInt_inj, true_and, and_true, or_true, true_or, false_or, or_false, false_and, and_false, not_true_eq_false, not_false_eq_true] <;> omega)) (by first | omega | (simp only [Int32.lt_iff_toInt_lt, Int32.le_iff_toInt_le, Int32.reduceToInt, ← Int32.toInt_inj, true_and, and_true, or_true, true_or, false_or, or_false, false_and, and_false, not_true_eq_false, not_false_eq_true] <;> omega))
        try simp only [Int32.reduceToInt] at h_413
        refine v_iload_n hC dX12_readPart_185 rfl ?_
        refine v_iast hC m_22 hf_401 (vp_in_iff.mpr (by first | omega | (simp only [Int32.lt_iff_toInt_lt, Int32.le_iff_toInt_le, Int32.reduceToInt, ← Int32.toInt_inj, true_and, and_true, or_true, true_or, false_or, or_false, false_and, and_false, not_true_eq_false, not_false_eq_true] <;> omega))) dX12_readPart_186 (fun f_414 hf_415 hk_416 => ?_)
        have hW_418 := hW_404.up hf_415 hk_416 t_23 ⟨_, rfl, (ok_405.up (by first | omega | (simp only [Int32.lt_iff_toInt_lt, Int32.le_iff_toInt_le, Int32.reduceToInt, ← Int32.toInt_inj, true_and, and_true, or_true, true_or, false_or, or_false, false_and, and_false, not_true_eq_false, not_false_eq_true] <;> omega)) (fun q1 q2 => (by first | omega | (simp only [Int32.lt_iff_toInt_lt, Int32.le_iff_toInt_le, Int32.reduceToInt, ← Int32.toInt_inj] at *; omega))) (fun k9 q1 q2 q3 => (by first | omega | (simp only [Int32.lt_iff_toInt_lt, Int32.le_iff_toInt_le, Int32.reduceToInt, ← Int32.toInt_inj] at *; omega))))⟩
        obtain ⟨g_417, hf_415, ok_419, eg_420⟩ : ∃ g9, f_414 (q 14) = aI E 2076 g9 ∧ FOK g9 ∧ g9 = upd g_403 (v_411 : Int32).toNatClampNeg v_157 := ⟨_, hf_415, (ok_405.up (by first | omega | (simp only [Int32.lt_iff_toInt_lt, Int32.le_iff_toInt_le, Int32.reduceToInt, ← Int32.toInt_inj, true_and, and_true, or_true, true_or, false_or, or_false, false_and, and_false, not_true_eq_false, not_false_eq_true] <;> omega)) (fun q1 q2 => (by first | omega | (simp only [Int32.lt_iff_toInt_lt, Int32.le_iff_toInt_le, Int32.reduceToInt, ← Int32.toInt_inj] at *; omega))) (fun k9 q1 q2 q3 => (by first | omega | (simp only [Int32.lt_iff_toInt_lt, Int32.le_iff_toInt_le, Int32.reduceToInt, ← Int32.toInt_inj] at *; omega)))), rfl⟩
        have hf_421 := (hk_416 a_0 (ne_kd hf_407 hf_401 rfl)).trans hf_407
        have fr_422 := FR.w hk_416 hf_401 (k := 2176) rfl
        have pg_423 := PG.st pg_409 eg_420 (by omega)
        have h5_424 : (g_417 5).toInt = (g_f 5).toInt := upd_lo (g0 := g_f) 5 eg_420 h5_410 (by omega)
        refine v_aload_n hC dX12_readPart_187 rfl ?_
        refine v_get hC fl_X12_34 m_1 hf_421 rfl dX12_readPart_188 ?_
        refine v_iload hC dX12_readPart_191 rfl ?_
        refine v_iconst hC dX12_readPart_193 (v := 2) (by decide) ?_
        obtain ⟨v_425, h_426⟩ : ∃ v9 : Int32, v_397 + 2 = v9 := ⟨_, rfl⟩
        refine v_iadd hC dX12_readPart_194 h_426 ?_
        have h_427 := add_v h_426 (by first | omega | (simp only [Int32.lt_iff_toInt_lt, Int32.le_iff_toInt_le, Int32.reduceToInt, ← Int32.toInt_inj, true_and, and_true, or_true, true_or, false_or, or_false, false_and, and_false, not_true_eq_false, not_false_eq_true] <;> omega)) (by first | omega | (simp only [Int32.lt_iff_toInt_lt, Int32.le_iff_toInt_le, Int32.reduceToInt, ← Int32.toInt_inj, true_and, and_true, or_true, true_or, false_or, or_false, false_and, and_false, not_true_eq_false, not_false_eq_true] <;> omega))
        try simp only [Int32.reduceToInt] at h_427
        refine v_iload_n hC dX12_readPart_195 rfl ?_
        refine v_iast hC m_22 hf_415 (vp_in_iff.mpr (by first | omega | (simp only [Int32.lt_iff_toInt_lt, Int32.le_iff_toInt_le, Int32.reduceToInt, ← Int32.toInt_inj, true_and, and_true, or_true, true_or, false_or, or_false, false_and, and_false, not_true_eq_false, not_false_eq_true] <;> omega))) dX12_readPart_196 (fun f_428 hf_429 hk_430 => ?_)
        have hW_432 := hW_418.up hf_429 hk_430 t_23 ⟨_, rfl, (ok_419.up (by first | omega | (simp only [Int32.lt_iff_toInt_lt, Int32.le_iff_toInt_le, Int32.reduceToInt, ← Int32.toInt_inj, true_and, and_true, or_true, true_or, false_or, or_false, false_and, and_false, not_true_eq_false, not_false_eq_true] <;> omega)) (fun q1 q2 => (by first | omega | (simp only [Int32.lt_iff_toInt_lt, Int32.le_iff_toInt_le, Int32.reduceToInt, ← Int32.toInt_inj] at *; omega))) (fun k9 q1 q2 q3 => (by first | omega | (simp only [Int32.lt_iff_toInt_lt, Int32.le_iff_toInt_le, Int32.reduceToInt, ← Int32.toInt_inj] at *; omega))))⟩
        obtain ⟨g_431, hf_429, ok_433, eg_434⟩ : ∃ g9, f_428 (q 14) = aI E 2076 g9 ∧ FOK g9 ∧ g9 = upd g_417 (v_425 : Int32).toNatClampNeg 0 := ⟨_, hf_429, (ok_419.up (by first | omega | (simp only [Int32.lt_iff_toInt_lt, Int32.le_iff_toInt_le, Int32.reduceToInt, ← Int32.toInt_inj, true_and, and_true, or_true, true_or, false_or, or_false, false_and, and_false, not_true_eq_false, not_false_eq_true] <;> omega)) (fun q1 q2 => (by first | omega | (simp only [Int32.lt_iff_toInt_lt, Int32.le_iff_toInt_le, Int32.reduceToInt, ← Int32.toInt_inj] at *; omega))) (fun k9 q1 q2 q3 => (by first | omega | (simp only [Int32.lt_iff_toInt_lt, Int32.le_iff_toInt_le, Int32.reduceToInt, ← Int32.toInt_inj] at *; omega)))), rfl⟩
        have hf_435 := (hk_430 a_0 (ne_kd hf_421 hf_415 rfl)).trans hf_421
        have fr_436 := FR.w hk_430 hf_415 (k := 2176) rfl
        have pg_437 := PG.st pg_423 eg_434 (by omega)
        have h5_438 : (g_431 5).toInt = (g_f 5).toInt := upd_lo (g0 := g_f) 5 eg_434 h5_424 (by omega)
        refine v_aload_n hC dX12_readPart_197 rfl ?_
        refine v_get hC fl_X12_34 m_1 hf_435 rfl dX12_readPart_198 ?_
        refine v_iconst hC dX12_readPart_201 (v := 5) (by decide) ?_
        refine v_dup2 hC dX12_readPart_202 rfl rfl ?_
        refine v_iald hC m_22 hf_429 (vp_in_iff.mpr (by decide)) (v := g_431 5) rfl dX12_readPart_203 ?_
        refine v_iconst hC dX12_readPart_204 (v := 1) (by decide) ?_
        obtain ⟨v_439, h_440⟩ : ∃ v9 : Int32, (g_431 5) + 1 = v9 := ⟨_, rfl⟩
        refine v_iadd hC dX12_readPart_205 h_440 ?_
        have h_441 := add_v h_440 (by first | omega | (simp only [Int32.lt_iff_toInt_lt, Int32.le_iff_toInt_le, Int32.reduceToInt, ← Int32.toInt_inj, true_and, and_true, or_true, true_or, false_or, or_false, false_and, and_false, not_true_eq_false, not_false_eq_true] <;> omega)) (by first | omega | (simp only [Int32.lt_iff_toInt_lt, Int32.le_iff_toInt_le, Int32.reduceToInt, ← Int32.toInt_inj, true_and, and_true, or_true, true_or, false_or, or_false, false_and, and_false, not_true_eq_false, not_false_eq_true] <;> omega))
        try simp only [Int32.reduceToInt] at h_441
        refine v_iast hC m_22 hf_429 (vp_in_iff.mpr (by decide)) dX12_readPart_206 (fun f_442 hf_443 hk_444 => ?_)
        have hW_446 := hW_432.up hf_443 hk_444 t_23 ⟨_, rfl, (ok_433.up (i := 5) (by decide) (fun q1 q2 => absurd (And.intro q1 q2) (by decide)) (fun k9 q1 q2 q3 => by simp only [Int32.reduceToInt] at q3; omega))⟩
        obtain ⟨g_445, hf_443, ok_447, eg_448⟩ : ∃ g9, f_442 (q 14) = aI E 2076 g9 ∧ FOK g9 ∧ g9 = upd g_431 (5 : Int32).toNatClampNeg v_439 := ⟨_, hf_443, (ok_433.up (i := 5) (by decide) (fun q1 q2 => absurd (And.intro q1 q2) (by decide)) (fun k9 q1 q2 q3 => by simp only [Int32.reduceToInt] at q3; omega)), rfl⟩
        have hf_449 := (hk_444 a_0 (ne_kd hf_435 hf_429 rfl)).trans hf_435
        have fr_450 := FR.w hk_444 hf_429 (k := 2176) rfl
        have pg_451 := PG.st5 pg_437 eg_448
        have pg_451_t : (g_445 5).toInt = (v_439 : Int32).toInt := congrArg Int32.toInt pg_451.2
        have fe_452 : fld (f_442 a_0) 12 = (v_375 : Int32).toInt := by rw [hf_449]; rfl
        have fe_453 : fld (f_442 a_0) 8 = (v_368 : Int32).toInt := by rw [hf_449]; rfl
        have fe_454 : fld (f_442 a_0) 9 = (v_370 : Int32).toInt := by rw [hf_449]; rfl
        have fe_455 : fld (f_442 a_0) 10 = (v_372 : Int32).toInt := by rw [hf_449]; rfl
        have fe_456 : fld (f_442 a_0) 12 = (v_375 : Int32).toInt := by rw [hf_449]; rfl
        exact hR _ _ _ _ _ _ dX12_readPart_207 (Nat.le_of_ble_eq_true rfl) (Nat.le_of_ble_eq_true rfl) ⟨rfl, hW_446, (((((hF_359.tr fr_408).tr fr_422).tr fr_436).tr fr_450).mono rfl), ⟨_, hf_443, ok_447, pg_451.1, (by omega), (by simp only [fe_452]; by_cases q9 : (v_375 : Int32).toInt = 0; (right; omega); exact .inl q9)⟩, (by simp only [fe_453, fe_454, fe_455, fe_456, mz_40, mz_41, mz_43]; by_cases q9 : (v_375 : Int32).toInt = 0; (right; omega); exact .inl q9)⟩
  refine v_if_eq hC dX12_readPart_6 (tgt := 13) (by decide) (fun h_50 => ?_) (fun h_50 => ?_)
  · simp only [Int32.lt_iff_toInt_lt, Int32.le_iff_toInt_le, Int32.reduceToInt, ← Int32.toInt_inj] at h_50
    refine v_aload_n hC dX12_readPart_13 rfl ?_
    refine v_ldcS hC sr_X12_246 dX12_readPart_14 ?_
    refine v_vi hC (rest := []) m_1 e_24 rfl mi_X12_is ms_X12_is (p_X12_is hW k_0 (by decide)) mx_X12_is ml_X12_152 (by decide) rfl (cells1 := 0) (slots1 := 0) (by decide) (by decide) (Nat.le_of_ble_eq_true rfl) (Nat.le_of_ble_eq_true rfl) rfl (Nat.le_of_ble_eq_true rfl) dX12_readPart_16 (fun r_457 L_458 f_459 h_460 => ?_)
    obtain ⟨rfl, rfl, rfl⟩ := h_460
    refine v_if_eq hC dX12_readPart_19 (tgt := 26) (by decide) (fun h_463 => ?_) (fun h_463 => ?_)
    · simp only [Int32.lt_iff_toInt_lt, Int32.le_iff_toInt_le, Int32.reduceToInt, ← Int32.toInt_inj] at h_463
      refine v_aload_n hC dX12_readPart_26 rfl ?_
      refine v_ldcS hC sr_X12_248 dX12_readPart_27 ?_
      refine v_vi hC (rest := []) m_1 e_24 rfl mi_X12_is ms_X12_is (p_X12_is hW k_0 (by decide)) mx_X12_is ml_X12_152 (by decide) rfl (cells1 := 0) (slots1 := 0) (by decide) (by decide) (Nat.le_of_ble_eq_true rfl) (Nat.le_of_ble_eq_true rfl) rfl (Nat.le_of_ble_eq_true rfl) dX12_readPart_29 (fun r_471 L_472 f_473 h_474 => ?_)
      obtain ⟨rfl, rfl, rfl⟩ := h_474
      refine v_if_eq hC dX12_readPart_32 (tgt := 39) (by decide) (fun h_477 => ?_) (fun h_477 => ?_)
      · simp only [Int32.lt_iff_toInt_lt, Int32.le_iff_toInt_le, Int32.reduceToInt, ← Int32.toInt_inj] at h_477
        refine v_aload_n hC dX12_readPart_39 rfl ?_
        refine v_ldcS hC sr_X12_250 dX12_readPart_40 ?_
        refine v_vi hC (rest := []) m_1 e_24 rfl mi_X12_is ms_X12_is (p_X12_is hW k_0 (by decide)) mx_X12_is ml_X12_152 (by decide) rfl (cells1 := 0) (slots1 := 0) (by decide) (by decide) (Nat.le_of_ble_eq_true rfl) (Nat.le_of_ble_eq_true rfl) rfl (Nat.le_of_ble_eq_true rfl) dX12_readPart_42 (fun r_485 L_486 f_487 h_488 => ?_)
        obtain ⟨rfl, rfl, rfl⟩ := h_488
        refine v_if_eq hC dX12_readPart_45 (tgt := 52) (by decide) (fun h_491 => ?_) (fun h_491 => ?_)
        · simp only [Int32.lt_iff_toInt_lt, Int32.le_iff_toInt_le, Int32.reduceToInt, ← Int32.toInt_inj] at h_491
          refine v_aload_n hC dX12_readPart_52 rfl ?_
          refine v_ldcS hC sr_X12_252 dX12_readPart_53 ?_
          refine v_vi hC (rest := []) m_1 e_24 rfl mi_X12_is ms_X12_is (p_X12_is hW k_0 (by decide)) mx_X12_is ml_X12_152 (by decide) rfl (cells1 := 0) (slots1 := 0) (by decide) (by decide) (Nat.le_of_ble_eq_true rfl) (Nat.le_of_ble_eq_true rfl) rfl (Nat.le_of_ble_eq_true rfl) dX12_readPart_55 (fun r_499 L_500 f_501 h_502 => ?_)
          obtain ⟨rfl, rfl, rfl⟩ := h_502
          refine v_if_eq hC dX12_readPart_58 (tgt := 65) (by decide) (fun h_505 => ?_) (fun h_505 => ?_)
          · simp only [Int32.lt_iff_toInt_lt, Int32.le_iff_toInt_le, Int32.reduceToInt, ← Int32.toInt_inj] at h_505
            refine v_aload_n hC dX12_readPart_65 rfl ?_
            refine v_ldcS hC sr_X12_254 dX12_readPart_66 ?_
            refine v_vi hC (rest := []) m_1 e_24 rfl mi_X12_is ms_X12_is (p_X12_is hW k_0 (by decide)) mx_X12_is ml_X12_152 (by decide) rfl (cells1 := 0) (slots1 := 0) (by decide) (by decide) (Nat.le_of_ble_eq_true rfl) (Nat.le_of_ble_eq_true rfl) rfl (Nat.le_of_ble_eq_true rfl) dX12_readPart_68 (fun r_513 L_514 f_515 h_516 => ?_)
            obtain ⟨rfl, rfl, rfl⟩ := h_516
            refine v_if_eq hC dX12_readPart_71 (tgt := 78) (by decide) (fun h_519 => ?_) (fun h_519 => ?_)
            · simp only [Int32.lt_iff_toInt_lt, Int32.le_iff_toInt_le, Int32.reduceToInt, ← Int32.toInt_inj] at h_519
              refine v_aload_n hC dX12_readPart_78 rfl ?_
              refine v_ldcwS hC sr_X12_256 dX12_readPart_79 ?_
              refine v_vi hC (rest := []) m_1 e_24 rfl mi_X12_is ms_X12_is (p_X12_is hW k_0 (by decide)) mx_X12_is ml_X12_152 (by decide) rfl (cells1 := 0) (slots1 := 0) (by decide) (by decide) (Nat.le_of_ble_eq_true rfl) (Nat.le_of_ble_eq_true rfl) rfl (Nat.le_of_ble_eq_true rfl) dX12_readPart_82 (fun r_527 L_528 f_529 h_530 => ?_)
              obtain ⟨rfl, rfl, rfl⟩ := h_530
              refine v_if_eq hC dX12_readPart_85 (tgt := 93) (by decide) (fun h_533 => ?_) (fun h_533 => ?_)
              · simp only [Int32.lt_iff_toInt_lt, Int32.le_iff_toInt_le, Int32.reduceToInt, ← Int32.toInt_inj] at h_533
                refine v_aload_n hC dX12_readPart_93 rfl ?_
                refine v_ldcwS hC sr_X12_258 dX12_readPart_94 ?_
                refine v_vi hC (rest := []) m_1 e_24 rfl mi_X12_is ms_X12_is (p_X12_is hW k_0 (by decide)) mx_X12_is ml_X12_152 (by decide) rfl (cells1 := 0) (slots1 := 0) (by decide) (by decide) (Nat.le_of_ble_eq_true rfl) (Nat.le_of_ble_eq_true rfl) rfl (Nat.le_of_ble_eq_true rfl) dX12_readPart_97 (fun r_541 L_542 f_543 h_544 => ?_)
                obtain ⟨rfl, rfl, rfl⟩ := h_544
                refine v_if_eq hC dX12_readPart_100 (tgt := 108) (by decide) (fun h_547 => ?_) (fun h_547 => ?_)
                · simp only [Int32.lt_iff_toInt_lt, Int32.le_iff_toInt_le, Int32.reduceToInt, ← Int32.toInt_inj] at h_547
                  refine v_bipush hC dX12_readPart_108 (v := 8) (by decide) ?_
                  refine v_pick [0, 1] rfl ?_
                  have fe_555 : fld (f a_0) 10 = (v_33 : Int32).toInt := by rw [e_24]; rfl
                  exact jn_156 8 (by decide) (by rw [fe_555] <;> first | omega | (simp only [Int32.lt_iff_toInt_lt, Int32.le_iff_toInt_le, Int32.reduceToInt, ← Int32.toInt_inj, true_and, and_true, or_true, true_or, false_or, or_false, false_and, and_false, not_true_eq_false, not_false_eq_true] <;> omega))
                · simp only [Int32.lt_iff_toInt_lt, Int32.le_iff_toInt_le, Int32.reduceToInt, ← Int32.toInt_inj] at h_547
                  have ip_548 := (iw_b (f a_0) (f (q 4)) 63).2.resolve_left (by omega)
                  have ln_549 : ((bytStr.getD 63 []).length : Int) = 4 := by rfl
                  have fe_550 : fld (f a_0) 8 = (v_29 : Int32).toInt := by rw [e_24]; rfl
                  have fe_551 : fld (f a_0) 9 = (v_31 : Int32).toInt := by rw [e_24]; rfl
                  have fe_552 : fld (f a_0) 10 = (v_33 : Int32).toInt := by rw [e_24]; rfl
                  have fe_553 : fld (f a_0) 12 = (v_36 : Int32).toInt := by rw [e_24]; rfl
                  rw [fe_550, fe_551, fe_552, fe_553] at ip_548
                  have g0_554 := ip_548.1
                  refine v_bipush hC dX12_readPart_103 (v := 7) (by decide) ?_
                  refine v_goto hC dX12_readPart_105 (tgt := 110) (by decide) ?_
                  refine v_pick [0, 1] rfl ?_
                  have fe_556 : fld (f a_0) 10 = (v_33 : Int32).toInt := by rw [e_24]; rfl
                  exact jn_156 7 (by decide) (by rw [fe_556] <;> first | omega | (simp only [Int32.lt_iff_toInt_lt, Int32.le_iff_toInt_le, Int32.reduceToInt, ← Int32.toInt_inj, true_and, and_true, or_true, true_or, false_or, or_false, false_and, and_false, not_true_eq_false, not_false_eq_true] <;> omega))
              · simp only [Int32.lt_iff_toInt_lt, Int32.le_iff_toInt_le, Int32.reduceToInt, ← Int32.toInt_inj] at h_533
                have ip_534 := (iw_b (f a_0) (f (q 4)) 62).2.resolve_left (by omega)
                have ln_535 : ((bytStr.getD 62 []).length : Int) = 4 := by rfl
                have fe_536 : fld (f a_0) 8 = (v_29 : Int32).toInt := by rw [e_24]; rfl
                have fe_537 : fld (f a_0) 9 = (v_31 : Int32).toInt := by rw [e_24]; rfl
                have fe_538 : fld (f a_0) 10 = (v_33 : Int32).toInt := by rw [e_24]; rfl
                have fe_539 : fld (f a_0) 12 = (v_36 : Int32).toInt := by rw [e_24]; rfl
                rw [fe_536, fe_537, fe_538, fe_539] at ip_534
                have g0_540 := ip_534.1
                refine v_bipush hC dX12_readPart_88 (v := 6) (by decide) ?_
                refine v_goto hC dX12_readPart_90 (tgt := 110) (by decide) ?_
                refine v_pick [0, 1] rfl ?_
                have fe_557 : fld (f a_0) 10 = (v_33 : Int32).toInt := by rw [e_24]; rfl
                exact jn_156 6 (by decide) (by rw [fe_557] <;> first | omega | (simp only [Int32.lt_iff_toInt_lt, Int32.le_iff_toInt_le, Int32.reduceToInt, ← Int32.toInt_inj, true_and, and_true, or_true, true_or, false_or, or_false, false_and, and_false, not_true_eq_false, not_false_eq_true] <;> omega))
            · simp only [Int32.lt_iff_toInt_lt, Int32.le_iff_toInt_le, Int32.reduceToInt, ← Int32.toInt_inj] at h_519
              have ip_520 := (iw_b (f a_0) (f (q 4)) 61).2.resolve_left (by omega)
              have ln_521 : ((bytStr.getD 61 []).length : Int) = 5 := by rfl
              have fe_522 : fld (f a_0) 8 = (v_29 : Int32).toInt := by rw [e_24]; rfl
              have fe_523 : fld (f a_0) 9 = (v_31 : Int32).toInt := by rw [e_24]; rfl
              have fe_524 : fld (f a_0) 10 = (v_33 : Int32).toInt := by rw [e_24]; rfl
              have fe_525 : fld (f a_0) 12 = (v_36 : Int32).toInt := by rw [e_24]; rfl
              rw [fe_522, fe_523, fe_524, fe_525] at ip_520
              have g0_526 := ip_520.1
              refine v_iconst hC dX12_readPart_74 (v := 5) (by decide) ?_
              refine v_goto hC dX12_readPart_75 (tgt := 110) (by decide) ?_
              refine v_pick [0, 1] rfl ?_
              have fe_558 : fld (f a_0) 10 = (v_33 : Int32).toInt := by rw [e_24]; rfl
              exact jn_156 5 (by decide) (by rw [fe_558] <;> first | omega | (simp only [Int32.lt_iff_toInt_lt, Int32.le_iff_toInt_le, Int32.reduceToInt, ← Int32.toInt_inj, true_and, and_true, or_true, true_or, false_or, or_false, false_and, and_false, not_true_eq_false, not_false_eq_true] <;> omega))
          · simp only [Int32.lt_iff_toInt_lt, Int32.le_iff_toInt_le, Int32.reduceToInt, ← Int32.toInt_inj] at h_505
            have ip_506 := (iw_b (f a_0) (f (q 4)) 60).2.resolve_left (by omega)
            have ln_507 : ((bytStr.getD 60 []).length : Int) = 4 := by rfl
            have fe_508 : fld (f a_0) 8 = (v_29 : Int32).toInt := by rw [e_24]; rfl
            have fe_509 : fld (f a_0) 9 = (v_31 : Int32).toInt := by rw [e_24]; rfl
            have fe_510 : fld (f a_0) 10 = (v_33 : Int32).toInt := by rw [e_24]; rfl
            have fe_511 : fld (f a_0) 12 = (v_36 : Int32).toInt := by rw [e_24]; rfl
            rw [fe_508, fe_509, fe_510, fe_511] at ip_506
            have g0_512 := ip_506.1
            refine v_iconst hC dX12_readPart_61 (v := 4) (by decide) ?_
            refine v_goto hC dX12_readPart_62 (tgt := 110) (by decide) ?_
            refine v_pick [0, 1] rfl ?_
            have fe_559 : fld (f a_0) 10 = (v_33 : Int32).toInt := by rw [e_24]; rfl
            exact jn_156 4 (by decide) (by rw [fe_559] <;> first | omega | (simp only [Int32.lt_iff_toInt_lt, Int32.le_iff_toInt_le, Int32.reduceToInt, ← Int32.toInt_inj, true_and, and_true, or_true, true_or, false_or, or_false, false_and, and_false, not_true_eq_false, not_false_eq_true] <;> omega))
        · simp only [Int32.lt_iff_toInt_lt, Int32.le_iff_toInt_le, Int32.reduceToInt, ← Int32.toInt_inj] at h_491
          have ip_492 := (iw_b (f a_0) (f (q 4)) 59).2.resolve_left (by omega)
          have ln_493 : ((bytStr.getD 59 []).length : Int) = 4 := by rfl
          have fe_494 : fld (f a_0) 8 = (v_29 : Int32).toInt := by rw [e_24]; rfl
          have fe_495 : fld (f a_0) 9 = (v_31 : Int32).toInt := by rw [e_24]; rfl
          have fe_496 : fld (f a_0) 10 = (v_33 : Int32).toInt := by rw [e_24]; rfl
          have fe_497 : fld (f a_0) 12 = (v_36 : Int32).toInt := by rw [e_24]; rfl
          rw [fe_494, fe_495, fe_496, fe_497] at ip_492
          have g0_498 := ip_492.1
          refine v_iconst hC dX12_readPart_48 (v := 3) (by decide) ?_
          refine v_goto hC dX12_readPart_49 (tgt := 110) (by decide) ?_
          refine v_pick [0, 1] rfl ?_
          have fe_560 : fld (f a_0) 10 = (v_33 : Int32).toInt := by rw [e_24]; rfl
          exact jn_156 3 (by decide) (by rw [fe_560] <;> first | omega | (simp only [Int32.lt_iff_toInt_lt, Int32.le_iff_toInt_le, Int32.reduceToInt, ← Int32.toInt_inj, true_and, and_true, or_true, true_or, false_or, or_false, false_and, and_false, not_true_eq_false, not_false_eq_true] <;> omega))
      · simp only [Int32.lt_iff_toInt_lt, Int32.le_iff_toInt_le, Int32.reduceToInt, ← Int32.toInt_inj] at h_477
        have ip_478 := (iw_b (f a_0) (f (q 4)) 58).2.resolve_left (by omega)
        have ln_479 : ((bytStr.getD 58 []).length : Int) = 5 := by rfl
        have fe_480 : fld (f a_0) 8 = (v_29 : Int32).toInt := by rw [e_24]; rfl
        have fe_481 : fld (f a_0) 9 = (v_31 : Int32).toInt := by rw [e_24]; rfl
        have fe_482 : fld (f a_0) 10 = (v_33 : Int32).toInt := by rw [e_24]; rfl
        have fe_483 : fld (f a_0) 12 = (v_36 : Int32).toInt := by rw [e_24]; rfl
        rw [fe_480, fe_481, fe_482, fe_483] at ip_478
        have g0_484 := ip_478.1
        refine v_iconst hC dX12_readPart_35 (v := 2) (by decide) ?_
        refine v_goto hC dX12_readPart_36 (tgt := 110) (by decide) ?_
        refine v_pick [0, 1] rfl ?_
        have fe_561 : fld (f a_0) 10 = (v_33 : Int32).toInt := by rw [e_24]; rfl
        exact jn_156 2 (by decide) (by rw [fe_561] <;> first | omega | (simp only [Int32.lt_iff_toInt_lt, Int32.le_iff_toInt_le, Int32.reduceToInt, ← Int32.toInt_inj, true_and, and_true, or_true, true_or, false_or, or_false, false_and, and_false, not_true_eq_false, not_false_eq_true] <;> omega))
    · simp only [Int32.lt_iff_toInt_lt, Int32.le_iff_toInt_le, Int32.reduceToInt, ← Int32.toInt_inj] at h_463
      have ip_464 := (iw_b (f a_0) (f (q 4)) 57).2.resolve_left (by omega)
      have ln_465 : ((bytStr.getD 57 []).length : Int) = 5 := by rfl
      have fe_466 : fld (f a_0) 8 = (v_29 : Int32).toInt := by rw [e_24]; rfl
      have fe_467 : fld (f a_0) 9 = (v_31 : Int32).toInt := by rw [e_24]; rfl
      have fe_468 : fld (f a_0) 10 = (v_33 : Int32).toInt := by rw [e_24]; rfl
      have fe_469 : fld (f a_0) 12 = (v_36 : Int32).toInt := by rw [e_24]; rfl
      rw [fe_466, fe_467, fe_468, fe_469] at ip_464
      have g0_470 := ip_464.1
      refine v_iconst hC dX12_readPart_22 (v := 1) (by decide) ?_
      refine v_goto hC dX12_readPart_23 (tgt := 110) (by decide) ?_
      refine v_pick [0, 1] rfl ?_
      have fe_562 : fld (f a_0) 10 = (v_33 : Int32).toInt := by rw [e_24]; rfl
      exact jn_156 1 (by decide) (by rw [fe_562] <;> first | omega | (simp only [Int32.lt_iff_toInt_lt, Int32.le_iff_toInt_le, Int32.reduceToInt, ← Int32.toInt_inj, true_and, and_true, or_true, true_or, false_or, or_false, false_and, and_false, not_true_eq_false, not_false_eq_true] <;> omega))
  · simp only [Int32.lt_iff_toInt_lt, Int32.le_iff_toInt_le, Int32.reduceToInt, ← Int32.toInt_inj] at h_50
    have ip_51 := (iw_b (f a_0) (f (q 4)) 56).2.resolve_left (by omega)
    have ln_52 : ((bytStr.getD 56 []).length : Int) = 5 := by rfl
    have fe_53 : fld (f a_0) 8 = (v_29 : Int32).toInt := by rw [e_24]; rfl
    have fe_54 : fld (f a_0) 9 = (v_31 : Int32).toInt := by rw [e_24]; rfl
    have fe_55 : fld (f a_0) 10 = (v_33 : Int32).toInt := by rw [e_24]; rfl
    have fe_56 : fld (f a_0) 12 = (v_36 : Int32).toInt := by rw [e_24]; rfl
    rw [fe_53, fe_54, fe_55, fe_56] at ip_51
    have g0_57 := ip_51.1
    refine v_iconst hC dX12_readPart_9 (v := 0) (by decide) ?_
    refine v_goto hC dX12_readPart_10 (tgt := 110) (by decide) ?_
    refine v_pick [0, 1] rfl ?_
    have fe_563 : fld (f a_0) 10 = (v_33 : Int32).toInt := by rw [e_24]; rfl
    exact jn_156 0 (by decide) (by rw [fe_563] <;> first | omega | (simp only [Int32.lt_iff_toInt_lt, Int32.le_iff_toInt_le, Int32.reduceToInt, ← Int32.toInt_inj, true_and, and_true, or_true, true_or, false_or, or_false, false_and, and_false, not_true_eq_false, not_false_eq_true] <;> omega))
