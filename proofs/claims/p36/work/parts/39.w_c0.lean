set_option maxRecDepth 100000 in
set_option maxHeartbeats 8000000 in
theorem p_X12_readPart {l : Launch} {E : Ez} {L : List Nat} {f : Nat → va_E} {T : Nat → va_E → Prop} {a_0 : Nat} {a_1 : Int32} {q : Nat → Nat} {g_f : Nat → Int32} (hW : WT T L f) (k_0 : isM T L E a_0 q) (e_f : f (q 14) = aI E 2076 g_f) (o_f : FOK g_f) (hPB : 0 ≤ (g_f 5).toInt ∧ (g_f 5).toInt ≤ 150) (hPT : (¬ fld (f a_0) 12 = 0 ∨ 4 * (g_f 5).toInt ≤ fld (f a_0) 9)) (hNX : (¬ fld (f a_0) 12 = 0 ∨ fld (f a_0) 10 = 0 ∨ fld (f a_0) 9 < fld (f a_0) 8)) : CV l yX12_readPart cX12_readPart 5 5 0 0 E [.ref a_0, .int a_1] L f (fun L1 f1 => L = L1 ∧ WT T L f1 ∧ FR [12, 2176] f f1 ∧ (∃ g9 : Nat → Int32, f1 (q 14) = aI E 2076 g9 ∧ FOK g9 ∧ PG g_f g9 ∧ ((g_f 5).toInt ≤ (g9 5).toInt ∧ (g9 5).toInt ≤ 150) ∧ (¬ fld (f1 a_0) 12 = 0 ∨ (g9 5).toInt = (g_f 5).toInt + 1)) ∧ (¬ fld (f1 a_0) 12 = 0 ∨ (fld (f a_0) 12 = 0 ∧ fld (f a_0) 9 < fld (f a_0) 8 ∧ fld (f a_0) 8 ≤ fld (f1 a_0) 9 ∧ fld (f1 a_0) 9 ≤ fld (f1 a_0) 8 ∧ (fld (f1 a_0) 10 = 0 ∨ fld (f1 a_0) 9 < fld (f1 a_0) 8)))) := by
  refine cv_of (by decide) (Nat.le_of_ble_eq_true rfl) (fun z hz hnm hC hR => ?_)
  have hC : Cx z E cX12_readPart RX12 5 5 0 0 := hC
  subst hz
  show V z E 5 0 0 L f 0 [(0, .ref a_0), (1, .int a_1)] []
  obtain ⟨m_1, t_2, nq_21, k_3, k_4, k_5, k_6, k_7, k_8, k_9, k_10, k_11, k_12, k_13, k_14, k_15, k_16, k_17, k_18, k_19, k_20⟩ := id k_0
  obtain ⟨m_22, t_23⟩ := id k_8
  obtain ⟨v_25, v_26, v_27, v_29, v_31, v_33, v_35, v_36, v_37, v_38, v_39, e_24, -, b_28, b_30, b_32, b_34, -, -⟩ := hW.at m_1 t_2
  have mz_40 : fld (f a_0) 8 = v_29.toInt := by rw [e_24]; rfl
  have mz_41 : fld (f a_0) 9 = v_31.toInt := by rw [e_24]; rfl
  have mz_42 : fld (f a_0) 10 = v_33.toInt := by rw [e_24]; rfl
  have mz_43 : fld (f a_0) 12 = v_36.toInt := by rw [e_24]; rfl
  rw [mz_43, mz_41] at hPT
  rw [mz_43, mz_42, mz_41, mz_40] at hNX
  refine v_aload_n hC dX12_readPart_0 rfl ?_
  refine v_ldcS hC sr_X12_244 dX12_readPart_1 ?_
  refine v_vi hC (rest := []) m_1 e_24 rfl mi_X12_is ms_X12_is (p_X12_is hW k_0 (by decide)) mx_X12_is ml_X12_152 (by decide) rfl (cells1 := 0) (slots1 := 0) (by decide) (by decide) (Nat.le_of_ble_eq_true rfl) (Nat.le_of_ble_eq_true rfl) rfl (Nat.le_of_ble_eq_true rfl) dX12_readPart_3 (fun r_44 L_45 f_46 h_47 => ?_)
  obtain ⟨rfl, rfl, rfl⟩ := h_47
  have jn_156 : ∀ (v_157 : Int32) (b_158 : (0 ≤ v_157.toInt ∧ v_157.toInt ≤ 8)) (jv_159 : ((v_157 : Int32).toInt = 8 ∨ fld (f a_0) 10 = 1)), V z E 5 0 0 L f 110 [(0, .ref a_0), (1, .int a_1)] [.int v_157] := by
    intro v_157 b_158 jv_159
    have fe_160 : fld (f a_0) 10 = (v_33 : Int32).toInt := by rw [e_24]; rfl
    rw [fe_160] at jv_159
    refine v_istore_n hC dX12_readPart_110 (by decide) (lv' := [(2, .int v_157), (0, .ref a_0), (1, .int a_1)]) rfl ?_
    refine v_aload_n hC dX12_readPart_111 rfl ?_
    refine v_vi hC (rest := []) m_1 e_24 rfl mi_X12_good ms_X12_good (p_X12_good hW k_0) mx_X12_good ml_X12_139 (by decide) rfl (cells1 := 0) (slots1 := 0) (by decide) (by decide) (Nat.le_of_ble_eq_true rfl) (Nat.le_of_ble_eq_true rfl) rfl (Nat.le_of_ble_eq_true rfl) dX12_readPart_112 (fun r_161 L_162 f_163 h_164 => ?_)
    obtain ⟨rfl, rfl, b_165, x_166⟩ := h_164
    have fe_169 : fld (f a_0) 12 = (v_36 : Int32).toInt := by rw [e_24]; rfl
    rw [fe_169] at x_166
    clear fe_169
    try simp only [Int32.reduceToInt, Int64.reduceToInt] at x_166
    refine v_if_eq hC dX12_readPart_115 (tgt := 128) (by decide) (fun h_170 => ?_) (fun h_170 => ?_)
    · simp only [Int32.lt_iff_toInt_lt, Int32.le_iff_toInt_le, Int32.reduceToInt, ← Int32.toInt_inj] at h_170
      have g0_171 := gd_f x_166 h_170
      clear x_166
      refine v_iload_n hC dX12_readPart_128 rfl ?_
      refine v_bipush hC dX12_readPart_129 (v := 8) (by decide) ?_
      have jn_208 : ∀ (f_210 : Nat → va_E) (hW_211 : WT T L f_210) (hF_212 : FR [12] f f_210) (v_209 : Int32), V z E 5 0 0 L f_210 146 [(2, .int v_157), (0, .ref a_0), (1, .int a_1)] [.int v_209] := by
        intro f_210 hW_211 hF_212 v_209
        have hf_213 := hF_212.at e_f rfl
        refine v_istore_n hC dX12_readPart_146 (by decide) (lv' := [(3, .int v_209), (2, .int v_157), (0, .ref a_0), (1, .int a_1)]) rfl ?_
        refine v_aload_n hC dX12_readPart_147 rfl ?_
        obtain ⟨v_215, v_216, v_217, v_219, v_221, v_223, v_225, v_226, v_227, v_228, v_229, e_214, -, b_218, b_220, b_222, b_224, -, -⟩ := hW_211.at m_1 t_2
        refine v_vi hC (rest := []) m_1 e_214 rfl mi_X12_good ms_X12_good (p_X12_good hW_211 k_0) mx_X12_good ml_X12_139 (by decide) rfl (cells1 := 0) (slots1 := 0) (by decide) (by decide) (Nat.le_of_ble_eq_true rfl) (Nat.le_of_ble_eq_true rfl) rfl (Nat.le_of_ble_eq_true rfl) dX12_readPart_148 (fun r_230 L_231 f_232 h_233 => ?_)
        obtain ⟨rfl, rfl, b_234, x_235⟩ := h_233
        have fe_238 : fld (f_210 a_0) 12 = (v_226 : Int32).toInt := by rw [e_214]; rfl
        rw [fe_238] at x_235
        clear fe_238
        try simp only [Int32.reduceToInt, Int64.reduceToInt] at x_235
        refine v_if_ne hC dX12_readPart_151 (tgt := 155) (by decide) (fun h_239 => ?_) (fun h_239 => ?_)
        · simp only [Int32.lt_iff_toInt_lt, Int32.le_iff_toInt_le, Int32.reduceToInt, ← Int32.toInt_inj] at h_239
          have nb_240 : (1 ≤ r_230.toInt ∧ r_230.toInt ≤ 1) := by omega
          have g0_241 := gd_t x_235 h_239
          clear x_235
          refine v_sipush hC dX12_readPart_155 (v := 562) (by decide) ?_
          refine v_iconst hC dX12_readPart_158 (v := 3) (by decide) ?_
          refine v_aload_n hC dX12_readPart_159 rfl ?_
          refine v_get hC fl_X12_34 m_1 e_214 rfl dX12_readPart_160 ?_
          refine v_iconst hC dX12_readPart_163 (v := 5) (by decide) ?_
          refine v_iald hC m_22 hf_213 (vp_in_iff.mpr (by decide)) (v := g_f 5) rfl dX12_readPart_164 ?_
          have b_243 : 0 ≤ (g_f 5).toInt ∧ (g_f 5).toInt ≤ 149 := by omega
          obtain ⟨v_244, h_245⟩ : ∃ v9 : Int32, (3 : Int32) * (g_f 5) = v9 := ⟨_, rfl⟩
          refine v_imul hC dX12_readPart_165 h_245 ?_
          have h_246 := mul_v 3 149 447 h_245 (by decide) (by first | omega | (simp only [Int32.lt_iff_toInt_lt, Int32.le_iff_toInt_le, Int32.reduceToInt, ← Int32.toInt_inj, true_and, and_true, or_true, true_or, false_or, or_false, false_and, and_false, not_true_eq_false, not_false_eq_true] <;> omega)) (by decide) (by decide)
          try simp only [Int32.reduceToInt] at h_246
          obtain ⟨v_247, h_248⟩ : ∃ v9 : Int32, (562 : Int32) + v_244 = v9 := ⟨_, rfl⟩
          refine v_iadd hC dX12_readPart_166 h_248 ?_
          have h_249 := add_v h_248 (by first | omega | (simp only [Int32.lt_iff_toInt_lt, Int32.le_iff_toInt_le, Int32.reduceToInt, ← Int32.toInt_inj, true_and, and_true, or_true, true_or, false_or, or_false, false_and, and_false, not_true_eq_false, not_false_eq_true] <;> omega)) (by first | omega | (simp only [Int32.lt_iff_toInt_lt, Int32.le_iff_toInt_le, Int32.reduceToInt, ← Int32.toInt_inj, true_and, and_true, or_true, true_or, false_or, or_false, false_and, and_false, not_true_eq_false, not_false_eq_true] <;> omega))
          try simp only [Int32.reduceToInt] at h_249
          refine v_istore hC dX12_readPart_167 (by decide) (lv' := [(4, .int v_247), (3, .int v_209), (2, .int v_157), (0, .ref a_0), (1, .int a_1)]) rfl ?_
          refine v_aload_n hC dX12_readPart_169 rfl ?_
          refine v_get hC fl_X12_34 m_1 e_214 rfl dX12_readPart_170 ?_
          refine v_iload hC dX12_readPart_173 rfl ?_
          refine v_iload_n hC dX12_readPart_175 rfl ?_
          refine v_iast hC m_22 hf_213 (vp_in_iff.mpr (by first | omega | (simp only [Int32.lt_iff_toInt_lt, Int32.le_iff_toInt_le, Int32.reduceToInt, ← Int32.toInt_inj, true_and, and_true, or_true, true_or, false_or, or_false, false_and, and_false, not_true_eq_false, not_false_eq_true] <;> omega))) dX12_readPart_176 (fun f_250 hf_251 hk_252 => ?_)
          have hW_254 := hW_211.up hf_251 hk_252 t_23 ⟨_, rfl, (o_f.up (by first | omega | (simp only [Int32.lt_iff_toInt_lt, Int32.le_iff_toInt_le, Int32.reduceToInt, ← Int32.toInt_inj, true_and, and_true, or_true, true_or, false_or, or_false, false_and, and_false, not_true_eq_false, not_false_eq_true] <;> omega)) (fun q1 q2 => (by first | omega | (simp only [Int32.lt_iff_toInt_lt, Int32.le_iff_toInt_le, Int32.reduceToInt, ← Int32.toInt_inj] at *; omega))) (fun k9 q1 q2 q3 => (by first | omega | (simp only [Int32.lt_iff_toInt_lt, Int32.le_iff_toInt_le, Int32.reduceToInt, ← Int32.toInt_inj] at *; omega))))⟩
          obtain ⟨g_253, hf_251, ok_255, eg_256⟩ : ∃ g9, f_250 (q 14) = aI E 2076 g9 ∧ FOK g9 ∧ g9 = upd g_f (v_247 : Int32).toNatClampNeg a_1 := ⟨_, hf_251, (o_f.up (by first | omega | (simp only [Int32.lt_iff_toInt_lt, Int32.le_iff_toInt_le, Int32.reduceToInt, ← Int32.toInt_inj, true_and, and_true, or_true, true_or, false_or, or_false, false_and, and_false, not_true_eq_false, not_false_eq_true] <;> omega)) (fun q1 q2 => (by first | omega | (simp only [Int32.lt_iff_toInt_lt, Int32.le_iff_toInt_le, Int32.reduceToInt, ← Int32.toInt_inj] at *; omega))) (fun k9 q1 q2 q3 => (by first | omega | (simp only [Int32.lt_iff_toInt_lt, Int32.le_iff_toInt_le, Int32.reduceToInt, ← Int32.toInt_inj] at *; omega)))), rfl⟩
          have hf_257 := (hk_252 a_0 (ne_kd e_214 hf_213 rfl)).trans e_214
          have fr_258 := FR.w hk_252 hf_213 (k := 2176) rfl
          have pg_259 := PG.st PG.rf eg_256 (by omega)
          have h5_260 : (g_253 5).toInt = (g_f 5).toInt := upd_lo (g0 := g_f) 5 eg_256 rfl (by omega)
          refine v_aload_n hC dX12_readPart_177 rfl ?_
          refine v_get hC fl_X12_34 m_1 hf_257 rfl dX12_readPart_178 ?_
          refine v_iload hC dX12_readPart_181 rfl ?_
          refine v_iconst hC dX12_readPart_183 (v := 1) (by decide) ?_
          obtain ⟨v_261, h_262⟩ : ∃ v9 : Int32, v_247 + 1 = v9 := ⟨_, rfl⟩
          refine v_iadd hC dX12_readPart_184 h_262 ?_
          have h_263 := add_v h_262 (by first | omega | (simp only [Int32.lt_iff_toInt_lt, Int32.le_iff_toInt_le, Int32.reduceToInt, ← Int32.toInt_inj, true_and, and_true, or_true, true_or, false_or, or_false, false_and, and_false, not_true_eq_false, not_false_eq_true] <;> omega)) (by first | omega | (simp only [Int32.lt_iff_toInt_lt, Int32.le_iff_toInt_le, Int32.reduceToInt, ← Int32.toInt_inj, true_and, and_true, or_true, true_or, false_or, or_false, false_and, and_false, not_true_eq_false, not_false_eq_true] <;> omega))
          try simp only [Int32.reduceToInt] at h_263
          refine v_iload_n hC dX12_readPart_185 rfl ?_
          refine v_iast hC m_22 hf_251 (vp_in_iff.mpr (by first | omega | (simp only [Int32.lt_iff_toInt_lt, Int32.le_iff_toInt_le, Int32.reduceToInt, ← Int32.toInt_inj, true_and, and_true, or_true, true_or, false_or, or_false, false_and, and_false, not_true_eq_false, not_false_eq_true] <;> omega))) dX12_readPart_186 (fun f_264 hf_265 hk_266 => ?_)
          have hW_268 := hW_254.up hf_265 hk_266 t_23 ⟨_, rfl, (ok_255.up (by first | omega | (simp only [Int32.lt_iff_toInt_lt, Int32.le_iff_toInt_le, Int32.reduceToInt, ← Int32.toInt_inj, true_and, and_true, or_true, true_or, false_or, or_false, false_and, and_false, not_true_eq_false, not_false_eq_true] <;> omega)) (fun q1 q2 => (by first | omega | (simp only [Int32.lt_iff_toInt_lt, Int32.le_iff_toInt_le, Int32.reduceToInt, ← Int32.toInt_inj] at *; omega))) (fun k9 q1 q2 q3 => (by first | omega | (simp only [Int32.lt_iff_toInt_lt, Int32.le_iff_toInt_le, Int32.reduceToInt, ← Int32.toInt_inj] at *; omega))))⟩
          obtain ⟨g_267, hf_265, ok_269, eg_270⟩ : ∃ g9, f_264 (q 14) = aI E 2076 g9 ∧ FOK g9 ∧ g9 = upd g_253 (v_261 : Int32).toNatClampNeg v_157 := ⟨_, hf_265, (ok_255.up (by first | omega | (simp only [Int32.lt_iff_toInt_lt, Int32.le_iff_toInt_le, Int32.reduceToInt, ← Int32.toInt_inj, true_and, and_true, or_true, true_or, false_or, or_false, false_and, and_false, not_true_eq_false, not_false_eq_true] <;> omega)) (fun q1 q2 => (by first | omega | (simp only [Int32.lt_iff_toInt_lt, Int32.le_iff_toInt_le, Int32.reduceToInt, ← Int32.toInt_inj] at *; omega))) (fun k9 q1 q2 q3 => (by first | omega | (simp only [Int32.lt_iff_toInt_lt, Int32.le_iff_toInt_le, Int32.reduceToInt, ← Int32.toInt_inj] at *; omega)))), rfl⟩
          have hf_271 := (hk_266 a_0 (ne_kd hf_257 hf_251 rfl)).trans hf_257
          have fr_272 := FR.w hk_266 hf_251 (k := 2176) rfl
          have pg_273 := PG.st pg_259 eg_270 (by omega)
          have h5_274 : (g_267 5).toInt = (g_f 5).toInt := upd_lo (g0 := g_f) 5 eg_270 h5_260 (by omega)
          refine v_aload_n hC dX12_readPart_187 rfl ?_
          refine v_get hC fl_X12_34 m_1 hf_271 rfl dX12_readPart_188 ?_
          refine v_iload hC dX12_readPart_191 rfl ?_
          refine v_iconst hC dX12_readPart_193 (v := 2) (by decide) ?_
          obtain ⟨v_275, h_276⟩ : ∃ v9 : Int32, v_247 + 2 = v9 := ⟨_, rfl⟩
          refine v_iadd hC dX12_readPart_194 h_276 ?_
          have h_277 := add_v h_276 (by first | omega | (simp only [Int32.lt_iff_toInt_lt, Int32.le_iff_toInt_le, Int32.reduceToInt, ← Int32.toInt_inj, true_and, and_true, or_true, true_or, false_or, or_false, false_and, and_false, not_true_eq_false, not_false_eq_true] <;> omega)) (by first | omega | (simp only [Int32.lt_iff_toInt_lt, Int32.le_iff_toInt_le, Int32.reduceToInt, ← Int32.toInt_inj, true_and, and_true, or_true, true_or, false_or, or_false, false_and, and_false, not_true_eq_false, not_false_eq_true] <;> omega))
          try simp only [Int32.reduceToInt] at h_277
          refine v_iload_n hC dX12_readPart_195 rfl ?_
          refine v_iast hC m_22 hf_265 (vp_in_iff.mpr (by first | omega | (simp only [Int32.lt_iff_toInt_lt, Int32.le_iff_toInt_le, Int32.reduceToInt, ← Int32.toInt_inj, true_and, and_true, or_true, true_or, false_or, or_false, false_and, and_false, not_true_eq_false, not_false_eq_true] <;> omega))) dX12_readPart_196 (fun f_278 hf_279 hk_280 => ?_)
          have hW_282 := hW_268.up hf_279 hk_280 t_23 ⟨_, rfl, (ok_269.up (by first | omega | (simp only [Int32.lt_iff_toInt_lt, Int32.le_iff_toInt_le, Int32.reduceToInt, ← Int32.toInt_inj, true_and, and_true, or_true, true_or, false_or, or_false, false_and, and_false, not_true_eq_false, not_false_eq_true] <;> omega)) (fun q1 q2 => (by first | omega | (simp only [Int32.lt_iff_toInt_lt, Int32.le_iff_toInt_le, Int32.reduceToInt, ← Int32.toInt_inj] at *; omega))) (fun k9 q1 q2 q3 => (by first | omega | (simp only [Int32.lt_iff_toInt_lt, Int32.le_iff_toInt_le, Int32.reduceToInt, ← Int32.toInt_inj] at *; omega))))⟩
          obtain ⟨g_281, hf_279, ok_283, eg_284⟩ : ∃ g9, f_278 (q 14) = aI E 2076 g9 ∧ FOK g9 ∧ g9 = upd g_267 (v_275 : Int32).toNatClampNeg v_209 := ⟨_, hf_279, (ok_269.up (by first | omega | (simp only [Int32.lt_iff_toInt_lt, Int32.le_iff_toInt_le, Int32.reduceToInt, ← Int32.toInt_inj, true_and, and_true, or_true, true_or, false_or, or_false, false_and, and_false, not_true_eq_false, not_false_eq_true] <;> omega)) (fun q1 q2 => (by first | omega | (simp only [Int32.lt_iff_toInt_lt, Int32.le_iff_toInt_le, Int32.reduceToInt, ← Int32.toInt_inj] at *; omega))) (fun k9 q1 q2 q3 => (by first | omega | (simp only [Int32.lt_iff_toInt_lt, Int32.le_iff_toInt_le, Int32.reduceToInt, ← Int32.toInt_inj] at *; omega)))), rfl⟩
          have hf_285 := (hk_280 a_0 (ne_kd hf_271 hf_265 rfl)).trans hf_271
          have fr_286 := FR.w hk_280 hf_265 (k := 2176) rfl
          have pg_287 := PG.st pg_273 eg_284 (by omega)
          have h5_288 : (g_281 5).toInt = (g_f 5).toInt := upd_lo (g0 := g_f) 5 eg_284 h5_274 (by omega)
          refine v_aload_n hC dX12_readPart_197 rfl ?_
          refine v_get hC fl_X12_34 m_1 hf_285 rfl dX12_readPart_198 ?_
          refine v_iconst hC dX12_readPart_201 (v := 5) (by decide) ?_
          refine v_dup2 hC dX12_readPart_202 rfl rfl ?_
          refine v_iald hC m_22 hf_279 (vp_in_iff.mpr (by decide)) (v := g_281 5) rfl dX12_readPart_203 ?_
          refine v_iconst hC dX12_readPart_204 (v := 1) (by decide) ?_
          obtain ⟨v_289, h_290⟩ : ∃ v9 : Int32, (g_281 5) + 1 = v9 := ⟨_, rfl⟩
          refine v_iadd hC dX12_readPart_205 h_290 ?_
          have h_291 := add_v h_290 (by first | omega | (simp only [Int32.lt_iff_toInt_lt, Int32.le_iff_toInt_le, Int32.reduceToInt, ← Int32.toInt_inj, true_and, and_true, or_true, true_or, false_or, or_false, false_and, and_false, not_true_eq_false, not_false_eq_true] <;> omega)) (by first | omega | (simp only [Int32.lt_iff_toInt_lt, Int32.le_iff_toInt_le, Int32.reduceToInt, ← Int32.toInt_inj, true_and, and_true, or_true, true_or, false_or, or_false, false_and, and_false, not_true_eq_false, not_false_eq_true] <;> omega))
          try simp only [Int32.reduceToInt] at h_291
          refine v_iast hC m_22 hf_279 (vp_in_iff.mpr (by decide)) dX12_readPart_206 (fun f_292 hf_293 hk_294 => ?_)
          have hW_296 := hW_282.up hf_293 hk_294 t_23 ⟨_, rfl, (ok_283.up (i := 5) (by decide) (fun q1 q2 => absurd (And.intro q1 q2) (by decide)) (fun k9 q1 q2 q3 => by simp only [Int32.reduceToInt] at q3; omega))⟩
          obtain ⟨g_295, hf_293, ok_297, eg_298⟩ : ∃ g9, f_292 (q 14) = aI E 2076 g9 ∧ FOK g9 ∧ g9 = upd g_281 (5 : Int32).toNatClampNeg v_289 := ⟨_, hf_293, (ok_283.up (i := 5) (by decide) (fun q1 q2 => absurd (And.intro q1 q2) (by decide)) (fun k9 q1 q2 q3 => by simp only [Int32.reduceToInt] at q3; omega)), rfl⟩
          have hf_299 := (hk_294 a_0 (ne_kd hf_285 hf_279 rfl)).trans hf_285
          have fr_300 := FR.w hk_294 hf_279 (k := 2176) rfl
          have pg_301 := PG.st5 pg_287 eg_298
          have pg_301_t : (g_295 5).toInt = (v_289 : Int32).toInt := congrArg Int32.toInt pg_301.2
          have fe_302 : fld (f_292 a_0) 12 = (v_226 : Int32).toInt := by rw [hf_299]; rfl
          have fe_303 : fld (f_292 a_0) 8 = (v_219 : Int32).toInt := by rw [hf_299]; rfl
          have fe_304 : fld (f_292 a_0) 9 = (v_221 : Int32).toInt := by rw [hf_299]; rfl
          have fe_305 : fld (f_292 a_0) 10 = (v_223 : Int32).toInt := by rw [hf_299]; rfl
          have fe_306 : fld (f_292 a_0) 12 = (v_226 : Int32).toInt := by rw [hf_299]; rfl
          exact hR _ _ _ _ _ _ dX12_readPart_207 (Nat.le_of_ble_eq_true rfl) (Nat.le_of_ble_eq_true rfl) ⟨rfl, hW_296, (((((hF_212.tr fr_258).tr fr_272).tr fr_286).tr fr_300).mono rfl), ⟨_, hf_293, ok_297, pg_301.1, (by omega), (by simp only [fe_302]; by_cases q9 : (v_226 : Int32).toInt = 0; (right; omega); exact .inl q9)⟩, (by simp only [fe_303, fe_304, fe_305, fe_306, mz_40, mz_41, mz_43]; by_cases q9 : (v_226 : Int32).toInt = 0; (right; omega); exact .inl q9)⟩
        · simp only [Int32.lt_iff_toInt_lt, Int32.le_iff_toInt_le, Int32.reduceToInt, ← Int32.toInt_inj] at h_239
          have g0_242 := gd_f x_235 h_239
          clear x_235
          have fe_307 : fld (f_210 a_0) 12 = (v_226 : Int32).toInt := by rw [e_214]; rfl
          have fe_308 : fld (f_210 a_0) 8 = (v_219 : Int32).toInt := by rw [e_214]; rfl
          have fe_309 : fld (f_210 a_0) 9 = (v_221 : Int32).toInt := by rw [e_214]; rfl
          have fe_310 : fld (f_210 a_0) 10 = (v_223 : Int32).toInt := by rw [e_214]; rfl
          have fe_311 : fld (f_210 a_0) 12 = (v_226 : Int32).toInt := by rw [e_214]; rfl
          exact hR _ _ _ _ _ _ dX12_readPart_154 (Nat.le_of_ble_eq_true rfl) (Nat.le_of_ble_eq_true rfl) ⟨rfl, hW_211, (hF_212.mono rfl), ⟨_, hf_213, o_f, PG.rf, (by omega), (by simp only [fe_307]; exact .inl g0_242)⟩, (by simp only [fe_308, fe_309, fe_310, fe_311, mz_40, mz_41, mz_43]; exact .inl g0_242)⟩
      refine v_icmp_ne hC dX12_readPart_131 (tgt := 145) (by decide) (fun h_174 => ?_) (fun h_174 => ?_)
      · simp only [Int32.lt_iff_toInt_lt, Int32.le_iff_toInt_le, Int32.reduceToInt, ← Int32.toInt_inj] at h_174
        have nb_175 : (0 ≤ v_157.toInt ∧ v_157.toInt ≤ 7) := by omega
        refine v_iconst hC dX12_readPart_145 (v := 0) (by decide) ?_
        refine v_pick [0, 1, 2] rfl ?_
        exact jn_208 f hW FR.rf 0
      · simp only [Int32.lt_iff_toInt_lt, Int32.le_iff_toInt_le, Int32.reduceToInt, ← Int32.toInt_inj] at h_174
        refine v_aload_n hC dX12_readPart_134 rfl ?_
        refine v_iconst hC dX12_readPart_135 (v := 0) (by decide) ?_
        refine v_sipush hC dX12_readPart_136 (v := 999) (by decide) ?_
        refine v_vi hC (rest := []) m_1 e_24 rfl mi_X12_number ms_X12_number (p_X12_number hW k_0) mx_X12_number ml_X12_170 (by decide) rfl (cells1 := 0) (slots1 := 0) (by decide) (by decide) (Nat.le_of_ble_eq_true rfl) (Nat.le_of_ble_eq_true rfl) rfl (Nat.le_of_ble_eq_true rfl) dX12_readPart_139 (fun r_312 L_313 f_314 h_315 => ?_)
        obtain ⟨rfl, hW_317, hF_318, -, -, -, -, -, x_316⟩ := h_315
        have fe_319 : fld (f a_0) 8 = (v_29 : Int32).toInt := by rw [e_24]; rfl
        have fe_320 : fld (f a_0) 10 = (v_33 : Int32).toInt := by rw [e_24]; rfl
        have fe_321 : fld (f a_0) 12 = (v_36 : Int32).toInt := by rw [e_24]; rfl
        have hf_322 := hF_318.at e_f rfl
        obtain ⟨v_324, v_325, v_326, v_328, v_330, v_332, v_334, v_335, v_336, v_337, v_338, e_323, -, b_327, b_329, b_331, b_333, -, -⟩ := hW_317.at m_1 t_2
        have fe_339 : fld (f_314 a_0) 8 = (v_328 : Int32).toInt := by rw [e_323]; rfl
        have fe_340 : fld (f_314 a_0) 9 = (v_330 : Int32).toInt := by rw [e_323]; rfl
        have fe_341 : fld (f_314 a_0) 10 = (v_332 : Int32).toInt := by rw [e_323]; rfl
        have fe_342 : fld (f_314 a_0) 12 = (v_335 : Int32).toInt := by rw [e_323]; rfl
        rw [fe_342, fe_321, fe_320, fe_319, fe_340, fe_339, fe_341] at x_316
        have nb_343 : ¬ (v_335 : Int32).toInt = 0 := x_316.elim id (fun h9 => absurd h9.1 g0_171)
        clear x_316
        clear fe_319 fe_320 fe_321 fe_339 fe_340 fe_341 fe_342
        try simp only [Int32.reduceToInt, Int64.reduceToInt] at x_316
        refine v_goto hC dX12_readPart_142 (tgt := 146) (by decide) ?_
        refine v_pick [0, 1, 2] rfl ?_
        exact jn_208 f_314 hW_317 (hF_318.mono rfl) r_312
    · simp only [Int32.lt_iff_toInt_lt, Int32.le_iff_toInt_le, Int32.reduceToInt, ← Int32.toInt_inj] at h_170
      have nb_172 : (1 ≤ r_161.toInt ∧ r_161.toInt ≤ 1) := by omega
      have g0_173 := gd_t x_166 h_170
      clear x_166
      refine v_iload_n hC dX12_readPart_118 rfl ?_
      refine v_bipush hC dX12_readPart_119 (v := 8) (by decide) ?_
      refine v_icmp_ge hC dX12_readPart_121 (tgt := 128) (by decide) (fun h_344 => ?_) (fun h_344 => ?_)
      · simp only [Int32.lt_iff_toInt_lt, Int32.le_iff_toInt_le, Int32.reduceToInt, ← Int32.toInt_inj] at h_344
        refine v_iload_n hC dX12_readPart_128 rfl ?_
        refine v_bipush hC dX12_readPart_129 (v := 8) (by decide) ?_
        refine v_icmp_ne_f hC dX12_readPart_131 (tgt := 145) (by decide) (by first | omega | (simp only [Int32.lt_iff_toInt_lt, Int32.le_iff_toInt_le, Int32.reduceToInt, ← Int32.toInt_inj, true_and, and_true, or_true, true_or, false_or, or_false, false_and, and_false, not_true_eq_false, not_false_eq_true] <;> omega)) ?_
        refine v_aload_n hC dX12_readPart_134 rfl ?_
        refine v_iconst hC dX12_readPart_135 (v := 0) (by decide) ?_
        refine v_sipush hC dX12_readPart_136 (v := 999) (by decide) ?_
        refine v_vi hC (rest := []) m_1 e_24 rfl mi_X12_number ms_X12_number (p_X12_number hW k_0) mx_X12_number ml_X12_170 (by decide) rfl (cells1 := 0) (slots1 := 0) (by decide) (by decide) (Nat.le_of_ble_eq_true rfl) (Nat.le_of_ble_eq_true rfl) rfl (Nat.le_of_ble_eq_true rfl) dX12_readPart_139 (fun r_345 L_346 f_347 h_348 => ?_)
        obtain ⟨rfl, hW_350, hF_351, -, -, -, -, -, x_349⟩ := h_348
        have fe_352 : fld (f a_0) 8 = (v_29 : Int32).toInt := by rw [e_24]; rfl
        have fe_353 : fld (f a_0) 10 = (v_33 : Int32).toInt := by rw [e_24]; rfl
        have fe_354 : fld (f a_0) 12 = (v_36 : Int32).toInt := by rw [e_24]; rfl
        have hf_355 := hF_351.at e_f rfl
        obtain ⟨v_357, v_358, v_359, v_361, v_363, v_365, v_367, v_368, v_369, v_370, v_371, e_356, -, b_360, b_362, b_364, b_366, -, -⟩ := hW_350.at m_1 t_2
        have fe_372 : fld (f_347 a_0) 8 = (v_361 : Int32).toInt := by rw [e_356]; rfl
        have fe_373 : fld (f_347 a_0) 9 = (v_363 : Int32).toInt := by rw [e_356]; rfl
        have fe_374 : fld (f_347 a_0) 10 = (v_365 : Int32).toInt := by rw [e_356]; rfl
        have fe_375 : fld (f_347 a_0) 12 = (v_368 : Int32).toInt := by rw [e_356]; rfl
        rw [fe_375, fe_354, fe_353, fe_352, fe_373, fe_372, fe_374] at x_349
        clear fe_352 fe_353 fe_354 fe_372 fe_373 fe_374 fe_375
        try simp only [Int32.reduceToInt, Int64.reduceToInt] at x_349
        refine v_goto hC dX12_readPart_142 (tgt := 146) (by decide) ?_
        refine v_istore_n hC dX12_readPart_146 (by decide) (lv' := [(3, .int r_345), (2, .int v_157), (0, .ref a_0), (1, .int a_1)]) rfl ?_
        refine v_aload_n hC dX12_readPart_147 rfl ?_
        refine v_vi hC (rest := []) m_1 e_356 rfl mi_X12_good ms_X12_good (p_X12_good hW_350 k_0) mx_X12_good ml_X12_139 (by decide) rfl (cells1 := 0) (slots1 := 0) (by decide) (by decide) (Nat.le_of_ble_eq_true rfl) (Nat.le_of_ble_eq_true rfl) rfl (Nat.le_of_ble_eq_true rfl) dX12_readPart_148 (fun r_376 L_377 f_378 h_379 => ?_)
        obtain ⟨rfl, rfl, b_380, x_381⟩ := h_379
        have fe_384 : fld (f_347 a_0) 12 = (v_368 : Int32).toInt := by rw [e_356]; rfl
        rw [fe_384] at x_381
        clear fe_384
        try simp only [Int32.reduceToInt, Int64.reduceToInt] at x_381
        refine v_if_ne hC dX12_readPart_151 (tgt := 155) (by decide) (fun h_385 => ?_) (fun h_385 => ?_)
        · simp only [Int32.lt_iff_toInt_lt, Int32.le_iff_toInt_le, Int32.reduceToInt, ← Int32.toInt_inj] at h_385
          have nb_386 : (1 ≤ r_376.toInt ∧ r_376.toInt ≤ 1) := by omega
          have g0_387 := gd_t x_381 h_385
          clear x_381
          have gp_388 := x_349.resolve_left (fun h9 => h9 g0_387)
          clear x_349
          refine v_sipush hC dX12_readPart_155 (v := 562) (by decide) ?_
          refine v_iconst hC dX12_readPart_158 (v := 3) (by decide) ?_
          refine v_aload_n hC dX12_readPart_159 rfl ?_
          refine v_get hC fl_X12_34 m_1 e_356 rfl dX12_readPart_160 ?_
          refine v_iconst hC dX12_readPart_163 (v := 5) (by decide) ?_
          refine v_iald hC m_22 hf_355 (vp_in_iff.mpr (by decide)) (v := g_f 5) rfl dX12_readPart_164 ?_
          have b_390 : 0 ≤ (g_f 5).toInt ∧ (g_f 5).toInt ≤ 149 := by omega
          obtain ⟨v_391, h_392⟩ : ∃ v9 : Int32, (3 : Int32) * (g_f 5) = v9 := ⟨_, rfl⟩
          refine v_imul hC dX12_readPart_165 h_392 ?_
          have h_393 := mul_v 3 149 447 h_392 (by decide) (by first | omega | (simp only [Int32.lt_iff_toInt_lt, Int32.le_iff_toInt_le, Int32.reduceToInt, ← Int32.toInt_inj, true_and, and_true, or_true, true_or, false_or, or_false, false_and, and_false, not_true_eq_false, not_false_eq_true] <;> omega)) (by decide) (by decide)
          try simp only [Int32.reduceToInt] at h_393
          obtain ⟨v_394, h_395⟩ : ∃ v9 : Int32, (562 : Int32) + v_391 = v9 := ⟨_, rfl⟩
          refine v_iadd hC dX12_readPart_166 h_395 ?_
          have h_396 := add_v h_395 (by first | omega | (simp only [Int32.lt_iff_toInt_lt, Int32.le_iff_toInt_le, Int32.reduceToInt, ← Int32.toInt_inj, true_and, and_true, or_true, true_or, false_or, or_false, false_and, and_false, not_true_eq_false, not_false_eq_true] <;> omega)) (by first | omega | (simp only [Int32.lt_iff_toInt_lt, Int32.le_iff_toInt_le, Int32.reduceToInt, ← Int32.toInt_inj, true_and, and_true, or_true, true_or, false_or, or_false, false_and, and_false, not_true_eq_false, not_false_eq_true] <;> omega))
          try simp only [Int32.reduceToInt] at h_396
          refine v_istore hC dX12_readPart_167 (by decide) (lv' := [(4, .int v_394), (3, .int r_345), (2, .int v_157), (0, .ref a_0), (1, .int a_1)]) rfl ?_
          refine v_aload_n hC dX12_readPart_169 rfl ?_
          refine v_get hC fl_X12_34 m_1 e_356 rfl dX12_readPart_170 ?_
          refine v_iload hC dX12_readPart_173 rfl ?_
          refine v_iload_n hC dX12_readPart_175 rfl ?_
          refine v_iast hC m_22 hf_355 (vp_in_iff.mpr (by first | omega | (simp only [Int32.lt_iff_toInt_lt, Int32.le_iff_toInt_le, Int32.reduceToInt, ← Int32.toInt_inj, true_and, and_true, or_true, true_or, false_or, or_false, false_and, and_false, not_true_eq_false, not_false_eq_true] <;> omega))) dX12_readPart_176 (fun f_397 hf_398 hk_399 => ?_)
          have hW_401 := hW_350.up hf_398 hk_399 t_23 ⟨_, rfl, (o_f.up (by first | omega | (simp only [Int32.lt_iff_toInt_lt, Int32.le_iff_toInt_le, Int32.reduceToInt, ← Int32.toInt_inj, true_and, and_true, or_true, true_or, false_or, or_false, false_and, and_false, not_true_eq_false, not_false_eq_true] <;> omega)) (fun q1 q2 => (by first | omega | (simp only [Int32.lt_iff_toInt_lt, Int32.le_iff_toInt_le, Int32.reduceToInt, ← Int32.toInt_inj] at *; omega))) (fun k9 q1 q2 q3 => (by first | omega | (simp only [Int32.lt_iff_toInt_lt, Int32.le_iff_toInt_le, Int32.reduceToInt, ← Int32.toInt_inj] at *; omega))))⟩
          obtain ⟨g_400, hf_398, ok_402, eg_403⟩ : ∃ g9, f_397 (q 14) = aI E 2076 g9 ∧ FOK g9 ∧ g9 = upd g_f (v_394 : Int32).toNatClampNeg a_1 := ⟨_, hf_398, (o_f.up (by first | omega | (simp only [Int32.lt_iff_toInt_lt, Int32.le_iff_toInt_le, Int32.reduceToInt, ← Int32.toInt_inj, true_and, and_true, or_true, true_or, false_or, or_false, false_and, and_false, not_true_eq_false, not_false_eq_true] <;> omega)) (fun q1 q2 => (by first | omega | (simp only [Int32.lt_iff_toInt_lt, Int32.le_iff_toInt_le, Int32.reduceToInt, ← Int32.toInt_inj] at *; omega))) (fun k9 q1 q2 q3 => (by first | omega | (simp only [Int32.lt_iff_toInt_lt, Int32.le_iff_toInt_le, Int32.reduceToInt, ← Int32.toInt_inj] at *; omega)))), rfl⟩
          have hf_404 := (hk_399 a_0 (ne_kd e_356 hf_355 rfl)).trans e_356
          have fr_405 := FR.w hk_399 hf_355 (k := 2176) rfl
          have pg_406 := PG.st PG.rf eg_403 (by omega)
          have h5_407 : (g_400 5).toInt = (g_f 5).toInt := upd_lo (g0 := g_f) 5 eg_403 rfl (by omega)
          refine v_aload_n hC dX12_readPart_177 rfl ?_
          refine v_get hC fl_X12_34 m_1 hf_404 rfl dX12_readPart_178 ?_
          refine v_iload hC dX12_readPart_181 rfl ?_
          refine v_iconst hC dX12_readPart_183 (v := 1) (by decide) ?_
          obtain ⟨v_408, h_409⟩ : ∃ v9 : Int32, v_394 + 1 = v9 := ⟨_, rfl⟩
          refine v_iadd hC dX12_readPart_184 h_409 ?_
          have h_410 := add_v h_409 (by first | omega | (simp only [Int32.lt_iff_toInt_lt, Int32.le_iff_toInt_le, Int32.reduceToInt, ← Int32.toInt_inj, true_and, and_true, or_true, true_or, false_or, or_false, false_and, and_false, not_true_eq_false, not_false_eq_true] <;> omega)) (by first | omega | (simp only [Int32.lt_iff_toInt_lt, Int32.le_iff_toInt_le, Int32.reduceToInt, ← Int32.toInt_inj, true_and, and_true, or_true, true_or, false_or, or_false, false_and, and_false, not_true_eq_false, not_false_eq_true] <;> omega))
          try simp only [Int32.reduceToInt] at h_410
          refine v_iload_n hC dX12_readPart_185 rfl ?_
          refine v_iast hC m_22 hf_398 (vp_in_iff.mpr (by first | omega | (simp only [Int32.lt_iff_toInt_lt, Int32.le_iff_toInt_le, Int32.reduceToInt, ← Int32.toInt_inj, true_and, and_true, or_true, true_or, false_or, or_false, false_and, and_false, not_true_eq_false, not_false_eq_true] <;> omega))) dX12_readPart_186 (fun f_411 hf_412 hk_413 => ?_)
          have hW_415 := hW_401.up hf_412 hk_413 t_23 ⟨_, rfl, (ok_402.up (by first | omega | (simp only [Int32.lt_iff_toInt_lt, Int32.le_iff_toInt_le, Int32.reduceToInt, ← Int32.toInt_inj, true_and, and_true, or_true, true_or, false_or, or_false, false_and, and_false, not_true_eq_false, not_false_eq_true] <;> omega)) (fun q1 q2 => (by first | omega | (simp only [Int32.lt_iff_toInt_lt, Int32.le_iff_toInt_le, Int32.reduceToInt, ← Int32.toInt_inj] at *; omega))) (fun k9 q1 q2 q3 => (by first | omega | (simp only [Int32.lt_iff_toInt_lt, Int32.le_iff_toInt_le, Int32.reduceToInt, ← Int32.toInt_inj] at *; omega))))⟩
          obtain ⟨g_414, hf_412, ok_416, eg_417⟩ : ∃ g9, f_411 (q 14) = aI E 2076 g9 ∧ FOK g9 ∧ g9 = upd g_400 (v_408 : Int32).toNatClampNeg v_157 := ⟨_, hf_412, (ok_402.up (by first | omega | (simp only [Int32.lt_iff_toInt_lt, Int32.le_iff_toInt_le, Int32.reduceToInt, ← Int32.toInt_inj, true_and, and_true, or_true, true_or, false_or, or_false, false_and, and_false, not_true_eq_false, not_false_eq_true] <;> omega)) (fun q1 q2 => (by first | omega | (simp only [Int32.lt_iff_toInt_lt, Int32.le_iff_toInt_le, Int32.reduceToInt, ← Int32.toInt_inj] at *; omega))) (fun k9 q1 q2 q3 => (by first | omega | (simp only [Int32.lt_iff_toInt_lt, Int32.le_iff_toInt_le, Int32.reduceToInt, ← Int32.toInt_inj] at *; omega)))), rfl⟩
          have hf_418 := (hk_413 a_0 (ne_kd hf_404 hf_398 rfl)).trans hf_404
          have fr_419 := FR.w hk_413 hf_398 (k := 2176) rfl
          have pg_420 := PG.st pg_406 eg_417 (by omega)
          have h5_421 : (g_414 5).toInt = (g_f 5).toInt := upd_lo (g0 := g_f) 5 eg_417 h5_407 (by omega)
          refine v_aload_n hC dX12_readPart_187 rfl ?_
          refine v_get hC fl_X12_34 m_1 hf_418 rfl dX12_readPart_188 ?_
          refine v_iload hC dX12_readPart_191 rfl ?_
          refine v_iconst hC dX12_readPart_193 (v := 2) (by decide) ?_
          obtain ⟨v_422, h_423⟩ : ∃ v9 : Int32, v_394 + 2 = v9 := ⟨_, rfl⟩
          refine v_iadd hC dX12_readPart_194 h_423 ?_
          have h_424 := add_v h_423 (by first | omega | (simp only [Int32.lt_iff_toInt_lt, Int32.le_iff_toInt_le, Int32.reduceToInt, ← Int32.toInt_inj, true_and, and_true, or_true, true_or, false_or, or_false, false_and, and_false, not_true_eq_false, not_false_eq_true] <;> omega)) (by first | omega | (simp only [Int32.lt_iff_toInt_lt, Int32.le_iff_toInt_le, Int32.reduceToInt, ← Int32.toInt_inj, true_and, and_true, or_true, true_or, false_or, or_false, false_and, and_false, not_true_eq_false, not_false_eq_true] <;> omega))
          try simp only [Int32.reduceToInt] at h_424
          refine v_iload_n hC dX12_readPart_195 rfl ?_
          refine v_iast hC m_22 hf_412 (vp_in_iff.mpr (by first | omega | (simp only [Int32.lt_iff_toInt_lt, Int32.le_iff_toInt_le, Int32.reduceToInt, ← Int32.toInt_inj, true_and, and_true, or_true, true_or, false_or, or_false, false_and, and_false, not_true_eq_false, not_false_eq_true] <;> omega))) dX12_readPart_196 (fun f_425 hf_426 hk_427 => ?_)
          have hW_429 := hW_415.up hf_426 hk_427 t_23 ⟨_, rfl, (ok_416.up (by first | omega | (simp only [Int32.lt_iff_toInt_lt, Int32.le_iff_toInt_le, Int32.reduceToInt, ← Int32.toInt_inj, true_and, and_true, or_true, true_or, false_or, or_false, false_and, and_false, not_true_eq_false, not_false_eq_true] <;> omega)) (fun q1 q2 => (by first | omega | (simp only [Int32.lt_iff_toInt_lt, Int32.le_iff_toInt_le, Int32.reduceToInt, ← Int32.toInt_inj] at *; omega))) (fun k9 q1 q2 q3 => (by first | omega | (simp only [Int32.lt_iff_toInt_lt, Int32.le_iff_toInt_le, Int32.reduceToInt, ← Int32.toInt_inj] at *; omega))))⟩
          obtain ⟨g_428, hf_426, ok_430, eg_431⟩ : ∃ g9, f_425 (q 14) = aI E 2076 g9 ∧ FOK g9 ∧ g9 = upd g_414 (v_422 : Int32).toNatClampNeg r_345 := ⟨_, hf_426, (ok_416.up (by first | omega | (simp only [Int32.lt_iff_toInt_lt, Int32.le_iff_toInt_le, Int32.reduceToInt, ← Int32.toInt_inj, true_and, and_true, or_true, true_or, false_or, or_false, false_and, and_false, not_true_eq_false, not_false_eq_true] <;> omega)) (fun q1 q2 => (by first | omega | (simp only [Int32.lt_iff_toInt_lt, Int32.le_iff_toInt_le, Int32.reduceToInt, ← Int32.toInt_inj] at *; omega))) (fun k9 q1 q2 q3 => (by first | omega | (simp only [Int32.lt_iff_toInt_lt, Int32.le_iff_toInt_le, Int32.reduceToInt, ← Int32.toInt_inj] at *; omega)))), rfl⟩
          have hf_432 := (hk_427 a_0 (ne_kd hf_418 hf_412 rfl)).trans hf_418
          have fr_433 := FR.w hk_427 hf_412 (k := 2176) rfl
          have pg_434 := PG.st pg_420 eg_431 (by omega)
          have h5_435 : (g_428 5).toInt = (g_f 5).toInt := upd_lo (g0 := g_f) 5 eg_431 h5_421 (by omega)
          refine v_aload_n hC dX12_readPart_197 rfl ?_
          refine v_get hC fl_X12_34 m_1 hf_432 rfl dX12_readPart_198 ?_
          refine v_iconst hC dX12_readPart_201 (v := 5) (by decide) ?_
          refine v_dup2 hC dX12_readPart_202 rfl rfl ?_
          refine v_iald hC m_22 hf_426 (vp_in_iff.mpr (by decide)) (v := g_428 5) rfl dX12_readPart_203 ?_
          refine v_iconst hC dX12_readPart_204 (v := 1) (by decide) ?_
          obtain ⟨v_436, h_437⟩ : ∃ v9 : Int32, (g_428 5) + 1 = v9 := ⟨_, rfl⟩
          refine v_iadd hC dX12_readPart_205 h_437 ?_
          have h_438 := add_v h_437 (by first | omega | (simp only [Int32.lt_iff_toInt_lt, Int32.le_iff_toInt_le, Int32.reduceToInt, ← Int32.toInt_inj, true_and, and_true, or_true, true_or, false_or, or_false, false_and, and_false, not_true_eq_false, not_false_eq_true] <;> omega)) (by first | omega | (simp only [Int32.lt_iff_toInt_lt, Int32.le_iff_toInt_le, Int32.reduceToInt, ← Int32.toInt_inj, true_and, and_true, or_true, true_or, false_or, or_false, false_and, and_false, not_true_eq_false, not_false_eq_true] <;> omega))
          try simp only [Int32.reduceToInt] at h_438
          refine v_iast hC m_22 hf_426 (vp_in_iff.mpr (by decide)) dX12_readPart_206 (fun f_439 hf_440 hk_441 => ?_)
          have hW_443 := hW_429.up hf_440 hk_441 t_23 ⟨_, rfl, (ok_430.up (i := 5) (by decide) (fun q1 q2 => absurd (And.intro q1 q2) (by decide)) (fun k9 q1 q2 q3 => by simp only [Int32.reduceToInt] at q3; omega))⟩
          obtain ⟨g_442, hf_440, ok_444, eg_445⟩ : ∃ g9, f_439 (q 14) = aI E 2076 g9 ∧ FOK g9 ∧ g9 = upd g_428 (5 : Int32).toNatClampNeg v_436 := ⟨_, hf_440, (ok_430.up (i := 5) (by decide) (fun q1 q2 => absurd (And.intro q1 q2) (by decide)) (fun k9 q1 q2 q3 => by simp only [Int32.reduceToInt] at q3; omega)), rfl⟩
          have hf_446 := (hk_441 a_0 (ne_kd hf_432 hf_426 rfl)).trans hf_432
          have fr_447 := FR.w hk_441 hf_426 (k := 2176) rfl
          have pg_448 := PG.st5 pg_434 eg_445
          have pg_448_t : (g_442 5).toInt = (v_436 : Int32).toInt := congrArg Int32.toInt pg_448.2
          have fe_449 : fld (f_439 a_0) 12 = (v_368 : Int32).toInt := by rw [hf_446]; rfl
          have fe_450 : fld (f_439 a_0) 8 = (v_361 : Int32).toInt := by rw [hf_446]; rfl
          have fe_451 : fld (f_439 a_0) 9 = (v_363 : Int32).toInt := by rw [hf_446]; rfl
          have fe_452 : fld (f_439 a_0) 10 = (v_365 : Int32).toInt := by rw [hf_446]; rfl
          have fe_453 : fld (f_439 a_0) 12 = (v_368 : Int32).toInt := by rw [hf_446]; rfl
          exact hR _ _ _ _ _ _ dX12_readPart_207 (Nat.le_of_ble_eq_true rfl) (Nat.le_of_ble_eq_true rfl) ⟨rfl, hW_443, (((((hF_351.tr fr_405).tr fr_419).tr fr_433).tr fr_447).mono rfl), ⟨_, hf_440, ok_444, pg_448.1, (by omega), (by simp only [fe_449]; by_cases q9 : (v_368 : Int32).toInt = 0; (right; omega); exact .inl q9)⟩, (by simp only [fe_450, fe_451, fe_452, fe_453, mz_40, mz_41, mz_43]; by_cases q9 : (v_368 : Int32).toInt = 0; (right; omega); exact .inl q9)⟩
        · simp only [Int32.lt_iff_toInt_lt, Int32.le_iff_toInt_le, Int32.reduceToInt, ← Int32.toInt_inj] at h_385
          have g0_389 := gd_f x_381 h_385
          clear x_381
          clear x_349
          have fe_454 : fld (f_347 a_0) 12 = (v_368 : Int32).toInt := by rw [e_356]; rfl
          have fe_455 : fld (f_347 a_0) 8 = (v_361 : Int32).toInt := by rw [e_356]; rfl
          have fe_456 : fld (f_347 a_0) 9 = (v_363 : Int32).toInt := by rw [e_356]; rfl
          have fe_457 : fld (f_347 a_0) 10 = (v_365 : Int32).toInt := by rw [e_356]; rfl
          have fe_458 : fld (f_347 a_0) 12 = (v_368 : Int32).toInt := by rw [e_356]; rfl
          exact hR _ _ _ _ _ _ dX12_readPart_154 (Nat.le_of_ble_eq_true rfl) (Nat.le_of_ble_eq_true rfl) ⟨rfl, hW_350, (hF_351.mono rfl), ⟨_, hf_355, o_f, PG.rf, (by omega), (by simp only [fe_454]; exact .inl g0_389)⟩, (by simp only [fe_455, fe_456, fe_457, fe_458, mz_40, mz_41, mz_43]; exact .inl g0_389)⟩
      · simp only [Int32.lt_iff_toInt_lt, Int32.le_iff_toInt_le, Int32.reduceToInt, ← Int32.toInt_inj] at h_344
        refine v_aload_n hC dX12_readPart_124 rfl ?_
        refine v_vv hC (rest := []) m_1 e_24 rfl mi_X12_advance ms_X12_advance (p_X12_advance hW k_0) mx_X12_advance ml_X12_156 (by decide) rfl (cells1 := 0) (slots1 := 0) (by decide) (by decide) (Nat.le_of_ble_eq_true rfl) (Nat.le_of_ble_eq_true rfl) rfl (Nat.le_of_ble_eq_true rfl) dX12_readPart_125 (fun L_460 f_461 h_462 => ?_)
        obtain ⟨rfl, hW_466, hF_467, x_463, x_464, x_465, -⟩ := h_462
        have fe_468 : fld (f a_0) 8 = (v_29 : Int32).toInt := by rw [e_24]; rfl
        have fe_469 : fld (f a_0) 12 = (v_36 : Int32).toInt := by rw [e_24]; rfl
        have hf_470 := hF_467.at e_f rfl
        obtain ⟨v_472, v_473, v_474, v_476, v_478, v_480, v_482, v_483, v_484, v_485, v_486, e_471, -, b_475, b_477, b_479, b_481, -, -⟩ := hW_466.at m_1 t_2
        have fe_487 : fld (f_461 a_0) 8 = (v_476 : Int32).toInt := by rw [e_471]; rfl
        have fe_488 : fld (f_461 a_0) 9 = (v_478 : Int32).toInt := by rw [e_471]; rfl
        have fe_489 : fld (f_461 a_0) 10 = (v_480 : Int32).toInt := by rw [e_471]; rfl
        have fe_490 : fld (f_461 a_0) 12 = (v_483 : Int32).toInt := by rw [e_471]; rfl
        rw [fe_468, fe_488, fe_487] at x_463
        rw [fe_489, fe_488, fe_487] at x_464
        rw [fe_490, fe_469] at x_465
        have g0_491 := x_465.trans g0_173
        clear fe_468 fe_469 fe_487 fe_488 fe_489 fe_490
        refine v_iload_n hC dX12_readPart_128 rfl ?_
        refine v_bipush hC dX12_readPart_129 (v := 8) (by decide) ?_
        refine v_icmp_ne_t hC dX12_readPart_131 (tgt := 145) (by decide) (by first | omega | (simp only [Int32.lt_iff_toInt_lt, Int32.le_iff_toInt_le, Int32.reduceToInt, ← Int32.toInt_inj, true_and, and_true, or_true, true_or, false_or, or_false, false_and, and_false, not_true_eq_false, not_false_eq_true] <;> omega)) ?_
        refine v_iconst hC dX12_readPart_145 (v := 0) (by decide) ?_
        refine v_istore_n hC dX12_readPart_146 (by decide) (lv' := [(3, .int 0), (2, .int v_157), (0, .ref a_0), (1, .int a_1)]) rfl ?_
        refine v_aload_n hC dX12_readPart_147 rfl ?_
        refine v_vi hC (rest := []) m_1 e_471 rfl mi_X12_good ms_X12_good (p_X12_good hW_466 k_0) mx_X12_good ml_X12_139 (by decide) rfl (cells1 := 0) (slots1 := 0) (by decide) (by decide) (Nat.le_of_ble_eq_true rfl) (Nat.le_of_ble_eq_true rfl) rfl (Nat.le_of_ble_eq_true rfl) dX12_readPart_148 (fun r_492 L_493 f_494 h_495 => ?_)
        obtain ⟨rfl, rfl, b_496, x_497⟩ := h_495
        have fe_500 : fld (f_461 a_0) 12 = (v_483 : Int32).toInt := by rw [e_471]; rfl
        rw [fe_500] at x_497
        clear fe_500
        try simp only [Int32.reduceToInt, Int64.reduceToInt] at x_497
        refine v_if_ne_t hC dX12_readPart_151 (tgt := 155) (by decide) (gdb_n x_497 g0_491) ?_
        refine v_sipush hC dX12_readPart_155 (v := 562) (by decide) ?_
        refine v_iconst hC dX12_readPart_158 (v := 3) (by decide) ?_
        refine v_aload_n hC dX12_readPart_159 rfl ?_
        refine v_get hC fl_X12_34 m_1 e_471 rfl dX12_readPart_160 ?_
        refine v_iconst hC dX12_readPart_163 (v := 5) (by decide) ?_
        refine v_iald hC m_22 hf_470 (vp_in_iff.mpr (by decide)) (v := g_f 5) rfl dX12_readPart_164 ?_
        have b_501 : 0 ≤ (g_f 5).toInt ∧ (g_f 5).toInt ≤ 149 := by omega
        obtain ⟨v_502, h_503⟩ : ∃ v9 : Int32, (3 : Int32) * (g_f 5) = v9 := ⟨_, rfl⟩
        refine v_imul hC dX12_readPart_165 h_503 ?_
        have h_504 := mul_v 3 149 447 h_503 (by decide) (by first | omega | (simp only [Int32.lt_iff_toInt_lt, Int32.le_iff_toInt_le, Int32.reduceToInt, ← Int32.toInt_inj, true_and, and_true, or_true, true_or, false_or, or_false, false_and, and_false, not_true_eq_false, not_false_eq_true] <;> omega)) (by decide) (by decide)
        try simp only [Int32.reduceToInt] at h_504
        obtain ⟨v_505, h_506⟩ : ∃ v9 : Int32, (562 : Int32) + v_502 = v9 := ⟨_, rfl⟩
        refine v_iadd hC dX12_readPart_166 h_506 ?_
        have h_507 := add_v h_506 (by first | omega | (simp only [Int32.lt_iff_toInt_lt, Int32.le_iff_toInt_le, Int32.reduceToInt, ← Int32.toInt_inj, true_and, and_true, or_true, true_or, false_or, or_false, false_and, and_false, not_true_eq_false, not_false_eq_true] <;> omega)) (by first | omega | (simp only [Int32.lt_iff_toInt_lt, Int32.le_iff_toInt_le, Int32.reduceToInt, ← Int32.toInt_inj, true_and, and_true, or_true, true_or, false_or, or_false, false_and, and_false, not_true_eq_false, not_false_eq_true] <;> omega))
        try simp only [Int32.reduceToInt] at h_507
        refine v_istore hC dX12_readPart_167 (by decide) (lv' := [(4, .int v_505), (3, .int 0), (2, .int v_157), (0, .ref a_0), (1, .int a_1)]) rfl ?_
        refine v_aload_n hC dX12_readPart_169 rfl ?_
        refine v_get hC fl_X12_34 m_1 e_471 rfl dX12_readPart_170 ?_
        refine v_iload hC dX12_readPart_173 rfl ?_
        refine v_iload_n hC dX12_readPart_175 rfl ?_
        refine v_iast hC m_22 hf_470 (vp_in_iff.mpr (by first | omega | (simp only [Int32.lt_iff_toInt_lt, Int32.le_iff_toInt_le, Int32.reduceToInt, ← Int32.toInt_inj, true_and, and_true, or_true, true_or, false_or, or_false, false_and, and_false, not_true_eq_false, not_false_eq_true] <;> omega))) dX12_readPart_176 (fun f_508 hf_509 hk_510 => ?_)
        have hW_512 := hW_466.up hf_509 hk_510 t_23 ⟨_, rfl, (o_f.up (by first | omega | (simp only [Int32.lt_iff_toInt_lt, Int32.le_iff_toInt_le, Int32.reduceToInt, ← Int32.toInt_inj, true_and, and_true, or_true, true_or, false_or, or_false, false_and, and_false, not_true_eq_false, not_false_eq_true] <;> omega)) (fun q1 q2 => (by first | omega | (simp only [Int32.lt_iff_toInt_lt, Int32.le_iff_toInt_le, Int32.reduceToInt, ← Int32.toInt_inj] at *; omega))) (fun k9 q1 q2 q3 => (by first | omega | (simp only [Int32.lt_iff_toInt_lt, Int32.le_iff_toInt_le, Int32.reduceToInt, ← Int32.toInt_inj] at *; omega))))⟩
        obtain ⟨g_511, hf_509, ok_513, eg_514⟩ : ∃ g9, f_508 (q 14) = aI E 2076 g9 ∧ FOK g9 ∧ g9 = upd g_f (v_505 : Int32).toNatClampNeg a_1 := ⟨_, hf_509, (o_f.up (by first | omega | (simp only [Int32.lt_iff_toInt_lt, Int32.le_iff_toInt_le, Int32.reduceToInt, ← Int32.toInt_inj, true_and, and_true, or_true, true_or, false_or, or_false, false_and, and_false, not_true_eq_false, not_false_eq_true] <;> omega)) (fun q1 q2 => (by first | omega | (simp only [Int32.lt_iff_toInt_lt, Int32.le_iff_toInt_le, Int32.reduceToInt, ← Int32.toInt_inj] at *; omega))) (fun k9 q1 q2 q3 => (by first | omega | (simp only [Int32.lt_iff_toInt_lt, Int32.le_iff_toInt_le, Int32.reduceToInt, ← Int32.toInt_inj] at *; omega)))), rfl⟩
        have hf_515 := (hk_510 a_0 (ne_kd e_471 hf_470 rfl)).trans e_471
        have fr_516 := FR.w hk_510 hf_470 (k := 2176) rfl
        have pg_517 := PG.st PG.rf eg_514 (by omega)
        have h5_518 : (g_511 5).toInt = (g_f 5).toInt := upd_lo (g0 := g_f) 5 eg_514 rfl (by omega)
        refine v_aload_n hC dX12_readPart_177 rfl ?_
        refine v_get hC fl_X12_34 m_1 hf_515 rfl dX12_readPart_178 ?_
        refine v_iload hC dX12_readPart_181 rfl ?_
        refine v_iconst hC dX12_readPart_183 (v := 1) (by decide) ?_
        obtain ⟨v_519, h_520⟩ : ∃ v9 : Int32, v_505 + 1 = v9 := ⟨_, rfl⟩
        refine v_iadd hC dX12_readPart_184 h_520 ?_
        have h_521 := add_v h_520 (by first | omega | (simp only [Int32.lt_iff_toInt_lt, Int32.le_iff_toInt_le, Int32.reduceToInt, ← Int32.toInt_inj, true_and, and_true, or_true, true_or, false_or, or_false, false_and, and_false, not_true_eq_false, not_false_eq_true] <;> omega)) (by first | omega | (simp only [Int32.lt_iff_toInt_lt, Int32.le_iff_toInt_le, Int32.reduceToInt, ← Int32.toInt_inj, true_and, and_true, or_true, true_or, false_or, or_false, false_and, and_false, not_true_eq_false, not_false_eq_true] <;> omega))
        try simp only [Int32.reduceToInt] at h_521
        refine v_iload_n hC dX12_readPart_185 rfl ?_
        refine v_iast hC m_22 hf_509 (vp_in_iff.mpr (by first | omega | (simp only [Int32.lt_iff_toInt_lt, Int32.le_iff_toInt_le, Int32.reduceToInt, ← Int32.toInt_inj, true_and, and_true, or_true, true_or, false_or, or_false, false_and, and_false, not_true_eq_false, not_false_eq_true] <;> omega))) dX12_readPart_186 (fun f_522 hf_523 hk_524 => ?_)
        have hW_526 := hW_512.up hf_523 hk_524 t_23 ⟨_, rfl, (ok_513.up (by first | omega | (simp only [Int32.lt_iff_toInt_lt, Int32.le_iff_toInt_le, Int32.reduceToInt, ← Int32.toInt_inj, true_and, and_true, or_true, true_or, false_or, or_false, false_and, and_false, not_true_eq_false, not_false_eq_true] <;> omega)) (fun q1 q2 => (by first | omega | (simp only [Int32.lt_iff_toInt_lt, Int32.le_iff_toInt_le, Int32.reduceToInt, ← Int32.toInt_inj] at *; omega))) (fun k9 q1 q2 q3 => (by first | omega | (simp only [Int32.lt_iff_toInt_lt, Int32.le_iff_toInt_le, Int32.reduceToInt, ← Int32.toInt_inj] at *; omega))))⟩
        obtain ⟨g_525, hf_523, ok_527, eg_528⟩ : ∃ g9, f_522 (q 14) = aI E 2076 g9 ∧ FOK g9 ∧ g9 = upd g_511 (v_519 : Int32).toNatClampNeg v_157 := ⟨_, hf_523, (ok_513.up (by first | omega | (simp only [Int32.lt_iff_toInt_lt, Int32.le_iff_toInt_le, Int32.reduceToInt, ← Int32.toInt_inj, true_and, and_true, or_true, true_or, false_or, or_false, false_and, and_false, not_true_eq_false, not_false_eq_true] <;> omega)) (fun q1 q2 => (by first | omega | (simp only [Int32.lt_iff_toInt_lt, Int32.le_iff_toInt_le, Int32.reduceToInt, ← Int32.toInt_inj] at *; omega))) (fun k9 q1 q2 q3 => (by first | omega | (simp only [Int32.lt_iff_toInt_lt, Int32.le_iff_toInt_le, Int32.reduceToInt, ← Int32.toInt_inj] at *; omega)))), rfl⟩
        have hf_529 := (hk_524 a_0 (ne_kd hf_515 hf_509 rfl)).trans hf_515
        have fr_530 := FR.w hk_524 hf_509 (k := 2176) rfl
        have pg_531 := PG.st pg_517 eg_528 (by omega)
        have h5_532 : (g_525 5).toInt = (g_f 5).toInt := upd_lo (g0 := g_f) 5 eg_528 h5_518 (by omega)
        refine v_aload_n hC dX12_readPart_187 rfl ?_
        refine v_get hC fl_X12_34 m_1 hf_529 rfl dX12_readPart_188 ?_
        refine v_iload hC dX12_readPart_191 rfl ?_
        refine v_iconst hC dX12_readPart_193 (v := 2) (by decide) ?_
        obtain ⟨v_533, h_534⟩ : ∃ v9 : Int32, v_505 + 2 = v9 := ⟨_, rfl⟩
        refine v_iadd hC dX12_readPart_194 h_534 ?_
        have h_535 := add_v h_534 (by first | omega | (simp only [Int32.lt_iff_toInt_lt, Int32.le_iff_toInt_le, Int32.reduceToInt, ← Int32.toInt_inj, true_and, and_true, or_true, true_or, false_or, or_false, false_and, and_false, not_true_eq_false, not_false_eq_true] <;> omega)) (by first | omega | (simp only [Int32.lt_iff_toInt_lt, Int32.le_iff_toInt_le, Int32.reduceToInt, ← Int32.toInt_inj, true_and, and_true, or_true, true_or, false_or, or_false, false_and, and_false, not_true_eq_false, not_false_eq_true] <;> omega))
        try simp only [Int32.reduceToInt] at h_535
        refine v_iload_n hC dX12_readPart_195 rfl ?_
        refine v_iast hC m_22 hf_523 (vp_in_iff.mpr (by first | omega | (simp only [Int32.lt_iff_toInt_lt, Int32.le_iff_toInt_le, Int32.reduceToInt, ← Int32.toInt_inj, true_and, and_true, or_true, true_or, false_or, or_false, false_and, and_false, not_true_eq_false, not_false_eq_true] <;> omega))) dX12_readPart_196 (fun f_536 hf_537 hk_538 => ?_)
        have hW_540 := hW_526.up hf_537 hk_538 t_23 ⟨_, rfl, (ok_527.up (by first | omega | (simp only [Int32.lt_iff_toInt_lt, Int32.le_iff_toInt_le, Int32.reduceToInt, ← Int32.toInt_inj, true_and, and_true, or_true, true_or, false_or, or_false, false_and, and_false, not_true_eq_false, not_false_eq_true] <;> omega)) (fun q1 q2 => (by first | omega | (simp only [Int32.lt_iff_toInt_lt, Int32.le_iff_toInt_le, Int32.reduceToInt, ← Int32.toInt_inj] at *; omega))) (fun k9 q1 q2 q3 => (by first | omega | (simp only [Int32.lt_iff_toInt_lt, Int32.le_iff_toInt_le, Int32.reduceToInt, ← Int32.toInt_inj] at *; omega))))⟩
        obtain ⟨g_539, hf_537, ok_541, eg_542⟩ : ∃ g9, f_536 (q 14) = aI E 2076 g9 ∧ FOK g9 ∧ g9 = upd g_525 (v_533 : Int32).toNatClampNeg 0 := ⟨_, hf_537, (ok_527.up (by first | omega | (simp only [Int32.lt_iff_toInt_lt, Int32.le_iff_toInt_le, Int32.reduceToInt, ← Int32.toInt_inj, true_and, and_true, or_true, true_or, false_or, or_false, false_and, and_false, not_true_eq_false, not_false_eq_true] <;> omega)) (fun q1 q2 => (by first | omega | (simp only [Int32.lt_iff_toInt_lt, Int32.le_iff_toInt_le, Int32.reduceToInt, ← Int32.toInt_inj] at *; omega))) (fun k9 q1 q2 q3 => (by first | omega | (simp only [Int32.lt_iff_toInt_lt, Int32.le_iff_toInt_le, Int32.reduceToInt, ← Int32.toInt_inj] at *; omega)))), rfl⟩
        have hf_543 := (hk_538 a_0 (ne_kd hf_529 hf_523 rfl)).trans hf_529
        have fr_544 := FR.w hk_538 hf_523 (k := 2176) rfl
        have pg_545 := PG.st pg_531 eg_542 (by omega)
        have h5_546 : (g_539 5).toInt = (g_f 5).toInt := upd_lo (g0 := g_f) 5 eg_542 h5_532 (by omega)
        refine v_aload_n hC dX12_readPart_197 rfl ?_
        refine v_get hC fl_X12_34 m_1 hf_543 rfl dX12_readPart_198 ?_
        refine v_iconst hC dX12_readPart_201 (v := 5) (by decide) ?_
        refine v_dup2 hC dX12_readPart_202 rfl rfl ?_
        refine v_iald hC m_22 hf_537 (vp_in_iff.mpr (by decide)) (v := g_539 5) rfl dX12_readPart_203 ?_
        refine v_iconst hC dX12_readPart_204 (v := 1) (by decide) ?_
        obtain ⟨v_547, h_548⟩ : ∃ v9 : Int32, (g_539 5) + 1 = v9 := ⟨_, rfl⟩
        refine v_iadd hC dX12_readPart_205 h_548 ?_
        have h_549 := add_v h_548 (by first | omega | (simp only [Int32.lt_iff_toInt_lt, Int32.le_iff_toInt_le, Int32.reduceToInt, ← Int32.toInt_inj, true_and, and_true, or_true, true_or, false_or, or_false, false_and, and_false, not_true_eq_false, not_false_eq_true] <;> omega)) (by first | omega | (simp only [Int32.lt_iff_toInt_lt, Int32.le_iff_toInt_le, Int32.reduceToInt, ← Int32.toInt_inj, true_and, and_true, or_true, true_or, false_or, or_false, false_and, and_false, not_true_eq_false, not_false_eq_true] <;> omega))
        try simp only [Int32.reduceToInt] at h_549
        refine v_iast hC m_22 hf_537 (vp_in_iff.mpr (by decide)) dX12_readPart_206 (fun f_550 hf_551 hk_552 => ?_)
        have hW_554 := hW_540.up hf_551 hk_552 t_23 ⟨_, rfl, (ok_541.up (i := 5) (by decide) (fun q1 q2 => absurd (And.intro q1 q2) (by decide)) (fun k9 q1 q2 q3 => by simp only [Int32.reduceToInt] at q3; omega))⟩
        obtain ⟨g_553, hf_551, ok_555, eg_556⟩ : ∃ g9, f_550 (q 14) = aI E 2076 g9 ∧ FOK g9 ∧ g9 = upd g_539 (5 : Int32).toNatClampNeg v_547 := ⟨_, hf_551, (ok_541.up (i := 5) (by decide) (fun q1 q2 => absurd (And.intro q1 q2) (by decide)) (fun k9 q1 q2 q3 => by simp only [Int32.reduceToInt] at q3; omega)), rfl⟩
        have hf_557 := (hk_552 a_0 (ne_kd hf_543 hf_537 rfl)).trans hf_543
        have fr_558 := FR.w hk_552 hf_537 (k := 2176) rfl
        have pg_559 := PG.st5 pg_545 eg_556
        have pg_559_t : (g_553 5).toInt = (v_547 : Int32).toInt := congrArg Int32.toInt pg_559.2
        have fe_560 : fld (f_550 a_0) 12 = (v_483 : Int32).toInt := by rw [hf_557]; rfl
        have fe_561 : fld (f_550 a_0) 8 = (v_476 : Int32).toInt := by rw [hf_557]; rfl
        have fe_562 : fld (f_550 a_0) 9 = (v_478 : Int32).toInt := by rw [hf_557]; rfl
        have fe_563 : fld (f_550 a_0) 10 = (v_480 : Int32).toInt := by rw [hf_557]; rfl
        have fe_564 : fld (f_550 a_0) 12 = (v_483 : Int32).toInt := by rw [hf_557]; rfl
        exact hR _ _ _ _ _ _ dX12_readPart_207 (Nat.le_of_ble_eq_true rfl) (Nat.le_of_ble_eq_true rfl) ⟨rfl, hW_554, (((((hF_467.tr fr_516).tr fr_530).tr fr_544).tr fr_558).mono rfl), ⟨_, hf_551, ok_555, pg_559.1, (by omega), (by simp only [fe_560]; by_cases q9 : (v_483 : Int32).toInt = 0; (right; omega); exact .inl q9)⟩, (by simp only [fe_561, fe_562, fe_563, fe_564, mz_40, mz_41, mz_43]; by_cases q9 : (v_483 : Int32).toInt = 0; (right; omega); exact .inl q9)⟩
  refine v_if_eq hC dX12_readPart_6 (tgt := 13) (by decide) (fun h_50 => ?_) (fun h_50 => ?_)
  · simp only [Int32.lt_iff_toInt_lt, Int32.le_iff_toInt_le, Int32.reduceToInt, ← Int32.toInt_inj] at h_50
    refine v_aload_n hC dX12_readPart_13 rfl ?_
    refine v_ldcS hC sr_X12_246 dX12_readPart_14 ?_
    refine v_vi hC (rest := []) m_1 e_24 rfl mi_X12_is ms_X12_is (p_X12_is hW k_0 (by decide)) mx_X12_is ml_X12_152 (by decide) rfl (cells1 := 0) (slots1 := 0) (by decide) (by decide) (Nat.le_of_ble_eq_true rfl) (Nat.le_of_ble_eq_true rfl) rfl (Nat.le_of_ble_eq_true rfl) dX12_readPart_16 (fun r_565 L_566 f_567 h_568 => ?_)
    obtain ⟨rfl, rfl, rfl⟩ := h_568
    refine v_if_eq hC dX12_readPart_19 (tgt := 26) (by decide) (fun h_571 => ?_) (fun h_571 => ?_)
    · simp only [Int32.lt_iff_toInt_lt, Int32.le_iff_toInt_le, Int32.reduceToInt, ← Int32.toInt_inj] at h_571
      refine v_aload_n hC dX12_readPart_26 rfl ?_
      refine v_ldcS hC sr_X12_248 dX12_readPart_27 ?_
      refine v_vi hC (rest := []) m_1 e_24 rfl mi_X12_is ms_X12_is (p_X12_is hW k_0 (by decide)) mx_X12_is ml_X12_152 (by decide) rfl (cells1 := 0) (slots1 := 0) (by decide) (by decide) (Nat.le_of_ble_eq_true rfl) (Nat.le_of_ble_eq_true rfl) rfl (Nat.le_of_ble_eq_true rfl) dX12_readPart_29 (fun r_579 L_580 f_581 h_582 => ?_)
      obtain ⟨rfl, rfl, rfl⟩ := h_582
      refine v_if_eq hC dX12_readPart_32 (tgt := 39) (by decide) (fun h_585 => ?_) (fun h_585 => ?_)
      · simp only [Int32.lt_iff_toInt_lt, Int32.le_iff_toInt_le, Int32.reduceToInt, ← Int32.toInt_inj] at h_585
        refine v_aload_n hC dX12_readPart_39 rfl ?_
        refine v_ldcS hC sr_X12_250 dX12_readPart_40 ?_
        refine v_vi hC (rest := []) m_1 e_24 rfl mi_X12_is ms_X12_is (p_X12_is hW k_0 (by decide)) mx_X12_is ml_X12_152 (by decide) rfl (cells1 := 0) (slots1 := 0) (by decide) (by decide) (Nat.le_of_ble_eq_true rfl) (Nat.le_of_ble_eq_true rfl) rfl (Nat.le_of_ble_eq_true rfl) dX12_readPart_42 (fun r_593 L_594 f_595 h_596 => ?_)
        obtain ⟨rfl, rfl, rfl⟩ := h_596
        refine v_if_eq hC dX12_readPart_45 (tgt := 52) (by decide) (fun h_599 => ?_) (fun h_599 => ?_)
        · simp only [Int32.lt_iff_toInt_lt, Int32.le_iff_toInt_le, Int32.reduceToInt, ← Int32.toInt_inj] at h_599
          refine v_aload_n hC dX12_readPart_52 rfl ?_
          refine v_ldcS hC sr_X12_252 dX12_readPart_53 ?_
          refine v_vi hC (rest := []) m_1 e_24 rfl mi_X12_is ms_X12_is (p_X12_is hW k_0 (by decide)) mx_X12_is ml_X12_152 (by decide) rfl (cells1 := 0) (slots1 := 0) (by decide) (by decide) (Nat.le_of_ble_eq_true rfl) (Nat.le_of_ble_eq_true rfl) rfl (Nat.le_of_ble_eq_true rfl) dX12_readPart_55 (fun r_607 L_608 f_609 h_610 => ?_)
          obtain ⟨rfl, rfl, rfl⟩ := h_610
          refine v_if_eq hC dX12_readPart_58 (tgt := 65) (by decide) (fun h_613 => ?_) (fun h_613 => ?_)
          · simp only [Int32.lt_iff_toInt_lt, Int32.le_iff_toInt_le, Int32.reduceToInt, ← Int32.toInt_inj] at h_613
            refine v_aload_n hC dX12_readPart_65 rfl ?_
            refine v_ldcS hC sr_X12_254 dX12_readPart_66 ?_
            refine v_vi hC (rest := []) m_1 e_24 rfl mi_X12_is ms_X12_is (p_X12_is hW k_0 (by decide)) mx_X12_is ml_X12_152 (by decide) rfl (cells1 := 0) (slots1 := 0) (by decide) (by decide) (Nat.le_of_ble_eq_true rfl) (Nat.le_of_ble_eq_true rfl) rfl (Nat.le_of_ble_eq_true rfl) dX12_readPart_68 (fun r_621 L_622 f_623 h_624 => ?_)
            obtain ⟨rfl, rfl, rfl⟩ := h_624
            refine v_if_eq hC dX12_readPart_71 (tgt := 78) (by decide) (fun h_627 => ?_) (fun h_627 => ?_)
            · simp only [Int32.lt_iff_toInt_lt, Int32.le_iff_toInt_le, Int32.reduceToInt, ← Int32.toInt_inj] at h_627
              refine v_aload_n hC dX12_readPart_78 rfl ?_
              refine v_ldcwS hC sr_X12_256 dX12_readPart_79 ?_
              refine v_vi hC (rest := []) m_1 e_24 rfl mi_X12_is ms_X12_is (p_X12_is hW k_0 (by decide)) mx_X12_is ml_X12_152 (by decide) rfl (cells1 := 0) (slots1 := 0) (by decide) (by decide) (Nat.le_of_ble_eq_true rfl) (Nat.le_of_ble_eq_true rfl) rfl (Nat.le_of_ble_eq_true rfl) dX12_readPart_82 (fun r_635 L_636 f_637 h_638 => ?_)
              obtain ⟨rfl, rfl, rfl⟩ := h_638
              refine v_if_eq hC dX12_readPart_85 (tgt := 93) (by decide) (fun h_641 => ?_) (fun h_641 => ?_)
              · simp only [Int32.lt_iff_toInt_lt, Int32.le_iff_toInt_le, Int32.reduceToInt, ← Int32.toInt_inj] at h_641
                refine v_aload_n hC dX12_readPart_93 rfl ?_
                refine v_ldcwS hC sr_X12_258 dX12_readPart_94 ?_
                refine v_vi hC (rest := []) m_1 e_24 rfl mi_X12_is ms_X12_is (p_X12_is hW k_0 (by decide)) mx_X12_is ml_X12_152 (by decide) rfl (cells1 := 0) (slots1 := 0) (by decide) (by decide) (Nat.le_of_ble_eq_true rfl) (Nat.le_of_ble_eq_true rfl) rfl (Nat.le_of_ble_eq_true rfl) dX12_readPart_97 (fun r_649 L_650 f_651 h_652 => ?_)
                obtain ⟨rfl, rfl, rfl⟩ := h_652
                refine v_if_eq hC dX12_readPart_100 (tgt := 108) (by decide) (fun h_655 => ?_) (fun h_655 => ?_)
                · simp only [Int32.lt_iff_toInt_lt, Int32.le_iff_toInt_le, Int32.reduceToInt, ← Int32.toInt_inj] at h_655
                  refine v_bipush hC dX12_readPart_108 (v := 8) (by decide) ?_
                  refine v_pick [0, 1] rfl ?_
                  have fe_663 : fld (f a_0) 10 = (v_33 : Int32).toInt := by rw [e_24]; rfl
                  exact jn_156 8 (by decide) (by rw [fe_663] <;> first | omega | (simp only [Int32.lt_iff_toInt_lt, Int32.le_iff_toInt_le, Int32.reduceToInt, ← Int32.toInt_inj, true_and, and_true, or_true, true_or, false_or, or_false, false_and, and_false, not_true_eq_false, not_false_eq_true] <;> omega))
                · simp only [Int32.lt_iff_toInt_lt, Int32.le_iff_toInt_le, Int32.reduceToInt, ← Int32.toInt_inj] at h_655
                  have ip_656 := (iw_b (f a_0) (f (q 4)) 63).2.resolve_left (by omega)
                  have ln_657 : ((bytStr.getD 63 []).length : Int) = 4 := by rfl
                  have fe_658 : fld (f a_0) 8 = (v_29 : Int32).toInt := by rw [e_24]; rfl
                  have fe_659 : fld (f a_0) 9 = (v_31 : Int32).toInt := by rw [e_24]; rfl
                  have fe_660 : fld (f a_0) 10 = (v_33 : Int32).toInt := by rw [e_24]; rfl
                  have fe_661 : fld (f a_0) 12 = (v_36 : Int32).toInt := by rw [e_24]; rfl
                  rw [fe_658, fe_659, fe_660, fe_661] at ip_656
                  have g0_662 := ip_656.1
                  refine v_bipush hC dX12_readPart_103 (v := 7) (by decide) ?_
                  refine v_goto hC dX12_readPart_105 (tgt := 110) (by decide) ?_
                  refine v_pick [0, 1] rfl ?_
                  have fe_664 : fld (f a_0) 10 = (v_33 : Int32).toInt := by rw [e_24]; rfl
                  exact jn_156 7 (by decide) (by rw [fe_664] <;> first | omega | (simp only [Int32.lt_iff_toInt_lt, Int32.le_iff_toInt_le, Int32.reduceToInt, ← Int32.toInt_inj, true_and, and_true, or_true, true_or, false_or, or_false, false_and, and_false, not_true_eq_false, not_false_eq_true] <;> omega))
              · simp only [Int32.lt_iff_toInt_lt, Int32.le_iff_toInt_le, Int32.reduceToInt, ← Int32.toInt_inj] at h_641
                have ip_642 := (iw_b (f a_0) (f (q 4)) 62).2.resolve_left (by omega)
                have ln_643 : ((bytStr.getD 62 []).length : Int) = 4 := by rfl
                have fe_644 : fld (f a_0) 8 = (v_29 : Int32).toInt := by rw [e_24]; rfl
                have fe_645 : fld (f a_0) 9 = (v_31 : Int32).toInt := by rw [e_24]; rfl
                have fe_646 : fld (f a_0) 10 = (v_33 : Int32).toInt := by rw [e_24]; rfl
                have fe_647 : fld (f a_0) 12 = (v_36 : Int32).toInt := by rw [e_24]; rfl
                rw [fe_644, fe_645, fe_646, fe_647] at ip_642
                have g0_648 := ip_642.1
                refine v_bipush hC dX12_readPart_88 (v := 6) (by decide) ?_
                refine v_goto hC dX12_readPart_90 (tgt := 110) (by decide) ?_
                refine v_pick [0, 1] rfl ?_
                have fe_665 : fld (f a_0) 10 = (v_33 : Int32).toInt := by rw [e_24]; rfl
                exact jn_156 6 (by decide) (by rw [fe_665] <;> first | omega | (simp only [Int32.lt_iff_toInt_lt, Int32.le_iff_toInt_le, Int32.reduceToInt, ← Int32.toInt_inj, true_and, and_true, or_true, true_or, false_or, or_false, false_and, and_false, not_true_eq_false, not_false_eq_true] <;> omega))
            · simp only [Int32.lt_iff_toInt_lt, Int32.le_iff_toInt_le, Int32.reduceToInt, ← Int32.toInt_inj] at h_627
              have ip_628 := (iw_b (f a_0) (f (q 4)) 61).2.resolve_left (by omega)
              have ln_629 : ((bytStr.getD 61 []).length : Int) = 5 := by rfl
              have fe_630 : fld (f a_0) 8 = (v_29 : Int32).toInt := by rw [e_24]; rfl
              have fe_631 : fld (f a_0) 9 = (v_31 : Int32).toInt := by rw [e_24]; rfl
              have fe_632 : fld (f a_0) 10 = (v_33 : Int32).toInt := by rw [e_24]; rfl
              have fe_633 : fld (f a_0) 12 = (v_36 : Int32).toInt := by rw [e_24]; rfl
              rw [fe_630, fe_631, fe_632, fe_633] at ip_628
              have g0_634 := ip_628.1
              refine v_iconst hC dX12_readPart_74 (v := 5) (by decide) ?_
              refine v_goto hC dX12_readPart_75 (tgt := 110) (by decide) ?_
              refine v_pick [0, 1] rfl ?_
              have fe_666 : fld (f a_0) 10 = (v_33 : Int32).toInt := by rw [e_24]; rfl
              exact jn_156 5 (by decide) (by rw [fe_666] <;> first | omega | (simp only [Int32.lt_iff_toInt_lt, Int32.le_iff_toInt_le, Int32.reduceToInt, ← Int32.toInt_inj, true_and, and_true, or_true, true_or, false_or, or_false, false_and, and_false, not_true_eq_false, not_false_eq_true] <;> omega))
          · simp only [Int32.lt_iff_toInt_lt, Int32.le_iff_toInt_le, Int32.reduceToInt, ← Int32.toInt_inj] at h_613
            have ip_614 := (iw_b (f a_0) (f (q 4)) 60).2.resolve_left (by omega)
            have ln_615 : ((bytStr.getD 60 []).length : Int) = 4 := by rfl
            have fe_616 : fld (f a_0) 8 = (v_29 : Int32).toInt := by rw [e_24]; rfl
            have fe_617 : fld (f a_0) 9 = (v_31 : Int32).toInt := by rw [e_24]; rfl
            have fe_618 : fld (f a_0) 10 = (v_33 : Int32).toInt := by rw [e_24]; rfl
            have fe_619 : fld (f a_0) 12 = (v_36 : Int32).toInt := by rw [e_24]; rfl
            rw [fe_616, fe_617, fe_618, fe_619] at ip_614
            have g0_620 := ip_614.1
            refine v_iconst hC dX12_readPart_61 (v := 4) (by decide) ?_
            refine v_goto hC dX12_readPart_62 (tgt := 110) (by decide) ?_
            refine v_pick [0, 1] rfl ?_
            have fe_667 : fld (f a_0) 10 = (v_33 : Int32).toInt := by rw [e_24]; rfl
            exact jn_156 4 (by decide) (by rw [fe_667] <;> first | omega | (simp only [Int32.lt_iff_toInt_lt, Int32.le_iff_toInt_le, Int32.reduceToInt, ← Int32.toInt_inj, true_and, and_true, or_true, true_or, false_or, or_false, false_and, and_false, not_true_eq_false, not_false_eq_true] <;> omega))
        · simp only [Int32.lt_iff_toInt_lt, Int32.le_iff_toInt_le, Int32.reduceToInt, ← Int32.toInt_inj] at h_599
          have ip_600 := (iw_b (f a_0) (f (q 4)) 59).2.resolve_left (by omega)
          have ln_601 : ((bytStr.getD 59 []).length : Int) = 4 := by rfl
          have fe_602 : fld (f a_0) 8 = (v_29 : Int32).toInt := by rw [e_24]; rfl
          have fe_603 : fld (f a_0) 9 = (v_31 : Int32).toInt := by rw [e_24]; rfl
          have fe_604 : fld (f a_0) 10 = (v_33 : Int32).toInt := by rw [e_24]; rfl
          have fe_605 : fld (f a_0) 12 = (v_36 : Int32).toInt := by rw [e_24]; rfl
          rw [fe_602, fe_603, fe_604, fe_605] at ip_600
          have g0_606 := ip_600.1
          refine v_iconst hC dX12_readPart_48 (v := 3) (by decide) ?_
          refine v_goto hC dX12_readPart_49 (tgt := 110) (by decide) ?_
          refine v_pick [0, 1] rfl ?_
          have fe_668 : fld (f a_0) 10 = (v_33 : Int32).toInt := by rw [e_24]; rfl
          exact jn_156 3 (by decide) (by rw [fe_668] <;> first | omega | (simp only [Int32.lt_iff_toInt_lt, Int32.le_iff_toInt_le, Int32.reduceToInt, ← Int32.toInt_inj, true_and, and_true, or_true, true_or, false_or, or_false, false_and, and_false, not_true_eq_false, not_false_eq_true] <;> omega))
      · simp only [Int32.lt_iff_toInt_lt, Int32.le_iff_toInt_le, Int32.reduceToInt, ← Int32.toInt_inj] at h_585
        have ip_586 := (iw_b (f a_0) (f (q 4)) 58).2.resolve_left (by omega)
        have ln_587 : ((bytStr.getD 58 []).length : Int) = 5 := by rfl
        have fe_588 : fld (f a_0) 8 = (v_29 : Int32).toInt := by rw [e_24]; rfl
        have fe_589 : fld (f a_0) 9 = (v_31 : Int32).toInt := by rw [e_24]; rfl
        have fe_590 : fld (f a_0) 10 = (v_33 : Int32).toInt := by rw [e_24]; rfl
        have fe_591 : fld (f a_0) 12 = (v_36 : Int32).toInt := by rw [e_24]; rfl
        rw [fe_588, fe_589, fe_590, fe_591] at ip_586
        have g0_592 := ip_586.1
        refine v_iconst hC dX12_readPart_35 (v := 2) (by decide) ?_
        refine v_goto hC dX12_readPart_36 (tgt := 110) (by decide) ?_
        refine v_pick [0, 1] rfl ?_
        have fe_669 : fld (f a_0) 10 = (v_33 : Int32).toInt := by rw [e_24]; rfl
        exact jn_156 2 (by decide) (by rw [fe_669] <;> first | omega | (simp only [Int32.lt_iff_toInt_lt, Int32.le_iff_toInt_le, Int32.reduceToInt, ← Int32.toInt_inj, true_and, and_true, or_true, true_or, false_or, or_false, false_and, and_false, not_true_eq_false, not_false_eq_true] <;> omega))
    · simp only [Int32.lt_iff_toInt_lt, Int32.le_iff_toInt_le, Int32.reduceToInt, ← Int32.toInt_inj] at h_571
      have ip_572 := (iw_b (f a_0) (f (q 4)) 57).2.resolve_left (by omega)
      have ln_573 : ((bytStr.getD 57 []).length : Int) = 5 := by rfl
      have fe_574 : fld (f a_0) 8 = (v_29 : Int32).toInt := by rw [e_24]; rfl
      have fe_575 : fld (f a_0) 9 = (v_31 : Int32).toInt := by rw [e_24]; rfl
      have fe_576 : fld (f a_0) 10 = (v_33 : Int32).toInt := by rw [e_24]; rfl
      have fe_577 : fld (f a_0) 12 = (v_36 : Int32).toInt := by rw [e_24]; rfl
      rw [fe_574, fe_575, fe_576, fe_577] at ip_572
      have g0_578 := ip_572.1
      refine v_iconst hC dX12_readPart_22 (v := 1) (by decide) ?_
      refine v_goto hC dX12_readPart_23 (tgt := 110) (by decide) ?_
      refine v_pick [0, 1] rfl ?_
      have fe_670 : fld (f a_0) 10 = (v_33 : Int32).toInt := by rw [e_24]; rfl
      exact jn_156 1 (by decide) (by rw [fe_670] <;> first | omega | (simp only [Int32.lt_iff_toInt_lt, Int32.le_iff_toInt_le, Int32.reduceToInt, ← Int32.toInt_inj, true_and, and_true, or_true, true_or, false_or, or_false, false_and, and_false, not_true_eq_false, not_false_eq_true] <;> omega))
  · simp only [Int32.lt_iff_toInt_lt, Int32.le_iff_toInt_le, Int32.reduceToInt, ← Int32.toInt_inj] at h_50
    have ip_51 := (iw_b (f a_0) (f (q 4)) 56).2.resolve_left (by omega)
    have ln_52 : ((bytStr.getD 56 []).length : Int) = 5 := by rfl
    have fe_53 : fld (f a_0) 8 = (v_29 : Int32).toInt := by rw [e_24]; rfl
    have fe_54 : fld (f a_0) 9 = (v_31 : Int32).toInt := by rw [e_24]; rfl
    have fe_55 : fld (f a_0) 10 = (v_33 : Int32).toInt := by rw [e_24]; rfl
    have fe_56 : fld (f a_0) 12 = (v_36 : Int32).toInt := by rw [e_24]; rfl
    rw [fe_53, fe_54, fe_55, fe_56] at ip_51
    have g0_57 := ip_51.1
    refine v_iconst hC dX12_readPart_9 (v := 0) (by decide) ?_
    refine v_goto hC dX12_readPart_10 (tgt := 110) (by decide) ?_
    refine v_pick [0, 1] rfl ?_
    have fe_671 : fld (f a_0) 10 = (v_33 : Int32).toInt := by rw [e_24]; rfl
    exact jn_156 0 (by decide) (by rw [fe_671] <;> first | omega | (simp only [Int32.lt_iff_toInt_lt, Int32.le_iff_toInt_le, Int32.reduceToInt, ← Int32.toInt_inj, true_and, and_true, or_true, true_or, false_or, or_false, false_and, and_false, not_true_eq_false, not_false_eq_true] <;> omega))
