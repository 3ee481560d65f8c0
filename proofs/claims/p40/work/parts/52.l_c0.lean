set_option maxRecDepth 100000 in
set_option maxHeartbeats 4000000 in
theorem lc_0 {z : Cz} {E : Ez} {b x m N : Nat} {xs : Nat → Int32} (hC : Cx z E cL_law RL 4 14 600000 7302250) (hX : va_X b N xs (zs z) (zs z).heap) (hbl : b < (zs z).heap.size) (hbA : ¬ zA z b) (hN : N ≤ 3072) {i : Int32} {c s : Nat} (hi : 0 ≤ i.toInt ∧ i.toInt + 6 ≤ (N : Int)) (hc : c + 27 ≤ 600000) (hs : s + 1953 ≤ 7302250) (hT : ∀ (Lx Lm : List Nat) (f : Nat → va_E), LX E x Lx f → LM E m Lm f → RLn f x m → V z E 4 (c + 27) (s + 1953) (Lx ++ Lm) f 1468 [(3, .int i), (2, .ref m), (1, .ref x), (0, .ref b)] []) {Lx Lm : List Nat} {f : Nat → va_E} (hLX : LX E x Lx f) (hLM : LM E m Lm f) (hRL : RLn f x m) : V z E 4 c s (Lx ++ Lm) f 208 [(3, .int i), (2, .ref m), (1, .ref x), (0, .ref b)] [] := by
  refine v_aload_n hC dL_law_208 rfl ?_
  refine v_aload_n hC dL_law_209 rfl ?_
  refine v_iload_n hC dL_law_210 rfl ?_
  refine v_iconst hC dL_law_211 (v := 1) (by decide) ?_
  obtain ⟨v_1, h_2⟩ : ∃ v9 : Int32, i + 1 = v9 := ⟨_, rfl⟩
  refine v_iadd hC dL_law_212 h_2 ?_
  have h_3 := add_v h_2 (by first | omega | (simp only [Int32.lt_iff_toInt_lt, Int32.le_iff_toInt_le, Int32.reduceToInt, ← Int32.toInt_inj, true_and, and_true, or_true, true_or, false_or, or_false, false_and, and_false, not_true_eq_false, not_false_eq_true] <;> omega)) (by first | omega | (simp only [Int32.lt_iff_toInt_lt, Int32.le_iff_toInt_le, Int32.reduceToInt, ← Int32.toInt_inj, true_and, and_true, or_true, true_or, false_or, or_false, false_and, and_false, not_true_eq_false, not_false_eq_true] <;> omega))
  try simp only [Int32.reduceToInt] at h_3
  obtain ⟨v_4, h_5⟩ : ∃ v9 : Int32, xs (v_1 : Int32).toNatClampNeg = v9 := ⟨_, rfl⟩
  refine v_sld hC hX hbl hbA (vp_in_iff.mpr (by omega)) h_5 dL_law_213 ?_
  refine v_aload_n hC dL_law_214 rfl ?_
  refine v_iload_n hC dL_law_215 rfl ?_
  refine v_iconst hC dL_law_216 (v := 2) (by decide) ?_
  obtain ⟨v_6, h_7⟩ : ∃ v9 : Int32, i + 2 = v9 := ⟨_, rfl⟩
  refine v_iadd hC dL_law_217 h_7 ?_
  have h_8 := add_v h_7 (by first | omega | (simp only [Int32.lt_iff_toInt_lt, Int32.le_iff_toInt_le, Int32.reduceToInt, ← Int32.toInt_inj, true_and, and_true, or_true, true_or, false_or, or_false, false_and, and_false, not_true_eq_false, not_false_eq_true] <;> omega)) (by first | omega | (simp only [Int32.lt_iff_toInt_lt, Int32.le_iff_toInt_le, Int32.reduceToInt, ← Int32.toInt_inj, true_and, and_true, or_true, true_or, false_or, or_false, false_and, and_false, not_true_eq_false, not_false_eq_true] <;> omega))
  try simp only [Int32.reduceToInt] at h_8
  obtain ⟨v_9, h_10⟩ : ∃ v9 : Int32, xs (v_6 : Int32).toNatClampNeg = v9 := ⟨_, rfl⟩
  refine v_sld hC hX hbl hbA (vp_in_iff.mpr (by omega)) h_10 dL_law_218 ?_
  refine v_aload_n hC dL_law_219 rfl ?_
  refine v_iload_n hC dL_law_220 rfl ?_
  refine v_iconst hC dL_law_221 (v := 3) (by decide) ?_
  obtain ⟨v_11, h_12⟩ : ∃ v9 : Int32, i + 3 = v9 := ⟨_, rfl⟩
  refine v_iadd hC dL_law_222 h_12 ?_
  have h_13 := add_v h_12 (by first | omega | (simp only [Int32.lt_iff_toInt_lt, Int32.le_iff_toInt_le, Int32.reduceToInt, ← Int32.toInt_inj, true_and, and_true, or_true, true_or, false_or, or_false, false_and, and_false, not_true_eq_false, not_false_eq_true] <;> omega)) (by first | omega | (simp only [Int32.lt_iff_toInt_lt, Int32.le_iff_toInt_le, Int32.reduceToInt, ← Int32.toInt_inj, true_and, and_true, or_true, true_or, false_or, or_false, false_and, and_false, not_true_eq_false, not_false_eq_true] <;> omega))
  try simp only [Int32.reduceToInt] at h_13
  obtain ⟨v_14, h_15⟩ : ∃ v9 : Int32, xs (v_11 : Int32).toNatClampNeg = v9 := ⟨_, rfl⟩
  refine v_sld hC hX hbl hbA (vp_in_iff.mpr (by omega)) h_15 dL_law_223 ?_
  refine v_aload_n hC dL_law_224 rfl ?_
  refine v_iload_n hC dL_law_225 rfl ?_
  refine v_iconst hC dL_law_226 (v := 4) (by decide) ?_
  obtain ⟨v_16, h_17⟩ : ∃ v9 : Int32, i + 4 = v9 := ⟨_, rfl⟩
  refine v_iadd hC dL_law_227 h_17 ?_
  have h_18 := add_v h_17 (by first | omega | (simp only [Int32.lt_iff_toInt_lt, Int32.le_iff_toInt_le, Int32.reduceToInt, ← Int32.toInt_inj, true_and, and_true, or_true, true_or, false_or, or_false, false_and, and_false, not_true_eq_false, not_false_eq_true] <;> omega)) (by first | omega | (simp only [Int32.lt_iff_toInt_lt, Int32.le_iff_toInt_le, Int32.reduceToInt, ← Int32.toInt_inj, true_and, and_true, or_true, true_or, false_or, or_false, false_and, and_false, not_true_eq_false, not_false_eq_true] <;> omega))
  try simp only [Int32.reduceToInt] at h_18
  obtain ⟨v_19, h_20⟩ : ∃ v9 : Int32, xs (v_16 : Int32).toNatClampNeg = v9 := ⟨_, rfl⟩
  refine v_sld hC hX hbl hbA (vp_in_iff.mpr (by omega)) h_20 dL_law_228 ?_
  refine v_aload_n hC dL_law_229 rfl ?_
  refine v_iload_n hC dL_law_230 rfl ?_
  refine v_iconst hC dL_law_231 (v := 5) (by decide) ?_
  obtain ⟨v_21, h_22⟩ : ∃ v9 : Int32, i + 5 = v9 := ⟨_, rfl⟩
  refine v_iadd hC dL_law_232 h_22 ?_
  have h_23 := add_v h_22 (by first | omega | (simp only [Int32.lt_iff_toInt_lt, Int32.le_iff_toInt_le, Int32.reduceToInt, ← Int32.toInt_inj, true_and, and_true, or_true, true_or, false_or, or_false, false_and, and_false, not_true_eq_false, not_false_eq_true] <;> omega)) (by first | omega | (simp only [Int32.lt_iff_toInt_lt, Int32.le_iff_toInt_le, Int32.reduceToInt, ← Int32.toInt_inj, true_and, and_true, or_true, true_or, false_or, or_false, false_and, and_false, not_true_eq_false, not_false_eq_true] <;> omega))
  try simp only [Int32.reduceToInt] at h_23
  obtain ⟨v_24, h_25⟩ : ∃ v9 : Int32, xs (v_21 : Int32).toNatClampNeg = v9 := ⟨_, rfl⟩
  refine v_sld hC hX hbl hbA (vp_in_iff.mpr (by omega)) h_25 dL_law_233 ?_
  refine v_swap ?_
  obtain ⟨T_33, hW_34, k_35⟩ := hLX
  obtain ⟨m_37, q_40, q_41, q_42, q_43, q_44, q_45, q_46, q_47, q_48, q_49, q_50, q_51, q_52, q_53, t_38, -, -, -, -, -, -, -, -, -, -, -, -, -, -⟩ := id k_35
  have e_39 := hW_34.at m_37 t_38
  refine v_viR hC (rest := []) m_37 e_39 rfl mi_X11_feed ms_X11_feed (p_X11_feed hW_34 k_35) mx_X11_feed ml_L_13 (by decide) rfl (cells1 := c) (slots1 := s) rfl rfl (by omega) (by omega) rfl (Nat.le_of_ble_eq_true rfl) dL_law_234 (fun r_26 L_27 f_28 f_29 h_30 g_31 g_32 => ?_)
  have e_57 := h_30.2.1
  have hl_56 := h_30.1
  subst hl_56
  have lx_54 : LX E x _ f_29 := ⟨T_33, e_57.cg g_32, k_35⟩
  have lm_55 := hLM.cg g_31
  obtain ⟨T_60, q_61, hW_62, k_63⟩ := id hLM
  have sm_59 : MSAME f f_29 m := zm_cg hW_62 k_63 g_31
  have sx_58 : SAME f f_29 x := zs_T hW_34 e_57 k_35 h_30.2.2.1 rfl g_32
  have rl_64 := RLn.step hRL sx_58 sm_59
  refine v_swap ?_
  refine v_pop hC dL_law_237 rfl ?_
  refine v_aload_n hC dL_law_238 rfl ?_
  refine v_aload_n hC dL_law_239 rfl ?_
  refine v_iload_n hC dL_law_240 rfl ?_
  refine v_iconst hC dL_law_241 (v := 1) (by decide) ?_
  refine v_iadd hC dL_law_242 h_2 ?_
  refine v_sld hC hX hbl hbA (vp_in_iff.mpr (by omega)) h_5 dL_law_243 ?_
  refine v_aload_n hC dL_law_244 rfl ?_
  refine v_iload_n hC dL_law_245 rfl ?_
  refine v_iconst hC dL_law_246 (v := 2) (by decide) ?_
  refine v_iadd hC dL_law_247 h_7 ?_
  refine v_sld hC hX hbl hbA (vp_in_iff.mpr (by omega)) h_10 dL_law_248 ?_
  refine v_aload_n hC dL_law_249 rfl ?_
  refine v_iload_n hC dL_law_250 rfl ?_
  refine v_iconst hC dL_law_251 (v := 3) (by decide) ?_
  refine v_iadd hC dL_law_252 h_12 ?_
  refine v_sld hC hX hbl hbA (vp_in_iff.mpr (by omega)) h_15 dL_law_253 ?_
  refine v_aload_n hC dL_law_254 rfl ?_
  refine v_iload_n hC dL_law_255 rfl ?_
  refine v_iconst hC dL_law_256 (v := 4) (by decide) ?_
  refine v_iadd hC dL_law_257 h_17 ?_
  refine v_sld hC hX hbl hbA (vp_in_iff.mpr (by omega)) h_20 dL_law_258 ?_
  refine v_aload_n hC dL_law_259 rfl ?_
  refine v_iload_n hC dL_law_260 rfl ?_
  refine v_iconst hC dL_law_261 (v := 5) (by decide) ?_
  refine v_iadd hC dL_law_262 h_22 ?_
  refine v_sld hC hX hbl hbA (vp_in_iff.mpr (by omega)) h_25 dL_law_263 ?_
  obtain ⟨T_72, q_75, hW_73, k_74⟩ := lm_55
  obtain ⟨m_76, t_77, -, k1_k_74, -, -, -, -, k14_k_74, -⟩ := id k_74
  obtain ⟨v_79, v_80, v_81, v_82, v_83, v_84, v_85, v_86, v_87, v_88, v_89, e_78, -, -, -, -, -, -, -⟩ := hW_73.at m_76 t_77
  obtain ⟨g_90, e_91, o_92⟩ := hW_73.at k1_k_74.1 k1_k_74.2
  refine v_viR hC (rest := []) m_76 e_78 rfl mi_X12_feed ms_X12_feed (p_X12_feed hW_73 k_74 e_91 o_92) mx_X12_feed ml_L_17 (by decide) rfl (cells1 := c) (slots1 := s) rfl rfl (by omega) (by omega) rfl (Nat.le_of_ble_eq_true rfl) dL_law_264 (fun r_65 L_66 f_67 f_68 h_69 g_70 g_71 => ?_)
  have e_96 := h_69.2.1
  have hl_95 := h_69.1
  subst hl_95
  have lx_93 : LM E m _ f_68 := ⟨T_72, q_75, e_96.cg g_71, k_74⟩
  have lm_94 := lx_54.cg g_70
  obtain ⟨T_99, hW_100, k_101⟩ := id lx_54
  have sx_97 : SAME f_29 f_68 x := zs_cg hW_100 k_101 g_70
  have sm_98 : MSAME f_29 f_68 m := zm_T hW_73 e_96 k_74 h_69.2.2.1 rfl g_71
  have rl_102 := RLn.step rl_64 sx_97 sm_98
  refine v_pop hC dL_law_267 rfl ?_
  refine v_goto hC dL_law_268 (tgt := 1468) (by decide) ?_
  refine v_widen (k := c + 27) (n := s + 1953) (by omega) (by omega) ?_
  exact hT _ _ _ lm_94 lx_93 rl_102
set_option maxRecDepth 100000 in
set_option maxHeartbeats 4000000 in
theorem lc_1 {z : Cz} {E : Ez} {b x m N : Nat} {xs : Nat → Int32} (hC : Cx z E cL_law RL 4 14 600000 7302250) (hX : va_X b N xs (zs z) (zs z).heap) (hbl : b < (zs z).heap.size) (hbA : ¬ zA z b) (hN : N ≤ 3072) {i : Int32} {c s : Nat} (hi : 0 ≤ i.toInt ∧ i.toInt + 6 ≤ (N : Int)) (hc : c + 27 ≤ 600000) (hs : s + 1953 ≤ 7302250) (hT : ∀ (Lx Lm : List Nat) (f : Nat → va_E), LX E x Lx f → LM E m Lm f → RLn f x m → V z E 4 (c + 27) (s + 1953) (Lx ++ Lm) f 1468 [(3, .int i), (2, .ref m), (1, .ref x), (0, .ref b)] []) {Lx Lm : List Nat} {f : Nat → va_E} (hLX : LX E x Lx f) (hLM : LM E m Lm f) (hRL : RLn f x m) : V z E 4 c s (Lx ++ Lm) f 271 [(3, .int i), (2, .ref m), (1, .ref x), (0, .ref b)] [] := by
  refine v_aload_n hC dL_law_271 rfl ?_
  refine v_aload_n hC dL_law_272 rfl ?_
  refine v_iload_n hC dL_law_273 rfl ?_
  refine v_iconst hC dL_law_274 (v := 1) (by decide) ?_
  obtain ⟨v_1, h_2⟩ : ∃ v9 : Int32, i + 1 = v9 := ⟨_, rfl⟩
  refine v_iadd hC dL_law_275 h_2 ?_
  have h_3 := add_v h_2 (by first | omega | (simp only [Int32.lt_iff_toInt_lt, Int32.le_iff_toInt_le, Int32.reduceToInt, ← Int32.toInt_inj, true_and, and_true, or_true, true_or, false_or, or_false, false_and, and_false, not_true_eq_false, not_false_eq_true] <;> omega)) (by first | omega | (simp only [Int32.lt_iff_toInt_lt, Int32.le_iff_toInt_le, Int32.reduceToInt, ← Int32.toInt_inj, true_and, and_true, or_true, true_or, false_or, or_false, false_and, and_false, not_true_eq_false, not_false_eq_true] <;> omega))
  try simp only [Int32.reduceToInt] at h_3
  obtain ⟨v_4, h_5⟩ : ∃ v9 : Int32, xs (v_1 : Int32).toNatClampNeg = v9 := ⟨_, rfl⟩
  refine v_sld hC hX hbl hbA (vp_in_iff.mpr (by omega)) h_5 dL_law_276 ?_
  refine v_swap ?_
  obtain ⟨T_13, hW_14, k_15⟩ := hLX
  obtain ⟨m_17, q_20, q_21, q_22, q_23, q_24, q_25, q_26, q_27, q_28, q_29, q_30, q_31, q_32, q_33, t_18, -, -, -, -, -, -, -, -, -, -, -, -, -, -⟩ := id k_15
  have e_19 := hW_14.at m_17 t_18
  refine v_viR hC (rest := []) m_17 e_19 rfl mi_X11_end ms_X11_end (p_X11_end hW_14 k_15) mx_X11_end ml_L_18 (by decide) rfl (cells1 := c) (slots1 := s) rfl rfl (by omega) (by omega) rfl (Nat.le_of_ble_eq_true rfl) dL_law_277 (fun r_6 L_7 f_8 f_9 h_10 g_11 g_12 => ?_)
  have e_37 := h_10.2.1
  have hl_36 := h_10.1
  subst hl_36
  have lx_34 : LX E x _ f_9 := ⟨T_13, e_37.cg g_12, k_15⟩
  have lm_35 := hLM.cg g_11
  obtain ⟨T_40, q_41, hW_42, k_43⟩ := id hLM
  have sm_39 : MSAME f f_9 m := zm_cg hW_42 k_43 g_11
  have sx_38 : SAME f f_9 x := zs_T hW_14 e_37 k_15 h_10.2.2.1 rfl g_12
  have rl_44 := RLn.step hRL sx_38 sm_39
  refine v_swap ?_
  refine v_pop hC dL_law_280 rfl ?_
  refine v_aload_n hC dL_law_281 rfl ?_
  refine v_aload_n hC dL_law_282 rfl ?_
  refine v_iload_n hC dL_law_283 rfl ?_
  refine v_iconst hC dL_law_284 (v := 1) (by decide) ?_
  refine v_iadd hC dL_law_285 h_2 ?_
  refine v_sld hC hX hbl hbA (vp_in_iff.mpr (by omega)) h_5 dL_law_286 ?_
  obtain ⟨T_52, q_55, hW_53, k_54⟩ := lm_35
  obtain ⟨m_56, t_57, -, k1_k_54, -, -, -, -, k14_k_54, -⟩ := id k_54
  obtain ⟨v_59, v_60, v_61, v_62, v_63, v_64, v_65, v_66, v_67, v_68, v_69, e_58, -, -, -, -, -, -, -⟩ := hW_53.at m_56 t_57
  obtain ⟨g_70, e_71, o_72⟩ := hW_53.at k1_k_54.1 k1_k_54.2
  refine v_viR hC (rest := []) m_56 e_58 rfl mi_X12_end ms_X12_end (p_X12_end hW_53 k_54 e_71 o_72) mx_X12_end ml_L_22 (by decide) rfl (cells1 := c) (slots1 := s) rfl rfl (by omega) (by omega) rfl (Nat.le_of_ble_eq_true rfl) dL_law_287 (fun r_45 L_46 f_47 f_48 h_49 g_50 g_51 => ?_)
  have e_76 := h_49.2.1
  have hl_75 := h_49.1
  subst hl_75
  have lx_73 : LM E m _ f_48 := ⟨T_52, q_55, e_76.cg g_51, k_54⟩
  have lm_74 := lx_34.cg g_50
  obtain ⟨T_79, hW_80, k_81⟩ := id lx_34
  have sx_77 : SAME f_9 f_48 x := zs_cg hW_80 k_81 g_50
  have sm_78 : MSAME f_9 f_48 m := zm_T hW_53 e_76 k_54 h_49.2.2.1 rfl g_51
  have rl_82 := RLn.step rl_44 sx_77 sm_78
  refine v_pop hC dL_law_290 rfl ?_
  refine v_goto hC dL_law_291 (tgt := 1468) (by decide) ?_
  refine v_widen (k := c + 27) (n := s + 1953) (by omega) (by omega) ?_
  exact hT _ _ _ lm_74 lx_73 rl_82
set_option maxRecDepth 100000 in
set_option maxHeartbeats 4000000 in
theorem lc_2 {z : Cz} {E : Ez} {b x m N : Nat} {xs : Nat → Int32} (hC : Cx z E cL_law RL 4 14 600000 7302250) (hX : va_X b N xs (zs z) (zs z).heap) (hbl : b < (zs z).heap.size) (hbA : ¬ zA z b) (hN : N ≤ 3072) {i : Int32} {c s : Nat} (hi : 0 ≤ i.toInt ∧ i.toInt + 6 ≤ (N : Int)) (hc : c + 27 ≤ 600000) (hs : s + 1953 ≤ 7302250) (hT : ∀ (Lx Lm : List Nat) (f : Nat → va_E), LX E x Lx f → LM E m Lm f → RLn f x m → V z E 4 (c + 27) (s + 1953) (Lx ++ Lm) f 1468 [(3, .int i), (2, .ref m), (1, .ref x), (0, .ref b)] []) {Lx Lm : List Nat} {f : Nat → va_E} (hLX : LX E x Lx f) (hLM : LM E m Lm f) (hRL : RLn f x m) : V z E 4 c s (Lx ++ Lm) f 294 [(3, .int i), (2, .ref m), (1, .ref x), (0, .ref b)] [] := by
  refine v_aload_n hC dL_law_294 rfl ?_
  refine v_swap ?_
  obtain ⟨T_8, hW_9, k_10⟩ := hLX
  obtain ⟨m_12, q_15, q_16, q_17, q_18, q_19, q_20, q_21, q_22, q_23, q_24, q_25, q_26, q_27, q_28, t_13, -, -, -, -, -, -, -, -, -, -, -, -, -, -⟩ := id k_10
  have e_14 := hW_9.at m_12 t_13
  refine v_viR hC (rest := []) m_12 e_14 rfl mi_X11_pattern ms_X11_pattern (p_X11_pattern hW_9 k_10) mx_X11_pattern ml_L_23 (by decide) rfl (cells1 := c) (slots1 := s) rfl rfl (by omega) (by omega) rfl (Nat.le_of_ble_eq_true rfl) dL_law_295 (fun r_1 L_2 f_3 f_4 h_5 g_6 g_7 => ?_)
  have e_32 := h_5.2.1
  have hl_31 := h_5.1
  subst hl_31
  have lx_29 : LX E x _ f_4 := ⟨T_8, e_32.cg g_7, k_10⟩
  have lm_30 := hLM.cg g_6
  obtain ⟨T_35, q_36, hW_37, k_38⟩ := id hLM
  have sm_34 : MSAME f f_4 m := zm_cg hW_37 k_38 g_6
  have sx_33 : SAME f f_4 x := zs_T hW_9 e_32 k_10 h_5.2.2.1 rfl g_7
  have rl_39 := RLn.step hRL sx_33 sm_34
  refine v_swap ?_
  refine v_pop hC dL_law_298 rfl ?_
  refine v_aload_n hC dL_law_299 rfl ?_
  obtain ⟨T_47, q_50, hW_48, k_49⟩ := lm_30
  obtain ⟨m_51, t_52, -, k1_k_49, -, -, -, -, k14_k_49, -⟩ := id k_49
  obtain ⟨v_54, v_55, v_56, v_57, v_58, v_59, v_60, v_61, v_62, v_63, v_64, e_53, -, -, -, -, -, -, -⟩ := hW_48.at m_51 t_52
  refine v_viR hC (rest := []) m_51 e_53 rfl mi_X12_pattern ms_X12_pattern (p_X12_pattern hW_48 k_49) mx_X12_pattern ml_L_27 (by decide) rfl (cells1 := c) (slots1 := s) rfl rfl (by omega) (by omega) rfl (Nat.le_of_ble_eq_true rfl) dL_law_300 (fun r_40 L_41 f_42 f_43 h_44 g_45 g_46 => ?_)
  have e_68 := h_44.2.1
  have hl_67 := h_44.1
  subst hl_67
  have lx_65 : LM E m _ f_43 := ⟨T_47, q_50, e_68.cg g_46, k_49⟩
  have lm_66 := lx_29.cg g_45
  obtain ⟨T_71, hW_72, k_73⟩ := id lx_29
  have sx_69 : SAME f_4 f_43 x := zs_cg hW_72 k_73 g_45
  have sm_70 : MSAME f_4 f_43 m := zm_T hW_48 e_68 k_49 h_44.2.2 rfl g_46
  have rl_74 := RLn.step rl_39 sx_69 sm_70
  refine v_pop hC dL_law_303 rfl ?_
  refine v_goto hC dL_law_304 (tgt := 1468) (by decide) ?_
  refine v_widen (k := c + 27) (n := s + 1953) (by omega) (by omega) ?_
  exact hT _ _ _ lm_66 lx_65 rl_74
set_option maxRecDepth 100000 in
set_option maxHeartbeats 4000000 in
theorem lc_3 {z : Cz} {E : Ez} {b x m N : Nat} {xs : Nat → Int32} (hC : Cx z E cL_law RL 4 14 600000 7302250) (hX : va_X b N xs (zs z) (zs z).heap) (hbl : b < (zs z).heap.size) (hbA : ¬ zA z b) (hN : N ≤ 3072) {i : Int32} {c s : Nat} (hi : 0 ≤ i.toInt ∧ i.toInt + 6 ≤ (N : Int)) (hc : c + 27 ≤ 600000) (hs : s + 1953 ≤ 7302250) (hT : ∀ (Lx Lm : List Nat) (f : Nat → va_E), LX E x Lx f → LM E m Lm f → RLn f x m → V z E 4 (c + 27) (s + 1953) (Lx ++ Lm) f 1468 [(3, .int i), (2, .ref m), (1, .ref x), (0, .ref b)] []) {Lx Lm : List Nat} {f : Nat → va_E} (hLX : LX E x Lx f) (hLM : LM E m Lm f) (hRL : RLn f x m) : V z E 4 c s (Lx ++ Lm) f 307 [(3, .int i), (2, .ref m), (1, .ref x), (0, .ref b)] [] := by
  refine v_aload_n hC dL_law_307 rfl ?_
  refine v_swap ?_
  obtain ⟨T_8, hW_9, k_10⟩ := hLX
  obtain ⟨m_12, q_15, q_16, q_17, q_18, q_19, q_20, q_21, q_22, q_23, q_24, q_25, q_26, q_27, q_28, t_13, -, -, -, -, -, -, -, -, -, -, -, -, -, -⟩ := id k_10
  have e_14 := hW_9.at m_12 t_13
  refine v_viR hC (rest := []) m_12 e_14 rfl mi_X11_hand ms_X11_hand (p_X11_hand hW_9 k_10) mx_X11_hand ml_L_28 (by decide) rfl (cells1 := c) (slots1 := s) rfl rfl (by omega) (by omega) rfl (Nat.le_of_ble_eq_true rfl) dL_law_308 (fun r_1 L_2 f_3 f_4 h_5 g_6 g_7 => ?_)
  have e_32 := h_5.2.1
  have hl_31 := h_5.1
  subst hl_31
  have lx_29 : LX E x _ f_4 := ⟨T_8, e_32.cg g_7, k_10⟩
  have lm_30 := hLM.cg g_6
  obtain ⟨T_35, q_36, hW_37, k_38⟩ := id hLM
  have sm_34 : MSAME f f_4 m := zm_cg hW_37 k_38 g_6
  have sx_33 : SAME f f_4 x := zs_T hW_9 e_32 k_10 h_5.2.2.1 rfl g_7
  have rl_39 := RLn.step hRL sx_33 sm_34
  refine v_swap ?_
  refine v_pop hC dL_law_311 rfl ?_
  refine v_aload_n hC dL_law_312 rfl ?_
  obtain ⟨T_47, q_50, hW_48, k_49⟩ := lm_30
  obtain ⟨m_51, t_52, -, k1_k_49, -, -, -, -, k14_k_49, -⟩ := id k_49
  obtain ⟨v_54, v_55, v_56, v_57, v_58, v_59, v_60, v_61, v_62, v_63, v_64, e_53, -, -, -, -, -, -, -⟩ := hW_48.at m_51 t_52
  refine v_viR hC (rest := []) m_51 e_53 rfl mi_X12_hand ms_X12_hand (p_X12_hand hW_48 k_49) mx_X12_hand ml_L_31 (by decide) rfl (cells1 := c) (slots1 := s) rfl rfl (by omega) (by omega) rfl (Nat.le_of_ble_eq_true rfl) dL_law_313 (fun r_40 L_41 f_42 f_43 h_44 g_45 g_46 => ?_)
  have e_68 := h_44.2.1
  have hl_67 := h_44.1
  subst hl_67
  have lx_65 : LM E m _ f_43 := ⟨T_47, q_50, e_68.cg g_46, k_49⟩
  have lm_66 := lx_29.cg g_45
  obtain ⟨T_71, hW_72, k_73⟩ := id lx_29
  have sx_69 : SAME f_4 f_43 x := zs_cg hW_72 k_73 g_45
  have sm_70 : MSAME f_4 f_43 m := zm_T hW_48 e_68 k_49 h_44.2.2.1 rfl g_46
  have rl_74 := RLn.step rl_39 sx_69 sm_70
  refine v_pop hC dL_law_316 rfl ?_
  refine v_goto hC dL_law_317 (tgt := 1468) (by decide) ?_
  refine v_widen (k := c + 27) (n := s + 1953) (by omega) (by omega) ?_
  exact hT _ _ _ lm_66 lx_65 rl_74
set_option maxRecDepth 100000 in
set_option maxHeartbeats 4000000 in
theorem lc_4 {z : Cz} {E : Ez} {b x m N : Nat} {xs : Nat → Int32} (hC : Cx z E cL_law RL 4 14 600000 7302250) (hX : va_X b N xs (zs z) (zs z).heap) (hbl : b < (zs z).heap.size) (hbA : ¬ zA z b) (hN : N ≤ 3072) {i : Int32} {c s : Nat} (hi : 0 ≤ i.toInt ∧ i.toInt + 6 ≤ (N : Int)) (hc : c + 27 ≤ 600000) (hs : s + 1953 ≤ 7302250) (hT : ∀ (Lx Lm : List Nat) (f : Nat → va_E), LX E x Lx f → LM E m Lm f → RLn f x m → V z E 4 (c + 27) (s + 1953) (Lx ++ Lm) f 1468 [(3, .int i), (2, .ref m), (1, .ref x), (0, .ref b)] []) {Lx Lm : List Nat} {f : Nat → va_E} (hLX : LX E x Lx f) (hLM : LM E m Lm f) (hRL : RLn f x m) : V z E 4 c s (Lx ++ Lm) f 320 [(3, .int i), (2, .ref m), (1, .ref x), (0, .ref b)] [] := by
  refine v_aload_n hC dL_law_320 rfl ?_
  refine v_aload_n hC dL_law_321 rfl ?_
  refine v_iload_n hC dL_law_322 rfl ?_
  refine v_iconst hC dL_law_323 (v := 1) (by decide) ?_
  obtain ⟨v_1, h_2⟩ : ∃ v9 : Int32, i + 1 = v9 := ⟨_, rfl⟩
  refine v_iadd hC dL_law_324 h_2 ?_
  have h_3 := add_v h_2 (by first | omega | (simp only [Int32.lt_iff_toInt_lt, Int32.le_iff_toInt_le, Int32.reduceToInt, ← Int32.toInt_inj, true_and, and_true, or_true, true_or, false_or, or_false, false_and, and_false, not_true_eq_false, not_false_eq_true] <;> omega)) (by first | omega | (simp only [Int32.lt_iff_toInt_lt, Int32.le_iff_toInt_le, Int32.reduceToInt, ← Int32.toInt_inj, true_and, and_true, or_true, true_or, false_or, or_false, false_and, and_false, not_true_eq_false, not_false_eq_true] <;> omega))
  try simp only [Int32.reduceToInt] at h_3
  obtain ⟨v_4, h_5⟩ : ∃ v9 : Int32, xs (v_1 : Int32).toNatClampNeg = v9 := ⟨_, rfl⟩
  refine v_sld hC hX hbl hbA (vp_in_iff.mpr (by omega)) h_5 dL_law_325 ?_
  refine v_swap ?_
  obtain ⟨T_13, hW_14, k_15⟩ := hLX
  obtain ⟨m_17, q_20, q_21, q_22, q_23, q_24, q_25, q_26, q_27, q_28, q_29, q_30, q_31, q_32, q_33, t_18, -, -, -, -, -, -, -, -, -, -, -, -, -, -⟩ := id k_15
  have e_19 := hW_14.at m_17 t_18
  refine v_viR hC (rest := []) m_17 e_19 rfl mi_X11_way ms_X11_way (p_X11_way hW_14 k_15) mx_X11_way ml_L_32 (by decide) rfl (cells1 := c) (slots1 := s) rfl rfl (by omega) (by omega) rfl (Nat.le_of_ble_eq_true rfl) dL_law_326 (fun r_6 L_7 f_8 f_9 h_10 g_11 g_12 => ?_)
  have e_37 := h_10.2.1
  have hl_36 := h_10.1
  subst hl_36
  have lx_34 : LX E x _ f_9 := ⟨T_13, e_37.cg g_12, k_15⟩
  have lm_35 := hLM.cg g_11
  obtain ⟨T_40, q_41, hW_42, k_43⟩ := id hLM
  have sm_39 : MSAME f f_9 m := zm_cg hW_42 k_43 g_11
  have sx_38 : SAME f f_9 x := zs_T hW_14 e_37 k_15 h_10.2.2.1 rfl g_12
  have rl_44 := RLn.step hRL sx_38 sm_39
  refine v_swap ?_
  refine v_pop hC dL_law_329 rfl ?_
  refine v_aload_n hC dL_law_330 rfl ?_
  refine v_aload_n hC dL_law_331 rfl ?_
  refine v_iload_n hC dL_law_332 rfl ?_
  refine v_iconst hC dL_law_333 (v := 1) (by decide) ?_
  refine v_iadd hC dL_law_334 h_2 ?_
  refine v_sld hC hX hbl hbA (vp_in_iff.mpr (by omega)) h_5 dL_law_335 ?_
  obtain ⟨T_52, q_55, hW_53, k_54⟩ := lm_35
  obtain ⟨m_56, t_57, -, k1_k_54, -, -, -, -, k14_k_54, -⟩ := id k_54
  obtain ⟨v_59, v_60, v_61, v_62, v_63, v_64, v_65, v_66, v_67, v_68, v_69, e_58, -, -, -, -, -, -, -⟩ := hW_53.at m_56 t_57
  refine v_viR hC (rest := []) m_56 e_58 rfl mi_X12_way ms_X12_way (p_X12_way hW_53 k_54) mx_X12_way ml_L_35 (by decide) rfl (cells1 := c) (slots1 := s) rfl rfl (by omega) (by omega) rfl (Nat.le_of_ble_eq_true rfl) dL_law_336 (fun r_45 L_46 f_47 f_48 h_49 g_50 g_51 => ?_)
  have e_73 := h_49.2.1
  have hl_72 := h_49.1
  subst hl_72
  have lx_70 : LM E m _ f_48 := ⟨T_52, q_55, e_73.cg g_51, k_54⟩
  have lm_71 := lx_34.cg g_50
  obtain ⟨T_76, hW_77, k_78⟩ := id lx_34
  have sx_74 : SAME f_9 f_48 x := zs_cg hW_77 k_78 g_50
  have sm_75 : MSAME f_9 f_48 m := zm_T hW_53 e_73 k_54 h_49.2.2.1 rfl g_51
  have rl_79 := RLn.step rl_44 sx_74 sm_75
  refine v_pop hC dL_law_339 rfl ?_
  refine v_goto hC dL_law_340 (tgt := 1468) (by decide) ?_
  refine v_widen (k := c + 27) (n := s + 1953) (by omega) (by omega) ?_
  exact hT _ _ _ lm_71 lx_70 rl_79
set_option maxRecDepth 100000 in
set_option maxHeartbeats 4000000 in
theorem lc_5 {z : Cz} {E : Ez} {b x m N : Nat} {xs : Nat → Int32} (hC : Cx z E cL_law RL 4 14 600000 7302250) (hX : va_X b N xs (zs z) (zs z).heap) (hbl : b < (zs z).heap.size) (hbA : ¬ zA z b) (hN : N ≤ 3072) {i : Int32} {c s : Nat} (hi : 0 ≤ i.toInt ∧ i.toInt + 6 ≤ (N : Int)) (hc : c + 27 ≤ 600000) (hs : s + 1953 ≤ 7302250) (hT : ∀ (Lx Lm : List Nat) (f : Nat → va_E), LX E x Lx f → LM E m Lm f → RLn f x m → V z E 4 (c + 27) (s + 1953) (Lx ++ Lm) f 1468 [(3, .int i), (2, .ref m), (1, .ref x), (0, .ref b)] []) {Lx Lm : List Nat} {f : Nat → va_E} (hLX : LX E x Lx f) (hLM : LM E m Lm f) (hRL : RLn f x m) : V z E 4 c s (Lx ++ Lm) f 343 [(3, .int i), (2, .ref m), (1, .ref x), (0, .ref b)] [] := by
  refine v_aload_n hC dL_law_343 rfl ?_
  refine v_swap ?_
  obtain ⟨T_8, hW_9, k_10⟩ := hLX
  obtain ⟨m_12, q_15, q_16, q_17, q_18, q_19, q_20, q_21, q_22, q_23, q_24, q_25, q_26, q_27, q_28, t_13, -, -, -, -, -, -, -, -, -, -, -, -, -, -⟩ := id k_10
  have e_14 := hW_9.at m_12 t_13
  refine v_viR hC (rest := []) m_12 e_14 rfl mi_X11_watcher ms_X11_watcher (p_X11_watcher hW_9 k_10) mx_X11_watcher ml_L_36 (by decide) rfl (cells1 := c) (slots1 := s) rfl rfl (by omega) (by omega) rfl (Nat.le_of_ble_eq_true rfl) dL_law_344 (fun r_1 L_2 f_3 f_4 h_5 g_6 g_7 => ?_)
  have e_32 := h_5.2.1
  have hl_31 := h_5.1
  subst hl_31
  have lx_29 : LX E x _ f_4 := ⟨T_8, e_32.cg g_7, k_10⟩
  have lm_30 := hLM.cg g_6
  obtain ⟨T_35, q_36, hW_37, k_38⟩ := id hLM
  have sm_34 : MSAME f f_4 m := zm_cg hW_37 k_38 g_6
  have sx_33 : SAME f f_4 x := zs_T hW_9 e_32 k_10 h_5.2.2 rfl g_7
  have rl_39 := RLn.step hRL sx_33 sm_34
  refine v_swap ?_
  refine v_pop hC dL_law_347 rfl ?_
  refine v_aload_n hC dL_law_348 rfl ?_
  obtain ⟨T_47, q_50, hW_48, k_49⟩ := lm_30
  obtain ⟨m_51, t_52, -, k1_k_49, -, -, -, -, k14_k_49, -⟩ := id k_49
  obtain ⟨v_54, v_55, v_56, v_57, v_58, v_59, v_60, v_61, v_62, v_63, v_64, e_53, -, -, -, -, -, -, -⟩ := hW_48.at m_51 t_52
  refine v_viR hC (rest := []) m_51 e_53 rfl mi_X12_watcher ms_X12_watcher (p_X12_watcher hW_48 k_49) mx_X12_watcher ml_L_39 (by decide) rfl (cells1 := c) (slots1 := s) rfl rfl (by omega) (by omega) rfl (Nat.le_of_ble_eq_true rfl) dL_law_349 (fun r_40 L_41 f_42 f_43 h_44 g_45 g_46 => ?_)
  have e_68 := h_44.2.1
  have hl_67 := h_44.1
  subst hl_67
  have lx_65 : LM E m _ f_43 := ⟨T_47, q_50, e_68.cg g_46, k_49⟩
  have lm_66 := lx_29.cg g_45
  obtain ⟨T_71, hW_72, k_73⟩ := id lx_29
  have sx_69 : SAME f_4 f_43 x := zs_cg hW_72 k_73 g_45
  have sm_70 : MSAME f_4 f_43 m := zm_T hW_48 e_68 k_49 h_44.2.2 rfl g_46
  have rl_74 := RLn.step rl_39 sx_69 sm_70
  refine v_pop hC dL_law_352 rfl ?_
  refine v_goto hC dL_law_353 (tgt := 1468) (by decide) ?_
  refine v_widen (k := c + 27) (n := s + 1953) (by omega) (by omega) ?_
  exact hT _ _ _ lm_66 lx_65 rl_74
set_option maxRecDepth 100000 in
set_option maxHeartbeats 4000000 in
theorem lc_6 {z : Cz} {E : Ez} {b x m N : Nat} {xs : Nat → Int32} (hC : Cx z E cL_law RL 4 14 600000 7302250) (hX : va_X b N xs (zs z) (zs z).heap) (hbl : b < (zs z).heap.size) (hbA : ¬ zA z b) (hN : N ≤ 3072) {i : Int32} {c s : Nat} (hi : 0 ≤ i.toInt ∧ i.toInt + 6 ≤ (N : Int)) (hc : c + 27 ≤ 600000) (hs : s + 1953 ≤ 7302250) (hT : ∀ (Lx Lm : List Nat) (f : Nat → va_E), LX E x Lx f → LM E m Lm f → RLn f x m → V z E 4 (c + 27) (s + 1953) (Lx ++ Lm) f 1468 [(3, .int i), (2, .ref m), (1, .ref x), (0, .ref b)] []) {Lx Lm : List Nat} {f : Nat → va_E} (hLX : LX E x Lx f) (hLM : LM E m Lm f) (hRL : RLn f x m) : V z E 4 c s (Lx ++ Lm) f 356 [(3, .int i), (2, .ref m), (1, .ref x), (0, .ref b)] [] := by
  refine v_aload_n hC dL_law_356 rfl ?_
  refine v_swap ?_
  obtain ⟨T_8, hW_9, k_10⟩ := hLX
  obtain ⟨m_12, q_15, q_16, q_17, q_18, q_19, q_20, q_21, q_22, q_23, q_24, q_25, q_26, q_27, q_28, t_13, -, -, -, -, -, -, -, -, -, -, -, -, -, -⟩ := id k_10
  have e_14 := hW_9.at m_12 t_13
  refine v_viR hC (rest := []) m_12 e_14 rfl mi_X11_losses ms_X11_losses (p_X11_losses hW_9 k_10) mx_X11_losses ml_L_40 (by decide) rfl (cells1 := c) (slots1 := s) rfl rfl (by omega) (by omega) rfl (Nat.le_of_ble_eq_true rfl) dL_law_357 (fun r_1 L_2 f_3 f_4 h_5 g_6 g_7 => ?_)
  have e_32 := h_5.2.1
  have hl_31 := h_5.1
  subst hl_31
  have lx_29 : LX E x _ f_4 := ⟨T_8, e_32.cg g_7, k_10⟩
  have lm_30 := hLM.cg g_6
  obtain ⟨T_35, q_36, hW_37, k_38⟩ := id hLM
  have sm_34 : MSAME f f_4 m := zm_cg hW_37 k_38 g_6
  have sx_33 : SAME f f_4 x := zs_T hW_9 e_32 k_10 h_5.2.2.1 rfl g_7
  have rl_39 := RLn.step hRL sx_33 sm_34
  refine v_swap ?_
  refine v_pop hC dL_law_360 rfl ?_
  refine v_aload_n hC dL_law_361 rfl ?_
  obtain ⟨T_47, q_50, hW_48, k_49⟩ := lm_30
  obtain ⟨m_51, t_52, -, k1_k_49, -, -, -, -, k14_k_49, -⟩ := id k_49
  obtain ⟨v_54, v_55, v_56, v_57, v_58, v_59, v_60, v_61, v_62, v_63, v_64, e_53, -, -, -, -, -, -, -⟩ := hW_48.at m_51 t_52
  refine v_viR hC (rest := []) m_51 e_53 rfl mi_X12_losses ms_X12_losses (p_X12_losses hW_48 k_49) mx_X12_losses ml_L_43 (by decide) rfl (cells1 := c) (slots1 := s) rfl rfl (by omega) (by omega) rfl (Nat.le_of_ble_eq_true rfl) dL_law_362 (fun r_40 L_41 f_42 f_43 h_44 g_45 g_46 => ?_)
  have e_68 := h_44.2.1
  have hl_67 := h_44.1
  subst hl_67
  have lx_65 : LM E m _ f_43 := ⟨T_47, q_50, e_68.cg g_46, k_49⟩
  have lm_66 := lx_29.cg g_45
  obtain ⟨T_71, hW_72, k_73⟩ := id lx_29
  have sx_69 : SAME f_4 f_43 x := zs_cg hW_72 k_73 g_45
  have sm_70 : MSAME f_4 f_43 m := zm_T hW_48 e_68 k_49 h_44.2.2 rfl g_46
  have rl_74 := RLn.step rl_39 sx_69 sm_70
  refine v_pop hC dL_law_365 rfl ?_
  refine v_goto hC dL_law_366 (tgt := 1468) (by decide) ?_
  refine v_widen (k := c + 27) (n := s + 1953) (by omega) (by omega) ?_
  exact hT _ _ _ lm_66 lx_65 rl_74
set_option maxRecDepth 100000 in
set_option maxHeartbeats 4000000 in
theorem lc_7 {z : Cz} {E : Ez} {b x m N : Nat} {xs : Nat → Int32} (hC : Cx z E cL_law RL 4 14 600000 7302250) (hX : va_X b N xs (zs z) (zs z).heap) (hbl : b < (zs z).heap.size) (hbA : ¬ zA z b) (hN : N ≤ 3072) {i : Int32} {c s : Nat} (hi : 0 ≤ i.toInt ∧ i.toInt + 6 ≤ (N : Int)) (hc : c + 27 ≤ 600000) (hs : s + 1953 ≤ 7302250) (hT : ∀ (Lx Lm : List Nat) (f : Nat → va_E), LX E x Lx f → LM E m Lm f → RLn f x m → V z E 4 (c + 27) (s + 1953) (Lx ++ Lm) f 1468 [(3, .int i), (2, .ref m), (1, .ref x), (0, .ref b)] []) {Lx Lm : List Nat} {f : Nat → va_E} (hLX : LX E x Lx f) (hLM : LM E m Lm f) (hRL : RLn f x m) : V z E 4 c s (Lx ++ Lm) f 369 [(3, .int i), (2, .ref m), (1, .ref x), (0, .ref b)] [] := by
  refine v_aload_n hC dL_law_369 rfl ?_
  refine v_aload_n hC dL_law_370 rfl ?_
  refine v_iload_n hC dL_law_371 rfl ?_
  refine v_iconst hC dL_law_372 (v := 1) (by decide) ?_
  obtain ⟨v_1, h_2⟩ : ∃ v9 : Int32, i + 1 = v9 := ⟨_, rfl⟩
  refine v_iadd hC dL_law_373 h_2 ?_
  have h_3 := add_v h_2 (by first | omega | (simp only [Int32.lt_iff_toInt_lt, Int32.le_iff_toInt_le, Int32.reduceToInt, ← Int32.toInt_inj, true_and, and_true, or_true, true_or, false_or, or_false, false_and, and_false, not_true_eq_false, not_false_eq_true] <;> omega)) (by first | omega | (simp only [Int32.lt_iff_toInt_lt, Int32.le_iff_toInt_le, Int32.reduceToInt, ← Int32.toInt_inj, true_and, and_true, or_true, true_or, false_or, or_false, false_and, and_false, not_true_eq_false, not_false_eq_true] <;> omega))
  try simp only [Int32.reduceToInt] at h_3
  obtain ⟨v_4, h_5⟩ : ∃ v9 : Int32, xs (v_1 : Int32).toNatClampNeg = v9 := ⟨_, rfl⟩
  refine v_sld hC hX hbl hbA (vp_in_iff.mpr (by omega)) h_5 dL_law_374 ?_
  refine v_swap ?_
  obtain ⟨T_13, hW_14, k_15⟩ := hLX
  obtain ⟨m_17, q_20, q_21, q_22, q_23, q_24, q_25, q_26, q_27, q_28, q_29, q_30, q_31, q_32, q_33, t_18, -, -, -, -, -, -, -, -, -, -, -, -, -, -⟩ := id k_15
  have e_19 := hW_14.at m_17 t_18
  refine v_viR hC (rest := []) m_17 e_19 rfl mi_X11_fault ms_X11_fault (p_X11_fault hW_14 k_15) mx_X11_fault ml_L_44 (by decide) rfl (cells1 := c) (slots1 := s) rfl rfl (by omega) (by omega) rfl (Nat.le_of_ble_eq_true rfl) dL_law_375 (fun r_6 L_7 f_8 f_9 h_10 g_11 g_12 => ?_)
  have e_37 := h_10.2.1
  have hl_36 := h_10.1
  subst hl_36
  have lx_34 : LX E x _ f_9 := ⟨T_13, (hW_14.cg (fun a9 h9 => (g_12 a9 h9).trans (congrFun e_37.symm a9))), k_15⟩
  have lm_35 := hLM.cg g_11
  obtain ⟨T_40, q_41, hW_42, k_43⟩ := id hLM
  have sm_39 : MSAME f f_9 m := zm_cg hW_42 k_43 g_11
  have sx_38 : SAME f f_9 x := zs_cg hW_14 k_15 (fun a9 h9 => (g_12 a9 h9).trans (congrFun e_37.symm a9))
  have rl_44 := RLn.step hRL sx_38 sm_39
  refine v_swap ?_
  refine v_pop hC dL_law_378 rfl ?_
  refine v_aload_n hC dL_law_379 rfl ?_
  refine v_aload_n hC dL_law_380 rfl ?_
  refine v_iload_n hC dL_law_381 rfl ?_
  refine v_iconst hC dL_law_382 (v := 1) (by decide) ?_
  refine v_iadd hC dL_law_383 h_2 ?_
  refine v_sld hC hX hbl hbA (vp_in_iff.mpr (by omega)) h_5 dL_law_384 ?_
  obtain ⟨T_52, q_55, hW_53, k_54⟩ := lm_35
  obtain ⟨m_56, t_57, -, k1_k_54, -, -, -, -, k14_k_54, -⟩ := id k_54
  obtain ⟨v_59, v_60, v_61, v_62, v_63, v_64, v_65, v_66, v_67, v_68, v_69, e_58, -, -, -, -, -, -, -⟩ := hW_53.at m_56 t_57
  obtain ⟨g_70, e_71, o_72⟩ := hW_53.at k1_k_54.1 k1_k_54.2
  refine v_viR hC (rest := []) m_56 e_58 rfl mi_X12_fault ms_X12_fault (p_X12_fault hW_53 k_54 e_71 o_72) mx_X12_fault ml_L_47 (by decide) rfl (cells1 := c) (slots1 := s) rfl rfl (by omega) (by omega) rfl (Nat.le_of_ble_eq_true rfl) dL_law_385 (fun r_45 L_46 f_47 f_48 h_49 g_50 g_51 => ?_)
  have e_76 := h_49.2.1
  have hl_75 := h_49.1
  subst hl_75
  have lx_73 : LM E m _ f_48 := ⟨T_52, q_55, (hW_53.cg (fun a9 h9 => (g_51 a9 h9).trans (congrFun e_76.symm a9))), k_54⟩
  have lm_74 := lx_34.cg g_50
  obtain ⟨T_79, hW_80, k_81⟩ := id lx_34
  have sx_77 : SAME f_9 f_48 x := zs_cg hW_80 k_81 g_50
  have sm_78 : MSAME f_9 f_48 m := zm_cg hW_53 k_54 (fun a9 h9 => (g_51 a9 h9).trans (congrFun e_76.symm a9))
  have rl_82 := RLn.step rl_44 sx_77 sm_78
  refine v_pop hC dL_law_388 rfl ?_
  refine v_goto hC dL_law_389 (tgt := 1468) (by decide) ?_
  refine v_widen (k := c + 27) (n := s + 1953) (by omega) (by omega) ?_
  exact hT _ _ _ lm_74 lx_73 rl_82
set_option maxRecDepth 100000 in
set_option maxHeartbeats 4000000 in
theorem lc_8 {z : Cz} {E : Ez} {b x m N : Nat} {xs : Nat → Int32} (hC : Cx z E cL_law RL 4 14 600000 7302250) (hX : va_X b N xs (zs z) (zs z).heap) (hbl : b < (zs z).heap.size) (hbA : ¬ zA z b) (hN : N ≤ 3072) {i : Int32} {c s : Nat} (hi : 0 ≤ i.toInt ∧ i.toInt + 6 ≤ (N : Int)) (hc : c + 27 ≤ 600000) (hs : s + 1953 ≤ 7302250) (hT : ∀ (Lx Lm : List Nat) (f : Nat → va_E), LX E x Lx f → LM E m Lm f → RLn f x m → V z E 4 (c + 27) (s + 1953) (Lx ++ Lm) f 1468 [(3, .int i), (2, .ref m), (1, .ref x), (0, .ref b)] []) {Lx Lm : List Nat} {f : Nat → va_E} (hLX : LX E x Lx f) (hLM : LM E m Lm f) (hRL : RLn f x m) : V z E 4 c s (Lx ++ Lm) f 392 [(3, .int i), (2, .ref m), (1, .ref x), (0, .ref b)] [] := by
  refine v_aload_n hC dL_law_392 rfl ?_
  refine v_aload_n hC dL_law_393 rfl ?_
  refine v_iload_n hC dL_law_394 rfl ?_
  refine v_iconst hC dL_law_395 (v := 1) (by decide) ?_
  obtain ⟨v_1, h_2⟩ : ∃ v9 : Int32, i + 1 = v9 := ⟨_, rfl⟩
  refine v_iadd hC dL_law_396 h_2 ?_
  have h_3 := add_v h_2 (by first | omega | (simp only [Int32.lt_iff_toInt_lt, Int32.le_iff_toInt_le, Int32.reduceToInt, ← Int32.toInt_inj, true_and, and_true, or_true, true_or, false_or, or_false, false_and, and_false, not_true_eq_false, not_false_eq_true] <;> omega)) (by first | omega | (simp only [Int32.lt_iff_toInt_lt, Int32.le_iff_toInt_le, Int32.reduceToInt, ← Int32.toInt_inj, true_and, and_true, or_true, true_or, false_or, or_false, false_and, and_false, not_true_eq_false, not_false_eq_true] <;> omega))
  try simp only [Int32.reduceToInt] at h_3
  obtain ⟨v_4, h_5⟩ : ∃ v9 : Int32, xs (v_1 : Int32).toNatClampNeg = v9 := ⟨_, rfl⟩
  refine v_sld hC hX hbl hbA (vp_in_iff.mpr (by omega)) h_5 dL_law_397 ?_
  refine v_aload_n hC dL_law_398 rfl ?_
  refine v_iload_n hC dL_law_399 rfl ?_
  refine v_iconst hC dL_law_400 (v := 2) (by decide) ?_
  obtain ⟨v_6, h_7⟩ : ∃ v9 : Int32, i + 2 = v9 := ⟨_, rfl⟩
  refine v_iadd hC dL_law_401 h_7 ?_
  have h_8 := add_v h_7 (by first | omega | (simp only [Int32.lt_iff_toInt_lt, Int32.le_iff_toInt_le, Int32.reduceToInt, ← Int32.toInt_inj, true_and, and_true, or_true, true_or, false_or, or_false, false_and, and_false, not_true_eq_false, not_false_eq_true] <;> omega)) (by first | omega | (simp only [Int32.lt_iff_toInt_lt, Int32.le_iff_toInt_le, Int32.reduceToInt, ← Int32.toInt_inj, true_and, and_true, or_true, true_or, false_or, or_false, false_and, and_false, not_true_eq_false, not_false_eq_true] <;> omega))
  try simp only [Int32.reduceToInt] at h_8
  obtain ⟨v_9, h_10⟩ : ∃ v9 : Int32, xs (v_6 : Int32).toNatClampNeg = v9 := ⟨_, rfl⟩
  refine v_sld hC hX hbl hbA (vp_in_iff.mpr (by omega)) h_10 dL_law_402 ?_
  refine v_swap ?_
  obtain ⟨T_18, hW_19, k_20⟩ := hLX
  obtain ⟨m_22, q_25, q_26, q_27, q_28, q_29, q_30, q_31, q_32, q_33, q_34, q_35, q_36, q_37, q_38, t_23, -, -, -, -, -, -, -, -, -, -, -, -, -, -⟩ := id k_20
  have e_24 := hW_19.at m_22 t_23
  refine v_viR hC (rest := []) m_22 e_24 rfl mi_X11_knit ms_X11_knit (p_X11_knit hW_19 k_20) mx_X11_knit ml_L_48 (by decide) rfl (cells1 := c) (slots1 := s) rfl rfl (by omega) (by omega) rfl (Nat.le_of_ble_eq_true rfl) dL_law_403 (fun r_11 L_12 f_13 f_14 h_15 g_16 g_17 => ?_)
  have e_42 := h_15.2.1
  have hl_41 := h_15.1
  subst hl_41
  have lx_39 : LX E x _ f_14 := ⟨T_18, e_42.cg g_17, k_20⟩
  have lm_40 := hLM.cg g_16
  obtain ⟨T_45, q_46, hW_47, k_48⟩ := id hLM
  have sm_44 : MSAME f f_14 m := zm_cg hW_47 k_48 g_16
  have sx_43 : SAME f f_14 x := zs_T hW_19 e_42 k_20 h_15.2.2.1 rfl g_17
  have rl_49 := RLn.step hRL sx_43 sm_44
  refine v_swap ?_
  refine v_pop hC dL_law_406 rfl ?_
  refine v_aload_n hC dL_law_407 rfl ?_
  refine v_aload_n hC dL_law_408 rfl ?_
  refine v_iload_n hC dL_law_409 rfl ?_
  refine v_iconst hC dL_law_410 (v := 1) (by decide) ?_
  refine v_iadd hC dL_law_411 h_2 ?_
  refine v_sld hC hX hbl hbA (vp_in_iff.mpr (by omega)) h_5 dL_law_412 ?_
  refine v_aload_n hC dL_law_413 rfl ?_
  refine v_iload_n hC dL_law_414 rfl ?_
  refine v_iconst hC dL_law_415 (v := 2) (by decide) ?_
  refine v_iadd hC dL_law_416 h_7 ?_
  refine v_sld hC hX hbl hbA (vp_in_iff.mpr (by omega)) h_10 dL_law_417 ?_
  obtain ⟨T_57, q_60, hW_58, k_59⟩ := lm_40
  obtain ⟨m_61, t_62, -, k1_k_59, -, -, -, -, k14_k_59, -⟩ := id k_59
  obtain ⟨v_64, v_65, v_66, v_67, v_68, v_69, v_70, v_71, v_72, v_73, v_74, e_63, -, -, -, -, -, -, -⟩ := hW_58.at m_61 t_62
  obtain ⟨g_75, e_76, o_77⟩ := hW_58.at k1_k_59.1 k1_k_59.2
  refine v_viR hC (rest := []) m_61 e_63 rfl mi_X12_knit ms_X12_knit (p_X12_knit hW_58 k_59 e_76 o_77) mx_X12_knit ml_L_52 (by decide) rfl (cells1 := c) (slots1 := s) rfl rfl (by omega) (by omega) rfl (Nat.le_of_ble_eq_true rfl) dL_law_418 (fun r_50 L_51 f_52 f_53 h_54 g_55 g_56 => ?_)
  have e_81 := h_54.2.1
  have hl_80 := h_54.1
  subst hl_80
  have lx_78 : LM E m _ f_53 := ⟨T_57, q_60, e_81.cg g_56, k_59⟩
  have lm_79 := lx_39.cg g_55
  obtain ⟨T_84, hW_85, k_86⟩ := id lx_39
  have sx_82 : SAME f_14 f_53 x := zs_cg hW_85 k_86 g_55
  have sm_83 : MSAME f_14 f_53 m := zm_T hW_58 e_81 k_59 h_54.2.2.1 rfl g_56
  have rl_87 := RLn.step rl_49 sx_82 sm_83
  refine v_pop hC dL_law_421 rfl ?_
  refine v_goto hC dL_law_422 (tgt := 1468) (by decide) ?_
  refine v_widen (k := c + 27) (n := s + 1953) (by omega) (by omega) ?_
  exact hT _ _ _ lm_79 lx_78 rl_87
set_option maxRecDepth 100000 in
set_option maxHeartbeats 4000000 in
theorem lc_9 {z : Cz} {E : Ez} {b x m N : Nat} {xs : Nat → Int32} (hC : Cx z E cL_law RL 4 14 600000 7302250) (hX : va_X b N xs (zs z) (zs z).heap) (hbl : b < (zs z).heap.size) (hbA : ¬ zA z b) (hN : N ≤ 3072) {i : Int32} {c s : Nat} (hi : 0 ≤ i.toInt ∧ i.toInt + 6 ≤ (N : Int)) (hc : c + 27 ≤ 600000) (hs : s + 1953 ≤ 7302250) (hT : ∀ (Lx Lm : List Nat) (f : Nat → va_E), LX E x Lx f → LM E m Lm f → RLn f x m → V z E 4 (c + 27) (s + 1953) (Lx ++ Lm) f 1468 [(3, .int i), (2, .ref m), (1, .ref x), (0, .ref b)] []) {Lx Lm : List Nat} {f : Nat → va_E} (hLX : LX E x Lx f) (hLM : LM E m Lm f) (hRL : RLn f x m) : V z E 4 c s (Lx ++ Lm) f 425 [(3, .int i), (2, .ref m), (1, .ref x), (0, .ref b)] [] := by
  refine v_aload_n hC dL_law_425 rfl ?_
  refine v_aload_n hC dL_law_426 rfl ?_
  refine v_iload_n hC dL_law_427 rfl ?_
  refine v_iconst hC dL_law_428 (v := 1) (by decide) ?_
  obtain ⟨v_1, h_2⟩ : ∃ v9 : Int32, i + 1 = v9 := ⟨_, rfl⟩
  refine v_iadd hC dL_law_429 h_2 ?_
  have h_3 := add_v h_2 (by first | omega | (simp only [Int32.lt_iff_toInt_lt, Int32.le_iff_toInt_le, Int32.reduceToInt, ← Int32.toInt_inj, true_and, and_true, or_true, true_or, false_or, or_false, false_and, and_false, not_true_eq_false, not_false_eq_true] <;> omega)) (by first | omega | (simp only [Int32.lt_iff_toInt_lt, Int32.le_iff_toInt_le, Int32.reduceToInt, ← Int32.toInt_inj, true_and, and_true, or_true, true_or, false_or, or_false, false_and, and_false, not_true_eq_false, not_false_eq_true] <;> omega))
  try simp only [Int32.reduceToInt] at h_3
  obtain ⟨v_4, h_5⟩ : ∃ v9 : Int32, xs (v_1 : Int32).toNatClampNeg = v9 := ⟨_, rfl⟩
  refine v_sld hC hX hbl hbA (vp_in_iff.mpr (by omega)) h_5 dL_law_430 ?_
  refine v_aload_n hC dL_law_431 rfl ?_
  refine v_iload_n hC dL_law_432 rfl ?_
  refine v_iconst hC dL_law_433 (v := 2) (by decide) ?_
  obtain ⟨v_6, h_7⟩ : ∃ v9 : Int32, i + 2 = v9 := ⟨_, rfl⟩
  refine v_iadd hC dL_law_434 h_7 ?_
  have h_8 := add_v h_7 (by first | omega | (simp only [Int32.lt_iff_toInt_lt, Int32.le_iff_toInt_le, Int32.reduceToInt, ← Int32.toInt_inj, true_and, and_true, or_true, true_or, false_or, or_false, false_and, and_false, not_true_eq_false, not_false_eq_true] <;> omega)) (by first | omega | (simp only [Int32.lt_iff_toInt_lt, Int32.le_iff_toInt_le, Int32.reduceToInt, ← Int32.toInt_inj, true_and, and_true, or_true, true_or, false_or, or_false, false_and, and_false, not_true_eq_false, not_false_eq_true] <;> omega))
  try simp only [Int32.reduceToInt] at h_8
  obtain ⟨v_9, h_10⟩ : ∃ v9 : Int32, xs (v_6 : Int32).toNatClampNeg = v9 := ⟨_, rfl⟩
  refine v_sld hC hX hbl hbA (vp_in_iff.mpr (by omega)) h_10 dL_law_435 ?_
  refine v_swap ?_
  obtain ⟨T_18, hW_19, k_20⟩ := hLX
  obtain ⟨m_22, q_25, q_26, q_27, q_28, q_29, q_30, q_31, q_32, q_33, q_34, q_35, q_36, q_37, q_38, t_23, -, -, -, -, -, -, -, -, -, -, -, -, -, -⟩ := id k_20
  have e_24 := hW_19.at m_22 t_23
  refine v_viR hC (rest := []) m_22 e_24 rfl mi_X11_put ms_X11_put (p_X11_put hW_19 k_20) mx_X11_put ml_L_53 (by decide) rfl (cells1 := c) (slots1 := s) rfl rfl (by omega) (by omega) rfl (Nat.le_of_ble_eq_true rfl) dL_law_436 (fun r_11 L_12 f_13 f_14 h_15 g_16 g_17 => ?_)
  have e_42 := h_15.2.1
  have hl_41 := h_15.1
  subst hl_41
  have lx_39 : LX E x _ f_14 := ⟨T_18, e_42.cg g_17, k_20⟩
  have lm_40 := hLM.cg g_16
  obtain ⟨T_45, q_46, hW_47, k_48⟩ := id hLM
  have sm_44 : MSAME f f_14 m := zm_cg hW_47 k_48 g_16
  have sx_43 : SAME f f_14 x := zs_T hW_19 e_42 k_20 h_15.2.2.1 rfl g_17
  have rl_49 := RLn.step hRL sx_43 sm_44
  refine v_swap ?_
  refine v_pop hC dL_law_439 rfl ?_
  refine v_aload_n hC dL_law_440 rfl ?_
  refine v_aload_n hC dL_law_441 rfl ?_
  refine v_iload_n hC dL_law_442 rfl ?_
  refine v_iconst hC dL_law_443 (v := 1) (by decide) ?_
  refine v_iadd hC dL_law_444 h_2 ?_
  refine v_sld hC hX hbl hbA (vp_in_iff.mpr (by omega)) h_5 dL_law_445 ?_
  refine v_aload_n hC dL_law_446 rfl ?_
  refine v_iload_n hC dL_law_447 rfl ?_
  refine v_iconst hC dL_law_448 (v := 2) (by decide) ?_
  refine v_iadd hC dL_law_449 h_7 ?_
  refine v_sld hC hX hbl hbA (vp_in_iff.mpr (by omega)) h_10 dL_law_450 ?_
  obtain ⟨T_57, q_60, hW_58, k_59⟩ := lm_40
  obtain ⟨m_61, t_62, -, k1_k_59, -, -, -, -, k14_k_59, -⟩ := id k_59
  obtain ⟨v_64, v_65, v_66, v_67, v_68, v_69, v_70, v_71, v_72, v_73, v_74, e_63, -, -, -, -, -, -, -⟩ := hW_58.at m_61 t_62
  obtain ⟨g_75, e_76, o_77⟩ := hW_58.at k1_k_59.1 k1_k_59.2
  refine v_viR hC (rest := []) m_61 e_63 rfl mi_X12_put ms_X12_put (p_X12_put hW_58 k_59 e_76 o_77) mx_X12_put ml_L_56 (by decide) rfl (cells1 := c) (slots1 := s) rfl rfl (by omega) (by omega) rfl (Nat.le_of_ble_eq_true rfl) dL_law_451 (fun r_50 L_51 f_52 f_53 h_54 g_55 g_56 => ?_)
  have e_81 := h_54.2.1
  have hl_80 := h_54.1
  subst hl_80
  have lx_78 : LM E m _ f_53 := ⟨T_57, q_60, e_81.cg g_56, k_59⟩
  have lm_79 := lx_39.cg g_55
  obtain ⟨T_84, hW_85, k_86⟩ := id lx_39
  have sx_82 : SAME f_14 f_53 x := zs_cg hW_85 k_86 g_55
  have sm_83 : MSAME f_14 f_53 m := zm_T hW_58 e_81 k_59 h_54.2.2.1 rfl g_56
  have rl_87 := RLn.step rl_49 sx_82 sm_83
  refine v_pop hC dL_law_454 rfl ?_
  refine v_goto hC dL_law_455 (tgt := 1468) (by decide) ?_
  refine v_widen (k := c + 27) (n := s + 1953) (by omega) (by omega) ?_
  exact hT _ _ _ lm_79 lx_78 rl_87
set_option maxRecDepth 100000 in
set_option maxHeartbeats 4000000 in
theorem lc_10 {z : Cz} {E : Ez} {b x m N : Nat} {xs : Nat → Int32} (hC : Cx z E cL_law RL 4 14 600000 7302250) (hX : va_X b N xs (zs z) (zs z).heap) (hbl : b < (zs z).heap.size) (hbA : ¬ zA z b) (hN : N ≤ 3072) {i : Int32} {c s : Nat} (hi : 0 ≤ i.toInt ∧ i.toInt + 6 ≤ (N : Int)) (hc : c + 27 ≤ 600000) (hs : s + 1953 ≤ 7302250) (hT : ∀ (Lx Lm : List Nat) (f : Nat → va_E), LX E x Lx f → LM E m Lm f → RLn f x m → V z E 4 (c + 27) (s + 1953) (Lx ++ Lm) f 1468 [(3, .int i), (2, .ref m), (1, .ref x), (0, .ref b)] []) {Lx Lm : List Nat} {f : Nat → va_E} (hLX : LX E x Lx f) (hLM : LM E m Lm f) (hRL : RLn f x m) : V z E 4 c s (Lx ++ Lm) f 458 [(3, .int i), (2, .ref m), (1, .ref x), (0, .ref b)] [] := by
  refine v_aload_n hC dL_law_458 rfl ?_
  refine v_aload_n hC dL_law_459 rfl ?_
  refine v_iload_n hC dL_law_460 rfl ?_
  refine v_iconst hC dL_law_461 (v := 1) (by decide) ?_
  obtain ⟨v_1, h_2⟩ : ∃ v9 : Int32, i + 1 = v9 := ⟨_, rfl⟩
  refine v_iadd hC dL_law_462 h_2 ?_
  have h_3 := add_v h_2 (by first | omega | (simp only [Int32.lt_iff_toInt_lt, Int32.le_iff_toInt_le, Int32.reduceToInt, ← Int32.toInt_inj, true_and, and_true, or_true, true_or, false_or, or_false, false_and, and_false, not_true_eq_false, not_false_eq_true] <;> omega)) (by first | omega | (simp only [Int32.lt_iff_toInt_lt, Int32.le_iff_toInt_le, Int32.reduceToInt, ← Int32.toInt_inj, true_and, and_true, or_true, true_or, false_or, or_false, false_and, and_false, not_true_eq_false, not_false_eq_true] <;> omega))
  try simp only [Int32.reduceToInt] at h_3
  obtain ⟨v_4, h_5⟩ : ∃ v9 : Int32, xs (v_1 : Int32).toNatClampNeg = v9 := ⟨_, rfl⟩
  refine v_sld hC hX hbl hbA (vp_in_iff.mpr (by omega)) h_5 dL_law_463 ?_
  refine v_aload_n hC dL_law_464 rfl ?_
  refine v_iload_n hC dL_law_465 rfl ?_
  refine v_iconst hC dL_law_466 (v := 2) (by decide) ?_
  obtain ⟨v_6, h_7⟩ : ∃ v9 : Int32, i + 2 = v9 := ⟨_, rfl⟩
  refine v_iadd hC dL_law_467 h_7 ?_
  have h_8 := add_v h_7 (by first | omega | (simp only [Int32.lt_iff_toInt_lt, Int32.le_iff_toInt_le, Int32.reduceToInt, ← Int32.toInt_inj, true_and, and_true, or_true, true_or, false_or, or_false, false_and, and_false, not_true_eq_false, not_false_eq_true] <;> omega)) (by first | omega | (simp only [Int32.lt_iff_toInt_lt, Int32.le_iff_toInt_le, Int32.reduceToInt, ← Int32.toInt_inj, true_and, and_true, or_true, true_or, false_or, or_false, false_and, and_false, not_true_eq_false, not_false_eq_true] <;> omega))
  try simp only [Int32.reduceToInt] at h_8
  obtain ⟨v_9, h_10⟩ : ∃ v9 : Int32, xs (v_6 : Int32).toNatClampNeg = v9 := ⟨_, rfl⟩
  refine v_sld hC hX hbl hbA (vp_in_iff.mpr (by omega)) h_10 dL_law_468 ?_
  refine v_swap ?_
  obtain ⟨T_18, hW_19, k_20⟩ := hLX
  obtain ⟨m_22, q_25, q_26, q_27, q_28, q_29, q_30, q_31, q_32, q_33, q_34, q_35, q_36, q_37, q_38, t_23, -, -, -, -, -, -, -, -, -, -, -, -, -, -⟩ := id k_20
  have e_24 := hW_19.at m_22 t_23
  refine v_viR hC (rest := []) m_22 e_24 rfl mi_X11_read ms_X11_read (p_X11_read hW_19 k_20) mx_X11_read ml_L_57 (by decide) rfl (cells1 := c) (slots1 := s) rfl rfl (by omega) (by omega) rfl (Nat.le_of_ble_eq_true rfl) dL_law_469 (fun r_11 L_12 f_13 f_14 h_15 g_16 g_17 => ?_)
  have e_42 := h_15.2.1
  have hl_41 := h_15.1
  subst hl_41
  have lx_39 : LX E x _ f_14 := ⟨T_18, e_42.cg g_17, k_20⟩
  have lm_40 := hLM.cg g_16
  obtain ⟨T_45, q_46, hW_47, k_48⟩ := id hLM
  have sm_44 : MSAME f f_14 m := zm_cg hW_47 k_48 g_16
  have sx_43 : SAME f f_14 x := zs_T hW_19 e_42 k_20 h_15.2.2.1 rfl g_17
  have rl_49 := RLn.step hRL sx_43 sm_44
  refine v_swap ?_
  refine v_pop hC dL_law_472 rfl ?_
  refine v_aload_n hC dL_law_473 rfl ?_
  refine v_aload_n hC dL_law_474 rfl ?_
  refine v_iload_n hC dL_law_475 rfl ?_
  refine v_iconst hC dL_law_476 (v := 1) (by decide) ?_
  refine v_iadd hC dL_law_477 h_2 ?_
  refine v_sld hC hX hbl hbA (vp_in_iff.mpr (by omega)) h_5 dL_law_478 ?_
  refine v_aload_n hC dL_law_479 rfl ?_
  refine v_iload_n hC dL_law_480 rfl ?_
  refine v_iconst hC dL_law_481 (v := 2) (by decide) ?_
  refine v_iadd hC dL_law_482 h_7 ?_
  refine v_sld hC hX hbl hbA (vp_in_iff.mpr (by omega)) h_10 dL_law_483 ?_
  obtain ⟨T_57, q_60, hW_58, k_59⟩ := lm_40
  obtain ⟨m_61, t_62, -, k1_k_59, -, -, -, -, k14_k_59, -⟩ := id k_59
  obtain ⟨v_64, v_65, v_66, v_67, v_68, v_69, v_70, v_71, v_72, v_73, v_74, e_63, -, -, -, -, -, -, -⟩ := hW_58.at m_61 t_62
  obtain ⟨g_75, e_76, o_77⟩ := hW_58.at k1_k_59.1 k1_k_59.2
  refine v_viR hC (rest := []) m_61 e_63 rfl mi_X12_read ms_X12_read (p_X12_read hW_58 k_59 e_76 o_77) mx_X12_read ml_L_60 (by decide) rfl (cells1 := c) (slots1 := s) rfl rfl (by omega) (by omega) rfl (Nat.le_of_ble_eq_true rfl) dL_law_484 (fun r_50 L_51 f_52 f_53 h_54 g_55 g_56 => ?_)
  have e_81 := h_54.2.1
  have hl_80 := h_54.1
  subst hl_80
  have lx_78 : LM E m _ f_53 := ⟨T_57, q_60, e_81.cg g_56, k_59⟩
  have lm_79 := lx_39.cg g_55
  obtain ⟨T_84, hW_85, k_86⟩ := id lx_39
  have sx_82 : SAME f_14 f_53 x := zs_cg hW_85 k_86 g_55
  have sm_83 : MSAME f_14 f_53 m := zm_T hW_58 e_81 k_59 h_54.2.2.1 rfl g_56
  have rl_87 := RLn.step rl_49 sx_82 sm_83
  refine v_pop hC dL_law_487 rfl ?_
  refine v_goto hC dL_law_488 (tgt := 1468) (by decide) ?_
  refine v_widen (k := c + 27) (n := s + 1953) (by omega) (by omega) ?_
  exact hT _ _ _ lm_79 lx_78 rl_87
set_option maxRecDepth 100000 in
set_option maxHeartbeats 4000000 in
theorem lc_11 {z : Cz} {E : Ez} {b x m N : Nat} {xs : Nat → Int32} (hC : Cx z E cL_law RL 4 14 600000 7302250) (hX : va_X b N xs (zs z) (zs z).heap) (hbl : b < (zs z).heap.size) (hbA : ¬ zA z b) (hN : N ≤ 3072) {i : Int32} {c s : Nat} (hi : 0 ≤ i.toInt ∧ i.toInt + 6 ≤ (N : Int)) (hc : c + 27 ≤ 600000) (hs : s + 1953 ≤ 7302250) (hT : ∀ (Lx Lm : List Nat) (f : Nat → va_E), LX E x Lx f → LM E m Lm f → RLn f x m → V z E 4 (c + 27) (s + 1953) (Lx ++ Lm) f 1468 [(3, .int i), (2, .ref m), (1, .ref x), (0, .ref b)] []) {Lx Lm : List Nat} {f : Nat → va_E} (hLX : LX E x Lx f) (hLM : LM E m Lm f) (hRL : RLn f x m) : V z E 4 c s (Lx ++ Lm) f 491 [(3, .int i), (2, .ref m), (1, .ref x), (0, .ref b)] [] := by
  refine v_aload_n hC dL_law_491 rfl ?_
  refine v_aload_n hC dL_law_492 rfl ?_
  refine v_iload_n hC dL_law_493 rfl ?_
  refine v_iconst hC dL_law_494 (v := 1) (by decide) ?_
  obtain ⟨v_1, h_2⟩ : ∃ v9 : Int32, i + 1 = v9 := ⟨_, rfl⟩
  refine v_iadd hC dL_law_495 h_2 ?_
  have h_3 := add_v h_2 (by first | omega | (simp only [Int32.lt_iff_toInt_lt, Int32.le_iff_toInt_le, Int32.reduceToInt, ← Int32.toInt_inj, true_and, and_true, or_true, true_or, false_or, or_false, false_and, and_false, not_true_eq_false, not_false_eq_true] <;> omega)) (by first | omega | (simp only [Int32.lt_iff_toInt_lt, Int32.le_iff_toInt_le, Int32.reduceToInt, ← Int32.toInt_inj, true_and, and_true, or_true, true_or, false_or, or_false, false_and, and_false, not_true_eq_false, not_false_eq_true] <;> omega))
  try simp only [Int32.reduceToInt] at h_3
  obtain ⟨v_4, h_5⟩ : ∃ v9 : Int32, xs (v_1 : Int32).toNatClampNeg = v9 := ⟨_, rfl⟩
  refine v_sld hC hX hbl hbA (vp_in_iff.mpr (by omega)) h_5 dL_law_496 ?_
  refine v_swap ?_
  obtain ⟨T_13, hW_14, k_15⟩ := hLX
  obtain ⟨m_17, q_20, q_21, q_22, q_23, q_24, q_25, q_26, q_27, q_28, q_29, q_30, q_31, q_32, q_33, t_18, -, -, -, -, -, -, -, -, -, -, -, -, -, -⟩ := id k_15
  have e_19 := hW_14.at m_17 t_18
  refine v_viR hC (rest := []) m_17 e_19 rfl mi_X11_letter ms_X11_letter (p_X11_letter hW_14 k_15) mx_X11_letter ml_L_61 (by decide) rfl (cells1 := c) (slots1 := s) rfl rfl (by omega) (by omega) rfl (Nat.le_of_ble_eq_true rfl) dL_law_497 (fun r_6 L_7 f_8 f_9 h_10 g_11 g_12 => ?_)
  have e_37 := h_10.2
  have hl_36 := h_10.1
  subst hl_36
  have lx_34 : LX E x _ f_9 := ⟨T_13, (hW_14.cg (fun a9 h9 => (g_12 a9 h9).trans (congrFun e_37.symm a9))), k_15⟩
  have lm_35 := hLM.cg g_11
  obtain ⟨T_40, q_41, hW_42, k_43⟩ := id hLM
  have sm_39 : MSAME f f_9 m := zm_cg hW_42 k_43 g_11
  have sx_38 : SAME f f_9 x := zs_cg hW_14 k_15 (fun a9 h9 => (g_12 a9 h9).trans (congrFun e_37.symm a9))
  have rl_44 := RLn.step hRL sx_38 sm_39
  refine v_swap ?_
  refine v_pop hC dL_law_500 rfl ?_
  refine v_aload_n hC dL_law_501 rfl ?_
  refine v_aload_n hC dL_law_502 rfl ?_
  refine v_iload_n hC dL_law_503 rfl ?_
  refine v_iconst hC dL_law_504 (v := 1) (by decide) ?_
  refine v_iadd hC dL_law_505 h_2 ?_
  refine v_sld hC hX hbl hbA (vp_in_iff.mpr (by omega)) h_5 dL_law_506 ?_
  obtain ⟨T_52, q_55, hW_53, k_54⟩ := lm_35
  obtain ⟨m_56, t_57, -, k1_k_54, -, -, -, -, k14_k_54, -⟩ := id k_54
  obtain ⟨v_59, v_60, v_61, v_62, v_63, v_64, v_65, v_66, v_67, v_68, v_69, e_58, -, -, -, -, -, -, -⟩ := hW_53.at m_56 t_57
  obtain ⟨g_70, e_71, o_72⟩ := hW_53.at k1_k_54.1 k1_k_54.2
  refine v_viR hC (rest := []) m_56 e_58 rfl mi_X12_letter ms_X12_letter (p_X12_letter hW_53 k_54 e_71 o_72) mx_X12_letter ml_L_64 (by decide) rfl (cells1 := c) (slots1 := s) rfl rfl (by omega) (by omega) rfl (Nat.le_of_ble_eq_true rfl) dL_law_507 (fun r_45 L_46 f_47 f_48 h_49 g_50 g_51 => ?_)
  have e_76 := h_49.2.1
  have hl_75 := h_49.1
  subst hl_75
  have lx_73 : LM E m _ f_48 := ⟨T_52, q_55, (hW_53.cg (fun a9 h9 => (g_51 a9 h9).trans (congrFun e_76.symm a9))), k_54⟩
  have lm_74 := lx_34.cg g_50
  obtain ⟨T_79, hW_80, k_81⟩ := id lx_34
  have sx_77 : SAME f_9 f_48 x := zs_cg hW_80 k_81 g_50
  have sm_78 : MSAME f_9 f_48 m := zm_cg hW_53 k_54 (fun a9 h9 => (g_51 a9 h9).trans (congrFun e_76.symm a9))
  have rl_82 := RLn.step rl_44 sx_77 sm_78
  refine v_pop hC dL_law_510 rfl ?_
  refine v_goto hC dL_law_511 (tgt := 1468) (by decide) ?_
  refine v_widen (k := c + 27) (n := s + 1953) (by omega) (by omega) ?_
  exact hT _ _ _ lm_74 lx_73 rl_82
set_option maxRecDepth 100000 in
set_option maxHeartbeats 4000000 in
theorem lc_12 {z : Cz} {E : Ez} {b x m N : Nat} {xs : Nat → Int32} (hC : Cx z E cL_law RL 4 14 600000 7302250) (hX : va_X b N xs (zs z) (zs z).heap) (hbl : b < (zs z).heap.size) (hbA : ¬ zA z b) (hN : N ≤ 3072) {i : Int32} {c s : Nat} (hi : 0 ≤ i.toInt ∧ i.toInt + 6 ≤ (N : Int)) (hc : c + 27 ≤ 600000) (hs : s + 1953 ≤ 7302250) (hT : ∀ (Lx Lm : List Nat) (f : Nat → va_E), LX E x Lx f → LM E m Lm f → RLn f x m → V z E 4 (c + 27) (s + 1953) (Lx ++ Lm) f 1468 [(3, .int i), (2, .ref m), (1, .ref x), (0, .ref b)] []) {Lx Lm : List Nat} {f : Nat → va_E} (hLX : LX E x Lx f) (hLM : LM E m Lm f) (hRL : RLn f x m) : V z E 4 c s (Lx ++ Lm) f 514 [(3, .int i), (2, .ref m), (1, .ref x), (0, .ref b)] [] := by
  refine v_aload_n hC dL_law_514 rfl ?_
  refine v_aload_n hC dL_law_515 rfl ?_
  refine v_iload_n hC dL_law_516 rfl ?_
  refine v_iconst hC dL_law_517 (v := 1) (by decide) ?_
  obtain ⟨v_1, h_2⟩ : ∃ v9 : Int32, i + 1 = v9 := ⟨_, rfl⟩
  refine v_iadd hC dL_law_518 h_2 ?_
  have h_3 := add_v h_2 (by first | omega | (simp only [Int32.lt_iff_toInt_lt, Int32.le_iff_toInt_le, Int32.reduceToInt, ← Int32.toInt_inj, true_and, and_true, or_true, true_or, false_or, or_false, false_and, and_false, not_true_eq_false, not_false_eq_true] <;> omega)) (by first | omega | (simp only [Int32.lt_iff_toInt_lt, Int32.le_iff_toInt_le, Int32.reduceToInt, ← Int32.toInt_inj, true_and, and_true, or_true, true_or, false_or, or_false, false_and, and_false, not_true_eq_false, not_false_eq_true] <;> omega))
  try simp only [Int32.reduceToInt] at h_3
  obtain ⟨v_4, h_5⟩ : ∃ v9 : Int32, xs (v_1 : Int32).toNatClampNeg = v9 := ⟨_, rfl⟩
  refine v_sld hC hX hbl hbA (vp_in_iff.mpr (by omega)) h_5 dL_law_519 ?_
  refine v_aload_n hC dL_law_520 rfl ?_
  refine v_iload_n hC dL_law_521 rfl ?_
  refine v_iconst hC dL_law_522 (v := 2) (by decide) ?_
  obtain ⟨v_6, h_7⟩ : ∃ v9 : Int32, i + 2 = v9 := ⟨_, rfl⟩
  refine v_iadd hC dL_law_523 h_7 ?_
  have h_8 := add_v h_7 (by first | omega | (simp only [Int32.lt_iff_toInt_lt, Int32.le_iff_toInt_le, Int32.reduceToInt, ← Int32.toInt_inj, true_and, and_true, or_true, true_or, false_or, or_false, false_and, and_false, not_true_eq_false, not_false_eq_true] <;> omega)) (by first | omega | (simp only [Int32.lt_iff_toInt_lt, Int32.le_iff_toInt_le, Int32.reduceToInt, ← Int32.toInt_inj, true_and, and_true, or_true, true_or, false_or, or_false, false_and, and_false, not_true_eq_false, not_false_eq_true] <;> omega))
  try simp only [Int32.reduceToInt] at h_8
  obtain ⟨v_9, h_10⟩ : ∃ v9 : Int32, xs (v_6 : Int32).toNatClampNeg = v9 := ⟨_, rfl⟩
  refine v_sld hC hX hbl hbA (vp_in_iff.mpr (by omega)) h_10 dL_law_524 ?_
  refine v_aload_n hC dL_law_525 rfl ?_
  refine v_iload_n hC dL_law_526 rfl ?_
  refine v_iconst hC dL_law_527 (v := 3) (by decide) ?_
  obtain ⟨v_11, h_12⟩ : ∃ v9 : Int32, i + 3 = v9 := ⟨_, rfl⟩
  refine v_iadd hC dL_law_528 h_12 ?_
  have h_13 := add_v h_12 (by first | omega | (simp only [Int32.lt_iff_toInt_lt, Int32.le_iff_toInt_le, Int32.reduceToInt, ← Int32.toInt_inj, true_and, and_true, or_true, true_or, false_or, or_false, false_and, and_false, not_true_eq_false, not_false_eq_true] <;> omega)) (by first | omega | (simp only [Int32.lt_iff_toInt_lt, Int32.le_iff_toInt_le, Int32.reduceToInt, ← Int32.toInt_inj, true_and, and_true, or_true, true_or, false_or, or_false, false_and, and_false, not_true_eq_false, not_false_eq_true] <;> omega))
  try simp only [Int32.reduceToInt] at h_13
  obtain ⟨v_14, h_15⟩ : ∃ v9 : Int32, xs (v_11 : Int32).toNatClampNeg = v9 := ⟨_, rfl⟩
  refine v_sld hC hX hbl hbA (vp_in_iff.mpr (by omega)) h_15 dL_law_529 ?_
  refine v_swap ?_
  obtain ⟨T_23, hW_24, k_25⟩ := hLX
  obtain ⟨m_27, q_30, q_31, q_32, q_33, q_34, q_35, q_36, q_37, q_38, q_39, q_40, q_41, q_42, q_43, t_28, -, -, -, -, -, -, -, -, -, -, -, -, -, -⟩ := id k_25
  have e_29 := hW_24.at m_27 t_28
  refine v_viR hC (rest := []) m_27 e_29 rfl mi_X11_bit ms_X11_bit (p_X11_bit hW_24 k_25) mx_X11_bit ml_L_65 (by decide) rfl (cells1 := c) (slots1 := s) rfl rfl (by omega) (by omega) rfl (Nat.le_of_ble_eq_true rfl) dL_law_530 (fun r_16 L_17 f_18 f_19 h_20 g_21 g_22 => ?_)
  have e_47 := h_20.2.1
  have hl_46 := h_20.1
  subst hl_46
  have lx_44 : LX E x _ f_19 := ⟨T_23, e_47.cg g_22, k_25⟩
  have lm_45 := hLM.cg g_21
  obtain ⟨T_50, q_51, hW_52, k_53⟩ := id hLM
  have sm_49 : MSAME f f_19 m := zm_cg hW_52 k_53 g_21
  have sx_48 : SAME f f_19 x := zs_T hW_24 e_47 k_25 h_20.2.2.1 rfl g_22
  have rl_54 := RLn.step hRL sx_48 sm_49
  refine v_swap ?_
  refine v_pop hC dL_law_533 rfl ?_
  refine v_aload_n hC dL_law_534 rfl ?_
  refine v_aload_n hC dL_law_535 rfl ?_
  refine v_iload_n hC dL_law_536 rfl ?_
  refine v_iconst hC dL_law_537 (v := 1) (by decide) ?_
  refine v_iadd hC dL_law_538 h_2 ?_
  refine v_sld hC hX hbl hbA (vp_in_iff.mpr (by omega)) h_5 dL_law_539 ?_
  refine v_aload_n hC dL_law_540 rfl ?_
  refine v_iload_n hC dL_law_541 rfl ?_
  refine v_iconst hC dL_law_542 (v := 2) (by decide) ?_
  refine v_iadd hC dL_law_543 h_7 ?_
  refine v_sld hC hX hbl hbA (vp_in_iff.mpr (by omega)) h_10 dL_law_544 ?_
  refine v_aload_n hC dL_law_545 rfl ?_
  refine v_iload_n hC dL_law_546 rfl ?_
  refine v_iconst hC dL_law_547 (v := 3) (by decide) ?_
  refine v_iadd hC dL_law_548 h_12 ?_
  refine v_sld hC hX hbl hbA (vp_in_iff.mpr (by omega)) h_15 dL_law_549 ?_
  obtain ⟨T_62, q_65, hW_63, k_64⟩ := lm_45
  obtain ⟨m_66, t_67, -, k1_k_64, -, -, -, -, k14_k_64, -⟩ := id k_64
  obtain ⟨v_69, v_70, v_71, v_72, v_73, v_74, v_75, v_76, v_77, v_78, v_79, e_68, -, -, -, -, -, -, -⟩ := hW_63.at m_66 t_67
  obtain ⟨g_80, e_81, o_82⟩ := hW_63.at k1_k_64.1 k1_k_64.2
  refine v_viR hC (rest := []) m_66 e_68 rfl mi_X12_bit ms_X12_bit (p_X12_bit hW_63 k_64 e_81 o_82) mx_X12_bit ml_L_69 (by decide) rfl (cells1 := c) (slots1 := s) rfl rfl (by omega) (by omega) rfl (Nat.le_of_ble_eq_true rfl) dL_law_550 (fun r_55 L_56 f_57 f_58 h_59 g_60 g_61 => ?_)
  have e_86 := h_59.2.1
  have hl_85 := h_59.1
  subst hl_85
  have lx_83 : LM E m _ f_58 := ⟨T_62, q_65, e_86.cg g_61, k_64⟩
  have lm_84 := lx_44.cg g_60
  obtain ⟨T_89, hW_90, k_91⟩ := id lx_44
  have sx_87 : SAME f_19 f_58 x := zs_cg hW_90 k_91 g_60
  have sm_88 : MSAME f_19 f_58 m := zm_T hW_63 e_86 k_64 h_59.2.2.1 rfl g_61
  have rl_92 := RLn.step rl_54 sx_87 sm_88
  refine v_pop hC dL_law_553 rfl ?_
  refine v_goto hC dL_law_554 (tgt := 1468) (by decide) ?_
  refine v_widen (k := c + 27) (n := s + 1953) (by omega) (by omega) ?_
  exact hT _ _ _ lm_84 lx_83 rl_92
set_option maxRecDepth 100000 in
set_option maxHeartbeats 4000000 in
theorem lc_13 {z : Cz} {E : Ez} {b x m N : Nat} {xs : Nat → Int32} (hC : Cx z E cL_law RL 4 14 600000 7302250) (hX : va_X b N xs (zs z) (zs z).heap) (hbl : b < (zs z).heap.size) (hbA : ¬ zA z b) (hN : N ≤ 3072) {i : Int32} {c s : Nat} (hi : 0 ≤ i.toInt ∧ i.toInt + 6 ≤ (N : Int)) (hc : c + 27 ≤ 600000) (hs : s + 1953 ≤ 7302250) (hT : ∀ (Lx Lm : List Nat) (f : Nat → va_E), LX E x Lx f → LM E m Lm f → RLn f x m → V z E 4 (c + 27) (s + 1953) (Lx ++ Lm) f 1468 [(3, .int i), (2, .ref m), (1, .ref x), (0, .ref b)] []) {Lx Lm : List Nat} {f : Nat → va_E} (hLX : LX E x Lx f) (hLM : LM E m Lm f) (hRL : RLn f x m) : V z E 4 c s (Lx ++ Lm) f 557 [(3, .int i), (2, .ref m), (1, .ref x), (0, .ref b)] [] := by
  refine v_aload_n hC dL_law_557 rfl ?_
  refine v_aload_n hC dL_law_558 rfl ?_
  refine v_iload_n hC dL_law_559 rfl ?_
  refine v_iconst hC dL_law_560 (v := 1) (by decide) ?_
  obtain ⟨v_1, h_2⟩ : ∃ v9 : Int32, i + 1 = v9 := ⟨_, rfl⟩
  refine v_iadd hC dL_law_561 h_2 ?_
  have h_3 := add_v h_2 (by first | omega | (simp only [Int32.lt_iff_toInt_lt, Int32.le_iff_toInt_le, Int32.reduceToInt, ← Int32.toInt_inj, true_and, and_true, or_true, true_or, false_or, or_false, false_and, and_false, not_true_eq_false, not_false_eq_true] <;> omega)) (by first | omega | (simp only [Int32.lt_iff_toInt_lt, Int32.le_iff_toInt_le, Int32.reduceToInt, ← Int32.toInt_inj, true_and, and_true, or_true, true_or, false_or, or_false, false_and, and_false, not_true_eq_false, not_false_eq_true] <;> omega))
  try simp only [Int32.reduceToInt] at h_3
  obtain ⟨v_4, h_5⟩ : ∃ v9 : Int32, xs (v_1 : Int32).toNatClampNeg = v9 := ⟨_, rfl⟩
  refine v_sld hC hX hbl hbA (vp_in_iff.mpr (by omega)) h_5 dL_law_562 ?_
  refine v_aload_n hC dL_law_563 rfl ?_
  refine v_iload_n hC dL_law_564 rfl ?_
  refine v_iconst hC dL_law_565 (v := 2) (by decide) ?_
  obtain ⟨v_6, h_7⟩ : ∃ v9 : Int32, i + 2 = v9 := ⟨_, rfl⟩
  refine v_iadd hC dL_law_566 h_7 ?_
  have h_8 := add_v h_7 (by first | omega | (simp only [Int32.lt_iff_toInt_lt, Int32.le_iff_toInt_le, Int32.reduceToInt, ← Int32.toInt_inj, true_and, and_true, or_true, true_or, false_or, or_false, false_and, and_false, not_true_eq_false, not_false_eq_true] <;> omega)) (by first | omega | (simp only [Int32.lt_iff_toInt_lt, Int32.le_iff_toInt_le, Int32.reduceToInt, ← Int32.toInt_inj, true_and, and_true, or_true, true_or, false_or, or_false, false_and, and_false, not_true_eq_false, not_false_eq_true] <;> omega))
  try simp only [Int32.reduceToInt] at h_8
  obtain ⟨v_9, h_10⟩ : ∃ v9 : Int32, xs (v_6 : Int32).toNatClampNeg = v9 := ⟨_, rfl⟩
  refine v_sld hC hX hbl hbA (vp_in_iff.mpr (by omega)) h_10 dL_law_567 ?_
  refine v_swap ?_
  obtain ⟨T_18, hW_19, k_20⟩ := hLX
  obtain ⟨m_22, q_25, q_26, q_27, q_28, q_29, q_30, q_31, q_32, q_33, q_34, q_35, q_36, q_37, q_38, t_23, -, -, -, -, -, -, -, -, -, -, -, -, -, -⟩ := id k_20
  have e_24 := hW_19.at m_22 t_23
  refine v_viR hC (rest := []) m_22 e_24 rfl mi_X11_dim ms_X11_dim (p_X11_dim hW_19 k_20) mx_X11_dim ml_L_70 (by decide) rfl (cells1 := c) (slots1 := s) rfl rfl (by omega) (by omega) rfl (Nat.le_of_ble_eq_true rfl) dL_law_568 (fun r_11 L_12 f_13 f_14 h_15 g_16 g_17 => ?_)
  have e_42 := h_15.2.1
  have hl_41 := h_15.1
  subst hl_41
  have lx_39 : LX E x _ f_14 := ⟨T_18, e_42.cg g_17, k_20⟩
  have lm_40 := hLM.cg g_16
  obtain ⟨T_45, q_46, hW_47, k_48⟩ := id hLM
  have sm_44 : MSAME f f_14 m := zm_cg hW_47 k_48 g_16
  have sx_43 : SAME f f_14 x := zs_T hW_19 e_42 k_20 h_15.2.2.1 rfl g_17
  have rl_49 := RLn.step hRL sx_43 sm_44
  refine v_swap ?_
  refine v_pop hC dL_law_571 rfl ?_
  refine v_aload_n hC dL_law_572 rfl ?_
  refine v_aload_n hC dL_law_573 rfl ?_
  refine v_iload_n hC dL_law_574 rfl ?_
  refine v_iconst hC dL_law_575 (v := 1) (by decide) ?_
  refine v_iadd hC dL_law_576 h_2 ?_
  refine v_sld hC hX hbl hbA (vp_in_iff.mpr (by omega)) h_5 dL_law_577 ?_
  refine v_aload_n hC dL_law_578 rfl ?_
  refine v_iload_n hC dL_law_579 rfl ?_
  refine v_iconst hC dL_law_580 (v := 2) (by decide) ?_
  refine v_iadd hC dL_law_581 h_7 ?_
  refine v_sld hC hX hbl hbA (vp_in_iff.mpr (by omega)) h_10 dL_law_582 ?_
  obtain ⟨T_57, q_60, hW_58, k_59⟩ := lm_40
  obtain ⟨m_61, t_62, -, k1_k_59, -, -, -, -, k14_k_59, -⟩ := id k_59
  obtain ⟨v_64, v_65, v_66, v_67, v_68, v_69, v_70, v_71, v_72, v_73, v_74, e_63, -, -, -, -, -, -, -⟩ := hW_58.at m_61 t_62
  obtain ⟨g_75, e_76, o_77⟩ := hW_58.at k1_k_59.1 k1_k_59.2
  refine v_viR hC (rest := []) m_61 e_63 rfl mi_X12_dim ms_X12_dim (p_X12_dim hW_58 k_59 e_76 o_77) mx_X12_dim ml_L_73 (by decide) rfl (cells1 := c) (slots1 := s) rfl rfl (by omega) (by omega) rfl (Nat.le_of_ble_eq_true rfl) dL_law_583 (fun r_50 L_51 f_52 f_53 h_54 g_55 g_56 => ?_)
  have e_81 := h_54.2.1
  have hl_80 := h_54.1
  subst hl_80
  have lx_78 : LM E m _ f_53 := ⟨T_57, q_60, e_81.cg g_56, k_59⟩
  have lm_79 := lx_39.cg g_55
  obtain ⟨T_84, hW_85, k_86⟩ := id lx_39
  have sx_82 : SAME f_14 f_53 x := zs_cg hW_85 k_86 g_55
  have sm_83 : MSAME f_14 f_53 m := zm_T hW_58 e_81 k_59 h_54.2.2.1 rfl g_56
  have rl_87 := RLn.step rl_49 sx_82 sm_83
  refine v_pop hC dL_law_586 rfl ?_
  refine v_goto hC dL_law_587 (tgt := 1468) (by decide) ?_
  refine v_widen (k := c + 27) (n := s + 1953) (by omega) (by omega) ?_
  exact hT _ _ _ lm_79 lx_78 rl_87
set_option maxRecDepth 100000 in
set_option maxHeartbeats 4000000 in
theorem lc_14 {z : Cz} {E : Ez} {b x m N : Nat} {xs : Nat → Int32} (hC : Cx z E cL_law RL 4 14 600000 7302250) (hX : va_X b N xs (zs z) (zs z).heap) (hbl : b < (zs z).heap.size) (hbA : ¬ zA z b) (hN : N ≤ 3072) {i : Int32} {c s : Nat} (hi : 0 ≤ i.toInt ∧ i.toInt + 6 ≤ (N : Int)) (hc : c + 27 ≤ 600000) (hs : s + 1953 ≤ 7302250) (hT : ∀ (Lx Lm : List Nat) (f : Nat → va_E), LX E x Lx f → LM E m Lm f → RLn f x m → V z E 4 (c + 27) (s + 1953) (Lx ++ Lm) f 1468 [(3, .int i), (2, .ref m), (1, .ref x), (0, .ref b)] []) {Lx Lm : List Nat} {f : Nat → va_E} (hLX : LX E x Lx f) (hLM : LM E m Lm f) (hRL : RLn f x m) : V z E 4 c s (Lx ++ Lm) f 590 [(3, .int i), (2, .ref m), (1, .ref x), (0, .ref b)] [] := by
  refine v_aload_n hC dL_law_590 rfl ?_
  refine v_aload_n hC dL_law_591 rfl ?_
  refine v_iload_n hC dL_law_592 rfl ?_
  refine v_iconst hC dL_law_593 (v := 1) (by decide) ?_
  obtain ⟨v_1, h_2⟩ : ∃ v9 : Int32, i + 1 = v9 := ⟨_, rfl⟩
  refine v_iadd hC dL_law_594 h_2 ?_
  have h_3 := add_v h_2 (by first | omega | (simp only [Int32.lt_iff_toInt_lt, Int32.le_iff_toInt_le, Int32.reduceToInt, ← Int32.toInt_inj, true_and, and_true, or_true, true_or, false_or, or_false, false_and, and_false, not_true_eq_false, not_false_eq_true] <;> omega)) (by first | omega | (simp only [Int32.lt_iff_toInt_lt, Int32.le_iff_toInt_le, Int32.reduceToInt, ← Int32.toInt_inj, true_and, and_true, or_true, true_or, false_or, or_false, false_and, and_false, not_true_eq_false, not_false_eq_true] <;> omega))
  try simp only [Int32.reduceToInt] at h_3
  obtain ⟨v_4, h_5⟩ : ∃ v9 : Int32, xs (v_1 : Int32).toNatClampNeg = v9 := ⟨_, rfl⟩
  refine v_sld hC hX hbl hbA (vp_in_iff.mpr (by omega)) h_5 dL_law_595 ?_
  refine v_swap ?_
  obtain ⟨T_13, hW_14, k_15⟩ := hLX
  obtain ⟨m_17, q_20, q_21, q_22, q_23, q_24, q_25, q_26, q_27, q_28, q_29, q_30, q_31, q_32, q_33, t_18, -, -, -, -, -, -, -, -, -, -, -, -, -, -⟩ := id k_15
  have e_19 := hW_14.at m_17 t_18
  refine v_viR hC (rest := []) m_17 e_19 rfl mi_X11_says ms_X11_says (p_X11_says hW_14 k_15) mx_X11_says ml_L_74 (by decide) rfl (cells1 := c) (slots1 := s) rfl rfl (by omega) (by omega) rfl (Nat.le_of_ble_eq_true rfl) dL_law_596 (fun r_6 L_7 f_8 f_9 h_10 g_11 g_12 => ?_)
  have e_37 := h_10.2.1
  have hl_36 := h_10.1
  subst hl_36
  have lx_34 : LX E x _ f_9 := ⟨T_13, e_37.cg g_12, k_15⟩
  have lm_35 := hLM.cg g_11
  obtain ⟨T_40, q_41, hW_42, k_43⟩ := id hLM
  have sm_39 : MSAME f f_9 m := zm_cg hW_42 k_43 g_11
  have sx_38 : SAME f f_9 x := zs_T hW_14 e_37 k_15 h_10.2.2.1 rfl g_12
  have rl_44 := RLn.step hRL sx_38 sm_39
  refine v_swap ?_
  refine v_pop hC dL_law_599 rfl ?_
  refine v_aload_n hC dL_law_600 rfl ?_
  refine v_aload_n hC dL_law_601 rfl ?_
  refine v_iload_n hC dL_law_602 rfl ?_
  refine v_iconst hC dL_law_603 (v := 1) (by decide) ?_
  refine v_iadd hC dL_law_604 h_2 ?_
  refine v_sld hC hX hbl hbA (vp_in_iff.mpr (by omega)) h_5 dL_law_605 ?_
  obtain ⟨T_52, q_55, hW_53, k_54⟩ := lm_35
  obtain ⟨m_56, t_57, -, k1_k_54, -, -, -, -, k14_k_54, -⟩ := id k_54
  obtain ⟨v_59, v_60, v_61, v_62, v_63, v_64, v_65, v_66, v_67, v_68, v_69, e_58, -, -, -, -, -, -, -⟩ := hW_53.at m_56 t_57
  obtain ⟨g_70, e_71, o_72⟩ := hW_53.at k1_k_54.1 k1_k_54.2
  refine v_viR hC (rest := []) m_56 e_58 rfl mi_X12_says ms_X12_says (p_X12_says hW_53 k_54 e_71 o_72) mx_X12_says ml_L_77 (by decide) rfl (cells1 := c) (slots1 := s) rfl rfl (by omega) (by omega) rfl (Nat.le_of_ble_eq_true rfl) dL_law_606 (fun r_45 L_46 f_47 f_48 h_49 g_50 g_51 => ?_)
  have e_76 := h_49.2.1
  have hl_75 := h_49.1
  subst hl_75
  have lx_73 : LM E m _ f_48 := ⟨T_52, q_55, e_76.cg g_51, k_54⟩
  have lm_74 := lx_34.cg g_50
  obtain ⟨T_79, hW_80, k_81⟩ := id lx_34
  have sx_77 : SAME f_9 f_48 x := zs_cg hW_80 k_81 g_50
  have sm_78 : MSAME f_9 f_48 m := zm_T hW_53 e_76 k_54 h_49.2.2.1 rfl g_51
  have rl_82 := RLn.step rl_44 sx_77 sm_78
  refine v_pop hC dL_law_609 rfl ?_
  refine v_goto hC dL_law_610 (tgt := 1468) (by decide) ?_
  refine v_widen (k := c + 27) (n := s + 1953) (by omega) (by omega) ?_
  exact hT _ _ _ lm_74 lx_73 rl_82
set_option maxRecDepth 100000 in
set_option maxHeartbeats 4000000 in
theorem lc_15 {z : Cz} {E : Ez} {b x m N : Nat} {xs : Nat → Int32} (hC : Cx z E cL_law RL 4 14 600000 7302250) (hX : va_X b N xs (zs z) (zs z).heap) (hbl : b < (zs z).heap.size) (hbA : ¬ zA z b) (hN : N ≤ 3072) {i : Int32} {c s : Nat} (hi : 0 ≤ i.toInt ∧ i.toInt + 6 ≤ (N : Int)) (hc : c + 27 ≤ 600000) (hs : s + 1953 ≤ 7302250) (hT : ∀ (Lx Lm : List Nat) (f : Nat → va_E), LX E x Lx f → LM E m Lm f → RLn f x m → V z E 4 (c + 27) (s + 1953) (Lx ++ Lm) f 1468 [(3, .int i), (2, .ref m), (1, .ref x), (0, .ref b)] []) {Lx Lm : List Nat} {f : Nat → va_E} (hLX : LX E x Lx f) (hLM : LM E m Lm f) (hRL : RLn f x m) : V z E 4 c s (Lx ++ Lm) f 613 [(3, .int i), (2, .ref m), (1, .ref x), (0, .ref b)] [] := by
  refine v_aload_n hC dL_law_613 rfl ?_
  refine v_aload_n hC dL_law_614 rfl ?_
  refine v_iload_n hC dL_law_615 rfl ?_
  refine v_iconst hC dL_law_616 (v := 1) (by decide) ?_
  obtain ⟨v_1, h_2⟩ : ∃ v9 : Int32, i + 1 = v9 := ⟨_, rfl⟩
  refine v_iadd hC dL_law_617 h_2 ?_
  have h_3 := add_v h_2 (by first | omega | (simp only [Int32.lt_iff_toInt_lt, Int32.le_iff_toInt_le, Int32.reduceToInt, ← Int32.toInt_inj, true_and, and_true, or_true, true_or, false_or, or_false, false_and, and_false, not_true_eq_false, not_false_eq_true] <;> omega)) (by first | omega | (simp only [Int32.lt_iff_toInt_lt, Int32.le_iff_toInt_le, Int32.reduceToInt, ← Int32.toInt_inj, true_and, and_true, or_true, true_or, false_or, or_false, false_and, and_false, not_true_eq_false, not_false_eq_true] <;> omega))
  try simp only [Int32.reduceToInt] at h_3
  obtain ⟨v_4, h_5⟩ : ∃ v9 : Int32, xs (v_1 : Int32).toNatClampNeg = v9 := ⟨_, rfl⟩
  refine v_sld hC hX hbl hbA (vp_in_iff.mpr (by omega)) h_5 dL_law_618 ?_
  refine v_aload_n hC dL_law_619 rfl ?_
  refine v_iload_n hC dL_law_620 rfl ?_
  refine v_iconst hC dL_law_621 (v := 2) (by decide) ?_
  obtain ⟨v_6, h_7⟩ : ∃ v9 : Int32, i + 2 = v9 := ⟨_, rfl⟩
  refine v_iadd hC dL_law_622 h_7 ?_
  have h_8 := add_v h_7 (by first | omega | (simp only [Int32.lt_iff_toInt_lt, Int32.le_iff_toInt_le, Int32.reduceToInt, ← Int32.toInt_inj, true_and, and_true, or_true, true_or, false_or, or_false, false_and, and_false, not_true_eq_false, not_false_eq_true] <;> omega)) (by first | omega | (simp only [Int32.lt_iff_toInt_lt, Int32.le_iff_toInt_le, Int32.reduceToInt, ← Int32.toInt_inj, true_and, and_true, or_true, true_or, false_or, or_false, false_and, and_false, not_true_eq_false, not_false_eq_true] <;> omega))
  try simp only [Int32.reduceToInt] at h_8
  obtain ⟨v_9, h_10⟩ : ∃ v9 : Int32, xs (v_6 : Int32).toNatClampNeg = v9 := ⟨_, rfl⟩
  refine v_sld hC hX hbl hbA (vp_in_iff.mpr (by omega)) h_10 dL_law_623 ?_
  refine v_aload_n hC dL_law_624 rfl ?_
  refine v_iload_n hC dL_law_625 rfl ?_
  refine v_iconst hC dL_law_626 (v := 3) (by decide) ?_
  obtain ⟨v_11, h_12⟩ : ∃ v9 : Int32, i + 3 = v9 := ⟨_, rfl⟩
  refine v_iadd hC dL_law_627 h_12 ?_
  have h_13 := add_v h_12 (by first | omega | (simp only [Int32.lt_iff_toInt_lt, Int32.le_iff_toInt_le, Int32.reduceToInt, ← Int32.toInt_inj, true_and, and_true, or_true, true_or, false_or, or_false, false_and, and_false, not_true_eq_false, not_false_eq_true] <;> omega)) (by first | omega | (simp only [Int32.lt_iff_toInt_lt, Int32.le_iff_toInt_le, Int32.reduceToInt, ← Int32.toInt_inj, true_and, and_true, or_true, true_or, false_or, or_false, false_and, and_false, not_true_eq_false, not_false_eq_true] <;> omega))
  try simp only [Int32.reduceToInt] at h_13
  obtain ⟨v_14, h_15⟩ : ∃ v9 : Int32, xs (v_11 : Int32).toNatClampNeg = v9 := ⟨_, rfl⟩
  refine v_sld hC hX hbl hbA (vp_in_iff.mpr (by omega)) h_15 dL_law_628 ?_
  refine v_swap ?_
  obtain ⟨T_23, hW_24, k_25⟩ := hLX
  obtain ⟨m_27, q_30, q_31, q_32, q_33, q_34, q_35, q_36, q_37, q_38, q_39, q_40, q_41, q_42, q_43, t_28, -, -, -, -, -, -, -, -, -, -, -, -, -, -⟩ := id k_25
  have e_29 := hW_24.at m_27 t_28
  refine v_viR hC (rest := []) m_27 e_29 rfl mi_X11_at ms_X11_at (p_X11_at hW_24 k_25) mx_X11_at ml_L_78 (by decide) rfl (cells1 := c) (slots1 := s) rfl rfl (by omega) (by omega) rfl (Nat.le_of_ble_eq_true rfl) dL_law_629 (fun r_16 L_17 f_18 f_19 h_20 g_21 g_22 => ?_)
  have e_47 := h_20.2.1
  have hl_46 := h_20.1
  subst hl_46
  have lx_44 : LX E x _ f_19 := ⟨T_23, (hW_24.cg (fun a9 h9 => (g_22 a9 h9).trans (congrFun e_47.symm a9))), k_25⟩
  have lm_45 := hLM.cg g_21
  obtain ⟨T_50, q_51, hW_52, k_53⟩ := id hLM
  have sm_49 : MSAME f f_19 m := zm_cg hW_52 k_53 g_21
  have sx_48 : SAME f f_19 x := zs_cg hW_24 k_25 (fun a9 h9 => (g_22 a9 h9).trans (congrFun e_47.symm a9))
  have rl_54 := RLn.step hRL sx_48 sm_49
  refine v_swap ?_
  refine v_pop hC dL_law_632 rfl ?_
  refine v_aload_n hC dL_law_633 rfl ?_
  refine v_aload_n hC dL_law_634 rfl ?_
  refine v_iload_n hC dL_law_635 rfl ?_
  refine v_iconst hC dL_law_636 (v := 1) (by decide) ?_
  refine v_iadd hC dL_law_637 h_2 ?_
  refine v_sld hC hX hbl hbA (vp_in_iff.mpr (by omega)) h_5 dL_law_638 ?_
  refine v_aload_n hC dL_law_639 rfl ?_
  refine v_iload_n hC dL_law_640 rfl ?_
  refine v_iconst hC dL_law_641 (v := 2) (by decide) ?_
  refine v_iadd hC dL_law_642 h_7 ?_
  refine v_sld hC hX hbl hbA (vp_in_iff.mpr (by omega)) h_10 dL_law_643 ?_
  refine v_aload_n hC dL_law_644 rfl ?_
  refine v_iload_n hC dL_law_645 rfl ?_
  refine v_iconst hC dL_law_646 (v := 3) (by decide) ?_
  refine v_iadd hC dL_law_647 h_12 ?_
  refine v_sld hC hX hbl hbA (vp_in_iff.mpr (by omega)) h_15 dL_law_648 ?_
  obtain ⟨T_62, q_65, hW_63, k_64⟩ := lm_45
  obtain ⟨m_66, t_67, -, k1_k_64, -, -, -, -, k14_k_64, -⟩ := id k_64
  obtain ⟨v_69, v_70, v_71, v_72, v_73, v_74, v_75, v_76, v_77, v_78, v_79, e_68, -, -, -, -, -, -, -⟩ := hW_63.at m_66 t_67
  obtain ⟨g_80, e_81, o_82⟩ := hW_63.at k1_k_64.1 k1_k_64.2
  refine v_viR hC (rest := []) m_66 e_68 rfl mi_X12_at ms_X12_at (p_X12_at hW_63 k_64 e_81 o_82) mx_X12_at ml_L_81 (by decide) rfl (cells1 := c) (slots1 := s) rfl rfl (by omega) (by omega) rfl (Nat.le_of_ble_eq_true rfl) dL_law_649 (fun r_55 L_56 f_57 f_58 h_59 g_60 g_61 => ?_)
  have e_86 := h_59.2.1
  have hl_85 := h_59.1
  subst hl_85
  have lx_83 : LM E m _ f_58 := ⟨T_62, q_65, (hW_63.cg (fun a9 h9 => (g_61 a9 h9).trans (congrFun e_86.symm a9))), k_64⟩
  have lm_84 := lx_44.cg g_60
  obtain ⟨T_89, hW_90, k_91⟩ := id lx_44
  have sx_87 : SAME f_19 f_58 x := zs_cg hW_90 k_91 g_60
  have sm_88 : MSAME f_19 f_58 m := zm_cg hW_63 k_64 (fun a9 h9 => (g_61 a9 h9).trans (congrFun e_86.symm a9))
  have rl_92 := RLn.step rl_54 sx_87 sm_88
  refine v_pop hC dL_law_652 rfl ?_
  refine v_goto hC dL_law_653 (tgt := 1468) (by decide) ?_
  refine v_widen (k := c + 27) (n := s + 1953) (by omega) (by omega) ?_
  exact hT _ _ _ lm_84 lx_83 rl_92
set_option maxRecDepth 100000 in
set_option maxHeartbeats 4000000 in
theorem lc_16 {z : Cz} {E : Ez} {b x m N : Nat} {xs : Nat → Int32} (hC : Cx z E cL_law RL 4 14 600000 7302250) (hX : va_X b N xs (zs z) (zs z).heap) (hbl : b < (zs z).heap.size) (hbA : ¬ zA z b) (hN : N ≤ 3072) {i : Int32} {c s : Nat} (hi : 0 ≤ i.toInt ∧ i.toInt + 6 ≤ (N : Int)) (hc : c + 27 ≤ 600000) (hs : s + 1953 ≤ 7302250) (hT : ∀ (Lx Lm : List Nat) (f : Nat → va_E), LX E x Lx f → LM E m Lm f → RLn f x m → V z E 4 (c + 27) (s + 1953) (Lx ++ Lm) f 1468 [(3, .int i), (2, .ref m), (1, .ref x), (0, .ref b)] []) {Lx Lm : List Nat} {f : Nat → va_E} (hLX : LX E x Lx f) (hLM : LM E m Lm f) (hRL : RLn f x m) : V z E 4 c s (Lx ++ Lm) f 656 [(3, .int i), (2, .ref m), (1, .ref x), (0, .ref b)] [] := by
  refine v_aload_n hC dL_law_656 rfl ?_
  refine v_aload_n hC dL_law_657 rfl ?_
  refine v_iload_n hC dL_law_658 rfl ?_
  refine v_iconst hC dL_law_659 (v := 1) (by decide) ?_
  obtain ⟨v_1, h_2⟩ : ∃ v9 : Int32, i + 1 = v9 := ⟨_, rfl⟩
  refine v_iadd hC dL_law_660 h_2 ?_
  have h_3 := add_v h_2 (by first | omega | (simp only [Int32.lt_iff_toInt_lt, Int32.le_iff_toInt_le, Int32.reduceToInt, ← Int32.toInt_inj, true_and, and_true, or_true, true_or, false_or, or_false, false_and, and_false, not_true_eq_false, not_false_eq_true] <;> omega)) (by first | omega | (simp only [Int32.lt_iff_toInt_lt, Int32.le_iff_toInt_le, Int32.reduceToInt, ← Int32.toInt_inj, true_and, and_true, or_true, true_or, false_or, or_false, false_and, and_false, not_true_eq_false, not_false_eq_true] <;> omega))
  try simp only [Int32.reduceToInt] at h_3
  obtain ⟨v_4, h_5⟩ : ∃ v9 : Int32, xs (v_1 : Int32).toNatClampNeg = v9 := ⟨_, rfl⟩
  refine v_sld hC hX hbl hbA (vp_in_iff.mpr (by omega)) h_5 dL_law_661 ?_
  refine v_aload_n hC dL_law_662 rfl ?_
  refine v_iload_n hC dL_law_663 rfl ?_
  refine v_iconst hC dL_law_664 (v := 2) (by decide) ?_
  obtain ⟨v_6, h_7⟩ : ∃ v9 : Int32, i + 2 = v9 := ⟨_, rfl⟩
  refine v_iadd hC dL_law_665 h_7 ?_
  have h_8 := add_v h_7 (by first | omega | (simp only [Int32.lt_iff_toInt_lt, Int32.le_iff_toInt_le, Int32.reduceToInt, ← Int32.toInt_inj, true_and, and_true, or_true, true_or, false_or, or_false, false_and, and_false, not_true_eq_false, not_false_eq_true] <;> omega)) (by first | omega | (simp only [Int32.lt_iff_toInt_lt, Int32.le_iff_toInt_le, Int32.reduceToInt, ← Int32.toInt_inj, true_and, and_true, or_true, true_or, false_or, or_false, false_and, and_false, not_true_eq_false, not_false_eq_true] <;> omega))
  try simp only [Int32.reduceToInt] at h_8
  obtain ⟨v_9, h_10⟩ : ∃ v9 : Int32, xs (v_6 : Int32).toNatClampNeg = v9 := ⟨_, rfl⟩
  refine v_sld hC hX hbl hbA (vp_in_iff.mpr (by omega)) h_10 dL_law_666 ?_
  refine v_swap ?_
  obtain ⟨T_18, hW_19, k_20⟩ := hLX
  obtain ⟨m_22, q_25, q_26, q_27, q_28, q_29, q_30, q_31, q_32, q_33, q_34, q_35, q_36, q_37, q_38, t_23, -, -, -, -, -, -, -, -, -, -, -, -, -, -⟩ := id k_20
  have e_24 := hW_19.at m_22 t_23
  refine v_viR hC (rest := []) m_22 e_24 rfl mi_X11_sort ms_X11_sort (p_X11_sort hW_19 k_20) mx_X11_sort ml_L_82 (by decide) rfl (cells1 := c) (slots1 := s) rfl rfl (by omega) (by omega) rfl (Nat.le_of_ble_eq_true rfl) dL_law_667 (fun r_11 L_12 f_13 f_14 h_15 g_16 g_17 => ?_)
  have e_42 := h_15.2
  have hl_41 := h_15.1
  subst hl_41
  have lx_39 : LX E x _ f_14 := ⟨T_18, (hW_19.cg (fun a9 h9 => (g_17 a9 h9).trans (congrFun e_42.symm a9))), k_20⟩
  have lm_40 := hLM.cg g_16
  obtain ⟨T_45, q_46, hW_47, k_48⟩ := id hLM
  have sm_44 : MSAME f f_14 m := zm_cg hW_47 k_48 g_16
  have sx_43 : SAME f f_14 x := zs_cg hW_19 k_20 (fun a9 h9 => (g_17 a9 h9).trans (congrFun e_42.symm a9))
  have rl_49 := RLn.step hRL sx_43 sm_44
  refine v_swap ?_
  refine v_pop hC dL_law_670 rfl ?_
  refine v_aload_n hC dL_law_671 rfl ?_
  refine v_aload_n hC dL_law_672 rfl ?_
  refine v_iload_n hC dL_law_673 rfl ?_
  refine v_iconst hC dL_law_674 (v := 1) (by decide) ?_
  refine v_iadd hC dL_law_675 h_2 ?_
  refine v_sld hC hX hbl hbA (vp_in_iff.mpr (by omega)) h_5 dL_law_676 ?_
  refine v_aload_n hC dL_law_677 rfl ?_
  refine v_iload_n hC dL_law_678 rfl ?_
  refine v_iconst hC dL_law_679 (v := 2) (by decide) ?_
  refine v_iadd hC dL_law_680 h_7 ?_
  refine v_sld hC hX hbl hbA (vp_in_iff.mpr (by omega)) h_10 dL_law_681 ?_
  obtain ⟨T_57, q_60, hW_58, k_59⟩ := lm_40
  obtain ⟨m_61, t_62, -, k1_k_59, -, -, -, -, k14_k_59, -⟩ := id k_59
  obtain ⟨v_64, v_65, v_66, v_67, v_68, v_69, v_70, v_71, v_72, v_73, v_74, e_63, -, -, -, -, -, -, -⟩ := hW_58.at m_61 t_62
  obtain ⟨g_75, e_76, o_77⟩ := hW_58.at k1_k_59.1 k1_k_59.2
  refine v_viR hC (rest := []) m_61 e_63 rfl mi_X12_sort ms_X12_sort (p_X12_sort hW_58 k_59 e_76 o_77) mx_X12_sort ml_L_85 (by decide) rfl (cells1 := c) (slots1 := s) rfl rfl (by omega) (by omega) rfl (Nat.le_of_ble_eq_true rfl) dL_law_682 (fun r_50 L_51 f_52 f_53 h_54 g_55 g_56 => ?_)
  have e_81 := h_54.2.1
  have hl_80 := h_54.1
  subst hl_80
  have lx_78 : LM E m _ f_53 := ⟨T_57, q_60, (hW_58.cg (fun a9 h9 => (g_56 a9 h9).trans (congrFun e_81.symm a9))), k_59⟩
  have lm_79 := lx_39.cg g_55
  obtain ⟨T_84, hW_85, k_86⟩ := id lx_39
  have sx_82 : SAME f_14 f_53 x := zs_cg hW_85 k_86 g_55
  have sm_83 : MSAME f_14 f_53 m := zm_cg hW_58 k_59 (fun a9 h9 => (g_56 a9 h9).trans (congrFun e_81.symm a9))
  have rl_87 := RLn.step rl_49 sx_82 sm_83
  refine v_pop hC dL_law_685 rfl ?_
  refine v_goto hC dL_law_686 (tgt := 1468) (by decide) ?_
  refine v_widen (k := c + 27) (n := s + 1953) (by omega) (by omega) ?_
  exact hT _ _ _ lm_79 lx_78 rl_87
set_option maxRecDepth 100000 in
set_option maxHeartbeats 4000000 in
theorem lc_17 {z : Cz} {E : Ez} {b x m N : Nat} {xs : Nat → Int32} (hC : Cx z E cL_law RL 4 14 600000 7302250) (hX : va_X b N xs (zs z) (zs z).heap) (hbl : b < (zs z).heap.size) (hbA : ¬ zA z b) (hN : N ≤ 3072) {i : Int32} {c s : Nat} (hi : 0 ≤ i.toInt ∧ i.toInt + 6 ≤ (N : Int)) (hc : c + 27 ≤ 600000) (hs : s + 1953 ≤ 7302250) (hT : ∀ (Lx Lm : List Nat) (f : Nat → va_E), LX E x Lx f → LM E m Lm f → RLn f x m → V z E 4 (c + 27) (s + 1953) (Lx ++ Lm) f 1468 [(3, .int i), (2, .ref m), (1, .ref x), (0, .ref b)] []) {Lx Lm : List Nat} {f : Nat → va_E} (hLX : LX E x Lx f) (hLM : LM E m Lm f) (hRL : RLn f x m) : V z E 4 c s (Lx ++ Lm) f 689 [(3, .int i), (2, .ref m), (1, .ref x), (0, .ref b)] [] := by
  refine v_aload_n hC dL_law_689 rfl ?_
  refine v_aload_n hC dL_law_690 rfl ?_
  refine v_iload_n hC dL_law_691 rfl ?_
  refine v_iconst hC dL_law_692 (v := 1) (by decide) ?_
  obtain ⟨v_1, h_2⟩ : ∃ v9 : Int32, i + 1 = v9 := ⟨_, rfl⟩
  refine v_iadd hC dL_law_693 h_2 ?_
  have h_3 := add_v h_2 (by first | omega | (simp only [Int32.lt_iff_toInt_lt, Int32.le_iff_toInt_le, Int32.reduceToInt, ← Int32.toInt_inj, true_and, and_true, or_true, true_or, false_or, or_false, false_and, and_false, not_true_eq_false, not_false_eq_true] <;> omega)) (by first | omega | (simp only [Int32.lt_iff_toInt_lt, Int32.le_iff_toInt_le, Int32.reduceToInt, ← Int32.toInt_inj, true_and, and_true, or_true, true_or, false_or, or_false, false_and, and_false, not_true_eq_false, not_false_eq_true] <;> omega))
  try simp only [Int32.reduceToInt] at h_3
  obtain ⟨v_4, h_5⟩ : ∃ v9 : Int32, xs (v_1 : Int32).toNatClampNeg = v9 := ⟨_, rfl⟩
  refine v_sld hC hX hbl hbA (vp_in_iff.mpr (by omega)) h_5 dL_law_694 ?_
  refine v_aload_n hC dL_law_695 rfl ?_
  refine v_iload_n hC dL_law_696 rfl ?_
  refine v_iconst hC dL_law_697 (v := 2) (by decide) ?_
  obtain ⟨v_6, h_7⟩ : ∃ v9 : Int32, i + 2 = v9 := ⟨_, rfl⟩
  refine v_iadd hC dL_law_698 h_7 ?_
  have h_8 := add_v h_7 (by first | omega | (simp only [Int32.lt_iff_toInt_lt, Int32.le_iff_toInt_le, Int32.reduceToInt, ← Int32.toInt_inj, true_and, and_true, or_true, true_or, false_or, or_false, false_and, and_false, not_true_eq_false, not_false_eq_true] <;> omega)) (by first | omega | (simp only [Int32.lt_iff_toInt_lt, Int32.le_iff_toInt_le, Int32.reduceToInt, ← Int32.toInt_inj, true_and, and_true, or_true, true_or, false_or, or_false, false_and, and_false, not_true_eq_false, not_false_eq_true] <;> omega))
  try simp only [Int32.reduceToInt] at h_8
  obtain ⟨v_9, h_10⟩ : ∃ v9 : Int32, xs (v_6 : Int32).toNatClampNeg = v9 := ⟨_, rfl⟩
  refine v_sld hC hX hbl hbA (vp_in_iff.mpr (by omega)) h_10 dL_law_699 ?_
  refine v_swap ?_
  obtain ⟨T_18, hW_19, k_20⟩ := hLX
  obtain ⟨m_22, q_25, q_26, q_27, q_28, q_29, q_30, q_31, q_32, q_33, q_34, q_35, q_36, q_37, q_38, t_23, -, -, -, -, -, -, -, -, -, -, -, -, -, -⟩ := id k_20
  have e_24 := hW_19.at m_22 t_23
  refine v_viR hC (rest := []) m_22 e_24 rfl mi_X11_place ms_X11_place (p_X11_place hW_19 k_20) mx_X11_place ml_L_86 (by decide) rfl (cells1 := c) (slots1 := s) rfl rfl (by omega) (by omega) rfl (Nat.le_of_ble_eq_true rfl) dL_law_700 (fun r_11 L_12 f_13 f_14 h_15 g_16 g_17 => ?_)
  have e_42 := h_15.2.1
  have hl_41 := h_15.1
  subst hl_41
  have lx_39 : LX E x _ f_14 := ⟨T_18, e_42.cg g_17, k_20⟩
  have lm_40 := hLM.cg g_16
  obtain ⟨T_45, q_46, hW_47, k_48⟩ := id hLM
  have sm_44 : MSAME f f_14 m := zm_cg hW_47 k_48 g_16
  have sx_43 : SAME f f_14 x := zs_T hW_19 e_42 k_20 h_15.2.2.1 rfl g_17
  have rl_49 := RLn.step hRL sx_43 sm_44
  refine v_swap ?_
  refine v_pop hC dL_law_703 rfl ?_
  refine v_aload_n hC dL_law_704 rfl ?_
  refine v_aload_n hC dL_law_705 rfl ?_
  refine v_iload_n hC dL_law_706 rfl ?_
  refine v_iconst hC dL_law_707 (v := 1) (by decide) ?_
  refine v_iadd hC dL_law_708 h_2 ?_
  refine v_sld hC hX hbl hbA (vp_in_iff.mpr (by omega)) h_5 dL_law_709 ?_
  refine v_aload_n hC dL_law_710 rfl ?_
  refine v_iload_n hC dL_law_711 rfl ?_
  refine v_iconst hC dL_law_712 (v := 2) (by decide) ?_
  refine v_iadd hC dL_law_713 h_7 ?_
  refine v_sld hC hX hbl hbA (vp_in_iff.mpr (by omega)) h_10 dL_law_714 ?_
  obtain ⟨T_57, q_60, hW_58, k_59⟩ := lm_40
  obtain ⟨m_61, t_62, -, k1_k_59, -, -, -, -, k14_k_59, -⟩ := id k_59
  obtain ⟨v_64, v_65, v_66, v_67, v_68, v_69, v_70, v_71, v_72, v_73, v_74, e_63, -, -, -, -, -, -, -⟩ := hW_58.at m_61 t_62
  obtain ⟨g_75, e_76, o_77⟩ := hW_58.at k1_k_59.1 k1_k_59.2
  refine v_viR hC (rest := []) m_61 e_63 rfl mi_X12_place ms_X12_place (p_X12_place hW_58 k_59 e_76 o_77) mx_X12_place ml_L_89 (by decide) rfl (cells1 := c) (slots1 := s) rfl rfl (by omega) (by omega) rfl (Nat.le_of_ble_eq_true rfl) dL_law_715 (fun r_50 L_51 f_52 f_53 h_54 g_55 g_56 => ?_)
  have e_81 := h_54.2.1
  have hl_80 := h_54.1
  subst hl_80
  have lx_78 : LM E m _ f_53 := ⟨T_57, q_60, e_81.cg g_56, k_59⟩
  have lm_79 := lx_39.cg g_55
  obtain ⟨T_84, hW_85, k_86⟩ := id lx_39
  have sx_82 : SAME f_14 f_53 x := zs_cg hW_85 k_86 g_55
  have sm_83 : MSAME f_14 f_53 m := zm_T hW_58 e_81 k_59 h_54.2.2.1 rfl g_56
  have rl_87 := RLn.step rl_49 sx_82 sm_83
  refine v_pop hC dL_law_718 rfl ?_
  refine v_goto hC dL_law_719 (tgt := 1468) (by decide) ?_
  refine v_widen (k := c + 27) (n := s + 1953) (by omega) (by omega) ?_
  exact hT _ _ _ lm_79 lx_78 rl_87
set_option maxRecDepth 100000 in
set_option maxHeartbeats 4000000 in
theorem lc_18 {z : Cz} {E : Ez} {b x m N : Nat} {xs : Nat → Int32} (hC : Cx z E cL_law RL 4 14 600000 7302250) (hX : va_X b N xs (zs z) (zs z).heap) (hbl : b < (zs z).heap.size) (hbA : ¬ zA z b) (hN : N ≤ 3072) {i : Int32} {c s : Nat} (hi : 0 ≤ i.toInt ∧ i.toInt + 6 ≤ (N : Int)) (hc : c + 27 ≤ 600000) (hs : s + 1953 ≤ 7302250) (hT : ∀ (Lx Lm : List Nat) (f : Nat → va_E), LX E x Lx f → LM E m Lm f → RLn f x m → V z E 4 (c + 27) (s + 1953) (Lx ++ Lm) f 1468 [(3, .int i), (2, .ref m), (1, .ref x), (0, .ref b)] []) {Lx Lm : List Nat} {f : Nat → va_E} (hLX : LX E x Lx f) (hLM : LM E m Lm f) (hRL : RLn f x m) : V z E 4 c s (Lx ++ Lm) f 722 [(3, .int i), (2, .ref m), (1, .ref x), (0, .ref b)] [] := by
  refine v_aload_n hC dL_law_722 rfl ?_
  refine v_aload_n hC dL_law_723 rfl ?_
  refine v_iload_n hC dL_law_724 rfl ?_
  refine v_iconst hC dL_law_725 (v := 1) (by decide) ?_
  obtain ⟨v_1, h_2⟩ : ∃ v9 : Int32, i + 1 = v9 := ⟨_, rfl⟩
  refine v_iadd hC dL_law_726 h_2 ?_
  have h_3 := add_v h_2 (by first | omega | (simp only [Int32.lt_iff_toInt_lt, Int32.le_iff_toInt_le, Int32.reduceToInt, ← Int32.toInt_inj, true_and, and_true, or_true, true_or, false_or, or_false, false_and, and_false, not_true_eq_false, not_false_eq_true] <;> omega)) (by first | omega | (simp only [Int32.lt_iff_toInt_lt, Int32.le_iff_toInt_le, Int32.reduceToInt, ← Int32.toInt_inj, true_and, and_true, or_true, true_or, false_or, or_false, false_and, and_false, not_true_eq_false, not_false_eq_true] <;> omega))
  try simp only [Int32.reduceToInt] at h_3
  obtain ⟨v_4, h_5⟩ : ∃ v9 : Int32, xs (v_1 : Int32).toNatClampNeg = v9 := ⟨_, rfl⟩
  refine v_sld hC hX hbl hbA (vp_in_iff.mpr (by omega)) h_5 dL_law_727 ?_
  refine v_swap ?_
  obtain ⟨T_13, hW_14, k_15⟩ := hLX
  obtain ⟨m_17, q_20, q_21, q_22, q_23, q_24, q_25, q_26, q_27, q_28, q_29, q_30, q_31, q_32, q_33, t_18, -, -, -, -, -, -, -, -, -, -, -, -, -, -⟩ := id k_15
  have e_19 := hW_14.at m_17 t_18
  refine v_viR hC (rest := []) m_17 e_19 rfl mi_X11_room ms_X11_room (p_X11_room hW_14 k_15) mx_X11_room ml_L_90 (by decide) rfl (cells1 := c) (slots1 := s) rfl rfl (by omega) (by omega) rfl (Nat.le_of_ble_eq_true rfl) dL_law_728 (fun r_6 L_7 f_8 f_9 h_10 g_11 g_12 => ?_)
  have e_37 := h_10.2.1
  have hl_36 := h_10.1
  subst hl_36
  have lx_34 : LX E x _ f_9 := ⟨T_13, e_37.cg g_12, k_15⟩
  have lm_35 := hLM.cg g_11
  obtain ⟨T_40, q_41, hW_42, k_43⟩ := id hLM
  have sm_39 : MSAME f f_9 m := zm_cg hW_42 k_43 g_11
  have sx_38 : SAME f f_9 x := zs_T hW_14 e_37 k_15 h_10.2.2.1 rfl g_12
  have rl_44 := RLn.step hRL sx_38 sm_39
  refine v_swap ?_
  refine v_pop hC dL_law_731 rfl ?_
  refine v_aload_n hC dL_law_732 rfl ?_
  refine v_aload_n hC dL_law_733 rfl ?_
  refine v_iload_n hC dL_law_734 rfl ?_
  refine v_iconst hC dL_law_735 (v := 1) (by decide) ?_
  refine v_iadd hC dL_law_736 h_2 ?_
  refine v_sld hC hX hbl hbA (vp_in_iff.mpr (by omega)) h_5 dL_law_737 ?_
  obtain ⟨T_52, q_55, hW_53, k_54⟩ := lm_35
  obtain ⟨m_56, t_57, -, k1_k_54, -, -, -, -, k14_k_54, -⟩ := id k_54
  obtain ⟨v_59, v_60, v_61, v_62, v_63, v_64, v_65, v_66, v_67, v_68, v_69, e_58, -, -, -, -, -, -, -⟩ := hW_53.at m_56 t_57
  obtain ⟨g_70, e_71, o_72⟩ := hW_53.at k1_k_54.1 k1_k_54.2
  refine v_viR hC (rest := []) m_56 e_58 rfl mi_X12_room ms_X12_room (p_X12_room hW_53 k_54 e_71 o_72) mx_X12_room ml_L_93 (by decide) rfl (cells1 := c) (slots1 := s) rfl rfl (by omega) (by omega) rfl (Nat.le_of_ble_eq_true rfl) dL_law_738 (fun r_45 L_46 f_47 f_48 h_49 g_50 g_51 => ?_)
  have e_76 := h_49.2.1
  have hl_75 := h_49.1
  subst hl_75
  have lx_73 : LM E m _ f_48 := ⟨T_52, q_55, e_76.cg g_51, k_54⟩
  have lm_74 := lx_34.cg g_50
  obtain ⟨T_79, hW_80, k_81⟩ := id lx_34
  have sx_77 : SAME f_9 f_48 x := zs_cg hW_80 k_81 g_50
  have sm_78 : MSAME f_9 f_48 m := zm_T hW_53 e_76 k_54 h_49.2.2.1 rfl g_51
  have rl_82 := RLn.step rl_44 sx_77 sm_78
  refine v_pop hC dL_law_741 rfl ?_
  refine v_goto hC dL_law_742 (tgt := 1468) (by decide) ?_
  refine v_widen (k := c + 27) (n := s + 1953) (by omega) (by omega) ?_
  exact hT _ _ _ lm_74 lx_73 rl_82
set_option maxRecDepth 100000 in
set_option maxHeartbeats 4000000 in
theorem lc_19 {z : Cz} {E : Ez} {b x m N : Nat} {xs : Nat → Int32} (hC : Cx z E cL_law RL 4 14 600000 7302250) (hX : va_X b N xs (zs z) (zs z).heap) (hbl : b < (zs z).heap.size) (hbA : ¬ zA z b) (hN : N ≤ 3072) {i : Int32} {c s : Nat} (hi : 0 ≤ i.toInt ∧ i.toInt + 6 ≤ (N : Int)) (hc : c + 27 ≤ 600000) (hs : s + 1953 ≤ 7302250) (hT : ∀ (Lx Lm : List Nat) (f : Nat → va_E), LX E x Lx f → LM E m Lm f → RLn f x m → V z E 4 (c + 27) (s + 1953) (Lx ++ Lm) f 1468 [(3, .int i), (2, .ref m), (1, .ref x), (0, .ref b)] []) {Lx Lm : List Nat} {f : Nat → va_E} (hLX : LX E x Lx f) (hLM : LM E m Lm f) (hRL : RLn f x m) : V z E 4 c s (Lx ++ Lm) f 745 [(3, .int i), (2, .ref m), (1, .ref x), (0, .ref b)] [] := by
  refine v_aload_n hC dL_law_745 rfl ?_
  refine v_aload_n hC dL_law_746 rfl ?_
  refine v_iload_n hC dL_law_747 rfl ?_
  refine v_iconst hC dL_law_748 (v := 1) (by decide) ?_
  obtain ⟨v_1, h_2⟩ : ∃ v9 : Int32, i + 1 = v9 := ⟨_, rfl⟩
  refine v_iadd hC dL_law_749 h_2 ?_
  have h_3 := add_v h_2 (by first | omega | (simp only [Int32.lt_iff_toInt_lt, Int32.le_iff_toInt_le, Int32.reduceToInt, ← Int32.toInt_inj, true_and, and_true, or_true, true_or, false_or, or_false, false_and, and_false, not_true_eq_false, not_false_eq_true] <;> omega)) (by first | omega | (simp only [Int32.lt_iff_toInt_lt, Int32.le_iff_toInt_le, Int32.reduceToInt, ← Int32.toInt_inj, true_and, and_true, or_true, true_or, false_or, or_false, false_and, and_false, not_true_eq_false, not_false_eq_true] <;> omega))
  try simp only [Int32.reduceToInt] at h_3
  obtain ⟨v_4, h_5⟩ : ∃ v9 : Int32, xs (v_1 : Int32).toNatClampNeg = v9 := ⟨_, rfl⟩
  refine v_sld hC hX hbl hbA (vp_in_iff.mpr (by omega)) h_5 dL_law_750 ?_
  refine v_swap ?_
  obtain ⟨T_13, hW_14, k_15⟩ := hLX
  obtain ⟨m_17, q_20, q_21, q_22, q_23, q_24, q_25, q_26, q_27, q_28, q_29, q_30, q_31, q_32, q_33, t_18, -, -, -, -, -, -, -, -, -, -, -, -, -, -⟩ := id k_15
  have e_19 := hW_14.at m_17 t_18
  refine v_viR hC (rest := []) m_17 e_19 rfl mi_X11_most ms_X11_most (p_X11_most hW_14 k_15) mx_X11_most ml_L_94 (by decide) rfl (cells1 := c) (slots1 := s) rfl rfl (by omega) (by omega) rfl (Nat.le_of_ble_eq_true rfl) dL_law_751 (fun r_6 L_7 f_8 f_9 h_10 g_11 g_12 => ?_)
  have e_37 := h_10.2.1
  have hl_36 := h_10.1
  subst hl_36
  have lx_34 : LX E x _ f_9 := ⟨T_13, e_37.cg g_12, k_15⟩
  have lm_35 := hLM.cg g_11
  obtain ⟨T_40, q_41, hW_42, k_43⟩ := id hLM
  have sm_39 : MSAME f f_9 m := zm_cg hW_42 k_43 g_11
  have sx_38 : SAME f f_9 x := zs_T hW_14 e_37 k_15 h_10.2.2.1 rfl g_12
  have rl_44 := RLn.step hRL sx_38 sm_39
  refine v_swap ?_
  refine v_pop hC dL_law_754 rfl ?_
  refine v_aload_n hC dL_law_755 rfl ?_
  refine v_aload_n hC dL_law_756 rfl ?_
  refine v_iload_n hC dL_law_757 rfl ?_
  refine v_iconst hC dL_law_758 (v := 1) (by decide) ?_
  refine v_iadd hC dL_law_759 h_2 ?_
  refine v_sld hC hX hbl hbA (vp_in_iff.mpr (by omega)) h_5 dL_law_760 ?_
  obtain ⟨T_52, q_55, hW_53, k_54⟩ := lm_35
  obtain ⟨m_56, t_57, -, k1_k_54, -, -, -, -, k14_k_54, -⟩ := id k_54
  obtain ⟨v_59, v_60, v_61, v_62, v_63, v_64, v_65, v_66, v_67, v_68, v_69, e_58, -, -, -, -, -, -, -⟩ := hW_53.at m_56 t_57
  obtain ⟨g_70, e_71, o_72⟩ := hW_53.at k1_k_54.1 k1_k_54.2
  refine v_viR hC (rest := []) m_56 e_58 rfl mi_X12_most ms_X12_most (p_X12_most hW_53 k_54 e_71 o_72) mx_X12_most ml_L_97 (by decide) rfl (cells1 := c) (slots1 := s) rfl rfl (by omega) (by omega) rfl (Nat.le_of_ble_eq_true rfl) dL_law_761 (fun r_45 L_46 f_47 f_48 h_49 g_50 g_51 => ?_)
  have e_76 := h_49.2.1
  have hl_75 := h_49.1
  subst hl_75
  have lx_73 : LM E m _ f_48 := ⟨T_52, q_55, e_76.cg g_51, k_54⟩
  have lm_74 := lx_34.cg g_50
  obtain ⟨T_79, hW_80, k_81⟩ := id lx_34
  have sx_77 : SAME f_9 f_48 x := zs_cg hW_80 k_81 g_50
  have sm_78 : MSAME f_9 f_48 m := zm_T hW_53 e_76 k_54 h_49.2.2.1 rfl g_51
  have rl_82 := RLn.step rl_44 sx_77 sm_78
  refine v_pop hC dL_law_764 rfl ?_
  refine v_goto hC dL_law_765 (tgt := 1468) (by decide) ?_
  refine v_widen (k := c + 27) (n := s + 1953) (by omega) (by omega) ?_
  exact hT _ _ _ lm_74 lx_73 rl_82
