set_option maxRecDepth 100000 in
set_option maxHeartbeats 8000000 in
theorem p_X12_gives {l : Launch} {E : Ez} {L : List Nat} {f : Nat → va_E} {T : Nat → va_E → Prop} {a_0 : Nat} {a_1 : Int32} {q : Nat → Nat} {g_w : Nat → Int32} (hW : WT T L f) (k_0 : isM T L E a_0 q) (g_1 : (0 ≤ a_1.toInt ∧ a_1.toInt ≤ 3)) (e_w : f (q 1) = aI E 2076 g_w) (o_w : WOK g_w) : CV l yX12_gives cX12_gives 3 0 0 0 E [.ref a_0, .int a_1] L f (fun L1 f1 => L = L1 ∧ WT T L f1 ∧ FR [2176] f f1) := by
  refine cv_of (by decide) (Nat.le_of_ble_eq_true rfl) (fun z hz hnm hC hR => ?_)
  have hC : Cx z E cX12_gives RX12 3 0 0 0 := hC
  subst hz
  show V z E 3 0 0 L f 0 [(0, .ref a_0), (1, .int a_1)] []
  obtain ⟨m_1, t_2, nq_21, k_3, k_4, k_5, k_6, k_7, k_8, k_9, k_10, k_11, k_12, k_13, k_14, k_15, k_16, k_17, k_18, k_19, k_20⟩ := id k_0
  obtain ⟨m_22, t_23⟩ := id k_3
  have b_24 := o_w.r0
  have b_25 := o_w.w0
  refine v_aload_n hC dX12_gives_0 rfl ?_
  obtain ⟨v_27, v_28, v_30, v_32, v_34, v_36, v_38, v_39, v_40, v_41, v_43, e_26, b_29, b_31, b_33, b_35, b_37, b_42, b_44⟩ := hW.at m_1 t_2
  refine v_get hC fl_X12_13 m_1 e_26 rfl dX12_gives_1 ?_
  refine v_sipush hC dX12_gives_4 (v := 1048) (by decide) ?_
  refine v_sipush hC dX12_gives_7 (v := 257) (by decide) ?_
  refine v_iload_n hC dX12_gives_10 rfl ?_
  obtain ⟨v_45, h_46⟩ : ∃ v9 : Int32, (257 : Int32) * a_1 = v9 := ⟨_, rfl⟩
  refine v_imul hC dX12_gives_11 h_46 ?_
  have h_47 := mul_v 257 3 771 h_46 (by decide) (by first | omega | (simp only [Int32.lt_iff_toInt_lt, Int32.le_iff_toInt_le, Int32.reduceToInt, ← Int32.toInt_inj, true_and, and_true, or_true, true_or, false_or, or_false, false_and, and_false, not_true_eq_false, not_false_eq_true] <;> omega)) (by decide) (by decide)
  try simp only [Int32.reduceToInt] at h_47
  obtain ⟨v_48, h_49⟩ : ∃ v9 : Int32, (1048 : Int32) + v_45 = v9 := ⟨_, rfl⟩
  refine v_iadd hC dX12_gives_12 h_49 ?_
  have h_50 := add_v h_49 (by first | omega | (simp only [Int32.lt_iff_toInt_lt, Int32.le_iff_toInt_le, Int32.reduceToInt, ← Int32.toInt_inj, true_and, and_true, or_true, true_or, false_or, or_false, false_and, and_false, not_true_eq_false, not_false_eq_true] <;> omega)) (by first | omega | (simp only [Int32.lt_iff_toInt_lt, Int32.le_iff_toInt_le, Int32.reduceToInt, ← Int32.toInt_inj, true_and, and_true, or_true, true_or, false_or, or_false, false_and, and_false, not_true_eq_false, not_false_eq_true] <;> omega))
  try simp only [Int32.reduceToInt] at h_50
  refine v_iconst hC dX12_gives_13 (v := 1) (by decide) ?_
  refine v_iast hC m_22 e_w (vp_in_iff.mpr (by first | omega | (simp only [Int32.lt_iff_toInt_lt, Int32.le_iff_toInt_le, Int32.reduceToInt, ← Int32.toInt_inj, true_and, and_true, or_true, true_or, false_or, or_false, false_and, and_false, not_true_eq_false, not_false_eq_true] <;> omega))) dX12_gives_14 (fun f_51 hf_52 hk_53 => ?_)
  have hW_55 := hW.up hf_52 hk_53 t_23 ⟨_, rfl, (o_w.hi (by first | omega | (simp only [Int32.lt_iff_toInt_lt, Int32.le_iff_toInt_le, Int32.reduceToInt, ← Int32.toInt_inj, true_and, and_true, or_true, true_or, false_or, or_false, false_and, and_false, not_true_eq_false, not_false_eq_true] <;> omega)))⟩
  obtain ⟨g_54, hf_52, ok_56, eg_57⟩ : ∃ g9, f_51 (q 1) = aI E 2076 g9 ∧ WOK g9 ∧ g9 = upd g_w (v_48 : Int32).toNatClampNeg 1 := ⟨_, hf_52, (o_w.hi (by first | omega | (simp only [Int32.lt_iff_toInt_lt, Int32.le_iff_toInt_le, Int32.reduceToInt, ← Int32.toInt_inj, true_and, and_true, or_true, true_or, false_or, or_false, false_and, and_false, not_true_eq_false, not_false_eq_true] <;> omega))), rfl⟩
  have b_58 := ok_56.r0
  have b_59 := ok_56.w0
  have hf_60 := (hk_53 a_0 (ne_kd e_26 e_w rfl)).trans e_26
  have fr_61 := FR.w hk_53 e_w (k := 2176) rfl
  refine v_iconst hC dX12_gives_15 (v := 0) (by decide) ?_
  refine v_istore_n hC dX12_gives_16 (by decide) (lv' := [(2, .int 0), (0, .ref a_0), (1, .int a_1)]) rfl ?_
  have lp_246 : ∀ (n_247 : Nat) (f_241 : Nat → va_E) (hW_242 : WT T L f_241) (hF_243 : FR [2176] f_51 f_241) (i_240 : Int32) (b_245 : (0 ≤ i_240.toInt ∧ i_240.toInt ≤ 256)) (hm_249 : 256 - i_240.toInt < (n_247 : Int)), V z E 3 0 0 L f_241 17 [(2, .int i_240), (0, .ref a_0), (1, .int a_1)] [] := by
    intro n_247
    induction n_247 with
    | zero =>
      intro f_241 hW_242 hF_243 i_240 b_245 hm_249
      have hf_244 := hF_243.at hf_60 rfl
      exfalso; omega
    | succ n_247 ih_248 =>
      intro f_241 hW_242 hF_243 i_240 b_245 hm_249
      have hf_244 := hF_243.at hf_60 rfl
      refine v_iload_n hC dX12_gives_17 rfl ?_
      refine v_sipush hC dX12_gives_18 (v := 256) (by decide) ?_
      refine v_icmp_ge hC dX12_gives_21 (tgt := 54) (by decide) (fun h_250 => ?_) (fun h_250 => ?_)
      · simp only [Int32.lt_iff_toInt_lt, Int32.le_iff_toInt_le, Int32.reduceToInt, ← Int32.toInt_inj] at h_250
        exact hR _ _ _ _ _ _ dX12_gives_54 (Nat.le_of_ble_eq_true rfl) (Nat.le_of_ble_eq_true rfl) ⟨rfl, hW_242, ((fr_61.tr hF_243).mono rfl)⟩
      · simp only [Int32.lt_iff_toInt_lt, Int32.le_iff_toInt_le, Int32.reduceToInt, ← Int32.toInt_inj] at h_250
        refine v_aload_n hC dX12_gives_24 rfl ?_
        refine v_get hC fl_X12_13 m_1 hf_244 rfl dX12_gives_25 ?_
        refine v_sipush hC dX12_gives_28 (v := 1048) (by decide) ?_
        refine v_sipush hC dX12_gives_31 (v := 257) (by decide) ?_
        refine v_iload_n hC dX12_gives_34 rfl ?_
        obtain ⟨v_251, h_252⟩ : ∃ v9 : Int32, (257 : Int32) * a_1 = v9 := ⟨_, rfl⟩
        refine v_imul hC dX12_gives_35 h_252 ?_
        have h_253 := mul_v 257 3 771 h_252 (by decide) (by first | omega | (simp only [Int32.lt_iff_toInt_lt, Int32.le_iff_toInt_le, Int32.reduceToInt, ← Int32.toInt_inj, true_and, and_true, or_true, true_or, false_or, or_false, false_and, and_false, not_true_eq_false, not_false_eq_true] <;> omega)) (by decide) (by decide)
        try simp only [Int32.reduceToInt] at h_253
        obtain ⟨v_254, h_255⟩ : ∃ v9 : Int32, (1048 : Int32) + v_251 = v9 := ⟨_, rfl⟩
        refine v_iadd hC dX12_gives_36 h_255 ?_
        have h_256 := add_v h_255 (by first | omega | (simp only [Int32.lt_iff_toInt_lt, Int32.le_iff_toInt_le, Int32.reduceToInt, ← Int32.toInt_inj, true_and, and_true, or_true, true_or, false_or, or_false, false_and, and_false, not_true_eq_false, not_false_eq_true] <;> omega)) (by first | omega | (simp only [Int32.lt_iff_toInt_lt, Int32.le_iff_toInt_le, Int32.reduceToInt, ← Int32.toInt_inj, true_and, and_true, or_true, true_or, false_or, or_false, false_and, and_false, not_true_eq_false, not_false_eq_true] <;> omega))
        try simp only [Int32.reduceToInt] at h_256
        refine v_iconst hC dX12_gives_37 (v := 1) (by decide) ?_
        obtain ⟨v_257, h_258⟩ : ∃ v9 : Int32, v_254 + 1 = v9 := ⟨_, rfl⟩
        refine v_iadd hC dX12_gives_38 h_258 ?_
        have h_259 := add_v h_258 (by first | omega | (simp only [Int32.lt_iff_toInt_lt, Int32.le_iff_toInt_le, Int32.reduceToInt, ← Int32.toInt_inj, true_and, and_true, or_true, true_or, false_or, or_false, false_and, and_false, not_true_eq_false, not_false_eq_true] <;> omega)) (by first | omega | (simp only [Int32.lt_iff_toInt_lt, Int32.le_iff_toInt_le, Int32.reduceToInt, ← Int32.toInt_inj, true_and, and_true, or_true, true_or, false_or, or_false, false_and, and_false, not_true_eq_false, not_false_eq_true] <;> omega))
        try simp only [Int32.reduceToInt] at h_259
        refine v_iload_n hC dX12_gives_39 rfl ?_
        obtain ⟨v_260, h_261⟩ : ∃ v9 : Int32, v_257 + i_240 = v9 := ⟨_, rfl⟩
        refine v_iadd hC dX12_gives_40 h_261 ?_
        have h_262 := add_v h_261 (by first | omega | (simp only [Int32.lt_iff_toInt_lt, Int32.le_iff_toInt_le, Int32.reduceToInt, ← Int32.toInt_inj, true_and, and_true, or_true, true_or, false_or, or_false, false_and, and_false, not_true_eq_false, not_false_eq_true] <;> omega)) (by first | omega | (simp only [Int32.lt_iff_toInt_lt, Int32.le_iff_toInt_le, Int32.reduceToInt, ← Int32.toInt_inj, true_and, and_true, or_true, true_or, false_or, or_false, false_and, and_false, not_true_eq_false, not_false_eq_true] <;> omega))
        refine v_aload_n hC dX12_gives_41 rfl ?_
        refine v_get hC fl_X12_37 m_1 hf_244 rfl dX12_gives_42 ?_
        refine v_iload_n hC dX12_gives_45 rfl ?_
        obtain ⟨m_263, t_264⟩ := id k_9
        obtain ⟨g_266, e_265⟩ := hW_242.at m_263 t_264
        obtain ⟨v_267, h_268⟩ : ∃ v9 : Int32, g_266 (i_240 : Int32).toNatClampNeg = v9 := ⟨_, rfl⟩
        refine v_iald hC m_263 e_265 (vp_in_iff.mpr (by first | omega | (simp only [Int32.lt_iff_toInt_lt, Int32.le_iff_toInt_le, Int32.reduceToInt, ← Int32.toInt_inj, true_and, and_true, or_true, true_or, false_or, or_false, false_and, and_false, not_true_eq_false, not_false_eq_true] <;> omega))) h_268 dX12_gives_46 ?_
        obtain ⟨g_270, e_269, ok_271⟩ := hW_242.at m_22 t_23
        have b_272 := ok_271.r0
        have b_273 := ok_271.w0
        refine v_iast hC m_22 e_269 (vp_in_iff.mpr (by first | omega | (simp only [Int32.lt_iff_toInt_lt, Int32.le_iff_toInt_le, Int32.reduceToInt, ← Int32.toInt_inj, true_and, and_true, or_true, true_or, false_or, or_false, false_and, and_false, not_true_eq_false, not_false_eq_true] <;> omega))) dX12_gives_47 (fun f_274 hf_275 hk_276 => ?_)
        have hW_278 := hW_242.up hf_275 hk_276 t_23 ⟨_, rfl, (ok_271.hi (by first | omega | (simp only [Int32.lt_iff_toInt_lt, Int32.le_iff_toInt_le, Int32.reduceToInt, ← Int32.toInt_inj, true_and, and_true, or_true, true_or, false_or, or_false, false_and, and_false, not_true_eq_false, not_false_eq_true] <;> omega)))⟩
        obtain ⟨g_277, hf_275, ok_279, eg_280⟩ : ∃ g9, f_274 (q 1) = aI E 2076 g9 ∧ WOK g9 ∧ g9 = upd g_270 (v_260 : Int32).toNatClampNeg v_267 := ⟨_, hf_275, (ok_271.hi (by first | omega | (simp only [Int32.lt_iff_toInt_lt, Int32.le_iff_toInt_le, Int32.reduceToInt, ← Int32.toInt_inj, true_and, and_true, or_true, true_or, false_or, or_false, false_and, and_false, not_true_eq_false, not_false_eq_true] <;> omega))), rfl⟩
        have b_281 := ok_279.r0
        have b_282 := ok_279.w0
        have hf_283 := (hk_276 a_0 (ne_kd hf_244 e_269 rfl)).trans hf_244
        have hf_284 := (hk_276 (q 15) (ne_kd e_265 e_269 rfl)).trans e_265
        have fr_285 := FR.w hk_276 e_269 (k := 2176) rfl
        obtain ⟨v_286, h_287⟩ : ∃ v9 : Int32, i_240 + Int32.ofInt 1 = v9 := ⟨_, rfl⟩
        have h_288 := add_v (b := 1) h_287 (by first | omega | (simp only [Int32.lt_iff_toInt_lt, Int32.le_iff_toInt_le, Int32.reduceToInt, ← Int32.toInt_inj, true_and, and_true, or_true, true_or, false_or, or_false, false_and, and_false, not_true_eq_false, not_false_eq_true] <;> omega)) (by first | omega | (simp only [Int32.lt_iff_toInt_lt, Int32.le_iff_toInt_le, Int32.reduceToInt, ← Int32.toInt_inj, true_and, and_true, or_true, true_or, false_or, or_false, false_and, and_false, not_true_eq_false, not_false_eq_true] <;> omega))
        simp only [Int32.reduceToInt] at h_288
        refine v_iinc hC dX12_gives_48 (k := 0) rfl (v := v_286) h_287 (by decide) (lv' := [(2, .int v_286), (0, .ref a_0), (1, .int a_1)]) rfl ?_
        refine v_goto hC dX12_gives_51 (tgt := 17) (by decide) ?_
        refine v_pick [0, 1, 2] rfl ?_
        exact ih_248 f_274 hW_278 ((hF_243.tr fr_285).mono rfl) v_286 (by first | omega | (simp only [Int32.lt_iff_toInt_lt, Int32.le_iff_toInt_le, Int32.reduceToInt, ← Int32.toInt_inj, true_and, and_true, or_true, true_or, false_or, or_false, false_and, and_false, not_true_eq_false, not_false_eq_true] <;> omega)) (by first | omega | (simp only [Int32.lt_iff_toInt_lt, Int32.le_iff_toInt_le, Int32.reduceToInt, ← Int32.toInt_inj, true_and, and_true, or_true, true_or, false_or, or_false, false_and, and_false, not_true_eq_false, not_false_eq_true] <;> omega))
  refine v_pick [0, 1, 2] rfl ?_
  exact lp_246 258 f_51 hW_55 FR.rf 0 (by decide) (by decide)
set_option maxRecDepth 100000 in
set_option maxHeartbeats 8000000 in
theorem p_X12_put {l : Launch} {E : Ez} {L : List Nat} {f : Nat → va_E} {T : Nat → va_E → Prop} {a_0 : Nat} {a_1 : Int32} {a_2 : Int32} {q : Nat → Nat} {g_w : Nat → Int32} (hW : WT T L f) (k_0 : isM T L E a_0 q) (e_w : f (q 1) = aI E 2076 g_w) (o_w : WOK g_w) : CI l yX12_put cX12_put 6 .int 6 0 0 E [.ref a_0, .int a_1, .int a_2] L f (fun r L1 f1 => L = L1 ∧ WT T L f1 ∧ FR [12, 356, 700, 2176] f f1 ∧ (¬ r.toInt = 0 ∨ (0 ≤ a_1.toInt ∧ a_1.toInt ≤ 3)) ∧ (¬ r.toInt = 0 ∨ (0 ≤ a_2.toInt ∧ a_2.toInt ≤ 5))) := by
  refine ci_of (by decide) (Nat.le_of_ble_eq_true rfl) (fun z hz hnm hC hR => ?_)
  have hC : Cx z E cX12_put RX12 6 6 0 0 := hC
  subst hz
  show V z E 6 0 0 L f 0 [(0, .ref a_0), (1, .int a_1), (2, .int a_2)] []
  obtain ⟨m_1, t_2, nq_21, k_3, k_4, k_5, k_6, k_7, k_8, k_9, k_10, k_11, k_12, k_13, k_14, k_15, k_16, k_17, k_18, k_19, k_20⟩ := id k_0
  obtain ⟨m_22, t_23⟩ := id k_3
  have b_24 := o_w.r0
  have b_25 := o_w.w0
  refine v_aload_n hC dX12_put_0 rfl ?_
  refine v_iload_n hC dX12_put_1 rfl ?_
  refine v_iload_n hC dX12_put_2 rfl ?_
  obtain ⟨v_27, v_28, v_30, v_32, v_34, v_36, v_38, v_39, v_40, v_41, v_43, e_26, b_29, b_31, b_33, b_35, b_37, b_42, b_44⟩ := hW.at m_1 t_2
  refine v_vi hC (rest := []) m_1 e_26 rfl mi_X12_asks ms_X12_asks (p_X12_asks hW k_0 e_w o_w) mx_X12_asks ml_X12_357 (by decide) rfl (cells1 := 0) (slots1 := 0) (by decide) (by decide) (Nat.le_of_ble_eq_true rfl) (Nat.le_of_ble_eq_true rfl) rfl (Nat.le_of_ble_eq_true rfl) dX12_put_3 (fun r_45 L_46 f_47 h_48 => ?_)
  obtain ⟨rfl, rfl, b_49, h_50, h_51, x_52⟩ := h_48
  try simp only [Int32.reduceToInt, Int64.reduceToInt] at x_52
  refine v_istore_n hC dX12_put_6 (by decide) (lv' := [(3, .int r_45), (0, .ref a_0), (1, .int a_1), (2, .int a_2)]) rfl ?_
  refine v_iload_n hC dX12_put_7 rfl ?_
  refine v_if_ge hC dX12_put_8 (tgt := 13) (by decide) (fun h_55 => ?_) (fun h_55 => ?_)
  · simp only [Int32.lt_iff_toInt_lt, Int32.le_iff_toInt_le, Int32.reduceToInt, ← Int32.toInt_inj] at h_55
    refine v_aload_n hC dX12_put_13 rfl ?_
    refine v_vi hC (rest := []) m_1 e_26 rfl mi_X12_readWords ms_X12_readWords (p_X12_readWords hW k_0) mx_X12_readWords ml_X12_360 (by decide) rfl (cells1 := 0) (slots1 := 0) (by decide) (by decide) (Nat.le_of_ble_eq_true rfl) (Nat.le_of_ble_eq_true rfl) rfl (Nat.le_of_ble_eq_true rfl) dX12_put_14 (fun r_56 L_57 f_58 h_59 => ?_)
    obtain ⟨rfl, hW_61, hF_62, b_60⟩ := h_59
    have hf_63 := hF_62.at e_w rfl
    refine v_istore hC dX12_put_17 (by decide) (lv' := [(4, .int r_56), (3, .int r_45), (0, .ref a_0), (1, .int a_1), (2, .int a_2)]) rfl ?_
    refine v_iload hC dX12_put_19 rfl ?_
    refine v_iconst hC dX12_put_21 (v := (-1)) (by decide) ?_
    refine v_icmp_ne hC dX12_put_22 (tgt := 28) (by decide) (fun h_64 => ?_) (fun h_64 => ?_)
    · simp only [Int32.lt_iff_toInt_lt, Int32.le_iff_toInt_le, Int32.reduceToInt, ← Int32.toInt_inj] at h_64
      refine v_iconst hC dX12_put_28 (v := 5) (by decide) ?_
      refine v_iload hC dX12_put_29 rfl ?_
      refine v_iconst hC dX12_put_31 (v := 1) (by decide) ?_
      obtain ⟨v_65, h_66⟩ : ∃ v9 : Int32, r_56 + 1 = v9 := ⟨_, rfl⟩
      refine v_iadd hC dX12_put_32 h_66 ?_
      have h_67 := add_v h_66 (by first | omega | (simp only [Int32.lt_iff_toInt_lt, Int32.le_iff_toInt_le, Int32.reduceToInt, ← Int32.toInt_inj, true_and, and_true, or_true, true_or, false_or, or_false, false_and, and_false, not_true_eq_false, not_false_eq_true] <;> omega)) (by first | omega | (simp only [Int32.lt_iff_toInt_lt, Int32.le_iff_toInt_le, Int32.reduceToInt, ← Int32.toInt_inj, true_and, and_true, or_true, true_or, false_or, or_false, false_and, and_false, not_true_eq_false, not_false_eq_true] <;> omega))
      try simp only [Int32.reduceToInt] at h_67
      obtain ⟨v_68, h_69⟩ : ∃ v9 : Int32, (5 : Int32) * v_65 = v9 := ⟨_, rfl⟩
      refine v_imul hC dX12_put_33 h_69 ?_
      have h_70 := mul_v 5 601 3005 h_69 (by decide) (by first | omega | (simp only [Int32.lt_iff_toInt_lt, Int32.le_iff_toInt_le, Int32.reduceToInt, ← Int32.toInt_inj, true_and, and_true, or_true, true_or, false_or, or_false, false_and, and_false, not_true_eq_false, not_false_eq_true] <;> omega)) (by decide) (by decide)
      try simp only [Int32.reduceToInt] at h_70
      have h_71 : 1 ≤ v_68.toInt := by rw [h_70.1]; exact Int.mul_le_mul (a := 1) (b := 1) (by first | omega | (simp only [Int32.lt_iff_toInt_lt, Int32.le_iff_toInt_le, Int32.reduceToInt, ← Int32.toInt_inj, true_and, and_true, or_true, true_or, false_or, or_false, false_and, and_false, not_true_eq_false, not_false_eq_true] <;> omega)) (by first | omega | (simp only [Int32.lt_iff_toInt_lt, Int32.le_iff_toInt_le, Int32.reduceToInt, ← Int32.toInt_inj, true_and, and_true, or_true, true_or, false_or, or_false, false_and, and_false, not_true_eq_false, not_false_eq_true] <;> omega)) (by decide) (by first | omega | (simp only [Int32.lt_iff_toInt_lt, Int32.le_iff_toInt_le, Int32.reduceToInt, ← Int32.toInt_inj, true_and, and_true, or_true, true_or, false_or, or_false, false_and, and_false, not_true_eq_false, not_false_eq_true] <;> omega))
      refine v_aload_n hC dX12_put_34 rfl ?_
      refine v_iload_n hC dX12_put_35 rfl ?_
      obtain ⟨v_73, v_74, v_76, v_78, v_80, v_82, v_84, v_85, v_86, v_87, v_89, e_72, b_75, b_77, b_79, b_81, b_83, b_88, b_90⟩ := hW_61.at m_1 t_2
      refine v_vi hC (rest := [.int v_68]) m_1 e_72 rfl mi_X12_roomOf ms_X12_roomOf (p_X12_roomOf hW_61 k_0 (by first | omega | (simp only [Int32.lt_iff_toInt_lt, Int32.le_iff_toInt_le, Int32.reduceToInt, ← Int32.toInt_inj, true_and, and_true, or_true, true_or, false_or, or_false, false_and, and_false, not_true_eq_false, not_false_eq_true] <;> omega)) hf_63 o_w (by first | omega | (simp only [Int32.lt_iff_toInt_lt, Int32.le_iff_toInt_le, Int32.reduceToInt, ← Int32.toInt_inj, true_and, and_true, or_true, true_or, false_or, or_false, false_and, and_false, not_true_eq_false, not_false_eq_true] <;> omega))) mx_X12_roomOf ml_X12_241 (by decide) rfl (cells1 := 0) (slots1 := 0) (by decide) (by decide) (Nat.le_of_ble_eq_true rfl) (Nat.le_of_ble_eq_true rfl) rfl (Nat.le_of_ble_eq_true rfl) dX12_put_36 (fun r_91 L_92 f_93 h_94 => ?_)
      obtain ⟨rfl, hW_99, hF_100, b_95, x_96, x_97, x_98⟩ := h_94
      have fe_101 : fld (f_58 a_0) 20 = (v_89 : Int32).toInt := by rw [e_72]; rfl
      have hf_102 := hF_100.at hf_63 rfl
      obtain ⟨v_104, v_105, v_107, v_109, v_111, v_113, v_115, v_116, v_117, v_118, v_120, e_103, b_106, b_108, b_110, b_112, b_114, b_119, b_121⟩ := hW_99.at m_1 t_2
      have fe_122 : fld (f_93 a_0) 20 = (v_120 : Int32).toInt := by rw [e_103]; rfl
      rw [fe_122, fe_101] at x_98
      clear fe_101 fe_122
      try simp only [Int32.reduceToInt, Int64.reduceToInt] at x_96
      try simp only [Int32.reduceToInt, Int64.reduceToInt] at x_97
      try simp only [Int32.reduceToInt, Int64.reduceToInt] at x_98
      refine v_icmp_le hC dX12_put_39 (tgt := 45) (by decide) (fun h_123 => ?_) (fun h_123 => ?_)
      · simp only [Int32.lt_iff_toInt_lt, Int32.le_iff_toInt_le, Int32.reduceToInt, ← Int32.toInt_inj] at h_123
        refine v_aload_n hC dX12_put_45 rfl ?_
        refine v_iload_n hC dX12_put_46 rfl ?_
        refine v_vv hC (rest := []) m_1 e_103 rfl mi_X12_takes0 ms_X12_takes0 (p_X12_takes0 hW_99 k_0 (by first | omega | (simp only [Int32.lt_iff_toInt_lt, Int32.le_iff_toInt_le, Int32.reduceToInt, ← Int32.toInt_inj, true_and, and_true, or_true, true_or, false_or, or_false, false_and, and_false, not_true_eq_false, not_false_eq_true] <;> omega)) hf_102 o_w) mx_X12_takes0 ml_X12_363 (by decide) rfl (cells1 := 0) (slots1 := 0) (by decide) (by decide) (Nat.le_of_ble_eq_true rfl) (Nat.le_of_ble_eq_true rfl) rfl (Nat.le_of_ble_eq_true rfl) dX12_put_47 (fun L_125 f_126 h_127 => ?_)
        obtain ⟨rfl, hW_128, hF_129⟩ := h_127
        have hf_130 := hF_129.at hf_102 rfl
        have hf_131 := hF_129.at e_103 rfl
        refine v_aload_n hC dX12_put_50 rfl ?_
        refine v_iload_n hC dX12_put_51 rfl ?_
        refine v_aload_n hC dX12_put_52 rfl ?_
        refine v_get hC fl_X12_43 m_1 hf_131 rfl dX12_put_53 ?_
        refine v_iload hC dX12_put_56 rfl ?_
        refine v_vi hC (rest := []) m_1 hf_131 rfl mi_X12_puts ms_X12_puts (p_X12_puts hW_128 k_0 (by first | omega | (simp only [Int32.lt_iff_toInt_lt, Int32.le_iff_toInt_le, Int32.reduceToInt, ← Int32.toInt_inj, true_and, and_true, or_true, true_or, false_or, or_false, false_and, and_false, not_true_eq_false, not_false_eq_true] <;> omega)) k_11 (by first | omega | (simp only [Int32.lt_iff_toInt_lt, Int32.le_iff_toInt_le, Int32.reduceToInt, ← Int32.toInt_inj, true_and, and_true, or_true, true_or, false_or, or_false, false_and, and_false, not_true_eq_false, not_false_eq_true] <;> omega)) hf_130 o_w (by first | omega | (simp only [Int32.lt_iff_toInt_lt, Int32.le_iff_toInt_le, Int32.reduceToInt, ← Int32.toInt_inj, true_and, and_true, or_true, true_or, false_or, or_false, false_and, and_false, not_true_eq_false, not_false_eq_true] <;> omega)) (fun i9 p9 q9 => x_96 i9 p9 (by omega)) (by first | omega | (simp only [Int32.lt_iff_toInt_lt, Int32.le_iff_toInt_le, Int32.reduceToInt, ← Int32.toInt_inj, true_and, and_true, or_true, true_or, false_or, or_false, false_and, and_false, not_true_eq_false, not_false_eq_true] <;> omega))) mx_X12_puts ml_X12_366 (by decide) rfl (cells1 := 0) (slots1 := 0) (by decide) (by decide) (Nat.le_of_ble_eq_true rfl) (Nat.le_of_ble_eq_true rfl) rfl (Nat.le_of_ble_eq_true rfl) dX12_put_58 (fun r_132 L_133 f_134 h_135 => ?_)
        obtain ⟨rfl, hW_136, hF_137⟩ := h_135
        have hf_138 := hF_137.at hf_130 rfl
        have hf_139 := hF_137.at hf_131 rfl
        refine v_istore hC dX12_put_61 (by decide) (lv' := [(5, .int r_132), (4, .int r_56), (3, .int r_45), (0, .ref a_0), (1, .int a_1), (2, .int a_2)]) rfl ?_
        refine v_aload_n hC dX12_put_63 rfl ?_
        refine v_iload_n hC dX12_put_64 rfl ?_
        refine v_vv hC (rest := []) m_1 hf_139 rfl mi_X12_gives ms_X12_gives (p_X12_gives hW_136 k_0 (by first | omega | (simp only [Int32.lt_iff_toInt_lt, Int32.le_iff_toInt_le, Int32.reduceToInt, ← Int32.toInt_inj, true_and, and_true, or_true, true_or, false_or, or_false, false_and, and_false, not_true_eq_false, not_false_eq_true] <;> omega)) hf_138 o_w) mx_X12_gives ml_X12_332 (by decide) rfl (cells1 := 0) (slots1 := 0) (by decide) (by decide) (Nat.le_of_ble_eq_true rfl) (Nat.le_of_ble_eq_true rfl) rfl (Nat.le_of_ble_eq_true rfl) dX12_put_65 (fun L_141 f_142 h_143 => ?_)
        obtain ⟨rfl, hW_144, hF_145⟩ := h_143
        have hf_146 := hF_145.at hf_139 rfl
        refine v_iload hC dX12_put_68 rfl ?_
        exact hR _ _ _ _ _ _ _ dX12_put_70 rfl (Nat.le_of_ble_eq_true rfl) (Nat.le_of_ble_eq_true rfl) ⟨rfl, hW_144, (((((hF_62.tr hF_100).tr hF_129).tr hF_137).tr hF_145).mono rfl), (.inr (by first | omega | (simp only [Int32.lt_iff_toInt_lt, Int32.le_iff_toInt_le, Int32.reduceToInt, ← Int32.toInt_inj, true_and, and_true, or_true, true_or, false_or, or_false, false_and, and_false, not_true_eq_false, not_false_eq_true] <;> omega))), (.inr (by first | omega | (simp only [Int32.lt_iff_toInt_lt, Int32.le_iff_toInt_le, Int32.reduceToInt, ← Int32.toInt_inj, true_and, and_true, or_true, true_or, false_or, or_false, false_and, and_false, not_true_eq_false, not_false_eq_true] <;> omega)))⟩
      · simp only [Int32.lt_iff_toInt_lt, Int32.le_iff_toInt_le, Int32.reduceToInt, ← Int32.toInt_inj] at h_123
        refine v_bipush hC dX12_put_42 (v := (-3)) (by decide) ?_
        exact hR _ _ _ _ _ _ _ dX12_put_44 rfl (Nat.le_of_ble_eq_true rfl) (Nat.le_of_ble_eq_true rfl) ⟨rfl, hW_99, ((hF_62.tr hF_100).mono rfl), (.inl (by decide)), (.inl (by decide))⟩
    · simp only [Int32.lt_iff_toInt_lt, Int32.le_iff_toInt_le, Int32.reduceToInt, ← Int32.toInt_inj] at h_64
      refine v_bipush hC dX12_put_25 (v := (-4)) (by decide) ?_
      exact hR _ _ _ _ _ _ _ dX12_put_27 rfl (Nat.le_of_ble_eq_true rfl) (Nat.le_of_ble_eq_true rfl) ⟨rfl, hW_61, (hF_62.mono rfl), (.inl (by decide)), (.inl (by decide))⟩
  · simp only [Int32.lt_iff_toInt_lt, Int32.le_iff_toInt_le, Int32.reduceToInt, ← Int32.toInt_inj] at h_55
    refine v_iload_n hC dX12_put_11 rfl ?_
    exact hR _ _ _ _ _ _ _ dX12_put_12 rfl (Nat.le_of_ble_eq_true rfl) (Nat.le_of_ble_eq_true rfl) ⟨rfl, hW, FR.rf, (by first | omega | (simp only [Int32.lt_iff_toInt_lt, Int32.le_iff_toInt_le, Int32.reduceToInt, ← Int32.toInt_inj, true_and, and_true, or_true, true_or, false_or, or_false, false_and, and_false, not_true_eq_false, not_false_eq_true] <;> omega)), (by first | omega | (simp only [Int32.lt_iff_toInt_lt, Int32.le_iff_toInt_le, Int32.reduceToInt, ← Int32.toInt_inj, true_and, and_true, or_true, true_or, false_or, or_false, false_and, and_false, not_true_eq_false, not_false_eq_true] <;> omega))⟩
set_option maxRecDepth 100000 in
set_option maxHeartbeats 8000000 in
theorem p_X12_keep {l : Launch} {E : Ez} {L : List Nat} {f : Nat → va_E} {T : Nat → va_E → Prop} {a_0 : Nat} {a_1 : Int32} {q : Nat → Nat} {g_w : Nat → Int32} (hW : WT T L f) (k_0 : isM T L E a_0 q) (e_w : f (q 1) = aI E 2076 g_w) (o_w : WOK g_w) : CI l yX12_keep cX12_keep 3 .int 1 0 0 E [.ref a_0, .int a_1] L f (fun r L1 f1 => L = L1 ∧ WT T L f1 ∧ FR [103, 6328] f f1 ∧ ((-2) ≤ r.toInt ∧ r.toInt ≤ 0) ∧ (¬ r.toInt = 0 ∨ (0 ≤ a_1.toInt ∧ a_1.toInt ≤ 2)) ∧ ((r.toInt = 0 ∧ 0 ≤ a_1.toInt ∧ a_1.toInt ≤ 2) ∨ (r.toInt = -2 ∧ (a_1.toInt < 0 ∨ 2 < a_1.toInt)))) := by
  refine ci_of (by decide) (Nat.le_of_ble_eq_true rfl) (fun z hz hnm hC hR => ?_)
  have hC : Cx z E cX12_keep RX12 3 1 0 0 := hC
  subst hz
  show V z E 3 0 0 L f 0 [(0, .ref a_0), (1, .int a_1)] []
  obtain ⟨m_1, t_2, nq_21, k_3, k_4, k_5, k_6, k_7, k_8, k_9, k_10, k_11, k_12, k_13, k_14, k_15, k_16, k_17, k_18, k_19, k_20⟩ := id k_0
  obtain ⟨m_22, t_23⟩ := id k_3
  have b_24 := o_w.r0
  have b_25 := o_w.w0
  refine v_iload_n hC dX12_keep_0 rfl ?_
  obtain ⟨v_26, h_27⟩ : ∃ v9 : Int64, a_1.toInt64 = v9 := ⟨_, rfl⟩
  refine v_i2l hC dX12_keep_1 h_27 ?_
  have h_28 : v_26.toInt = a_1.toInt := by rw [← h_27]; exact Int32.toInt_toInt64 _
  refine v_lconst hC dX12_keep_2 (v := 0) (by decide) ?_
  refine v_ldc2 hC kl_X12_77 dX12_keep_3 ?_
  refine v_si hC (rest := []) mt_X12_in (p_X12_in hW) mx_X12_in ml_X12_79 (by decide) rfl (cells1 := 0) (slots1 := 0) (by decide) (by decide) (Nat.le_of_ble_eq_true rfl) (Nat.le_of_ble_eq_true rfl) rfl (Nat.le_of_ble_eq_true rfl) dX12_keep_6 (fun r_29 L_30 f_31 h_32 => ?_)
  obtain ⟨rfl, rfl, b_33, x_34⟩ := h_32
  try simp only [Int32.reduceToInt, Int64.reduceToInt] at x_34
  refine v_if_ne hC dX12_keep_9 (tgt := 15) (by decide) (fun h_37 => ?_) (fun h_37 => ?_)
  · simp only [Int32.lt_iff_toInt_lt, Int32.le_iff_toInt_le, Int32.reduceToInt, ← Int32.toInt_inj] at h_37
    refine v_iconst hC dX12_keep_15 (v := 0) (by decide) ?_
    refine v_istore_n hC dX12_keep_16 (by decide) (lv' := [(2, .int 0), (0, .ref a_0), (1, .int a_1)]) rfl ?_
    obtain ⟨v_39, v_40, v_42, v_44, v_46, v_48, v_50, v_51, v_52, v_53, v_55, e_38, b_41, b_43, b_45, b_47, b_49, b_54, b_56⟩ := hW.at m_1 t_2
    obtain ⟨m_57, t_58⟩ := id k_4
    obtain ⟨g_60, e_59, ok_61⟩ := hW.at m_57 t_58
    have lp_70 : ∀ (n_63 : Nat) (f_66 : Nat → va_E) (i_62 : Int32) (b_69 : 0 ≤ i_62.toInt ∧ i_62.toInt ≤ 2076) (eR_67 : f_66 (q 2) = aI E 6228 (va_cpy g_w g_60 0 (2076 * a_1.toNatClampNeg) i_62.toNatClampNeg)) (kR_68 : ∀ x9, x9 ≠ (q 2) → f_66 x9 = f x9) (hm_65 : 2076 - i_62.toInt < (n_63 : Int)), V z E 3 0 0 L f_66 17 [(2, .int i_62), (0, .ref a_0), (1, .int a_1)] [] := by
      intro n_63
      induction n_63 with
      | zero =>
        intro f_66 i_62 b_69 eR_67 kR_68 hm_65
        exfalso; omega
      | succ n_63 ih_64 =>
        intro f_66 i_62 b_69 eR_67 kR_68 hm_65
        have hf_71 := (kR_68 (q 1) (ne_kd e_w e_59 rfl)).trans e_w
        have hf_72 := (kR_68 a_0 (ne_kd e_38 e_59 rfl)).trans e_38
        refine v_iload_n hC dX12_keep_17 rfl ?_
        refine v_sipush hC dX12_keep_18 (v := 2076) (by decide) ?_
        refine v_icmp_ge hC dX12_keep_21 (tgt := 48) (by decide) (fun h_73 => ?_) (fun h_73 => ?_)
        · simp only [Int32.lt_iff_toInt_lt, Int32.le_iff_toInt_le, Int32.reduceToInt, ← Int32.toInt_inj] at h_73
          obtain ⟨g_76, e_77, ok_75, eg_78⟩ : ∃ g9, f_66 (q 2) = aI E 6228 g9 ∧ IOK g9 ∧ g9 = (va_cpy g_w g_60 0 (2076 * a_1.toNatClampNeg) i_62.toNatClampNeg) := ⟨_, eR_67, (ok_61.keep o_w (k := a_1.toNatClampNeg) rfl (by rw [clamp_t]; omega)), rfl⟩
          have hW_74 := hW.up e_77 kR_68 t_58 ⟨_, rfl, ok_75⟩
          have fr_79 := FR.w kR_68 e_59 (k := 6328) rfl
          refine v_aload_n hC dX12_keep_48 rfl ?_
          refine v_get hC fl_X12_20 m_1 hf_72 rfl dX12_keep_49 ?_
          refine v_iload_n hC dX12_keep_52 rfl ?_
          refine v_iconst hC dX12_keep_53 (v := 1) (by decide) ?_
          obtain ⟨m_80, t_81⟩ := id k_5
          obtain ⟨g_83, e_82⟩ := hW_74.at m_80 t_81
          refine v_zast hC m_80 e_82 (vp_in_iff.mpr (by first | omega | (simp only [Int32.lt_iff_toInt_lt, Int32.le_iff_toInt_le, Int32.reduceToInt, ← Int32.toInt_inj, true_and, and_true, or_true, true_or, false_or, or_false, false_and, and_false, not_true_eq_false, not_false_eq_true] <;> omega))) dX12_keep_54 (fun f_84 hf_85 hk_86 => ?_)
          have hW_88 := hW_74.up hf_85 hk_86 t_81 ⟨_, rfl⟩
          obtain ⟨g_87, hf_85⟩ : ∃ g9, f_84 (q 3) = aZ E 3 g9 := ⟨_, hf_85⟩
          have hf_89 := (hk_86 (q 1) (ne_kd hf_71 e_82 rfl)).trans hf_71
          have hf_90 := (hk_86 a_0 (ne_kd hf_72 e_82 rfl)).trans hf_72
          have hf_91 := (hk_86 (q 2) (ne_kd e_77 e_82 rfl)).trans e_77
          have fr_92 := FR.w hk_86 e_82 (k := 103) rfl
          refine v_iconst hC dX12_keep_55 (v := 0) (by decide) ?_
          exact hR _ _ _ _ _ _ _ dX12_keep_56 rfl (Nat.le_of_ble_eq_true rfl) (Nat.le_of_ble_eq_true rfl) ⟨rfl, hW_88, ((fr_79.tr fr_92).mono rfl), (by decide), (.inr (by first | omega | (simp only [Int32.lt_iff_toInt_lt, Int32.le_iff_toInt_le, Int32.reduceToInt, ← Int32.toInt_inj, true_and, and_true, or_true, true_or, false_or, or_false, false_and, and_false, not_true_eq_false, not_false_eq_true] <;> omega))), (by first | omega | (simp only [Int32.lt_iff_toInt_lt, Int32.le_iff_toInt_le, Int32.reduceToInt, ← Int32.toInt_inj, true_and, and_true, or_true, true_or, false_or, or_false, false_and, and_false, not_true_eq_false, not_false_eq_true] <;> omega))⟩
        · simp only [Int32.lt_iff_toInt_lt, Int32.le_iff_toInt_le, Int32.reduceToInt, ← Int32.toInt_inj] at h_73
          refine v_aload_n hC dX12_keep_24 rfl ?_
          refine v_get hC fl_X12_17 m_1 hf_72 rfl dX12_keep_25 ?_
          refine v_sipush hC dX12_keep_28 (v := 2076) (by decide) ?_
          refine v_iload_n hC dX12_keep_31 rfl ?_
          obtain ⟨v_93, h_94⟩ : ∃ v9 : Int32, (2076 : Int32) * a_1 = v9 := ⟨_, rfl⟩
          refine v_imul hC dX12_keep_32 h_94 ?_
          have h_95 := mul_v 2076 2 4152 h_94 (by decide) (by first | omega | (simp only [Int32.lt_iff_toInt_lt, Int32.le_iff_toInt_le, Int32.reduceToInt, ← Int32.toInt_inj, true_and, and_true, or_true, true_or, false_or, or_false, false_and, and_false, not_true_eq_false, not_false_eq_true] <;> omega)) (by decide) (by decide)
          try simp only [Int32.reduceToInt] at h_95
          refine v_iload_n hC dX12_keep_33 rfl ?_
          obtain ⟨v_96, h_97⟩ : ∃ v9 : Int32, v_93 + i_62 = v9 := ⟨_, rfl⟩
          refine v_iadd hC dX12_keep_34 h_97 ?_
          have h_98 := add_v h_97 (by first | omega | (simp only [Int32.lt_iff_toInt_lt, Int32.le_iff_toInt_le, Int32.reduceToInt, ← Int32.toInt_inj, true_and, and_true, or_true, true_or, false_or, or_false, false_and, and_false, not_true_eq_false, not_false_eq_true] <;> omega)) (by first | omega | (simp only [Int32.lt_iff_toInt_lt, Int32.le_iff_toInt_le, Int32.reduceToInt, ← Int32.toInt_inj, true_and, and_true, or_true, true_or, false_or, or_false, false_and, and_false, not_true_eq_false, not_false_eq_true] <;> omega))
          refine v_aload_n hC dX12_keep_35 rfl ?_
          refine v_get hC fl_X12_13 m_1 hf_72 rfl dX12_keep_36 ?_
          refine v_iload_n hC dX12_keep_39 rfl ?_
          obtain ⟨v_99, h_100⟩ : ∃ v9 : Int32, g_w (i_62 : Int32).toNatClampNeg = v9 := ⟨_, rfl⟩
          refine v_iald hC m_22 hf_71 (vp_in_iff.mpr (by first | omega | (simp only [Int32.lt_iff_toInt_lt, Int32.le_iff_toInt_le, Int32.reduceToInt, ← Int32.toInt_inj, true_and, and_true, or_true, true_or, false_or, or_false, false_and, and_false, not_true_eq_false, not_false_eq_true] <;> omega))) h_100 dX12_keep_40 ?_
          refine v_iast hC m_57 eR_67 (vp_in_iff.mpr (by first | omega | (simp only [Int32.lt_iff_toInt_lt, Int32.le_iff_toInt_le, Int32.reduceToInt, ← Int32.toInt_inj, true_and, and_true, or_true, true_or, false_or, or_false, false_and, and_false, not_true_eq_false, not_false_eq_true] <;> omega))) dX12_keep_41 (fun f_101 hf_102 hk_103 => ?_)
          have hf_104 := (hk_103 (q 1) (ne_kd hf_71 eR_67 rfl)).trans hf_71
          have hf_105 := (hk_103 a_0 (ne_kd hf_72 eR_67 rfl)).trans hf_72
          have kr_106 : ∀ x9, x9 ≠ (q 2) → f_101 x9 = f x9 := fun x9 hx9 => (hk_103 x9 hx9).trans (kR_68 x9 hx9)
          obtain ⟨v_107, h_108⟩ : ∃ v9 : Int32, i_62 + Int32.ofInt 1 = v9 := ⟨_, rfl⟩
          have h_109 := add_v (b := 1) h_108 (by first | omega | (simp only [Int32.lt_iff_toInt_lt, Int32.le_iff_toInt_le, Int32.reduceToInt, ← Int32.toInt_inj, true_and, and_true, or_true, true_or, false_or, or_false, false_and, and_false, not_true_eq_false, not_false_eq_true] <;> omega)) (by first | omega | (simp only [Int32.lt_iff_toInt_lt, Int32.le_iff_toInt_le, Int32.reduceToInt, ← Int32.toInt_inj, true_and, and_true, or_true, true_or, false_or, or_false, false_and, and_false, not_true_eq_false, not_false_eq_true] <;> omega))
          simp only [Int32.reduceToInt] at h_109
          refine v_iinc hC dX12_keep_42 (k := 0) rfl (v := v_107) h_108 (by decide) (lv' := [(2, .int v_107), (0, .ref a_0), (1, .int a_1)]) rfl ?_
          refine v_goto hC dX12_keep_45 (tgt := 17) (by decide) ?_
          refine v_pick [0, 1, 2] rfl ?_
          have kx_110 : ∀ x9, x9 ≠ (q 2) → f_101 x9 = f x9 := fun x9 hx9 => (hk_103 x9 hx9).trans (kR_68 x9 hx9)
          exact ih_64 f_101 v_107 (by omega) (hf_102.trans (congrArg (aI E 6228) ((cpy_step (by rw [clamp_t, clamp_t, clamp_t]; omega) (by rw [← h_100, Nat.zero_add])).trans (by rw [show i_62.toNatClampNeg + 1 = v_107.toNatClampNeg from by rw [clamp_t, clamp_t]; omega])))) kx_110 (by omega)
    refine v_pick [0, 1, 2] rfl ?_
    exact lp_70 7000 f 0 (by first | omega | decide) (e_59.trans (congrArg (aI E 6228) (by simp only [Nat.sub_self, cpy_nil, clamp_0]))) (fun _ _ => rfl) (by first | omega | (simp only [Int32.reduceToInt]; omega))
  · simp only [Int32.lt_iff_toInt_lt, Int32.le_iff_toInt_le, Int32.reduceToInt, ← Int32.toInt_inj] at h_37
    refine v_bipush hC dX12_keep_12 (v := (-2)) (by decide) ?_
    exact hR _ _ _ _ _ _ _ dX12_keep_14 rfl (Nat.le_of_ble_eq_true rfl) (Nat.le_of_ble_eq_true rfl) ⟨rfl, hW, FR.rf, (by decide), (.inl (by decide)), (by first | omega | (simp only [Int32.lt_iff_toInt_lt, Int32.le_iff_toInt_le, Int32.reduceToInt, ← Int32.toInt_inj, true_and, and_true, or_true, true_or, false_or, or_false, false_and, and_false, not_true_eq_false, not_false_eq_true] <;> omega))⟩
set_option maxRecDepth 100000 in
set_option maxHeartbeats 8000000 in
theorem p_X12_back {l : Launch} {E : Ez} {L : List Nat} {f : Nat → va_E} {T : Nat → va_E → Prop} {a_0 : Nat} {a_1 : Int32} {q : Nat → Nat} {g_w : Nat → Int32} (hW : WT T L f) (k_0 : isM T L E a_0 q) (e_w : f (q 1) = aI E 2076 g_w) (o_w : WOK g_w) : CI l yX12_back cX12_back 3 .int 1 0 0 E [.ref a_0, .int a_1] L f (fun r L1 f1 => L = L1 ∧ WT T L f1 ∧ FR [2176] f f1 ∧ ((-6) ≤ r.toInt ∧ r.toInt ≤ 0) ∧ (¬ r.toInt = 0 ∨ (0 ≤ a_1.toInt ∧ a_1.toInt ≤ 2))) := by
  refine ci_of (by decide) (Nat.le_of_ble_eq_true rfl) (fun z hz hnm hC hR => ?_)
  have hC : Cx z E cX12_back RX12 3 1 0 0 := hC
  subst hz
  show V z E 3 0 0 L f 0 [(0, .ref a_0), (1, .int a_1)] []
  obtain ⟨m_1, t_2, nq_21, k_3, k_4, k_5, k_6, k_7, k_8, k_9, k_10, k_11, k_12, k_13, k_14, k_15, k_16, k_17, k_18, k_19, k_20⟩ := id k_0
  obtain ⟨m_22, t_23⟩ := id k_3
  have b_24 := o_w.r0
  have b_25 := o_w.w0
  refine v_iload_n hC dX12_back_0 rfl ?_
  obtain ⟨v_26, h_27⟩ : ∃ v9 : Int64, a_1.toInt64 = v9 := ⟨_, rfl⟩
  refine v_i2l hC dX12_back_1 h_27 ?_
  have h_28 : v_26.toInt = a_1.toInt := by rw [← h_27]; exact Int32.toInt_toInt64 _
  refine v_lconst hC dX12_back_2 (v := 0) (by decide) ?_
  refine v_ldc2 hC kl_X12_77 dX12_back_3 ?_
  refine v_si hC (rest := []) mt_X12_in (p_X12_in hW) mx_X12_in ml_X12_79 (by decide) rfl (cells1 := 0) (slots1 := 0) (by decide) (by decide) (Nat.le_of_ble_eq_true rfl) (Nat.le_of_ble_eq_true rfl) rfl (Nat.le_of_ble_eq_true rfl) dX12_back_6 (fun r_29 L_30 f_31 h_32 => ?_)
  obtain ⟨rfl, rfl, b_33, x_34⟩ := h_32
  try simp only [Int32.reduceToInt, Int64.reduceToInt] at x_34
  refine v_if_ne hC dX12_back_9 (tgt := 15) (by decide) (fun h_37 => ?_) (fun h_37 => ?_)
  · simp only [Int32.lt_iff_toInt_lt, Int32.le_iff_toInt_le, Int32.reduceToInt, ← Int32.toInt_inj] at h_37
    refine v_aload_n hC dX12_back_15 rfl ?_
    obtain ⟨v_39, v_40, v_42, v_44, v_46, v_48, v_50, v_51, v_52, v_53, v_55, e_38, b_41, b_43, b_45, b_47, b_49, b_54, b_56⟩ := hW.at m_1 t_2
    refine v_get hC fl_X12_20 m_1 e_38 rfl dX12_back_16 ?_
    refine v_iload_n hC dX12_back_19 rfl ?_
    obtain ⟨m_57, t_58⟩ := id k_5
    obtain ⟨g_60, e_59⟩ := hW.at m_57 t_58
    obtain ⟨v_61, h_62⟩ : ∃ v9 : Int32, g_60 (a_1 : Int32).toNatClampNeg = v9 := ⟨_, rfl⟩
    refine v_zald hC m_57 e_59 (vp_in_iff.mpr (by first | omega | (simp only [Int32.lt_iff_toInt_lt, Int32.le_iff_toInt_le, Int32.reduceToInt, ← Int32.toInt_inj, true_and, and_true, or_true, true_or, false_or, or_false, false_and, and_false, not_true_eq_false, not_false_eq_true] <;> omega))) h_62 dX12_back_20 ?_
    refine v_if_ne hC dX12_back_21 (tgt := 27) (by decide) (fun h_63 => ?_) (fun h_63 => ?_)
    · simp only [Int32.lt_iff_toInt_lt, Int32.le_iff_toInt_le, Int32.reduceToInt, ← Int32.toInt_inj] at h_63
      refine v_iconst hC dX12_back_27 (v := 0) (by decide) ?_
      refine v_istore_n hC dX12_back_28 (by decide) (lv' := [(2, .int 0), (0, .ref a_0), (1, .int a_1)]) rfl ?_
      obtain ⟨m_64, t_65⟩ := id k_4
      obtain ⟨g_67, e_66, ok_68⟩ := hW.at m_64 t_65
      have lp_77 : ∀ (n_70 : Nat) (f_73 : Nat → va_E) (i_69 : Int32) (b_76 : 0 ≤ i_69.toInt ∧ i_69.toInt ≤ 2076) (eR_74 : f_73 (q 1) = aI E 2076 (va_cpy g_67 g_w (2076 * a_1.toNatClampNeg) 0 i_69.toNatClampNeg)) (kR_75 : ∀ x9, x9 ≠ (q 1) → f_73 x9 = f x9) (hm_72 : 2076 - i_69.toInt < (n_70 : Int)), V z E 3 0 0 L f_73 29 [(2, .int i_69), (0, .ref a_0), (1, .int a_1)] [] := by
        intro n_70
        induction n_70 with
        | zero =>
          intro f_73 i_69 b_76 eR_74 kR_75 hm_72
          exfalso; omega
        | succ n_70 ih_71 =>
          intro f_73 i_69 b_76 eR_74 kR_75 hm_72
          have hf_78 := (kR_75 a_0 (ne_kd e_38 e_w rfl)).trans e_38
          have hf_79 := (kR_75 (q 3) (ne_kd e_59 e_w rfl)).trans e_59
          have hf_80 := (kR_75 (q 2) (ne_kd e_66 e_w rfl)).trans e_66
          refine v_iload_n hC dX12_back_29 rfl ?_
          refine v_sipush hC dX12_back_30 (v := 2076) (by decide) ?_
          refine v_icmp_ge hC dX12_back_33 (tgt := 60) (by decide) (fun h_81 => ?_) (fun h_81 => ?_)
          · simp only [Int32.lt_iff_toInt_lt, Int32.le_iff_toInt_le, Int32.reduceToInt, ← Int32.toInt_inj] at h_81
            obtain ⟨g_84, e_85, ok_83, eg_86⟩ : ∃ g9, f_73 (q 1) = aI E 2076 g9 ∧ WOK g9 ∧ g9 = (va_cpy g_67 g_w (2076 * a_1.toNatClampNeg) 0 i_69.toNatClampNeg) := ⟨_, eR_74, (WOK.back ok_68 (k := a_1.toNatClampNeg) (by rw [clamp_t]; omega) rfl (by rw [clamp_t]; omega)), rfl⟩
            have hW_82 := hW.up e_85 kR_75 t_23 ⟨_, rfl, ok_83⟩
            have fr_87 := FR.w kR_75 e_w (k := 2176) rfl
            have b_88 := ok_83.r0
            have b_89 := ok_83.w0
            refine v_iconst hC dX12_back_60 (v := 0) (by decide) ?_
            exact hR _ _ _ _ _ _ _ dX12_back_61 rfl (Nat.le_of_ble_eq_true rfl) (Nat.le_of_ble_eq_true rfl) ⟨rfl, hW_82, (fr_87.mono rfl), (by decide), (.inr (by first | omega | (simp only [Int32.lt_iff_toInt_lt, Int32.le_iff_toInt_le, Int32.reduceToInt, ← Int32.toInt_inj, true_and, and_true, or_true, true_or, false_or, or_false, false_and, and_false, not_true_eq_false, not_false_eq_true] <;> omega)))⟩
          · simp only [Int32.lt_iff_toInt_lt, Int32.le_iff_toInt_le, Int32.reduceToInt, ← Int32.toInt_inj] at h_81
            refine v_aload_n hC dX12_back_36 rfl ?_
            refine v_get hC fl_X12_13 m_1 hf_78 rfl dX12_back_37 ?_
            refine v_iload_n hC dX12_back_40 rfl ?_
            refine v_aload_n hC dX12_back_41 rfl ?_
            refine v_get hC fl_X12_17 m_1 hf_78 rfl dX12_back_42 ?_
            refine v_sipush hC dX12_back_45 (v := 2076) (by decide) ?_
            refine v_iload_n hC dX12_back_48 rfl ?_
            obtain ⟨v_90, h_91⟩ : ∃ v9 : Int32, (2076 : Int32) * a_1 = v9 := ⟨_, rfl⟩
            refine v_imul hC dX12_back_49 h_91 ?_
            have h_92 := mul_v 2076 2 4152 h_91 (by decide) (by first | omega | (simp only [Int32.lt_iff_toInt_lt, Int32.le_iff_toInt_le, Int32.reduceToInt, ← Int32.toInt_inj, true_and, and_true, or_true, true_or, false_or, or_false, false_and, and_false, not_true_eq_false, not_false_eq_true] <;> omega)) (by decide) (by decide)
            try simp only [Int32.reduceToInt] at h_92
            refine v_iload_n hC dX12_back_50 rfl ?_
            obtain ⟨v_93, h_94⟩ : ∃ v9 : Int32, v_90 + i_69 = v9 := ⟨_, rfl⟩
            refine v_iadd hC dX12_back_51 h_94 ?_
            have h_95 := add_v h_94 (by first | omega | (simp only [Int32.lt_iff_toInt_lt, Int32.le_iff_toInt_le, Int32.reduceToInt, ← Int32.toInt_inj, true_and, and_true, or_true, true_or, false_or, or_false, false_and, and_false, not_true_eq_false, not_false_eq_true] <;> omega)) (by first | omega | (simp only [Int32.lt_iff_toInt_lt, Int32.le_iff_toInt_le, Int32.reduceToInt, ← Int32.toInt_inj, true_and, and_true, or_true, true_or, false_or, or_false, false_and, and_false, not_true_eq_false, not_false_eq_true] <;> omega))
            obtain ⟨v_96, h_97⟩ : ∃ v9 : Int32, g_67 (v_93 : Int32).toNatClampNeg = v9 := ⟨_, rfl⟩
            refine v_iald hC m_64 hf_80 (vp_in_iff.mpr (by first | omega | (simp only [Int32.lt_iff_toInt_lt, Int32.le_iff_toInt_le, Int32.reduceToInt, ← Int32.toInt_inj, true_and, and_true, or_true, true_or, false_or, or_false, false_and, and_false, not_true_eq_false, not_false_eq_true] <;> omega))) h_97 dX12_back_52 ?_
            refine v_iast hC m_22 eR_74 (vp_in_iff.mpr (by first | omega | (simp only [Int32.lt_iff_toInt_lt, Int32.le_iff_toInt_le, Int32.reduceToInt, ← Int32.toInt_inj, true_and, and_true, or_true, true_or, false_or, or_false, false_and, and_false, not_true_eq_false, not_false_eq_true] <;> omega))) dX12_back_53 (fun f_98 hf_99 hk_100 => ?_)
            have hf_101 := (hk_100 a_0 (ne_kd hf_78 eR_74 rfl)).trans hf_78
            have hf_102 := (hk_100 (q 3) (ne_kd hf_79 eR_74 rfl)).trans hf_79
            have hf_103 := (hk_100 (q 2) (ne_kd hf_80 eR_74 rfl)).trans hf_80
            have kr_104 : ∀ x9, x9 ≠ (q 1) → f_98 x9 = f x9 := fun x9 hx9 => (hk_100 x9 hx9).trans (kR_75 x9 hx9)
            obtain ⟨v_105, h_106⟩ : ∃ v9 : Int32, i_69 + Int32.ofInt 1 = v9 := ⟨_, rfl⟩
            have h_107 := add_v (b := 1) h_106 (by first | omega | (simp only [Int32.lt_iff_toInt_lt, Int32.le_iff_toInt_le, Int32.reduceToInt, ← Int32.toInt_inj, true_and, and_true, or_true, true_or, false_or, or_false, false_and, and_false, not_true_eq_false, not_false_eq_true] <;> omega)) (by first | omega | (simp only [Int32.lt_iff_toInt_lt, Int32.le_iff_toInt_le, Int32.reduceToInt, ← Int32.toInt_inj, true_and, and_true, or_true, true_or, false_or, or_false, false_and, and_false, not_true_eq_false, not_false_eq_true] <;> omega))
            simp only [Int32.reduceToInt] at h_107
            refine v_iinc hC dX12_back_54 (k := 0) rfl (v := v_105) h_106 (by decide) (lv' := [(2, .int v_105), (0, .ref a_0), (1, .int a_1)]) rfl ?_
            refine v_goto hC dX12_back_57 (tgt := 29) (by decide) ?_
            refine v_pick [0, 1, 2] rfl ?_
            have kx_108 : ∀ x9, x9 ≠ (q 1) → f_98 x9 = f x9 := fun x9 hx9 => (hk_100 x9 hx9).trans (kR_75 x9 hx9)
            exact ih_71 f_98 v_105 (by omega) (hf_99.trans (congrArg (aI E 2076) ((cpy_step (by rw [clamp_t]; omega) (by rw [← h_97, show 2076 * a_1.toNatClampNeg + i_69.toNatClampNeg = v_93.toNatClampNeg from by rw [clamp_t, clamp_t, clamp_t]; omega])).trans (by rw [show i_69.toNatClampNeg + 1 = v_105.toNatClampNeg from by rw [clamp_t, clamp_t]; omega])))) kx_108 (by omega)
      refine v_pick [0, 1, 2] rfl ?_
      exact lp_77 7000 f 0 (by first | omega | decide) (e_w.trans (congrArg (aI E 2076) (by simp only [Nat.sub_self, cpy_nil, clamp_0]))) (fun _ _ => rfl) (by first | omega | (simp only [Int32.reduceToInt]; omega))
    · simp only [Int32.lt_iff_toInt_lt, Int32.le_iff_toInt_le, Int32.reduceToInt, ← Int32.toInt_inj] at h_63
      refine v_bipush hC dX12_back_24 (v := (-6)) (by decide) ?_
      exact hR _ _ _ _ _ _ _ dX12_back_26 rfl (Nat.le_of_ble_eq_true rfl) (Nat.le_of_ble_eq_true rfl) ⟨rfl, hW, FR.rf, (by decide), (.inl (by decide))⟩
  · simp only [Int32.lt_iff_toInt_lt, Int32.le_iff_toInt_le, Int32.reduceToInt, ← Int32.toInt_inj] at h_37
    refine v_bipush hC dX12_back_12 (v := (-2)) (by decide) ?_
    exact hR _ _ _ _ _ _ _ dX12_back_14 rfl (Nat.le_of_ble_eq_true rfl) (Nat.le_of_ble_eq_true rfl) ⟨rfl, hW, FR.rf, (by decide), (.inl (by decide))⟩
set_option maxRecDepth 100000 in
set_option maxHeartbeats 8000000 in
theorem p_X12_hand {l : Launch} {E : Ez} {L : List Nat} {f : Nat → va_E} {T : Nat → va_E → Prop} {a_0 : Nat} {q : Nat → Nat} (hW : WT T L f) (k_0 : isM T L E a_0 q) : CI l yX12_hand cX12_hand 1 .int 8 0 0 E [.ref a_0] L f (fun r L1 f1 => L = L1 ∧ WT T L f1 ∧ FR [12, 2176] f f1 ∧ ((-4) ≤ r.toInt ∧ r.toInt ≤ 0)) := by
  refine ci_of (by decide) (Nat.le_of_ble_eq_true rfl) (fun z hz hnm hC hR => ?_)
  have hC : Cx z E cX12_hand RX12 1 8 0 0 := hC
  subst hz
  show V z E 1 0 0 L f 0 [(0, .ref a_0)] []
  obtain ⟨m_1, t_2, nq_21, k_3, k_4, k_5, k_6, k_7, k_8, k_9, k_10, k_11, k_12, k_13, k_14, k_15, k_16, k_17, k_18, k_19, k_20⟩ := id k_0
  refine v_aload_n hC dX12_hand_0 rfl ?_
  obtain ⟨v_23, v_24, v_26, v_28, v_30, v_32, v_34, v_35, v_36, v_37, v_39, e_22, b_25, b_27, b_29, b_31, b_33, b_38, b_40⟩ := hW.at m_1 t_2
  refine v_vv hC (rest := []) m_1 e_22 rfl mi_X12_begin ms_X12_begin (p_X12_begin hW k_0) mx_X12_begin ml_X12_181 (by decide) rfl (cells1 := 0) (slots1 := 0) (by decide) (by decide) (Nat.le_of_ble_eq_true rfl) (Nat.le_of_ble_eq_true rfl) rfl (Nat.le_of_ble_eq_true rfl) dX12_hand_1 (fun L_42 f_43 h_44 => ?_)
  obtain ⟨rfl, hW_46, hF_47, x_45, -, -⟩ := h_44
  obtain ⟨v_49, v_50, v_52, v_54, v_56, v_58, v_60, v_61, v_62, v_63, v_65, e_48, b_51, b_53, b_55, b_57, b_59, b_64, b_66⟩ := hW_46.at m_1 t_2
  have fe_67 : fld (f_43 a_0) 12 = (v_61 : Int32).toInt := by rw [e_48]; rfl
  rw [fe_67] at x_45
  clear fe_67
  refine v_aload_n hC dX12_hand_4 rfl ?_
  refine v_vv hC (rest := []) m_1 e_48 rfl mi_X12_advance ms_X12_advance (p_X12_advance hW_46 k_0) mx_X12_advance ml_X12_156 (by decide) rfl (cells1 := 0) (slots1 := 0) (by decide) (by decide) (Nat.le_of_ble_eq_true rfl) (Nat.le_of_ble_eq_true rfl) rfl (Nat.le_of_ble_eq_true rfl) dX12_hand_5 (fun L_69 f_70 h_71 => ?_)
  obtain ⟨rfl, hW_73, hF_74, -, -, x_72, -⟩ := h_71
  have fe_75 : fld (f_43 a_0) 12 = (v_61 : Int32).toInt := by rw [e_48]; rfl
  obtain ⟨v_77, v_78, v_80, v_82, v_84, v_86, v_88, v_89, v_90, v_91, v_93, e_76, b_79, b_81, b_83, b_85, b_87, b_92, b_94⟩ := hW_73.at m_1 t_2
  have fe_95 : fld (f_70 a_0) 12 = (v_89 : Int32).toInt := by rw [e_76]; rfl
  rw [fe_95, fe_75] at x_72
  clear fe_75 fe_95
  refine v_aload_n hC dX12_hand_8 rfl ?_
  refine v_ldcS hC sr_X12_210 dX12_hand_9 ?_
  refine v_vv hC (rest := []) m_1 e_76 rfl mi_X12_needs ms_X12_needs (p_X12_needs hW_73 k_0 (by decide)) mx_X12_needs ml_X12_166 (by decide) rfl (cells1 := 0) (slots1 := 0) (by decide) (by decide) (Nat.le_of_ble_eq_true rfl) (Nat.le_of_ble_eq_true rfl) rfl (Nat.le_of_ble_eq_true rfl) dX12_hand_11 (fun L_97 f_98 h_99 => ?_)
  obtain ⟨rfl, hW_101, hF_102, -, -, x_100, -, -⟩ := h_99
  have fe_103 : fld (f_70 a_0) 12 = (v_89 : Int32).toInt := by rw [e_76]; rfl
  obtain ⟨v_105, v_106, v_108, v_110, v_112, v_114, v_116, v_117, v_118, v_119, v_121, e_104, b_107, b_109, b_111, b_113, b_115, b_120, b_122⟩ := hW_101.at m_1 t_2
  have fe_123 : fld (f_98 a_0) 12 = (v_117 : Int32).toInt := by rw [e_104]; rfl
  rw [fe_123, fe_103] at x_100
  clear fe_103 fe_123
  refine v_aload_n hC dX12_hand_14 rfl ?_
  refine v_get hC fl_X12_34 m_1 e_104 rfl dX12_hand_15 ?_
  refine v_bipush hC dX12_hand_18 (v := 10) (by decide) ?_
  refine v_aload_n hC dX12_hand_20 rfl ?_
  refine v_ldcS hC sr_X12_212 dX12_hand_21 ?_
  refine v_iconst hC dX12_hand_23 (v := 0) (by decide) ?_
  refine v_bipush hC dX12_hand_24 (v := 100) (by decide) ?_
  refine v_vi hC (rest := [.int 10, .ref (q 14)]) m_1 e_104 rfl mi_X12_told ms_X12_told (p_X12_told hW_101 k_0 (by decide)) mx_X12_told ml_X12_189 (by decide) rfl (cells1 := 0) (slots1 := 0) (by decide) (by decide) (Nat.le_of_ble_eq_true rfl) (Nat.le_of_ble_eq_true rfl) rfl (Nat.le_of_ble_eq_true rfl) dX12_hand_26 (fun r_124 L_125 f_126 h_127 => ?_)
  obtain ⟨rfl, hW_129, hF_130, x_128, -, -, -, -, -⟩ := h_127
  have fe_131 : fld (f_98 a_0) 12 = (v_117 : Int32).toInt := by rw [e_104]; rfl
  obtain ⟨v_133, v_134, v_136, v_138, v_140, v_142, v_144, v_145, v_146, v_147, v_149, e_132, b_135, b_137, b_139, b_141, b_143, b_148, b_150⟩ := hW_129.at m_1 t_2
  have fe_151 : fld (f_126 a_0) 12 = (v_145 : Int32).toInt := by rw [e_132]; rfl
  rw [fe_151, fe_131] at x_128
  clear fe_131 fe_151
  try simp only [Int32.reduceToInt, Int64.reduceToInt] at x_128
  obtain ⟨m_152, t_153⟩ := id k_8
  obtain ⟨g_155, e_154, ok_156⟩ := hW_129.at m_152 t_153
  refine v_iast hC m_152 e_154 (vp_in_iff.mpr (by decide)) dX12_hand_29 (fun f_157 hf_158 hk_159 => ?_)
  have hW_161 := hW_129.up hf_158 hk_159 t_153 ⟨_, rfl, (ok_156.up (i := 10) (by decide) (fun q1 q2 => absurd (And.intro q1 q2) (by decide)) (fun k9 q1 q2 q3 => by simp only [Int32.reduceToInt] at q3; omega))⟩
  obtain ⟨g_160, hf_158, ok_162, eg_163⟩ : ∃ g9, f_157 (q 14) = aI E 2076 g9 ∧ FOK g9 ∧ g9 = upd g_155 (10 : Int32).toNatClampNeg r_124 := ⟨_, hf_158, (ok_156.up (i := 10) (by decide) (fun q1 q2 => absurd (And.intro q1 q2) (by decide)) (fun k9 q1 q2 q3 => by simp only [Int32.reduceToInt] at q3; omega)), rfl⟩
  have hf_164 := (hk_159 a_0 (ne_kd e_132 e_154 rfl)).trans e_132
  have fr_165 := FR.w hk_159 e_154 (k := 2176) rfl
  refine v_aload_n hC dX12_hand_30 rfl ?_
  refine v_get hC fl_X12_34 m_1 hf_164 rfl dX12_hand_31 ?_
  refine v_bipush hC dX12_hand_34 (v := 11) (by decide) ?_
  refine v_aload_n hC dX12_hand_36 rfl ?_
  refine v_ldcS hC sr_X12_214 dX12_hand_37 ?_
  refine v_iconst hC dX12_hand_39 (v := 0) (by decide) ?_
  refine v_bipush hC dX12_hand_40 (v := 100) (by decide) ?_
  refine v_vi hC (rest := [.int 11, .ref (q 14)]) m_1 hf_164 rfl mi_X12_told ms_X12_told (p_X12_told hW_161 k_0 (by decide)) mx_X12_told ml_X12_189 (by decide) rfl (cells1 := 0) (slots1 := 0) (by decide) (by decide) (Nat.le_of_ble_eq_true rfl) (Nat.le_of_ble_eq_true rfl) rfl (Nat.le_of_ble_eq_true rfl) dX12_hand_42 (fun r_166 L_167 f_168 h_169 => ?_)
  obtain ⟨rfl, hW_171, hF_172, x_170, -, -, -, -, -⟩ := h_169
  have fe_173 : fld (f_157 a_0) 12 = (v_145 : Int32).toInt := by rw [hf_164]; rfl
  have hf_174 := hF_172.at hf_158 rfl
  obtain ⟨v_176, v_177, v_179, v_181, v_183, v_185, v_187, v_188, v_189, v_190, v_192, e_175, b_178, b_180, b_182, b_184, b_186, b_191, b_193⟩ := hW_171.at m_1 t_2
  have fe_194 : fld (f_168 a_0) 12 = (v_188 : Int32).toInt := by rw [e_175]; rfl
  rw [fe_194, fe_173] at x_170
  clear fe_173 fe_194
  try simp only [Int32.reduceToInt, Int64.reduceToInt] at x_170
  refine v_iast hC m_152 hf_174 (vp_in_iff.mpr (by decide)) dX12_hand_45 (fun f_195 hf_196 hk_197 => ?_)
  have hW_199 := hW_171.up hf_196 hk_197 t_153 ⟨_, rfl, (ok_162.up (i := 11) (by decide) (fun q1 q2 => absurd (And.intro q1 q2) (by decide)) (fun k9 q1 q2 q3 => by simp only [Int32.reduceToInt] at q3; omega))⟩
  obtain ⟨g_198, hf_196, ok_200, eg_201⟩ : ∃ g9, f_195 (q 14) = aI E 2076 g9 ∧ FOK g9 ∧ g9 = upd g_160 (11 : Int32).toNatClampNeg r_166 := ⟨_, hf_196, (ok_162.up (i := 11) (by decide) (fun q1 q2 => absurd (And.intro q1 q2) (by decide)) (fun k9 q1 q2 q3 => by simp only [Int32.reduceToInt] at q3; omega)), rfl⟩
  have hf_202 := (hk_197 a_0 (ne_kd e_175 hf_174 rfl)).trans e_175
  have fr_203 := FR.w hk_197 hf_174 (k := 2176) rfl
  refine v_aload_n hC dX12_hand_46 rfl ?_
  refine v_get hC fl_X12_34 m_1 hf_202 rfl dX12_hand_47 ?_
  refine v_bipush hC dX12_hand_50 (v := 12) (by decide) ?_
  refine v_aload_n hC dX12_hand_52 rfl ?_
  refine v_ldcS hC sr_X12_216 dX12_hand_53 ?_
  refine v_iconst hC dX12_hand_55 (v := 0) (by decide) ?_
  refine v_bipush hC dX12_hand_56 (v := 100) (by decide) ?_
  refine v_vi hC (rest := [.int 12, .ref (q 14)]) m_1 hf_202 rfl mi_X12_told ms_X12_told (p_X12_told hW_199 k_0 (by decide)) mx_X12_told ml_X12_189 (by decide) rfl (cells1 := 0) (slots1 := 0) (by decide) (by decide) (Nat.le_of_ble_eq_true rfl) (Nat.le_of_ble_eq_true rfl) rfl (Nat.le_of_ble_eq_true rfl) dX12_hand_58 (fun r_204 L_205 f_206 h_207 => ?_)
  obtain ⟨rfl, hW_209, hF_210, x_208, -, -, -, -, -⟩ := h_207
  have fe_211 : fld (f_195 a_0) 12 = (v_188 : Int32).toInt := by rw [hf_202]; rfl
  have hf_212 := hF_210.at hf_196 rfl
  obtain ⟨v_214, v_215, v_217, v_219, v_221, v_223, v_225, v_226, v_227, v_228, v_230, e_213, b_216, b_218, b_220, b_222, b_224, b_229, b_231⟩ := hW_209.at m_1 t_2
  have fe_232 : fld (f_206 a_0) 12 = (v_226 : Int32).toInt := by rw [e_213]; rfl
  rw [fe_232, fe_211] at x_208
  clear fe_211 fe_232
  try simp only [Int32.reduceToInt, Int64.reduceToInt] at x_208
  refine v_iast hC m_152 hf_212 (vp_in_iff.mpr (by decide)) dX12_hand_61 (fun f_233 hf_234 hk_235 => ?_)
  have hW_237 := hW_209.up hf_234 hk_235 t_153 ⟨_, rfl, (ok_200.up (i := 12) (by decide) (fun q1 q2 => absurd (And.intro q1 q2) (by decide)) (fun k9 q1 q2 q3 => by simp only [Int32.reduceToInt] at q3; omega))⟩
  obtain ⟨g_236, hf_234, ok_238, eg_239⟩ : ∃ g9, f_233 (q 14) = aI E 2076 g9 ∧ FOK g9 ∧ g9 = upd g_198 (12 : Int32).toNatClampNeg r_204 := ⟨_, hf_234, (ok_200.up (i := 12) (by decide) (fun q1 q2 => absurd (And.intro q1 q2) (by decide)) (fun k9 q1 q2 q3 => by simp only [Int32.reduceToInt] at q3; omega)), rfl⟩
  have hf_240 := (hk_235 a_0 (ne_kd e_213 hf_212 rfl)).trans e_213
  have fr_241 := FR.w hk_235 hf_212 (k := 2176) rfl
  refine v_aload_n hC dX12_hand_62 rfl ?_
  refine v_vv hC (rest := []) m_1 hf_240 rfl mi_X12_ends ms_X12_ends (p_X12_ends hW_237 k_0) mx_X12_ends ml_X12_178 (by decide) rfl (cells1 := 0) (slots1 := 0) (by decide) (by decide) (Nat.le_of_ble_eq_true rfl) (Nat.le_of_ble_eq_true rfl) rfl (Nat.le_of_ble_eq_true rfl) dX12_hand_63 (fun L_243 f_244 h_245 => ?_)
  obtain ⟨rfl, hW_247, hF_248, x_246, -, -, -, -⟩ := h_245
  have fe_249 : fld (f_233 a_0) 12 = (v_226 : Int32).toInt := by rw [hf_240]; rfl
  have hf_250 := hF_248.at hf_234 rfl
  obtain ⟨v_252, v_253, v_255, v_257, v_259, v_261, v_263, v_264, v_265, v_266, v_268, e_251, b_254, b_256, b_258, b_260, b_262, b_267, b_269⟩ := hW_247.at m_1 t_2
  have fe_270 : fld (f_244 a_0) 12 = (v_264 : Int32).toInt := by rw [e_251]; rfl
  rw [fe_270, fe_249] at x_246
  clear fe_249 fe_270
  refine v_aload_n hC dX12_hand_66 rfl ?_
  refine v_vv hC (rest := []) m_1 e_251 rfl mi_X12_endsAll ms_X12_endsAll (p_X12_endsAll hW_247 k_0) mx_X12_endsAll ml_X12_218 (by decide) rfl (cells1 := 0) (slots1 := 0) (by decide) (by decide) (Nat.le_of_ble_eq_true rfl) (Nat.le_of_ble_eq_true rfl) rfl (Nat.le_of_ble_eq_true rfl) dX12_hand_67 (fun L_272 f_273 h_274 => ?_)
  obtain ⟨rfl, hW_276, hF_277, x_275, -⟩ := h_274
  have fe_278 : fld (f_244 a_0) 12 = (v_264 : Int32).toInt := by rw [e_251]; rfl
  have hf_279 := hF_277.at hf_250 rfl
  obtain ⟨v_281, v_282, v_284, v_286, v_288, v_290, v_292, v_293, v_294, v_295, v_297, e_280, b_283, b_285, b_287, b_289, b_291, b_296, b_298⟩ := hW_276.at m_1 t_2
  have fe_299 : fld (f_273 a_0) 12 = (v_293 : Int32).toInt := by rw [e_280]; rfl
  rw [fe_299, fe_278] at x_275
  clear fe_278 fe_299
  refine v_aload_n hC dX12_hand_70 rfl ?_
  refine v_vi hC (rest := []) m_1 e_280 rfl mi_X12_good ms_X12_good (p_X12_good hW_276 k_0) mx_X12_good ml_X12_139 (by decide) rfl (cells1 := 0) (slots1 := 0) (by decide) (by decide) (Nat.le_of_ble_eq_true rfl) (Nat.le_of_ble_eq_true rfl) rfl (Nat.le_of_ble_eq_true rfl) dX12_hand_71 (fun r_300 L_301 f_302 h_303 => ?_)
  obtain ⟨rfl, rfl, b_304, x_305⟩ := h_303
  have fe_308 : fld (f_273 a_0) 12 = (v_293 : Int32).toInt := by rw [e_280]; rfl
  rw [fe_308] at x_305
  clear fe_308
  try simp only [Int32.reduceToInt, Int64.reduceToInt] at x_305
  refine v_if_ne hC dX12_hand_74 (tgt := 80) (by decide) (fun h_309 => ?_) (fun h_309 => ?_)
  · simp only [Int32.lt_iff_toInt_lt, Int32.le_iff_toInt_le, Int32.reduceToInt, ← Int32.toInt_inj] at h_309
    refine v_aload_n hC dX12_hand_80 rfl ?_
    refine v_bipush hC dX12_hand_81 (v := 10) (by decide) ?_
    refine v_bipush hC dX12_hand_83 (v := 13) (by decide) ?_
    obtain ⟨m_310, t_311⟩ := id k_3
    obtain ⟨g_313, e_312, ok_314⟩ := hW_276.at m_310 t_311
    have b_315 := ok_314.r0
    have b_316 := ok_314.w0
    refine v_vv hC (rest := []) m_1 e_280 rfl mi_X12_keeps ms_X12_keeps (p_X12_keeps k_0 e_280 e_312 hf_279 (by decide)) mx_X12_keeps ml_X12_197 (by decide) rfl (cells1 := 0) (slots1 := 0) (by decide) (by decide) (Nat.le_of_ble_eq_true rfl) (Nat.le_of_ble_eq_true rfl) rfl (Nat.le_of_ble_eq_true rfl) dX12_hand_85 (fun L_318 f_319 h_320 => ?_)
    obtain ⟨rfl, hf_321, hk_322⟩ := h_320
    have hf_323 := (hk_322 (q 14) nq_21.symm).trans hf_279
    have hf_324 := (hk_322 a_0 (ne_kd e_280 e_312 rfl)).trans e_280
    obtain ⟨g_327, e_328, ok_326, eg_329⟩ : ∃ g9, f_319 (q 1) = aI E 2076 g9 ∧ WOK g9 ∧ g9 = (va_cpy g_236 g_313 (10 : Int32).toNatClampNeg (10 : Int32).toNatClampNeg ((13 : Int32).toNatClampNeg - (10 : Int32).toNatClampNeg)) := ⟨_, hf_321, (WOK.hand ok_314 rfl rfl), rfl⟩
    have hW_325 := hW_276.up e_328 hk_322 t_311 ⟨_, rfl, ok_326⟩
    have fr_330 := FR.w hk_322 e_312 (k := 2176) rfl
    have b_331 := ok_326.r0
    have b_332 := ok_326.w0
    refine v_iconst hC dX12_hand_88 (v := 0) (by decide) ?_
    exact hR _ _ _ _ _ _ _ dX12_hand_89 rfl (Nat.le_of_ble_eq_true rfl) (Nat.le_of_ble_eq_true rfl) ⟨rfl, hW_325, ((((((((((((hF_47.tr hF_74).tr hF_102).tr hF_130).tr fr_165).tr hF_172).tr fr_203).tr hF_210).tr fr_241).tr hF_248).tr hF_277).tr fr_330).mono rfl), (by decide)⟩
  · simp only [Int32.lt_iff_toInt_lt, Int32.le_iff_toInt_le, Int32.reduceToInt, ← Int32.toInt_inj] at h_309
    refine v_bipush hC dX12_hand_77 (v := (-4)) (by decide) ?_
    exact hR _ _ _ _ _ _ _ dX12_hand_79 rfl (Nat.le_of_ble_eq_true rfl) (Nat.le_of_ble_eq_true rfl) ⟨rfl, hW_276, (((((((((((hF_47.tr hF_74).tr hF_102).tr hF_130).tr fr_165).tr hF_172).tr fr_203).tr hF_210).tr fr_241).tr hF_248).tr hF_277).mono rfl), (by decide)⟩
set_option maxRecDepth 100000 in
set_option maxHeartbeats 8000000 in
theorem p_X12_way {l : Launch} {E : Ez} {L : List Nat} {f : Nat → va_E} {T : Nat → va_E → Prop} {a_0 : Nat} {a_1 : Int32} {q : Nat → Nat} (hW : WT T L f) (k_0 : isM T L E a_0 q) : CI l yX12_way cX12_way 4 .int 7 0 0 E [.ref a_0, .int a_1] L f (fun r L1 f1 => L = L1 ∧ WT T L f1 ∧ FR [12, 356, 2176] f f1 ∧ ((-4) ≤ r.toInt ∧ r.toInt ≤ 256) ∧ (¬ r.toInt = 0 ∨ (0 ≤ a_1.toInt ∧ a_1.toInt ≤ 5))) := by
  refine ci_of (by decide) (Nat.le_of_ble_eq_true rfl) (fun z hz hnm hC hR => ?_)
  have hC : Cx z E cX12_way RX12 4 7 0 0 := hC
  subst hz
  show V z E 4 0 0 L f 0 [(0, .ref a_0), (1, .int a_1)] []
  obtain ⟨m_1, t_2, nq_21, k_3, k_4, k_5, k_6, k_7, k_8, k_9, k_10, k_11, k_12, k_13, k_14, k_15, k_16, k_17, k_18, k_19, k_20⟩ := id k_0
  refine v_iload_n hC dX12_way_0 rfl ?_
  refine v_si hC (rest := []) mt_X12_isWay (p_X12_isWay hW) mx_X12_isWay ml_X12_221 (by decide) rfl (cells1 := 0) (slots1 := 0) (by decide) (by decide) (Nat.le_of_ble_eq_true rfl) (Nat.le_of_ble_eq_true rfl) rfl (Nat.le_of_ble_eq_true rfl) dX12_way_1 (fun r_22 L_23 f_24 h_25 => ?_)
  obtain ⟨rfl, rfl, b_26, h_27⟩ := h_25
  refine v_if_ne hC dX12_way_4 (tgt := 10) (by decide) (fun h_30 => ?_) (fun h_30 => ?_)
  · simp only [Int32.lt_iff_toInt_lt, Int32.le_iff_toInt_le, Int32.reduceToInt, ← Int32.toInt_inj] at h_30
    refine v_aload_n hC dX12_way_10 rfl ?_
    obtain ⟨v_32, v_33, v_35, v_37, v_39, v_41, v_43, v_44, v_45, v_46, v_48, e_31, b_34, b_36, b_38, b_40, b_42, b_47, b_49⟩ := hW.at m_1 t_2
    refine v_vv hC (rest := []) m_1 e_31 rfl mi_X12_begin ms_X12_begin (p_X12_begin hW k_0) mx_X12_begin ml_X12_181 (by decide) rfl (cells1 := 0) (slots1 := 0) (by decide) (by decide) (Nat.le_of_ble_eq_true rfl) (Nat.le_of_ble_eq_true rfl) rfl (Nat.le_of_ble_eq_true rfl) dX12_way_11 (fun L_51 f_52 h_53 => ?_)
    obtain ⟨rfl, hW_55, hF_56, x_54, -, -⟩ := h_53
    obtain ⟨v_58, v_59, v_61, v_63, v_65, v_67, v_69, v_70, v_71, v_72, v_74, e_57, b_60, b_62, b_64, b_66, b_68, b_73, b_75⟩ := hW_55.at m_1 t_2
    have fe_76 : fld (f_52 a_0) 12 = (v_70 : Int32).toInt := by rw [e_57]; rfl
    rw [fe_76] at x_54
    clear fe_76
    refine v_aload_n hC dX12_way_14 rfl ?_
    refine v_vv hC (rest := []) m_1 e_57 rfl mi_X12_advance ms_X12_advance (p_X12_advance hW_55 k_0) mx_X12_advance ml_X12_156 (by decide) rfl (cells1 := 0) (slots1 := 0) (by decide) (by decide) (Nat.le_of_ble_eq_true rfl) (Nat.le_of_ble_eq_true rfl) rfl (Nat.le_of_ble_eq_true rfl) dX12_way_15 (fun L_78 f_79 h_80 => ?_)
    obtain ⟨rfl, hW_82, hF_83, -, -, x_81, -⟩ := h_80
    have fe_84 : fld (f_52 a_0) 12 = (v_70 : Int32).toInt := by rw [e_57]; rfl
    obtain ⟨v_86, v_87, v_89, v_91, v_93, v_95, v_97, v_98, v_99, v_100, v_102, e_85, b_88, b_90, b_92, b_94, b_96, b_101, b_103⟩ := hW_82.at m_1 t_2
    have fe_104 : fld (f_79 a_0) 12 = (v_98 : Int32).toInt := by rw [e_85]; rfl
    rw [fe_104, fe_84] at x_81
    clear fe_84 fe_104
    refine v_aload_n hC dX12_way_18 rfl ?_
    refine v_ldcS hC sr_X12_224 dX12_way_19 ?_
    refine v_vv hC (rest := []) m_1 e_85 rfl mi_X12_needs ms_X12_needs (p_X12_needs hW_82 k_0 (by decide)) mx_X12_needs ml_X12_166 (by decide) rfl (cells1 := 0) (slots1 := 0) (by decide) (by decide) (Nat.le_of_ble_eq_true rfl) (Nat.le_of_ble_eq_true rfl) rfl (Nat.le_of_ble_eq_true rfl) dX12_way_21 (fun L_106 f_107 h_108 => ?_)
    obtain ⟨rfl, hW_110, hF_111, -, -, x_109, -, -⟩ := h_108
    have fe_112 : fld (f_79 a_0) 12 = (v_98 : Int32).toInt := by rw [e_85]; rfl
    obtain ⟨v_114, v_115, v_117, v_119, v_121, v_123, v_125, v_126, v_127, v_128, v_130, e_113, b_116, b_118, b_120, b_122, b_124, b_129, b_131⟩ := hW_110.at m_1 t_2
    have fe_132 : fld (f_107 a_0) 12 = (v_126 : Int32).toInt := by rw [e_113]; rfl
    rw [fe_132, fe_112] at x_109
    clear fe_112 fe_132
    refine v_aload_n hC dX12_way_24 rfl ?_
    refine v_ldcS hC sr_X12_226 dX12_way_25 ?_
    refine v_vv hC (rest := []) m_1 e_113 rfl mi_X12_needs ms_X12_needs (p_X12_needs hW_110 k_0 (by decide)) mx_X12_needs ml_X12_166 (by decide) rfl (cells1 := 0) (slots1 := 0) (by decide) (by decide) (Nat.le_of_ble_eq_true rfl) (Nat.le_of_ble_eq_true rfl) rfl (Nat.le_of_ble_eq_true rfl) dX12_way_27 (fun L_134 f_135 h_136 => ?_)
    obtain ⟨rfl, hW_138, hF_139, -, -, x_137, -, -⟩ := h_136
    have fe_140 : fld (f_107 a_0) 12 = (v_126 : Int32).toInt := by rw [e_113]; rfl
    obtain ⟨v_142, v_143, v_145, v_147, v_149, v_151, v_153, v_154, v_155, v_156, v_158, e_141, b_144, b_146, b_148, b_150, b_152, b_157, b_159⟩ := hW_138.at m_1 t_2
    have fe_160 : fld (f_135 a_0) 12 = (v_154 : Int32).toInt := by rw [e_141]; rfl
    rw [fe_160, fe_140] at x_137
    clear fe_140 fe_160
    refine v_bipush hC dX12_way_30 (v := 120) (by decide) ?_
    refine v_bipush hC dX12_way_32 (v := 7) (by decide) ?_
    refine v_iload_n hC dX12_way_34 rfl ?_
    obtain ⟨v_161, h_162⟩ : ∃ v9 : Int32, (7 : Int32) * a_1 = v9 := ⟨_, rfl⟩
    refine v_imul hC dX12_way_35 h_162 ?_
    have h_163 := mul_v 7 5 35 h_162 (by decide) (by first | omega | (simp only [Int32.lt_iff_toInt_lt, Int32.le_iff_toInt_le, Int32.reduceToInt, ← Int32.toInt_inj, true_and, and_true, or_true, true_or, false_or, or_false, false_and, and_false, not_true_eq_false, not_false_eq_true] <;> omega)) (by decide) (by decide)
    try simp only [Int32.reduceToInt] at h_163
    obtain ⟨v_164, h_165⟩ : ∃ v9 : Int32, (120 : Int32) + v_161 = v9 := ⟨_, rfl⟩
    refine v_iadd hC dX12_way_36 h_165 ?_
    have h_166 := add_v h_165 (by first | omega | (simp only [Int32.lt_iff_toInt_lt, Int32.le_iff_toInt_le, Int32.reduceToInt, ← Int32.toInt_inj, true_and, and_true, or_true, true_or, false_or, or_false, false_and, and_false, not_true_eq_false, not_false_eq_true] <;> omega)) (by first | omega | (simp only [Int32.lt_iff_toInt_lt, Int32.le_iff_toInt_le, Int32.reduceToInt, ← Int32.toInt_inj, true_and, and_true, or_true, true_or, false_or, or_false, false_and, and_false, not_true_eq_false, not_false_eq_true] <;> omega))
    try simp only [Int32.reduceToInt] at h_166
    have aq_1 : 0 ≤ a_1.toInt ∧ a_1.toInt ≤ 5 := by omega
    have aq_2 : v_164.toInt = 120 + 7 * a_1.toInt := by omega
    refine v_istore_n hC dX12_way_37 (by decide) (lv' := [(2, .int v_164), (0, .ref a_0), (1, .int a_1)]) rfl ?_
    refine v_aload_n hC dX12_way_38 rfl ?_
    obtain ⟨m_167, t_168⟩ := id k_3
    obtain ⟨g_170, e_169, ok_171⟩ := hW_138.at m_167 t_168
    have b_172 := ok_171.r0
    have b_173 := ok_171.w0
    refine v_vi hC (rest := []) m_1 e_141 rfl mi_X12_sortsHere ms_X12_sortsHere (p_X12_sortsHere hW_138 k_0 e_169 ok_171) mx_X12_sortsHere ml_X12_228 (by decide) rfl (cells1 := 0) (slots1 := 0) (by decide) (by decide) (Nat.le_of_ble_eq_true rfl) (Nat.le_of_ble_eq_true rfl) rfl (Nat.le_of_ble_eq_true rfl) dX12_way_39 (fun r_174 L_175 f_176 h_177 => ?_)
    obtain ⟨rfl, rfl⟩ := h_177
    refine v_istore_n hC dX12_way_42 (by decide) (lv' := [(3, .int r_174), (2, .int v_164), (0, .ref a_0), (1, .int a_1)]) rfl ?_
    refine v_iload_n hC dX12_way_43 rfl ?_
    refine v_iconst hC dX12_way_44 (v := (-1)) (by decide) ?_
    have jn_209 : ∀ (f_210 : Nat → va_E) (hW_211 : WT T L f_210) (hF_212 : FR [12] f_135 f_210) , V z E 4 0 0 L f_210 53 [(3, .int r_174), (2, .int v_164), (0, .ref a_0), (1, .int a_1)] [] := by
      intro f_210 hW_211 hF_212
      have hf_213 := hF_212.at e_169 rfl
      clear b_26 h_27 h_30 b_34 b_36 b_38 b_40 b_42 b_47 b_49 b_60 b_62 b_64 b_66 b_68 b_73 b_75 x_54 b_88 b_90 b_92 b_94 b_96 b_101 b_103 x_81 b_116 b_118 b_120 b_122 b_124 b_129 b_131 x_109 b_144 b_146 b_148 b_150 b_152 b_157
      clear b_159 x_137 h_163 h_166
      refine v_aload_n hC dX12_way_53 rfl ?_
      obtain ⟨v_215, v_216, v_218, v_220, v_222, v_224, v_226, v_227, v_228, v_229, v_231, e_214, b_217, b_219, b_221, b_223, b_225, b_230, b_232⟩ := hW_211.at m_1 t_2
      refine v_vi hC (rest := []) m_1 e_214 rfl mi_X12_good ms_X12_good (p_X12_good hW_211 k_0) mx_X12_good ml_X12_139 (by decide) rfl (cells1 := 0) (slots1 := 0) (by decide) (by decide) (Nat.le_of_ble_eq_true rfl) (Nat.le_of_ble_eq_true rfl) rfl (Nat.le_of_ble_eq_true rfl) dX12_way_54 (fun r_233 L_234 f_235 h_236 => ?_)
      obtain ⟨rfl, rfl, b_237, x_238⟩ := h_236
      have fe_241 : fld (f_210 a_0) 12 = (v_227 : Int32).toInt := by rw [e_214]; rfl
      rw [fe_241] at x_238
      clear fe_241
      try simp only [Int32.reduceToInt, Int64.reduceToInt] at x_238
      have jn_272 : ∀ (f_273 : Nat → va_E) (hW_274 : WT T L f_273) (hF_275 : FR [12] f_210 f_273) , V z E 4 0 0 L f_273 64 [(3, .int r_174), (2, .int v_164), (0, .ref a_0), (1, .int a_1)] [] := by
        intro f_273 hW_274 hF_275
        have hf_276 := hF_275.at hf_213 rfl
        clear b_217 b_219 b_221 b_223 b_225 b_230 b_232 x_238 b_237
        refine v_aload_n hC dX12_way_64 rfl ?_
        obtain ⟨v_278, v_279, v_281, v_283, v_285, v_287, v_289, v_290, v_291, v_292, v_294, e_277, b_280, b_282, b_284, b_286, b_288, b_293, b_295⟩ := hW_274.at m_1 t_2
        refine v_get hC fl_X12_34 m_1 e_277 rfl dX12_way_65 ?_
        refine v_iload_n hC dX12_way_68 rfl ?_
        refine v_iconst hC dX12_way_69 (v := 1) (by decide) ?_
        obtain ⟨m_296, t_297⟩ := id k_8
        obtain ⟨g_299, e_298, ok_300⟩ := hW_274.at m_296 t_297
        refine v_iast hC m_296 e_298 (vp_in_iff.mpr (by first | omega | (simp only [Int32.lt_iff_toInt_lt, Int32.le_iff_toInt_le, Int32.reduceToInt, ← Int32.toInt_inj, true_and, and_true, or_true, true_or, false_or, or_false, false_and, and_false, not_true_eq_false, not_false_eq_true] <;> omega))) dX12_way_70 (fun f_301 hf_302 hk_303 => ?_)
        have hW_305 := hW_274.up hf_302 hk_303 t_297 ⟨_, rfl, (ok_300.up (by first | omega | (simp only [Int32.lt_iff_toInt_lt, Int32.le_iff_toInt_le, Int32.reduceToInt, ← Int32.toInt_inj, true_and, and_true, or_true, true_or, false_or, or_false, false_and, and_false, not_true_eq_false, not_false_eq_true] <;> omega)) (fun q1 q2 => (by first | omega | (simp only [Int32.lt_iff_toInt_lt, Int32.le_iff_toInt_le, Int32.reduceToInt, ← Int32.toInt_inj] at *; omega))) (fun k9 q1 q2 q3 => (by first | omega | (simp only [Int32.lt_iff_toInt_lt, Int32.le_iff_toInt_le, Int32.reduceToInt, ← Int32.toInt_inj] at *; omega))))⟩
        obtain ⟨g_304, hf_302, ok_306, eg_307⟩ : ∃ g9, f_301 (q 14) = aI E 2076 g9 ∧ FOK g9 ∧ g9 = upd g_299 (v_164 : Int32).toNatClampNeg 1 := ⟨_, hf_302, (ok_300.up (by first | omega | (simp only [Int32.lt_iff_toInt_lt, Int32.le_iff_toInt_le, Int32.reduceToInt, ← Int32.toInt_inj, true_and, and_true, or_true, true_or, false_or, or_false, false_and, and_false, not_true_eq_false, not_false_eq_true] <;> omega)) (fun q1 q2 => (by first | omega | (simp only [Int32.lt_iff_toInt_lt, Int32.le_iff_toInt_le, Int32.reduceToInt, ← Int32.toInt_inj] at *; omega))) (fun k9 q1 q2 q3 => (by first | omega | (simp only [Int32.lt_iff_toInt_lt, Int32.le_iff_toInt_le, Int32.reduceToInt, ← Int32.toInt_inj] at *; omega)))), rfl⟩
        have hf_308 := (hk_303 a_0 (ne_kd e_277 e_298 rfl)).trans e_277
        have fr_309 := FR.w hk_303 e_298 (k := 2176) rfl
        have wt_310 := wv_upd_eq (k := a_1) (j := 0) eg_307 (by omega) (by decide) (by simp only [Int32.reduceToInt]; omega)
        simp only [Int32.reduceToInt] at wt_310
        have wt_311 := wv_upd_ne (k := a_1) (j := 2) eg_307 (by omega) (by decide) (by omega) (by simp only [Int32.reduceToInt]; omega)
        have wt_312 := wv_upd_ne (k := a_1) (j := 3) eg_307 (by omega) (by decide) (by omega) (by simp only [Int32.reduceToInt]; omega)
        have wt_313 := wv_upd_ne (k := a_1) (j := 4) eg_307 (by omega) (by decide) (by omega) (by simp only [Int32.reduceToInt]; omega)
        refine v_aload_n hC dX12_way_71 rfl ?_
        refine v_get hC fl_X12_34 m_1 hf_308 rfl dX12_way_72 ?_
        refine v_iload_n hC dX12_way_75 rfl ?_
        refine v_iconst hC dX12_way_76 (v := 1) (by decide) ?_
        obtain ⟨v_314, h_315⟩ : ∃ v9 : Int32, v_164 + 1 = v9 := ⟨_, rfl⟩
        refine v_iadd hC dX12_way_77 h_315 ?_
        have h_316 := add_v h_315 (by first | omega | (simp only [Int32.lt_iff_toInt_lt, Int32.le_iff_toInt_le, Int32.reduceToInt, ← Int32.toInt_inj, true_and, and_true, or_true, true_or, false_or, or_false, false_and, and_false, not_true_eq_false, not_false_eq_true] <;> omega)) (by first | omega | (simp only [Int32.lt_iff_toInt_lt, Int32.le_iff_toInt_le, Int32.reduceToInt, ← Int32.toInt_inj, true_and, and_true, or_true, true_or, false_or, or_false, false_and, and_false, not_true_eq_false, not_false_eq_true] <;> omega))
        try simp only [Int32.reduceToInt] at h_316
        refine v_iload_n hC dX12_way_78 rfl ?_
        refine v_iast hC m_296 hf_302 (vp_in_iff.mpr (by first | omega | (simp only [Int32.lt_iff_toInt_lt, Int32.le_iff_toInt_le, Int32.reduceToInt, ← Int32.toInt_inj, true_and, and_true, or_true, true_or, false_or, or_false, false_and, and_false, not_true_eq_false, not_false_eq_true] <;> omega))) dX12_way_79 (fun f_317 hf_318 hk_319 => ?_)
        have hW_321 := hW_305.up hf_318 hk_319 t_297 ⟨_, rfl, (ok_306.up (by first | omega | (simp only [Int32.lt_iff_toInt_lt, Int32.le_iff_toInt_le, Int32.reduceToInt, ← Int32.toInt_inj, true_and, and_true, or_true, true_or, false_or, or_false, false_and, and_false, not_true_eq_false, not_false_eq_true] <;> omega)) (fun q1 q2 => (by first | omega | (simp only [Int32.lt_iff_toInt_lt, Int32.le_iff_toInt_le, Int32.reduceToInt, ← Int32.toInt_inj] at *; omega))) (fun k9 q1 q2 q3 => (by first | omega | (simp only [Int32.lt_iff_toInt_lt, Int32.le_iff_toInt_le, Int32.reduceToInt, ← Int32.toInt_inj] at *; omega))))⟩
        obtain ⟨g_320, hf_318, ok_322, eg_323⟩ : ∃ g9, f_317 (q 14) = aI E 2076 g9 ∧ FOK g9 ∧ g9 = upd g_304 (v_314 : Int32).toNatClampNeg r_174 := ⟨_, hf_318, (ok_306.up (by first | omega | (simp only [Int32.lt_iff_toInt_lt, Int32.le_iff_toInt_le, Int32.reduceToInt, ← Int32.toInt_inj, true_and, and_true, or_true, true_or, false_or, or_false, false_and, and_false, not_true_eq_false, not_false_eq_true] <;> omega)) (fun q1 q2 => (by first | omega | (simp only [Int32.lt_iff_toInt_lt, Int32.le_iff_toInt_le, Int32.reduceToInt, ← Int32.toInt_inj] at *; omega))) (fun k9 q1 q2 q3 => (by first | omega | (simp only [Int32.lt_iff_toInt_lt, Int32.le_iff_toInt_le, Int32.reduceToInt, ← Int32.toInt_inj] at *; omega)))), rfl⟩
        have hf_324 := (hk_319 a_0 (ne_kd hf_308 hf_302 rfl)).trans hf_308
        have fr_325 := FR.w hk_319 hf_302 (k := 2176) rfl
        have wt_326 := wv_upd_ne (k := a_1) (j := 0) eg_323 (by omega) (by decide) (by omega) (by simp only [Int32.reduceToInt]; omega)
        have wt_327 := wv_upd_ne (k := a_1) (j := 2) eg_323 (by omega) (by decide) (by omega) (by simp only [Int32.reduceToInt]; omega)
        have wt_328 := wv_upd_ne (k := a_1) (j := 3) eg_323 (by omega) (by decide) (by omega) (by simp only [Int32.reduceToInt]; omega)
        have wt_329 := wv_upd_ne (k := a_1) (j := 4) eg_323 (by omega) (by decide) (by omega) (by simp only [Int32.reduceToInt]; omega)
        refine v_aload_n hC dX12_way_80 rfl ?_
        refine v_get hC fl_X12_34 m_1 hf_324 rfl dX12_way_81 ?_
        refine v_iload_n hC dX12_way_84 rfl ?_
        refine v_iconst hC dX12_way_85 (v := 2) (by decide) ?_
        obtain ⟨v_330, h_331⟩ : ∃ v9 : Int32, v_164 + 2 = v9 := ⟨_, rfl⟩
        refine v_iadd hC dX12_way_86 h_331 ?_
        have h_332 := add_v h_331 (by first | omega | (simp only [Int32.lt_iff_toInt_lt, Int32.le_iff_toInt_le, Int32.reduceToInt, ← Int32.toInt_inj, true_and, and_true, or_true, true_or, false_or, or_false, false_and, and_false, not_true_eq_false, not_false_eq_true] <;> omega)) (by first | omega | (simp only [Int32.lt_iff_toInt_lt, Int32.le_iff_toInt_le, Int32.reduceToInt, ← Int32.toInt_inj, true_and, and_true, or_true, true_or, false_or, or_false, false_and, and_false, not_true_eq_false, not_false_eq_true] <;> omega))
        try simp only [Int32.reduceToInt] at h_332
        refine v_aload_n hC dX12_way_87 rfl ?_
        refine v_ldcS hC sr_X12_231 dX12_way_88 ?_
        refine v_vi hC (rest := [.int v_330, .ref (q 14)]) m_1 hf_324 rfl mi_X12_takes ms_X12_takes (p_X12_takes hW_321 k_0 (by decide)) mx_X12_takes ml_X12_159 (by decide) rfl (cells1 := 0) (slots1 := 0) (by decide) (by decide) (Nat.le_of_ble_eq_true rfl) (Nat.le_of_ble_eq_true rfl) rfl (Nat.le_of_ble_eq_true rfl) dX12_way_90 (fun r_333 L_334 f_335 h_336 => ?_)
        obtain ⟨rfl, hW_338, hF_339, rfl, -, -, x_337, -⟩ := h_336
        have fe_340 : fld (f_317 a_0) 12 = (v_290 : Int32).toInt := by rw [hf_324]; rfl
        have hf_341 := hF_339.at hf_318 rfl
        obtain ⟨v_343, v_344, v_346, v_348, v_350, v_352, v_354, v_355, v_356, v_357, v_359, e_342, b_345, b_347, b_349, b_351, b_353, b_358, b_360⟩ := hW_338.at m_1 t_2
        have fe_361 : fld (f_335 a_0) 12 = (v_355 : Int32).toInt := by rw [e_342]; rfl
        rw [fe_361, fe_340] at x_337
        clear fe_340 fe_361
        try simp only [Int32.reduceToInt, Int64.reduceToInt] at x_337
        have jn_392 : ∀ (f_394 : Nat → va_E) (hW_395 : WT T L f_394) (hF_396 : FR [12] f_335 f_394) (v_393 : Int32) (jv_398 : wvf (f_394 (q 14)) a_1 0 = 1) (jv_400 : (¬ fld (f_394 a_0) 12 = 0 ∨ (1 ≤ (v_393 : Int32).toInt ∧ (v_393 : Int32).toInt ≤ 9))), V z E 4 0 0 L f_394 107 [(2, .int v_164), (0, .ref a_0), (1, .int a_1)] [.int v_393, .int v_330, .ref (q 14)] := by
          intro f_394 hW_395 hF_396 v_393 jv_398 jv_400
          have hf_397 := hF_396.at hf_341 rfl
          clear b_280 b_282 b_284 b_286 b_288 b_293 b_295 wt_310 wt_311 wt_312 wt_313 h_316 wt_326 wt_327 wt_328 wt_329 b_345 b_347 b_349 b_351 b_353 b_358 b_360 x_337
          have we_399 : wvf (f_394 (q 14)) a_1 0 = (wv g_320 a_1 0).toInt := by rw [hf_397]; rfl
          rw [we_399] at jv_398
          obtain ⟨v_402, v_403, v_405, v_407, v_409, v_411, v_413, v_414, v_415, v_416, v_418, e_401, b_404, b_406, b_408, b_410, b_412, b_417, b_419⟩ := hW_395.at m_1 t_2
          have fe_420 : fld (f_394 a_0) 12 = (v_414 : Int32).toInt := by rw [e_401]; rfl
          rw [fe_420] at jv_400
          refine v_iast hC m_296 hf_397 (vp_in_iff.mpr (by first | omega | (simp only [Int32.lt_iff_toInt_lt, Int32.le_iff_toInt_le, Int32.reduceToInt, ← Int32.toInt_inj, true_and, and_true, or_true, true_or, false_or, or_false, false_and, and_false, not_true_eq_false, not_false_eq_true] <;> omega))) dX12_way_107 (fun f_421 hf_422 hk_423 => ?_)
          have hW_425 := hW_395.up hf_422 hk_423 t_297 ⟨_, rfl, (ok_322.up (by first | omega | (simp only [Int32.lt_iff_toInt_lt, Int32.le_iff_toInt_le, Int32.reduceToInt, ← Int32.toInt_inj, true_and, and_true, or_true, true_or, false_or, or_false, false_and, and_false, not_true_eq_false, not_false_eq_true] <;> omega)) (fun q1 q2 => (by first | omega | (simp only [Int32.lt_iff_toInt_lt, Int32.le_iff_toInt_le, Int32.reduceToInt, ← Int32.toInt_inj] at *; omega))) (fun k9 q1 q2 q3 => (by first | omega | (simp only [Int32.lt_iff_toInt_lt, Int32.le_iff_toInt_le, Int32.reduceToInt, ← Int32.toInt_inj] at *; omega))))⟩
          obtain ⟨g_424, hf_422, ok_426, eg_427⟩ : ∃ g9, f_421 (q 14) = aI E 2076 g9 ∧ FOK g9 ∧ g9 = upd g_320 (v_330 : Int32).toNatClampNeg v_393 := ⟨_, hf_422, (ok_322.up (by first | omega | (simp only [Int32.lt_iff_toInt_lt, Int32.le_iff_toInt_le, Int32.reduceToInt, ← Int32.toInt_inj, true_and, and_true, or_true, true_or, false_or, or_false, false_and, and_false, not_true_eq_false, not_false_eq_true] <;> omega)) (fun q1 q2 => (by first | omega | (simp only [Int32.lt_iff_toInt_lt, Int32.le_iff_toInt_le, Int32.reduceToInt, ← Int32.toInt_inj] at *; omega))) (fun k9 q1 q2 q3 => (by first | omega | (simp only [Int32.lt_iff_toInt_lt, Int32.le_iff_toInt_le, Int32.reduceToInt, ← Int32.toInt_inj] at *; omega)))), rfl⟩
          have hf_428 := (hk_423 a_0 (ne_kd e_401 hf_397 rfl)).trans e_401
          have fr_429 := FR.w hk_423 hf_397 (k := 2176) rfl
          have wt_430 := wv_upd_ne (k := a_1) (j := 0) eg_427 (by omega) (by decide) (by omega) (by simp only [Int32.reduceToInt]; omega)
          have wt_431 := wv_upd_eq (k := a_1) (j := 2) eg_427 (by omega) (by decide) (by simp only [Int32.reduceToInt]; omega)
          have wt_432 := wv_upd_ne (k := a_1) (j := 3) eg_427 (by omega) (by decide) (by omega) (by simp only [Int32.reduceToInt]; omega)
          have wt_433 := wv_upd_ne (k := a_1) (j := 4) eg_427 (by omega) (by decide) (by omega) (by simp only [Int32.reduceToInt]; omega)
          refine v_aload_n hC dX12_way_108 rfl ?_
          refine v_get hC fl_X12_34 m_1 hf_428 rfl dX12_way_109 ?_
          refine v_iload_n hC dX12_way_112 rfl ?_
          refine v_iconst hC dX12_way_113 (v := 3) (by decide) ?_
          obtain ⟨v_434, h_435⟩ : ∃ v9 : Int32, v_164 + 3 = v9 := ⟨_, rfl⟩
          refine v_iadd hC dX12_way_114 h_435 ?_
          have h_436 := add_v h_435 (by first | omega | (simp only [Int32.lt_iff_toInt_lt, Int32.le_iff_toInt_le, Int32.reduceToInt, ← Int32.toInt_inj, true_and, and_true, or_true, true_or, false_or, or_false, false_and, and_false, not_true_eq_false, not_false_eq_true] <;> omega)) (by first | omega | (simp only [Int32.lt_iff_toInt_lt, Int32.le_iff_toInt_le, Int32.reduceToInt, ← Int32.toInt_inj, true_and, and_true, or_true, true_or, false_or, or_false, false_and, and_false, not_true_eq_false, not_false_eq_true] <;> omega))
          try simp only [Int32.reduceToInt] at h_436
          refine v_aload_n hC dX12_way_115 rfl ?_
          refine v_ldcS hC sr_X12_233 dX12_way_116 ?_
          refine v_vi hC (rest := [.int v_434, .ref (q 14)]) m_1 hf_428 rfl mi_X12_takes ms_X12_takes (p_X12_takes hW_425 k_0 (by decide)) mx_X12_takes ml_X12_159 (by decide) rfl (cells1 := 0) (slots1 := 0) (by decide) (by decide) (Nat.le_of_ble_eq_true rfl) (Nat.le_of_ble_eq_true rfl) rfl (Nat.le_of_ble_eq_true rfl) dX12_way_118 (fun r_437 L_438 f_439 h_440 => ?_)
          obtain ⟨rfl, hW_442, hF_443, rfl, -, -, x_441, -⟩ := h_440
          have fe_444 : fld (f_421 a_0) 12 = (v_414 : Int32).toInt := by rw [hf_428]; rfl
          have hf_445 := hF_443.at hf_422 rfl
          obtain ⟨v_447, v_448, v_450, v_452, v_454, v_456, v_458, v_459, v_460, v_461, v_463, e_446, b_449, b_451, b_453, b_455, b_457, b_462, b_464⟩ := hW_442.at m_1 t_2
          have fe_465 : fld (f_439 a_0) 12 = (v_459 : Int32).toInt := by rw [e_446]; rfl
          rw [fe_465, fe_444] at x_441
          clear fe_444 fe_465
          try simp only [Int32.reduceToInt, Int64.reduceToInt] at x_441
          have jn_496 : ∀ (f_498 : Nat → va_E) (hW_499 : WT T L f_498) (hF_500 : FR [12] f_439 f_498) (v_497 : Int32) (jv_502 : wvf (f_498 (q 14)) a_1 0 = 1) (jv_504 : (¬ fld (f_498 a_0) 12 = 0 ∨ (1 ≤ wvf (f_498 (q 14)) a_1 2 ∧ wvf (f_498 (q 14)) a_1 2 ≤ 9))) (jv_526 : (¬ fld (f_498 a_0) 12 = 0 ∨ (1 ≤ (v_497 : Int32).toInt ∧ (v_497 : Int32).toInt ≤ 5))), V z E 4 0 0 L f_498 134 [(2, .int v_164), (0, .ref a_0), (1, .int a_1)] [.int v_497, .int v_434, .ref (q 14)] := by
            intro f_498 hW_499 hF_500 v_497 jv_502 jv_504 jv_526
            have hf_501 := hF_500.at hf_445 rfl
            clear h_332 b_404 b_406 b_408 b_410 b_412 b_417 b_419 wt_430 wt_431 wt_432 wt_433 b_449 b_451 b_453 b_455 b_457 b_462 b_464 x_441
            have we_503 : wvf (f_498 (q 14)) a_1 0 = (wv g_424 a_1 0).toInt := by rw [hf_501]; rfl
            rw [we_503] at jv_502
            obtain ⟨v_506, v_507, v_509, v_511, v_513, v_515, v_517, v_518, v_519, v_520, v_522, e_505, b_508, b_510, b_512, b_514, b_516, b_521, b_523⟩ := hW_499.at m_1 t_2
            have fe_524 : fld (f_498 a_0) 12 = (v_518 : Int32).toInt := by rw [e_505]; rfl
            have we_525 : wvf (f_498 (q 14)) a_1 2 = (wv g_424 a_1 2).toInt := by rw [hf_501]; rfl
            rw [fe_524, we_525] at jv_504
            have fe_527 : fld (f_498 a_0) 12 = (v_518 : Int32).toInt := by rw [e_505]; rfl
            rw [fe_527] at jv_526
            refine v_iast hC m_296 hf_501 (vp_in_iff.mpr (by first | omega | (simp only [Int32.lt_iff_toInt_lt, Int32.le_iff_toInt_le, Int32.reduceToInt, ← Int32.toInt_inj, true_and, and_true, or_true, true_or, false_or, or_false, false_and, and_false, not_true_eq_false, not_false_eq_true] <;> omega))) dX12_way_134 (fun f_528 hf_529 hk_530 => ?_)
            have hW_532 := hW_499.up hf_529 hk_530 t_297 ⟨_, rfl, (ok_426.up (by first | omega | (simp only [Int32.lt_iff_toInt_lt, Int32.le_iff_toInt_le, Int32.reduceToInt, ← Int32.toInt_inj, true_and, and_true, or_true, true_or, false_or, or_false, false_and, and_false, not_true_eq_false, not_false_eq_true] <;> omega)) (fun q1 q2 => (by first | omega | (simp only [Int32.lt_iff_toInt_lt, Int32.le_iff_toInt_le, Int32.reduceToInt, ← Int32.toInt_inj] at *; omega))) (fun k9 q1 q2 q3 => (by first | omega | (simp only [Int32.lt_iff_toInt_lt, Int32.le_iff_toInt_le, Int32.reduceToInt, ← Int32.toInt_inj] at *; omega))))⟩
            obtain ⟨g_531, hf_529, ok_533, eg_534⟩ : ∃ g9, f_528 (q 14) = aI E 2076 g9 ∧ FOK g9 ∧ g9 = upd g_424 (v_434 : Int32).toNatClampNeg v_497 := ⟨_, hf_529, (ok_426.up (by first | omega | (simp only [Int32.lt_iff_toInt_lt, Int32.le_iff_toInt_le, Int32.reduceToInt, ← Int32.toInt_inj, true_and, and_true, or_true, true_or, false_or, or_false, false_and, and_false, not_true_eq_false, not_false_eq_true] <;> omega)) (fun q1 q2 => (by first | omega | (simp only [Int32.lt_iff_toInt_lt, Int32.le_iff_toInt_le, Int32.reduceToInt, ← Int32.toInt_inj] at *; omega))) (fun k9 q1 q2 q3 => (by first | omega | (simp only [Int32.lt_iff_toInt_lt, Int32.le_iff_toInt_le, Int32.reduceToInt, ← Int32.toInt_inj] at *; omega)))), rfl⟩
            have hf_535 := (hk_530 a_0 (ne_kd e_505 hf_501 rfl)).trans e_505
            have fr_536 := FR.w hk_530 hf_501 (k := 2176) rfl
            have wt_537 := wv_upd_ne (k := a_1) (j := 0) eg_534 (by omega) (by decide) (by omega) (by simp only [Int32.reduceToInt]; omega)
            have wt_538 := wv_upd_ne (k := a_1) (j := 2) eg_534 (by omega) (by decide) (by omega) (by simp only [Int32.reduceToInt]; omega)
            have wt_539 := wv_upd_eq (k := a_1) (j := 3) eg_534 (by omega) (by decide) (by simp only [Int32.reduceToInt]; omega)
            have wt_540 := wv_upd_ne (k := a_1) (j := 4) eg_534 (by omega) (by decide) (by omega) (by simp only [Int32.reduceToInt]; omega)
            refine v_aload_n hC dX12_way_135 rfl ?_
            refine v_get hC fl_X12_34 m_1 hf_535 rfl dX12_way_136 ?_
            refine v_iload_n hC dX12_way_139 rfl ?_
            refine v_iconst hC dX12_way_140 (v := 4) (by decide) ?_
            obtain ⟨v_541, h_542⟩ : ∃ v9 : Int32, v_164 + 4 = v9 := ⟨_, rfl⟩
            refine v_iadd hC dX12_way_141 h_542 ?_
            have h_543 := add_v h_542 (by first | omega | (simp only [Int32.lt_iff_toInt_lt, Int32.le_iff_toInt_le, Int32.reduceToInt, ← Int32.toInt_inj, true_and, and_true, or_true, true_or, false_or, or_false, false_and, and_false, not_true_eq_false, not_false_eq_true] <;> omega)) (by first | omega | (simp only [Int32.lt_iff_toInt_lt, Int32.le_iff_toInt_le, Int32.reduceToInt, ← Int32.toInt_inj, true_and, and_true, or_true, true_or, false_or, or_false, false_and, and_false, not_true_eq_false, not_false_eq_true] <;> omega))
            try simp only [Int32.reduceToInt] at h_543
            refine v_iconst hC dX12_way_142 (v := 1) (by decide) ?_
            refine v_iast hC m_296 hf_529 (vp_in_iff.mpr (by first | omega | (simp only [Int32.lt_iff_toInt_lt, Int32.le_iff_toInt_le, Int32.reduceToInt, ← Int32.toInt_inj, true_and, and_true, or_true, true_or, false_or, or_false, false_and, and_false, not_true_eq_false, not_false_eq_true] <;> omega))) dX12_way_143 (fun f_544 hf_545 hk_546 => ?_)
            have hW_548 := hW_532.up hf_545 hk_546 t_297 ⟨_, rfl, (ok_533.up (by first | omega | (simp only [Int32.lt_iff_toInt_lt, Int32.le_iff_toInt_le, Int32.reduceToInt, ← Int32.toInt_inj, true_and, and_true, or_true, true_or, false_or, or_false, false_and, and_false, not_true_eq_false, not_false_eq_true] <;> omega)) (fun q1 q2 => (by first | omega | (simp only [Int32.lt_iff_toInt_lt, Int32.le_iff_toInt_le, Int32.reduceToInt, ← Int32.toInt_inj] at *; omega))) (fun k9 q1 q2 q3 => (by first | omega | (simp only [Int32.lt_iff_toInt_lt, Int32.le_iff_toInt_le, Int32.reduceToInt, ← Int32.toInt_inj] at *; omega))))⟩
            obtain ⟨g_547, hf_545, ok_549, eg_550⟩ : ∃ g9, f_544 (q 14) = aI E 2076 g9 ∧ FOK g9 ∧ g9 = upd g_531 (v_541 : Int32).toNatClampNeg 1 := ⟨_, hf_545, (ok_533.up (by first | omega | (simp only [Int32.lt_iff_toInt_lt, Int32.le_iff_toInt_le, Int32.reduceToInt, ← Int32.toInt_inj, true_and, and_true, or_true, true_or, false_or, or_false, false_and, and_false, not_true_eq_false, not_false_eq_true] <;> omega)) (fun q1 q2 => (by first | omega | (simp only [Int32.lt_iff_toInt_lt, Int32.le_iff_toInt_le, Int32.reduceToInt, ← Int32.toInt_inj] at *; omega))) (fun k9 q1 q2 q3 => (by first | omega | (simp only [Int32.lt_iff_toInt_lt, Int32.le_iff_toInt_le, Int32.reduceToInt, ← Int32.toInt_inj] at *; omega)))), rfl⟩
            have hf_551 := (hk_546 a_0 (ne_kd hf_535 hf_529 rfl)).trans hf_535
            have fr_552 := FR.w hk_546 hf_529 (k := 2176) rfl
            have wt_553 := wv_upd_ne (k := a_1) (j := 0) eg_550 (by omega) (by decide) (by omega) (by simp only [Int32.reduceToInt]; omega)
            have wt_554 := wv_upd_ne (k := a_1) (j := 2) eg_550 (by omega) (by decide) (by omega) (by simp only [Int32.reduceToInt]; omega)
            have wt_555 := wv_upd_ne (k := a_1) (j := 3) eg_550 (by omega) (by decide) (by omega) (by simp only [Int32.reduceToInt]; omega)
            have wt_556 := wv_upd_eq (k := a_1) (j := 4) eg_550 (by omega) (by decide) (by simp only [Int32.reduceToInt]; omega)
            simp only [Int32.reduceToInt] at wt_556
            refine v_aload_n hC dX12_way_144 rfl ?_
            refine v_ldcS hC sr_X12_235 dX12_way_145 ?_
            refine v_vi hC (rest := []) m_1 hf_551 rfl mi_X12_takes ms_X12_takes (p_X12_takes hW_548 k_0 (by decide)) mx_X12_takes ml_X12_159 (by decide) rfl (cells1 := 0) (slots1 := 0) (by decide) (by decide) (Nat.le_of_ble_eq_true rfl) (Nat.le_of_ble_eq_true rfl) rfl (Nat.le_of_ble_eq_true rfl) dX12_way_147 (fun r_557 L_558 f_559 h_560 => ?_)
            obtain ⟨rfl, hW_562, hF_563, rfl, -, -, x_561, -⟩ := h_560
            have fe_564 : fld (f_544 a_0) 12 = (v_518 : Int32).toInt := by rw [hf_551]; rfl
            have hf_565 := hF_563.at hf_545 rfl
            obtain ⟨v_567, v_568, v_570, v_572, v_574, v_576, v_578, v_579, v_580, v_581, v_583, e_566, b_569, b_571, b_573, b_575, b_577, b_582, b_584⟩ := hW_562.at m_1 t_2
            have fe_585 : fld (f_559 a_0) 12 = (v_579 : Int32).toInt := by rw [e_566]; rfl
            rw [fe_585, fe_564] at x_561
            clear fe_564 fe_585
            try simp only [Int32.reduceToInt, Int64.reduceToInt] at x_561
            have jn_810 : ∀ (f_811 : Nat → va_E) (hW_812 : WT T L f_811) (hF_813 : FR [12, 2176] f_559 f_811)  (jv_814 : wvf (f_811 (q 14)) a_1 0 = 1) (jv_819 : (¬ fld (f_811 a_0) 12 = 0 ∨ (1 ≤ wvf (f_811 (q 14)) a_1 2 ∧ wvf (f_811 (q 14)) a_1 2 ≤ 9))) (jv_841 : (¬ fld (f_811 a_0) 12 = 0 ∨ (1 ≤ wvf (f_811 (q 14)) a_1 3 ∧ wvf (f_811 (q 14)) a_1 3 ≤ 5))) (jv_844 : (¬ fld (f_811 a_0) 12 = 0 ∨ (1 ≤ wvf (f_811 (q 14)) a_1 4 ∧ wvf (f_811 (q 14)) a_1 4 ≤ 5))), V z E 4 0 0 L f_811 196 [(2, .int v_164), (0, .ref a_0), (1, .int a_1)] [] := by
              intro f_811 hW_812 hF_813 jv_814 jv_819 jv_841 jv_844
              clear h_436 b_508 b_510 b_512 b_514 b_516 b_521 b_523 wt_537 wt_538 wt_539 wt_540 h_543 wt_553 wt_554 wt_555 wt_556 b_569 b_571 b_573 b_575 b_577 b_582 b_584 x_561
              obtain ⟨g_816, e_815, ok_817⟩ := hW_812.at m_296 t_297
              have we_818 : wvf (f_811 (q 14)) a_1 0 = (wv g_816 a_1 0).toInt := by rw [e_815]; rfl
              rw [we_818] at jv_814
              obtain ⟨v_821, v_822, v_824, v_826, v_828, v_830, v_832, v_833, v_834, v_835, v_837, e_820, b_823, b_825, b_827, b_829, b_831, b_836, b_838⟩ := hW_812.at m_1 t_2
              have fe_839 : fld (f_811 a_0) 12 = (v_833 : Int32).toInt := by rw [e_820]; rfl
              have we_840 : wvf (f_811 (q 14)) a_1 2 = (wv g_816 a_1 2).toInt := by rw [e_815]; rfl
              rw [fe_839, we_840] at jv_819
              have fe_842 : fld (f_811 a_0) 12 = (v_833 : Int32).toInt := by rw [e_820]; rfl
              have we_843 : wvf (f_811 (q 14)) a_1 3 = (wv g_816 a_1 3).toInt := by rw [e_815]; rfl
              rw [fe_842, we_843] at jv_841
              have fe_845 : fld (f_811 a_0) 12 = (v_833 : Int32).toInt := by rw [e_820]; rfl
              have we_846 : wvf (f_811 (q 14)) a_1 4 = (wv g_816 a_1 4).toInt := by rw [e_815]; rfl
              rw [fe_845, we_846] at jv_844
              refine v_aload_n hC dX12_way_196 rfl ?_
              refine v_get hC fl_X12_34 m_1 e_820 rfl dX12_way_197 ?_
              refine v_iload_n hC dX12_way_200 rfl ?_
              refine v_iconst hC dX12_way_201 (v := 5) (by decide) ?_
              obtain ⟨v_847, h_848⟩ : ∃ v9 : Int32, v_164 + 5 = v9 := ⟨_, rfl⟩
              refine v_iadd hC dX12_way_202 h_848 ?_
              have h_849 := add_v h_848 (by first | omega | (simp only [Int32.lt_iff_toInt_lt, Int32.le_iff_toInt_le, Int32.reduceToInt, ← Int32.toInt_inj, true_and, and_true, or_true, true_or, false_or, or_false, false_and, and_false, not_true_eq_false, not_false_eq_true] <;> omega)) (by first | omega | (simp only [Int32.lt_iff_toInt_lt, Int32.le_iff_toInt_le, Int32.reduceToInt, ← Int32.toInt_inj, true_and, and_true, or_true, true_or, false_or, or_false, false_and, and_false, not_true_eq_false, not_false_eq_true] <;> omega))
              try simp only [Int32.reduceToInt] at h_849
              refine v_aload_n hC dX12_way_203 rfl ?_
              refine v_ldcS hC sr_X12_237 dX12_way_204 ?_
              refine v_vi hC (rest := [.int v_847, .ref (q 14)]) m_1 e_820 rfl mi_X12_takes ms_X12_takes (p_X12_takes hW_812 k_0 (by decide)) mx_X12_takes ml_X12_159 (by decide) rfl (cells1 := 0) (slots1 := 0) (by decide) (by decide) (Nat.le_of_ble_eq_true rfl) (Nat.le_of_ble_eq_true rfl) rfl (Nat.le_of_ble_eq_true rfl) dX12_way_206 (fun r_850 L_851 f_852 h_853 => ?_)
              obtain ⟨rfl, hW_855, hF_856, rfl, -, -, x_854, -⟩ := h_853
              have fe_857 : fld (f_811 a_0) 12 = (v_833 : Int32).toInt := by rw [e_820]; rfl
              have hf_858 := hF_856.at e_815 rfl
              obtain ⟨v_860, v_861, v_863, v_865, v_867, v_869, v_871, v_872, v_873, v_874, v_876, e_859, b_862, b_864, b_866, b_868, b_870, b_875, b_877⟩ := hW_855.at m_1 t_2
              have fe_878 : fld (f_852 a_0) 12 = (v_872 : Int32).toInt := by rw [e_859]; rfl
              rw [fe_878, fe_857] at x_854
              clear fe_857 fe_878
              try simp only [Int32.reduceToInt, Int64.reduceToInt] at x_854
              have jn_880 : ∀ (v_881 : Int32) (b_882 : (0 ≤ v_881.toInt ∧ v_881.toInt ≤ 1)) (jv_883 : wvf (f_852 (q 14)) a_1 0 = 1) (jv_885 : (¬ fld (f_852 a_0) 12 = 0 ∨ (1 ≤ wvf (f_852 (q 14)) a_1 2 ∧ wvf (f_852 (q 14)) a_1 2 ≤ 9))) (jv_888 : (¬ fld (f_852 a_0) 12 = 0 ∨ (1 ≤ wvf (f_852 (q 14)) a_1 3 ∧ wvf (f_852 (q 14)) a_1 3 ≤ 5))) (jv_891 : (¬ fld (f_852 a_0) 12 = 0 ∨ (1 ≤ wvf (f_852 (q 14)) a_1 4 ∧ wvf (f_852 (q 14)) a_1 4 ≤ 5))), V z E 4 0 0 L f_852 217 [(2, .int v_164), (0, .ref a_0), (1, .int a_1)] [.int v_881, .int v_847, .ref (q 14)] := by
                intro v_881 b_882 jv_883 jv_885 jv_888 jv_891
                have we_884 : wvf (f_852 (q 14)) a_1 0 = (wv g_816 a_1 0).toInt := by rw [hf_858]; rfl
                rw [we_884] at jv_883
                have fe_886 : fld (f_852 a_0) 12 = (v_872 : Int32).toInt := by rw [e_859]; rfl
                have we_887 : wvf (f_852 (q 14)) a_1 2 = (wv g_816 a_1 2).toInt := by rw [hf_858]; rfl
                rw [fe_886, we_887] at jv_885
                have fe_889 : fld (f_852 a_0) 12 = (v_872 : Int32).toInt := by rw [e_859]; rfl
                have we_890 : wvf (f_852 (q 14)) a_1 3 = (wv g_816 a_1 3).toInt := by rw [hf_858]; rfl
                rw [fe_889, we_890] at jv_888
                have fe_892 : fld (f_852 a_0) 12 = (v_872 : Int32).toInt := by rw [e_859]; rfl
                have we_893 : wvf (f_852 (q 14)) a_1 4 = (wv g_816 a_1 4).toInt := by rw [hf_858]; rfl
                rw [fe_892, we_893] at jv_891
                refine v_iast hC m_296 hf_858 (vp_in_iff.mpr (by first | omega | (simp only [Int32.lt_iff_toInt_lt, Int32.le_iff_toInt_le, Int32.reduceToInt, ← Int32.toInt_inj, true_and, and_true, or_true, true_or, false_or, or_false, false_and, and_false, not_true_eq_false, not_false_eq_true] <;> omega))) dX12_way_217 (fun f_894 hf_895 hk_896 => ?_)
                have hW_898 := hW_855.up hf_895 hk_896 t_297 ⟨_, rfl, (ok_817.up (by first | omega | (simp only [Int32.lt_iff_toInt_lt, Int32.le_iff_toInt_le, Int32.reduceToInt, ← Int32.toInt_inj, true_and, and_true, or_true, true_or, false_or, or_false, false_and, and_false, not_true_eq_false, not_false_eq_true] <;> omega)) (fun q1 q2 => (by first | omega | (simp only [Int32.lt_iff_toInt_lt, Int32.le_iff_toInt_le, Int32.reduceToInt, ← Int32.toInt_inj] at *; omega))) (fun k9 q1 q2 q3 => (by first | omega | (simp only [Int32.lt_iff_toInt_lt, Int32.le_iff_toInt_le, Int32.reduceToInt, ← Int32.toInt_inj] at *; omega))))⟩
                obtain ⟨g_897, hf_895, ok_899, eg_900⟩ : ∃ g9, f_894 (q 14) = aI E 2076 g9 ∧ FOK g9 ∧ g9 = upd g_816 (v_847 : Int32).toNatClampNeg v_881 := ⟨_, hf_895, (ok_817.up (by first | omega | (simp only [Int32.lt_iff_toInt_lt, Int32.le_iff_toInt_le, Int32.reduceToInt, ← Int32.toInt_inj, true_and, and_true, or_true, true_or, false_or, or_false, false_and, and_false, not_true_eq_false, not_false_eq_true] <;> omega)) (fun q1 q2 => (by first | omega | (simp only [Int32.lt_iff_toInt_lt, Int32.le_iff_toInt_le, Int32.reduceToInt, ← Int32.toInt_inj] at *; omega))) (fun k9 q1 q2 q3 => (by first | omega | (simp only [Int32.lt_iff_toInt_lt, Int32.le_iff_toInt_le, Int32.reduceToInt, ← Int32.toInt_inj] at *; omega)))), rfl⟩
                have hf_901 := (hk_896 a_0 (ne_kd e_859 hf_858 rfl)).trans e_859
                have fr_902 := FR.w hk_896 hf_858 (k := 2176) rfl
                have wt_903 := wv_upd_ne (k := a_1) (j := 0) eg_900 (by omega) (by decide) (by omega) (by simp only [Int32.reduceToInt]; omega)
                have wt_904 := wv_upd_ne (k := a_1) (j := 2) eg_900 (by omega) (by decide) (by omega) (by simp only [Int32.reduceToInt]; omega)
                have wt_905 := wv_upd_ne (k := a_1) (j := 3) eg_900 (by omega) (by decide) (by omega) (by simp only [Int32.reduceToInt]; omega)
                have wt_906 := wv_upd_ne (k := a_1) (j := 4) eg_900 (by omega) (by decide) (by omega) (by simp only [Int32.reduceToInt]; omega)
                refine v_aload_n hC dX12_way_218 rfl ?_
                refine v_get hC fl_X12_34 m_1 hf_901 rfl dX12_way_219 ?_
                refine v_iload_n hC dX12_way_222 rfl ?_
                refine v_bipush hC dX12_way_223 (v := 6) (by decide) ?_
                obtain ⟨v_907, h_908⟩ : ∃ v9 : Int32, v_164 + 6 = v9 := ⟨_, rfl⟩
                refine v_iadd hC dX12_way_225 h_908 ?_
                have h_909 := add_v h_908 (by first | omega | (simp only [Int32.lt_iff_toInt_lt, Int32.le_iff_toInt_le, Int32.reduceToInt, ← Int32.toInt_inj, true_and, and_true, or_true, true_or, false_or, or_false, false_and, and_false, not_true_eq_false, not_false_eq_true] <;> omega)) (by first | omega | (simp only [Int32.lt_iff_toInt_lt, Int32.le_iff_toInt_le, Int32.reduceToInt, ← Int32.toInt_inj, true_and, and_true, or_true, true_or, false_or, or_false, false_and, and_false, not_true_eq_false, not_false_eq_true] <;> omega))
                try simp only [Int32.reduceToInt] at h_909
                refine v_aload_n hC dX12_way_226 rfl ?_
                refine v_ldcS hC sr_X12_239 dX12_way_227 ?_
                refine v_vi hC (rest := [.int v_907, .ref (q 14)]) m_1 hf_901 rfl mi_X12_takes ms_X12_takes (p_X12_takes hW_898 k_0 (by decide)) mx_X12_takes ml_X12_159 (by decide) rfl (cells1 := 0) (slots1 := 0) (by decide) (by decide) (Nat.le_of_ble_eq_true rfl) (Nat.le_of_ble_eq_true rfl) rfl (Nat.le_of_ble_eq_true rfl) dX12_way_229 (fun r_910 L_911 f_912 h_913 => ?_)
                obtain ⟨rfl, hW_915, hF_916, rfl, -, -, x_914, -⟩ := h_913
                have fe_917 : fld (f_894 a_0) 12 = (v_872 : Int32).toInt := by rw [hf_901]; rfl
                have hf_918 := hF_916.at hf_895 rfl
                obtain ⟨v_920, v_921, v_923, v_925, v_927, v_929, v_931, v_932, v_933, v_934, v_936, e_919, b_922, b_924, b_926, b_928, b_930, b_935, b_937⟩ := hW_915.at m_1 t_2
                have fe_938 : fld (f_912 a_0) 12 = (v_932 : Int32).toInt := by rw [e_919]; rfl
                rw [fe_938, fe_917] at x_914
                clear fe_917 fe_938
                try simp only [Int32.reduceToInt, Int64.reduceToInt] at x_914
                have jn_940 : ∀ (v_941 : Int32) (b_942 : (0 ≤ v_941.toInt ∧ v_941.toInt ≤ 1)) (jv_943 : wvf (f_912 (q 14)) a_1 0 = 1) (jv_945 : (¬ fld (f_912 a_0) 12 = 0 ∨ (1 ≤ wvf (f_912 (q 14)) a_1 2 ∧ wvf (f_912 (q 14)) a_1 2 ≤ 9))) (jv_948 : (¬ fld (f_912 a_0) 12 = 0 ∨ (1 ≤ wvf (f_912 (q 14)) a_1 3 ∧ wvf (f_912 (q 14)) a_1 3 ≤ 5))) (jv_951 : (¬ fld (f_912 a_0) 12 = 0 ∨ (1 ≤ wvf (f_912 (q 14)) a_1 4 ∧ wvf (f_912 (q 14)) a_1 4 ≤ 5))), V z E 4 0 0 L f_912 240 [(2, .int v_164), (0, .ref a_0), (1, .int a_1)] [.int v_941, .int v_907, .ref (q 14)] := by
                  intro v_941 b_942 jv_943 jv_945 jv_948 jv_951
                  have we_944 : wvf (f_912 (q 14)) a_1 0 = (wv g_897 a_1 0).toInt := by rw [hf_918]; rfl
                  rw [we_944] at jv_943
                  have fe_946 : fld (f_912 a_0) 12 = (v_932 : Int32).toInt := by rw [e_919]; rfl
                  have we_947 : wvf (f_912 (q 14)) a_1 2 = (wv g_897 a_1 2).toInt := by rw [hf_918]; rfl
                  rw [fe_946, we_947] at jv_945
                  have fe_949 : fld (f_912 a_0) 12 = (v_932 : Int32).toInt := by rw [e_919]; rfl
                  have we_950 : wvf (f_912 (q 14)) a_1 3 = (wv g_897 a_1 3).toInt := by rw [hf_918]; rfl
                  rw [fe_949, we_950] at jv_948
                  have fe_952 : fld (f_912 a_0) 12 = (v_932 : Int32).toInt := by rw [e_919]; rfl
                  have we_953 : wvf (f_912 (q 14)) a_1 4 = (wv g_897 a_1 4).toInt := by rw [hf_918]; rfl
                  rw [fe_952, we_953] at jv_951
                  refine v_iast hC m_296 hf_918 (vp_in_iff.mpr (by first | omega | (simp only [Int32.lt_iff_toInt_lt, Int32.le_iff_toInt_le, Int32.reduceToInt, ← Int32.toInt_inj, true_and, and_true, or_true, true_or, false_or, or_false, false_and, and_false, not_true_eq_false, not_false_eq_true] <;> omega))) dX12_way_240 (fun f_954 hf_955 hk_956 => ?_)
                  have hW_958 := hW_915.up hf_955 hk_956 t_297 ⟨_, rfl, (ok_899.up (by first | omega | (simp only [Int32.lt_iff_toInt_lt, Int32.le_iff_toInt_le, Int32.reduceToInt, ← Int32.toInt_inj, true_and, and_true, or_true, true_or, false_or, or_false, false_and, and_false, not_true_eq_false, not_false_eq_true] <;> omega)) (fun q1 q2 => (by first | omega | (simp only [Int32.lt_iff_toInt_lt, Int32.le_iff_toInt_le, Int32.reduceToInt, ← Int32.toInt_inj] at *; omega))) (fun k9 q1 q2 q3 => (by first | omega | (simp only [Int32.lt_iff_toInt_lt, Int32.le_iff_toInt_le, Int32.reduceToInt, ← Int32.toInt_inj] at *; omega))))⟩
                  obtain ⟨g_957, hf_955, ok_959, eg_960⟩ : ∃ g9, f_954 (q 14) = aI E 2076 g9 ∧ FOK g9 ∧ g9 = upd g_897 (v_907 : Int32).toNatClampNeg v_941 := ⟨_, hf_955, (ok_899.up (by first | omega | (simp only [Int32.lt_iff_toInt_lt, Int32.le_iff_toInt_le, Int32.reduceToInt, ← Int32.toInt_inj, true_and, and_true, or_true, true_or, false_or, or_false, false_and, and_false, not_true_eq_false, not_false_eq_true] <;> omega)) (fun q1 q2 => (by first | omega | (simp only [Int32.lt_iff_toInt_lt, Int32.le_iff_toInt_le, Int32.reduceToInt, ← Int32.toInt_inj] at *; omega))) (fun k9 q1 q2 q3 => (by first | omega | (simp only [Int32.lt_iff_toInt_lt, Int32.le_iff_toInt_le, Int32.reduceToInt, ← Int32.toInt_inj] at *; omega)))), rfl⟩
                  have hf_961 := (hk_956 a_0 (ne_kd e_919 hf_918 rfl)).trans e_919
                  have fr_962 := FR.w hk_956 hf_918 (k := 2176) rfl
                  have wt_963 := wv_upd_ne (k := a_1) (j := 0) eg_960 (by omega) (by decide) (by omega) (by simp only [Int32.reduceToInt]; omega)
                  have wt_964 := wv_upd_ne (k := a_1) (j := 2) eg_960 (by omega) (by decide) (by omega) (by simp only [Int32.reduceToInt]; omega)
                  have wt_965 := wv_upd_ne (k := a_1) (j := 3) eg_960 (by omega) (by decide) (by omega) (by simp only [Int32.reduceToInt]; omega)
                  have wt_966 := wv_upd_ne (k := a_1) (j := 4) eg_960 (by omega) (by decide) (by omega) (by simp only [Int32.reduceToInt]; omega)
                  refine v_aload_n hC dX12_way_241 rfl ?_
                  refine v_vv hC (rest := []) m_1 hf_961 rfl mi_X12_ends ms_X12_ends (p_X12_ends hW_958 k_0) mx_X12_ends ml_X12_178 (by decide) rfl (cells1 := 0) (slots1 := 0) (by decide) (by decide) (Nat.le_of_ble_eq_true rfl) (Nat.le_of_ble_eq_true rfl) rfl (Nat.le_of_ble_eq_true rfl) dX12_way_242 (fun L_968 f_969 h_970 => ?_)
                  obtain ⟨rfl, hW_972, hF_973, x_971, -, -, -, -⟩ := h_970
                  have fe_974 : fld (f_954 a_0) 12 = (v_932 : Int32).toInt := by rw [hf_961]; rfl
                  have hf_975 := hF_973.at hf_955 rfl
                  obtain ⟨v_977, v_978, v_980, v_982, v_984, v_986, v_988, v_989, v_990, v_991, v_993, e_976, b_979, b_981, b_983, b_985, b_987, b_992, b_994⟩ := hW_972.at m_1 t_2
                  have fe_995 : fld (f_969 a_0) 12 = (v_989 : Int32).toInt := by rw [e_976]; rfl
                  rw [fe_995, fe_974] at x_971
                  clear fe_974 fe_995
                  refine v_aload_n hC dX12_way_245 rfl ?_
                  refine v_vv hC (rest := []) m_1 e_976 rfl mi_X12_endsAll ms_X12_endsAll (p_X12_endsAll hW_972 k_0) mx_X12_endsAll ml_X12_218 (by decide) rfl (cells1 := 0) (slots1 := 0) (by decide) (by decide) (Nat.le_of_ble_eq_true rfl) (Nat.le_of_ble_eq_true rfl) rfl (Nat.le_of_ble_eq_true rfl) dX12_way_246 (fun L_997 f_998 h_999 => ?_)
                  obtain ⟨rfl, hW_1001, hF_1002, x_1000, -⟩ := h_999
                  have fe_1003 : fld (f_969 a_0) 12 = (v_989 : Int32).toInt := by rw [e_976]; rfl
                  have hf_1004 := hF_1002.at hf_975 rfl
                  obtain ⟨v_1006, v_1007, v_1009, v_1011, v_1013, v_1015, v_1017, v_1018, v_1019, v_1020, v_1022, e_1005, b_1008, b_1010, b_1012, b_1014, b_1016, b_1021, b_1023⟩ := hW_1001.at m_1 t_2
                  have fe_1024 : fld (f_998 a_0) 12 = (v_1018 : Int32).toInt := by rw [e_1005]; rfl
                  rw [fe_1024, fe_1003] at x_1000
                  clear fe_1003 fe_1024
                  refine v_aload_n hC dX12_way_249 rfl ?_
                  refine v_vi hC (rest := []) m_1 e_1005 rfl mi_X12_good ms_X12_good (p_X12_good hW_1001 k_0) mx_X12_good ml_X12_139 (by decide) rfl (cells1 := 0) (slots1 := 0) (by decide) (by decide) (Nat.le_of_ble_eq_true rfl) (Nat.le_of_ble_eq_true rfl) rfl (Nat.le_of_ble_eq_true rfl) dX12_way_250 (fun r_1025 L_1026 f_1027 h_1028 => ?_)
                  obtain ⟨rfl, rfl, b_1029, x_1030⟩ := h_1028
                  have fe_1033 : fld (f_998 a_0) 12 = (v_1018 : Int32).toInt := by rw [e_1005]; rfl
                  rw [fe_1033] at x_1030
                  clear fe_1033
                  try simp only [Int32.reduceToInt, Int64.reduceToInt] at x_1030
                  refine v_if_ne hC dX12_way_253 (tgt := 259) (by decide) (fun h_1034 => ?_) (fun h_1034 => ?_)
                  · simp only [Int32.lt_iff_toInt_lt, Int32.le_iff_toInt_le, Int32.reduceToInt, ← Int32.toInt_inj] at h_1034
                    refine v_aload_n hC dX12_way_259 rfl ?_
                    refine v_iload_n hC dX12_way_260 rfl ?_
                    refine v_iload_n hC dX12_way_261 rfl ?_
                    refine v_bipush hC dX12_way_262 (v := 7) (by decide) ?_
                    obtain ⟨v_1035, h_1036⟩ : ∃ v9 : Int32, v_164 + 7 = v9 := ⟨_, rfl⟩
                    refine v_iadd hC dX12_way_264 h_1036 ?_
                    have h_1037 := add_v h_1036 (by first | omega | (simp only [Int32.lt_iff_toInt_lt, Int32.le_iff_toInt_le, Int32.reduceToInt, ← Int32.toInt_inj, true_and, and_true, or_true, true_or, false_or, or_false, false_and, and_false, not_true_eq_false, not_false_eq_true] <;> omega)) (by first | omega | (simp only [Int32.lt_iff_toInt_lt, Int32.le_iff_toInt_le, Int32.reduceToInt, ← Int32.toInt_inj, true_and, and_true, or_true, true_or, false_or, or_false, false_and, and_false, not_true_eq_false, not_false_eq_true] <;> omega))
                    try simp only [Int32.reduceToInt] at h_1037
                    obtain ⟨g_1039, e_1038, ok_1040⟩ := hW_1001.at m_167 t_168
                    have b_1041 := ok_1040.r0
                    have b_1042 := ok_1040.w0
                    have wr_1043 : wvr g_957 a_1 := ⟨by omega, by omega, by omega, by omega⟩
                    refine v_vv hC (rest := []) m_1 e_1005 rfl mi_X12_keeps ms_X12_keeps (p_X12_keeps k_0 e_1005 e_1038 hf_1004 (by omega)) mx_X12_keeps ml_X12_197 (by decide) rfl (cells1 := 0) (slots1 := 0) (by decide) (by decide) (Nat.le_of_ble_eq_true rfl) (Nat.le_of_ble_eq_true rfl) rfl (Nat.le_of_ble_eq_true rfl) dX12_way_265 (fun L_1045 f_1046 h_1047 => ?_)
                    obtain ⟨rfl, hf_1048, hk_1049⟩ := h_1047
                    have hf_1050 := (hk_1049 (q 14) nq_21.symm).trans hf_1004
                    have hf_1051 := (hk_1049 a_0 (ne_kd e_1005 e_1038 rfl)).trans e_1005
                    obtain ⟨g_1054, e_1055, ok_1053, eg_1056⟩ : ∃ g9, f_1046 (q 1) = aI E 2076 g9 ∧ WOK g9 ∧ g9 = (va_cpy g_957 g_1039 (v_164 : Int32).toNatClampNeg (v_164 : Int32).toNatClampNeg ((v_1035 : Int32).toNatClampNeg - (v_164 : Int32).toNatClampNeg)) := ⟨_, hf_1048, (ok_1040.wayc (k := a_1) (by omega) wr_1043 (by rw [clamp_t]; omega) (by rw [clamp_t, clamp_t]; omega)), rfl⟩
                    have hW_1052 := hW_1001.up e_1055 hk_1049 t_168 ⟨_, rfl, ok_1053⟩
                    have fr_1057 := FR.w hk_1049 e_1038 (k := 2176) rfl
                    have b_1058 := ok_1053.r0
                    have b_1059 := ok_1053.w0
                    have wc_1060 : wv g_1054 a_1 0 = wv g_957 a_1 0 := by rw [eg_1056]; exact wv_cpy (by omega) (by decide) (by rw [clamp_t]; omega) (by rw [clamp_t, clamp_t]; omega)
                    have wc_1060_t := congrArg Int32.toInt wc_1060
                    refine v_aload_n hC dX12_way_268 rfl ?_
                    refine v_iload_n hC dX12_way_269 rfl ?_
                    refine v_vi hC (rest := []) m_1 hf_1051 rfl mi_X12_roomOf ms_X12_roomOf (p_X12_roomOf hW_1052 k_0 (by first | omega | (simp only [Int32.lt_iff_toInt_lt, Int32.le_iff_toInt_le, Int32.reduceToInt, ← Int32.toInt_inj, true_and, and_true, or_true, true_or, false_or, or_false, false_and, and_false, not_true_eq_false, not_false_eq_true] <;> omega)) e_1055 ok_1053 (by first | omega | (simp only [Int32.lt_iff_toInt_lt, Int32.le_iff_toInt_le, Int32.reduceToInt, ← Int32.toInt_inj, true_and, and_true, or_true, true_or, false_or, or_false, false_and, and_false, not_true_eq_false, not_false_eq_true] <;> omega))) mx_X12_roomOf ml_X12_241 (by decide) rfl (cells1 := 0) (slots1 := 0) (by decide) (by decide) (Nat.le_of_ble_eq_true rfl) (Nat.le_of_ble_eq_true rfl) rfl (Nat.le_of_ble_eq_true rfl) dX12_way_270 (fun r_1061 L_1062 f_1063 h_1064 => ?_)
                    obtain ⟨rfl, hW_1069, hF_1070, b_1065, x_1066, x_1067, x_1068⟩ := h_1064
                    have fe_1071 : fld (f_1046 a_0) 20 = (v_1022 : Int32).toInt := by rw [hf_1051]; rfl
                    have hf_1072 := hF_1070.at hf_1050 rfl
                    have hf_1073 := hF_1070.at e_1055 rfl
                    obtain ⟨v_1075, v_1076, v_1078, v_1080, v_1082, v_1084, v_1086, v_1087, v_1088, v_1089, v_1091, e_1074, b_1077, b_1079, b_1081, b_1083, b_1085, b_1090, b_1092⟩ := hW_1069.at m_1 t_2
                    have fe_1093 : fld (f_1063 a_0) 20 = (v_1091 : Int32).toInt := by rw [e_1074]; rfl
                    rw [fe_1093, fe_1071] at x_1068
                    clear fe_1071 fe_1093
                    try simp only [Int32.reduceToInt, Int64.reduceToInt] at x_1066
                    try simp only [Int32.reduceToInt, Int64.reduceToInt] at x_1067
                    try simp only [Int32.reduceToInt, Int64.reduceToInt] at x_1068
                    exact hR _ _ _ _ _ _ _ dX12_way_273 rfl (Nat.le_of_ble_eq_true rfl) (Nat.le_of_ble_eq_true rfl) ⟨rfl, hW_1069, (((((((((((((((((((((((((hF_56.tr hF_83).tr hF_111).tr hF_139).tr hF_212).tr hF_275).tr fr_309).tr fr_325).tr hF_339).tr hF_396).tr fr_429).tr hF_443).tr hF_500).tr fr_536).tr fr_552).tr hF_563).tr hF_813).tr hF_856).tr fr_902).tr hF_916).tr fr_962).tr hF_973).tr hF_1002).tr fr_1057).tr hF_1070).mono rfl), (by first | omega | (simp only [Int32.lt_iff_toInt_lt, Int32.le_iff_toInt_le, Int32.reduceToInt, ← Int32.toInt_inj, true_and, and_true, or_true, true_or, false_or, or_false, false_and, and_false, not_true_eq_false, not_false_eq_true] <;> omega)), (.inr (by first | omega | (simp only [Int32.lt_iff_toInt_lt, Int32.le_iff_toInt_le, Int32.reduceToInt, ← Int32.toInt_inj, true_and, and_true, or_true, true_or, false_or, or_false, false_and, and_false, not_true_eq_false, not_false_eq_true] <;> omega)))⟩
                  · simp only [Int32.lt_iff_toInt_lt, Int32.le_iff_toInt_le, Int32.reduceToInt, ← Int32.toInt_inj] at h_1034
                    refine v_bipush hC dX12_way_256 (v := (-4)) (by decide) ?_
                    exact hR _ _ _ _ _ _ _ dX12_way_258 rfl (Nat.le_of_ble_eq_true rfl) (Nat.le_of_ble_eq_true rfl) ⟨rfl, hW_1001, (((((((((((((((((((((((hF_56.tr hF_83).tr hF_111).tr hF_139).tr hF_212).tr hF_275).tr fr_309).tr fr_325).tr hF_339).tr hF_396).tr fr_429).tr hF_443).tr hF_500).tr fr_536).tr fr_552).tr hF_563).tr hF_813).tr hF_856).tr fr_902).tr hF_916).tr fr_962).tr hF_973).tr hF_1002).mono rfl), (by decide), (.inl (by decide))⟩
                refine v_if_eq hC dX12_way_232 (tgt := 239) (by decide) (fun h_939 => ?_) (fun h_939 => ?_)
                · simp only [Int32.lt_iff_toInt_lt, Int32.le_iff_toInt_le, Int32.reduceToInt, ← Int32.toInt_inj] at h_939
                  refine v_iconst hC dX12_way_239 (v := 0) (by decide) ?_
                  refine v_pick [0, 1, 2] rfl ?_
                  have we_1094 : wvf (f_912 (q 14)) a_1 0 = (wv g_897 a_1 0).toInt := by rw [hf_918]; rfl
                  have fe_1095 : fld (f_912 a_0) 12 = (v_932 : Int32).toInt := by rw [e_919]; rfl
                  have we_1096 : wvf (f_912 (q 14)) a_1 2 = (wv g_897 a_1 2).toInt := by rw [hf_918]; rfl
                  have fe_1097 : fld (f_912 a_0) 12 = (v_932 : Int32).toInt := by rw [e_919]; rfl
                  have we_1098 : wvf (f_912 (q 14)) a_1 3 = (wv g_897 a_1 3).toInt := by rw [hf_918]; rfl
                  have fe_1099 : fld (f_912 a_0) 12 = (v_932 : Int32).toInt := by rw [e_919]; rfl
                  have we_1100 : wvf (f_912 (q 14)) a_1 4 = (wv g_897 a_1 4).toInt := by rw [hf_918]; rfl
                  exact jn_940 0 (by decide) (by rw [we_1094] <;> first | omega | (simp only [Int32.lt_iff_toInt_lt, Int32.le_iff_toInt_le, Int32.reduceToInt, ← Int32.toInt_inj, true_and, and_true, or_true, true_or, false_or, or_false, false_and, and_false, not_true_eq_false, not_false_eq_true] <;> omega)) (by rw [fe_1095, we_1096] <;> first | omega | (simp only [Int32.lt_iff_toInt_lt, Int32.le_iff_toInt_le, Int32.reduceToInt, ← Int32.toInt_inj, true_and, and_true, or_true, true_or, false_or, or_false, false_and, and_false, not_true_eq_false, not_false_eq_true] <;> omega)) (by rw [fe_1097, we_1098] <;> first | omega | (simp only [Int32.lt_iff_toInt_lt, Int32.le_iff_toInt_le, Int32.reduceToInt, ← Int32.toInt_inj, true_and, and_true, or_true, true_or, false_or, or_false, false_and, and_false, not_true_eq_false, not_false_eq_true] <;> omega)) (by rw [fe_1099, we_1100] <;> first | omega | (simp only [Int32.lt_iff_toInt_lt, Int32.le_iff_toInt_le, Int32.reduceToInt, ← Int32.toInt_inj, true_and, and_true, or_true, true_or, false_or, or_false, false_and, and_false, not_true_eq_false, not_false_eq_true] <;> omega))
                · simp only [Int32.lt_iff_toInt_lt, Int32.le_iff_toInt_le, Int32.reduceToInt, ← Int32.toInt_inj] at h_939
                  refine v_iconst hC dX12_way_235 (v := 1) (by decide) ?_
                  refine v_goto hC dX12_way_236 (tgt := 240) (by decide) ?_
                  refine v_pick [0, 1, 2] rfl ?_
                  have we_1101 : wvf (f_912 (q 14)) a_1 0 = (wv g_897 a_1 0).toInt := by rw [hf_918]; rfl
                  have fe_1102 : fld (f_912 a_0) 12 = (v_932 : Int32).toInt := by rw [e_919]; rfl
                  have we_1103 : wvf (f_912 (q 14)) a_1 2 = (wv g_897 a_1 2).toInt := by rw [hf_918]; rfl
                  have fe_1104 : fld (f_912 a_0) 12 = (v_932 : Int32).toInt := by rw [e_919]; rfl
                  have we_1105 : wvf (f_912 (q 14)) a_1 3 = (wv g_897 a_1 3).toInt := by rw [hf_918]; rfl
                  have fe_1106 : fld (f_912 a_0) 12 = (v_932 : Int32).toInt := by rw [e_919]; rfl
                  have we_1107 : wvf (f_912 (q 14)) a_1 4 = (wv g_897 a_1 4).toInt := by rw [hf_918]; rfl
                  exact jn_940 1 (by decide) (by rw [we_1101] <;> first | omega | (simp only [Int32.lt_iff_toInt_lt, Int32.le_iff_toInt_le, Int32.reduceToInt, ← Int32.toInt_inj, true_and, and_true, or_true, true_or, false_or, or_false, false_and, and_false, not_true_eq_false, not_false_eq_true] <;> omega)) (by rw [fe_1102, we_1103] <;> first | omega | (simp only [Int32.lt_iff_toInt_lt, Int32.le_iff_toInt_le, Int32.reduceToInt, ← Int32.toInt_inj, true_and, and_true, or_true, true_or, false_or, or_false, false_and, and_false, not_true_eq_false, not_false_eq_true] <;> omega)) (by rw [fe_1104, we_1105] <;> first | omega | (simp only [Int32.lt_iff_toInt_lt, Int32.le_iff_toInt_le, Int32.reduceToInt, ← Int32.toInt_inj, true_and, and_true, or_true, true_or, false_or, or_false, false_and, and_false, not_true_eq_false, not_false_eq_true] <;> omega)) (by rw [fe_1106, we_1107] <;> first | omega | (simp only [Int32.lt_iff_toInt_lt, Int32.le_iff_toInt_le, Int32.reduceToInt, ← Int32.toInt_inj, true_and, and_true, or_true, true_or, false_or, or_false, false_and, and_false, not_true_eq_false, not_false_eq_true] <;> omega))
              refine v_if_eq hC dX12_way_209 (tgt := 216) (by decide) (fun h_879 => ?_) (fun h_879 => ?_)
              · simp only [Int32.lt_iff_toInt_lt, Int32.le_iff_toInt_le, Int32.reduceToInt, ← Int32.toInt_inj] at h_879
                refine v_iconst hC dX12_way_216 (v := 0) (by decide) ?_
                refine v_pick [0, 1, 2] rfl ?_
                have we_1108 : wvf (f_852 (q 14)) a_1 0 = (wv g_816 a_1 0).toInt := by rw [hf_858]; rfl
                have fe_1109 : fld (f_852 a_0) 12 = (v_872 : Int32).toInt := by rw [e_859]; rfl
                have we_1110 : wvf (f_852 (q 14)) a_1 2 = (wv g_816 a_1 2).toInt := by rw [hf_858]; rfl
                have fe_1111 : fld (f_852 a_0) 12 = (v_872 : Int32).toInt := by rw [e_859]; rfl
                have we_1112 : wvf (f_852 (q 14)) a_1 3 = (wv g_816 a_1 3).toInt := by rw [hf_858]; rfl
                have fe_1113 : fld (f_852 a_0) 12 = (v_872 : Int32).toInt := by rw [e_859]; rfl
                have we_1114 : wvf (f_852 (q 14)) a_1 4 = (wv g_816 a_1 4).toInt := by rw [hf_858]; rfl
                exact jn_880 0 (by decide) (by rw [we_1108] <;> first | omega | (simp only [Int32.lt_iff_toInt_lt, Int32.le_iff_toInt_le, Int32.reduceToInt, ← Int32.toInt_inj, true_and, and_true, or_true, true_or, false_or, or_false, false_and, and_false, not_true_eq_false, not_false_eq_true] <;> omega)) (by rw [fe_1109, we_1110] <;> first | omega | (simp only [Int32.lt_iff_toInt_lt, Int32.le_iff_toInt_le, Int32.reduceToInt, ← Int32.toInt_inj, true_and, and_true, or_true, true_or, false_or, or_false, false_and, and_false, not_true_eq_false, not_false_eq_true] <;> omega)) (by rw [fe_1111, we_1112] <;> first | omega | (simp only [Int32.lt_iff_toInt_lt, Int32.le_iff_toInt_le, Int32.reduceToInt, ← Int32.toInt_inj, true_and, and_true, or_true, true_or, false_or, or_false, false_and, and_false, not_true_eq_false, not_false_eq_true] <;> omega)) (by rw [fe_1113, we_1114] <;> first | omega | (simp only [Int32.lt_iff_toInt_lt, Int32.le_iff_toInt_le, Int32.reduceToInt, ← Int32.toInt_inj, true_and, and_true, or_true, true_or, false_or, or_false, false_and, and_false, not_true_eq_false, not_false_eq_true] <;> omega))
              · simp only [Int32.lt_iff_toInt_lt, Int32.le_iff_toInt_le, Int32.reduceToInt, ← Int32.toInt_inj] at h_879
                refine v_iconst hC dX12_way_212 (v := 1) (by decide) ?_
                refine v_goto hC dX12_way_213 (tgt := 217) (by decide) ?_
                refine v_pick [0, 1, 2] rfl ?_
                have we_1115 : wvf (f_852 (q 14)) a_1 0 = (wv g_816 a_1 0).toInt := by rw [hf_858]; rfl
                have fe_1116 : fld (f_852 a_0) 12 = (v_872 : Int32).toInt := by rw [e_859]; rfl
                have we_1117 : wvf (f_852 (q 14)) a_1 2 = (wv g_816 a_1 2).toInt := by rw [hf_858]; rfl
                have fe_1118 : fld (f_852 a_0) 12 = (v_872 : Int32).toInt := by rw [e_859]; rfl
                have we_1119 : wvf (f_852 (q 14)) a_1 3 = (wv g_816 a_1 3).toInt := by rw [hf_858]; rfl
                have fe_1120 : fld (f_852 a_0) 12 = (v_872 : Int32).toInt := by rw [e_859]; rfl
                have we_1121 : wvf (f_852 (q 14)) a_1 4 = (wv g_816 a_1 4).toInt := by rw [hf_858]; rfl
                exact jn_880 1 (by decide) (by rw [we_1115] <;> first | omega | (simp only [Int32.lt_iff_toInt_lt, Int32.le_iff_toInt_le, Int32.reduceToInt, ← Int32.toInt_inj, true_and, and_true, or_true, true_or, false_or, or_false, false_and, and_false, not_true_eq_false, not_false_eq_true] <;> omega)) (by rw [fe_1116, we_1117] <;> first | omega | (simp only [Int32.lt_iff_toInt_lt, Int32.le_iff_toInt_le, Int32.reduceToInt, ← Int32.toInt_inj, true_and, and_true, or_true, true_or, false_or, or_false, false_and, and_false, not_true_eq_false, not_false_eq_true] <;> omega)) (by rw [fe_1118, we_1119] <;> first | omega | (simp only [Int32.lt_iff_toInt_lt, Int32.le_iff_toInt_le, Int32.reduceToInt, ← Int32.toInt_inj, true_and, and_true, or_true, true_or, false_or, or_false, false_and, and_false, not_true_eq_false, not_false_eq_true] <;> omega)) (by rw [fe_1120, we_1121] <;> first | omega | (simp only [Int32.lt_iff_toInt_lt, Int32.le_iff_toInt_le, Int32.reduceToInt, ← Int32.toInt_inj, true_and, and_true, or_true, true_or, false_or, or_false, false_and, and_false, not_true_eq_false, not_false_eq_true] <;> omega))
            refine v_if_eq hC dX12_way_150 (tgt := 196) (by decide) (fun h_586 => ?_) (fun h_586 => ?_)
            · simp only [Int32.lt_iff_toInt_lt, Int32.le_iff_toInt_le, Int32.reduceToInt, ← Int32.toInt_inj] at h_586
              refine v_pick [0, 1, 2] rfl ?_
              have we_1122 : wvf (f_559 (q 14)) a_1 0 = (wv g_547 a_1 0).toInt := by rw [hf_565]; rfl
              have fe_1123 : fld (f_559 a_0) 12 = (v_579 : Int32).toInt := by rw [e_566]; rfl
              have we_1124 : wvf (f_559 (q 14)) a_1 2 = (wv g_547 a_1 2).toInt := by rw [hf_565]; rfl
              have fe_1125 : fld (f_559 a_0) 12 = (v_579 : Int32).toInt := by rw [e_566]; rfl
              have we_1126 : wvf (f_559 (q 14)) a_1 3 = (wv g_547 a_1 3).toInt := by rw [hf_565]; rfl
              have fe_1127 : fld (f_559 a_0) 12 = (v_579 : Int32).toInt := by rw [e_566]; rfl
              have we_1128 : wvf (f_559 (q 14)) a_1 4 = (wv g_547 a_1 4).toInt := by rw [hf_565]; rfl
              exact jn_810 f_559 hW_562 FR.rf (by rw [we_1122] <;> first | omega | (simp only [Int32.lt_iff_toInt_lt, Int32.le_iff_toInt_le, Int32.reduceToInt, ← Int32.toInt_inj, true_and, and_true, or_true, true_or, false_or, or_false, false_and, and_false, not_true_eq_false, not_false_eq_true] <;> omega)) (by rw [fe_1123, we_1124] <;> first | omega | (simp only [Int32.lt_iff_toInt_lt, Int32.le_iff_toInt_le, Int32.reduceToInt, ← Int32.toInt_inj, true_and, and_true, or_true, true_or, false_or, or_false, false_and, and_false, not_true_eq_false, not_false_eq_true] <;> omega)) (by rw [fe_1125, we_1126] <;> first | omega | (simp only [Int32.lt_iff_toInt_lt, Int32.le_iff_toInt_le, Int32.reduceToInt, ← Int32.toInt_inj, true_and, and_true, or_true, true_or, false_or, or_false, false_and, and_false, not_true_eq_false, not_false_eq_true] <;> omega)) (by rw [fe_1127, we_1128] <;> first | omega | (simp only [Int32.lt_iff_toInt_lt, Int32.le_iff_toInt_le, Int32.reduceToInt, ← Int32.toInt_inj, true_and, and_true, or_true, true_or, false_or, or_false, false_and, and_false, not_true_eq_false, not_false_eq_true] <;> omega))
            · simp only [Int32.lt_iff_toInt_lt, Int32.le_iff_toInt_le, Int32.reduceToInt, ← Int32.toInt_inj] at h_586
              refine v_aload_n hC dX12_way_153 rfl ?_
              refine v_vi hC (rest := []) m_1 e_566 rfl mi_X12_good ms_X12_good (p_X12_good hW_562 k_0) mx_X12_good ml_X12_139 (by decide) rfl (cells1 := 0) (slots1 := 0) (by decide) (by decide) (Nat.le_of_ble_eq_true rfl) (Nat.le_of_ble_eq_true rfl) rfl (Nat.le_of_ble_eq_true rfl) dX12_way_154 (fun r_1129 L_1130 f_1131 h_1132 => ?_)
              obtain ⟨rfl, rfl, b_1133, x_1134⟩ := h_1132
              have fe_1137 : fld (f_559 a_0) 12 = (v_579 : Int32).toInt := by rw [e_566]; rfl
              rw [fe_1137] at x_1134
              clear fe_1137
              try simp only [Int32.reduceToInt, Int64.reduceToInt] at x_1134
              refine v_if_eq hC dX12_way_157 (tgt := 182) (by decide) (fun h_1138 => ?_) (fun h_1138 => ?_)
              · simp only [Int32.lt_iff_toInt_lt, Int32.le_iff_toInt_le, Int32.reduceToInt, ← Int32.toInt_inj] at h_1138
                refine v_aload_n hC dX12_way_182 rfl ?_
                refine v_get hC fl_X12_34 m_1 e_566 rfl dX12_way_183 ?_
                refine v_iload_n hC dX12_way_186 rfl ?_
                refine v_iconst hC dX12_way_187 (v := 4) (by decide) ?_
                obtain ⟨v_1139, h_1140⟩ : ∃ v9 : Int32, v_164 + 4 = v9 := ⟨_, rfl⟩
                refine v_iadd hC dX12_way_188 h_1140 ?_
                have h_1141 := add_v h_1140 (by first | omega | (simp only [Int32.lt_iff_toInt_lt, Int32.le_iff_toInt_le, Int32.reduceToInt, ← Int32.toInt_inj, true_and, and_true, or_true, true_or, false_or, or_false, false_and, and_false, not_true_eq_false, not_false_eq_true] <;> omega)) (by first | omega | (simp only [Int32.lt_iff_toInt_lt, Int32.le_iff_toInt_le, Int32.reduceToInt, ← Int32.toInt_inj, true_and, and_true, or_true, true_or, false_or, or_false, false_and, and_false, not_true_eq_false, not_false_eq_true] <;> omega))
                try simp only [Int32.reduceToInt] at h_1141
                refine v_aload_n hC dX12_way_189 rfl ?_
                refine v_iconst hC dX12_way_190 (v := 1) (by decide) ?_
                refine v_iconst hC dX12_way_191 (v := 5) (by decide) ?_
                refine v_vi hC (rest := [.int v_1139, .ref (q 14)]) m_1 e_566 rfl mi_X12_number ms_X12_number (p_X12_number hW_562 k_0) mx_X12_number ml_X12_170 (by decide) rfl (cells1 := 0) (slots1 := 0) (by decide) (by decide) (Nat.le_of_ble_eq_true rfl) (Nat.le_of_ble_eq_true rfl) rfl (Nat.le_of_ble_eq_true rfl) dX12_way_192 (fun r_1142 L_1143 f_1144 h_1145 => ?_)
                obtain ⟨rfl, hW_1147, hF_1148, x_1146, -, -, -, -, -⟩ := h_1145
                have fe_1149 : fld (f_559 a_0) 12 = (v_579 : Int32).toInt := by rw [e_566]; rfl
                have hf_1150 := hF_1148.at hf_565 rfl
                obtain ⟨v_1152, v_1153, v_1155, v_1157, v_1159, v_1161, v_1163, v_1164, v_1165, v_1166, v_1168, e_1151, b_1154, b_1156, b_1158, b_1160, b_1162, b_1167, b_1169⟩ := hW_1147.at m_1 t_2
                have fe_1170 : fld (f_1144 a_0) 12 = (v_1164 : Int32).toInt := by rw [e_1151]; rfl
                rw [fe_1170, fe_1149] at x_1146
                clear fe_1149 fe_1170
                try simp only [Int32.reduceToInt, Int64.reduceToInt] at x_1146
                refine v_iast hC m_296 hf_1150 (vp_in_iff.mpr (by first | omega | (simp only [Int32.lt_iff_toInt_lt, Int32.le_iff_toInt_le, Int32.reduceToInt, ← Int32.toInt_inj, true_and, and_true, or_true, true_or, false_or, or_false, false_and, and_false, not_true_eq_false, not_false_eq_true] <;> omega))) dX12_way_195 (fun f_1171 hf_1172 hk_1173 => ?_)
                have hW_1175 := hW_1147.up hf_1172 hk_1173 t_297 ⟨_, rfl, (ok_549.up (by first | omega | (simp only [Int32.lt_iff_toInt_lt, Int32.le_iff_toInt_le, Int32.reduceToInt, ← Int32.toInt_inj, true_and, and_true, or_true, true_or, false_or, or_false, false_and, and_false, not_true_eq_false, not_false_eq_true] <;> omega)) (fun q1 q2 => (by first | omega | (simp only [Int32.lt_iff_toInt_lt, Int32.le_iff_toInt_le, Int32.reduceToInt, ← Int32.toInt_inj] at *; omega))) (fun k9 q1 q2 q3 => (by first | omega | (simp only [Int32.lt_iff_toInt_lt, Int32.le_iff_toInt_le, Int32.reduceToInt, ← Int32.toInt_inj] at *; omega))))⟩
                obtain ⟨g_1174, hf_1172, ok_1176, eg_1177⟩ : ∃ g9, f_1171 (q 14) = aI E 2076 g9 ∧ FOK g9 ∧ g9 = upd g_547 (v_1139 : Int32).toNatClampNeg r_1142 := ⟨_, hf_1172, (ok_549.up (by first | omega | (simp only [Int32.lt_iff_toInt_lt, Int32.le_iff_toInt_le, Int32.reduceToInt, ← Int32.toInt_inj, true_and, and_true, or_true, true_or, false_or, or_false, false_and, and_false, not_true_eq_false, not_false_eq_true] <;> omega)) (fun q1 q2 => (by first | omega | (simp only [Int32.lt_iff_toInt_lt, Int32.le_iff_toInt_le, Int32.reduceToInt, ← Int32.toInt_inj] at *; omega))) (fun k9 q1 q2 q3 => (by first | omega | (simp only [Int32.lt_iff_toInt_lt, Int32.le_iff_toInt_le, Int32.reduceToInt, ← Int32.toInt_inj] at *; omega)))), rfl⟩
                have hf_1178 := (hk_1173 a_0 (ne_kd e_1151 hf_1150 rfl)).trans e_1151
                have fr_1179 := FR.w hk_1173 hf_1150 (k := 2176) rfl
                have wt_1180 := wv_upd_ne (k := a_1) (j := 0) eg_1177 (by omega) (by decide) (by omega) (by simp only [Int32.reduceToInt]; omega)
                have wt_1181 := wv_upd_ne (k := a_1) (j := 2) eg_1177 (by omega) (by decide) (by omega) (by simp only [Int32.reduceToInt]; omega)
                have wt_1182 := wv_upd_ne (k := a_1) (j := 3) eg_1177 (by omega) (by decide) (by omega) (by simp only [Int32.reduceToInt]; omega)
                have wt_1183 := wv_upd_eq (k := a_1) (j := 4) eg_1177 (by omega) (by decide) (by simp only [Int32.reduceToInt]; omega)
                refine v_pick [0, 1, 2] rfl ?_
                have we_1184 : wvf (f_1171 (q 14)) a_1 0 = (wv g_1174 a_1 0).toInt := by rw [hf_1172]; rfl
                have fe_1185 : fld (f_1171 a_0) 12 = (v_1164 : Int32).toInt := by rw [hf_1178]; rfl
                have we_1186 : wvf (f_1171 (q 14)) a_1 2 = (wv g_1174 a_1 2).toInt := by rw [hf_1172]; rfl
                have fe_1187 : fld (f_1171 a_0) 12 = (v_1164 : Int32).toInt := by rw [hf_1178]; rfl
                have we_1188 : wvf (f_1171 (q 14)) a_1 3 = (wv g_1174 a_1 3).toInt := by rw [hf_1172]; rfl
                have fe_1189 : fld (f_1171 a_0) 12 = (v_1164 : Int32).toInt := by rw [hf_1178]; rfl
                have we_1190 : wvf (f_1171 (q 14)) a_1 4 = (wv g_1174 a_1 4).toInt := by rw [hf_1172]; rfl
                exact jn_810 f_1171 hW_1175 ((hF_1148.tr fr_1179).mono rfl) (by rw [we_1184] <;> first | omega | (simp only [Int32.lt_iff_toInt_lt, Int32.le_iff_toInt_le, Int32.reduceToInt, ← Int32.toInt_inj, true_and, and_true, or_true, true_or, false_or, or_false, false_and, and_false, not_true_eq_false, not_false_eq_true] <;> omega)) (by rw [fe_1185, we_1186] <;> first | omega | (simp only [Int32.lt_iff_toInt_lt, Int32.le_iff_toInt_le, Int32.reduceToInt, ← Int32.toInt_inj, true_and, and_true, or_true, true_or, false_or, or_false, false_and, and_false, not_true_eq_false, not_false_eq_true] <;> omega)) (by rw [fe_1187, we_1188] <;> first | omega | (simp only [Int32.lt_iff_toInt_lt, Int32.le_iff_toInt_le, Int32.reduceToInt, ← Int32.toInt_inj, true_and, and_true, or_true, true_or, false_or, or_false, false_and, and_false, not_true_eq_false, not_false_eq_true] <;> omega)) (by rw [fe_1189, we_1190] <;> first | omega | (simp only [Int32.lt_iff_toInt_lt, Int32.le_iff_toInt_le, Int32.reduceToInt, ← Int32.toInt_inj, true_and, and_true, or_true, true_or, false_or, or_false, false_and, and_false, not_true_eq_false, not_false_eq_true] <;> omega))
              · simp only [Int32.lt_iff_toInt_lt, Int32.le_iff_toInt_le, Int32.reduceToInt, ← Int32.toInt_inj] at h_1138
                refine v_aload_n hC dX12_way_160 rfl ?_
                refine v_get hC fl_X12_120 m_1 e_566 rfl dX12_way_161 ?_
                refine v_iconst hC dX12_way_164 (v := 2) (by decide) ?_
                refine v_icmp_ne hC dX12_way_165 (tgt := 182) (by decide) (fun h_1191 => ?_) (fun h_1191 => ?_)
                · simp only [Int32.lt_iff_toInt_lt, Int32.le_iff_toInt_le, Int32.reduceToInt, ← Int32.toInt_inj] at h_1191
                  refine v_aload_n hC dX12_way_182 rfl ?_
                  refine v_get hC fl_X12_34 m_1 e_566 rfl dX12_way_183 ?_
                  refine v_iload_n hC dX12_way_186 rfl ?_
                  refine v_iconst hC dX12_way_187 (v := 4) (by decide) ?_
                  obtain ⟨v_1192, h_1193⟩ : ∃ v9 : Int32, v_164 + 4 = v9 := ⟨_, rfl⟩
                  refine v_iadd hC dX12_way_188 h_1193 ?_
                  have h_1194 := add_v h_1193 (by first | omega | (simp only [Int32.lt_iff_toInt_lt, Int32.le_iff_toInt_le, Int32.reduceToInt, ← Int32.toInt_inj, true_and, and_true, or_true, true_or, false_or, or_false, false_and, and_false, not_true_eq_false, not_false_eq_true] <;> omega)) (by first | omega | (simp only [Int32.lt_iff_toInt_lt, Int32.le_iff_toInt_le, Int32.reduceToInt, ← Int32.toInt_inj, true_and, and_true, or_true, true_or, false_or, or_false, false_and, and_false, not_true_eq_false, not_false_eq_true] <;> omega))
                  try simp only [Int32.reduceToInt] at h_1194
                  refine v_aload_n hC dX12_way_189 rfl ?_
                  refine v_iconst hC dX12_way_190 (v := 1) (by decide) ?_
                  refine v_iconst hC dX12_way_191 (v := 5) (by decide) ?_
                  refine v_vi hC (rest := [.int v_1192, .ref (q 14)]) m_1 e_566 rfl mi_X12_number ms_X12_number (p_X12_number hW_562 k_0) mx_X12_number ml_X12_170 (by decide) rfl (cells1 := 0) (slots1 := 0) (by decide) (by decide) (Nat.le_of_ble_eq_true rfl) (Nat.le_of_ble_eq_true rfl) rfl (Nat.le_of_ble_eq_true rfl) dX12_way_192 (fun r_1195 L_1196 f_1197 h_1198 => ?_)
                  obtain ⟨rfl, hW_1200, hF_1201, x_1199, -, -, -, -, -⟩ := h_1198
                  have fe_1202 : fld (f_559 a_0) 12 = (v_579 : Int32).toInt := by rw [e_566]; rfl
                  have hf_1203 := hF_1201.at hf_565 rfl
                  obtain ⟨v_1205, v_1206, v_1208, v_1210, v_1212, v_1214, v_1216, v_1217, v_1218, v_1219, v_1221, e_1204, b_1207, b_1209, b_1211, b_1213, b_1215, b_1220, b_1222⟩ := hW_1200.at m_1 t_2
                  have fe_1223 : fld (f_1197 a_0) 12 = (v_1217 : Int32).toInt := by rw [e_1204]; rfl
                  rw [fe_1223, fe_1202] at x_1199
                  clear fe_1202 fe_1223
                  try simp only [Int32.reduceToInt, Int64.reduceToInt] at x_1199
                  refine v_iast hC m_296 hf_1203 (vp_in_iff.mpr (by first | omega | (simp only [Int32.lt_iff_toInt_lt, Int32.le_iff_toInt_le, Int32.reduceToInt, ← Int32.toInt_inj, true_and, and_true, or_true, true_or, false_or, or_false, false_and, and_false, not_true_eq_false, not_false_eq_true] <;> omega))) dX12_way_195 (fun f_1224 hf_1225 hk_1226 => ?_)
                  have hW_1228 := hW_1200.up hf_1225 hk_1226 t_297 ⟨_, rfl, (ok_549.up (by first | omega | (simp only [Int32.lt_iff_toInt_lt, Int32.le_iff_toInt_le, Int32.reduceToInt, ← Int32.toInt_inj, true_and, and_true, or_true, true_or, false_or, or_false, false_and, and_false, not_true_eq_false, not_false_eq_true] <;> omega)) (fun q1 q2 => (by first | omega | (simp only [Int32.lt_iff_toInt_lt, Int32.le_iff_toInt_le, Int32.reduceToInt, ← Int32.toInt_inj] at *; omega))) (fun k9 q1 q2 q3 => (by first | omega | (simp only [Int32.lt_iff_toInt_lt, Int32.le_iff_toInt_le, Int32.reduceToInt, ← Int32.toInt_inj] at *; omega))))⟩
                  obtain ⟨g_1227, hf_1225, ok_1229, eg_1230⟩ : ∃ g9, f_1224 (q 14) = aI E 2076 g9 ∧ FOK g9 ∧ g9 = upd g_547 (v_1192 : Int32).toNatClampNeg r_1195 := ⟨_, hf_1225, (ok_549.up (by first | omega | (simp only [Int32.lt_iff_toInt_lt, Int32.le_iff_toInt_le, Int32.reduceToInt, ← Int32.toInt_inj, true_and, and_true, or_true, true_or, false_or, or_false, false_and, and_false, not_true_eq_false, not_false_eq_true] <;> omega)) (fun q1 q2 => (by first | omega | (simp only [Int32.lt_iff_toInt_lt, Int32.le_iff_toInt_le, Int32.reduceToInt, ← Int32.toInt_inj] at *; omega))) (fun k9 q1 q2 q3 => (by first | omega | (simp only [Int32.lt_iff_toInt_lt, Int32.le_iff_toInt_le, Int32.reduceToInt, ← Int32.toInt_inj] at *; omega)))), rfl⟩
                  have hf_1231 := (hk_1226 a_0 (ne_kd e_1204 hf_1203 rfl)).trans e_1204
                  have fr_1232 := FR.w hk_1226 hf_1203 (k := 2176) rfl
                  have wt_1233 := wv_upd_ne (k := a_1) (j := 0) eg_1230 (by omega) (by decide) (by omega) (by simp only [Int32.reduceToInt]; omega)
                  have wt_1234 := wv_upd_ne (k := a_1) (j := 2) eg_1230 (by omega) (by decide) (by omega) (by simp only [Int32.reduceToInt]; omega)
                  have wt_1235 := wv_upd_ne (k := a_1) (j := 3) eg_1230 (by omega) (by decide) (by omega) (by simp only [Int32.reduceToInt]; omega)
                  have wt_1236 := wv_upd_eq (k := a_1) (j := 4) eg_1230 (by omega) (by decide) (by simp only [Int32.reduceToInt]; omega)
                  refine v_pick [0, 1, 2] rfl ?_
                  have we_1237 : wvf (f_1224 (q 14)) a_1 0 = (wv g_1227 a_1 0).toInt := by rw [hf_1225]; rfl
                  have fe_1238 : fld (f_1224 a_0) 12 = (v_1217 : Int32).toInt := by rw [hf_1231]; rfl
                  have we_1239 : wvf (f_1224 (q 14)) a_1 2 = (wv g_1227 a_1 2).toInt := by rw [hf_1225]; rfl
                  have fe_1240 : fld (f_1224 a_0) 12 = (v_1217 : Int32).toInt := by rw [hf_1231]; rfl
                  have we_1241 : wvf (f_1224 (q 14)) a_1 3 = (wv g_1227 a_1 3).toInt := by rw [hf_1225]; rfl
                  have fe_1242 : fld (f_1224 a_0) 12 = (v_1217 : Int32).toInt := by rw [hf_1231]; rfl
                  have we_1243 : wvf (f_1224 (q 14)) a_1 4 = (wv g_1227 a_1 4).toInt := by rw [hf_1225]; rfl
                  exact jn_810 f_1224 hW_1228 ((hF_1201.tr fr_1232).mono rfl) (by rw [we_1237] <;> first | omega | (simp only [Int32.lt_iff_toInt_lt, Int32.le_iff_toInt_le, Int32.reduceToInt, ← Int32.toInt_inj, true_and, and_true, or_true, true_or, false_or, or_false, false_and, and_false, not_true_eq_false, not_false_eq_true] <;> omega)) (by rw [fe_1238, we_1239] <;> first | omega | (simp only [Int32.lt_iff_toInt_lt, Int32.le_iff_toInt_le, Int32.reduceToInt, ← Int32.toInt_inj, true_and, and_true, or_true, true_or, false_or, or_false, false_and, and_false, not_true_eq_false, not_false_eq_true] <;> omega)) (by rw [fe_1240, we_1241] <;> first | omega | (simp only [Int32.lt_iff_toInt_lt, Int32.le_iff_toInt_le, Int32.reduceToInt, ← Int32.toInt_inj, true_and, and_true, or_true, true_or, false_or, or_false, false_and, and_false, not_true_eq_false, not_false_eq_true] <;> omega)) (by rw [fe_1242, we_1243] <;> first | omega | (simp only [Int32.lt_iff_toInt_lt, Int32.le_iff_toInt_le, Int32.reduceToInt, ← Int32.toInt_inj, true_and, and_true, or_true, true_or, false_or, or_false, false_and, and_false, not_true_eq_false, not_false_eq_true] <;> omega))
                · simp only [Int32.lt_iff_toInt_lt, Int32.le_iff_toInt_le, Int32.reduceToInt, ← Int32.toInt_inj] at h_1191
                  refine v_aload_n hC dX12_way_168 rfl ?_
                  refine v_get hC fl_X12_131 m_1 e_566 rfl dX12_way_169 ?_
                  refine v_iconst hC dX12_way_172 (v := 2) (by decide) ?_
                  obtain ⟨v_1244, h_1245⟩ : ∃ v9 : Int32, v_578 - v_578 / 2 * 2 = v9 := ⟨_, rfl⟩
                  refine v_irem hC dX12_way_173 (by decide) h_1245 ?_
                  refine v_if_ne hC dX12_way_174 (tgt := 182) (by decide) (fun h_1247 => ?_) (fun h_1247 => ?_)
                  · simp only [Int32.lt_iff_toInt_lt, Int32.le_iff_toInt_le, Int32.reduceToInt, ← Int32.toInt_inj] at h_1247
                    refine v_aload_n hC dX12_way_182 rfl ?_
                    refine v_get hC fl_X12_34 m_1 e_566 rfl dX12_way_183 ?_
                    refine v_iload_n hC dX12_way_186 rfl ?_
                    refine v_iconst hC dX12_way_187 (v := 4) (by decide) ?_
                    obtain ⟨v_1248, h_1249⟩ : ∃ v9 : Int32, v_164 + 4 = v9 := ⟨_, rfl⟩
                    refine v_iadd hC dX12_way_188 h_1249 ?_
                    have h_1250 := add_v h_1249 (by first | omega | (simp only [Int32.lt_iff_toInt_lt, Int32.le_iff_toInt_le, Int32.reduceToInt, ← Int32.toInt_inj, true_and, and_true, or_true, true_or, false_or, or_false, false_and, and_false, not_true_eq_false, not_false_eq_true] <;> omega)) (by first | omega | (simp only [Int32.lt_iff_toInt_lt, Int32.le_iff_toInt_le, Int32.reduceToInt, ← Int32.toInt_inj, true_and, and_true, or_true, true_or, false_or, or_false, false_and, and_false, not_true_eq_false, not_false_eq_true] <;> omega))
                    try simp only [Int32.reduceToInt] at h_1250
                    refine v_aload_n hC dX12_way_189 rfl ?_
                    refine v_iconst hC dX12_way_190 (v := 1) (by decide) ?_
                    refine v_iconst hC dX12_way_191 (v := 5) (by decide) ?_
                    refine v_vi hC (rest := [.int v_1248, .ref (q 14)]) m_1 e_566 rfl mi_X12_number ms_X12_number (p_X12_number hW_562 k_0) mx_X12_number ml_X12_170 (by decide) rfl (cells1 := 0) (slots1 := 0) (by decide) (by decide) (Nat.le_of_ble_eq_true rfl) (Nat.le_of_ble_eq_true rfl) rfl (Nat.le_of_ble_eq_true rfl) dX12_way_192 (fun r_1251 L_1252 f_1253 h_1254 => ?_)
                    obtain ⟨rfl, hW_1256, hF_1257, x_1255, -, -, -, -, -⟩ := h_1254
                    have fe_1258 : fld (f_559 a_0) 12 = (v_579 : Int32).toInt := by rw [e_566]; rfl
                    have hf_1259 := hF_1257.at hf_565 rfl
                    obtain ⟨v_1261, v_1262, v_1264, v_1266, v_1268, v_1270, v_1272, v_1273, v_1274, v_1275, v_1277, e_1260, b_1263, b_1265, b_1267, b_1269, b_1271, b_1276, b_1278⟩ := hW_1256.at m_1 t_2
                    have fe_1279 : fld (f_1253 a_0) 12 = (v_1273 : Int32).toInt := by rw [e_1260]; rfl
                    rw [fe_1279, fe_1258] at x_1255
                    clear fe_1258 fe_1279
                    try simp only [Int32.reduceToInt, Int64.reduceToInt] at x_1255
                    refine v_iast hC m_296 hf_1259 (vp_in_iff.mpr (by first | omega | (simp only [Int32.lt_iff_toInt_lt, Int32.le_iff_toInt_le, Int32.reduceToInt, ← Int32.toInt_inj, true_and, and_true, or_true, true_or, false_or, or_false, false_and, and_false, not_true_eq_false, not_false_eq_true] <;> omega))) dX12_way_195 (fun f_1280 hf_1281 hk_1282 => ?_)
                    have hW_1284 := hW_1256.up hf_1281 hk_1282 t_297 ⟨_, rfl, (ok_549.up (by first | omega | (simp only [Int32.lt_iff_toInt_lt, Int32.le_iff_toInt_le, Int32.reduceToInt, ← Int32.toInt_inj, true_and, and_true, or_true, true_or, false_or, or_false, false_and, and_false, not_true_eq_false, not_false_eq_true] <;> omega)) (fun q1 q2 => (by first | omega | (simp only [Int32.lt_iff_toInt_lt, Int32.le_iff_toInt_le, Int32.reduceToInt, ← Int32.toInt_inj] at *; omega))) (fun k9 q1 q2 q3 => (by first | omega | (simp only [Int32.lt_iff_toInt_lt, Int32.le_iff_toInt_le, Int32.reduceToInt, ← Int32.toInt_inj] at *; omega))))⟩
                    obtain ⟨g_1283, hf_1281, ok_1285, eg_1286⟩ : ∃ g9, f_1280 (q 14) = aI E 2076 g9 ∧ FOK g9 ∧ g9 = upd g_547 (v_1248 : Int32).toNatClampNeg r_1251 := ⟨_, hf_1281, (ok_549.up (by first | omega | (simp only [Int32.lt_iff_toInt_lt, Int32.le_iff_toInt_le, Int32.reduceToInt, ← Int32.toInt_inj, true_and, and_true, or_true, true_or, false_or, or_false, false_and, and_false, not_true_eq_false, not_false_eq_true] <;> omega)) (fun q1 q2 => (by first | omega | (simp only [Int32.lt_iff_toInt_lt, Int32.le_iff_toInt_le, Int32.reduceToInt, ← Int32.toInt_inj] at *; omega))) (fun k9 q1 q2 q3 => (by first | omega | (simp only [Int32.lt_iff_toInt_lt, Int32.le_iff_toInt_le, Int32.reduceToInt, ← Int32.toInt_inj] at *; omega)))), rfl⟩
                    have hf_1287 := (hk_1282 a_0 (ne_kd e_1260 hf_1259 rfl)).trans e_1260
                    have fr_1288 := FR.w hk_1282 hf_1259 (k := 2176) rfl
                    have wt_1289 := wv_upd_ne (k := a_1) (j := 0) eg_1286 (by omega) (by decide) (by omega) (by simp only [Int32.reduceToInt]; omega)
                    have wt_1290 := wv_upd_ne (k := a_1) (j := 2) eg_1286 (by omega) (by decide) (by omega) (by simp only [Int32.reduceToInt]; omega)
                    have wt_1291 := wv_upd_ne (k := a_1) (j := 3) eg_1286 (by omega) (by decide) (by omega) (by simp only [Int32.reduceToInt]; omega)
                    have wt_1292 := wv_upd_eq (k := a_1) (j := 4) eg_1286 (by omega) (by decide) (by simp only [Int32.reduceToInt]; omega)
                    refine v_pick [0, 1, 2] rfl ?_
                    have we_1293 : wvf (f_1280 (q 14)) a_1 0 = (wv g_1283 a_1 0).toInt := by rw [hf_1281]; rfl
                    have fe_1294 : fld (f_1280 a_0) 12 = (v_1273 : Int32).toInt := by rw [hf_1287]; rfl
                    have we_1295 : wvf (f_1280 (q 14)) a_1 2 = (wv g_1283 a_1 2).toInt := by rw [hf_1281]; rfl
                    have fe_1296 : fld (f_1280 a_0) 12 = (v_1273 : Int32).toInt := by rw [hf_1287]; rfl
                    have we_1297 : wvf (f_1280 (q 14)) a_1 3 = (wv g_1283 a_1 3).toInt := by rw [hf_1281]; rfl
                    have fe_1298 : fld (f_1280 a_0) 12 = (v_1273 : Int32).toInt := by rw [hf_1287]; rfl
                    have we_1299 : wvf (f_1280 (q 14)) a_1 4 = (wv g_1283 a_1 4).toInt := by rw [hf_1281]; rfl
                    exact jn_810 f_1280 hW_1284 ((hF_1257.tr fr_1288).mono rfl) (by rw [we_1293] <;> first | omega | (simp only [Int32.lt_iff_toInt_lt, Int32.le_iff_toInt_le, Int32.reduceToInt, ← Int32.toInt_inj, true_and, and_true, or_true, true_or, false_or, or_false, false_and, and_false, not_true_eq_false, not_false_eq_true] <;> omega)) (by rw [fe_1294, we_1295] <;> first | omega | (simp only [Int32.lt_iff_toInt_lt, Int32.le_iff_toInt_le, Int32.reduceToInt, ← Int32.toInt_inj, true_and, and_true, or_true, true_or, false_or, or_false, false_and, and_false, not_true_eq_false, not_false_eq_true] <;> omega)) (by rw [fe_1296, we_1297] <;> first | omega | (simp only [Int32.lt_iff_toInt_lt, Int32.le_iff_toInt_le, Int32.reduceToInt, ← Int32.toInt_inj, true_and, and_true, or_true, true_or, false_or, or_false, false_and, and_false, not_true_eq_false, not_false_eq_true] <;> omega)) (by rw [fe_1298, we_1299] <;> first | omega | (simp only [Int32.lt_iff_toInt_lt, Int32.le_iff_toInt_le, Int32.reduceToInt, ← Int32.toInt_inj, true_and, and_true, or_true, true_or, false_or, or_false, false_and, and_false, not_true_eq_false, not_false_eq_true] <;> omega))
                  · simp only [Int32.lt_iff_toInt_lt, Int32.le_iff_toInt_le, Int32.reduceToInt, ← Int32.toInt_inj] at h_1247
                    refine v_aload_n hC dX12_way_177 rfl ?_
                    refine v_iconst hC dX12_way_178 (v := 2) (by decide) ?_
                    refine v_vv hC (rest := []) m_1 e_566 rfl mi_X12_errs ms_X12_errs (p_X12_errs hW_562 k_0 (by decide)) mx_X12_errs ml_X12_162 (by decide) rfl (cells1 := 0) (slots1 := 0) (by decide) (by decide) (Nat.le_of_ble_eq_true rfl) (Nat.le_of_ble_eq_true rfl) rfl (Nat.le_of_ble_eq_true rfl) dX12_way_179 (fun L_1301 f_1302 h_1303 => ?_)
                    obtain ⟨rfl, hW_1305, hF_1306, x_1304, -, -, -, -⟩ := h_1303
                    have hf_1307 := hF_1306.at hf_565 rfl
                    obtain ⟨v_1309, v_1310, v_1312, v_1314, v_1316, v_1318, v_1320, v_1321, v_1322, v_1323, v_1325, e_1308, b_1311, b_1313, b_1315, b_1317, b_1319, b_1324, b_1326⟩ := hW_1305.at m_1 t_2
                    have fe_1327 : fld (f_1302 a_0) 12 = (v_1321 : Int32).toInt := by rw [e_1308]; rfl
                    rw [fe_1327] at x_1304
                    clear fe_1327
                    refine v_aload_n hC dX12_way_182 rfl ?_
                    refine v_get hC fl_X12_34 m_1 e_1308 rfl dX12_way_183 ?_
                    refine v_iload_n hC dX12_way_186 rfl ?_
                    refine v_iconst hC dX12_way_187 (v := 4) (by decide) ?_
                    obtain ⟨v_1328, h_1329⟩ : ∃ v9 : Int32, v_164 + 4 = v9 := ⟨_, rfl⟩
                    refine v_iadd hC dX12_way_188 h_1329 ?_
                    have h_1330 := add_v h_1329 (by first | omega | (simp only [Int32.lt_iff_toInt_lt, Int32.le_iff_toInt_le, Int32.reduceToInt, ← Int32.toInt_inj, true_and, and_true, or_true, true_or, false_or, or_false, false_and, and_false, not_true_eq_false, not_false_eq_true] <;> omega)) (by first | omega | (simp only [Int32.lt_iff_toInt_lt, Int32.le_iff_toInt_le, Int32.reduceToInt, ← Int32.toInt_inj, true_and, and_true, or_true, true_or, false_or, or_false, false_and, and_false, not_true_eq_false, not_false_eq_true] <;> omega))
                    try simp only [Int32.reduceToInt] at h_1330
                    refine v_aload_n hC dX12_way_189 rfl ?_
                    refine v_iconst hC dX12_way_190 (v := 1) (by decide) ?_
                    refine v_iconst hC dX12_way_191 (v := 5) (by decide) ?_
                    refine v_vi hC (rest := [.int v_1328, .ref (q 14)]) m_1 e_1308 rfl mi_X12_number ms_X12_number (p_X12_number hW_1305 k_0) mx_X12_number ml_X12_170 (by decide) rfl (cells1 := 0) (slots1 := 0) (by decide) (by decide) (Nat.le_of_ble_eq_true rfl) (Nat.le_of_ble_eq_true rfl) rfl (Nat.le_of_ble_eq_true rfl) dX12_way_192 (fun r_1331 L_1332 f_1333 h_1334 => ?_)
                    obtain ⟨rfl, hW_1336, hF_1337, x_1335, -, -, -, -, -⟩ := h_1334
                    have fe_1338 : fld (f_1302 a_0) 12 = (v_1321 : Int32).toInt := by rw [e_1308]; rfl
                    have hf_1339 := hF_1337.at hf_1307 rfl
                    obtain ⟨v_1341, v_1342, v_1344, v_1346, v_1348, v_1350, v_1352, v_1353, v_1354, v_1355, v_1357, e_1340, b_1343, b_1345, b_1347, b_1349, b_1351, b_1356, b_1358⟩ := hW_1336.at m_1 t_2
                    have fe_1359 : fld (f_1333 a_0) 12 = (v_1353 : Int32).toInt := by rw [e_1340]; rfl
                    rw [fe_1359, fe_1338] at x_1335
                    clear fe_1338 fe_1359
                    try simp only [Int32.reduceToInt, Int64.reduceToInt] at x_1335
                    refine v_iast hC m_296 hf_1339 (vp_in_iff.mpr (by first | omega | (simp only [Int32.lt_iff_toInt_lt, Int32.le_iff_toInt_le, Int32.reduceToInt, ← Int32.toInt_inj, true_and, and_true, or_true, true_or, false_or, or_false, false_and, and_false, not_true_eq_false, not_false_eq_true] <;> omega))) dX12_way_195 (fun f_1360 hf_1361 hk_1362 => ?_)
                    have hW_1364 := hW_1336.up hf_1361 hk_1362 t_297 ⟨_, rfl, (ok_549.up (by first | omega | (simp only [Int32.lt_iff_toInt_lt, Int32.le_iff_toInt_le, Int32.reduceToInt, ← Int32.toInt_inj, true_and, and_true, or_true, true_or, false_or, or_false, false_and, and_false, not_true_eq_false, not_false_eq_true] <;> omega)) (fun q1 q2 => (by first | omega | (simp only [Int32.lt_iff_toInt_lt, Int32.le_iff_toInt_le, Int32.reduceToInt, ← Int32.toInt_inj] at *; omega))) (fun k9 q1 q2 q3 => (by first | omega | (simp only [Int32.lt_iff_toInt_lt, Int32.le_iff_toInt_le, Int32.reduceToInt, ← Int32.toInt_inj] at *; omega))))⟩
                    obtain ⟨g_1363, hf_1361, ok_1365, eg_1366⟩ : ∃ g9, f_1360 (q 14) = aI E 2076 g9 ∧ FOK g9 ∧ g9 = upd g_547 (v_1328 : Int32).toNatClampNeg r_1331 := ⟨_, hf_1361, (ok_549.up (by first | omega | (simp only [Int32.lt_iff_toInt_lt, Int32.le_iff_toInt_le, Int32.reduceToInt, ← Int32.toInt_inj, true_and, and_true, or_true, true_or, false_or, or_false, false_and, and_false, not_true_eq_false, not_false_eq_true] <;> omega)) (fun q1 q2 => (by first | omega | (simp only [Int32.lt_iff_toInt_lt, Int32.le_iff_toInt_le, Int32.reduceToInt, ← Int32.toInt_inj] at *; omega))) (fun k9 q1 q2 q3 => (by first | omega | (simp only [Int32.lt_iff_toInt_lt, Int32.le_iff_toInt_le, Int32.reduceToInt, ← Int32.toInt_inj] at *; omega)))), rfl⟩
                    have hf_1367 := (hk_1362 a_0 (ne_kd e_1340 hf_1339 rfl)).trans e_1340
                    have fr_1368 := FR.w hk_1362 hf_1339 (k := 2176) rfl
                    have wt_1369 := wv_upd_ne (k := a_1) (j := 0) eg_1366 (by omega) (by decide) (by omega) (by simp only [Int32.reduceToInt]; omega)
                    have wt_1370 := wv_upd_ne (k := a_1) (j := 2) eg_1366 (by omega) (by decide) (by omega) (by simp only [Int32.reduceToInt]; omega)
                    have wt_1371 := wv_upd_ne (k := a_1) (j := 3) eg_1366 (by omega) (by decide) (by omega) (by simp only [Int32.reduceToInt]; omega)
                    have wt_1372 := wv_upd_eq (k := a_1) (j := 4) eg_1366 (by omega) (by decide) (by simp only [Int32.reduceToInt]; omega)
                    refine v_pick [0, 1, 2] rfl ?_
                    have we_1373 : wvf (f_1360 (q 14)) a_1 0 = (wv g_1363 a_1 0).toInt := by rw [hf_1361]; rfl
                    have fe_1374 : fld (f_1360 a_0) 12 = (v_1353 : Int32).toInt := by rw [hf_1367]; rfl
                    have we_1375 : wvf (f_1360 (q 14)) a_1 2 = (wv g_1363 a_1 2).toInt := by rw [hf_1361]; rfl
                    have fe_1376 : fld (f_1360 a_0) 12 = (v_1353 : Int32).toInt := by rw [hf_1367]; rfl
                    have we_1377 : wvf (f_1360 (q 14)) a_1 3 = (wv g_1363 a_1 3).toInt := by rw [hf_1361]; rfl
                    have fe_1378 : fld (f_1360 a_0) 12 = (v_1353 : Int32).toInt := by rw [hf_1367]; rfl
                    have we_1379 : wvf (f_1360 (q 14)) a_1 4 = (wv g_1363 a_1 4).toInt := by rw [hf_1361]; rfl
                    exact jn_810 f_1360 hW_1364 (((hF_1306.tr hF_1337).tr fr_1368).mono rfl) (by rw [we_1373] <;> first | omega | (simp only [Int32.lt_iff_toInt_lt, Int32.le_iff_toInt_le, Int32.reduceToInt, ← Int32.toInt_inj, true_and, and_true, or_true, true_or, false_or, or_false, false_and, and_false, not_true_eq_false, not_false_eq_true] <;> omega)) (by rw [fe_1374, we_1375] <;> first | omega | (simp only [Int32.lt_iff_toInt_lt, Int32.le_iff_toInt_le, Int32.reduceToInt, ← Int32.toInt_inj, true_and, and_true, or_true, true_or, false_or, or_false, false_and, and_false, not_true_eq_false, not_false_eq_true] <;> omega)) (by rw [fe_1376, we_1377] <;> first | omega | (simp only [Int32.lt_iff_toInt_lt, Int32.le_iff_toInt_le, Int32.reduceToInt, ← Int32.toInt_inj, true_and, and_true, or_true, true_or, false_or, or_false, false_and, and_false, not_true_eq_false, not_false_eq_true] <;> omega)) (by rw [fe_1378, we_1379] <;> first | omega | (simp only [Int32.lt_iff_toInt_lt, Int32.le_iff_toInt_le, Int32.reduceToInt, ← Int32.toInt_inj, true_and, and_true, or_true, true_or, false_or, or_false, false_and, and_false, not_true_eq_false, not_false_eq_true] <;> omega))
          refine v_if_eq hC dX12_way_121 (tgt := 133) (by decide) (fun h_466 => ?_) (fun h_466 => ?_)
          · simp only [Int32.lt_iff_toInt_lt, Int32.le_iff_toInt_le, Int32.reduceToInt, ← Int32.toInt_inj] at h_466
            refine v_iconst hC dX12_way_133 (v := 1) (by decide) ?_
            refine v_pick [0, 1, 2] rfl ?_
            have we_1380 : wvf (f_439 (q 14)) a_1 0 = (wv g_424 a_1 0).toInt := by rw [hf_445]; rfl
            have fe_1381 : fld (f_439 a_0) 12 = (v_459 : Int32).toInt := by rw [e_446]; rfl
            have we_1382 : wvf (f_439 (q 14)) a_1 2 = (wv g_424 a_1 2).toInt := by rw [hf_445]; rfl
            have fe_1383 : fld (f_439 a_0) 12 = (v_459 : Int32).toInt := by rw [e_446]; rfl
            exact jn_496 f_439 hW_442 FR.rf 1 (by rw [we_1380] <;> first | omega | (simp only [Int32.lt_iff_toInt_lt, Int32.le_iff_toInt_le, Int32.reduceToInt, ← Int32.toInt_inj, true_and, and_true, or_true, true_or, false_or, or_false, false_and, and_false, not_true_eq_false, not_false_eq_true] <;> omega)) (by rw [fe_1381, we_1382] <;> first | omega | (simp only [Int32.lt_iff_toInt_lt, Int32.le_iff_toInt_le, Int32.reduceToInt, ← Int32.toInt_inj, true_and, and_true, or_true, true_or, false_or, or_false, false_and, and_false, not_true_eq_false, not_false_eq_true] <;> omega)) (by rw [fe_1383] <;> first | omega | (simp only [Int32.lt_iff_toInt_lt, Int32.le_iff_toInt_le, Int32.reduceToInt, ← Int32.toInt_inj, true_and, and_true, or_true, true_or, false_or, or_false, false_and, and_false, not_true_eq_false, not_false_eq_true] <;> omega))
          · simp only [Int32.lt_iff_toInt_lt, Int32.le_iff_toInt_le, Int32.reduceToInt, ← Int32.toInt_inj] at h_466
            refine v_aload_n hC dX12_way_124 rfl ?_
            refine v_iconst hC dX12_way_125 (v := 1) (by decide) ?_
            refine v_iconst hC dX12_way_126 (v := 5) (by decide) ?_
            refine v_vi hC (rest := [.int v_434, .ref (q 14)]) m_1 e_446 rfl mi_X12_number ms_X12_number (p_X12_number hW_442 k_0) mx_X12_number ml_X12_170 (by decide) rfl (cells1 := 0) (slots1 := 0) (by decide) (by decide) (Nat.le_of_ble_eq_true rfl) (Nat.le_of_ble_eq_true rfl) rfl (Nat.le_of_ble_eq_true rfl) dX12_way_127 (fun r_1384 L_1385 f_1386 h_1387 => ?_)
            obtain ⟨rfl, hW_1389, hF_1390, x_1388, -, -, -, -, -⟩ := h_1387
            have fe_1391 : fld (f_439 a_0) 12 = (v_459 : Int32).toInt := by rw [e_446]; rfl
            have hf_1392 := hF_1390.at hf_445 rfl
            obtain ⟨v_1394, v_1395, v_1397, v_1399, v_1401, v_1403, v_1405, v_1406, v_1407, v_1408, v_1410, e_1393, b_1396, b_1398, b_1400, b_1402, b_1404, b_1409, b_1411⟩ := hW_1389.at m_1 t_2
            have fe_1412 : fld (f_1386 a_0) 12 = (v_1406 : Int32).toInt := by rw [e_1393]; rfl
            rw [fe_1412, fe_1391] at x_1388
            clear fe_1391 fe_1412
            try simp only [Int32.reduceToInt, Int64.reduceToInt] at x_1388
            refine v_goto hC dX12_way_130 (tgt := 134) (by decide) ?_
            refine v_pick [0, 1, 2] rfl ?_
            have we_1413 : wvf (f_1386 (q 14)) a_1 0 = (wv g_424 a_1 0).toInt := by rw [hf_1392]; rfl
            have fe_1414 : fld (f_1386 a_0) 12 = (v_1406 : Int32).toInt := by rw [e_1393]; rfl
            have we_1415 : wvf (f_1386 (q 14)) a_1 2 = (wv g_424 a_1 2).toInt := by rw [hf_1392]; rfl
            have fe_1416 : fld (f_1386 a_0) 12 = (v_1406 : Int32).toInt := by rw [e_1393]; rfl
            exact jn_496 f_1386 hW_1389 (hF_1390.mono rfl) r_1384 (by rw [we_1413] <;> first | omega | (simp only [Int32.lt_iff_toInt_lt, Int32.le_iff_toInt_le, Int32.reduceToInt, ← Int32.toInt_inj, true_and, and_true, or_true, true_or, false_or, or_false, false_and, and_false, not_true_eq_false, not_false_eq_true] <;> omega)) (by rw [fe_1414, we_1415] <;> first | omega | (simp only [Int32.lt_iff_toInt_lt, Int32.le_iff_toInt_le, Int32.reduceToInt, ← Int32.toInt_inj, true_and, and_true, or_true, true_or, false_or, or_false, false_and, and_false, not_true_eq_false, not_false_eq_true] <;> omega)) (by rw [fe_1416] <;> first | omega | (simp only [Int32.lt_iff_toInt_lt, Int32.le_iff_toInt_le, Int32.reduceToInt, ← Int32.toInt_inj, true_and, and_true, or_true, true_or, false_or, or_false, false_and, and_false, not_true_eq_false, not_false_eq_true] <;> omega))
        refine v_if_eq hC dX12_way_93 (tgt := 106) (by decide) (fun h_362 => ?_) (fun h_362 => ?_)
        · simp only [Int32.lt_iff_toInt_lt, Int32.le_iff_toInt_le, Int32.reduceToInt, ← Int32.toInt_inj] at h_362
          refine v_iconst hC dX12_way_106 (v := 1) (by decide) ?_
          refine v_pick [1, 2, 3] rfl ?_
          have we_1417 : wvf (f_335 (q 14)) a_1 0 = (wv g_320 a_1 0).toInt := by rw [hf_341]; rfl
          have fe_1418 : fld (f_335 a_0) 12 = (v_355 : Int32).toInt := by rw [e_342]; rfl
          exact jn_392 f_335 hW_338 FR.rf 1 (by rw [we_1417] <;> first | omega | (simp only [Int32.lt_iff_toInt_lt, Int32.le_iff_toInt_le, Int32.reduceToInt, ← Int32.toInt_inj, true_and, and_true, or_true, true_or, false_or, or_false, false_and, and_false, not_true_eq_false, not_false_eq_true] <;> omega)) (by rw [fe_1418] <;> first | omega | (simp only [Int32.lt_iff_toInt_lt, Int32.le_iff_toInt_le, Int32.reduceToInt, ← Int32.toInt_inj, true_and, and_true, or_true, true_or, false_or, or_false, false_and, and_false, not_true_eq_false, not_false_eq_true] <;> omega))
        · simp only [Int32.lt_iff_toInt_lt, Int32.le_iff_toInt_le, Int32.reduceToInt, ← Int32.toInt_inj] at h_362
          refine v_aload_n hC dX12_way_96 rfl ?_
          refine v_iconst hC dX12_way_97 (v := 1) (by decide) ?_
          refine v_bipush hC dX12_way_98 (v := 9) (by decide) ?_
          refine v_vi hC (rest := [.int v_330, .ref (q 14)]) m_1 e_342 rfl mi_X12_number ms_X12_number (p_X12_number hW_338 k_0) mx_X12_number ml_X12_170 (by decide) rfl (cells1 := 0) (slots1 := 0) (by decide) (by decide) (Nat.le_of_ble_eq_true rfl) (Nat.le_of_ble_eq_true rfl) rfl (Nat.le_of_ble_eq_true rfl) dX12_way_100 (fun r_1419 L_1420 f_1421 h_1422 => ?_)
          obtain ⟨rfl, hW_1424, hF_1425, x_1423, -, -, -, -, -⟩ := h_1422
          have fe_1426 : fld (f_335 a_0) 12 = (v_355 : Int32).toInt := by rw [e_342]; rfl
          have hf_1427 := hF_1425.at hf_341 rfl
          obtain ⟨v_1429, v_1430, v_1432, v_1434, v_1436, v_1438, v_1440, v_1441, v_1442, v_1443, v_1445, e_1428, b_1431, b_1433, b_1435, b_1437, b_1439, b_1444, b_1446⟩ := hW_1424.at m_1 t_2
          have fe_1447 : fld (f_1421 a_0) 12 = (v_1441 : Int32).toInt := by rw [e_1428]; rfl
          rw [fe_1447, fe_1426] at x_1423
          clear fe_1426 fe_1447
          try simp only [Int32.reduceToInt, Int64.reduceToInt] at x_1423
          refine v_goto hC dX12_way_103 (tgt := 107) (by decide) ?_
          refine v_pick [1, 2, 3] rfl ?_
          have we_1448 : wvf (f_1421 (q 14)) a_1 0 = (wv g_320 a_1 0).toInt := by rw [hf_1427]; rfl
          have fe_1449 : fld (f_1421 a_0) 12 = (v_1441 : Int32).toInt := by rw [e_1428]; rfl
          exact jn_392 f_1421 hW_1424 (hF_1425.mono rfl) r_1419 (by rw [we_1448] <;> first | omega | (simp only [Int32.lt_iff_toInt_lt, Int32.le_iff_toInt_le, Int32.reduceToInt, ← Int32.toInt_inj, true_and, and_true, or_true, true_or, false_or, or_false, false_and, and_false, not_true_eq_false, not_false_eq_true] <;> omega)) (by rw [fe_1449] <;> first | omega | (simp only [Int32.lt_iff_toInt_lt, Int32.le_iff_toInt_le, Int32.reduceToInt, ← Int32.toInt_inj, true_and, and_true, or_true, true_or, false_or, or_false, false_and, and_false, not_true_eq_false, not_false_eq_true] <;> omega))
      refine v_if_eq hC dX12_way_57 (tgt := 64) (by decide) (fun h_242 => ?_) (fun h_242 => ?_)
      · simp only [Int32.lt_iff_toInt_lt, Int32.le_iff_toInt_le, Int32.reduceToInt, ← Int32.toInt_inj] at h_242
        refine v_pick [0, 1, 2, 3] rfl ?_
        exact jn_272 f_210 hW_211 FR.rf
      · simp only [Int32.lt_iff_toInt_lt, Int32.le_iff_toInt_le, Int32.reduceToInt, ← Int32.toInt_inj] at h_242
        refine v_aload_n hC dX12_way_60 rfl ?_
        refine v_vv hC (rest := []) m_1 e_214 rfl mi_X12_advance ms_X12_advance (p_X12_advance hW_211 k_0) mx_X12_advance ml_X12_156 (by decide) rfl (cells1 := 0) (slots1 := 0) (by decide) (by decide) (Nat.le_of_ble_eq_true rfl) (Nat.le_of_ble_eq_true rfl) rfl (Nat.le_of_ble_eq_true rfl) dX12_way_61 (fun L_1451 f_1452 h_1453 => ?_)
        obtain ⟨rfl, hW_1455, hF_1456, -, -, x_1454, -⟩ := h_1453
        have fe_1457 : fld (f_210 a_0) 12 = (v_227 : Int32).toInt := by rw [e_214]; rfl
        have hf_1458 := hF_1456.at hf_213 rfl
        obtain ⟨v_1460, v_1461, v_1463, v_1465, v_1467, v_1469, v_1471, v_1472, v_1473, v_1474, v_1476, e_1459, b_1462, b_1464, b_1466, b_1468, b_1470, b_1475, b_1477⟩ := hW_1455.at m_1 t_2
        have fe_1478 : fld (f_1452 a_0) 12 = (v_1472 : Int32).toInt := by rw [e_1459]; rfl
        rw [fe_1478, fe_1457] at x_1454
        clear fe_1457 fe_1478
        refine v_pick [0, 1, 2, 3] rfl ?_
        exact jn_272 f_1452 hW_1455 (hF_1456.mono rfl)
    refine v_icmp_ne hC dX12_way_45 (tgt := 53) (by decide) (fun h_180 => ?_) (fun h_180 => ?_)
    · simp only [Int32.lt_iff_toInt_lt, Int32.le_iff_toInt_le, Int32.reduceToInt, ← Int32.toInt_inj] at h_180
      refine v_pick [0, 1, 2, 3] rfl ?_
      exact jn_209 f_135 hW_138 FR.rf
    · simp only [Int32.lt_iff_toInt_lt, Int32.le_iff_toInt_le, Int32.reduceToInt, ← Int32.toInt_inj] at h_180
      refine v_aload_n hC dX12_way_48 rfl ?_
      refine v_iconst hC dX12_way_49 (v := 1) (by decide) ?_
      refine v_vv hC (rest := []) m_1 e_141 rfl mi_X12_errs ms_X12_errs (p_X12_errs hW_138 k_0 (by decide)) mx_X12_errs ml_X12_162 (by decide) rfl (cells1 := 0) (slots1 := 0) (by decide) (by decide) (Nat.le_of_ble_eq_true rfl) (Nat.le_of_ble_eq_true rfl) rfl (Nat.le_of_ble_eq_true rfl) dX12_way_50 (fun L_1480 f_1481 h_1482 => ?_)
      obtain ⟨rfl, hW_1484, hF_1485, x_1483, -, -, -, -⟩ := h_1482
      have hf_1486 := hF_1485.at e_169 rfl
      obtain ⟨v_1488, v_1489, v_1491, v_1493, v_1495, v_1497, v_1499, v_1500, v_1501, v_1502, v_1504, e_1487, b_1490, b_1492, b_1494, b_1496, b_1498, b_1503, b_1505⟩ := hW_1484.at m_1 t_2
      have fe_1506 : fld (f_1481 a_0) 12 = (v_1500 : Int32).toInt := by rw [e_1487]; rfl
      rw [fe_1506] at x_1483
      clear fe_1506
      refine v_pick [0, 1, 2, 3] rfl ?_
      exact jn_209 f_1481 hW_1484 (hF_1485.mono rfl)
  · simp only [Int32.lt_iff_toInt_lt, Int32.le_iff_toInt_le, Int32.reduceToInt, ← Int32.toInt_inj] at h_30
    refine v_bipush hC dX12_way_7 (v := (-2)) (by decide) ?_
    exact hR _ _ _ _ _ _ _ dX12_way_9 rfl (Nat.le_of_ble_eq_true rfl) (Nat.le_of_ble_eq_true rfl) ⟨rfl, hW, FR.rf, (by decide), (.inl (by decide))⟩
set_option maxRecDepth 100000 in
set_option maxHeartbeats 8000000 in
theorem p_X12_readRow {l : Launch} {E : Ez} {L : List Nat} {f : Nat → va_E} {T : Nat → va_E → Prop} {a_0 : Nat} {q : Nat → Nat} {g_f : Nat → Int32} (hW : WT T L f) (k_0 : isM T L E a_0 q) (e_f : f (q 14) = aI E 2076 g_f) (o_f : FOK g_f) (hPR : PR g_f) : CV l yX12_readRow cX12_readRow 5 7 0 0 E [.ref a_0] L f (fun L1 f1 => L = L1 ∧ WT T L f1 ∧ FR [12, 2176] f f1 ∧ (∃ g9 : Nat → Int32, f1 (q 14) = aI E 2076 g9 ∧ FOK g9 ∧ PR g9 ∧ g9 0 = g_f 0 ∧ g9 1 = g_f 1 ∧ (¬ fld (f1 a_0) 12 = 0 ∨ 1 ≤ (g9 2).toInt)) ∧ (¬ fld (f1 a_0) 12 = 0 ∨ (fld (f a_0) 12 = 0 ∧ fld (f a_0) 8 < fld (f1 a_0) 8)) ∧ fld (f1 a_0) 20 = fld (f a_0) 20) := by
  refine cv_of (by decide) (Nat.le_of_ble_eq_true rfl) (fun z hz hnm hC hR => ?_)
  have hC : Cx z E cX12_readRow RX12 5 7 0 0 := hC
  subst hz
  show V z E 5 0 0 L f 0 [(0, .ref a_0)] []
  obtain ⟨m_1, t_2, nq_21, k_3, k_4, k_5, k_6, k_7, k_8, k_9, k_10, k_11, k_12, k_13, k_14, k_15, k_16, k_17, k_18, k_19, k_20⟩ := id k_0
  obtain ⟨m_22, t_23⟩ := id k_8
  obtain ⟨v_25, v_26, v_28, v_30, v_32, v_34, v_36, v_37, v_38, v_39, v_41, e_24, b_27, b_29, b_31, b_33, b_35, b_40, b_42⟩ := hW.at m_1 t_2
  have mz_43 : fld (f a_0) 8 = v_30.toInt := by rw [e_24]; rfl
  have mz_44 : fld (f a_0) 12 = v_37.toInt := by rw [e_24]; rfl
  have mz_45 : fld (f a_0) 20 = v_41.toInt := by rw [e_24]; rfl
  have pr_1 := hPR.1
  refine v_aload_n hC dX12_readRow_0 rfl ?_
  refine v_ldcS hC sr_X12_173 dX12_readRow_1 ?_
  refine v_vi hC (rest := []) m_1 e_24 rfl mi_X12_is ms_X12_is (p_X12_is hW k_0 (by decide)) mx_X12_is ml_X12_152 (by decide) rfl (cells1 := 0) (slots1 := 0) (by decide) (by decide) (Nat.le_of_ble_eq_true rfl) (Nat.le_of_ble_eq_true rfl) rfl (Nat.le_of_ble_eq_true rfl) dX12_readRow_3 (fun r_46 L_47 f_48 h_49 => ?_)
  obtain ⟨rfl, rfl, rfl⟩ := h_49
  have fe_52 : fld (f a_0) 8 = (v_30 : Int32).toInt := by rw [e_24]; rfl
  have fe_53 : fld (f a_0) 9 = (v_32 : Int32).toInt := by rw [e_24]; rfl
  have fe_54 : fld (f a_0) 10 = (v_34 : Int32).toInt := by rw [e_24]; rfl
  have fe_55 : fld (f a_0) 12 = (v_37 : Int32).toInt := by rw [e_24]; rfl
  have ib_56 := iw_b (f a_0) (f (q 4)) 42
  have ln_57 : ((bytStr.getD 42 []).length : Int) = 3 := by rfl
  rw [fe_55, fe_54, fe_52, fe_53] at ib_56
  clear fe_52 fe_53 fe_54 fe_55
  refine v_if_eq hC dX12_readRow_6 (tgt := 25) (by decide) (fun h_58 => ?_) (fun h_58 => ?_)
  · simp only [Int32.lt_iff_toInt_lt, Int32.le_iff_toInt_le, Int32.reduceToInt, ← Int32.toInt_inj] at h_58
    refine v_aload_n hC dX12_readRow_25 rfl ?_
    refine v_ldcS hC sr_X12_173 dX12_readRow_26 ?_
    refine v_vv hC (rest := []) m_1 e_24 rfl mi_X12_needs ms_X12_needs (p_X12_needs hW k_0 (by decide)) mx_X12_needs ml_X12_166 (by decide) rfl (cells1 := 0) (slots1 := 0) (by decide) (by decide) (Nat.le_of_ble_eq_true rfl) (Nat.le_of_ble_eq_true rfl) rfl (Nat.le_of_ble_eq_true rfl) dX12_readRow_28 (fun L_60 f_61 h_62 => ?_)
    obtain ⟨rfl, hW_67, hF_68, x_63, x_64, x_65, x_66, -⟩ := h_62
    have fe_69 : fld (f a_0) 8 = (v_30 : Int32).toInt := by rw [e_24]; rfl
    have fe_70 : fld (f a_0) 9 = (v_32 : Int32).toInt := by rw [e_24]; rfl
    have fe_71 : fld (f a_0) 10 = (v_34 : Int32).toInt := by rw [e_24]; rfl
    have fe_72 : fld (f a_0) 12 = (v_37 : Int32).toInt := by rw [e_24]; rfl
    have fe_73 : fld (f a_0) 20 = (v_41 : Int32).toInt := by rw [e_24]; rfl
    have ib_74 := iw_b (f a_0) (f (q 4)) 42
    rw [fe_72, fe_71, fe_69, fe_70] at ib_74
    have hf_75 := hF_68.at e_f rfl
    obtain ⟨v_77, v_78, v_80, v_82, v_84, v_86, v_88, v_89, v_90, v_91, v_93, e_76, b_79, b_81, b_83, b_85, b_87, b_92, b_94⟩ := hW_67.at m_1 t_2
    have fe_95 : fld (f_61 a_0) 8 = (v_82 : Int32).toInt := by rw [e_76]; rfl
    have fe_96 : fld (f_61 a_0) 9 = (v_84 : Int32).toInt := by rw [e_76]; rfl
    have fe_97 : fld (f_61 a_0) 10 = (v_86 : Int32).toInt := by rw [e_76]; rfl
    have fe_98 : fld (f_61 a_0) 12 = (v_89 : Int32).toInt := by rw [e_76]; rfl
    have fe_99 : fld (f_61 a_0) 20 = (v_93 : Int32).toInt := by rw [e_76]; rfl
    rw [fe_98, fe_69, fe_96, fe_95] at x_63
    rw [fe_98, fe_97, fe_96, fe_95] at x_64
    rw [fe_98, fe_72] at x_65
    rw [fe_99, fe_73] at x_66
    clear fe_69 fe_70 fe_71 fe_72 fe_73 fe_95 fe_96 fe_97 fe_98 fe_99
    refine v_aload_n hC dX12_readRow_31 rfl ?_
    refine v_get hC fl_X12_108 m_1 e_76 rfl dX12_readRow_32 ?_
    refine v_aload_n hC dX12_readRow_35 rfl ?_
    refine v_get hC fl_X12_117 m_1 e_76 rfl dX12_readRow_36 ?_
    obtain ⟨v_100, h_101⟩ : ∃ v9 : Int32, v_82 - v_84 = v9 := ⟨_, rfl⟩
    refine v_isub hC dX12_readRow_39 h_101 ?_
    have h_102 := sub_v h_101 (by first | omega | (simp only [Int32.lt_iff_toInt_lt, Int32.le_iff_toInt_le, Int32.reduceToInt, ← Int32.toInt_inj, true_and, and_true, or_true, true_or, false_or, or_false, false_and, and_false, not_true_eq_false, not_false_eq_true] <;> omega)) (by first | omega | (simp only [Int32.lt_iff_toInt_lt, Int32.le_iff_toInt_le, Int32.reduceToInt, ← Int32.toInt_inj, true_and, and_true, or_true, true_or, false_or, or_false, false_and, and_false, not_true_eq_false, not_false_eq_true] <;> omega))
    refine v_istore_n hC dX12_readRow_40 (by decide) (lv' := [(1, .int v_100), (0, .ref a_0)]) rfl ?_
    refine v_aload_n hC dX12_readRow_41 rfl ?_
    refine v_get hC fl_X12_120 m_1 e_76 rfl dX12_readRow_42 ?_
    refine v_iconst hC dX12_readRow_45 (v := 1) (by decide) ?_
    have jn_105 : ∀ (v_106 : Int32) (b_107 : (0 ≤ v_106.toInt ∧ v_106.toInt ≤ 1)) (jv_108 : ((v_106 : Int32).toInt = 0 ∨ (v_100.toInt ≤ 12 ∧ fld (f_61 a_0) 10 = 1))), V z E 5 0 0 L f_61 60 [(1, .int v_100), (0, .ref a_0)] [.int v_106] := by
      intro v_106 b_107 jv_108
      have fe_109 : fld (f_61 a_0) 10 = (v_86 : Int32).toInt := by rw [e_76]; rfl
      rw [fe_109] at jv_108
      refine v_istore_n hC dX12_readRow_60 (by decide) (lv' := [(2, .int v_106), (1, .int v_100), (0, .ref a_0)]) rfl ?_
      refine v_bipush hC dX12_readRow_61 (v := 16) (by decide) ?_
      refine v_bipush hC dX12_readRow_63 (v := 13) (by decide) ?_
      refine v_aload_n hC dX12_readRow_65 rfl ?_
      refine v_get hC fl_X12_34 m_1 e_76 rfl dX12_readRow_66 ?_
      refine v_iconst hC dX12_readRow_69 (v := 2) (by decide) ?_
      refine v_iald hC m_22 hf_75 (vp_in_iff.mpr (by decide)) (v := g_f 2) rfl dX12_readRow_70 ?_
      obtain ⟨v_110, h_111⟩ : ∃ v9 : Int32, (13 : Int32) * (g_f 2) = v9 := ⟨_, rfl⟩
      refine v_imul hC dX12_readRow_71 h_111 ?_
      have h_112 := mul_v 13 8 104 h_111 (by decide) (by first | omega | (simp only [Int32.lt_iff_toInt_lt, Int32.le_iff_toInt_le, Int32.reduceToInt, ← Int32.toInt_inj, true_and, and_true, or_true, true_or, false_or, or_false, false_and, and_false, not_true_eq_false, not_false_eq_true] <;> omega)) (by decide) (by decide)
      try simp only [Int32.reduceToInt] at h_112
      obtain ⟨v_113, h_114⟩ : ∃ v9 : Int32, (16 : Int32) + v_110 = v9 := ⟨_, rfl⟩
      refine v_iadd hC dX12_readRow_72 h_114 ?_
      have h_115 := add_v h_114 (by first | omega | (simp only [Int32.lt_iff_toInt_lt, Int32.le_iff_toInt_le, Int32.reduceToInt, ← Int32.toInt_inj, true_and, and_true, or_true, true_or, false_or, or_false, false_and, and_false, not_true_eq_false, not_false_eq_true] <;> omega)) (by first | omega | (simp only [Int32.lt_iff_toInt_lt, Int32.le_iff_toInt_le, Int32.reduceToInt, ← Int32.toInt_inj, true_and, and_true, or_true, true_or, false_or, or_false, false_and, and_false, not_true_eq_false, not_false_eq_true] <;> omega))
      try simp only [Int32.reduceToInt] at h_115
      refine v_istore_n hC dX12_readRow_73 (by decide) (lv' := [(3, .int v_113), (2, .int v_106), (1, .int v_100), (0, .ref a_0)]) rfl ?_
      refine v_iconst hC dX12_readRow_74 (v := 0) (by decide) ?_
      refine v_istore hC dX12_readRow_75 (by decide) (lv' := [(4, .int 0), (3, .int v_113), (2, .int v_106), (1, .int v_100), (0, .ref a_0)]) rfl ?_
      have lp_2101 : ∀ (n_2102 : Nat) (f_2093 : Nat → va_E) (hW_2094 : WT T L f_2093) (hF_2095 : FR [2176] f_61 f_2093) (i_2091 : Int32) (b_2097 : (0 ≤ i_2091.toInt ∧ i_2091.toInt ≤ 600)) (i_2092 : Int32) (b_2098 : (0 ≤ i_2092.toInt ∧ i_2092.toInt ≤ 1)) (nv_2100 : (i_2092.toInt = 0 ∨ (v_100.toInt ≤ 12 ∧ fld (f_2093 a_0) 10 = 1))) (cv_2099 : ∃ g9 : Nat → Int32, (f_2093 (q 14)) = aI E 2076 g9 ∧ RR g_f g9) (hm_2104 : 600 - i_2091.toInt < (n_2102 : Int)), V z E 5 0 0 L f_2093 77 [(4, .int i_2091), (3, .int v_113), (2, .int i_2092), (1, .int v_100), (0, .ref a_0)] [] := by
        intro n_2102
        induction n_2102 with
        | zero =>
          intro f_2093 hW_2094 hF_2095 i_2091 b_2097 i_2092 b_2098 nv_2100 cv_2099 hm_2104
          have hf_2096 := hF_2095.at e_76 rfl
          have fe_2105 : fld (f_2093 a_0) 10 = (v_86 : Int32).toInt := by rw [hf_2096]; rfl
          rw [fe_2105] at nv_2100
          obtain ⟨g_2106, e_2107, rr_2108⟩ := cv_2099
          exfalso; omega
        | succ n_2102 ih_2103 =>
          intro f_2093 hW_2094 hF_2095 i_2091 b_2097 i_2092 b_2098 nv_2100 cv_2099 hm_2104
          have hf_2096 := hF_2095.at e_76 rfl
          have fe_2105 : fld (f_2093 a_0) 10 = (v_86 : Int32).toInt := by rw [hf_2096]; rfl
          rw [fe_2105] at nv_2100
          obtain ⟨g_2106, e_2107, rr_2108⟩ := cv_2099
          refine v_iload hC dX12_readRow_77 rfl ?_
          refine v_iload_n hC dX12_readRow_79 rfl ?_
          have jn_2208 : V z E 5 0 0 L f_2093 151 [(3, .int v_113), (2, .int i_2092), (1, .int v_100), (0, .ref a_0)] [] := by
            refine v_iload_n hC dX12_readRow_151 rfl ?_
            refine v_if_ne hC dX12_readRow_152 (tgt := 160) (by decide) (fun h_2209 => ?_) (fun h_2209 => ?_)
            · simp only [Int32.lt_iff_toInt_lt, Int32.le_iff_toInt_le, Int32.reduceToInt, ← Int32.toInt_inj] at h_2209
              refine v_aload_n hC dX12_readRow_160 rfl ?_
              refine v_vi hC (rest := []) m_1 hf_2096 rfl mi_X12_good ms_X12_good (p_X12_good hW_2094 k_0) mx_X12_good ml_X12_139 (by decide) rfl (cells1 := 0) (slots1 := 0) (by decide) (by decide) (Nat.le_of_ble_eq_true rfl) (Nat.le_of_ble_eq_true rfl) rfl (Nat.le_of_ble_eq_true rfl) dX12_readRow_161 (fun r_2210 L_2211 f_2212 h_2213 => ?_)
              obtain ⟨rfl, rfl, b_2214, x_2215⟩ := h_2213
              have fe_2218 : fld (f_2093 a_0) 12 = (v_89 : Int32).toInt := by rw [hf_2096]; rfl
              rw [fe_2218] at x_2215
              clear fe_2218
              try simp only [Int32.reduceToInt, Int64.reduceToInt] at x_2215
              refine v_if_ne hC dX12_readRow_164 (tgt := 168) (by decide) (fun h_2219 => ?_) (fun h_2219 => ?_)
              · simp only [Int32.lt_iff_toInt_lt, Int32.le_iff_toInt_le, Int32.reduceToInt, ← Int32.toInt_inj] at h_2219
                refine v_aload_n hC dX12_readRow_168 rfl ?_
                refine v_get hC fl_X12_34 m_1 hf_2096 rfl dX12_readRow_169 ?_
                refine v_iload_n hC dX12_readRow_172 rfl ?_
                refine v_iload_n hC dX12_readRow_173 rfl ?_
                refine v_iast hC m_22 e_2107 (vp_in_iff.mpr (by first | omega | (simp only [Int32.lt_iff_toInt_lt, Int32.le_iff_toInt_le, Int32.reduceToInt, ← Int32.toInt_inj, true_and, and_true, or_true, true_or, false_or, or_false, false_and, and_false, not_true_eq_false, not_false_eq_true] <;> omega))) dX12_readRow_174 (fun f_2220 hf_2221 hk_2222 => ?_)
                have hW_2224 := hW_2094.up hf_2221 hk_2222 t_23 ⟨_, rfl, (rr_2108.1.up (by first | omega | (simp only [Int32.lt_iff_toInt_lt, Int32.le_iff_toInt_le, Int32.reduceToInt, ← Int32.toInt_inj, true_and, and_true, or_true, true_or, false_or, or_false, false_and, and_false, not_true_eq_false, not_false_eq_true] <;> omega)) (fun q1 q2 => (by first | omega | (simp only [Int32.lt_iff_toInt_lt, Int32.le_iff_toInt_le, Int32.reduceToInt, ← Int32.toInt_inj] at *; omega))) (fun k9 q1 q2 q3 => (by first | omega | (simp only [Int32.lt_iff_toInt_lt, Int32.le_iff_toInt_le, Int32.reduceToInt, ← Int32.toInt_inj] at *; omega))))⟩
                obtain ⟨g_2223, hf_2221, ok_2225, eg_2226⟩ : ∃ g9, f_2220 (q 14) = aI E 2076 g9 ∧ FOK g9 ∧ g9 = upd g_2106 (v_113 : Int32).toNatClampNeg v_100 := ⟨_, hf_2221, (rr_2108.1.up (by first | omega | (simp only [Int32.lt_iff_toInt_lt, Int32.le_iff_toInt_le, Int32.reduceToInt, ← Int32.toInt_inj, true_and, and_true, or_true, true_or, false_or, or_false, false_and, and_false, not_true_eq_false, not_false_eq_true] <;> omega)) (fun q1 q2 => (by first | omega | (simp only [Int32.lt_iff_toInt_lt, Int32.le_iff_toInt_le, Int32.reduceToInt, ← Int32.toInt_inj] at *; omega))) (fun k9 q1 q2 q3 => (by first | omega | (simp only [Int32.lt_iff_toInt_lt, Int32.le_iff_toInt_le, Int32.reduceToInt, ← Int32.toInt_inj] at *; omega)))), rfl⟩
                have hf_2227 := (hk_2222 a_0 (ne_kd hf_2096 e_2107 rfl)).trans hf_2096
                have fr_2228 := FR.w hk_2222 e_2107 (k := 2176) rfl
                have g2_2229 : (g_2223 2).toInt = (g_f 2).toInt := by rw [← rr_2108.2.2.2.2, eg_2226]; unfold upd; rw [if_neg (by rw [clamp_t]; omega)]
                refine v_aload_n hC dX12_readRow_175 rfl ?_
                refine v_get hC fl_X12_34 m_1 hf_2227 rfl dX12_readRow_176 ?_
                refine v_iconst hC dX12_readRow_179 (v := 2) (by decide) ?_
                refine v_dup2 hC dX12_readRow_180 rfl rfl ?_
                refine v_iald hC m_22 hf_2221 (vp_in_iff.mpr (by decide)) (v := g_2223 2) rfl dX12_readRow_181 ?_
                refine v_iconst hC dX12_readRow_182 (v := 1) (by decide) ?_
                obtain ⟨v_2230, h_2231⟩ : ∃ v9 : Int32, (g_2223 2) + 1 = v9 := ⟨_, rfl⟩
                refine v_iadd hC dX12_readRow_183 h_2231 ?_
                have h_2232 := add_v h_2231 (by first | omega | (simp only [Int32.lt_iff_toInt_lt, Int32.le_iff_toInt_le, Int32.reduceToInt, ← Int32.toInt_inj, true_and, and_true, or_true, true_or, false_or, or_false, false_and, and_false, not_true_eq_false, not_false_eq_true] <;> omega)) (by first | omega | (simp only [Int32.lt_iff_toInt_lt, Int32.le_iff_toInt_le, Int32.reduceToInt, ← Int32.toInt_inj, true_and, and_true, or_true, true_or, false_or, or_false, false_and, and_false, not_true_eq_false, not_false_eq_true] <;> omega))
                try simp only [Int32.reduceToInt] at h_2232
                refine v_iast hC m_22 hf_2221 (vp_in_iff.mpr (by decide)) dX12_readRow_184 (fun f_2233 hf_2234 hk_2235 => ?_)
                have hW_2237 := hW_2224.up hf_2234 hk_2235 t_23 ⟨_, rfl, (ok_2225.up (i := 2) (by decide) (fun q1 q2 => absurd (And.intro q1 q2) (by decide)) (fun k9 q1 q2 q3 => by simp only [Int32.reduceToInt] at q3; omega))⟩
                obtain ⟨g_2236, hf_2234, ok_2238, eg_2239⟩ : ∃ g9, f_2233 (q 14) = aI E 2076 g9 ∧ FOK g9 ∧ g9 = upd g_2223 (2 : Int32).toNatClampNeg v_2230 := ⟨_, hf_2234, (ok_2225.up (i := 2) (by decide) (fun q1 q2 => absurd (And.intro q1 q2) (by decide)) (fun k9 q1 q2 q3 => by simp only [Int32.reduceToInt] at q3; omega)), rfl⟩
                have hf_2240 := (hk_2235 a_0 (ne_kd hf_2227 hf_2221 rfl)).trans hf_2227
                have fr_2241 := FR.w hk_2235 hf_2221 (k := 2176) rfl
                have rf_2242 := rr_2108.fin eg_2226 eg_2239 (by omega) (by omega) (by omega) (by omega)
                have rf_2242_t := rf_2242.2.2.2.2
                refine v_aload_n hC dX12_readRow_185 rfl ?_
                refine v_vv hC (rest := []) m_1 hf_2240 rfl mi_X12_advance ms_X12_advance (p_X12_advance hW_2237 k_0) mx_X12_advance ml_X12_156 (by decide) rfl (cells1 := 0) (slots1 := 0) (by decide) (by decide) (Nat.le_of_ble_eq_true rfl) (Nat.le_of_ble_eq_true rfl) rfl (Nat.le_of_ble_eq_true rfl) dX12_readRow_186 (fun L_2244 f_2245 h_2246 => ?_)
                obtain ⟨rfl, hW_2251, hF_2252, x_2247, x_2248, x_2249, x_2250⟩ := h_2246
                have fe_2253 : fld (f_2233 a_0) 8 = (v_82 : Int32).toInt := by rw [hf_2240]; rfl
                have fe_2254 : fld (f_2233 a_0) 12 = (v_89 : Int32).toInt := by rw [hf_2240]; rfl
                have fe_2255 : fld (f_2233 a_0) 20 = (v_93 : Int32).toInt := by rw [hf_2240]; rfl
                have hf_2256 := hF_2252.at hf_2234 rfl
                obtain ⟨v_2258, v_2259, v_2261, v_2263, v_2265, v_2267, v_2269, v_2270, v_2271, v_2272, v_2274, e_2257, b_2260, b_2262, b_2264, b_2266, b_2268, b_2273, b_2275⟩ := hW_2251.at m_1 t_2
                have fe_2276 : fld (f_2245 a_0) 8 = (v_2263 : Int32).toInt := by rw [e_2257]; rfl
                have fe_2277 : fld (f_2245 a_0) 9 = (v_2265 : Int32).toInt := by rw [e_2257]; rfl
                have fe_2278 : fld (f_2245 a_0) 10 = (v_2267 : Int32).toInt := by rw [e_2257]; rfl
                have fe_2279 : fld (f_2245 a_0) 12 = (v_2270 : Int32).toInt := by rw [e_2257]; rfl
                have fe_2280 : fld (f_2245 a_0) 20 = (v_2274 : Int32).toInt := by rw [e_2257]; rfl
                rw [fe_2253, fe_2277, fe_2276] at x_2247
                rw [fe_2278, fe_2277, fe_2276] at x_2248
                rw [fe_2279, fe_2254] at x_2249
                rw [fe_2280, fe_2255] at x_2250
                clear fe_2253 fe_2254 fe_2255 fe_2276 fe_2277 fe_2278 fe_2279 fe_2280
                refine v_aload_n hC dX12_readRow_189 rfl ?_
                refine v_vv hC (rest := []) m_1 e_2257 rfl mi_X12_ends ms_X12_ends (p_X12_ends hW_2251 k_0) mx_X12_ends ml_X12_178 (by decide) rfl (cells1 := 0) (slots1 := 0) (by decide) (by decide) (Nat.le_of_ble_eq_true rfl) (Nat.le_of_ble_eq_true rfl) rfl (Nat.le_of_ble_eq_true rfl) dX12_readRow_190 (fun L_2282 f_2283 h_2284 => ?_)
                obtain ⟨rfl, hW_2289, hF_2290, x_2285, x_2286, x_2287, x_2288, -⟩ := h_2284
                have fe_2291 : fld (f_2245 a_0) 8 = (v_2263 : Int32).toInt := by rw [e_2257]; rfl
                have fe_2292 : fld (f_2245 a_0) 10 = (v_2267 : Int32).toInt := by rw [e_2257]; rfl
                have fe_2293 : fld (f_2245 a_0) 12 = (v_2270 : Int32).toInt := by rw [e_2257]; rfl
                have fe_2294 : fld (f_2245 a_0) 20 = (v_2274 : Int32).toInt := by rw [e_2257]; rfl
                have hf_2295 := hF_2290.at hf_2256 rfl
                obtain ⟨v_2297, v_2298, v_2300, v_2302, v_2304, v_2306, v_2308, v_2309, v_2310, v_2311, v_2313, e_2296, b_2299, b_2301, b_2303, b_2305, b_2307, b_2312, b_2314⟩ := hW_2289.at m_1 t_2
                have fe_2315 : fld (f_2283 a_0) 8 = (v_2302 : Int32).toInt := by rw [e_2296]; rfl
                have fe_2316 : fld (f_2283 a_0) 9 = (v_2304 : Int32).toInt := by rw [e_2296]; rfl
                have fe_2317 : fld (f_2283 a_0) 10 = (v_2306 : Int32).toInt := by rw [e_2296]; rfl
                have fe_2318 : fld (f_2283 a_0) 12 = (v_2309 : Int32).toInt := by rw [e_2296]; rfl
                have fe_2319 : fld (f_2283 a_0) 20 = (v_2313 : Int32).toInt := by rw [e_2296]; rfl
                rw [fe_2318, fe_2293] at x_2285
                rw [fe_2318, fe_2292, fe_2291, fe_2316, fe_2315] at x_2286
                rw [fe_2318, fe_2317, fe_2316, fe_2315] at x_2287
                rw [fe_2319, fe_2294] at x_2288
                clear fe_2291 fe_2292 fe_2293 fe_2294 fe_2315 fe_2316 fe_2317 fe_2318 fe_2319
                have fe_2320 : fld (f_2283 a_0) 12 = (v_2309 : Int32).toInt := by rw [e_2296]; rfl
                have fe_2321 : fld (f_2283 a_0) 8 = (v_2302 : Int32).toInt := by rw [e_2296]; rfl
                have fe_2322 : fld (f_2283 a_0) 12 = (v_2309 : Int32).toInt := by rw [e_2296]; rfl
                have fe_2323 : fld (f_2283 a_0) 20 = (v_2313 : Int32).toInt := by rw [e_2296]; rfl
                exact hR _ _ _ _ _ _ dX12_readRow_193 (Nat.le_of_ble_eq_true rfl) (Nat.le_of_ble_eq_true rfl) ⟨rfl, hW_2289, ((((((hF_68.tr hF_2095).tr fr_2228).tr fr_2241).tr hF_2252).tr hF_2290).mono rfl), ⟨_, hf_2295, rf_2242.1, rf_2242.2.1, rf_2242.2.2.1, rf_2242.2.2.2.1, (by rw [fe_2320]; first | (left; omega) | (right; omega) | omega)⟩, (by simp only [fe_2321, fe_2322, mz_43, mz_44, true_and, and_true, or_true, true_or, false_or, or_false, false_and, and_false, not_true_eq_false, not_false_eq_true] <;> first | omega | (simp only [Int32.lt_iff_toInt_lt, Int32.le_iff_toInt_le, Int32.reduceToInt, ← Int32.toInt_inj, true_and, and_true, or_true, true_or, false_or, or_false, false_and, and_false, not_true_eq_false, not_false_eq_true] <;> omega)), (by simp only [fe_2323, mz_45, true_and, and_true, or_true, true_or, false_or, or_false, false_and, and_false, not_true_eq_false, not_false_eq_true] <;> first | omega | (simp only [Int32.lt_iff_toInt_lt, Int32.le_iff_toInt_le, Int32.reduceToInt, ← Int32.toInt_inj, true_and, and_true, or_true, true_or, false_or, or_false, false_and, and_false, not_true_eq_false, not_false_eq_true] <;> omega))⟩
              · simp only [Int32.lt_iff_toInt_lt, Int32.le_iff_toInt_le, Int32.reduceToInt, ← Int32.toInt_inj] at h_2219
                have fe_2324 : fld (f_2093 a_0) 12 = (v_89 : Int32).toInt := by rw [hf_2096]; rfl
                have fe_2325 : fld (f_2093 a_0) 8 = (v_82 : Int32).toInt := by rw [hf_2096]; rfl
                have fe_2326 : fld (f_2093 a_0) 12 = (v_89 : Int32).toInt := by rw [hf_2096]; rfl
                have fe_2327 : fld (f_2093 a_0) 20 = (v_93 : Int32).toInt := by rw [hf_2096]; rfl
                exact hR _ _ _ _ _ _ dX12_readRow_167 (Nat.le_of_ble_eq_true rfl) (Nat.le_of_ble_eq_true rfl) ⟨rfl, hW_2094, ((hF_68.tr hF_2095).mono rfl), ⟨_, e_2107, rr_2108.1, rr_2108.2.1, rr_2108.2.2.1, rr_2108.2.2.2.1, (by rw [fe_2324]; first | (left; omega) | (right; omega) | omega)⟩, (by simp only [fe_2325, fe_2326, mz_43, mz_44, true_and, and_true, or_true, true_or, false_or, or_false, false_and, and_false, not_true_eq_false, not_false_eq_true] <;> first | omega | (simp only [Int32.lt_iff_toInt_lt, Int32.le_iff_toInt_le, Int32.reduceToInt, ← Int32.toInt_inj, true_and, and_true, or_true, true_or, false_or, or_false, false_and, and_false, not_true_eq_false, not_false_eq_true] <;> omega)), (by simp only [fe_2327, mz_45, true_and, and_true, or_true, true_or, false_or, or_false, false_and, and_false, not_true_eq_false, not_false_eq_true] <;> first | omega | (simp only [Int32.lt_iff_toInt_lt, Int32.le_iff_toInt_le, Int32.reduceToInt, ← Int32.toInt_inj, true_and, and_true, or_true, true_or, false_or, or_false, false_and, and_false, not_true_eq_false, not_false_eq_true] <;> omega))⟩
            · simp only [Int32.lt_iff_toInt_lt, Int32.le_iff_toInt_le, Int32.reduceToInt, ← Int32.toInt_inj] at h_2209
              refine v_aload_n hC dX12_readRow_155 rfl ?_
              refine v_iconst hC dX12_readRow_156 (v := 1) (by decide) ?_
              refine v_vv hC (rest := []) m_1 hf_2096 rfl mi_X12_errs ms_X12_errs (p_X12_errs hW_2094 k_0 (by decide)) mx_X12_errs ml_X12_162 (by decide) rfl (cells1 := 0) (slots1 := 0) (by decide) (by decide) (Nat.le_of_ble_eq_true rfl) (Nat.le_of_ble_eq_true rfl) rfl (Nat.le_of_ble_eq_true rfl) dX12_readRow_157 (fun L_2329 f_2330 h_2331 => ?_)
              obtain ⟨rfl, hW_2337, hF_2338, x_2332, x_2333, x_2334, x_2335, x_2336⟩ := h_2331
              have fe_2339 : fld (f_2093 a_0) 8 = (v_82 : Int32).toInt := by rw [hf_2096]; rfl
              have fe_2340 : fld (f_2093 a_0) 9 = (v_84 : Int32).toInt := by rw [hf_2096]; rfl
              have fe_2341 : fld (f_2093 a_0) 10 = (v_86 : Int32).toInt := by rw [hf_2096]; rfl
              have fe_2342 : fld (f_2093 a_0) 20 = (v_93 : Int32).toInt := by rw [hf_2096]; rfl
              have hf_2343 := hF_2338.at e_2107 rfl
              obtain ⟨v_2345, v_2346, v_2348, v_2350, v_2352, v_2354, v_2356, v_2357, v_2358, v_2359, v_2361, e_2344, b_2347, b_2349, b_2351, b_2353, b_2355, b_2360, b_2362⟩ := hW_2337.at m_1 t_2
              have fe_2363 : fld (f_2330 a_0) 8 = (v_2350 : Int32).toInt := by rw [e_2344]; rfl
              have fe_2364 : fld (f_2330 a_0) 9 = (v_2352 : Int32).toInt := by rw [e_2344]; rfl
              have fe_2365 : fld (f_2330 a_0) 10 = (v_2354 : Int32).toInt := by rw [e_2344]; rfl
              have fe_2366 : fld (f_2330 a_0) 12 = (v_2357 : Int32).toInt := by rw [e_2344]; rfl
              have fe_2367 : fld (f_2330 a_0) 20 = (v_2361 : Int32).toInt := by rw [e_2344]; rfl
              rw [fe_2366] at x_2332
              rw [fe_2363, fe_2339] at x_2333
              rw [fe_2364, fe_2340] at x_2334
              rw [fe_2365, fe_2341] at x_2335
              rw [fe_2367, fe_2342] at x_2336
              clear fe_2339 fe_2340 fe_2341 fe_2342 fe_2363 fe_2364 fe_2365 fe_2366 fe_2367
              refine v_aload_n hC dX12_readRow_160 rfl ?_
              refine v_vi hC (rest := []) m_1 e_2344 rfl mi_X12_good ms_X12_good (p_X12_good hW_2337 k_0) mx_X12_good ml_X12_139 (by decide) rfl (cells1 := 0) (slots1 := 0) (by decide) (by decide) (Nat.le_of_ble_eq_true rfl) (Nat.le_of_ble_eq_true rfl) rfl (Nat.le_of_ble_eq_true rfl) dX12_readRow_161 (fun r_2368 L_2369 f_2370 h_2371 => ?_)
              obtain ⟨rfl, rfl, b_2372, x_2373⟩ := h_2371
              have fe_2376 : fld (f_2330 a_0) 12 = (v_2357 : Int32).toInt := by rw [e_2344]; rfl
              rw [fe_2376] at x_2373
              clear fe_2376
              try simp only [Int32.reduceToInt, Int64.reduceToInt] at x_2373
              refine v_if_ne hC dX12_readRow_164 (tgt := 168) (by decide) (fun h_2377 => ?_) (fun h_2377 => ?_)
              · simp only [Int32.lt_iff_toInt_lt, Int32.le_iff_toInt_le, Int32.reduceToInt, ← Int32.toInt_inj] at h_2377
                refine v_aload_n hC dX12_readRow_168 rfl ?_
                refine v_get hC fl_X12_34 m_1 e_2344 rfl dX12_readRow_169 ?_
                refine v_iload_n hC dX12_readRow_172 rfl ?_
                refine v_iload_n hC dX12_readRow_173 rfl ?_
                refine v_iast hC m_22 hf_2343 (vp_in_iff.mpr (by first | omega | (simp only [Int32.lt_iff_toInt_lt, Int32.le_iff_toInt_le, Int32.reduceToInt, ← Int32.toInt_inj, true_and, and_true, or_true, true_or, false_or, or_false, false_and, and_false, not_true_eq_false, not_false_eq_true] <;> omega))) dX12_readRow_174 (fun f_2378 hf_2379 hk_2380 => ?_)
                have hW_2382 := hW_2337.up hf_2379 hk_2380 t_23 ⟨_, rfl, (rr_2108.1.up (by first | omega | (simp only [Int32.lt_iff_toInt_lt, Int32.le_iff_toInt_le, Int32.reduceToInt, ← Int32.toInt_inj, true_and, and_true, or_true, true_or, false_or, or_false, false_and, and_false, not_true_eq_false, not_false_eq_true] <;> omega)) (fun q1 q2 => (by first | omega | (simp only [Int32.lt_iff_toInt_lt, Int32.le_iff_toInt_le, Int32.reduceToInt, ← Int32.toInt_inj] at *; omega))) (fun k9 q1 q2 q3 => (by first | omega | (simp only [Int32.lt_iff_toInt_lt, Int32.le_iff_toInt_le, Int32.reduceToInt, ← Int32.toInt_inj] at *; omega))))⟩
                obtain ⟨g_2381, hf_2379, ok_2383, eg_2384⟩ : ∃ g9, f_2378 (q 14) = aI E 2076 g9 ∧ FOK g9 ∧ g9 = upd g_2106 (v_113 : Int32).toNatClampNeg v_100 := ⟨_, hf_2379, (rr_2108.1.up (by first | omega | (simp only [Int32.lt_iff_toInt_lt, Int32.le_iff_toInt_le, Int32.reduceToInt, ← Int32.toInt_inj, true_and, and_true, or_true, true_or, false_or, or_false, false_and, and_false, not_true_eq_false, not_false_eq_true] <;> omega)) (fun q1 q2 => (by first | omega | (simp only [Int32.lt_iff_toInt_lt, Int32.le_iff_toInt_le, Int32.reduceToInt, ← Int32.toInt_inj] at *; omega))) (fun k9 q1 q2 q3 => (by first | omega | (simp only [Int32.lt_iff_toInt_lt, Int32.le_iff_toInt_le, Int32.reduceToInt, ← Int32.toInt_inj] at *; omega)))), rfl⟩
                have hf_2385 := (hk_2380 a_0 (ne_kd e_2344 hf_2343 rfl)).trans e_2344
                have fr_2386 := FR.w hk_2380 hf_2343 (k := 2176) rfl
                have g2_2387 : (g_2381 2).toInt = (g_f 2).toInt := by rw [← rr_2108.2.2.2.2, eg_2384]; unfold upd; rw [if_neg (by rw [clamp_t]; omega)]
                refine v_aload_n hC dX12_readRow_175 rfl ?_
                refine v_get hC fl_X12_34 m_1 hf_2385 rfl dX12_readRow_176 ?_
                refine v_iconst hC dX12_readRow_179 (v := 2) (by decide) ?_
                refine v_dup2 hC dX12_readRow_180 rfl rfl ?_
                refine v_iald hC m_22 hf_2379 (vp_in_iff.mpr (by decide)) (v := g_2381 2) rfl dX12_readRow_181 ?_
                refine v_iconst hC dX12_readRow_182 (v := 1) (by decide) ?_
                obtain ⟨v_2388, h_2389⟩ : ∃ v9 : Int32, (g_2381 2) + 1 = v9 := ⟨_, rfl⟩
                refine v_iadd hC dX12_readRow_183 h_2389 ?_
                have h_2390 := add_v h_2389 (by first | omega | (simp only [Int32.lt_iff_toInt_lt, Int32.le_iff_toInt_le, Int32.reduceToInt, ← Int32.toInt_inj, true_and, and_true, or_true, true_or, false_or, or_false, false_and, and_false, not_true_eq_false, not_false_eq_true] <;> omega)) (by first | omega | (simp only [Int32.lt_iff_toInt_lt, Int32.le_iff_toInt_le, Int32.reduceToInt, ← Int32.toInt_inj, true_and, and_true, or_true, true_or, false_or, or_false, false_and, and_false, not_true_eq_false, not_false_eq_true] <;> omega))
                try simp only [Int32.reduceToInt] at h_2390
                refine v_iast hC m_22 hf_2379 (vp_in_iff.mpr (by decide)) dX12_readRow_184 (fun f_2391 hf_2392 hk_2393 => ?_)
                have hW_2395 := hW_2382.up hf_2392 hk_2393 t_23 ⟨_, rfl, (ok_2383.up (i := 2) (by decide) (fun q1 q2 => absurd (And.intro q1 q2) (by decide)) (fun k9 q1 q2 q3 => by simp only [Int32.reduceToInt] at q3; omega))⟩
                obtain ⟨g_2394, hf_2392, ok_2396, eg_2397⟩ : ∃ g9, f_2391 (q 14) = aI E 2076 g9 ∧ FOK g9 ∧ g9 = upd g_2381 (2 : Int32).toNatClampNeg v_2388 := ⟨_, hf_2392, (ok_2383.up (i := 2) (by decide) (fun q1 q2 => absurd (And.intro q1 q2) (by decide)) (fun k9 q1 q2 q3 => by simp only [Int32.reduceToInt] at q3; omega)), rfl⟩
                have hf_2398 := (hk_2393 a_0 (ne_kd hf_2385 hf_2379 rfl)).trans hf_2385
                have fr_2399 := FR.w hk_2393 hf_2379 (k := 2176) rfl
                have rf_2400 := rr_2108.fin eg_2384 eg_2397 (by omega) (by omega) (by omega) (by omega)
                have rf_2400_t := rf_2400.2.2.2.2
                refine v_aload_n hC dX12_readRow_185 rfl ?_
                refine v_vv hC (rest := []) m_1 hf_2398 rfl mi_X12_advance ms_X12_advance (p_X12_advance hW_2395 k_0) mx_X12_advance ml_X12_156 (by decide) rfl (cells1 := 0) (slots1 := 0) (by decide) (by decide) (Nat.le_of_ble_eq_true rfl) (Nat.le_of_ble_eq_true rfl) rfl (Nat.le_of_ble_eq_true rfl) dX12_readRow_186 (fun L_2402 f_2403 h_2404 => ?_)
                obtain ⟨rfl, hW_2409, hF_2410, x_2405, x_2406, x_2407, x_2408⟩ := h_2404
                have fe_2411 : fld (f_2391 a_0) 8 = (v_2350 : Int32).toInt := by rw [hf_2398]; rfl
                have fe_2412 : fld (f_2391 a_0) 12 = (v_2357 : Int32).toInt := by rw [hf_2398]; rfl
                have fe_2413 : fld (f_2391 a_0) 20 = (v_2361 : Int32).toInt := by rw [hf_2398]; rfl
                have hf_2414 := hF_2410.at hf_2392 rfl
                obtain ⟨v_2416, v_2417, v_2419, v_2421, v_2423, v_2425, v_2427, v_2428, v_2429, v_2430, v_2432, e_2415, b_2418, b_2420, b_2422, b_2424, b_2426, b_2431, b_2433⟩ := hW_2409.at m_1 t_2
                have fe_2434 : fld (f_2403 a_0) 8 = (v_2421 : Int32).toInt := by rw [e_2415]; rfl
                have fe_2435 : fld (f_2403 a_0) 9 = (v_2423 : Int32).toInt := by rw [e_2415]; rfl
                have fe_2436 : fld (f_2403 a_0) 10 = (v_2425 : Int32).toInt := by rw [e_2415]; rfl
                have fe_2437 : fld (f_2403 a_0) 12 = (v_2428 : Int32).toInt := by rw [e_2415]; rfl
                have fe_2438 : fld (f_2403 a_0) 20 = (v_2432 : Int32).toInt := by rw [e_2415]; rfl
                rw [fe_2411, fe_2435, fe_2434] at x_2405
                rw [fe_2436, fe_2435, fe_2434] at x_2406
                rw [fe_2437, fe_2412] at x_2407
                rw [fe_2438, fe_2413] at x_2408
                clear fe_2411 fe_2412 fe_2413 fe_2434 fe_2435 fe_2436 fe_2437 fe_2438
                refine v_aload_n hC dX12_readRow_189 rfl ?_
                refine v_vv hC (rest := []) m_1 e_2415 rfl mi_X12_ends ms_X12_ends (p_X12_ends hW_2409 k_0) mx_X12_ends ml_X12_178 (by decide) rfl (cells1 := 0) (slots1 := 0) (by decide) (by decide) (Nat.le_of_ble_eq_true rfl) (Nat.le_of_ble_eq_true rfl) rfl (Nat.le_of_ble_eq_true rfl) dX12_readRow_190 (fun L_2440 f_2441 h_2442 => ?_)
                obtain ⟨rfl, hW_2447, hF_2448, x_2443, x_2444, x_2445, x_2446, -⟩ := h_2442
                have fe_2449 : fld (f_2403 a_0) 8 = (v_2421 : Int32).toInt := by rw [e_2415]; rfl
                have fe_2450 : fld (f_2403 a_0) 10 = (v_2425 : Int32).toInt := by rw [e_2415]; rfl
                have fe_2451 : fld (f_2403 a_0) 12 = (v_2428 : Int32).toInt := by rw [e_2415]; rfl
                have fe_2452 : fld (f_2403 a_0) 20 = (v_2432 : Int32).toInt := by rw [e_2415]; rfl
                have hf_2453 := hF_2448.at hf_2414 rfl
                obtain ⟨v_2455, v_2456, v_2458, v_2460, v_2462, v_2464, v_2466, v_2467, v_2468, v_2469, v_2471, e_2454, b_2457, b_2459, b_2461, b_2463, b_2465, b_2470, b_2472⟩ := hW_2447.at m_1 t_2
                have fe_2473 : fld (f_2441 a_0) 8 = (v_2460 : Int32).toInt := by rw [e_2454]; rfl
                have fe_2474 : fld (f_2441 a_0) 9 = (v_2462 : Int32).toInt := by rw [e_2454]; rfl
                have fe_2475 : fld (f_2441 a_0) 10 = (v_2464 : Int32).toInt := by rw [e_2454]; rfl
                have fe_2476 : fld (f_2441 a_0) 12 = (v_2467 : Int32).toInt := by rw [e_2454]; rfl
                have fe_2477 : fld (f_2441 a_0) 20 = (v_2471 : Int32).toInt := by rw [e_2454]; rfl
                rw [fe_2476, fe_2451] at x_2443
                rw [fe_2476, fe_2450, fe_2449, fe_2474, fe_2473] at x_2444
                rw [fe_2476, fe_2475, fe_2474, fe_2473] at x_2445
                rw [fe_2477, fe_2452] at x_2446
                clear fe_2449 fe_2450 fe_2451 fe_2452 fe_2473 fe_2474 fe_2475 fe_2476 fe_2477
                have fe_2478 : fld (f_2441 a_0) 12 = (v_2467 : Int32).toInt := by rw [e_2454]; rfl
                have fe_2479 : fld (f_2441 a_0) 8 = (v_2460 : Int32).toInt := by rw [e_2454]; rfl
                have fe_2480 : fld (f_2441 a_0) 12 = (v_2467 : Int32).toInt := by rw [e_2454]; rfl
                have fe_2481 : fld (f_2441 a_0) 20 = (v_2471 : Int32).toInt := by rw [e_2454]; rfl
                exact hR _ _ _ _ _ _ dX12_readRow_193 (Nat.le_of_ble_eq_true rfl) (Nat.le_of_ble_eq_true rfl) ⟨rfl, hW_2447, (((((((hF_68.tr hF_2095).tr hF_2338).tr fr_2386).tr fr_2399).tr hF_2410).tr hF_2448).mono rfl), ⟨_, hf_2453, rf_2400.1, rf_2400.2.1, rf_2400.2.2.1, rf_2400.2.2.2.1, (by rw [fe_2478]; first | (left; omega) | (right; omega) | omega)⟩, (by simp only [fe_2479, fe_2480, mz_43, mz_44, true_and, and_true, or_true, true_or, false_or, or_false, false_and, and_false, not_true_eq_false, not_false_eq_true] <;> first | omega | (simp only [Int32.lt_iff_toInt_lt, Int32.le_iff_toInt_le, Int32.reduceToInt, ← Int32.toInt_inj, true_and, and_true, or_true, true_or, false_or, or_false, false_and, and_false, not_true_eq_false, not_false_eq_true] <;> omega)), (by simp only [fe_2481, mz_45, true_and, and_true, or_true, true_or, false_or, or_false, false_and, and_false, not_true_eq_false, not_false_eq_true] <;> first | omega | (simp only [Int32.lt_iff_toInt_lt, Int32.le_iff_toInt_le, Int32.reduceToInt, ← Int32.toInt_inj, true_and, and_true, or_true, true_or, false_or, or_false, false_and, and_false, not_true_eq_false, not_false_eq_true] <;> omega))⟩
              · simp only [Int32.lt_iff_toInt_lt, Int32.le_iff_toInt_le, Int32.reduceToInt, ← Int32.toInt_inj] at h_2377
                have fe_2482 : fld (f_2330 a_0) 12 = (v_2357 : Int32).toInt := by rw [e_2344]; rfl
                have fe_2483 : fld (f_2330 a_0) 8 = (v_2350 : Int32).toInt := by rw [e_2344]; rfl
                have fe_2484 : fld (f_2330 a_0) 12 = (v_2357 : Int32).toInt := by rw [e_2344]; rfl
                have fe_2485 : fld (f_2330 a_0) 20 = (v_2361 : Int32).toInt := by rw [e_2344]; rfl
                exact hR _ _ _ _ _ _ dX12_readRow_167 (Nat.le_of_ble_eq_true rfl) (Nat.le_of_ble_eq_true rfl) ⟨rfl, hW_2337, (((hF_68.tr hF_2095).tr hF_2338).mono rfl), ⟨_, hf_2343, rr_2108.1, rr_2108.2.1, rr_2108.2.2.1, rr_2108.2.2.2.1, (by rw [fe_2482]; first | (left; omega) | (right; omega) | omega)⟩, (by simp only [fe_2483, fe_2484, mz_43, mz_44, true_and, and_true, or_true, true_or, false_or, or_false, false_and, and_false, not_true_eq_false, not_false_eq_true] <;> first | omega | (simp only [Int32.lt_iff_toInt_lt, Int32.le_iff_toInt_le, Int32.reduceToInt, ← Int32.toInt_inj, true_and, and_true, or_true, true_or, false_or, or_false, false_and, and_false, not_true_eq_false, not_false_eq_true] <;> omega)), (by simp only [fe_2485, mz_45, true_and, and_true, or_true, true_or, false_or, or_false, false_and, and_false, not_true_eq_false, not_false_eq_true] <;> first | omega | (simp only [Int32.lt_iff_toInt_lt, Int32.le_iff_toInt_le, Int32.reduceToInt, ← Int32.toInt_inj, true_and, and_true, or_true, true_or, false_or, or_false, false_and, and_false, not_true_eq_false, not_false_eq_true] <;> omega))⟩
          refine v_icmp_ge hC dX12_readRow_80 (tgt := 151) (by decide) (fun h_2109 => ?_) (fun h_2109 => ?_)
          · simp only [Int32.lt_iff_toInt_lt, Int32.le_iff_toInt_le, Int32.reduceToInt, ← Int32.toInt_inj] at h_2109
            refine v_pick [1, 2, 3, 4] rfl ?_
            exact jn_2208 
          · simp only [Int32.lt_iff_toInt_lt, Int32.le_iff_toInt_le, Int32.reduceToInt, ← Int32.toInt_inj] at h_2109
            refine v_iload_n hC dX12_readRow_83 rfl ?_
            refine v_if_eq hC dX12_readRow_84 (tgt := 151) (by decide) (fun h_2486 => ?_) (fun h_2486 => ?_)
            · simp only [Int32.lt_iff_toInt_lt, Int32.le_iff_toInt_le, Int32.reduceToInt, ← Int32.toInt_inj] at h_2486
              refine v_pick [1, 2, 3, 4] rfl ?_
              exact jn_2208 
            · simp only [Int32.lt_iff_toInt_lt, Int32.le_iff_toInt_le, Int32.reduceToInt, ← Int32.toInt_inj] at h_2486
              refine v_aload_n hC dX12_readRow_87 rfl ?_
              refine v_vi hC (rest := []) m_1 hf_2096 rfl mi_X12_good ms_X12_good (p_X12_good hW_2094 k_0) mx_X12_good ml_X12_139 (by decide) rfl (cells1 := 0) (slots1 := 0) (by decide) (by decide) (Nat.le_of_ble_eq_true rfl) (Nat.le_of_ble_eq_true rfl) rfl (Nat.le_of_ble_eq_true rfl) dX12_readRow_88 (fun r_2487 L_2488 f_2489 h_2490 => ?_)
              obtain ⟨rfl, rfl, b_2491, x_2492⟩ := h_2490
              have fe_2495 : fld (f_2093 a_0) 12 = (v_89 : Int32).toInt := by rw [hf_2096]; rfl
              rw [fe_2495] at x_2492
              clear fe_2495
              try simp only [Int32.reduceToInt, Int64.reduceToInt] at x_2492
              refine v_if_eq hC dX12_readRow_91 (tgt := 151) (by decide) (fun h_2496 => ?_) (fun h_2496 => ?_)
              · simp only [Int32.lt_iff_toInt_lt, Int32.le_iff_toInt_le, Int32.reduceToInt, ← Int32.toInt_inj] at h_2496
                refine v_pick [1, 2, 3, 4] rfl ?_
                exact jn_2208 
              · simp only [Int32.lt_iff_toInt_lt, Int32.le_iff_toInt_le, Int32.reduceToInt, ← Int32.toInt_inj] at h_2496
                refine v_aload_n hC dX12_readRow_94 rfl ?_
                refine v_get hC fl_X12_24 m_1 hf_2096 rfl dX12_readRow_95 ?_
                refine v_aload_n hC dX12_readRow_98 rfl ?_
                refine v_get hC fl_X12_117 m_1 hf_2096 rfl dX12_readRow_99 ?_
                refine v_iload hC dX12_readRow_102 rfl ?_
                obtain ⟨v_2497, h_2498⟩ : ∃ v9 : Int32, v_84 + i_2091 = v9 := ⟨_, rfl⟩
                refine v_iadd hC dX12_readRow_104 h_2498 ?_
                have h_2499 := add_v h_2498 (by first | omega | (simp only [Int32.lt_iff_toInt_lt, Int32.le_iff_toInt_le, Int32.reduceToInt, ← Int32.toInt_inj, true_and, and_true, or_true, true_or, false_or, or_false, false_and, and_false, not_true_eq_false, not_false_eq_true] <;> omega)) (by first | omega | (simp only [Int32.lt_iff_toInt_lt, Int32.le_iff_toInt_le, Int32.reduceToInt, ← Int32.toInt_inj, true_and, and_true, or_true, true_or, false_or, or_false, false_and, and_false, not_true_eq_false, not_false_eq_true] <;> omega))
                obtain ⟨m_2500, t_2501⟩ := id k_6
                obtain ⟨g_2503, e_2502, fit_2504⟩ := hW_2094.at m_2500 t_2501
                obtain ⟨v_2505, h_2506⟩ : ∃ v9 : Int32, g_2503 (v_2497 : Int32).toNatClampNeg = v9 := ⟨_, rfl⟩
                refine v_bald hC m_2500 e_2502 (vp_in_iff.mpr (by first | omega | (simp only [Int32.lt_iff_toInt_lt, Int32.le_iff_toInt_le, Int32.reduceToInt, ← Int32.toInt_inj, true_and, and_true, or_true, true_or, false_or, or_false, false_and, and_false, not_true_eq_false, not_false_eq_true] <;> omega))) h_2506 dX12_readRow_105 ?_
                refine v_si hC (rest := []) mt_X12_signOf (p_X12_signOf hW_2094) mx_X12_signOf ml_X12_175 (by decide) rfl (cells1 := 0) (slots1 := 0) (by decide) (by decide) (Nat.le_of_ble_eq_true rfl) (Nat.le_of_ble_eq_true rfl) rfl (Nat.le_of_ble_eq_true rfl) dX12_readRow_106 (fun r_2507 L_2508 f_2509 h_2510 => ?_)
                obtain ⟨rfl, rfl, b_2511, h_2512⟩ := h_2510
                refine v_iconst hC dX12_readRow_109 (v := (-1)) (by decide) ?_
                refine v_icmp_eq hC dX12_readRow_110 (tgt := 117) (by decide) (fun h_2515 => ?_) (fun h_2515 => ?_)
                · simp only [Int32.lt_iff_toInt_lt, Int32.le_iff_toInt_le, Int32.reduceToInt, ← Int32.toInt_inj] at h_2515
                  refine v_iconst hC dX12_readRow_117 (v := 0) (by decide) ?_
                  refine v_istore_n hC dX12_readRow_118 (by decide) (lv' := [(2, .int 0), (4, .int i_2091), (3, .int v_113), (1, .int v_100), (0, .ref a_0)]) rfl ?_
                  refine v_aload_n hC dX12_readRow_119 rfl ?_
                  refine v_get hC fl_X12_34 m_1 hf_2096 rfl dX12_readRow_120 ?_
                  refine v_iload_n hC dX12_readRow_123 rfl ?_
                  refine v_iconst hC dX12_readRow_124 (v := 1) (by decide) ?_
                  obtain ⟨v_2516, h_2517⟩ : ∃ v9 : Int32, v_113 + 1 = v9 := ⟨_, rfl⟩
                  refine v_iadd hC dX12_readRow_125 h_2517 ?_
                  have h_2518 := add_v h_2517 (by first | omega | (simp only [Int32.lt_iff_toInt_lt, Int32.le_iff_toInt_le, Int32.reduceToInt, ← Int32.toInt_inj, true_and, and_true, or_true, true_or, false_or, or_false, false_and, and_false, not_true_eq_false, not_false_eq_true] <;> omega)) (by first | omega | (simp only [Int32.lt_iff_toInt_lt, Int32.le_iff_toInt_le, Int32.reduceToInt, ← Int32.toInt_inj, true_and, and_true, or_true, true_or, false_or, or_false, false_and, and_false, not_true_eq_false, not_false_eq_true] <;> omega))
                  try simp only [Int32.reduceToInt] at h_2518
                  refine v_iload hC dX12_readRow_126 rfl ?_
                  obtain ⟨v_2519, h_2520⟩ : ∃ v9 : Int32, v_2516 + i_2091 = v9 := ⟨_, rfl⟩
                  refine v_iadd hC dX12_readRow_128 h_2520 ?_
                  have h_2521 := add_v h_2520 (by first | omega | (simp only [Int32.lt_iff_toInt_lt, Int32.le_iff_toInt_le, Int32.reduceToInt, ← Int32.toInt_inj, true_and, and_true, or_true, true_or, false_or, or_false, false_and, and_false, not_true_eq_false, not_false_eq_true] <;> omega)) (by first | omega | (simp only [Int32.lt_iff_toInt_lt, Int32.le_iff_toInt_le, Int32.reduceToInt, ← Int32.toInt_inj, true_and, and_true, or_true, true_or, false_or, or_false, false_and, and_false, not_true_eq_false, not_false_eq_true] <;> omega))
                  refine v_aload_n hC dX12_readRow_129 rfl ?_
                  refine v_get hC fl_X12_24 m_1 hf_2096 rfl dX12_readRow_130 ?_
                  refine v_aload_n hC dX12_readRow_133 rfl ?_
                  refine v_get hC fl_X12_117 m_1 hf_2096 rfl dX12_readRow_134 ?_
                  refine v_iload hC dX12_readRow_137 rfl ?_
                  obtain ⟨v_2522, h_2523⟩ : ∃ v9 : Int32, v_84 + i_2091 = v9 := ⟨_, rfl⟩
                  refine v_iadd hC dX12_readRow_139 h_2523 ?_
                  have h_2524 := add_v h_2523 (by first | omega | (simp only [Int32.lt_iff_toInt_lt, Int32.le_iff_toInt_le, Int32.reduceToInt, ← Int32.toInt_inj, true_and, and_true, or_true, true_or, false_or, or_false, false_and, and_false, not_true_eq_false, not_false_eq_true] <;> omega)) (by first | omega | (simp only [Int32.lt_iff_toInt_lt, Int32.le_iff_toInt_le, Int32.reduceToInt, ← Int32.toInt_inj, true_and, and_true, or_true, true_or, false_or, or_false, false_and, and_false, not_true_eq_false, not_false_eq_true] <;> omega))
                  obtain ⟨v_2525, h_2526⟩ : ∃ v9 : Int32, g_2503 (v_2522 : Int32).toNatClampNeg = v9 := ⟨_, rfl⟩
                  refine v_bald hC m_2500 e_2502 (vp_in_iff.mpr (by first | omega | (simp only [Int32.lt_iff_toInt_lt, Int32.le_iff_toInt_le, Int32.reduceToInt, ← Int32.toInt_inj, true_and, and_true, or_true, true_or, false_or, or_false, false_and, and_false, not_true_eq_false, not_false_eq_true] <;> omega))) h_2526 dX12_readRow_140 ?_
                  refine v_si hC (rest := [.int v_2519, .ref (q 14)]) mt_X12_signOf (p_X12_signOf hW_2094) mx_X12_signOf ml_X12_175 (by decide) rfl (cells1 := 0) (slots1 := 0) (by decide) (by decide) (Nat.le_of_ble_eq_true rfl) (Nat.le_of_ble_eq_true rfl) rfl (Nat.le_of_ble_eq_true rfl) dX12_readRow_141 (fun r_2527 L_2528 f_2529 h_2530 => ?_)
                  obtain ⟨rfl, rfl, b_2531, h_2532⟩ := h_2530
                  refine v_iast hC m_22 e_2107 (vp_in_iff.mpr (by first | omega | (simp only [Int32.lt_iff_toInt_lt, Int32.le_iff_toInt_le, Int32.reduceToInt, ← Int32.toInt_inj, true_and, and_true, or_true, true_or, false_or, or_false, false_and, and_false, not_true_eq_false, not_false_eq_true] <;> omega))) dX12_readRow_144 (fun f_2535 hf_2536 hk_2537 => ?_)
                  have hW_2539 := hW_2094.up hf_2536 hk_2537 t_23 ⟨_, rfl, (rr_2108.st (j := i_2091.toInt) (by omega) (by omega) (by omega) (by omega)).1⟩
                  obtain ⟨g_2538, hf_2536, ok_2540, eg_2541⟩ : ∃ g9, f_2535 (q 14) = aI E 2076 g9 ∧ FOK g9 ∧ g9 = upd g_2106 (v_2519 : Int32).toNatClampNeg r_2527 := ⟨_, hf_2536, (rr_2108.st (j := i_2091.toInt) (by omega) (by omega) (by omega) (by omega)).1, rfl⟩
                  have hf_2542 := (hk_2537 a_0 (ne_kd hf_2096 e_2107 rfl)).trans hf_2096
                  have hf_2543 := (hk_2537 (q 4) (ne_kd e_2502 e_2107 rfl)).trans e_2502
                  have fr_2544 := FR.w hk_2537 e_2107 (k := 2176) rfl
                  have rr_2545 : RR g_f g_2538 := by rw [eg_2541]; exact rr_2108.st (j := i_2091.toInt) (by omega) (by omega) (by omega) (by omega)
                  obtain ⟨v_2546, h_2547⟩ : ∃ v9 : Int32, i_2091 + Int32.ofInt 1 = v9 := ⟨_, rfl⟩
                  have h_2548 := add_v (b := 1) h_2547 (by first | omega | (simp only [Int32.lt_iff_toInt_lt, Int32.le_iff_toInt_le, Int32.reduceToInt, ← Int32.toInt_inj, true_and, and_true, or_true, true_or, false_or, or_false, false_and, and_false, not_true_eq_false, not_false_eq_true] <;> omega)) (by first | omega | (simp only [Int32.lt_iff_toInt_lt, Int32.le_iff_toInt_le, Int32.reduceToInt, ← Int32.toInt_inj, true_and, and_true, or_true, true_or, false_or, or_false, false_and, and_false, not_true_eq_false, not_false_eq_true] <;> omega))
                  simp only [Int32.reduceToInt] at h_2548
                  refine v_iinc hC dX12_readRow_145 (k := 1) rfl (v := v_2546) h_2547 (by decide) (lv' := [(4, .int v_2546), (2, .int 0), (3, .int v_113), (1, .int v_100), (0, .ref a_0)]) rfl ?_
                  refine v_goto hC dX12_readRow_148 (tgt := 77) (by decide) ?_
                  refine v_pick [0, 2, 1, 3, 4] rfl ?_
                  have fe_2549 : fld (f_2535 a_0) 10 = (v_86 : Int32).toInt := by rw [hf_2542]; rfl
                  exact ih_2103 f_2535 hW_2539 ((hF_2095.tr fr_2544).mono rfl) v_2546 (by first | omega | (simp only [Int32.lt_iff_toInt_lt, Int32.le_iff_toInt_le, Int32.reduceToInt, ← Int32.toInt_inj, true_and, and_true, or_true, true_or, false_or, or_false, false_and, and_false, not_true_eq_false, not_false_eq_true] <;> omega)) 0 (by decide) (by rw [fe_2549] <;> first | omega | (simp only [Int32.lt_iff_toInt_lt, Int32.le_iff_toInt_le, Int32.reduceToInt, ← Int32.toInt_inj, true_and, and_true, or_true, true_or, false_or, or_false, false_and, and_false, not_true_eq_false, not_false_eq_true] <;> omega)) ⟨_, hf_2536, rr_2545⟩ (by first | omega | (simp only [Int32.lt_iff_toInt_lt, Int32.le_iff_toInt_le, Int32.reduceToInt, ← Int32.toInt_inj, true_and, and_true, or_true, true_or, false_or, or_false, false_and, and_false, not_true_eq_false, not_false_eq_true] <;> omega))
                · simp only [Int32.lt_iff_toInt_lt, Int32.le_iff_toInt_le, Int32.reduceToInt, ← Int32.toInt_inj] at h_2515
                  refine v_iconst hC dX12_readRow_113 (v := 1) (by decide) ?_
                  refine v_goto hC dX12_readRow_114 (tgt := 118) (by decide) ?_
                  refine v_istore_n hC dX12_readRow_118 (by decide) (lv' := [(2, .int 1), (4, .int i_2091), (3, .int v_113), (1, .int v_100), (0, .ref a_0)]) rfl ?_
                  refine v_aload_n hC dX12_readRow_119 rfl ?_
                  refine v_get hC fl_X12_34 m_1 hf_2096 rfl dX12_readRow_120 ?_
                  refine v_iload_n hC dX12_readRow_123 rfl ?_
                  refine v_iconst hC dX12_readRow_124 (v := 1) (by decide) ?_
                  obtain ⟨v_2550, h_2551⟩ : ∃ v9 : Int32, v_113 + 1 = v9 := ⟨_, rfl⟩
                  refine v_iadd hC dX12_readRow_125 h_2551 ?_
                  have h_2552 := add_v h_2551 (by first | omega | (simp only [Int32.lt_iff_toInt_lt, Int32.le_iff_toInt_le, Int32.reduceToInt, ← Int32.toInt_inj, true_and, and_true, or_true, true_or, false_or, or_false, false_and, and_false, not_true_eq_false, not_false_eq_true] <;> omega)) (by first | omega | (simp only [Int32.lt_iff_toInt_lt, Int32.le_iff_toInt_le, Int32.reduceToInt, ← Int32.toInt_inj, true_and, and_true, or_true, true_or, false_or, or_false, false_and, and_false, not_true_eq_false, not_false_eq_true] <;> omega))
                  try simp only [Int32.reduceToInt] at h_2552
                  refine v_iload hC dX12_readRow_126 rfl ?_
                  obtain ⟨v_2553, h_2554⟩ : ∃ v9 : Int32, v_2550 + i_2091 = v9 := ⟨_, rfl⟩
                  refine v_iadd hC dX12_readRow_128 h_2554 ?_
                  have h_2555 := add_v h_2554 (by first | omega | (simp only [Int32.lt_iff_toInt_lt, Int32.le_iff_toInt_le, Int32.reduceToInt, ← Int32.toInt_inj, true_and, and_true, or_true, true_or, false_or, or_false, false_and, and_false, not_true_eq_false, not_false_eq_true] <;> omega)) (by first | omega | (simp only [Int32.lt_iff_toInt_lt, Int32.le_iff_toInt_le, Int32.reduceToInt, ← Int32.toInt_inj, true_and, and_true, or_true, true_or, false_or, or_false, false_and, and_false, not_true_eq_false, not_false_eq_true] <;> omega))
                  refine v_aload_n hC dX12_readRow_129 rfl ?_
                  refine v_get hC fl_X12_24 m_1 hf_2096 rfl dX12_readRow_130 ?_
                  refine v_aload_n hC dX12_readRow_133 rfl ?_
                  refine v_get hC fl_X12_117 m_1 hf_2096 rfl dX12_readRow_134 ?_
                  refine v_iload hC dX12_readRow_137 rfl ?_
                  obtain ⟨v_2556, h_2557⟩ : ∃ v9 : Int32, v_84 + i_2091 = v9 := ⟨_, rfl⟩
                  refine v_iadd hC dX12_readRow_139 h_2557 ?_
                  have h_2558 := add_v h_2557 (by first | omega | (simp only [Int32.lt_iff_toInt_lt, Int32.le_iff_toInt_le, Int32.reduceToInt, ← Int32.toInt_inj, true_and, and_true, or_true, true_or, false_or, or_false, false_and, and_false, not_true_eq_false, not_false_eq_true] <;> omega)) (by first | omega | (simp only [Int32.lt_iff_toInt_lt, Int32.le_iff_toInt_le, Int32.reduceToInt, ← Int32.toInt_inj, true_and, and_true, or_true, true_or, false_or, or_false, false_and, and_false, not_true_eq_false, not_false_eq_true] <;> omega))
                  obtain ⟨v_2559, h_2560⟩ : ∃ v9 : Int32, g_2503 (v_2556 : Int32).toNatClampNeg = v9 := ⟨_, rfl⟩
                  refine v_bald hC m_2500 e_2502 (vp_in_iff.mpr (by first | omega | (simp only [Int32.lt_iff_toInt_lt, Int32.le_iff_toInt_le, Int32.reduceToInt, ← Int32.toInt_inj, true_and, and_true, or_true, true_or, false_or, or_false, false_and, and_false, not_true_eq_false, not_false_eq_true] <;> omega))) h_2560 dX12_readRow_140 ?_
                  refine v_si hC (rest := [.int v_2553, .ref (q 14)]) mt_X12_signOf (p_X12_signOf hW_2094) mx_X12_signOf ml_X12_175 (by decide) rfl (cells1 := 0) (slots1 := 0) (by decide) (by decide) (Nat.le_of_ble_eq_true rfl) (Nat.le_of_ble_eq_true rfl) rfl (Nat.le_of_ble_eq_true rfl) dX12_readRow_141 (fun r_2561 L_2562 f_2563 h_2564 => ?_)
                  obtain ⟨rfl, rfl, b_2565, h_2566⟩ := h_2564
                  refine v_iast hC m_22 e_2107 (vp_in_iff.mpr (by first | omega | (simp only [Int32.lt_iff_toInt_lt, Int32.le_iff_toInt_le, Int32.reduceToInt, ← Int32.toInt_inj, true_and, and_true, or_true, true_or, false_or, or_false, false_and, and_false, not_true_eq_false, not_false_eq_true] <;> omega))) dX12_readRow_144 (fun f_2569 hf_2570 hk_2571 => ?_)
                  have hW_2573 := hW_2094.up hf_2570 hk_2571 t_23 ⟨_, rfl, (rr_2108.st (j := i_2091.toInt) (by omega) (by omega) (by omega) (by omega)).1⟩
                  obtain ⟨g_2572, hf_2570, ok_2574, eg_2575⟩ : ∃ g9, f_2569 (q 14) = aI E 2076 g9 ∧ FOK g9 ∧ g9 = upd g_2106 (v_2553 : Int32).toNatClampNeg r_2561 := ⟨_, hf_2570, (rr_2108.st (j := i_2091.toInt) (by omega) (by omega) (by omega) (by omega)).1, rfl⟩
                  have hf_2576 := (hk_2571 a_0 (ne_kd hf_2096 e_2107 rfl)).trans hf_2096
                  have hf_2577 := (hk_2571 (q 4) (ne_kd e_2502 e_2107 rfl)).trans e_2502
                  have fr_2578 := FR.w hk_2571 e_2107 (k := 2176) rfl
                  have rr_2579 : RR g_f g_2572 := by rw [eg_2575]; exact rr_2108.st (j := i_2091.toInt) (by omega) (by omega) (by omega) (by omega)
                  obtain ⟨v_2580, h_2581⟩ : ∃ v9 : Int32, i_2091 + Int32.ofInt 1 = v9 := ⟨_, rfl⟩
                  have h_2582 := add_v (b := 1) h_2581 (by first | omega | (simp only [Int32.lt_iff_toInt_lt, Int32.le_iff_toInt_le, Int32.reduceToInt, ← Int32.toInt_inj, true_and, and_true, or_true, true_or, false_or, or_false, false_and, and_false, not_true_eq_false, not_false_eq_true] <;> omega)) (by first | omega | (simp only [Int32.lt_iff_toInt_lt, Int32.le_iff_toInt_le, Int32.reduceToInt, ← Int32.toInt_inj, true_and, and_true, or_true, true_or, false_or, or_false, false_and, and_false, not_true_eq_false, not_false_eq_true] <;> omega))
                  simp only [Int32.reduceToInt] at h_2582
                  refine v_iinc hC dX12_readRow_145 (k := 1) rfl (v := v_2580) h_2581 (by decide) (lv' := [(4, .int v_2580), (2, .int 1), (3, .int v_113), (1, .int v_100), (0, .ref a_0)]) rfl ?_
                  refine v_goto hC dX12_readRow_148 (tgt := 77) (by decide) ?_
                  refine v_pick [0, 2, 1, 3, 4] rfl ?_
                  have fe_2583 : fld (f_2569 a_0) 10 = (v_86 : Int32).toInt := by rw [hf_2576]; rfl
                  exact ih_2103 f_2569 hW_2573 ((hF_2095.tr fr_2578).mono rfl) v_2580 (by first | omega | (simp only [Int32.lt_iff_toInt_lt, Int32.le_iff_toInt_le, Int32.reduceToInt, ← Int32.toInt_inj, true_and, and_true, or_true, true_or, false_or, or_false, false_and, and_false, not_true_eq_false, not_false_eq_true] <;> omega)) 1 (by decide) (by rw [fe_2583] <;> first | omega | (simp only [Int32.lt_iff_toInt_lt, Int32.le_iff_toInt_le, Int32.reduceToInt, ← Int32.toInt_inj, true_and, and_true, or_true, true_or, false_or, or_false, false_and, and_false, not_true_eq_false, not_false_eq_true] <;> omega)) ⟨_, hf_2570, rr_2579⟩ (by first | omega | (simp only [Int32.lt_iff_toInt_lt, Int32.le_iff_toInt_le, Int32.reduceToInt, ← Int32.toInt_inj, true_and, and_true, or_true, true_or, false_or, or_false, false_and, and_false, not_true_eq_false, not_false_eq_true] <;> omega))
      refine v_pick [0, 1, 2, 3, 4] rfl ?_
      have fe_2584 : fld (f_61 a_0) 10 = (v_86 : Int32).toInt := by rw [e_76]; rfl
      exact lp_2101 602 f_61 hW_67 FR.rf 0 (by decide) v_106 (by first | omega | (simp only [Int32.lt_iff_toInt_lt, Int32.le_iff_toInt_le, Int32.reduceToInt, ← Int32.toInt_inj, true_and, and_true, or_true, true_or, false_or, or_false, false_and, and_false, not_true_eq_false, not_false_eq_true] <;> omega)) (by rw [fe_2584] <;> first | omega | (simp only [Int32.lt_iff_toInt_lt, Int32.le_iff_toInt_le, Int32.reduceToInt, ← Int32.toInt_inj, true_and, and_true, or_true, true_or, false_or, or_false, false_and, and_false, not_true_eq_false, not_false_eq_true] <;> omega)) ⟨_, hf_75, (RR.rf o_f hPR)⟩ (by decide)
    refine v_icmp_ne hC dX12_readRow_46 (tgt := 59) (by decide) (fun h_103 => ?_) (fun h_103 => ?_)
    · simp only [Int32.lt_iff_toInt_lt, Int32.le_iff_toInt_le, Int32.reduceToInt, ← Int32.toInt_inj] at h_103
      refine v_iconst hC dX12_readRow_59 (v := 0) (by decide) ?_
      refine v_pick [0, 1] rfl ?_
      have fe_2585 : fld (f_61 a_0) 10 = (v_86 : Int32).toInt := by rw [e_76]; rfl
      exact jn_105 0 (by decide) (by rw [fe_2585] <;> first | omega | (simp only [Int32.lt_iff_toInt_lt, Int32.le_iff_toInt_le, Int32.reduceToInt, ← Int32.toInt_inj, true_and, and_true, or_true, true_or, false_or, or_false, false_and, and_false, not_true_eq_false, not_false_eq_true] <;> omega))
    · simp only [Int32.lt_iff_toInt_lt, Int32.le_iff_toInt_le, Int32.reduceToInt, ← Int32.toInt_inj] at h_103
      refine v_iload_n hC dX12_readRow_49 rfl ?_
      refine v_bipush hC dX12_readRow_50 (v := 12) (by decide) ?_
      refine v_icmp_gt hC dX12_readRow_52 (tgt := 59) (by decide) (fun h_2586 => ?_) (fun h_2586 => ?_)
      · simp only [Int32.lt_iff_toInt_lt, Int32.le_iff_toInt_le, Int32.reduceToInt, ← Int32.toInt_inj] at h_2586
        refine v_iconst hC dX12_readRow_59 (v := 0) (by decide) ?_
        refine v_pick [0, 1] rfl ?_
        have fe_2587 : fld (f_61 a_0) 10 = (v_86 : Int32).toInt := by rw [e_76]; rfl
        exact jn_105 0 (by decide) (by rw [fe_2587] <;> first | omega | (simp only [Int32.lt_iff_toInt_lt, Int32.le_iff_toInt_le, Int32.reduceToInt, ← Int32.toInt_inj, true_and, and_true, or_true, true_or, false_or, or_false, false_and, and_false, not_true_eq_false, not_false_eq_true] <;> omega))
      · simp only [Int32.lt_iff_toInt_lt, Int32.le_iff_toInt_le, Int32.reduceToInt, ← Int32.toInt_inj] at h_2586
        refine v_iconst hC dX12_readRow_55 (v := 1) (by decide) ?_
        refine v_goto hC dX12_readRow_56 (tgt := 60) (by decide) ?_
        refine v_pick [0, 1] rfl ?_
        have fe_2588 : fld (f_61 a_0) 10 = (v_86 : Int32).toInt := by rw [e_76]; rfl
        exact jn_105 1 (by decide) (by rw [fe_2588] <;> first | omega | (simp only [Int32.lt_iff_toInt_lt, Int32.le_iff_toInt_le, Int32.reduceToInt, ← Int32.toInt_inj, true_and, and_true, or_true, true_or, false_or, or_false, false_and, and_false, not_true_eq_false, not_false_eq_true] <;> omega))
  · simp only [Int32.lt_iff_toInt_lt, Int32.le_iff_toInt_le, Int32.reduceToInt, ← Int32.toInt_inj] at h_58
    refine v_aload_n hC dX12_readRow_9 rfl ?_
    refine v_get hC fl_X12_34 m_1 e_24 rfl dX12_readRow_10 ?_
    refine v_iconst hC dX12_readRow_13 (v := 2) (by decide) ?_
    refine v_iald hC m_22 e_f (vp_in_iff.mpr (by decide)) (v := g_f 2) rfl dX12_readRow_14 ?_
    refine v_bipush hC dX12_readRow_15 (v := 8) (by decide) ?_
    refine v_icmp_ne hC dX12_readRow_17 (tgt := 25) (by decide) (fun h_2589 => ?_) (fun h_2589 => ?_)
    · simp only [Int32.lt_iff_toInt_lt, Int32.le_iff_toInt_le, Int32.reduceToInt, ← Int32.toInt_inj] at h_2589
      refine v_aload_n hC dX12_readRow_25 rfl ?_
      refine v_ldcS hC sr_X12_173 dX12_readRow_26 ?_
      refine v_vv hC (rest := []) m_1 e_24 rfl mi_X12_needs ms_X12_needs (p_X12_needs hW k_0 (by decide)) mx_X12_needs ml_X12_166 (by decide) rfl (cells1 := 0) (slots1 := 0) (by decide) (by decide) (Nat.le_of_ble_eq_true rfl) (Nat.le_of_ble_eq_true rfl) rfl (Nat.le_of_ble_eq_true rfl) dX12_readRow_28 (fun L_2591 f_2592 h_2593 => ?_)
      obtain ⟨rfl, hW_2598, hF_2599, x_2594, x_2595, x_2596, x_2597, -⟩ := h_2593
      have fe_2600 : fld (f a_0) 8 = (v_30 : Int32).toInt := by rw [e_24]; rfl
      have fe_2601 : fld (f a_0) 9 = (v_32 : Int32).toInt := by rw [e_24]; rfl
      have fe_2602 : fld (f a_0) 10 = (v_34 : Int32).toInt := by rw [e_24]; rfl
      have fe_2603 : fld (f a_0) 12 = (v_37 : Int32).toInt := by rw [e_24]; rfl
      have fe_2604 : fld (f a_0) 20 = (v_41 : Int32).toInt := by rw [e_24]; rfl
      have ib_2605 := iw_b (f a_0) (f (q 4)) 42
      rw [fe_2603, fe_2602, fe_2600, fe_2601] at ib_2605
      have hf_2606 := hF_2599.at e_f rfl
      obtain ⟨v_2608, v_2609, v_2611, v_2613, v_2615, v_2617, v_2619, v_2620, v_2621, v_2622, v_2624, e_2607, b_2610, b_2612, b_2614, b_2616, b_2618, b_2623, b_2625⟩ := hW_2598.at m_1 t_2
      have fe_2626 : fld (f_2592 a_0) 8 = (v_2613 : Int32).toInt := by rw [e_2607]; rfl
      have fe_2627 : fld (f_2592 a_0) 9 = (v_2615 : Int32).toInt := by rw [e_2607]; rfl
      have fe_2628 : fld (f_2592 a_0) 10 = (v_2617 : Int32).toInt := by rw [e_2607]; rfl
      have fe_2629 : fld (f_2592 a_0) 12 = (v_2620 : Int32).toInt := by rw [e_2607]; rfl
      have fe_2630 : fld (f_2592 a_0) 20 = (v_2624 : Int32).toInt := by rw [e_2607]; rfl
      rw [fe_2629, fe_2600, fe_2627, fe_2626] at x_2594
      rw [fe_2629, fe_2628, fe_2627, fe_2626] at x_2595
      rw [fe_2629, fe_2603] at x_2596
      rw [fe_2630, fe_2604] at x_2597
      clear fe_2600 fe_2601 fe_2602 fe_2603 fe_2604 fe_2626 fe_2627 fe_2628 fe_2629 fe_2630
      refine v_aload_n hC dX12_readRow_31 rfl ?_
      refine v_get hC fl_X12_108 m_1 e_2607 rfl dX12_readRow_32 ?_
      refine v_aload_n hC dX12_readRow_35 rfl ?_
      refine v_get hC fl_X12_117 m_1 e_2607 rfl dX12_readRow_36 ?_
      obtain ⟨v_2631, h_2632⟩ : ∃ v9 : Int32, v_2613 - v_2615 = v9 := ⟨_, rfl⟩
      refine v_isub hC dX12_readRow_39 h_2632 ?_
      have h_2633 := sub_v h_2632 (by first | omega | (simp only [Int32.lt_iff_toInt_lt, Int32.le_iff_toInt_le, Int32.reduceToInt, ← Int32.toInt_inj, true_and, and_true, or_true, true_or, false_or, or_false, false_and, and_false, not_true_eq_false, not_false_eq_true] <;> omega)) (by first | omega | (simp only [Int32.lt_iff_toInt_lt, Int32.le_iff_toInt_le, Int32.reduceToInt, ← Int32.toInt_inj, true_and, and_true, or_true, true_or, false_or, or_false, false_and, and_false, not_true_eq_false, not_false_eq_true] <;> omega))
      refine v_istore_n hC dX12_readRow_40 (by decide) (lv' := [(1, .int v_2631), (0, .ref a_0)]) rfl ?_
      refine v_aload_n hC dX12_readRow_41 rfl ?_
      refine v_get hC fl_X12_120 m_1 e_2607 rfl dX12_readRow_42 ?_
      refine v_iconst hC dX12_readRow_45 (v := 1) (by decide) ?_
      have jn_2636 : ∀ (v_2637 : Int32) (b_2638 : (0 ≤ v_2637.toInt ∧ v_2637.toInt ≤ 1)) (jv_2639 : ((v_2637 : Int32).toInt = 0 ∨ (v_2631.toInt ≤ 12 ∧ fld (f_2592 a_0) 10 = 1))), V z E 5 0 0 L f_2592 60 [(1, .int v_2631), (0, .ref a_0)] [.int v_2637] := by
        intro v_2637 b_2638 jv_2639
        have fe_2640 : fld (f_2592 a_0) 10 = (v_2617 : Int32).toInt := by rw [e_2607]; rfl
        rw [fe_2640] at jv_2639
        refine v_istore_n hC dX12_readRow_60 (by decide) (lv' := [(2, .int v_2637), (1, .int v_2631), (0, .ref a_0)]) rfl ?_
        refine v_bipush hC dX12_readRow_61 (v := 16) (by decide) ?_
        refine v_bipush hC dX12_readRow_63 (v := 13) (by decide) ?_
        refine v_aload_n hC dX12_readRow_65 rfl ?_
        refine v_get hC fl_X12_34 m_1 e_2607 rfl dX12_readRow_66 ?_
        refine v_iconst hC dX12_readRow_69 (v := 2) (by decide) ?_
        refine v_iald hC m_22 hf_2606 (vp_in_iff.mpr (by decide)) (v := g_f 2) rfl dX12_readRow_70 ?_
        obtain ⟨v_2641, h_2642⟩ : ∃ v9 : Int32, (13 : Int32) * (g_f 2) = v9 := ⟨_, rfl⟩
        refine v_imul hC dX12_readRow_71 h_2642 ?_
        have h_2643 := mul_v 13 7 91 h_2642 (by decide) (by first | omega | (simp only [Int32.lt_iff_toInt_lt, Int32.le_iff_toInt_le, Int32.reduceToInt, ← Int32.toInt_inj, true_and, and_true, or_true, true_or, false_or, or_false, false_and, and_false, not_true_eq_false, not_false_eq_true] <;> omega)) (by decide) (by decide)
        try simp only [Int32.reduceToInt] at h_2643
        obtain ⟨v_2644, h_2645⟩ : ∃ v9 : Int32, (16 : Int32) + v_2641 = v9 := ⟨_, rfl⟩
        refine v_iadd hC dX12_readRow_72 h_2645 ?_
        have h_2646 := add_v h_2645 (by first | omega | (simp only [Int32.lt_iff_toInt_lt, Int32.le_iff_toInt_le, Int32.reduceToInt, ← Int32.toInt_inj, true_and, and_true, or_true, true_or, false_or, or_false, false_and, and_false, not_true_eq_false, not_false_eq_true] <;> omega)) (by first | omega | (simp only [Int32.lt_iff_toInt_lt, Int32.le_iff_toInt_le, Int32.reduceToInt, ← Int32.toInt_inj, true_and, and_true, or_true, true_or, false_or, or_false, false_and, and_false, not_true_eq_false, not_false_eq_true] <;> omega))
        try simp only [Int32.reduceToInt] at h_2646
        refine v_istore_n hC dX12_readRow_73 (by decide) (lv' := [(3, .int v_2644), (2, .int v_2637), (1, .int v_2631), (0, .ref a_0)]) rfl ?_
        refine v_iconst hC dX12_readRow_74 (v := 0) (by decide) ?_
        refine v_istore hC dX12_readRow_75 (by decide) (lv' := [(4, .int 0), (3, .int v_2644), (2, .int v_2637), (1, .int v_2631), (0, .ref a_0)]) rfl ?_
        have lp_4632 : ∀ (n_4633 : Nat) (f_4624 : Nat → va_E) (hW_4625 : WT T L f_4624) (hF_4626 : FR [2176] f_2592 f_4624) (i_4622 : Int32) (b_4628 : (0 ≤ i_4622.toInt ∧ i_4622.toInt ≤ 600)) (i_4623 : Int32) (b_4629 : (0 ≤ i_4623.toInt ∧ i_4623.toInt ≤ 1)) (nv_4631 : (i_4623.toInt = 0 ∨ (v_2631.toInt ≤ 12 ∧ fld (f_4624 a_0) 10 = 1))) (cv_4630 : ∃ g9 : Nat → Int32, (f_4624 (q 14)) = aI E 2076 g9 ∧ RR g_f g9) (hm_4635 : 600 - i_4622.toInt < (n_4633 : Int)), V z E 5 0 0 L f_4624 77 [(4, .int i_4622), (3, .int v_2644), (2, .int i_4623), (1, .int v_2631), (0, .ref a_0)] [] := by
          intro n_4633
          induction n_4633 with
          | zero =>
            intro f_4624 hW_4625 hF_4626 i_4622 b_4628 i_4623 b_4629 nv_4631 cv_4630 hm_4635
            have hf_4627 := hF_4626.at e_2607 rfl
            have fe_4636 : fld (f_4624 a_0) 10 = (v_2617 : Int32).toInt := by rw [hf_4627]; rfl
            rw [fe_4636] at nv_4631
            obtain ⟨g_4637, e_4638, rr_4639⟩ := cv_4630
            exfalso; omega
          | succ n_4633 ih_4634 =>
            intro f_4624 hW_4625 hF_4626 i_4622 b_4628 i_4623 b_4629 nv_4631 cv_4630 hm_4635
            have hf_4627 := hF_4626.at e_2607 rfl
            have fe_4636 : fld (f_4624 a_0) 10 = (v_2617 : Int32).toInt := by rw [hf_4627]; rfl
            rw [fe_4636] at nv_4631
            obtain ⟨g_4637, e_4638, rr_4639⟩ := cv_4630
            refine v_iload hC dX12_readRow_77 rfl ?_
            refine v_iload_n hC dX12_readRow_79 rfl ?_
            have jn_4739 : V z E 5 0 0 L f_4624 151 [(3, .int v_2644), (2, .int i_4623), (1, .int v_2631), (0, .ref a_0)] [] := by
              refine v_iload_n hC dX12_readRow_151 rfl ?_
              refine v_if_ne hC dX12_readRow_152 (tgt := 160) (by decide) (fun h_4740 => ?_) (fun h_4740 => ?_)
              · simp only [Int32.lt_iff_toInt_lt, Int32.le_iff_toInt_le, Int32.reduceToInt, ← Int32.toInt_inj] at h_4740
                refine v_aload_n hC dX12_readRow_160 rfl ?_
                refine v_vi hC (rest := []) m_1 hf_4627 rfl mi_X12_good ms_X12_good (p_X12_good hW_4625 k_0) mx_X12_good ml_X12_139 (by decide) rfl (cells1 := 0) (slots1 := 0) (by decide) (by decide) (Nat.le_of_ble_eq_true rfl) (Nat.le_of_ble_eq_true rfl) rfl (Nat.le_of_ble_eq_true rfl) dX12_readRow_161 (fun r_4741 L_4742 f_4743 h_4744 => ?_)
                obtain ⟨rfl, rfl, b_4745, x_4746⟩ := h_4744
                have fe_4749 : fld (f_4624 a_0) 12 = (v_2620 : Int32).toInt := by rw [hf_4627]; rfl
                rw [fe_4749] at x_4746
                clear fe_4749
                try simp only [Int32.reduceToInt, Int64.reduceToInt] at x_4746
                refine v_if_ne hC dX12_readRow_164 (tgt := 168) (by decide) (fun h_4750 => ?_) (fun h_4750 => ?_)
                · simp only [Int32.lt_iff_toInt_lt, Int32.le_iff_toInt_le, Int32.reduceToInt, ← Int32.toInt_inj] at h_4750
                  refine v_aload_n hC dX12_readRow_168 rfl ?_
                  refine v_get hC fl_X12_34 m_1 hf_4627 rfl dX12_readRow_169 ?_
                  refine v_iload_n hC dX12_readRow_172 rfl ?_
                  refine v_iload_n hC dX12_readRow_173 rfl ?_
                  refine v_iast hC m_22 e_4638 (vp_in_iff.mpr (by first | omega | (simp only [Int32.lt_iff_toInt_lt, Int32.le_iff_toInt_le, Int32.reduceToInt, ← Int32.toInt_inj, true_and, and_true, or_true, true_or, false_or, or_false, false_and, and_false, not_true_eq_false, not_false_eq_true] <;> omega))) dX12_readRow_174 (fun f_4751 hf_4752 hk_4753 => ?_)
                  have hW_4755 := hW_4625.up hf_4752 hk_4753 t_23 ⟨_, rfl, (rr_4639.1.up (by first | omega | (simp only [Int32.lt_iff_toInt_lt, Int32.le_iff_toInt_le, Int32.reduceToInt, ← Int32.toInt_inj, true_and, and_true, or_true, true_or, false_or, or_false, false_and, and_false, not_true_eq_false, not_false_eq_true] <;> omega)) (fun q1 q2 => (by first | omega | (simp only [Int32.lt_iff_toInt_lt, Int32.le_iff_toInt_le, Int32.reduceToInt, ← Int32.toInt_inj] at *; omega))) (fun k9 q1 q2 q3 => (by first | omega | (simp only [Int32.lt_iff_toInt_lt, Int32.le_iff_toInt_le, Int32.reduceToInt, ← Int32.toInt_inj] at *; omega))))⟩
                  obtain ⟨g_4754, hf_4752, ok_4756, eg_4757⟩ : ∃ g9, f_4751 (q 14) = aI E 2076 g9 ∧ FOK g9 ∧ g9 = upd g_4637 (v_2644 : Int32).toNatClampNeg v_2631 := ⟨_, hf_4752, (rr_4639.1.up (by first | omega | (simp only [Int32.lt_iff_toInt_lt, Int32.le_iff_toInt_le, Int32.reduceToInt, ← Int32.toInt_inj, true_and, and_true, or_true, true_or, false_or, or_false, false_and, and_false, not_true_eq_false, not_false_eq_true] <;> omega)) (fun q1 q2 => (by first | omega | (simp only [Int32.lt_iff_toInt_lt, Int32.le_iff_toInt_le, Int32.reduceToInt, ← Int32.toInt_inj] at *; omega))) (fun k9 q1 q2 q3 => (by first | omega | (simp only [Int32.lt_iff_toInt_lt, Int32.le_iff_toInt_le, Int32.reduceToInt, ← Int32.toInt_inj] at *; omega)))), rfl⟩
                  have hf_4758 := (hk_4753 a_0 (ne_kd hf_4627 e_4638 rfl)).trans hf_4627
                  have fr_4759 := FR.w hk_4753 e_4638 (k := 2176) rfl
                  have g2_4760 : (g_4754 2).toInt = (g_f 2).toInt := by rw [← rr_4639.2.2.2.2, eg_4757]; unfold upd; rw [if_neg (by rw [clamp_t]; omega)]
                  refine v_aload_n hC dX12_readRow_175 rfl ?_
                  refine v_get hC fl_X12_34 m_1 hf_4758 rfl dX12_readRow_176 ?_
                  refine v_iconst hC dX12_readRow_179 (v := 2) (by decide) ?_
                  refine v_dup2 hC dX12_readRow_180 rfl rfl ?_
                  refine v_iald hC m_22 hf_4752 (vp_in_iff.mpr (by decide)) (v := g_4754 2) rfl dX12_readRow_181 ?_
                  refine v_iconst hC dX12_readRow_182 (v := 1) (by decide) ?_
                  obtain ⟨v_4761, h_4762⟩ : ∃ v9 : Int32, (g_4754 2) + 1 = v9 := ⟨_, rfl⟩
                  refine v_iadd hC dX12_readRow_183 h_4762 ?_
                  have h_4763 := add_v h_4762 (by first | omega | (simp only [Int32.lt_iff_toInt_lt, Int32.le_iff_toInt_le, Int32.reduceToInt, ← Int32.toInt_inj, true_and, and_true, or_true, true_or, false_or, or_false, false_and, and_false, not_true_eq_false, not_false_eq_true] <;> omega)) (by first | omega | (simp only [Int32.lt_iff_toInt_lt, Int32.le_iff_toInt_le, Int32.reduceToInt, ← Int32.toInt_inj, true_and, and_true, or_true, true_or, false_or, or_false, false_and, and_false, not_true_eq_false, not_false_eq_true] <;> omega))
                  try simp only [Int32.reduceToInt] at h_4763
                  refine v_iast hC m_22 hf_4752 (vp_in_iff.mpr (by decide)) dX12_readRow_184 (fun f_4764 hf_4765 hk_4766 => ?_)
                  have hW_4768 := hW_4755.up hf_4765 hk_4766 t_23 ⟨_, rfl, (ok_4756.up (i := 2) (by decide) (fun q1 q2 => absurd (And.intro q1 q2) (by decide)) (fun k9 q1 q2 q3 => by simp only [Int32.reduceToInt] at q3; omega))⟩
                  obtain ⟨g_4767, hf_4765, ok_4769, eg_4770⟩ : ∃ g9, f_4764 (q 14) = aI E 2076 g9 ∧ FOK g9 ∧ g9 = upd g_4754 (2 : Int32).toNatClampNeg v_4761 := ⟨_, hf_4765, (ok_4756.up (i := 2) (by decide) (fun q1 q2 => absurd (And.intro q1 q2) (by decide)) (fun k9 q1 q2 q3 => by simp only [Int32.reduceToInt] at q3; omega)), rfl⟩
                  have hf_4771 := (hk_4766 a_0 (ne_kd hf_4758 hf_4752 rfl)).trans hf_4758
                  have fr_4772 := FR.w hk_4766 hf_4752 (k := 2176) rfl
                  have rf_4773 := rr_4639.fin eg_4757 eg_4770 (by omega) (by omega) (by omega) (by omega)
                  have rf_4773_t := rf_4773.2.2.2.2
                  refine v_aload_n hC dX12_readRow_185 rfl ?_
                  refine v_vv hC (rest := []) m_1 hf_4771 rfl mi_X12_advance ms_X12_advance (p_X12_advance hW_4768 k_0) mx_X12_advance ml_X12_156 (by decide) rfl (cells1 := 0) (slots1 := 0) (by decide) (by decide) (Nat.le_of_ble_eq_true rfl) (Nat.le_of_ble_eq_true rfl) rfl (Nat.le_of_ble_eq_true rfl) dX12_readRow_186 (fun L_4775 f_4776 h_4777 => ?_)
                  obtain ⟨rfl, hW_4782, hF_4783, x_4778, x_4779, x_4780, x_4781⟩ := h_4777
                  have fe_4784 : fld (f_4764 a_0) 8 = (v_2613 : Int32).toInt := by rw [hf_4771]; rfl
                  have fe_4785 : fld (f_4764 a_0) 12 = (v_2620 : Int32).toInt := by rw [hf_4771]; rfl
                  have fe_4786 : fld (f_4764 a_0) 20 = (v_2624 : Int32).toInt := by rw [hf_4771]; rfl
                  have hf_4787 := hF_4783.at hf_4765 rfl
                  obtain ⟨v_4789, v_4790, v_4792, v_4794, v_4796, v_4798, v_4800, v_4801, v_4802, v_4803, v_4805, e_4788, b_4791, b_4793, b_4795, b_4797, b_4799, b_4804, b_4806⟩ := hW_4782.at m_1 t_2
                  have fe_4807 : fld (f_4776 a_0) 8 = (v_4794 : Int32).toInt := by rw [e_4788]; rfl
                  have fe_4808 : fld (f_4776 a_0) 9 = (v_4796 : Int32).toInt := by rw [e_4788]; rfl
                  have fe_4809 : fld (f_4776 a_0) 10 = (v_4798 : Int32).toInt := by rw [e_4788]; rfl
                  have fe_4810 : fld (f_4776 a_0) 12 = (v_4801 : Int32).toInt := by rw [e_4788]; rfl
                  have fe_4811 : fld (f_4776 a_0) 20 = (v_4805 : Int32).toInt := by rw [e_4788]; rfl
                  rw [fe_4784, fe_4808, fe_4807] at x_4778
                  rw [fe_4809, fe_4808, fe_4807] at x_4779
                  rw [fe_4810, fe_4785] at x_4780
                  rw [fe_4811, fe_4786] at x_4781
                  clear fe_4784 fe_4785 fe_4786 fe_4807 fe_4808 fe_4809 fe_4810 fe_4811
                  refine v_aload_n hC dX12_readRow_189 rfl ?_
                  refine v_vv hC (rest := []) m_1 e_4788 rfl mi_X12_ends ms_X12_ends (p_X12_ends hW_4782 k_0) mx_X12_ends ml_X12_178 (by decide) rfl (cells1 := 0) (slots1 := 0) (by decide) (by decide) (Nat.le_of_ble_eq_true rfl) (Nat.le_of_ble_eq_true rfl) rfl (Nat.le_of_ble_eq_true rfl) dX12_readRow_190 (fun L_4813 f_4814 h_4815 => ?_)
                  obtain ⟨rfl, hW_4820, hF_4821, x_4816, x_4817, x_4818, x_4819, -⟩ := h_4815
                  have fe_4822 : fld (f_4776 a_0) 8 = (v_4794 : Int32).toInt := by rw [e_4788]; rfl
                  have fe_4823 : fld (f_4776 a_0) 10 = (v_4798 : Int32).toInt := by rw [e_4788]; rfl
                  have fe_4824 : fld (f_4776 a_0) 12 = (v_4801 : Int32).toInt := by rw [e_4788]; rfl
                  have fe_4825 : fld (f_4776 a_0) 20 = (v_4805 : Int32).toInt := by rw [e_4788]; rfl
                  have hf_4826 := hF_4821.at hf_4787 rfl
                  obtain ⟨v_4828, v_4829, v_4831, v_4833, v_4835, v_4837, v_4839, v_4840, v_4841, v_4842, v_4844, e_4827, b_4830, b_4832, b_4834, b_4836, b_4838, b_4843, b_4845⟩ := hW_4820.at m_1 t_2
                  have fe_4846 : fld (f_4814 a_0) 8 = (v_4833 : Int32).toInt := by rw [e_4827]; rfl
                  have fe_4847 : fld (f_4814 a_0) 9 = (v_4835 : Int32).toInt := by rw [e_4827]; rfl
                  have fe_4848 : fld (f_4814 a_0) 10 = (v_4837 : Int32).toInt := by rw [e_4827]; rfl
                  have fe_4849 : fld (f_4814 a_0) 12 = (v_4840 : Int32).toInt := by rw [e_4827]; rfl
                  have fe_4850 : fld (f_4814 a_0) 20 = (v_4844 : Int32).toInt := by rw [e_4827]; rfl
                  rw [fe_4849, fe_4824] at x_4816
                  rw [fe_4849, fe_4823, fe_4822, fe_4847, fe_4846] at x_4817
                  rw [fe_4849, fe_4848, fe_4847, fe_4846] at x_4818
                  rw [fe_4850, fe_4825] at x_4819
                  clear fe_4822 fe_4823 fe_4824 fe_4825 fe_4846 fe_4847 fe_4848 fe_4849 fe_4850
                  have fe_4851 : fld (f_4814 a_0) 12 = (v_4840 : Int32).toInt := by rw [e_4827]; rfl
                  have fe_4852 : fld (f_4814 a_0) 8 = (v_4833 : Int32).toInt := by rw [e_4827]; rfl
                  have fe_4853 : fld (f_4814 a_0) 12 = (v_4840 : Int32).toInt := by rw [e_4827]; rfl
                  have fe_4854 : fld (f_4814 a_0) 20 = (v_4844 : Int32).toInt := by rw [e_4827]; rfl
                  exact hR _ _ _ _ _ _ dX12_readRow_193 (Nat.le_of_ble_eq_true rfl) (Nat.le_of_ble_eq_true rfl) ⟨rfl, hW_4820, ((((((hF_2599.tr hF_4626).tr fr_4759).tr fr_4772).tr hF_4783).tr hF_4821).mono rfl), ⟨_, hf_4826, rf_4773.1, rf_4773.2.1, rf_4773.2.2.1, rf_4773.2.2.2.1, (by rw [fe_4851]; first | (left; omega) | (right; omega) | omega)⟩, (by simp only [fe_4852, fe_4853, mz_43, mz_44, true_and, and_true, or_true, true_or, false_or, or_false, false_and, and_false, not_true_eq_false, not_false_eq_true] <;> first | omega | (simp only [Int32.lt_iff_toInt_lt, Int32.le_iff_toInt_le, Int32.reduceToInt, ← Int32.toInt_inj, true_and, and_true, or_true, true_or, false_or, or_false, false_and, and_false, not_true_eq_false, not_false_eq_true] <;> omega)), (by simp only [fe_4854, mz_45, true_and, and_true, or_true, true_or, false_or, or_false, false_and, and_false, not_true_eq_false, not_false_eq_true] <;> first | omega | (simp only [Int32.lt_iff_toInt_lt, Int32.le_iff_toInt_le, Int32.reduceToInt, ← Int32.toInt_inj, true_and, and_true, or_true, true_or, false_or, or_false, false_and, and_false, not_true_eq_false, not_false_eq_true] <;> omega))⟩
                · simp only [Int32.lt_iff_toInt_lt, Int32.le_iff_toInt_le, Int32.reduceToInt, ← Int32.toInt_inj] at h_4750
                  have fe_4855 : fld (f_4624 a_0) 12 = (v_2620 : Int32).toInt := by rw [hf_4627]; rfl
                  have fe_4856 : fld (f_4624 a_0) 8 = (v_2613 : Int32).toInt := by rw [hf_4627]; rfl
                  have fe_4857 : fld (f_4624 a_0) 12 = (v_2620 : Int32).toInt := by rw [hf_4627]; rfl
                  have fe_4858 : fld (f_4624 a_0) 20 = (v_2624 : Int32).toInt := by rw [hf_4627]; rfl
                  exact hR _ _ _ _ _ _ dX12_readRow_167 (Nat.le_of_ble_eq_true rfl) (Nat.le_of_ble_eq_true rfl) ⟨rfl, hW_4625, ((hF_2599.tr hF_4626).mono rfl), ⟨_, e_4638, rr_4639.1, rr_4639.2.1, rr_4639.2.2.1, rr_4639.2.2.2.1, (by rw [fe_4855]; first | (left; omega) | (right; omega) | omega)⟩, (by simp only [fe_4856, fe_4857, mz_43, mz_44, true_and, and_true, or_true, true_or, false_or, or_false, false_and, and_false, not_true_eq_false, not_false_eq_true] <;> first | omega | (simp only [Int32.lt_iff_toInt_lt, Int32.le_iff_toInt_le, Int32.reduceToInt, ← Int32.toInt_inj, true_and, and_true, or_true, true_or, false_or, or_false, false_and, and_false, not_true_eq_false, not_false_eq_true] <;> omega)), (by simp only [fe_4858, mz_45, true_and, and_true, or_true, true_or, false_or, or_false, false_and, and_false, not_true_eq_false, not_false_eq_true] <;> first | omega | (simp only [Int32.lt_iff_toInt_lt, Int32.le_iff_toInt_le, Int32.reduceToInt, ← Int32.toInt_inj, true_and, and_true, or_true, true_or, false_or, or_false, false_and, and_false, not_true_eq_false, not_false_eq_true] <;> omega))⟩
              · simp only [Int32.lt_iff_toInt_lt, Int32.le_iff_toInt_le, Int32.reduceToInt, ← Int32.toInt_inj] at h_4740
                refine v_aload_n hC dX12_readRow_155 rfl ?_
                refine v_iconst hC dX12_readRow_156 (v := 1) (by decide) ?_
                refine v_vv hC (rest := []) m_1 hf_4627 rfl mi_X12_errs ms_X12_errs (p_X12_errs hW_4625 k_0 (by decide)) mx_X12_errs ml_X12_162 (by decide) rfl (cells1 := 0) (slots1 := 0) (by decide) (by decide) (Nat.le_of_ble_eq_true rfl) (Nat.le_of_ble_eq_true rfl) rfl (Nat.le_of_ble_eq_true rfl) dX12_readRow_157 (fun L_4860 f_4861 h_4862 => ?_)
                obtain ⟨rfl, hW_4868, hF_4869, x_4863, x_4864, x_4865, x_4866, x_4867⟩ := h_4862
                have fe_4870 : fld (f_4624 a_0) 8 = (v_2613 : Int32).toInt := by rw [hf_4627]; rfl
                have fe_4871 : fld (f_4624 a_0) 9 = (v_2615 : Int32).toInt := by rw [hf_4627]; rfl
                have fe_4872 : fld (f_4624 a_0) 10 = (v_2617 : Int32).toInt := by rw [hf_4627]; rfl
                have fe_4873 : fld (f_4624 a_0) 20 = (v_2624 : Int32).toInt := by rw [hf_4627]; rfl
                have hf_4874 := hF_4869.at e_4638 rfl
                obtain ⟨v_4876, v_4877, v_4879, v_4881, v_4883, v_4885, v_4887, v_4888, v_4889, v_4890, v_4892, e_4875, b_4878, b_4880, b_4882, b_4884, b_4886, b_4891, b_4893⟩ := hW_4868.at m_1 t_2
                have fe_4894 : fld (f_4861 a_0) 8 = (v_4881 : Int32).toInt := by rw [e_4875]; rfl
                have fe_4895 : fld (f_4861 a_0) 9 = (v_4883 : Int32).toInt := by rw [e_4875]; rfl
                have fe_4896 : fld (f_4861 a_0) 10 = (v_4885 : Int32).toInt := by rw [e_4875]; rfl
                have fe_4897 : fld (f_4861 a_0) 12 = (v_4888 : Int32).toInt := by rw [e_4875]; rfl
                have fe_4898 : fld (f_4861 a_0) 20 = (v_4892 : Int32).toInt := by rw [e_4875]; rfl
                rw [fe_4897] at x_4863
                rw [fe_4894, fe_4870] at x_4864
                rw [fe_4895, fe_4871] at x_4865
                rw [fe_4896, fe_4872] at x_4866
                rw [fe_4898, fe_4873] at x_4867
                clear fe_4870 fe_4871 fe_4872 fe_4873 fe_4894 fe_4895 fe_4896 fe_4897 fe_4898
                refine v_aload_n hC dX12_readRow_160 rfl ?_
                refine v_vi hC (rest := []) m_1 e_4875 rfl mi_X12_good ms_X12_good (p_X12_good hW_4868 k_0) mx_X12_good ml_X12_139 (by decide) rfl (cells1 := 0) (slots1 := 0) (by decide) (by decide) (Nat.le_of_ble_eq_true rfl) (Nat.le_of_ble_eq_true rfl) rfl (Nat.le_of_ble_eq_true rfl) dX12_readRow_161 (fun r_4899 L_4900 f_4901 h_4902 => ?_)
                obtain ⟨rfl, rfl, b_4903, x_4904⟩ := h_4902
                have fe_4907 : fld (f_4861 a_0) 12 = (v_4888 : Int32).toInt := by rw [e_4875]; rfl
                rw [fe_4907] at x_4904
                clear fe_4907
                try simp only [Int32.reduceToInt, Int64.reduceToInt] at x_4904
                refine v_if_ne hC dX12_readRow_164 (tgt := 168) (by decide) (fun h_4908 => ?_) (fun h_4908 => ?_)
                · simp only [Int32.lt_iff_toInt_lt, Int32.le_iff_toInt_le, Int32.reduceToInt, ← Int32.toInt_inj] at h_4908
                  refine v_aload_n hC dX12_readRow_168 rfl ?_
                  refine v_get hC fl_X12_34 m_1 e_4875 rfl dX12_readRow_169 ?_
                  refine v_iload_n hC dX12_readRow_172 rfl ?_
                  refine v_iload_n hC dX12_readRow_173 rfl ?_
                  refine v_iast hC m_22 hf_4874 (vp_in_iff.mpr (by first | omega | (simp only [Int32.lt_iff_toInt_lt, Int32.le_iff_toInt_le, Int32.reduceToInt, ← Int32.toInt_inj, true_and, and_true, or_true, true_or, false_or, or_false, false_and, and_false, not_true_eq_false, not_false_eq_true] <;> omega))) dX12_readRow_174 (fun f_4909 hf_4910 hk_4911 => ?_)
                  have hW_4913 := hW_4868.up hf_4910 hk_4911 t_23 ⟨_, rfl, (rr_4639.1.up (by first | omega | (simp only [Int32.lt_iff_toInt_lt, Int32.le_iff_toInt_le, Int32.reduceToInt, ← Int32.toInt_inj, true_and, and_true, or_true, true_or, false_or, or_false, false_and, and_false, not_true_eq_false, not_false_eq_true] <;> omega)) (fun q1 q2 => (by first | omega | (simp only [Int32.lt_iff_toInt_lt, Int32.le_iff_toInt_le, Int32.reduceToInt, ← Int32.toInt_inj] at *; omega))) (fun k9 q1 q2 q3 => (by first | omega | (simp only [Int32.lt_iff_toInt_lt, Int32.le_iff_toInt_le, Int32.reduceToInt, ← Int32.toInt_inj] at *; omega))))⟩
                  obtain ⟨g_4912, hf_4910, ok_4914, eg_4915⟩ : ∃ g9, f_4909 (q 14) = aI E 2076 g9 ∧ FOK g9 ∧ g9 = upd g_4637 (v_2644 : Int32).toNatClampNeg v_2631 := ⟨_, hf_4910, (rr_4639.1.up (by first | omega | (simp only [Int32.lt_iff_toInt_lt, Int32.le_iff_toInt_le, Int32.reduceToInt, ← Int32.toInt_inj, true_and, and_true, or_true, true_or, false_or, or_false, false_and, and_false, not_true_eq_false, not_false_eq_true] <;> omega)) (fun q1 q2 => (by first | omega | (simp only [Int32.lt_iff_toInt_lt, Int32.le_iff_toInt_le, Int32.reduceToInt, ← Int32.toInt_inj] at *; omega))) (fun k9 q1 q2 q3 => (by first | omega | (simp only [Int32.lt_iff_toInt_lt, Int32.le_iff_toInt_le, Int32.reduceToInt, ← Int32.toInt_inj] at *; omega)))), rfl⟩
                  have hf_4916 := (hk_4911 a_0 (ne_kd e_4875 hf_4874 rfl)).trans e_4875
                  have fr_4917 := FR.w hk_4911 hf_4874 (k := 2176) rfl
                  have g2_4918 : (g_4912 2).toInt = (g_f 2).toInt := by rw [← rr_4639.2.2.2.2, eg_4915]; unfold upd; rw [if_neg (by rw [clamp_t]; omega)]
                  refine v_aload_n hC dX12_readRow_175 rfl ?_
                  refine v_get hC fl_X12_34 m_1 hf_4916 rfl dX12_readRow_176 ?_
                  refine v_iconst hC dX12_readRow_179 (v := 2) (by decide) ?_
                  refine v_dup2 hC dX12_readRow_180 rfl rfl ?_
                  refine v_iald hC m_22 hf_4910 (vp_in_iff.mpr (by decide)) (v := g_4912 2) rfl dX12_readRow_181 ?_
                  refine v_iconst hC dX12_readRow_182 (v := 1) (by decide) ?_
                  obtain ⟨v_4919, h_4920⟩ : ∃ v9 : Int32, (g_4912 2) + 1 = v9 := ⟨_, rfl⟩
                  refine v_iadd hC dX12_readRow_183 h_4920 ?_
                  have h_4921 := add_v h_4920 (by first | omega | (simp only [Int32.lt_iff_toInt_lt, Int32.le_iff_toInt_le, Int32.reduceToInt, ← Int32.toInt_inj, true_and, and_true, or_true, true_or, false_or, or_false, false_and, and_false, not_true_eq_false, not_false_eq_true] <;> omega)) (by first | omega | (simp only [Int32.lt_iff_toInt_lt, Int32.le_iff_toInt_le, Int32.reduceToInt, ← Int32.toInt_inj, true_and, and_true, or_true, true_or, false_or, or_false, false_and, and_false, not_true_eq_false, not_false_eq_true] <;> omega))
                  try simp only [Int32.reduceToInt] at h_4921
                  refine v_iast hC m_22 hf_4910 (vp_in_iff.mpr (by decide)) dX12_readRow_184 (fun f_4922 hf_4923 hk_4924 => ?_)
                  have hW_4926 := hW_4913.up hf_4923 hk_4924 t_23 ⟨_, rfl, (ok_4914.up (i := 2) (by decide) (fun q1 q2 => absurd (And.intro q1 q2) (by decide)) (fun k9 q1 q2 q3 => by simp only [Int32.reduceToInt] at q3; omega))⟩
                  obtain ⟨g_4925, hf_4923, ok_4927, eg_4928⟩ : ∃ g9, f_4922 (q 14) = aI E 2076 g9 ∧ FOK g9 ∧ g9 = upd g_4912 (2 : Int32).toNatClampNeg v_4919 := ⟨_, hf_4923, (ok_4914.up (i := 2) (by decide) (fun q1 q2 => absurd (And.intro q1 q2) (by decide)) (fun k9 q1 q2 q3 => by simp only [Int32.reduceToInt] at q3; omega)), rfl⟩
                  have hf_4929 := (hk_4924 a_0 (ne_kd hf_4916 hf_4910 rfl)).trans hf_4916
                  have fr_4930 := FR.w hk_4924 hf_4910 (k := 2176) rfl
                  have rf_4931 := rr_4639.fin eg_4915 eg_4928 (by omega) (by omega) (by omega) (by omega)
                  have rf_4931_t := rf_4931.2.2.2.2
                  refine v_aload_n hC dX12_readRow_185 rfl ?_
                  refine v_vv hC (rest := []) m_1 hf_4929 rfl mi_X12_advance ms_X12_advance (p_X12_advance hW_4926 k_0) mx_X12_advance ml_X12_156 (by decide) rfl (cells1 := 0) (slots1 := 0) (by decide) (by decide) (Nat.le_of_ble_eq_true rfl) (Nat.le_of_ble_eq_true rfl) rfl (Nat.le_of_ble_eq_true rfl) dX12_readRow_186 (fun L_4933 f_4934 h_4935 => ?_)
                  obtain ⟨rfl, hW_4940, hF_4941, x_4936, x_4937, x_4938, x_4939⟩ := h_4935
                  have fe_4942 : fld (f_4922 a_0) 8 = (v_4881 : Int32).toInt := by rw [hf_4929]; rfl
                  have fe_4943 : fld (f_4922 a_0) 12 = (v_4888 : Int32).toInt := by rw [hf_4929]; rfl
                  have fe_4944 : fld (f_4922 a_0) 20 = (v_4892 : Int32).toInt := by rw [hf_4929]; rfl
                  have hf_4945 := hF_4941.at hf_4923 rfl
                  obtain ⟨v_4947, v_4948, v_4950, v_4952, v_4954, v_4956, v_4958, v_4959, v_4960, v_4961, v_4963, e_4946, b_4949, b_4951, b_4953, b_4955, b_4957, b_4962, b_4964⟩ := hW_4940.at m_1 t_2
                  have fe_4965 : fld (f_4934 a_0) 8 = (v_4952 : Int32).toInt := by rw [e_4946]; rfl
                  have fe_4966 : fld (f_4934 a_0) 9 = (v_4954 : Int32).toInt := by rw [e_4946]; rfl
                  have fe_4967 : fld (f_4934 a_0) 10 = (v_4956 : Int32).toInt := by rw [e_4946]; rfl
                  have fe_4968 : fld (f_4934 a_0) 12 = (v_4959 : Int32).toInt := by rw [e_4946]; rfl
                  have fe_4969 : fld (f_4934 a_0) 20 = (v_4963 : Int32).toInt := by rw [e_4946]; rfl
                  rw [fe_4942, fe_4966, fe_4965] at x_4936
                  rw [fe_4967, fe_4966, fe_4965] at x_4937
                  rw [fe_4968, fe_4943] at x_4938
                  rw [fe_4969, fe_4944] at x_4939
                  clear fe_4942 fe_4943 fe_4944 fe_4965 fe_4966 fe_4967 fe_4968 fe_4969
                  refine v_aload_n hC dX12_readRow_189 rfl ?_
                  refine v_vv hC (rest := []) m_1 e_4946 rfl mi_X12_ends ms_X12_ends (p_X12_ends hW_4940 k_0) mx_X12_ends ml_X12_178 (by decide) rfl (cells1 := 0) (slots1 := 0) (by decide) (by decide) (Nat.le_of_ble_eq_true rfl) (Nat.le_of_ble_eq_true rfl) rfl (Nat.le_of_ble_eq_true rfl) dX12_readRow_190 (fun L_4971 f_4972 h_4973 => ?_)
                  obtain ⟨rfl, hW_4978, hF_4979, x_4974, x_4975, x_4976, x_4977, -⟩ := h_4973
                  have fe_4980 : fld (f_4934 a_0) 8 = (v_4952 : Int32).toInt := by rw [e_4946]; rfl
                  have fe_4981 : fld (f_4934 a_0) 10 = (v_4956 : Int32).toInt := by rw [e_4946]; rfl
                  have fe_4982 : fld (f_4934 a_0) 12 = (v_4959 : Int32).toInt := by rw [e_4946]; rfl
                  have fe_4983 : fld (f_4934 a_0) 20 = (v_4963 : Int32).toInt := by rw [e_4946]; rfl
                  have hf_4984 := hF_4979.at hf_4945 rfl
                  obtain ⟨v_4986, v_4987, v_4989, v_4991, v_4993, v_4995, v_4997, v_4998, v_4999, v_5000, v_5002, e_4985, b_4988, b_4990, b_4992, b_4994, b_4996, b_5001, b_5003⟩ := hW_4978.at m_1 t_2
                  have fe_5004 : fld (f_4972 a_0) 8 = (v_4991 : Int32).toInt := by rw [e_4985]; rfl
                  have fe_5005 : fld (f_4972 a_0) 9 = (v_4993 : Int32).toInt := by rw [e_4985]; rfl
                  have fe_5006 : fld (f_4972 a_0) 10 = (v_4995 : Int32).toInt := by rw [e_4985]; rfl
                  have fe_5007 : fld (f_4972 a_0) 12 = (v_4998 : Int32).toInt := by rw [e_4985]; rfl
                  have fe_5008 : fld (f_4972 a_0) 20 = (v_5002 : Int32).toInt := by rw [e_4985]; rfl
                  rw [fe_5007, fe_4982] at x_4974
                  rw [fe_5007, fe_4981, fe_4980, fe_5005, fe_5004] at x_4975
                  rw [fe_5007, fe_5006, fe_5005, fe_5004] at x_4976
                  rw [fe_5008, fe_4983] at x_4977
                  clear fe_4980 fe_4981 fe_4982 fe_4983 fe_5004 fe_5005 fe_5006 fe_5007 fe_5008
                  have fe_5009 : fld (f_4972 a_0) 12 = (v_4998 : Int32).toInt := by rw [e_4985]; rfl
                  have fe_5010 : fld (f_4972 a_0) 8 = (v_4991 : Int32).toInt := by rw [e_4985]; rfl
                  have fe_5011 : fld (f_4972 a_0) 12 = (v_4998 : Int32).toInt := by rw [e_4985]; rfl
                  have fe_5012 : fld (f_4972 a_0) 20 = (v_5002 : Int32).toInt := by rw [e_4985]; rfl
                  exact hR _ _ _ _ _ _ dX12_readRow_193 (Nat.le_of_ble_eq_true rfl) (Nat.le_of_ble_eq_true rfl) ⟨rfl, hW_4978, (((((((hF_2599.tr hF_4626).tr hF_4869).tr fr_4917).tr fr_4930).tr hF_4941).tr hF_4979).mono rfl), ⟨_, hf_4984, rf_4931.1, rf_4931.2.1, rf_4931.2.2.1, rf_4931.2.2.2.1, (by rw [fe_5009]; first | (left; omega) | (right; omega) | omega)⟩, (by simp only [fe_5010, fe_5011, mz_43, mz_44, true_and, and_true, or_true, true_or, false_or, or_false, false_and, and_false, not_true_eq_false, not_false_eq_true] <;> first | omega | (simp only [Int32.lt_iff_toInt_lt, Int32.le_iff_toInt_le, Int32.reduceToInt, ← Int32.toInt_inj, true_and, and_true, or_true, true_or, false_or, or_false, false_and, and_false, not_true_eq_false, not_false_eq_true] <;> omega)), (by simp only [fe_5012, mz_45, true_and, and_true, or_true, true_or, false_or, or_false, false_and, and_false, not_true_eq_false, not_false_eq_true] <;> first | omega | (simp only [Int32.lt_iff_toInt_lt, Int32.le_iff_toInt_le, Int32.reduceToInt, ← Int32.toInt_inj, true_and, and_true, or_true, true_or, false_or, or_false, false_and, and_false, not_true_eq_false, not_false_eq_true] <;> omega))⟩
                · simp only [Int32.lt_iff_toInt_lt, Int32.le_iff_toInt_le, Int32.reduceToInt, ← Int32.toInt_inj] at h_4908
                  have fe_5013 : fld (f_4861 a_0) 12 = (v_4888 : Int32).toInt := by rw [e_4875]; rfl
                  have fe_5014 : fld (f_4861 a_0) 8 = (v_4881 : Int32).toInt := by rw [e_4875]; rfl
                  have fe_5015 : fld (f_4861 a_0) 12 = (v_4888 : Int32).toInt := by rw [e_4875]; rfl
                  have fe_5016 : fld (f_4861 a_0) 20 = (v_4892 : Int32).toInt := by rw [e_4875]; rfl
                  exact hR _ _ _ _ _ _ dX12_readRow_167 (Nat.le_of_ble_eq_true rfl) (Nat.le_of_ble_eq_true rfl) ⟨rfl, hW_4868, (((hF_2599.tr hF_4626).tr hF_4869).mono rfl), ⟨_, hf_4874, rr_4639.1, rr_4639.2.1, rr_4639.2.2.1, rr_4639.2.2.2.1, (by rw [fe_5013]; first | (left; omega) | (right; omega) | omega)⟩, (by simp only [fe_5014, fe_5015, mz_43, mz_44, true_and, and_true, or_true, true_or, false_or, or_false, false_and, and_false, not_true_eq_false, not_false_eq_true] <;> first | omega | (simp only [Int32.lt_iff_toInt_lt, Int32.le_iff_toInt_le, Int32.reduceToInt, ← Int32.toInt_inj, true_and, and_true, or_true, true_or, false_or, or_false, false_and, and_false, not_true_eq_false, not_false_eq_true] <;> omega)), (by simp only [fe_5016, mz_45, true_and, and_true, or_true, true_or, false_or, or_false, false_and, and_false, not_true_eq_false, not_false_eq_true] <;> first | omega | (simp only [Int32.lt_iff_toInt_lt, Int32.le_iff_toInt_le, Int32.reduceToInt, ← Int32.toInt_inj, true_and, and_true, or_true, true_or, false_or, or_false, false_and, and_false, not_true_eq_false, not_false_eq_true] <;> omega))⟩
            refine v_icmp_ge hC dX12_readRow_80 (tgt := 151) (by decide) (fun h_4640 => ?_) (fun h_4640 => ?_)
            · simp only [Int32.lt_iff_toInt_lt, Int32.le_iff_toInt_le, Int32.reduceToInt, ← Int32.toInt_inj] at h_4640
              refine v_pick [1, 2, 3, 4] rfl ?_
              exact jn_4739 
            · simp only [Int32.lt_iff_toInt_lt, Int32.le_iff_toInt_le, Int32.reduceToInt, ← Int32.toInt_inj] at h_4640
              refine v_iload_n hC dX12_readRow_83 rfl ?_
              refine v_if_eq hC dX12_readRow_84 (tgt := 151) (by decide) (fun h_5017 => ?_) (fun h_5017 => ?_)
              · simp only [Int32.lt_iff_toInt_lt, Int32.le_iff_toInt_le, Int32.reduceToInt, ← Int32.toInt_inj] at h_5017
                refine v_pick [1, 2, 3, 4] rfl ?_
                exact jn_4739 
              · simp only [Int32.lt_iff_toInt_lt, Int32.le_iff_toInt_le, Int32.reduceToInt, ← Int32.toInt_inj] at h_5017
                refine v_aload_n hC dX12_readRow_87 rfl ?_
                refine v_vi hC (rest := []) m_1 hf_4627 rfl mi_X12_good ms_X12_good (p_X12_good hW_4625 k_0) mx_X12_good ml_X12_139 (by decide) rfl (cells1 := 0) (slots1 := 0) (by decide) (by decide) (Nat.le_of_ble_eq_true rfl) (Nat.le_of_ble_eq_true rfl) rfl (Nat.le_of_ble_eq_true rfl) dX12_readRow_88 (fun r_5018 L_5019 f_5020 h_5021 => ?_)
                obtain ⟨rfl, rfl, b_5022, x_5023⟩ := h_5021
                have fe_5026 : fld (f_4624 a_0) 12 = (v_2620 : Int32).toInt := by rw [hf_4627]; rfl
                rw [fe_5026] at x_5023
                clear fe_5026
                try simp only [Int32.reduceToInt, Int64.reduceToInt] at x_5023
                refine v_if_eq hC dX12_readRow_91 (tgt := 151) (by decide) (fun h_5027 => ?_) (fun h_5027 => ?_)
                · simp only [Int32.lt_iff_toInt_lt, Int32.le_iff_toInt_le, Int32.reduceToInt, ← Int32.toInt_inj] at h_5027
                  refine v_pick [1, 2, 3, 4] rfl ?_
                  exact jn_4739 
                · simp only [Int32.lt_iff_toInt_lt, Int32.le_iff_toInt_le, Int32.reduceToInt, ← Int32.toInt_inj] at h_5027
                  refine v_aload_n hC dX12_readRow_94 rfl ?_
                  refine v_get hC fl_X12_24 m_1 hf_4627 rfl dX12_readRow_95 ?_
                  refine v_aload_n hC dX12_readRow_98 rfl ?_
                  refine v_get hC fl_X12_117 m_1 hf_4627 rfl dX12_readRow_99 ?_
                  refine v_iload hC dX12_readRow_102 rfl ?_
                  obtain ⟨v_5028, h_5029⟩ : ∃ v9 : Int32, v_2615 + i_4622 = v9 := ⟨_, rfl⟩
                  refine v_iadd hC dX12_readRow_104 h_5029 ?_
                  have h_5030 := add_v h_5029 (by first | omega | (simp only [Int32.lt_iff_toInt_lt, Int32.le_iff_toInt_le, Int32.reduceToInt, ← Int32.toInt_inj, true_and, and_true, or_true, true_or, false_or, or_false, false_and, and_false, not_true_eq_false, not_false_eq_true] <;> omega)) (by first | omega | (simp only [Int32.lt_iff_toInt_lt, Int32.le_iff_toInt_le, Int32.reduceToInt, ← Int32.toInt_inj, true_and, and_true, or_true, true_or, false_or, or_false, false_and, and_false, not_true_eq_false, not_false_eq_true] <;> omega))
                  obtain ⟨m_5031, t_5032⟩ := id k_6
                  obtain ⟨g_5034, e_5033, fit_5035⟩ := hW_4625.at m_5031 t_5032
                  obtain ⟨v_5036, h_5037⟩ : ∃ v9 : Int32, g_5034 (v_5028 : Int32).toNatClampNeg = v9 := ⟨_, rfl⟩
                  refine v_bald hC m_5031 e_5033 (vp_in_iff.mpr (by first | omega | (simp only [Int32.lt_iff_toInt_lt, Int32.le_iff_toInt_le, Int32.reduceToInt, ← Int32.toInt_inj, true_and, and_true, or_true, true_or, false_or, or_false, false_and, and_false, not_true_eq_false, not_false_eq_true] <;> omega))) h_5037 dX12_readRow_105 ?_
                  refine v_si hC (rest := []) mt_X12_signOf (p_X12_signOf hW_4625) mx_X12_signOf ml_X12_175 (by decide) rfl (cells1 := 0) (slots1 := 0) (by decide) (by decide) (Nat.le_of_ble_eq_true rfl) (Nat.le_of_ble_eq_true rfl) rfl (Nat.le_of_ble_eq_true rfl) dX12_readRow_106 (fun r_5038 L_5039 f_5040 h_5041 => ?_)
                  obtain ⟨rfl, rfl, b_5042, h_5043⟩ := h_5041
                  refine v_iconst hC dX12_readRow_109 (v := (-1)) (by decide) ?_
                  refine v_icmp_eq hC dX12_readRow_110 (tgt := 117) (by decide) (fun h_5046 => ?_) (fun h_5046 => ?_)
                  · simp only [Int32.lt_iff_toInt_lt, Int32.le_iff_toInt_le, Int32.reduceToInt, ← Int32.toInt_inj] at h_5046
                    refine v_iconst hC dX12_readRow_117 (v := 0) (by decide) ?_
                    refine v_istore_n hC dX12_readRow_118 (by decide) (lv' := [(2, .int 0), (4, .int i_4622), (3, .int v_2644), (1, .int v_2631), (0, .ref a_0)]) rfl ?_
                    refine v_aload_n hC dX12_readRow_119 rfl ?_
                    refine v_get hC fl_X12_34 m_1 hf_4627 rfl dX12_readRow_120 ?_
                    refine v_iload_n hC dX12_readRow_123 rfl ?_
                    refine v_iconst hC dX12_readRow_124 (v := 1) (by decide) ?_
                    obtain ⟨v_5047, h_5048⟩ : ∃ v9 : Int32, v_2644 + 1 = v9 := ⟨_, rfl⟩
                    refine v_iadd hC dX12_readRow_125 h_5048 ?_
                    have h_5049 := add_v h_5048 (by first | omega | (simp only [Int32.lt_iff_toInt_lt, Int32.le_iff_toInt_le, Int32.reduceToInt, ← Int32.toInt_inj, true_and, and_true, or_true, true_or, false_or, or_false, false_and, and_false, not_true_eq_false, not_false_eq_true] <;> omega)) (by first | omega | (simp only [Int32.lt_iff_toInt_lt, Int32.le_iff_toInt_le, Int32.reduceToInt, ← Int32.toInt_inj, true_and, and_true, or_true, true_or, false_or, or_false, false_and, and_false, not_true_eq_false, not_false_eq_true] <;> omega))
                    try simp only [Int32.reduceToInt] at h_5049
                    refine v_iload hC dX12_readRow_126 rfl ?_
                    obtain ⟨v_5050, h_5051⟩ : ∃ v9 : Int32, v_5047 + i_4622 = v9 := ⟨_, rfl⟩
                    refine v_iadd hC dX12_readRow_128 h_5051 ?_
                    have h_5052 := add_v h_5051 (by first | omega | (simp only [Int32.lt_iff_toInt_lt, Int32.le_iff_toInt_le, Int32.reduceToInt, ← Int32.toInt_inj, true_and, and_true, or_true, true_or, false_or, or_false, false_and, and_false, not_true_eq_false, not_false_eq_true] <;> omega)) (by first | omega | (simp only [Int32.lt_iff_toInt_lt, Int32.le_iff_toInt_le, Int32.reduceToInt, ← Int32.toInt_inj, true_and, and_true, or_true, true_or, false_or, or_false, false_and, and_false, not_true_eq_false, not_false_eq_true] <;> omega))
                    refine v_aload_n hC dX12_readRow_129 rfl ?_
                    refine v_get hC fl_X12_24 m_1 hf_4627 rfl dX12_readRow_130 ?_
                    refine v_aload_n hC dX12_readRow_133 rfl ?_
                    refine v_get hC fl_X12_117 m_1 hf_4627 rfl dX12_readRow_134 ?_
                    refine v_iload hC dX12_readRow_137 rfl ?_
                    obtain ⟨v_5053, h_5054⟩ : ∃ v9 : Int32, v_2615 + i_4622 = v9 := ⟨_, rfl⟩
                    refine v_iadd hC dX12_readRow_139 h_5054 ?_
                    have h_5055 := add_v h_5054 (by first | omega | (simp only [Int32.lt_iff_toInt_lt, Int32.le_iff_toInt_le, Int32.reduceToInt, ← Int32.toInt_inj, true_and, and_true, or_true, true_or, false_or, or_false, false_and, and_false, not_true_eq_false, not_false_eq_true] <;> omega)) (by first | omega | (simp only [Int32.lt_iff_toInt_lt, Int32.le_iff_toInt_le, Int32.reduceToInt, ← Int32.toInt_inj, true_and, and_true, or_true, true_or, false_or, or_false, false_and, and_false, not_true_eq_false, not_false_eq_true] <;> omega))
                    obtain ⟨v_5056, h_5057⟩ : ∃ v9 : Int32, g_5034 (v_5053 : Int32).toNatClampNeg = v9 := ⟨_, rfl⟩
                    refine v_bald hC m_5031 e_5033 (vp_in_iff.mpr (by first | omega | (simp only [Int32.lt_iff_toInt_lt, Int32.le_iff_toInt_le, Int32.reduceToInt, ← Int32.toInt_inj, true_and, and_true, or_true, true_or, false_or, or_false, false_and, and_false, not_true_eq_false, not_false_eq_true] <;> omega))) h_5057 dX12_readRow_140 ?_
                    refine v_si hC (rest := [.int v_5050, .ref (q 14)]) mt_X12_signOf (p_X12_signOf hW_4625) mx_X12_signOf ml_X12_175 (by decide) rfl (cells1 := 0) (slots1 := 0) (by decide) (by decide) (Nat.le_of_ble_eq_true rfl) (Nat.le_of_ble_eq_true rfl) rfl (Nat.le_of_ble_eq_true rfl) dX12_readRow_141 (fun r_5058 L_5059 f_5060 h_5061 => ?_)
                    obtain ⟨rfl, rfl, b_5062, h_5063⟩ := h_5061
                    refine v_iast hC m_22 e_4638 (vp_in_iff.mpr (by first | omega | (simp only [Int32.lt_iff_toInt_lt, Int32.le_iff_toInt_le, Int32.reduceToInt, ← Int32.toInt_inj, true_and, and_true, or_true, true_or, false_or, or_false, false_and, and_false, not_true_eq_false, not_false_eq_true] <;> omega))) dX12_readRow_144 (fun f_5066 hf_5067 hk_5068 => ?_)
                    have hW_5070 := hW_4625.up hf_5067 hk_5068 t_23 ⟨_, rfl, (rr_4639.st (j := i_4622.toInt) (by omega) (by omega) (by omega) (by omega)).1⟩
                    obtain ⟨g_5069, hf_5067, ok_5071, eg_5072⟩ : ∃ g9, f_5066 (q 14) = aI E 2076 g9 ∧ FOK g9 ∧ g9 = upd g_4637 (v_5050 : Int32).toNatClampNeg r_5058 := ⟨_, hf_5067, (rr_4639.st (j := i_4622.toInt) (by omega) (by omega) (by omega) (by omega)).1, rfl⟩
                    have hf_5073 := (hk_5068 a_0 (ne_kd hf_4627 e_4638 rfl)).trans hf_4627
                    have hf_5074 := (hk_5068 (q 4) (ne_kd e_5033 e_4638 rfl)).trans e_5033
                    have fr_5075 := FR.w hk_5068 e_4638 (k := 2176) rfl
                    have rr_5076 : RR g_f g_5069 := by rw [eg_5072]; exact rr_4639.st (j := i_4622.toInt) (by omega) (by omega) (by omega) (by omega)
                    obtain ⟨v_5077, h_5078⟩ : ∃ v9 : Int32, i_4622 + Int32.ofInt 1 = v9 := ⟨_, rfl⟩
                    have h_5079 := add_v (b := 1) h_5078 (by first | omega | (simp only [Int32.lt_iff_toInt_lt, Int32.le_iff_toInt_le, Int32.reduceToInt, ← Int32.toInt_inj, true_and, and_true, or_true, true_or, false_or, or_false, false_and, and_false, not_true_eq_false, not_false_eq_true] <;> omega)) (by first | omega | (simp only [Int32.lt_iff_toInt_lt, Int32.le_iff_toInt_le, Int32.reduceToInt, ← Int32.toInt_inj, true_and, and_true, or_true, true_or, false_or, or_false, false_and, and_false, not_true_eq_false, not_false_eq_true] <;> omega))
                    simp only [Int32.reduceToInt] at h_5079
                    refine v_iinc hC dX12_readRow_145 (k := 1) rfl (v := v_5077) h_5078 (by decide) (lv' := [(4, .int v_5077), (2, .int 0), (3, .int v_2644), (1, .int v_2631), (0, .ref a_0)]) rfl ?_
                    refine v_goto hC dX12_readRow_148 (tgt := 77) (by decide) ?_
                    refine v_pick [0, 2, 1, 3, 4] rfl ?_
                    have fe_5080 : fld (f_5066 a_0) 10 = (v_2617 : Int32).toInt := by rw [hf_5073]; rfl
                    exact ih_4634 f_5066 hW_5070 ((hF_4626.tr fr_5075).mono rfl) v_5077 (by first | omega | (simp only [Int32.lt_iff_toInt_lt, Int32.le_iff_toInt_le, Int32.reduceToInt, ← Int32.toInt_inj, true_and, and_true, or_true, true_or, false_or, or_false, false_and, and_false, not_true_eq_false, not_false_eq_true] <;> omega)) 0 (by decide) (by rw [fe_5080] <;> first | omega | (simp only [Int32.lt_iff_toInt_lt, Int32.le_iff_toInt_le, Int32.reduceToInt, ← Int32.toInt_inj, true_and, and_true, or_true, true_or, false_or, or_false, false_and, and_false, not_true_eq_false, not_false_eq_true] <;> omega)) ⟨_, hf_5067, rr_5076⟩ (by first | omega | (simp only [Int32.lt_iff_toInt_lt, Int32.le_iff_toInt_le, Int32.reduceToInt, ← Int32.toInt_inj, true_and, and_true, or_true, true_or, false_or, or_false, false_and, and_false, not_true_eq_false, not_false_eq_true] <;> omega))
                  · simp only [Int32.lt_iff_toInt_lt, Int32.le_iff_toInt_le, Int32.reduceToInt, ← Int32.toInt_inj] at h_5046
                    refine v_iconst hC dX12_readRow_113 (v := 1) (by decide) ?_
                    refine v_goto hC dX12_readRow_114 (tgt := 118) (by decide) ?_
                    refine v_istore_n hC dX12_readRow_118 (by decide) (lv' := [(2, .int 1), (4, .int i_4622), (3, .int v_2644), (1, .int v_2631), (0, .ref a_0)]) rfl ?_
                    refine v_aload_n hC dX12_readRow_119 rfl ?_
                    refine v_get hC fl_X12_34 m_1 hf_4627 rfl dX12_readRow_120 ?_
                    refine v_iload_n hC dX12_readRow_123 rfl ?_
                    refine v_iconst hC dX12_readRow_124 (v := 1) (by decide) ?_
                    obtain ⟨v_5081, h_5082⟩ : ∃ v9 : Int32, v_2644 + 1 = v9 := ⟨_, rfl⟩
                    refine v_iadd hC dX12_readRow_125 h_5082 ?_
                    have h_5083 := add_v h_5082 (by first | omega | (simp only [Int32.lt_iff_toInt_lt, Int32.le_iff_toInt_le, Int32.reduceToInt, ← Int32.toInt_inj, true_and, and_true, or_true, true_or, false_or, or_false, false_and, and_false, not_true_eq_false, not_false_eq_true] <;> omega)) (by first | omega | (simp only [Int32.lt_iff_toInt_lt, Int32.le_iff_toInt_le, Int32.reduceToInt, ← Int32.toInt_inj, true_and, and_true, or_true, true_or, false_or, or_false, false_and, and_false, not_true_eq_false, not_false_eq_true] <;> omega))
                    try simp only [Int32.reduceToInt] at h_5083
                    refine v_iload hC dX12_readRow_126 rfl ?_
                    obtain ⟨v_5084, h_5085⟩ : ∃ v9 : Int32, v_5081 + i_4622 = v9 := ⟨_, rfl⟩
                    refine v_iadd hC dX12_readRow_128 h_5085 ?_
                    have h_5086 := add_v h_5085 (by first | omega | (simp only [Int32.lt_iff_toInt_lt, Int32.le_iff_toInt_le, Int32.reduceToInt, ← Int32.toInt_inj, true_and, and_true, or_true, true_or, false_or, or_false, false_and, and_false, not_true_eq_false, not_false_eq_true] <;> omega)) (by first | omega | (simp only [Int32.lt_iff_toInt_lt, Int32.le_iff_toInt_le, Int32.reduceToInt, ← Int32.toInt_inj, true_and, and_true, or_true, true_or, false_or, or_false, false_and, and_false, not_true_eq_false, not_false_eq_true] <;> omega))
                    refine v_aload_n hC dX12_readRow_129 rfl ?_
                    refine v_get hC fl_X12_24 m_1 hf_4627 rfl dX12_readRow_130 ?_
                    refine v_aload_n hC dX12_readRow_133 rfl ?_
                    refine v_get hC fl_X12_117 m_1 hf_4627 rfl dX12_readRow_134 ?_
                    refine v_iload hC dX12_readRow_137 rfl ?_
                    obtain ⟨v_5087, h_5088⟩ : ∃ v9 : Int32, v_2615 + i_4622 = v9 := ⟨_, rfl⟩
                    refine v_iadd hC dX12_readRow_139 h_5088 ?_
                    have h_5089 := add_v h_5088 (by first | omega | (simp only [Int32.lt_iff_toInt_lt, Int32.le_iff_toInt_le, Int32.reduceToInt, ← Int32.toInt_inj, true_and, and_true, or_true, true_or, false_or, or_false, false_and, and_false, not_true_eq_false, not_false_eq_true] <;> omega)) (by first | omega | (simp only [Int32.lt_iff_toInt_lt, Int32.le_iff_toInt_le, Int32.reduceToInt, ← Int32.toInt_inj, true_and, and_true, or_true, true_or, false_or, or_false, false_and, and_false, not_true_eq_false, not_false_eq_true] <;> omega))
                    obtain ⟨v_5090, h_5091⟩ : ∃ v9 : Int32, g_5034 (v_5087 : Int32).toNatClampNeg = v9 := ⟨_, rfl⟩
                    refine v_bald hC m_5031 e_5033 (vp_in_iff.mpr (by first | omega | (simp only [Int32.lt_iff_toInt_lt, Int32.le_iff_toInt_le, Int32.reduceToInt, ← Int32.toInt_inj, true_and, and_true, or_true, true_or, false_or, or_false, false_and, and_false, not_true_eq_false, not_false_eq_true] <;> omega))) h_5091 dX12_readRow_140 ?_
                    refine v_si hC (rest := [.int v_5084, .ref (q 14)]) mt_X12_signOf (p_X12_signOf hW_4625) mx_X12_signOf ml_X12_175 (by decide) rfl (cells1 := 0) (slots1 := 0) (by decide) (by decide) (Nat.le_of_ble_eq_true rfl) (Nat.le_of_ble_eq_true rfl) rfl (Nat.le_of_ble_eq_true rfl) dX12_readRow_141 (fun r_5092 L_5093 f_5094 h_5095 => ?_)
                    obtain ⟨rfl, rfl, b_5096, h_5097⟩ := h_5095
                    refine v_iast hC m_22 e_4638 (vp_in_iff.mpr (by first | omega | (simp only [Int32.lt_iff_toInt_lt, Int32.le_iff_toInt_le, Int32.reduceToInt, ← Int32.toInt_inj, true_and, and_true, or_true, true_or, false_or, or_false, false_and, and_false, not_true_eq_false, not_false_eq_true] <;> omega))) dX12_readRow_144 (fun f_5100 hf_5101 hk_5102 => ?_)
                    have hW_5104 := hW_4625.up hf_5101 hk_5102 t_23 ⟨_, rfl, (rr_4639.st (j := i_4622.toInt) (by omega) (by omega) (by omega) (by omega)).1⟩
                    obtain ⟨g_5103, hf_5101, ok_5105, eg_5106⟩ : ∃ g9, f_5100 (q 14) = aI E 2076 g9 ∧ FOK g9 ∧ g9 = upd g_4637 (v_5084 : Int32).toNatClampNeg r_5092 := ⟨_, hf_5101, (rr_4639.st (j := i_4622.toInt) (by omega) (by omega) (by omega) (by omega)).1, rfl⟩
                    have hf_5107 := (hk_5102 a_0 (ne_kd hf_4627 e_4638 rfl)).trans hf_4627
                    have hf_5108 := (hk_5102 (q 4) (ne_kd e_5033 e_4638 rfl)).trans e_5033
                    have fr_5109 := FR.w hk_5102 e_4638 (k := 2176) rfl
                    have rr_5110 : RR g_f g_5103 := by rw [eg_5106]; exact rr_4639.st (j := i_4622.toInt) (by omega) (by omega) (by omega) (by omega)
                    obtain ⟨v_5111, h_5112⟩ : ∃ v9 : Int32, i_4622 + Int32.ofInt 1 = v9 := ⟨_, rfl⟩
                    have h_5113 := add_v (b := 1) h_5112 (by first | omega | (simp only [Int32.lt_iff_toInt_lt, Int32.le_iff_toInt_le, Int32.reduceToInt, ← Int32.toInt_inj, true_and, and_true, or_true, true_or, false_or, or_false, false_and, and_false, not_true_eq_false, not_false_eq_true] <;> omega)) (by first | omega | (simp only [Int32.lt_iff_toInt_lt, Int32.le_iff_toInt_le, Int32.reduceToInt, ← Int32.toInt_inj, true_and, and_true, or_true, true_or, false_or, or_false, false_and, and_false, not_true_eq_false, not_false_eq_true] <;> omega))
                    simp only [Int32.reduceToInt] at h_5113
                    refine v_iinc hC dX12_readRow_145 (k := 1) rfl (v := v_5111) h_5112 (by decide) (lv' := [(4, .int v_5111), (2, .int 1), (3, .int v_2644), (1, .int v_2631), (0, .ref a_0)]) rfl ?_
                    refine v_goto hC dX12_readRow_148 (tgt := 77) (by decide) ?_
                    refine v_pick [0, 2, 1, 3, 4] rfl ?_
                    have fe_5114 : fld (f_5100 a_0) 10 = (v_2617 : Int32).toInt := by rw [hf_5107]; rfl
                    exact ih_4634 f_5100 hW_5104 ((hF_4626.tr fr_5109).mono rfl) v_5111 (by first | omega | (simp only [Int32.lt_iff_toInt_lt, Int32.le_iff_toInt_le, Int32.reduceToInt, ← Int32.toInt_inj, true_and, and_true, or_true, true_or, false_or, or_false, false_and, and_false, not_true_eq_false, not_false_eq_true] <;> omega)) 1 (by decide) (by rw [fe_5114] <;> first | omega | (simp only [Int32.lt_iff_toInt_lt, Int32.le_iff_toInt_le, Int32.reduceToInt, ← Int32.toInt_inj, true_and, and_true, or_true, true_or, false_or, or_false, false_and, and_false, not_true_eq_false, not_false_eq_true] <;> omega)) ⟨_, hf_5101, rr_5110⟩ (by first | omega | (simp only [Int32.lt_iff_toInt_lt, Int32.le_iff_toInt_le, Int32.reduceToInt, ← Int32.toInt_inj, true_and, and_true, or_true, true_or, false_or, or_false, false_and, and_false, not_true_eq_false, not_false_eq_true] <;> omega))
        refine v_pick [0, 1, 2, 3, 4] rfl ?_
        have fe_5115 : fld (f_2592 a_0) 10 = (v_2617 : Int32).toInt := by rw [e_2607]; rfl
        exact lp_4632 602 f_2592 hW_2598 FR.rf 0 (by decide) v_2637 (by first | omega | (simp only [Int32.lt_iff_toInt_lt, Int32.le_iff_toInt_le, Int32.reduceToInt, ← Int32.toInt_inj, true_and, and_true, or_true, true_or, false_or, or_false, false_and, and_false, not_true_eq_false, not_false_eq_true] <;> omega)) (by rw [fe_5115] <;> first | omega | (simp only [Int32.lt_iff_toInt_lt, Int32.le_iff_toInt_le, Int32.reduceToInt, ← Int32.toInt_inj, true_and, and_true, or_true, true_or, false_or, or_false, false_and, and_false, not_true_eq_false, not_false_eq_true] <;> omega)) ⟨_, hf_2606, (RR.rf o_f hPR)⟩ (by decide)
      refine v_icmp_ne hC dX12_readRow_46 (tgt := 59) (by decide) (fun h_2634 => ?_) (fun h_2634 => ?_)
      · simp only [Int32.lt_iff_toInt_lt, Int32.le_iff_toInt_le, Int32.reduceToInt, ← Int32.toInt_inj] at h_2634
        refine v_iconst hC dX12_readRow_59 (v := 0) (by decide) ?_
        refine v_pick [0, 1] rfl ?_
        have fe_5116 : fld (f_2592 a_0) 10 = (v_2617 : Int32).toInt := by rw [e_2607]; rfl
        exact jn_2636 0 (by decide) (by rw [fe_5116] <;> first | omega | (simp only [Int32.lt_iff_toInt_lt, Int32.le_iff_toInt_le, Int32.reduceToInt, ← Int32.toInt_inj, true_and, and_true, or_true, true_or, false_or, or_false, false_and, and_false, not_true_eq_false, not_false_eq_true] <;> omega))
      · simp only [Int32.lt_iff_toInt_lt, Int32.le_iff_toInt_le, Int32.reduceToInt, ← Int32.toInt_inj] at h_2634
        refine v_iload_n hC dX12_readRow_49 rfl ?_
        refine v_bipush hC dX12_readRow_50 (v := 12) (by decide) ?_
        refine v_icmp_gt hC dX12_readRow_52 (tgt := 59) (by decide) (fun h_5117 => ?_) (fun h_5117 => ?_)
        · simp only [Int32.lt_iff_toInt_lt, Int32.le_iff_toInt_le, Int32.reduceToInt, ← Int32.toInt_inj] at h_5117
          refine v_iconst hC dX12_readRow_59 (v := 0) (by decide) ?_
          refine v_pick [0, 1] rfl ?_
          have fe_5118 : fld (f_2592 a_0) 10 = (v_2617 : Int32).toInt := by rw [e_2607]; rfl
          exact jn_2636 0 (by decide) (by rw [fe_5118] <;> first | omega | (simp only [Int32.lt_iff_toInt_lt, Int32.le_iff_toInt_le, Int32.reduceToInt, ← Int32.toInt_inj, true_and, and_true, or_true, true_or, false_or, or_false, false_and, and_false, not_true_eq_false, not_false_eq_true] <;> omega))
        · simp only [Int32.lt_iff_toInt_lt, Int32.le_iff_toInt_le, Int32.reduceToInt, ← Int32.toInt_inj] at h_5117
          refine v_iconst hC dX12_readRow_55 (v := 1) (by decide) ?_
          refine v_goto hC dX12_readRow_56 (tgt := 60) (by decide) ?_
          refine v_pick [0, 1] rfl ?_
          have fe_5119 : fld (f_2592 a_0) 10 = (v_2617 : Int32).toInt := by rw [e_2607]; rfl
          exact jn_2636 1 (by decide) (by rw [fe_5119] <;> first | omega | (simp only [Int32.lt_iff_toInt_lt, Int32.le_iff_toInt_le, Int32.reduceToInt, ← Int32.toInt_inj, true_and, and_true, or_true, true_or, false_or, or_false, false_and, and_false, not_true_eq_false, not_false_eq_true] <;> omega))
    · simp only [Int32.lt_iff_toInt_lt, Int32.le_iff_toInt_le, Int32.reduceToInt, ← Int32.toInt_inj] at h_2589
      refine v_aload_n hC dX12_readRow_20 rfl ?_
      refine v_iconst hC dX12_readRow_21 (v := 3) (by decide) ?_
      refine v_vv hC (rest := []) m_1 e_24 rfl mi_X12_errs ms_X12_errs (p_X12_errs hW k_0 (by decide)) mx_X12_errs ml_X12_162 (by decide) rfl (cells1 := 0) (slots1 := 0) (by decide) (by decide) (Nat.le_of_ble_eq_true rfl) (Nat.le_of_ble_eq_true rfl) rfl (Nat.le_of_ble_eq_true rfl) dX12_readRow_22 (fun L_5121 f_5122 h_5123 => ?_)
      obtain ⟨rfl, hW_5129, hF_5130, x_5124, x_5125, x_5126, x_5127, x_5128⟩ := h_5123
      have fe_5131 : fld (f a_0) 8 = (v_30 : Int32).toInt := by rw [e_24]; rfl
      have fe_5132 : fld (f a_0) 9 = (v_32 : Int32).toInt := by rw [e_24]; rfl
      have fe_5133 : fld (f a_0) 10 = (v_34 : Int32).toInt := by rw [e_24]; rfl
      have fe_5134 : fld (f a_0) 20 = (v_41 : Int32).toInt := by rw [e_24]; rfl
      have hf_5135 := hF_5130.at e_f rfl
      obtain ⟨v_5137, v_5138, v_5140, v_5142, v_5144, v_5146, v_5148, v_5149, v_5150, v_5151, v_5153, e_5136, b_5139, b_5141, b_5143, b_5145, b_5147, b_5152, b_5154⟩ := hW_5129.at m_1 t_2
      have fe_5155 : fld (f_5122 a_0) 8 = (v_5142 : Int32).toInt := by rw [e_5136]; rfl
      have fe_5156 : fld (f_5122 a_0) 9 = (v_5144 : Int32).toInt := by rw [e_5136]; rfl
      have fe_5157 : fld (f_5122 a_0) 10 = (v_5146 : Int32).toInt := by rw [e_5136]; rfl
      have fe_5158 : fld (f_5122 a_0) 12 = (v_5149 : Int32).toInt := by rw [e_5136]; rfl
      have fe_5159 : fld (f_5122 a_0) 20 = (v_5153 : Int32).toInt := by rw [e_5136]; rfl
      rw [fe_5158] at x_5124
      rw [fe_5155, fe_5131] at x_5125
      rw [fe_5156, fe_5132] at x_5126
      rw [fe_5157, fe_5133] at x_5127
      rw [fe_5159, fe_5134] at x_5128
      clear fe_5131 fe_5132 fe_5133 fe_5134 fe_5155 fe_5156 fe_5157 fe_5158 fe_5159
      refine v_aload_n hC dX12_readRow_25 rfl ?_
      refine v_ldcS hC sr_X12_173 dX12_readRow_26 ?_
      refine v_vv hC (rest := []) m_1 e_5136 rfl mi_X12_needs ms_X12_needs (p_X12_needs hW_5129 k_0 (by decide)) mx_X12_needs ml_X12_166 (by decide) rfl (cells1 := 0) (slots1 := 0) (by decide) (by decide) (Nat.le_of_ble_eq_true rfl) (Nat.le_of_ble_eq_true rfl) rfl (Nat.le_of_ble_eq_true rfl) dX12_readRow_28 (fun L_5161 f_5162 h_5163 => ?_)
      obtain ⟨rfl, hW_5168, hF_5169, x_5164, x_5165, x_5166, x_5167, -⟩ := h_5163
      have fe_5170 : fld (f_5122 a_0) 8 = (v_5142 : Int32).toInt := by rw [e_5136]; rfl
      have fe_5171 : fld (f_5122 a_0) 9 = (v_5144 : Int32).toInt := by rw [e_5136]; rfl
      have fe_5172 : fld (f_5122 a_0) 10 = (v_5146 : Int32).toInt := by rw [e_5136]; rfl
      have fe_5173 : fld (f_5122 a_0) 12 = (v_5149 : Int32).toInt := by rw [e_5136]; rfl
      have fe_5174 : fld (f_5122 a_0) 20 = (v_5153 : Int32).toInt := by rw [e_5136]; rfl
      have ib_5175 := iw_b (f_5122 a_0) (f_5122 (q 4)) 42
      rw [fe_5173, fe_5172, fe_5170, fe_5171] at ib_5175
      have hf_5176 := hF_5169.at hf_5135 rfl
      obtain ⟨v_5178, v_5179, v_5181, v_5183, v_5185, v_5187, v_5189, v_5190, v_5191, v_5192, v_5194, e_5177, b_5180, b_5182, b_5184, b_5186, b_5188, b_5193, b_5195⟩ := hW_5168.at m_1 t_2
      have fe_5196 : fld (f_5162 a_0) 8 = (v_5183 : Int32).toInt := by rw [e_5177]; rfl
      have fe_5197 : fld (f_5162 a_0) 9 = (v_5185 : Int32).toInt := by rw [e_5177]; rfl
      have fe_5198 : fld (f_5162 a_0) 10 = (v_5187 : Int32).toInt := by rw [e_5177]; rfl
      have fe_5199 : fld (f_5162 a_0) 12 = (v_5190 : Int32).toInt := by rw [e_5177]; rfl
      have fe_5200 : fld (f_5162 a_0) 20 = (v_5194 : Int32).toInt := by rw [e_5177]; rfl
      rw [fe_5199, fe_5170, fe_5197, fe_5196] at x_5164
      rw [fe_5199, fe_5198, fe_5197, fe_5196] at x_5165
      rw [fe_5199, fe_5173] at x_5166
      rw [fe_5200, fe_5174] at x_5167
      clear fe_5170 fe_5171 fe_5172 fe_5173 fe_5174 fe_5196 fe_5197 fe_5198 fe_5199 fe_5200
      refine v_aload_n hC dX12_readRow_31 rfl ?_
      refine v_get hC fl_X12_108 m_1 e_5177 rfl dX12_readRow_32 ?_
      refine v_aload_n hC dX12_readRow_35 rfl ?_
      refine v_get hC fl_X12_117 m_1 e_5177 rfl dX12_readRow_36 ?_
      obtain ⟨v_5201, h_5202⟩ : ∃ v9 : Int32, v_5183 - v_5185 = v9 := ⟨_, rfl⟩
      refine v_isub hC dX12_readRow_39 h_5202 ?_
      have h_5203 := sub_v h_5202 (by first | omega | (simp only [Int32.lt_iff_toInt_lt, Int32.le_iff_toInt_le, Int32.reduceToInt, ← Int32.toInt_inj, true_and, and_true, or_true, true_or, false_or, or_false, false_and, and_false, not_true_eq_false, not_false_eq_true] <;> omega)) (by first | omega | (simp only [Int32.lt_iff_toInt_lt, Int32.le_iff_toInt_le, Int32.reduceToInt, ← Int32.toInt_inj, true_and, and_true, or_true, true_or, false_or, or_false, false_and, and_false, not_true_eq_false, not_false_eq_true] <;> omega))
      refine v_istore_n hC dX12_readRow_40 (by decide) (lv' := [(1, .int v_5201), (0, .ref a_0)]) rfl ?_
      refine v_aload_n hC dX12_readRow_41 rfl ?_
      refine v_get hC fl_X12_120 m_1 e_5177 rfl dX12_readRow_42 ?_
      refine v_iconst hC dX12_readRow_45 (v := 1) (by decide) ?_
      have jn_5206 : ∀ (v_5207 : Int32) (b_5208 : (0 ≤ v_5207.toInt ∧ v_5207.toInt ≤ 1)) (jv_5209 : ((v_5207 : Int32).toInt = 0 ∨ (v_5201.toInt ≤ 12 ∧ fld (f_5162 a_0) 10 = 1))), V z E 5 0 0 L f_5162 60 [(1, .int v_5201), (0, .ref a_0)] [.int v_5207] := by
        intro v_5207 b_5208 jv_5209
        have fe_5210 : fld (f_5162 a_0) 10 = (v_5187 : Int32).toInt := by rw [e_5177]; rfl
        rw [fe_5210] at jv_5209
        refine v_istore_n hC dX12_readRow_60 (by decide) (lv' := [(2, .int v_5207), (1, .int v_5201), (0, .ref a_0)]) rfl ?_
        refine v_bipush hC dX12_readRow_61 (v := 16) (by decide) ?_
        refine v_bipush hC dX12_readRow_63 (v := 13) (by decide) ?_
        refine v_aload_n hC dX12_readRow_65 rfl ?_
        refine v_get hC fl_X12_34 m_1 e_5177 rfl dX12_readRow_66 ?_
        refine v_iconst hC dX12_readRow_69 (v := 2) (by decide) ?_
        refine v_iald hC m_22 hf_5176 (vp_in_iff.mpr (by decide)) (v := g_f 2) rfl dX12_readRow_70 ?_
        obtain ⟨v_5211, h_5212⟩ : ∃ v9 : Int32, (13 : Int32) * (g_f 2) = v9 := ⟨_, rfl⟩
        refine v_imul hC dX12_readRow_71 h_5212 ?_
        have h_5213 := mul_v 13 8 104 h_5212 (by decide) (by first | omega | (simp only [Int32.lt_iff_toInt_lt, Int32.le_iff_toInt_le, Int32.reduceToInt, ← Int32.toInt_inj, true_and, and_true, or_true, true_or, false_or, or_false, false_and, and_false, not_true_eq_false, not_false_eq_true] <;> omega)) (by decide) (by decide)
        try simp only [Int32.reduceToInt] at h_5213
        have h_5214 : 1 ≤ v_5211.toInt := by rw [h_5213.1]; exact Int.mul_le_mul (a := 1) (b := 1) (by first | omega | (simp only [Int32.lt_iff_toInt_lt, Int32.le_iff_toInt_le, Int32.reduceToInt, ← Int32.toInt_inj, true_and, and_true, or_true, true_or, false_or, or_false, false_and, and_false, not_true_eq_false, not_false_eq_true] <;> omega)) (by first | omega | (simp only [Int32.lt_iff_toInt_lt, Int32.le_iff_toInt_le, Int32.reduceToInt, ← Int32.toInt_inj, true_and, and_true, or_true, true_or, false_or, or_false, false_and, and_false, not_true_eq_false, not_false_eq_true] <;> omega)) (by decide) (by first | omega | (simp only [Int32.lt_iff_toInt_lt, Int32.le_iff_toInt_le, Int32.reduceToInt, ← Int32.toInt_inj, true_and, and_true, or_true, true_or, false_or, or_false, false_and, and_false, not_true_eq_false, not_false_eq_true] <;> omega))
        obtain ⟨v_5215, h_5216⟩ : ∃ v9 : Int32, (16 : Int32) + v_5211 = v9 := ⟨_, rfl⟩
        refine v_iadd hC dX12_readRow_72 h_5216 ?_
        have h_5217 := add_v h_5216 (by first | omega | (simp only [Int32.lt_iff_toInt_lt, Int32.le_iff_toInt_le, Int32.reduceToInt, ← Int32.toInt_inj, true_and, and_true, or_true, true_or, false_or, or_false, false_and, and_false, not_true_eq_false, not_false_eq_true] <;> omega)) (by first | omega | (simp only [Int32.lt_iff_toInt_lt, Int32.le_iff_toInt_le, Int32.reduceToInt, ← Int32.toInt_inj, true_and, and_true, or_true, true_or, false_or, or_false, false_and, and_false, not_true_eq_false, not_false_eq_true] <;> omega))
        try simp only [Int32.reduceToInt] at h_5217
        refine v_istore_n hC dX12_readRow_73 (by decide) (lv' := [(3, .int v_5215), (2, .int v_5207), (1, .int v_5201), (0, .ref a_0)]) rfl ?_
        refine v_iconst hC dX12_readRow_74 (v := 0) (by decide) ?_
        refine v_istore hC dX12_readRow_75 (by decide) (lv' := [(4, .int 0), (3, .int v_5215), (2, .int v_5207), (1, .int v_5201), (0, .ref a_0)]) rfl ?_
        have lp_7203 : ∀ (n_7204 : Nat) (f_7195 : Nat → va_E) (hW_7196 : WT T L f_7195) (hF_7197 : FR [2176] f_5162 f_7195) (i_7193 : Int32) (b_7199 : (0 ≤ i_7193.toInt ∧ i_7193.toInt ≤ 600)) (i_7194 : Int32) (b_7200 : (0 ≤ i_7194.toInt ∧ i_7194.toInt ≤ 1)) (nv_7202 : (i_7194.toInt = 0 ∨ (v_5201.toInt ≤ 12 ∧ fld (f_7195 a_0) 10 = 1))) (cv_7201 : ∃ g9 : Nat → Int32, (f_7195 (q 14)) = aI E 2076 g9 ∧ RR g_f g9) (hm_7206 : 600 - i_7193.toInt < (n_7204 : Int)), V z E 5 0 0 L f_7195 77 [(4, .int i_7193), (3, .int v_5215), (2, .int i_7194), (1, .int v_5201), (0, .ref a_0)] [] := by
          intro n_7204
          induction n_7204 with
          | zero =>
            intro f_7195 hW_7196 hF_7197 i_7193 b_7199 i_7194 b_7200 nv_7202 cv_7201 hm_7206
            have hf_7198 := hF_7197.at e_5177 rfl
            have fe_7207 : fld (f_7195 a_0) 10 = (v_5187 : Int32).toInt := by rw [hf_7198]; rfl
            rw [fe_7207] at nv_7202
            obtain ⟨g_7208, e_7209, rr_7210⟩ := cv_7201
            exfalso; omega
          | succ n_7204 ih_7205 =>
            intro f_7195 hW_7196 hF_7197 i_7193 b_7199 i_7194 b_7200 nv_7202 cv_7201 hm_7206
            have hf_7198 := hF_7197.at e_5177 rfl
            have fe_7207 : fld (f_7195 a_0) 10 = (v_5187 : Int32).toInt := by rw [hf_7198]; rfl
            rw [fe_7207] at nv_7202
            obtain ⟨g_7208, e_7209, rr_7210⟩ := cv_7201
            refine v_iload hC dX12_readRow_77 rfl ?_
            refine v_iload_n hC dX12_readRow_79 rfl ?_
            have jn_7310 : V z E 5 0 0 L f_7195 151 [(3, .int v_5215), (2, .int i_7194), (1, .int v_5201), (0, .ref a_0)] [] := by
              refine v_iload_n hC dX12_readRow_151 rfl ?_
              refine v_if_ne hC dX12_readRow_152 (tgt := 160) (by decide) (fun h_7311 => ?_) (fun h_7311 => ?_)
              · simp only [Int32.lt_iff_toInt_lt, Int32.le_iff_toInt_le, Int32.reduceToInt, ← Int32.toInt_inj] at h_7311
                refine v_aload_n hC dX12_readRow_160 rfl ?_
                refine v_vi hC (rest := []) m_1 hf_7198 rfl mi_X12_good ms_X12_good (p_X12_good hW_7196 k_0) mx_X12_good ml_X12_139 (by decide) rfl (cells1 := 0) (slots1 := 0) (by decide) (by decide) (Nat.le_of_ble_eq_true rfl) (Nat.le_of_ble_eq_true rfl) rfl (Nat.le_of_ble_eq_true rfl) dX12_readRow_161 (fun r_7312 L_7313 f_7314 h_7315 => ?_)
                obtain ⟨rfl, rfl, b_7316, x_7317⟩ := h_7315
                have fe_7320 : fld (f_7195 a_0) 12 = (v_5190 : Int32).toInt := by rw [hf_7198]; rfl
                rw [fe_7320] at x_7317
                clear fe_7320
                try simp only [Int32.reduceToInt, Int64.reduceToInt] at x_7317
                refine v_if_ne hC dX12_readRow_164 (tgt := 168) (by decide) (fun h_7321 => ?_) (fun h_7321 => ?_)
                · simp only [Int32.lt_iff_toInt_lt, Int32.le_iff_toInt_le, Int32.reduceToInt, ← Int32.toInt_inj] at h_7321
                  refine v_aload_n hC dX12_readRow_168 rfl ?_
                  refine v_get hC fl_X12_34 m_1 hf_7198 rfl dX12_readRow_169 ?_
                  refine v_iload_n hC dX12_readRow_172 rfl ?_
                  refine v_iload_n hC dX12_readRow_173 rfl ?_
                  refine v_iast hC m_22 e_7209 (vp_in_iff.mpr (by first | omega | (simp only [Int32.lt_iff_toInt_lt, Int32.le_iff_toInt_le, Int32.reduceToInt, ← Int32.toInt_inj, true_and, and_true, or_true, true_or, false_or, or_false, false_and, and_false, not_true_eq_false, not_false_eq_true] <;> omega))) dX12_readRow_174 (fun f_7322 hf_7323 hk_7324 => ?_)
                  have hW_7326 := hW_7196.up hf_7323 hk_7324 t_23 ⟨_, rfl, (rr_7210.1.up (by first | omega | (simp only [Int32.lt_iff_toInt_lt, Int32.le_iff_toInt_le, Int32.reduceToInt, ← Int32.toInt_inj, true_and, and_true, or_true, true_or, false_or, or_false, false_and, and_false, not_true_eq_false, not_false_eq_true] <;> omega)) (fun q1 q2 => (by first | omega | (simp only [Int32.lt_iff_toInt_lt, Int32.le_iff_toInt_le, Int32.reduceToInt, ← Int32.toInt_inj] at *; omega))) (fun k9 q1 q2 q3 => (by first | omega | (simp only [Int32.lt_iff_toInt_lt, Int32.le_iff_toInt_le, Int32.reduceToInt, ← Int32.toInt_inj] at *; omega))))⟩
                  obtain ⟨g_7325, hf_7323, ok_7327, eg_7328⟩ : ∃ g9, f_7322 (q 14) = aI E 2076 g9 ∧ FOK g9 ∧ g9 = upd g_7208 (v_5215 : Int32).toNatClampNeg v_5201 := ⟨_, hf_7323, (rr_7210.1.up (by first | omega | (simp only [Int32.lt_iff_toInt_lt, Int32.le_iff_toInt_le, Int32.reduceToInt, ← Int32.toInt_inj, true_and, and_true, or_true, true_or, false_or, or_false, false_and, and_false, not_true_eq_false, not_false_eq_true] <;> omega)) (fun q1 q2 => (by first | omega | (simp only [Int32.lt_iff_toInt_lt, Int32.le_iff_toInt_le, Int32.reduceToInt, ← Int32.toInt_inj] at *; omega))) (fun k9 q1 q2 q3 => (by first | omega | (simp only [Int32.lt_iff_toInt_lt, Int32.le_iff_toInt_le, Int32.reduceToInt, ← Int32.toInt_inj] at *; omega)))), rfl⟩
                  have hf_7329 := (hk_7324 a_0 (ne_kd hf_7198 e_7209 rfl)).trans hf_7198
                  have fr_7330 := FR.w hk_7324 e_7209 (k := 2176) rfl
                  have g2_7331 : (g_7325 2).toInt = (g_f 2).toInt := by rw [← rr_7210.2.2.2.2, eg_7328]; unfold upd; rw [if_neg (by rw [clamp_t]; omega)]
                  refine v_aload_n hC dX12_readRow_175 rfl ?_
                  refine v_get hC fl_X12_34 m_1 hf_7329 rfl dX12_readRow_176 ?_
                  refine v_iconst hC dX12_readRow_179 (v := 2) (by decide) ?_
                  refine v_dup2 hC dX12_readRow_180 rfl rfl ?_
                  refine v_iald hC m_22 hf_7323 (vp_in_iff.mpr (by decide)) (v := g_7325 2) rfl dX12_readRow_181 ?_
                  refine v_iconst hC dX12_readRow_182 (v := 1) (by decide) ?_
                  obtain ⟨v_7332, h_7333⟩ : ∃ v9 : Int32, (g_7325 2) + 1 = v9 := ⟨_, rfl⟩
                  refine v_iadd hC dX12_readRow_183 h_7333 ?_
                  have h_7334 := add_v h_7333 (by first | omega | (simp only [Int32.lt_iff_toInt_lt, Int32.le_iff_toInt_le, Int32.reduceToInt, ← Int32.toInt_inj, true_and, and_true, or_true, true_or, false_or, or_false, false_and, and_false, not_true_eq_false, not_false_eq_true] <;> omega)) (by first | omega | (simp only [Int32.lt_iff_toInt_lt, Int32.le_iff_toInt_le, Int32.reduceToInt, ← Int32.toInt_inj, true_and, and_true, or_true, true_or, false_or, or_false, false_and, and_false, not_true_eq_false, not_false_eq_true] <;> omega))
                  try simp only [Int32.reduceToInt] at h_7334
                  refine v_iast hC m_22 hf_7323 (vp_in_iff.mpr (by decide)) dX12_readRow_184 (fun f_7335 hf_7336 hk_7337 => ?_)
                  have hW_7339 := hW_7326.up hf_7336 hk_7337 t_23 ⟨_, rfl, (ok_7327.up (i := 2) (by decide) (fun q1 q2 => absurd (And.intro q1 q2) (by decide)) (fun k9 q1 q2 q3 => by simp only [Int32.reduceToInt] at q3; omega))⟩
                  obtain ⟨g_7338, hf_7336, ok_7340, eg_7341⟩ : ∃ g9, f_7335 (q 14) = aI E 2076 g9 ∧ FOK g9 ∧ g9 = upd g_7325 (2 : Int32).toNatClampNeg v_7332 := ⟨_, hf_7336, (ok_7327.up (i := 2) (by decide) (fun q1 q2 => absurd (And.intro q1 q2) (by decide)) (fun k9 q1 q2 q3 => by simp only [Int32.reduceToInt] at q3; omega)), rfl⟩
                  have hf_7342 := (hk_7337 a_0 (ne_kd hf_7329 hf_7323 rfl)).trans hf_7329
                  have fr_7343 := FR.w hk_7337 hf_7323 (k := 2176) rfl
                  have rf_7344 := rr_7210.fin eg_7328 eg_7341 (by omega) (by omega) (by omega) (by omega)
                  have rf_7344_t := rf_7344.2.2.2.2
                  refine v_aload_n hC dX12_readRow_185 rfl ?_
                  refine v_vv hC (rest := []) m_1 hf_7342 rfl mi_X12_advance ms_X12_advance (p_X12_advance hW_7339 k_0) mx_X12_advance ml_X12_156 (by decide) rfl (cells1 := 0) (slots1 := 0) (by decide) (by decide) (Nat.le_of_ble_eq_true rfl) (Nat.le_of_ble_eq_true rfl) rfl (Nat.le_of_ble_eq_true rfl) dX12_readRow_186 (fun L_7346 f_7347 h_7348 => ?_)
                  obtain ⟨rfl, hW_7353, hF_7354, x_7349, x_7350, x_7351, x_7352⟩ := h_7348
                  have fe_7355 : fld (f_7335 a_0) 8 = (v_5183 : Int32).toInt := by rw [hf_7342]; rfl
                  have fe_7356 : fld (f_7335 a_0) 12 = (v_5190 : Int32).toInt := by rw [hf_7342]; rfl
                  have fe_7357 : fld (f_7335 a_0) 20 = (v_5194 : Int32).toInt := by rw [hf_7342]; rfl
                  have hf_7358 := hF_7354.at hf_7336 rfl
                  obtain ⟨v_7360, v_7361, v_7363, v_7365, v_7367, v_7369, v_7371, v_7372, v_7373, v_7374, v_7376, e_7359, b_7362, b_7364, b_7366, b_7368, b_7370, b_7375, b_7377⟩ := hW_7353.at m_1 t_2
                  have fe_7378 : fld (f_7347 a_0) 8 = (v_7365 : Int32).toInt := by rw [e_7359]; rfl
                  have fe_7379 : fld (f_7347 a_0) 9 = (v_7367 : Int32).toInt := by rw [e_7359]; rfl
                  have fe_7380 : fld (f_7347 a_0) 10 = (v_7369 : Int32).toInt := by rw [e_7359]; rfl
                  have fe_7381 : fld (f_7347 a_0) 12 = (v_7372 : Int32).toInt := by rw [e_7359]; rfl
                  have fe_7382 : fld (f_7347 a_0) 20 = (v_7376 : Int32).toInt := by rw [e_7359]; rfl
                  rw [fe_7355, fe_7379, fe_7378] at x_7349
                  rw [fe_7380, fe_7379, fe_7378] at x_7350
                  rw [fe_7381, fe_7356] at x_7351
                  rw [fe_7382, fe_7357] at x_7352
                  clear fe_7355 fe_7356 fe_7357 fe_7378 fe_7379 fe_7380 fe_7381 fe_7382
                  refine v_aload_n hC dX12_readRow_189 rfl ?_
                  refine v_vv hC (rest := []) m_1 e_7359 rfl mi_X12_ends ms_X12_ends (p_X12_ends hW_7353 k_0) mx_X12_ends ml_X12_178 (by decide) rfl (cells1 := 0) (slots1 := 0) (by decide) (by decide) (Nat.le_of_ble_eq_true rfl) (Nat.le_of_ble_eq_true rfl) rfl (Nat.le_of_ble_eq_true rfl) dX12_readRow_190 (fun L_7384 f_7385 h_7386 => ?_)
                  obtain ⟨rfl, hW_7391, hF_7392, x_7387, x_7388, x_7389, x_7390, -⟩ := h_7386
                  have fe_7393 : fld (f_7347 a_0) 8 = (v_7365 : Int32).toInt := by rw [e_7359]; rfl
                  have fe_7394 : fld (f_7347 a_0) 10 = (v_7369 : Int32).toInt := by rw [e_7359]; rfl
                  have fe_7395 : fld (f_7347 a_0) 12 = (v_7372 : Int32).toInt := by rw [e_7359]; rfl
                  have fe_7396 : fld (f_7347 a_0) 20 = (v_7376 : Int32).toInt := by rw [e_7359]; rfl
                  have hf_7397 := hF_7392.at hf_7358 rfl
                  obtain ⟨v_7399, v_7400, v_7402, v_7404, v_7406, v_7408, v_7410, v_7411, v_7412, v_7413, v_7415, e_7398, b_7401, b_7403, b_7405, b_7407, b_7409, b_7414, b_7416⟩ := hW_7391.at m_1 t_2
                  have fe_7417 : fld (f_7385 a_0) 8 = (v_7404 : Int32).toInt := by rw [e_7398]; rfl
                  have fe_7418 : fld (f_7385 a_0) 9 = (v_7406 : Int32).toInt := by rw [e_7398]; rfl
                  have fe_7419 : fld (f_7385 a_0) 10 = (v_7408 : Int32).toInt := by rw [e_7398]; rfl
                  have fe_7420 : fld (f_7385 a_0) 12 = (v_7411 : Int32).toInt := by rw [e_7398]; rfl
                  have fe_7421 : fld (f_7385 a_0) 20 = (v_7415 : Int32).toInt := by rw [e_7398]; rfl
                  rw [fe_7420, fe_7395] at x_7387
                  rw [fe_7420, fe_7394, fe_7393, fe_7418, fe_7417] at x_7388
                  rw [fe_7420, fe_7419, fe_7418, fe_7417] at x_7389
                  rw [fe_7421, fe_7396] at x_7390
                  clear fe_7393 fe_7394 fe_7395 fe_7396 fe_7417 fe_7418 fe_7419 fe_7420 fe_7421
                  have fe_7422 : fld (f_7385 a_0) 12 = (v_7411 : Int32).toInt := by rw [e_7398]; rfl
                  have fe_7423 : fld (f_7385 a_0) 8 = (v_7404 : Int32).toInt := by rw [e_7398]; rfl
                  have fe_7424 : fld (f_7385 a_0) 12 = (v_7411 : Int32).toInt := by rw [e_7398]; rfl
                  have fe_7425 : fld (f_7385 a_0) 20 = (v_7415 : Int32).toInt := by rw [e_7398]; rfl
                  exact hR _ _ _ _ _ _ dX12_readRow_193 (Nat.le_of_ble_eq_true rfl) (Nat.le_of_ble_eq_true rfl) ⟨rfl, hW_7391, (((((((hF_5130.tr hF_5169).tr hF_7197).tr fr_7330).tr fr_7343).tr hF_7354).tr hF_7392).mono rfl), ⟨_, hf_7397, rf_7344.1, rf_7344.2.1, rf_7344.2.2.1, rf_7344.2.2.2.1, (by rw [fe_7422]; first | (left; omega) | (right; omega) | omega)⟩, (by simp only [fe_7423, fe_7424, mz_43, mz_44, true_and, and_true, or_true, true_or, false_or, or_false, false_and, and_false, not_true_eq_false, not_false_eq_true] <;> first | omega | (simp only [Int32.lt_iff_toInt_lt, Int32.le_iff_toInt_le, Int32.reduceToInt, ← Int32.toInt_inj, true_and, and_true, or_true, true_or, false_or, or_false, false_and, and_false, not_true_eq_false, not_false_eq_true] <;> omega)), (by simp only [fe_7425, mz_45, true_and, and_true, or_true, true_or, false_or, or_false, false_and, and_false, not_true_eq_false, not_false_eq_true] <;> first | omega | (simp only [Int32.lt_iff_toInt_lt, Int32.le_iff_toInt_le, Int32.reduceToInt, ← Int32.toInt_inj, true_and, and_true, or_true, true_or, false_or, or_false, false_and, and_false, not_true_eq_false, not_false_eq_true] <;> omega))⟩
                · simp only [Int32.lt_iff_toInt_lt, Int32.le_iff_toInt_le, Int32.reduceToInt, ← Int32.toInt_inj] at h_7321
                  have fe_7426 : fld (f_7195 a_0) 12 = (v_5190 : Int32).toInt := by rw [hf_7198]; rfl
                  have fe_7427 : fld (f_7195 a_0) 8 = (v_5183 : Int32).toInt := by rw [hf_7198]; rfl
                  have fe_7428 : fld (f_7195 a_0) 12 = (v_5190 : Int32).toInt := by rw [hf_7198]; rfl
                  have fe_7429 : fld (f_7195 a_0) 20 = (v_5194 : Int32).toInt := by rw [hf_7198]; rfl
                  exact hR _ _ _ _ _ _ dX12_readRow_167 (Nat.le_of_ble_eq_true rfl) (Nat.le_of_ble_eq_true rfl) ⟨rfl, hW_7196, (((hF_5130.tr hF_5169).tr hF_7197).mono rfl), ⟨_, e_7209, rr_7210.1, rr_7210.2.1, rr_7210.2.2.1, rr_7210.2.2.2.1, (by rw [fe_7426]; first | (left; omega) | (right; omega) | omega)⟩, (by simp only [fe_7427, fe_7428, mz_43, mz_44, true_and, and_true, or_true, true_or, false_or, or_false, false_and, and_false, not_true_eq_false, not_false_eq_true] <;> first | omega | (simp only [Int32.lt_iff_toInt_lt, Int32.le_iff_toInt_le, Int32.reduceToInt, ← Int32.toInt_inj, true_and, and_true, or_true, true_or, false_or, or_false, false_and, and_false, not_true_eq_false, not_false_eq_true] <;> omega)), (by simp only [fe_7429, mz_45, true_and, and_true, or_true, true_or, false_or, or_false, false_and, and_false, not_true_eq_false, not_false_eq_true] <;> first | omega | (simp only [Int32.lt_iff_toInt_lt, Int32.le_iff_toInt_le, Int32.reduceToInt, ← Int32.toInt_inj, true_and, and_true, or_true, true_or, false_or, or_false, false_and, and_false, not_true_eq_false, not_false_eq_true] <;> omega))⟩
              · simp only [Int32.lt_iff_toInt_lt, Int32.le_iff_toInt_le, Int32.reduceToInt, ← Int32.toInt_inj] at h_7311
                refine v_aload_n hC dX12_readRow_155 rfl ?_
                refine v_iconst hC dX12_readRow_156 (v := 1) (by decide) ?_
                refine v_vv hC (rest := []) m_1 hf_7198 rfl mi_X12_errs ms_X12_errs (p_X12_errs hW_7196 k_0 (by decide)) mx_X12_errs ml_X12_162 (by decide) rfl (cells1 := 0) (slots1 := 0) (by decide) (by decide) (Nat.le_of_ble_eq_true rfl) (Nat.le_of_ble_eq_true rfl) rfl (Nat.le_of_ble_eq_true rfl) dX12_readRow_157 (fun L_7431 f_7432 h_7433 => ?_)
                obtain ⟨rfl, hW_7439, hF_7440, x_7434, x_7435, x_7436, x_7437, x_7438⟩ := h_7433
                have fe_7441 : fld (f_7195 a_0) 8 = (v_5183 : Int32).toInt := by rw [hf_7198]; rfl
                have fe_7442 : fld (f_7195 a_0) 9 = (v_5185 : Int32).toInt := by rw [hf_7198]; rfl
                have fe_7443 : fld (f_7195 a_0) 10 = (v_5187 : Int32).toInt := by rw [hf_7198]; rfl
                have fe_7444 : fld (f_7195 a_0) 20 = (v_5194 : Int32).toInt := by rw [hf_7198]; rfl
                have hf_7445 := hF_7440.at e_7209 rfl
                obtain ⟨v_7447, v_7448, v_7450, v_7452, v_7454, v_7456, v_7458, v_7459, v_7460, v_7461, v_7463, e_7446, b_7449, b_7451, b_7453, b_7455, b_7457, b_7462, b_7464⟩ := hW_7439.at m_1 t_2
                have fe_7465 : fld (f_7432 a_0) 8 = (v_7452 : Int32).toInt := by rw [e_7446]; rfl
                have fe_7466 : fld (f_7432 a_0) 9 = (v_7454 : Int32).toInt := by rw [e_7446]; rfl
                have fe_7467 : fld (f_7432 a_0) 10 = (v_7456 : Int32).toInt := by rw [e_7446]; rfl
                have fe_7468 : fld (f_7432 a_0) 12 = (v_7459 : Int32).toInt := by rw [e_7446]; rfl
                have fe_7469 : fld (f_7432 a_0) 20 = (v_7463 : Int32).toInt := by rw [e_7446]; rfl
                rw [fe_7468] at x_7434
                rw [fe_7465, fe_7441] at x_7435
                rw [fe_7466, fe_7442] at x_7436
                rw [fe_7467, fe_7443] at x_7437
                rw [fe_7469, fe_7444] at x_7438
                clear fe_7441 fe_7442 fe_7443 fe_7444 fe_7465 fe_7466 fe_7467 fe_7468 fe_7469
                refine v_aload_n hC dX12_readRow_160 rfl ?_
                refine v_vi hC (rest := []) m_1 e_7446 rfl mi_X12_good ms_X12_good (p_X12_good hW_7439 k_0) mx_X12_good ml_X12_139 (by decide) rfl (cells1 := 0) (slots1 := 0) (by decide) (by decide) (Nat.le_of_ble_eq_true rfl) (Nat.le_of_ble_eq_true rfl) rfl (Nat.le_of_ble_eq_true rfl) dX12_readRow_161 (fun r_7470 L_7471 f_7472 h_7473 => ?_)
                obtain ⟨rfl, rfl, b_7474, x_7475⟩ := h_7473
                have fe_7478 : fld (f_7432 a_0) 12 = (v_7459 : Int32).toInt := by rw [e_7446]; rfl
                rw [fe_7478] at x_7475
                clear fe_7478
                try simp only [Int32.reduceToInt, Int64.reduceToInt] at x_7475
                refine v_if_ne hC dX12_readRow_164 (tgt := 168) (by decide) (fun h_7479 => ?_) (fun h_7479 => ?_)
                · simp only [Int32.lt_iff_toInt_lt, Int32.le_iff_toInt_le, Int32.reduceToInt, ← Int32.toInt_inj] at h_7479
                  refine v_aload_n hC dX12_readRow_168 rfl ?_
                  refine v_get hC fl_X12_34 m_1 e_7446 rfl dX12_readRow_169 ?_
                  refine v_iload_n hC dX12_readRow_172 rfl ?_
                  refine v_iload_n hC dX12_readRow_173 rfl ?_
                  refine v_iast hC m_22 hf_7445 (vp_in_iff.mpr (by first | omega | (simp only [Int32.lt_iff_toInt_lt, Int32.le_iff_toInt_le, Int32.reduceToInt, ← Int32.toInt_inj, true_and, and_true, or_true, true_or, false_or, or_false, false_and, and_false, not_true_eq_false, not_false_eq_true] <;> omega))) dX12_readRow_174 (fun f_7480 hf_7481 hk_7482 => ?_)
                  have hW_7484 := hW_7439.up hf_7481 hk_7482 t_23 ⟨_, rfl, (rr_7210.1.up (by first | omega | (simp only [Int32.lt_iff_toInt_lt, Int32.le_iff_toInt_le, Int32.reduceToInt, ← Int32.toInt_inj, true_and, and_true, or_true, true_or, false_or, or_false, false_and, and_false, not_true_eq_false, not_false_eq_true] <;> omega)) (fun q1 q2 => (by first | omega | (simp only [Int32.lt_iff_toInt_lt, Int32.le_iff_toInt_le, Int32.reduceToInt, ← Int32.toInt_inj] at *; omega))) (fun k9 q1 q2 q3 => (by first | omega | (simp only [Int32.lt_iff_toInt_lt, Int32.le_iff_toInt_le, Int32.reduceToInt, ← Int32.toInt_inj] at *; omega))))⟩
                  obtain ⟨g_7483, hf_7481, ok_7485, eg_7486⟩ : ∃ g9, f_7480 (q 14) = aI E 2076 g9 ∧ FOK g9 ∧ g9 = upd g_7208 (v_5215 : Int32).toNatClampNeg v_5201 := ⟨_, hf_7481, (rr_7210.1.up (by first | omega | (simp only [Int32.lt_iff_toInt_lt, Int32.le_iff_toInt_le, Int32.reduceToInt, ← Int32.toInt_inj, true_and, and_true, or_true, true_or, false_or, or_false, false_and, and_false, not_true_eq_false, not_false_eq_true] <;> omega)) (fun q1 q2 => (by first | omega | (simp only [Int32.lt_iff_toInt_lt, Int32.le_iff_toInt_le, Int32.reduceToInt, ← Int32.toInt_inj] at *; omega))) (fun k9 q1 q2 q3 => (by first | omega | (simp only [Int32.lt_iff_toInt_lt, Int32.le_iff_toInt_le, Int32.reduceToInt, ← Int32.toInt_inj] at *; omega)))), rfl⟩
                  have hf_7487 := (hk_7482 a_0 (ne_kd e_7446 hf_7445 rfl)).trans e_7446
                  have fr_7488 := FR.w hk_7482 hf_7445 (k := 2176) rfl
                  have g2_7489 : (g_7483 2).toInt = (g_f 2).toInt := by rw [← rr_7210.2.2.2.2, eg_7486]; unfold upd; rw [if_neg (by rw [clamp_t]; omega)]
                  refine v_aload_n hC dX12_readRow_175 rfl ?_
                  refine v_get hC fl_X12_34 m_1 hf_7487 rfl dX12_readRow_176 ?_
                  refine v_iconst hC dX12_readRow_179 (v := 2) (by decide) ?_
                  refine v_dup2 hC dX12_readRow_180 rfl rfl ?_
                  refine v_iald hC m_22 hf_7481 (vp_in_iff.mpr (by decide)) (v := g_7483 2) rfl dX12_readRow_181 ?_
                  refine v_iconst hC dX12_readRow_182 (v := 1) (by decide) ?_
                  obtain ⟨v_7490, h_7491⟩ : ∃ v9 : Int32, (g_7483 2) + 1 = v9 := ⟨_, rfl⟩
                  refine v_iadd hC dX12_readRow_183 h_7491 ?_
                  have h_7492 := add_v h_7491 (by first | omega | (simp only [Int32.lt_iff_toInt_lt, Int32.le_iff_toInt_le, Int32.reduceToInt, ← Int32.toInt_inj, true_and, and_true, or_true, true_or, false_or, or_false, false_and, and_false, not_true_eq_false, not_false_eq_true] <;> omega)) (by first | omega | (simp only [Int32.lt_iff_toInt_lt, Int32.le_iff_toInt_le, Int32.reduceToInt, ← Int32.toInt_inj, true_and, and_true, or_true, true_or, false_or, or_false, false_and, and_false, not_true_eq_false, not_false_eq_true] <;> omega))
                  try simp only [Int32.reduceToInt] at h_7492
                  refine v_iast hC m_22 hf_7481 (vp_in_iff.mpr (by decide)) dX12_readRow_184 (fun f_7493 hf_7494 hk_7495 => ?_)
                  have hW_7497 := hW_7484.up hf_7494 hk_7495 t_23 ⟨_, rfl, (ok_7485.up (i := 2) (by decide) (fun q1 q2 => absurd (And.intro q1 q2) (by decide)) (fun k9 q1 q2 q3 => by simp only [Int32.reduceToInt] at q3; omega))⟩
                  obtain ⟨g_7496, hf_7494, ok_7498, eg_7499⟩ : ∃ g9, f_7493 (q 14) = aI E 2076 g9 ∧ FOK g9 ∧ g9 = upd g_7483 (2 : Int32).toNatClampNeg v_7490 := ⟨_, hf_7494, (ok_7485.up (i := 2) (by decide) (fun q1 q2 => absurd (And.intro q1 q2) (by decide)) (fun k9 q1 q2 q3 => by simp only [Int32.reduceToInt] at q3; omega)), rfl⟩
                  have hf_7500 := (hk_7495 a_0 (ne_kd hf_7487 hf_7481 rfl)).trans hf_7487
                  have fr_7501 := FR.w hk_7495 hf_7481 (k := 2176) rfl
                  have rf_7502 := rr_7210.fin eg_7486 eg_7499 (by omega) (by omega) (by omega) (by omega)
                  have rf_7502_t := rf_7502.2.2.2.2
                  refine v_aload_n hC dX12_readRow_185 rfl ?_
                  refine v_vv hC (rest := []) m_1 hf_7500 rfl mi_X12_advance ms_X12_advance (p_X12_advance hW_7497 k_0) mx_X12_advance ml_X12_156 (by decide) rfl (cells1 := 0) (slots1 := 0) (by decide) (by decide) (Nat.le_of_ble_eq_true rfl) (Nat.le_of_ble_eq_true rfl) rfl (Nat.le_of_ble_eq_true rfl) dX12_readRow_186 (fun L_7504 f_7505 h_7506 => ?_)
                  obtain ⟨rfl, hW_7511, hF_7512, x_7507, x_7508, x_7509, x_7510⟩ := h_7506
                  have fe_7513 : fld (f_7493 a_0) 8 = (v_7452 : Int32).toInt := by rw [hf_7500]; rfl
                  have fe_7514 : fld (f_7493 a_0) 12 = (v_7459 : Int32).toInt := by rw [hf_7500]; rfl
                  have fe_7515 : fld (f_7493 a_0) 20 = (v_7463 : Int32).toInt := by rw [hf_7500]; rfl
                  have hf_7516 := hF_7512.at hf_7494 rfl
                  obtain ⟨v_7518, v_7519, v_7521, v_7523, v_7525, v_7527, v_7529, v_7530, v_7531, v_7532, v_7534, e_7517, b_7520, b_7522, b_7524, b_7526, b_7528, b_7533, b_7535⟩ := hW_7511.at m_1 t_2
                  have fe_7536 : fld (f_7505 a_0) 8 = (v_7523 : Int32).toInt := by rw [e_7517]; rfl
                  have fe_7537 : fld (f_7505 a_0) 9 = (v_7525 : Int32).toInt := by rw [e_7517]; rfl
                  have fe_7538 : fld (f_7505 a_0) 10 = (v_7527 : Int32).toInt := by rw [e_7517]; rfl
                  have fe_7539 : fld (f_7505 a_0) 12 = (v_7530 : Int32).toInt := by rw [e_7517]; rfl
                  have fe_7540 : fld (f_7505 a_0) 20 = (v_7534 : Int32).toInt := by rw [e_7517]; rfl
                  rw [fe_7513, fe_7537, fe_7536] at x_7507
                  rw [fe_7538, fe_7537, fe_7536] at x_7508
                  rw [fe_7539, fe_7514] at x_7509
                  rw [fe_7540, fe_7515] at x_7510
                  clear fe_7513 fe_7514 fe_7515 fe_7536 fe_7537 fe_7538 fe_7539 fe_7540
                  refine v_aload_n hC dX12_readRow_189 rfl ?_
                  refine v_vv hC (rest := []) m_1 e_7517 rfl mi_X12_ends ms_X12_ends (p_X12_ends hW_7511 k_0) mx_X12_ends ml_X12_178 (by decide) rfl (cells1 := 0) (slots1 := 0) (by decide) (by decide) (Nat.le_of_ble_eq_true rfl) (Nat.le_of_ble_eq_true rfl) rfl (Nat.le_of_ble_eq_true rfl) dX12_readRow_190 (fun L_7542 f_7543 h_7544 => ?_)
                  obtain ⟨rfl, hW_7549, hF_7550, x_7545, x_7546, x_7547, x_7548, -⟩ := h_7544
                  have fe_7551 : fld (f_7505 a_0) 8 = (v_7523 : Int32).toInt := by rw [e_7517]; rfl
                  have fe_7552 : fld (f_7505 a_0) 10 = (v_7527 : Int32).toInt := by rw [e_7517]; rfl
                  have fe_7553 : fld (f_7505 a_0) 12 = (v_7530 : Int32).toInt := by rw [e_7517]; rfl
                  have fe_7554 : fld (f_7505 a_0) 20 = (v_7534 : Int32).toInt := by rw [e_7517]; rfl
                  have hf_7555 := hF_7550.at hf_7516 rfl
                  obtain ⟨v_7557, v_7558, v_7560, v_7562, v_7564, v_7566, v_7568, v_7569, v_7570, v_7571, v_7573, e_7556, b_7559, b_7561, b_7563, b_7565, b_7567, b_7572, b_7574⟩ := hW_7549.at m_1 t_2
                  have fe_7575 : fld (f_7543 a_0) 8 = (v_7562 : Int32).toInt := by rw [e_7556]; rfl
                  have fe_7576 : fld (f_7543 a_0) 9 = (v_7564 : Int32).toInt := by rw [e_7556]; rfl
                  have fe_7577 : fld (f_7543 a_0) 10 = (v_7566 : Int32).toInt := by rw [e_7556]; rfl
                  have fe_7578 : fld (f_7543 a_0) 12 = (v_7569 : Int32).toInt := by rw [e_7556]; rfl
                  have fe_7579 : fld (f_7543 a_0) 20 = (v_7573 : Int32).toInt := by rw [e_7556]; rfl
                  rw [fe_7578, fe_7553] at x_7545
                  rw [fe_7578, fe_7552, fe_7551, fe_7576, fe_7575] at x_7546
                  rw [fe_7578, fe_7577, fe_7576, fe_7575] at x_7547
                  rw [fe_7579, fe_7554] at x_7548
                  clear fe_7551 fe_7552 fe_7553 fe_7554 fe_7575 fe_7576 fe_7577 fe_7578 fe_7579
                  have fe_7580 : fld (f_7543 a_0) 12 = (v_7569 : Int32).toInt := by rw [e_7556]; rfl
                  have fe_7581 : fld (f_7543 a_0) 8 = (v_7562 : Int32).toInt := by rw [e_7556]; rfl
                  have fe_7582 : fld (f_7543 a_0) 12 = (v_7569 : Int32).toInt := by rw [e_7556]; rfl
                  have fe_7583 : fld (f_7543 a_0) 20 = (v_7573 : Int32).toInt := by rw [e_7556]; rfl
                  exact hR _ _ _ _ _ _ dX12_readRow_193 (Nat.le_of_ble_eq_true rfl) (Nat.le_of_ble_eq_true rfl) ⟨rfl, hW_7549, ((((((((hF_5130.tr hF_5169).tr hF_7197).tr hF_7440).tr fr_7488).tr fr_7501).tr hF_7512).tr hF_7550).mono rfl), ⟨_, hf_7555, rf_7502.1, rf_7502.2.1, rf_7502.2.2.1, rf_7502.2.2.2.1, (by rw [fe_7580]; first | (left; omega) | (right; omega) | omega)⟩, (by simp only [fe_7581, fe_7582, mz_43, mz_44, true_and, and_true, or_true, true_or, false_or, or_false, false_and, and_false, not_true_eq_false, not_false_eq_true] <;> first | omega | (simp only [Int32.lt_iff_toInt_lt, Int32.le_iff_toInt_le, Int32.reduceToInt, ← Int32.toInt_inj, true_and, and_true, or_true, true_or, false_or, or_false, false_and, and_false, not_true_eq_false, not_false_eq_true] <;> omega)), (by simp only [fe_7583, mz_45, true_and, and_true, or_true, true_or, false_or, or_false, false_and, and_false, not_true_eq_false, not_false_eq_true] <;> first | omega | (simp only [Int32.lt_iff_toInt_lt, Int32.le_iff_toInt_le, Int32.reduceToInt, ← Int32.toInt_inj, true_and, and_true, or_true, true_or, false_or, or_false, false_and, and_false, not_true_eq_false, not_false_eq_true] <;> omega))⟩
                · simp only [Int32.lt_iff_toInt_lt, Int32.le_iff_toInt_le, Int32.reduceToInt, ← Int32.toInt_inj] at h_7479
                  have fe_7584 : fld (f_7432 a_0) 12 = (v_7459 : Int32).toInt := by rw [e_7446]; rfl
                  have fe_7585 : fld (f_7432 a_0) 8 = (v_7452 : Int32).toInt := by rw [e_7446]; rfl
                  have fe_7586 : fld (f_7432 a_0) 12 = (v_7459 : Int32).toInt := by rw [e_7446]; rfl
                  have fe_7587 : fld (f_7432 a_0) 20 = (v_7463 : Int32).toInt := by rw [e_7446]; rfl
                  exact hR _ _ _ _ _ _ dX12_readRow_167 (Nat.le_of_ble_eq_true rfl) (Nat.le_of_ble_eq_true rfl) ⟨rfl, hW_7439, ((((hF_5130.tr hF_5169).tr hF_7197).tr hF_7440).mono rfl), ⟨_, hf_7445, rr_7210.1, rr_7210.2.1, rr_7210.2.2.1, rr_7210.2.2.2.1, (by rw [fe_7584]; first | (left; omega) | (right; omega) | omega)⟩, (by simp only [fe_7585, fe_7586, mz_43, mz_44, true_and, and_true, or_true, true_or, false_or, or_false, false_and, and_false, not_true_eq_false, not_false_eq_true] <;> first | omega | (simp only [Int32.lt_iff_toInt_lt, Int32.le_iff_toInt_le, Int32.reduceToInt, ← Int32.toInt_inj, true_and, and_true, or_true, true_or, false_or, or_false, false_and, and_false, not_true_eq_false, not_false_eq_true] <;> omega)), (by simp only [fe_7587, mz_45, true_and, and_true, or_true, true_or, false_or, or_false, false_and, and_false, not_true_eq_false, not_false_eq_true] <;> first | omega | (simp only [Int32.lt_iff_toInt_lt, Int32.le_iff_toInt_le, Int32.reduceToInt, ← Int32.toInt_inj, true_and, and_true, or_true, true_or, false_or, or_false, false_and, and_false, not_true_eq_false, not_false_eq_true] <;> omega))⟩
            refine v_icmp_ge hC dX12_readRow_80 (tgt := 151) (by decide) (fun h_7211 => ?_) (fun h_7211 => ?_)
            · simp only [Int32.lt_iff_toInt_lt, Int32.le_iff_toInt_le, Int32.reduceToInt, ← Int32.toInt_inj] at h_7211
              refine v_pick [1, 2, 3, 4] rfl ?_
              exact jn_7310 
            · simp only [Int32.lt_iff_toInt_lt, Int32.le_iff_toInt_le, Int32.reduceToInt, ← Int32.toInt_inj] at h_7211
              refine v_iload_n hC dX12_readRow_83 rfl ?_
              refine v_if_eq hC dX12_readRow_84 (tgt := 151) (by decide) (fun h_7588 => ?_) (fun h_7588 => ?_)
              · simp only [Int32.lt_iff_toInt_lt, Int32.le_iff_toInt_le, Int32.reduceToInt, ← Int32.toInt_inj] at h_7588
                refine v_pick [1, 2, 3, 4] rfl ?_
                exact jn_7310 
              · simp only [Int32.lt_iff_toInt_lt, Int32.le_iff_toInt_le, Int32.reduceToInt, ← Int32.toInt_inj] at h_7588
                refine v_aload_n hC dX12_readRow_87 rfl ?_
                refine v_vi hC (rest := []) m_1 hf_7198 rfl mi_X12_good ms_X12_good (p_X12_good hW_7196 k_0) mx_X12_good ml_X12_139 (by decide) rfl (cells1 := 0) (slots1 := 0) (by decide) (by decide) (Nat.le_of_ble_eq_true rfl) (Nat.le_of_ble_eq_true rfl) rfl (Nat.le_of_ble_eq_true rfl) dX12_readRow_88 (fun r_7589 L_7590 f_7591 h_7592 => ?_)
                obtain ⟨rfl, rfl, b_7593, x_7594⟩ := h_7592
                have fe_7597 : fld (f_7195 a_0) 12 = (v_5190 : Int32).toInt := by rw [hf_7198]; rfl
                rw [fe_7597] at x_7594
                clear fe_7597
                try simp only [Int32.reduceToInt, Int64.reduceToInt] at x_7594
                refine v_if_eq hC dX12_readRow_91 (tgt := 151) (by decide) (fun h_7598 => ?_) (fun h_7598 => ?_)
                · simp only [Int32.lt_iff_toInt_lt, Int32.le_iff_toInt_le, Int32.reduceToInt, ← Int32.toInt_inj] at h_7598
                  refine v_pick [1, 2, 3, 4] rfl ?_
                  exact jn_7310 
                · simp only [Int32.lt_iff_toInt_lt, Int32.le_iff_toInt_le, Int32.reduceToInt, ← Int32.toInt_inj] at h_7598
                  refine v_aload_n hC dX12_readRow_94 rfl ?_
                  refine v_get hC fl_X12_24 m_1 hf_7198 rfl dX12_readRow_95 ?_
                  refine v_aload_n hC dX12_readRow_98 rfl ?_
                  refine v_get hC fl_X12_117 m_1 hf_7198 rfl dX12_readRow_99 ?_
                  refine v_iload hC dX12_readRow_102 rfl ?_
                  obtain ⟨v_7599, h_7600⟩ : ∃ v9 : Int32, v_5185 + i_7193 = v9 := ⟨_, rfl⟩
                  refine v_iadd hC dX12_readRow_104 h_7600 ?_
                  have h_7601 := add_v h_7600 (by first | omega | (simp only [Int32.lt_iff_toInt_lt, Int32.le_iff_toInt_le, Int32.reduceToInt, ← Int32.toInt_inj, true_and, and_true, or_true, true_or, false_or, or_false, false_and, and_false, not_true_eq_false, not_false_eq_true] <;> omega)) (by first | omega | (simp only [Int32.lt_iff_toInt_lt, Int32.le_iff_toInt_le, Int32.reduceToInt, ← Int32.toInt_inj, true_and, and_true, or_true, true_or, false_or, or_false, false_and, and_false, not_true_eq_false, not_false_eq_true] <;> omega))
                  obtain ⟨m_7602, t_7603⟩ := id k_6
                  obtain ⟨g_7605, e_7604, fit_7606⟩ := hW_7196.at m_7602 t_7603
                  obtain ⟨v_7607, h_7608⟩ : ∃ v9 : Int32, g_7605 (v_7599 : Int32).toNatClampNeg = v9 := ⟨_, rfl⟩
                  refine v_bald hC m_7602 e_7604 (vp_in_iff.mpr (by first | omega | (simp only [Int32.lt_iff_toInt_lt, Int32.le_iff_toInt_le, Int32.reduceToInt, ← Int32.toInt_inj, true_and, and_true, or_true, true_or, false_or, or_false, false_and, and_false, not_true_eq_false, not_false_eq_true] <;> omega))) h_7608 dX12_readRow_105 ?_
                  refine v_si hC (rest := []) mt_X12_signOf (p_X12_signOf hW_7196) mx_X12_signOf ml_X12_175 (by decide) rfl (cells1 := 0) (slots1 := 0) (by decide) (by decide) (Nat.le_of_ble_eq_true rfl) (Nat.le_of_ble_eq_true rfl) rfl (Nat.le_of_ble_eq_true rfl) dX12_readRow_106 (fun r_7609 L_7610 f_7611 h_7612 => ?_)
                  obtain ⟨rfl, rfl, b_7613, h_7614⟩ := h_7612
                  refine v_iconst hC dX12_readRow_109 (v := (-1)) (by decide) ?_
                  refine v_icmp_eq hC dX12_readRow_110 (tgt := 117) (by decide) (fun h_7617 => ?_) (fun h_7617 => ?_)
                  · simp only [Int32.lt_iff_toInt_lt, Int32.le_iff_toInt_le, Int32.reduceToInt, ← Int32.toInt_inj] at h_7617
                    refine v_iconst hC dX12_readRow_117 (v := 0) (by decide) ?_
                    refine v_istore_n hC dX12_readRow_118 (by decide) (lv' := [(2, .int 0), (4, .int i_7193), (3, .int v_5215), (1, .int v_5201), (0, .ref a_0)]) rfl ?_
                    refine v_aload_n hC dX12_readRow_119 rfl ?_
                    refine v_get hC fl_X12_34 m_1 hf_7198 rfl dX12_readRow_120 ?_
                    refine v_iload_n hC dX12_readRow_123 rfl ?_
                    refine v_iconst hC dX12_readRow_124 (v := 1) (by decide) ?_
                    obtain ⟨v_7618, h_7619⟩ : ∃ v9 : Int32, v_5215 + 1 = v9 := ⟨_, rfl⟩
                    refine v_iadd hC dX12_readRow_125 h_7619 ?_
                    have h_7620 := add_v h_7619 (by first | omega | (simp only [Int32.lt_iff_toInt_lt, Int32.le_iff_toInt_le, Int32.reduceToInt, ← Int32.toInt_inj, true_and, and_true, or_true, true_or, false_or, or_false, false_and, and_false, not_true_eq_false, not_false_eq_true] <;> omega)) (by first | omega | (simp only [Int32.lt_iff_toInt_lt, Int32.le_iff_toInt_le, Int32.reduceToInt, ← Int32.toInt_inj, true_and, and_true, or_true, true_or, false_or, or_false, false_and, and_false, not_true_eq_false, not_false_eq_true] <;> omega))
                    try simp only [Int32.reduceToInt] at h_7620
                    refine v_iload hC dX12_readRow_126 rfl ?_
                    obtain ⟨v_7621, h_7622⟩ : ∃ v9 : Int32, v_7618 + i_7193 = v9 := ⟨_, rfl⟩
                    refine v_iadd hC dX12_readRow_128 h_7622 ?_
                    have h_7623 := add_v h_7622 (by first | omega | (simp only [Int32.lt_iff_toInt_lt, Int32.le_iff_toInt_le, Int32.reduceToInt, ← Int32.toInt_inj, true_and, and_true, or_true, true_or, false_or, or_false, false_and, and_false, not_true_eq_false, not_false_eq_true] <;> omega)) (by first | omega | (simp only [Int32.lt_iff_toInt_lt, Int32.le_iff_toInt_le, Int32.reduceToInt, ← Int32.toInt_inj, true_and, and_true, or_true, true_or, false_or, or_false, false_and, and_false, not_true_eq_false, not_false_eq_true] <;> omega))
                    refine v_aload_n hC dX12_readRow_129 rfl ?_
                    refine v_get hC fl_X12_24 m_1 hf_7198 rfl dX12_readRow_130 ?_
                    refine v_aload_n hC dX12_readRow_133 rfl ?_
                    refine v_get hC fl_X12_117 m_1 hf_7198 rfl dX12_readRow_134 ?_
                    refine v_iload hC dX12_readRow_137 rfl ?_
                    obtain ⟨v_7624, h_7625⟩ : ∃ v9 : Int32, v_5185 + i_7193 = v9 := ⟨_, rfl⟩
                    refine v_iadd hC dX12_readRow_139 h_7625 ?_
                    have h_7626 := add_v h_7625 (by first | omega | (simp only [Int32.lt_iff_toInt_lt, Int32.le_iff_toInt_le, Int32.reduceToInt, ← Int32.toInt_inj, true_and, and_true, or_true, true_or, false_or, or_false, false_and, and_false, not_true_eq_false, not_false_eq_true] <;> omega)) (by first | omega | (simp only [Int32.lt_iff_toInt_lt, Int32.le_iff_toInt_le, Int32.reduceToInt, ← Int32.toInt_inj, true_and, and_true, or_true, true_or, false_or, or_false, false_and, and_false, not_true_eq_false, not_false_eq_true] <;> omega))
                    obtain ⟨v_7627, h_7628⟩ : ∃ v9 : Int32, g_7605 (v_7624 : Int32).toNatClampNeg = v9 := ⟨_, rfl⟩
                    refine v_bald hC m_7602 e_7604 (vp_in_iff.mpr (by first | omega | (simp only [Int32.lt_iff_toInt_lt, Int32.le_iff_toInt_le, Int32.reduceToInt, ← Int32.toInt_inj, true_and, and_true, or_true, true_or, false_or, or_false, false_and, and_false, not_true_eq_false, not_false_eq_true] <;> omega))) h_7628 dX12_readRow_140 ?_
                    refine v_si hC (rest := [.int v_7621, .ref (q 14)]) mt_X12_signOf (p_X12_signOf hW_7196) mx_X12_signOf ml_X12_175 (by decide) rfl (cells1 := 0) (slots1 := 0) (by decide) (by decide) (Nat.le_of_ble_eq_true rfl) (Nat.le_of_ble_eq_true rfl) rfl (Nat.le_of_ble_eq_true rfl) dX12_readRow_141 (fun r_7629 L_7630 f_7631 h_7632 => ?_)
                    obtain ⟨rfl, rfl, b_7633, h_7634⟩ := h_7632
                    refine v_iast hC m_22 e_7209 (vp_in_iff.mpr (by first | omega | (simp only [Int32.lt_iff_toInt_lt, Int32.le_iff_toInt_le, Int32.reduceToInt, ← Int32.toInt_inj, true_and, and_true, or_true, true_or, false_or, or_false, false_and, and_false, not_true_eq_false, not_false_eq_true] <;> omega))) dX12_readRow_144 (fun f_7637 hf_7638 hk_7639 => ?_)
                    have hW_7641 := hW_7196.up hf_7638 hk_7639 t_23 ⟨_, rfl, (rr_7210.st (j := i_7193.toInt) (by omega) (by omega) (by omega) (by omega)).1⟩
                    obtain ⟨g_7640, hf_7638, ok_7642, eg_7643⟩ : ∃ g9, f_7637 (q 14) = aI E 2076 g9 ∧ FOK g9 ∧ g9 = upd g_7208 (v_7621 : Int32).toNatClampNeg r_7629 := ⟨_, hf_7638, (rr_7210.st (j := i_7193.toInt) (by omega) (by omega) (by omega) (by omega)).1, rfl⟩
                    have hf_7644 := (hk_7639 a_0 (ne_kd hf_7198 e_7209 rfl)).trans hf_7198
                    have hf_7645 := (hk_7639 (q 4) (ne_kd e_7604 e_7209 rfl)).trans e_7604
                    have fr_7646 := FR.w hk_7639 e_7209 (k := 2176) rfl
                    have rr_7647 : RR g_f g_7640 := by rw [eg_7643]; exact rr_7210.st (j := i_7193.toInt) (by omega) (by omega) (by omega) (by omega)
                    obtain ⟨v_7648, h_7649⟩ : ∃ v9 : Int32, i_7193 + Int32.ofInt 1 = v9 := ⟨_, rfl⟩
                    have h_7650 := add_v (b := 1) h_7649 (by first | omega | (simp only [Int32.lt_iff_toInt_lt, Int32.le_iff_toInt_le, Int32.reduceToInt, ← Int32.toInt_inj, true_and, and_true, or_true, true_or, false_or, or_false, false_and, and_false, not_true_eq_false, not_false_eq_true] <;> omega)) (by first | omega | (simp only [Int32.lt_iff_toInt_lt, Int32.le_iff_toInt_le, Int32.reduceToInt, ← Int32.toInt_inj, true_and, and_true, or_true, true_or, false_or, or_false, false_and, and_false, not_true_eq_false, not_false_eq_true] <;> omega))
                    simp only [Int32.reduceToInt] at h_7650
                    refine v_iinc hC dX12_readRow_145 (k := 1) rfl (v := v_7648) h_7649 (by decide) (lv' := [(4, .int v_7648), (2, .int 0), (3, .int v_5215), (1, .int v_5201), (0, .ref a_0)]) rfl ?_
                    refine v_goto hC dX12_readRow_148 (tgt := 77) (by decide) ?_
                    refine v_pick [0, 2, 1, 3, 4] rfl ?_
                    have fe_7651 : fld (f_7637 a_0) 10 = (v_5187 : Int32).toInt := by rw [hf_7644]; rfl
                    exact ih_7205 f_7637 hW_7641 ((hF_7197.tr fr_7646).mono rfl) v_7648 (by first | omega | (simp only [Int32.lt_iff_toInt_lt, Int32.le_iff_toInt_le, Int32.reduceToInt, ← Int32.toInt_inj, true_and, and_true, or_true, true_or, false_or, or_false, false_and, and_false, not_true_eq_false, not_false_eq_true] <;> omega)) 0 (by decide) (by rw [fe_7651] <;> first | omega | (simp only [Int32.lt_iff_toInt_lt, Int32.le_iff_toInt_le, Int32.reduceToInt, ← Int32.toInt_inj, true_and, and_true, or_true, true_or, false_or, or_false, false_and, and_false, not_true_eq_false, not_false_eq_true] <;> omega)) ⟨_, hf_7638, rr_7647⟩ (by first | omega | (simp only [Int32.lt_iff_toInt_lt, Int32.le_iff_toInt_le, Int32.reduceToInt, ← Int32.toInt_inj, true_and, and_true, or_true, true_or, false_or, or_false, false_and, and_false, not_true_eq_false, not_false_eq_true] <;> omega))
                  · simp only [Int32.lt_iff_toInt_lt, Int32.le_iff_toInt_le, Int32.reduceToInt, ← Int32.toInt_inj] at h_7617
                    refine v_iconst hC dX12_readRow_113 (v := 1) (by decide) ?_
                    refine v_goto hC dX12_readRow_114 (tgt := 118) (by decide) ?_
                    refine v_istore_n hC dX12_readRow_118 (by decide) (lv' := [(2, .int 1), (4, .int i_7193), (3, .int v_5215), (1, .int v_5201), (0, .ref a_0)]) rfl ?_
                    refine v_aload_n hC dX12_readRow_119 rfl ?_
                    refine v_get hC fl_X12_34 m_1 hf_7198 rfl dX12_readRow_120 ?_
                    refine v_iload_n hC dX12_readRow_123 rfl ?_
                    refine v_iconst hC dX12_readRow_124 (v := 1) (by decide) ?_
                    obtain ⟨v_7652, h_7653⟩ : ∃ v9 : Int32, v_5215 + 1 = v9 := ⟨_, rfl⟩
                    refine v_iadd hC dX12_readRow_125 h_7653 ?_
                    have h_7654 := add_v h_7653 (by first | omega | (simp only [Int32.lt_iff_toInt_lt, Int32.le_iff_toInt_le, Int32.reduceToInt, ← Int32.toInt_inj, true_and, and_true, or_true, true_or, false_or, or_false, false_and, and_false, not_true_eq_false, not_false_eq_true] <;> omega)) (by first | omega | (simp only [Int32.lt_iff_toInt_lt, Int32.le_iff_toInt_le, Int32.reduceToInt, ← Int32.toInt_inj, true_and, and_true, or_true, true_or, false_or, or_false, false_and, and_false, not_true_eq_false, not_false_eq_true] <;> omega))
                    try simp only [Int32.reduceToInt] at h_7654
                    refine v_iload hC dX12_readRow_126 rfl ?_
                    obtain ⟨v_7655, h_7656⟩ : ∃ v9 : Int32, v_7652 + i_7193 = v9 := ⟨_, rfl⟩
                    refine v_iadd hC dX12_readRow_128 h_7656 ?_
                    have h_7657 := add_v h_7656 (by first | omega | (simp only [Int32.lt_iff_toInt_lt, Int32.le_iff_toInt_le, Int32.reduceToInt, ← Int32.toInt_inj, true_and, and_true, or_true, true_or, false_or, or_false, false_and, and_false, not_true_eq_false, not_false_eq_true] <;> omega)) (by first | omega | (simp only [Int32.lt_iff_toInt_lt, Int32.le_iff_toInt_le, Int32.reduceToInt, ← Int32.toInt_inj, true_and, and_true, or_true, true_or, false_or, or_false, false_and, and_false, not_true_eq_false, not_false_eq_true] <;> omega))
                    refine v_aload_n hC dX12_readRow_129 rfl ?_
                    refine v_get hC fl_X12_24 m_1 hf_7198 rfl dX12_readRow_130 ?_
                    refine v_aload_n hC dX12_readRow_133 rfl ?_
                    refine v_get hC fl_X12_117 m_1 hf_7198 rfl dX12_readRow_134 ?_
                    refine v_iload hC dX12_readRow_137 rfl ?_
                    obtain ⟨v_7658, h_7659⟩ : ∃ v9 : Int32, v_5185 + i_7193 = v9 := ⟨_, rfl⟩
                    refine v_iadd hC dX12_readRow_139 h_7659 ?_
                    have h_7660 := add_v h_7659 (by first | omega | (simp only [Int32.lt_iff_toInt_lt, Int32.le_iff_toInt_le, Int32.reduceToInt, ← Int32.toInt_inj, true_and, and_true, or_true, true_or, false_or, or_false, false_and, and_false, not_true_eq_false, not_false_eq_true] <;> omega)) (by first | omega | (simp only [Int32.lt_iff_toInt_lt, Int32.le_iff_toInt_le, Int32.reduceToInt, ← Int32.toInt_inj, true_and, and_true, or_true, true_or, false_or, or_false, false_and, and_false, not_true_eq_false, not_false_eq_true] <;> omega))
                    obtain ⟨v_7661, h_7662⟩ : ∃ v9 : Int32, g_7605 (v_7658 : Int32).toNatClampNeg = v9 := ⟨_, rfl⟩
                    refine v_bald hC m_7602 e_7604 (vp_in_iff.mpr (by first | omega | (simp only [Int32.lt_iff_toInt_lt, Int32.le_iff_toInt_le, Int32.reduceToInt, ← Int32.toInt_inj, true_and, and_true, or_true, true_or, false_or, or_false, false_and, and_false, not_true_eq_false, not_false_eq_true] <;> omega))) h_7662 dX12_readRow_140 ?_
                    refine v_si hC (rest := [.int v_7655, .ref (q 14)]) mt_X12_signOf (p_X12_signOf hW_7196) mx_X12_signOf ml_X12_175 (by decide) rfl (cells1 := 0) (slots1 := 0) (by decide) (by decide) (Nat.le_of_ble_eq_true rfl) (Nat.le_of_ble_eq_true rfl) rfl (Nat.le_of_ble_eq_true rfl) dX12_readRow_141 (fun r_7663 L_7664 f_7665 h_7666 => ?_)
                    obtain ⟨rfl, rfl, b_7667, h_7668⟩ := h_7666
                    refine v_iast hC m_22 e_7209 (vp_in_iff.mpr (by first | omega | (simp only [Int32.lt_iff_toInt_lt, Int32.le_iff_toInt_le, Int32.reduceToInt, ← Int32.toInt_inj, true_and, and_true, or_true, true_or, false_or, or_false, false_and, and_false, not_true_eq_false, not_false_eq_true] <;> omega))) dX12_readRow_144 (fun f_7671 hf_7672 hk_7673 => ?_)
                    have hW_7675 := hW_7196.up hf_7672 hk_7673 t_23 ⟨_, rfl, (rr_7210.st (j := i_7193.toInt) (by omega) (by omega) (by omega) (by omega)).1⟩
                    obtain ⟨g_7674, hf_7672, ok_7676, eg_7677⟩ : ∃ g9, f_7671 (q 14) = aI E 2076 g9 ∧ FOK g9 ∧ g9 = upd g_7208 (v_7655 : Int32).toNatClampNeg r_7663 := ⟨_, hf_7672, (rr_7210.st (j := i_7193.toInt) (by omega) (by omega) (by omega) (by omega)).1, rfl⟩
                    have hf_7678 := (hk_7673 a_0 (ne_kd hf_7198 e_7209 rfl)).trans hf_7198
                    have hf_7679 := (hk_7673 (q 4) (ne_kd e_7604 e_7209 rfl)).trans e_7604
                    have fr_7680 := FR.w hk_7673 e_7209 (k := 2176) rfl
                    have rr_7681 : RR g_f g_7674 := by rw [eg_7677]; exact rr_7210.st (j := i_7193.toInt) (by omega) (by omega) (by omega) (by omega)
                    obtain ⟨v_7682, h_7683⟩ : ∃ v9 : Int32, i_7193 + Int32.ofInt 1 = v9 := ⟨_, rfl⟩
                    have h_7684 := add_v (b := 1) h_7683 (by first | omega | (simp only [Int32.lt_iff_toInt_lt, Int32.le_iff_toInt_le, Int32.reduceToInt, ← Int32.toInt_inj, true_and, and_true, or_true, true_or, false_or, or_false, false_and, and_false, not_true_eq_false, not_false_eq_true] <;> omega)) (by first | omega | (simp only [Int32.lt_iff_toInt_lt, Int32.le_iff_toInt_le, Int32.reduceToInt, ← Int32.toInt_inj, true_and, and_true, or_true, true_or, false_or, or_false, false_and, and_false, not_true_eq_false, not_false_eq_true] <;> omega))
                    simp only [Int32.reduceToInt] at h_7684
                    refine v_iinc hC dX12_readRow_145 (k := 1) rfl (v := v_7682) h_7683 (by decide) (lv' := [(4, .int v_7682), (2, .int 1), (3, .int v_5215), (1, .int v_5201), (0, .ref a_0)]) rfl ?_
                    refine v_goto hC dX12_readRow_148 (tgt := 77) (by decide) ?_
                    refine v_pick [0, 2, 1, 3, 4] rfl ?_
                    have fe_7685 : fld (f_7671 a_0) 10 = (v_5187 : Int32).toInt := by rw [hf_7678]; rfl
                    exact ih_7205 f_7671 hW_7675 ((hF_7197.tr fr_7680).mono rfl) v_7682 (by first | omega | (simp only [Int32.lt_iff_toInt_lt, Int32.le_iff_toInt_le, Int32.reduceToInt, ← Int32.toInt_inj, true_and, and_true, or_true, true_or, false_or, or_false, false_and, and_false, not_true_eq_false, not_false_eq_true] <;> omega)) 1 (by decide) (by rw [fe_7685] <;> first | omega | (simp only [Int32.lt_iff_toInt_lt, Int32.le_iff_toInt_le, Int32.reduceToInt, ← Int32.toInt_inj, true_and, and_true, or_true, true_or, false_or, or_false, false_and, and_false, not_true_eq_false, not_false_eq_true] <;> omega)) ⟨_, hf_7672, rr_7681⟩ (by first | omega | (simp only [Int32.lt_iff_toInt_lt, Int32.le_iff_toInt_le, Int32.reduceToInt, ← Int32.toInt_inj, true_and, and_true, or_true, true_or, false_or, or_false, false_and, and_false, not_true_eq_false, not_false_eq_true] <;> omega))
        refine v_pick [0, 1, 2, 3, 4] rfl ?_
        have fe_7686 : fld (f_5162 a_0) 10 = (v_5187 : Int32).toInt := by rw [e_5177]; rfl
        exact lp_7203 602 f_5162 hW_5168 FR.rf 0 (by decide) v_5207 (by first | omega | (simp only [Int32.lt_iff_toInt_lt, Int32.le_iff_toInt_le, Int32.reduceToInt, ← Int32.toInt_inj, true_and, and_true, or_true, true_or, false_or, or_false, false_and, and_false, not_true_eq_false, not_false_eq_true] <;> omega)) (by rw [fe_7686] <;> first | omega | (simp only [Int32.lt_iff_toInt_lt, Int32.le_iff_toInt_le, Int32.reduceToInt, ← Int32.toInt_inj, true_and, and_true, or_true, true_or, false_or, or_false, false_and, and_false, not_true_eq_false, not_false_eq_true] <;> omega)) ⟨_, hf_5176, (RR.rf o_f hPR)⟩ (by decide)
      refine v_icmp_ne hC dX12_readRow_46 (tgt := 59) (by decide) (fun h_5204 => ?_) (fun h_5204 => ?_)
      · simp only [Int32.lt_iff_toInt_lt, Int32.le_iff_toInt_le, Int32.reduceToInt, ← Int32.toInt_inj] at h_5204
        refine v_iconst hC dX12_readRow_59 (v := 0) (by decide) ?_
        refine v_pick [0, 1] rfl ?_
        have fe_7687 : fld (f_5162 a_0) 10 = (v_5187 : Int32).toInt := by rw [e_5177]; rfl
        exact jn_5206 0 (by decide) (by rw [fe_7687] <;> first | omega | (simp only [Int32.lt_iff_toInt_lt, Int32.le_iff_toInt_le, Int32.reduceToInt, ← Int32.toInt_inj, true_and, and_true, or_true, true_or, false_or, or_false, false_and, and_false, not_true_eq_false, not_false_eq_true] <;> omega))
      · simp only [Int32.lt_iff_toInt_lt, Int32.le_iff_toInt_le, Int32.reduceToInt, ← Int32.toInt_inj] at h_5204
        refine v_iload_n hC dX12_readRow_49 rfl ?_
        refine v_bipush hC dX12_readRow_50 (v := 12) (by decide) ?_
        refine v_icmp_gt hC dX12_readRow_52 (tgt := 59) (by decide) (fun h_7688 => ?_) (fun h_7688 => ?_)
        · simp only [Int32.lt_iff_toInt_lt, Int32.le_iff_toInt_le, Int32.reduceToInt, ← Int32.toInt_inj] at h_7688
          refine v_iconst hC dX12_readRow_59 (v := 0) (by decide) ?_
          refine v_pick [0, 1] rfl ?_
          have fe_7689 : fld (f_5162 a_0) 10 = (v_5187 : Int32).toInt := by rw [e_5177]; rfl
          exact jn_5206 0 (by decide) (by rw [fe_7689] <;> first | omega | (simp only [Int32.lt_iff_toInt_lt, Int32.le_iff_toInt_le, Int32.reduceToInt, ← Int32.toInt_inj, true_and, and_true, or_true, true_or, false_or, or_false, false_and, and_false, not_true_eq_false, not_false_eq_true] <;> omega))
        · simp only [Int32.lt_iff_toInt_lt, Int32.le_iff_toInt_le, Int32.reduceToInt, ← Int32.toInt_inj] at h_7688
          refine v_iconst hC dX12_readRow_55 (v := 1) (by decide) ?_
          refine v_goto hC dX12_readRow_56 (tgt := 60) (by decide) ?_
          refine v_pick [0, 1] rfl ?_
          have fe_7690 : fld (f_5162 a_0) 10 = (v_5187 : Int32).toInt := by rw [e_5177]; rfl
          exact jn_5206 1 (by decide) (by rw [fe_7690] <;> first | omega | (simp only [Int32.lt_iff_toInt_lt, Int32.le_iff_toInt_le, Int32.reduceToInt, ← Int32.toInt_inj, true_and, and_true, or_true, true_or, false_or, or_false, false_and, and_false, not_true_eq_false, not_false_eq_true] <;> omega))
set_option maxRecDepth 100000 in
set_option maxHeartbeats 8000000 in
theorem p_X12_isFree {l : Launch} {E : Ez} {L : List Nat} {f : Nat → va_E} {T : Nat → va_E → Prop} {a_0 : Nat} {a_1 : Int32} {q : Nat → Nat} {g_w : Nat → Int32} (hW : WT T L f) (k_0 : isM T L E a_0 q) (g_1 : (0 ≤ a_1.toInt)) (e_w : f (q 1) = aI E 2076 g_w) (o_w : WOK g_w) (hpt : 1 ≤ (g_w 0).toInt) : CI l yX12_isFree cX12_isFree 2 .boolean 2 0 0 E [.ref a_0, .int a_1] L f (fun r L1 f1 => L = L1 ∧ f = f1 ∧ (0 ≤ r.toInt ∧ r.toInt ≤ 1)) := by
  refine ci_of (by decide) (Nat.le_of_ble_eq_true rfl) (fun z hz hnm hC hR => ?_)
  have hC : Cx z E cX12_isFree RX12 2 2 0 0 := hC
  subst hz
  show V z E 2 0 0 L f 0 [(0, .ref a_0), (1, .int a_1)] []
  obtain ⟨m_1, t_2, nq_21, k_3, k_4, k_5, k_6, k_7, k_8, k_9, k_10, k_11, k_12, k_13, k_14, k_15, k_16, k_17, k_18, k_19, k_20⟩ := id k_0
  obtain ⟨m_22, t_23⟩ := id k_3
  have b_24 := o_w.r0
  have b_25 := o_w.w0
  refine v_aload_n hC dX12_isFree_0 rfl ?_
  refine v_iload_n hC dX12_isFree_1 rfl ?_
  obtain ⟨v_27, v_28, v_30, v_32, v_34, v_36, v_38, v_39, v_40, v_41, v_43, e_26, b_29, b_31, b_33, b_35, b_37, b_42, b_44⟩ := hW.at m_1 t_2
  refine v_vi hC (rest := []) m_1 e_26 rfl mi_X12_sortOf ms_X12_sortOf (p_X12_sortOf hW k_0 (by first | omega | (simp only [Int32.lt_iff_toInt_lt, Int32.le_iff_toInt_le, Int32.reduceToInt, ← Int32.toInt_inj, true_and, and_true, or_true, true_or, false_or, or_false, false_and, and_false, not_true_eq_false, not_false_eq_true] <;> omega)) e_w o_w (by first | omega | (simp only [Int32.lt_iff_toInt_lt, Int32.le_iff_toInt_le, Int32.reduceToInt, ← Int32.toInt_inj, true_and, and_true, or_true, true_or, false_or, or_false, false_and, and_false, not_true_eq_false, not_false_eq_true] <;> omega))) mx_X12_sortOf ml_X12_98 (by decide) rfl (cells1 := 0) (slots1 := 0) (by decide) (by decide) (Nat.le_of_ble_eq_true rfl) (Nat.le_of_ble_eq_true rfl) rfl (Nat.le_of_ble_eq_true rfl) dX12_isFree_2 (fun r_45 L_46 f_47 h_48 => ?_)
  obtain ⟨rfl, rfl, b_49⟩ := h_48
  refine v_iconst hC dX12_isFree_5 (v := 1) (by decide) ?_
  refine v_icmp_le hC dX12_isFree_6 (tgt := 13) (by decide) (fun h_52 => ?_) (fun h_52 => ?_)
  · simp only [Int32.lt_iff_toInt_lt, Int32.le_iff_toInt_le, Int32.reduceToInt, ← Int32.toInt_inj] at h_52
    refine v_iconst hC dX12_isFree_13 (v := 0) (by decide) ?_
    exact hR _ _ _ _ _ _ _ dX12_isFree_14 rfl (Nat.le_of_ble_eq_true rfl) (Nat.le_of_ble_eq_true rfl) ⟨rfl, rfl, (by decide)⟩
  · simp only [Int32.lt_iff_toInt_lt, Int32.le_iff_toInt_le, Int32.reduceToInt, ← Int32.toInt_inj] at h_52
    refine v_iconst hC dX12_isFree_9 (v := 1) (by decide) ?_
    refine v_goto hC dX12_isFree_10 (tgt := 14) (by decide) ?_
    exact hR _ _ _ _ _ _ _ dX12_isFree_14 rfl (Nat.le_of_ble_eq_true rfl) (Nat.le_of_ble_eq_true rfl) ⟨rfl, rfl, (by decide)⟩
set_option maxRecDepth 100000 in
set_option maxHeartbeats 8000000 in
theorem p_X12_frees {l : Launch} {E : Ez} {L : List Nat} {f : Nat → va_E} {T : Nat → va_E → Prop} {a_0 : Nat} {q : Nat → Nat} {g_w : Nat → Int32} (hW : WT T L f) (k_0 : isM T L E a_0 q) (e_w : f (q 1) = aI E 2076 g_w) (o_w : WOK g_w) : CI l yX12_frees cX12_frees 3 .int 3 0 0 E [.ref a_0] L f (fun r L1 f1 => L = L1 ∧ f = f1) := by
  refine ci_of (by decide) (Nat.le_of_ble_eq_true rfl) (fun z hz hnm hC hR => ?_)
  have hC : Cx z E cX12_frees RX12 3 3 0 0 := hC
  subst hz
  show V z E 3 0 0 L f 0 [(0, .ref a_0)] []
  obtain ⟨m_1, t_2, nq_21, k_3, k_4, k_5, k_6, k_7, k_8, k_9, k_10, k_11, k_12, k_13, k_14, k_15, k_16, k_17, k_18, k_19, k_20⟩ := id k_0
  obtain ⟨m_22, t_23⟩ := id k_3
  have b_24 := o_w.r0
  have b_25 := o_w.w0
  refine v_iconst hC dX12_frees_0 (v := 0) (by decide) ?_
  refine v_istore_n hC dX12_frees_1 (by decide) (lv' := [(1, .int 0), (0, .ref a_0)]) rfl ?_
  refine v_iconst hC dX12_frees_2 (v := 0) (by decide) ?_
  refine v_istore_n hC dX12_frees_3 (by decide) (lv' := [(2, .int 0), (1, .int 0), (0, .ref a_0)]) rfl ?_
  have lp_500 : ∀ (n_501 : Nat) (i_497 : Int32) (b_499 : (0 ≤ i_497.toInt ∧ i_497.toInt ≤ 256)) (i_498 : Int32) (hm_503 : 256 - i_497.toInt < (n_501 : Int)), V z E 3 0 0 L f 4 [(2, .int i_497), (1, .int i_498), (0, .ref a_0)] [] := by
    intro n_501
    induction n_501 with
    | zero =>
      intro i_497 b_499 i_498 hm_503
      exfalso; omega
    | succ n_501 ih_502 =>
      intro i_497 b_499 i_498 hm_503
      refine v_iload_n hC dX12_frees_4 rfl ?_
      refine v_aload_n hC dX12_frees_5 rfl ?_
      obtain ⟨v_505, v_506, v_508, v_510, v_512, v_514, v_516, v_517, v_518, v_519, v_521, e_504, b_507, b_509, b_511, b_513, b_515, b_520, b_522⟩ := hW.at m_1 t_2
      refine v_vi hC (rest := [.int i_497]) m_1 e_504 rfl mi_X12_area ms_X12_area (p_X12_area hW k_0 e_w o_w) mx_X12_area ml_X12_203 (by decide) rfl (cells1 := 0) (slots1 := 0) (by decide) (by decide) (Nat.le_of_ble_eq_true rfl) (Nat.le_of_ble_eq_true rfl) rfl (Nat.le_of_ble_eq_true rfl) dX12_frees_6 (fun r_523 L_524 f_525 h_526 => ?_)
      obtain ⟨rfl, rfl, rfl⟩ := h_526
      have ar_529 := area_v o_w
      refine v_icmp_ge hC dX12_frees_9 (tgt := 34) (by decide) (fun h_530 => ?_) (fun h_530 => ?_)
      · simp only [Int32.lt_iff_toInt_lt, Int32.le_iff_toInt_le, Int32.reduceToInt, ← Int32.toInt_inj] at h_530
        refine v_iload_n hC dX12_frees_34 rfl ?_
        exact hR _ _ _ _ _ _ _ dX12_frees_35 rfl (Nat.le_of_ble_eq_true rfl) (Nat.le_of_ble_eq_true rfl) ⟨rfl, rfl⟩
      · simp only [Int32.lt_iff_toInt_lt, Int32.le_iff_toInt_le, Int32.reduceToInt, ← Int32.toInt_inj] at h_530
        refine v_iload_n hC dX12_frees_12 rfl ?_
        refine v_aload_n hC dX12_frees_13 rfl ?_
        refine v_iload_n hC dX12_frees_14 rfl ?_
        refine v_vi hC (rest := [.int i_498]) m_1 e_504 rfl mi_X12_isFree ms_X12_isFree (p_X12_isFree hW k_0 (by first | omega | (simp only [Int32.lt_iff_toInt_lt, Int32.le_iff_toInt_le, Int32.reduceToInt, ← Int32.toInt_inj, true_and, and_true, or_true, true_or, false_or, or_false, false_and, and_false, not_true_eq_false, not_false_eq_true] <;> omega)) e_w o_w (by first | omega | (simp only [Int32.lt_iff_toInt_lt, Int32.le_iff_toInt_le, Int32.reduceToInt, ← Int32.toInt_inj, true_and, and_true, or_true, true_or, false_or, or_false, false_and, and_false, not_true_eq_false, not_false_eq_true] <;> omega))) mx_X12_isFree ml_X12_206 (by decide) rfl (cells1 := 0) (slots1 := 0) (by decide) (by decide) (Nat.le_of_ble_eq_true rfl) (Nat.le_of_ble_eq_true rfl) rfl (Nat.le_of_ble_eq_true rfl) dX12_frees_15 (fun r_531 L_532 f_533 h_534 => ?_)
        obtain ⟨rfl, rfl, b_535⟩ := h_534
        refine v_if_eq hC dX12_frees_18 (tgt := 25) (by decide) (fun h_538 => ?_) (fun h_538 => ?_)
        · simp only [Int32.lt_iff_toInt_lt, Int32.le_iff_toInt_le, Int32.reduceToInt, ← Int32.toInt_inj] at h_538
          refine v_iconst hC dX12_frees_25 (v := 0) (by decide) ?_
          obtain ⟨v_539, h_540⟩ : ∃ v9 : Int32, i_498 + 0 = v9 := ⟨_, rfl⟩
          refine v_iadd hC dX12_frees_26 h_540 ?_
          have rg_542 := Int32.toInt_lt i_498
          have rg_543 := Int32.le_toInt i_498
          have h_541 := add_v h_540 (by first | omega | (simp only [Int32.lt_iff_toInt_lt, Int32.le_iff_toInt_le, Int32.reduceToInt, ← Int32.toInt_inj, true_and, and_true, or_true, true_or, false_or, or_false, false_and, and_false, not_true_eq_false, not_false_eq_true] <;> omega)) (by first | omega | (simp only [Int32.lt_iff_toInt_lt, Int32.le_iff_toInt_le, Int32.reduceToInt, ← Int32.toInt_inj, true_and, and_true, or_true, true_or, false_or, or_false, false_and, and_false, not_true_eq_false, not_false_eq_true] <;> omega))
          try simp only [Int32.reduceToInt] at h_541
          refine v_istore_n hC dX12_frees_27 (by decide) (lv' := [(1, .int v_539), (2, .int i_497), (0, .ref a_0)]) rfl ?_
          obtain ⟨v_544, h_545⟩ : ∃ v9 : Int32, i_497 + Int32.ofInt 1 = v9 := ⟨_, rfl⟩
          have h_546 := add_v (b := 1) h_545 (by first | omega | (simp only [Int32.lt_iff_toInt_lt, Int32.le_iff_toInt_le, Int32.reduceToInt, ← Int32.toInt_inj, true_and, and_true, or_true, true_or, false_or, or_false, false_and, and_false, not_true_eq_false, not_false_eq_true] <;> omega)) (by first | omega | (simp only [Int32.lt_iff_toInt_lt, Int32.le_iff_toInt_le, Int32.reduceToInt, ← Int32.toInt_inj, true_and, and_true, or_true, true_or, false_or, or_false, false_and, and_false, not_true_eq_false, not_false_eq_true] <;> omega))
          simp only [Int32.reduceToInt] at h_546
          refine v_iinc hC dX12_frees_28 (k := 1) rfl (v := v_544) h_545 (by decide) (lv' := [(2, .int v_544), (1, .int v_539), (0, .ref a_0)]) rfl ?_
          refine v_goto hC dX12_frees_31 (tgt := 4) (by decide) ?_
          refine v_pick [0, 1, 2] rfl ?_
          exact ih_502 v_544 (by first | omega | (simp only [Int32.lt_iff_toInt_lt, Int32.le_iff_toInt_le, Int32.reduceToInt, ← Int32.toInt_inj, true_and, and_true, or_true, true_or, false_or, or_false, false_and, and_false, not_true_eq_false, not_false_eq_true] <;> omega)) v_539 (by first | omega | (simp only [Int32.lt_iff_toInt_lt, Int32.le_iff_toInt_le, Int32.reduceToInt, ← Int32.toInt_inj, true_and, and_true, or_true, true_or, false_or, or_false, false_and, and_false, not_true_eq_false, not_false_eq_true] <;> omega))
        · simp only [Int32.lt_iff_toInt_lt, Int32.le_iff_toInt_le, Int32.reduceToInt, ← Int32.toInt_inj] at h_538
          refine v_iconst hC dX12_frees_21 (v := 1) (by decide) ?_
          refine v_goto hC dX12_frees_22 (tgt := 26) (by decide) ?_
          obtain ⟨v_547, h_548⟩ : ∃ v9 : Int32, i_498 + 1 = v9 := ⟨_, rfl⟩
          refine v_iadd hC dX12_frees_26 h_548 ?_
          refine v_istore_n hC dX12_frees_27 (by decide) (lv' := [(1, .int v_547), (2, .int i_497), (0, .ref a_0)]) rfl ?_
          obtain ⟨v_550, h_551⟩ : ∃ v9 : Int32, i_497 + Int32.ofInt 1 = v9 := ⟨_, rfl⟩
          have h_552 := add_v (b := 1) h_551 (by first | omega | (simp only [Int32.lt_iff_toInt_lt, Int32.le_iff_toInt_le, Int32.reduceToInt, ← Int32.toInt_inj, true_and, and_true, or_true, true_or, false_or, or_false, false_and, and_false, not_true_eq_false, not_false_eq_true] <;> omega)) (by first | omega | (simp only [Int32.lt_iff_toInt_lt, Int32.le_iff_toInt_le, Int32.reduceToInt, ← Int32.toInt_inj, true_and, and_true, or_true, true_or, false_or, or_false, false_and, and_false, not_true_eq_false, not_false_eq_true] <;> omega))
          simp only [Int32.reduceToInt] at h_552
          refine v_iinc hC dX12_frees_28 (k := 1) rfl (v := v_550) h_551 (by decide) (lv' := [(2, .int v_550), (1, .int v_547), (0, .ref a_0)]) rfl ?_
          refine v_goto hC dX12_frees_31 (tgt := 4) (by decide) ?_
          refine v_pick [0, 1, 2] rfl ?_
          exact ih_502 v_550 (by first | omega | (simp only [Int32.lt_iff_toInt_lt, Int32.le_iff_toInt_le, Int32.reduceToInt, ← Int32.toInt_inj, true_and, and_true, or_true, true_or, false_or, or_false, false_and, and_false, not_true_eq_false, not_false_eq_true] <;> omega)) v_547 (by first | omega | (simp only [Int32.lt_iff_toInt_lt, Int32.le_iff_toInt_le, Int32.reduceToInt, ← Int32.toInt_inj, true_and, and_true, or_true, true_or, false_or, or_false, false_and, and_false, not_true_eq_false, not_false_eq_true] <;> omega))
  refine v_pick [0, 1, 2] rfl ?_
  exact lp_500 258 0 (by decide) 0 (by decide)
set_option maxRecDepth 100000 in
set_option maxHeartbeats 8000000 in
theorem p_X12_pattern {l : Launch} {E : Ez} {L : List Nat} {f : Nat → va_E} {T : Nat → va_E → Prop} {a_0 : Nat} {q : Nat → Nat} (hW : WT T L f) (k_0 : isM T L E a_0 q) : CI l yX12_pattern cX12_pattern 2 .int 8 0 0 E [.ref a_0] L f (fun r L1 f1 => L = L1 ∧ WT T L f1 ∧ FR [12, 2176] f f1) := by
  refine ci_of (by decide) (Nat.le_of_ble_eq_true rfl) (fun z hz hnm hC hR => ?_)
  have hC : Cx z E cX12_pattern RX12 2 8 0 0 := hC
  subst hz
  show V z E 2 0 0 L f 0 [(0, .ref a_0)] []
  obtain ⟨m_1, t_2, nq_21, k_3, k_4, k_5, k_6, k_7, k_8, k_9, k_10, k_11, k_12, k_13, k_14, k_15, k_16, k_17, k_18, k_19, k_20⟩ := id k_0
  refine v_aload_n hC dX12_pattern_0 rfl ?_
  obtain ⟨v_23, v_24, v_26, v_28, v_30, v_32, v_34, v_35, v_36, v_37, v_39, e_22, b_25, b_27, b_29, b_31, b_33, b_38, b_40⟩ := hW.at m_1 t_2
  refine v_vv hC (rest := []) m_1 e_22 rfl mi_X12_begin ms_X12_begin (p_X12_begin hW k_0) mx_X12_begin ml_X12_181 (by decide) rfl (cells1 := 0) (slots1 := 0) (by decide) (by decide) (Nat.le_of_ble_eq_true rfl) (Nat.le_of_ble_eq_true rfl) rfl (Nat.le_of_ble_eq_true rfl) dX12_pattern_1 (fun L_42 f_43 h_44 => ?_)
  obtain ⟨rfl, hW_48, hF_49, x_45, x_46, x_47⟩ := h_44
  have fe_50 : fld (f a_0) 20 = (v_39 : Int32).toInt := by rw [e_22]; rfl
  obtain ⟨v_52, v_53, v_55, v_57, v_59, v_61, v_63, v_64, v_65, v_66, v_68, e_51, b_54, b_56, b_58, b_60, b_62, b_67, b_69⟩ := hW_48.at m_1 t_2
  have fe_70 : fld (f_43 a_0) 8 = (v_57 : Int32).toInt := by rw [e_51]; rfl
  have fe_71 : fld (f_43 a_0) 12 = (v_64 : Int32).toInt := by rw [e_51]; rfl
  have fe_72 : fld (f_43 a_0) 20 = (v_68 : Int32).toInt := by rw [e_51]; rfl
  rw [fe_71] at x_45
  rw [fe_70] at x_46
  rw [fe_72, fe_50] at x_47
  clear fe_50 fe_70 fe_71 fe_72
  refine v_aload_n hC dX12_pattern_4 rfl ?_
  refine v_iconst hC dX12_pattern_5 (v := 0) (by decide) ?_
  refine v_bipush hC dX12_pattern_6 (v := 120) (by decide) ?_
  obtain ⟨m_73, t_74⟩ := id k_3
  obtain ⟨g_76, e_75, ok_77⟩ := hW_48.at m_73 t_74
  have b_78 := ok_77.r0
  have b_79 := ok_77.w0
  obtain ⟨m_80, t_81⟩ := id k_8
  obtain ⟨g_83, e_82, ok_84⟩ := hW_48.at m_80 t_81
  refine v_vv hC (rest := []) m_1 e_51 rfl mi_X12_clears ms_X12_clears (p_X12_clears k_0 e_51 e_82 (by decide)) mx_X12_clears ml_X12_184 (by decide) rfl (cells1 := 0) (slots1 := 0) (by decide) (by decide) (Nat.le_of_ble_eq_true rfl) (Nat.le_of_ble_eq_true rfl) rfl (Nat.le_of_ble_eq_true rfl) dX12_pattern_8 (fun L_86 f_87 h_88 => ?_)
  obtain ⟨rfl, hf_89, hk_90⟩ := h_88
  have hf_91 := (hk_90 a_0 (ne_kd e_51 e_82 rfl)).trans e_51
  have hf_92 := (hk_90 (q 1) nq_21).trans e_75
  obtain ⟨g_95, e_96, ok_94, eg_97⟩ : ∃ g9, f_87 (q 14) = aI E 2076 g9 ∧ FOK g9 ∧ g9 = (va_cpy (fun _ => 0) g_83 (0 : Int32).toNatClampNeg (0 : Int32).toNatClampNeg ((120 : Int32).toNatClampNeg - (0 : Int32).toNatClampNeg)) := ⟨_, hf_89, (ok_84.clr _ _), rfl⟩
  have hW_93 := hW_48.up e_96 hk_90 t_81 ⟨_, rfl, ok_94⟩
  have fr_98 := FR.w hk_90 e_82 (k := 2176) rfl
  have gz_99 : g_95 2 = 0 := by rw [eg_97]; rfl
  refine v_aload_n hC dX12_pattern_11 rfl ?_
  refine v_vv hC (rest := []) m_1 hf_91 rfl mi_X12_advance ms_X12_advance (p_X12_advance hW_93 k_0) mx_X12_advance ml_X12_156 (by decide) rfl (cells1 := 0) (slots1 := 0) (by decide) (by decide) (Nat.le_of_ble_eq_true rfl) (Nat.le_of_ble_eq_true rfl) rfl (Nat.le_of_ble_eq_true rfl) dX12_pattern_12 (fun L_101 f_102 h_103 => ?_)
  obtain ⟨rfl, hW_108, hF_109, x_104, x_105, x_106, x_107⟩ := h_103
  have fe_110 : fld (f_87 a_0) 8 = (v_57 : Int32).toInt := by rw [hf_91]; rfl
  have fe_111 : fld (f_87 a_0) 12 = (v_64 : Int32).toInt := by rw [hf_91]; rfl
  have fe_112 : fld (f_87 a_0) 20 = (v_68 : Int32).toInt := by rw [hf_91]; rfl
  have hf_113 := hF_109.at hf_92 rfl
  have hf_114 := hF_109.at e_96 rfl
  obtain ⟨v_116, v_117, v_119, v_121, v_123, v_125, v_127, v_128, v_129, v_130, v_132, e_115, b_118, b_120, b_122, b_124, b_126, b_131, b_133⟩ := hW_108.at m_1 t_2
  have fe_134 : fld (f_102 a_0) 8 = (v_121 : Int32).toInt := by rw [e_115]; rfl
  have fe_135 : fld (f_102 a_0) 9 = (v_123 : Int32).toInt := by rw [e_115]; rfl
  have fe_136 : fld (f_102 a_0) 10 = (v_125 : Int32).toInt := by rw [e_115]; rfl
  have fe_137 : fld (f_102 a_0) 12 = (v_128 : Int32).toInt := by rw [e_115]; rfl
  have fe_138 : fld (f_102 a_0) 20 = (v_132 : Int32).toInt := by rw [e_115]; rfl
  rw [fe_110, fe_135, fe_134] at x_104
  rw [fe_136, fe_135, fe_134] at x_105
  rw [fe_137, fe_111] at x_106
  rw [fe_138, fe_112] at x_107
  clear fe_110 fe_111 fe_112 fe_134 fe_135 fe_136 fe_137 fe_138
  refine v_aload_n hC dX12_pattern_15 rfl ?_
  refine v_get hC fl_X12_34 m_1 e_115 rfl dX12_pattern_16 ?_
  refine v_iconst hC dX12_pattern_19 (v := 1) (by decide) ?_
  refine v_aload_n hC dX12_pattern_20 rfl ?_
  refine v_ldcS hC sr_X12_188 dX12_pattern_21 ?_
  refine v_iconst hC dX12_pattern_23 (v := 1) (by decide) ?_
  refine v_bipush hC dX12_pattern_24 (v := 16) (by decide) ?_
  refine v_vi hC (rest := [.int 1, .ref (q 14)]) m_1 e_115 rfl mi_X12_told ms_X12_told (p_X12_told hW_108 k_0 (by decide)) mx_X12_told ml_X12_189 (by decide) rfl (cells1 := 0) (slots1 := 0) (by decide) (by decide) (Nat.le_of_ble_eq_true rfl) (Nat.le_of_ble_eq_true rfl) rfl (Nat.le_of_ble_eq_true rfl) dX12_pattern_26 (fun r_139 L_140 f_141 h_142 => ?_)
  obtain ⟨rfl, hW_148, hF_149, x_143, x_144, x_145, x_146, x_147, -⟩ := h_142
  have fe_150 : fld (f_102 a_0) 8 = (v_121 : Int32).toInt := by rw [e_115]; rfl
  have fe_151 : fld (f_102 a_0) 9 = (v_123 : Int32).toInt := by rw [e_115]; rfl
  have fe_152 : fld (f_102 a_0) 10 = (v_125 : Int32).toInt := by rw [e_115]; rfl
  have fe_153 : fld (f_102 a_0) 12 = (v_128 : Int32).toInt := by rw [e_115]; rfl
  have fe_154 : fld (f_102 a_0) 20 = (v_132 : Int32).toInt := by rw [e_115]; rfl
  have ib_155 := iw_b (f_102 a_0) (f_102 (q 4)) 40
  have ln_156 : ((bytStr.getD 40 []).length : Int) = 4 := by rfl
  rw [fe_153, fe_152, fe_150, fe_151] at ib_155
  have hf_157 := hF_149.at hf_113 rfl
  have hf_158 := hF_149.at hf_114 rfl
  obtain ⟨v_160, v_161, v_163, v_165, v_167, v_169, v_171, v_172, v_173, v_174, v_176, e_159, b_162, b_164, b_166, b_168, b_170, b_175, b_177⟩ := hW_148.at m_1 t_2
  have fe_178 : fld (f_141 a_0) 8 = (v_165 : Int32).toInt := by rw [e_159]; rfl
  have fe_179 : fld (f_141 a_0) 9 = (v_167 : Int32).toInt := by rw [e_159]; rfl
  have fe_180 : fld (f_141 a_0) 10 = (v_169 : Int32).toInt := by rw [e_159]; rfl
  have fe_181 : fld (f_141 a_0) 12 = (v_172 : Int32).toInt := by rw [e_159]; rfl
  have fe_182 : fld (f_141 a_0) 20 = (v_176 : Int32).toInt := by rw [e_159]; rfl
  rw [fe_181, fe_153] at x_143
  rw [fe_181, fe_150, fe_179, fe_178] at x_144
  rw [fe_181, fe_180, fe_179, fe_178] at x_145
  rw [fe_181] at x_146
  rw [fe_182, fe_154] at x_147
  clear fe_150 fe_151 fe_152 fe_153 fe_154 fe_178 fe_179 fe_180 fe_181 fe_182
  try simp only [Int32.reduceToInt, Int64.reduceToInt] at x_143
  try simp only [Int32.reduceToInt, Int64.reduceToInt] at x_144
  try simp only [Int32.reduceToInt, Int64.reduceToInt] at x_145
  try simp only [Int32.reduceToInt, Int64.reduceToInt] at x_146
  try simp only [Int32.reduceToInt, Int64.reduceToInt] at x_147
  refine v_iast hC m_80 hf_158 (vp_in_iff.mpr (by decide)) dX12_pattern_29 (fun f_183 hf_184 hk_185 => ?_)
  have hW_187 := hW_148.up hf_184 hk_185 t_81 ⟨_, rfl, (ok_94.up (i := 1) (by decide) (fun q1 q2 => absurd (And.intro q1 q2) (by decide)) (fun k9 q1 q2 q3 => by simp only [Int32.reduceToInt] at q3; omega))⟩
  obtain ⟨g_186, hf_184, ok_188, eg_189⟩ : ∃ g9, f_183 (q 14) = aI E 2076 g9 ∧ FOK g9 ∧ g9 = upd g_95 (1 : Int32).toNatClampNeg r_139 := ⟨_, hf_184, (ok_94.up (i := 1) (by decide) (fun q1 q2 => absurd (And.intro q1 q2) (by decide)) (fun k9 q1 q2 q3 => by simp only [Int32.reduceToInt] at q3; omega)), rfl⟩
  have hf_190 := (hk_185 a_0 (ne_kd e_159 hf_158 rfl)).trans e_159
  have fr_191 := FR.w hk_185 hf_158 (k := 2176) rfl
  have gz_192 : g_186 2 = 0 := by rw [eg_189]; exact gz_99
  have co_193 : g_186 1 = r_139 := by rw [eg_189]; rfl
  refine v_aload_n hC dX12_pattern_30 rfl ?_
  refine v_get hC fl_X12_34 m_1 hf_190 rfl dX12_pattern_31 ?_
  refine v_iconst hC dX12_pattern_34 (v := 0) (by decide) ?_
  refine v_aload_n hC dX12_pattern_35 rfl ?_
  refine v_ldcS hC sr_X12_193 dX12_pattern_36 ?_
  refine v_iconst hC dX12_pattern_38 (v := 1) (by decide) ?_
  refine v_bipush hC dX12_pattern_39 (v := 16) (by decide) ?_
  refine v_vi hC (rest := [.int 0, .ref (q 14)]) m_1 hf_190 rfl mi_X12_told ms_X12_told (p_X12_told hW_187 k_0 (by decide)) mx_X12_told ml_X12_189 (by decide) rfl (cells1 := 0) (slots1 := 0) (by decide) (by decide) (Nat.le_of_ble_eq_true rfl) (Nat.le_of_ble_eq_true rfl) rfl (Nat.le_of_ble_eq_true rfl) dX12_pattern_41 (fun r_194 L_195 f_196 h_197 => ?_)
  obtain ⟨rfl, hW_203, hF_204, x_198, x_199, x_200, x_201, x_202, -⟩ := h_197
  have fe_205 : fld (f_183 a_0) 8 = (v_165 : Int32).toInt := by rw [hf_190]; rfl
  have fe_206 : fld (f_183 a_0) 9 = (v_167 : Int32).toInt := by rw [hf_190]; rfl
  have fe_207 : fld (f_183 a_0) 10 = (v_169 : Int32).toInt := by rw [hf_190]; rfl
  have fe_208 : fld (f_183 a_0) 12 = (v_172 : Int32).toInt := by rw [hf_190]; rfl
  have fe_209 : fld (f_183 a_0) 20 = (v_176 : Int32).toInt := by rw [hf_190]; rfl
  have ib_210 := iw_b (f_183 a_0) (f_183 (q 4)) 41
  have ln_211 : ((bytStr.getD 41 []).length : Int) = 4 := by rfl
  rw [fe_208, fe_207, fe_205, fe_206] at ib_210
  have hf_212 := hF_204.at hf_184 rfl
  obtain ⟨v_214, v_215, v_217, v_219, v_221, v_223, v_225, v_226, v_227, v_228, v_230, e_213, b_216, b_218, b_220, b_222, b_224, b_229, b_231⟩ := hW_203.at m_1 t_2
  have fe_232 : fld (f_196 a_0) 8 = (v_219 : Int32).toInt := by rw [e_213]; rfl
  have fe_233 : fld (f_196 a_0) 9 = (v_221 : Int32).toInt := by rw [e_213]; rfl
  have fe_234 : fld (f_196 a_0) 10 = (v_223 : Int32).toInt := by rw [e_213]; rfl
  have fe_235 : fld (f_196 a_0) 12 = (v_226 : Int32).toInt := by rw [e_213]; rfl
  have fe_236 : fld (f_196 a_0) 20 = (v_230 : Int32).toInt := by rw [e_213]; rfl
  rw [fe_235, fe_208] at x_198
  rw [fe_235, fe_205, fe_233, fe_232] at x_199
  rw [fe_235, fe_234, fe_233, fe_232] at x_200
  rw [fe_235] at x_201
  rw [fe_236, fe_209] at x_202
  clear fe_205 fe_206 fe_207 fe_208 fe_209 fe_232 fe_233 fe_234 fe_235 fe_236
  try simp only [Int32.reduceToInt, Int64.reduceToInt] at x_198
  try simp only [Int32.reduceToInt, Int64.reduceToInt] at x_199
  try simp only [Int32.reduceToInt, Int64.reduceToInt] at x_200
  try simp only [Int32.reduceToInt, Int64.reduceToInt] at x_201
  try simp only [Int32.reduceToInt, Int64.reduceToInt] at x_202
  refine v_iast hC m_80 hf_212 (vp_in_iff.mpr (by decide)) dX12_pattern_44 (fun f_237 hf_238 hk_239 => ?_)
  have hW_241 := hW_203.up hf_238 hk_239 t_81 ⟨_, rfl, (ok_188.up (i := 0) (by decide) (fun q1 q2 => absurd (And.intro q1 q2) (by decide)) (fun k9 q1 q2 q3 => by simp only [Int32.reduceToInt] at q3; omega))⟩
  obtain ⟨g_240, hf_238, ok_242, eg_243⟩ : ∃ g9, f_237 (q 14) = aI E 2076 g9 ∧ FOK g9 ∧ g9 = upd g_186 (0 : Int32).toNatClampNeg r_194 := ⟨_, hf_238, (ok_188.up (i := 0) (by decide) (fun q1 q2 => absurd (And.intro q1 q2) (by decide)) (fun k9 q1 q2 q3 => by simp only [Int32.reduceToInt] at q3; omega)), rfl⟩
  have hf_244 := (hk_239 a_0 (ne_kd e_213 hf_212 rfl)).trans e_213
  have fr_245 := FR.w hk_239 hf_212 (k := 2176) rfl
  have gz_246 : g_240 2 = 0 := by rw [eg_243]; exact gz_192
  have cz_247 : g_240 0 = r_194 := by rw [eg_243]; rfl
  have co_248 : g_240 1 = r_139 := by rw [eg_243]; exact co_193
  refine v_aload_n hC dX12_pattern_45 rfl ?_
  refine v_vv hC (rest := []) m_1 hf_244 rfl mi_X12_ends ms_X12_ends (p_X12_ends hW_241 k_0) mx_X12_ends ml_X12_178 (by decide) rfl (cells1 := 0) (slots1 := 0) (by decide) (by decide) (Nat.le_of_ble_eq_true rfl) (Nat.le_of_ble_eq_true rfl) rfl (Nat.le_of_ble_eq_true rfl) dX12_pattern_46 (fun L_250 f_251 h_252 => ?_)
  obtain ⟨rfl, hW_257, hF_258, x_253, x_254, x_255, x_256, -⟩ := h_252
  have fe_259 : fld (f_237 a_0) 8 = (v_219 : Int32).toInt := by rw [hf_244]; rfl
  have fe_260 : fld (f_237 a_0) 10 = (v_223 : Int32).toInt := by rw [hf_244]; rfl
  have fe_261 : fld (f_237 a_0) 12 = (v_226 : Int32).toInt := by rw [hf_244]; rfl
  have fe_262 : fld (f_237 a_0) 20 = (v_230 : Int32).toInt := by rw [hf_244]; rfl
  have hf_263 := hF_258.at hf_238 rfl
  obtain ⟨v_265, v_266, v_268, v_270, v_272, v_274, v_276, v_277, v_278, v_279, v_281, e_264, b_267, b_269, b_271, b_273, b_275, b_280, b_282⟩ := hW_257.at m_1 t_2
  have fe_283 : fld (f_251 a_0) 8 = (v_270 : Int32).toInt := by rw [e_264]; rfl
  have fe_284 : fld (f_251 a_0) 9 = (v_272 : Int32).toInt := by rw [e_264]; rfl
  have fe_285 : fld (f_251 a_0) 10 = (v_274 : Int32).toInt := by rw [e_264]; rfl
  have fe_286 : fld (f_251 a_0) 12 = (v_277 : Int32).toInt := by rw [e_264]; rfl
  have fe_287 : fld (f_251 a_0) 20 = (v_281 : Int32).toInt := by rw [e_264]; rfl
  rw [fe_286, fe_261] at x_253
  rw [fe_286, fe_260, fe_259, fe_284, fe_283] at x_254
  rw [fe_286, fe_285, fe_284, fe_283] at x_255
  rw [fe_287, fe_262] at x_256
  clear fe_259 fe_260 fe_261 fe_262 fe_283 fe_284 fe_285 fe_286 fe_287
  have lp_1008 : ∀ (n_1009 : Nat) (f_1003 : Nat → va_E) (hW_1004 : WT T L f_1003) (hF_1005 : FR [12, 2176] f_251 f_1003)  (nv_1007 : (¬ fld (f_1003 a_0) 12 = 0 ∨ (1 ≤ r_194.toInt ∧ r_194.toInt ≤ 16 ∧ 1 ≤ r_139.toInt ∧ r_139.toInt ≤ 16))) (cv_1006 : ∃ g9 : Nat → Int32, (f_1003 (q 14)) = aI E 2076 g9 ∧ FOK g9 ∧ PR g9 ∧ g9 0 = r_194 ∧ g9 1 = r_139) (hm_1011 : 600 - fld (f_1003 a_0) 8 < (n_1009 : Int)), V z E 2 0 0 L f_1003 49 [(0, .ref a_0)] [] := by
    intro n_1009
    induction n_1009 with
    | zero =>
      intro f_1003 hW_1004 hF_1005 nv_1007 cv_1006 hm_1011
      obtain ⟨v_1013, v_1014, v_1016, v_1018, v_1020, v_1022, v_1024, v_1025, v_1026, v_1027, v_1029, e_1012, b_1015, b_1017, b_1019, b_1021, b_1023, b_1028, b_1030⟩ := hW_1004.at m_1 t_2
      have fe_1031 : fld (f_1003 a_0) 12 = (v_1025 : Int32).toInt := by rw [e_1012]; rfl
      rw [fe_1031] at nv_1007
      obtain ⟨g_1032, e_1033, ok_1034, pr_1035, cz_1036, co_1037⟩ := cv_1006
      have h_1038 : fld (f_1003 a_0) 8 = (v_1018 : Int32).toInt := by rw [e_1012]; rfl
      rw [h_1038] at hm_1011
      exfalso; omega
    | succ n_1009 ih_1010 =>
      intro f_1003 hW_1004 hF_1005 nv_1007 cv_1006 hm_1011
      obtain ⟨v_1013, v_1014, v_1016, v_1018, v_1020, v_1022, v_1024, v_1025, v_1026, v_1027, v_1029, e_1012, b_1015, b_1017, b_1019, b_1021, b_1023, b_1028, b_1030⟩ := hW_1004.at m_1 t_2
      have fe_1031 : fld (f_1003 a_0) 12 = (v_1025 : Int32).toInt := by rw [e_1012]; rfl
      rw [fe_1031] at nv_1007
      obtain ⟨g_1032, e_1033, ok_1034, pr_1035, cz_1036, co_1037⟩ := cv_1006
      have h_1038 : fld (f_1003 a_0) 8 = (v_1018 : Int32).toInt := by rw [e_1012]; rfl
      rw [h_1038] at hm_1011
      refine v_aload_n hC dX12_pattern_49 rfl ?_
      refine v_vv hC (rest := []) m_1 e_1012 rfl mi_X12_readRow ms_X12_readRow (p_X12_readRow hW_1004 k_0 e_1033 ok_1034 pr_1035) mx_X12_readRow ml_X12_194 (by decide) rfl (cells1 := 0) (slots1 := 0) (by decide) (by decide) (Nat.le_of_ble_eq_true rfl) (Nat.le_of_ble_eq_true rfl) rfl (Nat.le_of_ble_eq_true rfl) dX12_pattern_50 (fun L_1040 f_1041 h_1042 => ?_)
      obtain ⟨rfl, hW_1046, hF_1047, x_1043, x_1044, x_1045⟩ := h_1042
      have fe_1048 : fld (f_1003 a_0) 8 = (v_1018 : Int32).toInt := by rw [e_1012]; rfl
      have fe_1049 : fld (f_1003 a_0) 12 = (v_1025 : Int32).toInt := by rw [e_1012]; rfl
      have fe_1050 : fld (f_1003 a_0) 20 = (v_1029 : Int32).toInt := by rw [e_1012]; rfl
      obtain ⟨v_1052, v_1053, v_1055, v_1057, v_1059, v_1061, v_1063, v_1064, v_1065, v_1066, v_1068, e_1051, b_1054, b_1056, b_1058, b_1060, b_1062, b_1067, b_1069⟩ := hW_1046.at m_1 t_2
      have fe_1070 : fld (f_1041 a_0) 8 = (v_1057 : Int32).toInt := by rw [e_1051]; rfl
      have fe_1071 : fld (f_1041 a_0) 12 = (v_1064 : Int32).toInt := by rw [e_1051]; rfl
      have fe_1072 : fld (f_1041 a_0) 20 = (v_1068 : Int32).toInt := by rw [e_1051]; rfl
      rw [fe_1071] at x_1043
      rw [fe_1071, fe_1049, fe_1048, fe_1070] at x_1044
      rw [fe_1072, fe_1050] at x_1045
      clear fe_1048 fe_1049 fe_1050 fe_1070 fe_1071 fe_1072
      obtain ⟨g_1073, e_1074, ok_1075, pr_1076, cz_1077, co_1078, gd_1079⟩ := x_1043
      refine v_aload_n hC dX12_pattern_53 rfl ?_
      refine v_vi hC (rest := []) m_1 e_1051 rfl mi_X12_good ms_X12_good (p_X12_good hW_1046 k_0) mx_X12_good ml_X12_139 (by decide) rfl (cells1 := 0) (slots1 := 0) (by decide) (by decide) (Nat.le_of_ble_eq_true rfl) (Nat.le_of_ble_eq_true rfl) rfl (Nat.le_of_ble_eq_true rfl) dX12_pattern_54 (fun r_1080 L_1081 f_1082 h_1083 => ?_)
      obtain ⟨rfl, rfl, b_1084, x_1085⟩ := h_1083
      have fe_1088 : fld (f_1041 a_0) 12 = (v_1064 : Int32).toInt := by rw [e_1051]; rfl
      rw [fe_1088] at x_1085
      clear fe_1088
      try simp only [Int32.reduceToInt, Int64.reduceToInt] at x_1085
      refine v_if_eq hC dX12_pattern_57 (tgt := 67) (by decide) (fun h_1089 => ?_) (fun h_1089 => ?_)
      · simp only [Int32.lt_iff_toInt_lt, Int32.le_iff_toInt_le, Int32.reduceToInt, ← Int32.toInt_inj] at h_1089
        refine v_aload_n hC dX12_pattern_67 rfl ?_
        refine v_vi hC (rest := []) m_1 e_1051 rfl mi_X12_good ms_X12_good (p_X12_good hW_1046 k_0) mx_X12_good ml_X12_139 (by decide) rfl (cells1 := 0) (slots1 := 0) (by decide) (by decide) (Nat.le_of_ble_eq_true rfl) (Nat.le_of_ble_eq_true rfl) rfl (Nat.le_of_ble_eq_true rfl) dX12_pattern_68 (fun r_1090 L_1091 f_1092 h_1093 => ?_)
        obtain ⟨rfl, rfl, b_1094, x_1095⟩ := h_1093
        have fe_1098 : fld (f_1041 a_0) 12 = (v_1064 : Int32).toInt := by rw [e_1051]; rfl
        rw [fe_1098] at x_1095
        clear fe_1098
        try simp only [Int32.reduceToInt, Int64.reduceToInt] at x_1095
        refine v_if_ne hC dX12_pattern_71 (tgt := 77) (by decide) (fun h_1099 => ?_) (fun h_1099 => ?_)
        · simp only [Int32.lt_iff_toInt_lt, Int32.le_iff_toInt_le, Int32.reduceToInt, ← Int32.toInt_inj] at h_1099
          obtain ⟨g_1101, e_1100, ok_1102⟩ := hW_1046.at m_73 t_74
          have b_1103 := ok_1102.r0
          have b_1104 := ok_1102.w0
          refine v_iconst hC dX12_pattern_77 (v := 0) (by decide) ?_
          refine v_istore_n hC dX12_pattern_78 (by decide) (lv' := [(1, .int 0), (0, .ref a_0)]) rfl ?_
          refine v_iload_n hC dX12_pattern_79 rfl ?_
          refine v_iconst hC dX12_pattern_80 (v := 3) (by decide) ?_
          refine v_icmp_ge_f hC dX12_pattern_81 (tgt := 102) (by decide) (by decide) ?_
          refine v_aload_n hC dX12_pattern_84 rfl ?_
          refine v_get hC fl_X12_13 m_1 e_1051 rfl dX12_pattern_85 ?_
          refine v_iload_n hC dX12_pattern_88 rfl ?_
          refine v_aload_n hC dX12_pattern_89 rfl ?_
          refine v_get hC fl_X12_34 m_1 e_1051 rfl dX12_pattern_90 ?_
          refine v_iload_n hC dX12_pattern_93 rfl ?_
          refine v_iald hC m_80 e_1074 (vp_in_iff.mpr (by decide)) (v := g_1073 0) rfl dX12_pattern_94 ?_
          refine v_iast hC m_73 e_1100 (vp_in_iff.mpr (by decide)) dX12_pattern_95 (fun f_1105 hf_1106 hk_1107 => ?_)
          have hf_1108 := (hk_1107 a_0 (ne_kd e_1051 e_1100 rfl)).trans e_1051
          have hf_1109 := (hk_1107 (q 14) nq_21.symm).trans e_1074
          refine v_iinc hC dX12_pattern_96 (k := 0) rfl (v := 1) (by decide) (by decide) (lv' := [(1, .int 1), (0, .ref a_0)]) rfl ?_
          refine v_goto hC dX12_pattern_99 (tgt := 79) (by decide) ?_
          refine v_iload_n hC dX12_pattern_79 rfl ?_
          refine v_iconst hC dX12_pattern_80 (v := 3) (by decide) ?_
          refine v_icmp_ge_f hC dX12_pattern_81 (tgt := 102) (by decide) (by decide) ?_
          refine v_aload_n hC dX12_pattern_84 rfl ?_
          refine v_get hC fl_X12_13 m_1 hf_1108 rfl dX12_pattern_85 ?_
          refine v_iload_n hC dX12_pattern_88 rfl ?_
          refine v_aload_n hC dX12_pattern_89 rfl ?_
          refine v_get hC fl_X12_34 m_1 hf_1108 rfl dX12_pattern_90 ?_
          refine v_iload_n hC dX12_pattern_93 rfl ?_
          refine v_iald hC m_80 hf_1109 (vp_in_iff.mpr (by decide)) (v := g_1073 1) rfl dX12_pattern_94 ?_
          refine v_iast hC m_73 hf_1106 (vp_in_iff.mpr (by decide)) dX12_pattern_95 (fun f_1110 hf_1111 hk_1112 => ?_)
          have hf_1113 := (hk_1112 a_0 (ne_kd hf_1108 hf_1106 rfl)).trans hf_1108
          have hf_1114 := (hk_1112 (q 14) nq_21.symm).trans hf_1109
          have kr_1115 : ∀ x9, x9 ≠ (q 1) → f_1110 x9 = f_1041 x9 := fun x9 hx9 => (hk_1112 x9 hx9).trans (hk_1107 x9 hx9)
          refine v_iinc hC dX12_pattern_96 (k := 0) rfl (v := 2) (by decide) (by decide) (lv' := [(1, .int 2), (0, .ref a_0)]) rfl ?_
          refine v_goto hC dX12_pattern_99 (tgt := 79) (by decide) ?_
          refine v_iload_n hC dX12_pattern_79 rfl ?_
          refine v_iconst hC dX12_pattern_80 (v := 3) (by decide) ?_
          refine v_icmp_ge_f hC dX12_pattern_81 (tgt := 102) (by decide) (by decide) ?_
          refine v_aload_n hC dX12_pattern_84 rfl ?_
          refine v_get hC fl_X12_13 m_1 hf_1113 rfl dX12_pattern_85 ?_
          refine v_iload_n hC dX12_pattern_88 rfl ?_
          refine v_aload_n hC dX12_pattern_89 rfl ?_
          refine v_get hC fl_X12_34 m_1 hf_1113 rfl dX12_pattern_90 ?_
          refine v_iload_n hC dX12_pattern_93 rfl ?_
          refine v_iald hC m_80 hf_1114 (vp_in_iff.mpr (by decide)) (v := g_1073 2) rfl dX12_pattern_94 ?_
          refine v_iast hC m_73 hf_1111 (vp_in_iff.mpr (by decide)) dX12_pattern_95 (fun f_1116 hf_1117 hk_1118 => ?_)
          have hf_1119 := (hk_1118 a_0 (ne_kd hf_1113 hf_1111 rfl)).trans hf_1113
          have hf_1120 := (hk_1118 (q 14) nq_21.symm).trans hf_1114
          have kr_1121 : ∀ x9, x9 ≠ (q 1) → f_1116 x9 = f_1041 x9 := fun x9 hx9 => (hk_1118 x9 hx9).trans (kr_1115 x9 hx9)
          refine v_iinc hC dX12_pattern_96 (k := 0) rfl (v := 3) (by decide) (by decide) (lv' := [(1, .int 3), (0, .ref a_0)]) rfl ?_
          refine v_goto hC dX12_pattern_99 (tgt := 79) (by decide) ?_
          refine v_iload_n hC dX12_pattern_79 rfl ?_
          refine v_iconst hC dX12_pattern_80 (v := 3) (by decide) ?_
          refine v_icmp_ge_t hC dX12_pattern_81 (tgt := 102) (by decide) (by decide) ?_
          refine v_aload_n hC dX12_pattern_102 rfl ?_
          refine v_bipush hC dX12_pattern_103 (v := 16) (by decide) ?_
          refine v_bipush hC dX12_pattern_105 (v := 120) (by decide) ?_
          refine v_vv hC (rest := []) m_1 hf_1119 rfl mi_X12_keeps ms_X12_keeps (p_X12_keeps k_0 hf_1119 hf_1117 hf_1120 (by decide)) mx_X12_keeps ml_X12_197 (by decide) rfl (cells1 := 0) (slots1 := 0) (by decide) (by decide) (Nat.le_of_ble_eq_true rfl) (Nat.le_of_ble_eq_true rfl) rfl (Nat.le_of_ble_eq_true rfl) dX12_pattern_107 (fun L_1123 f_1124 h_1125 => ?_)
          obtain ⟨rfl, hf_1126, hk_1127⟩ := h_1125
          have hf_1128 := (hk_1127 a_0 (ne_kd hf_1119 hf_1117 rfl)).trans hf_1119
          have hf_1129 := (hk_1127 (q 14) nq_21.symm).trans hf_1120
          have kr_1130 : ∀ x9, x9 ≠ (q 1) → f_1124 x9 = f_1041 x9 := fun x9 hx9 => (hk_1127 x9 hx9).trans (kr_1121 x9 hx9)
          refine v_iconst hC dX12_pattern_110 (v := 0) (by decide) ?_
          refine v_istore_n hC dX12_pattern_111 (by decide) (lv' := [(1, .int 0), (0, .ref a_0)]) rfl ?_
          refine v_iload_n hC dX12_pattern_112 rfl ?_
          refine v_iconst hC dX12_pattern_113 (v := 4) (by decide) ?_
          refine v_icmp_ge_f hC dX12_pattern_114 (tgt := 138) (by decide) (by decide) ?_
          refine v_aload_n hC dX12_pattern_117 rfl ?_
          refine v_get hC fl_X12_13 m_1 hf_1128 rfl dX12_pattern_118 ?_
          refine v_sipush hC dX12_pattern_121 (v := 1048) (by decide) ?_
          refine v_sipush hC dX12_pattern_124 (v := 257) (by decide) ?_
          refine v_iload_n hC dX12_pattern_127 rfl ?_
          refine v_imul hC dX12_pattern_128 (v := 0) (by decide) ?_
          refine v_iadd hC dX12_pattern_129 (v := 1048) (by decide) ?_
          refine v_iconst hC dX12_pattern_130 (v := 0) (by decide) ?_
          refine v_iast hC m_73 hf_1126 (vp_in_iff.mpr (by decide)) dX12_pattern_131 (fun f_1131 hf_1132 hk_1133 => ?_)
          have hf_1134 := (hk_1133 a_0 (ne_kd hf_1128 hf_1126 rfl)).trans hf_1128
          have hf_1135 := (hk_1133 (q 14) nq_21.symm).trans hf_1129
          have kr_1136 : ∀ x9, x9 ≠ (q 1) → f_1131 x9 = f_1041 x9 := fun x9 hx9 => (hk_1133 x9 hx9).trans (kr_1130 x9 hx9)
          refine v_iinc hC dX12_pattern_132 (k := 0) rfl (v := 1) (by decide) (by decide) (lv' := [(1, .int 1), (0, .ref a_0)]) rfl ?_
          refine v_goto hC dX12_pattern_135 (tgt := 112) (by decide) ?_
          refine v_iload_n hC dX12_pattern_112 rfl ?_
          refine v_iconst hC dX12_pattern_113 (v := 4) (by decide) ?_
          refine v_icmp_ge_f hC dX12_pattern_114 (tgt := 138) (by decide) (by decide) ?_
          refine v_aload_n hC dX12_pattern_117 rfl ?_
          refine v_get hC fl_X12_13 m_1 hf_1134 rfl dX12_pattern_118 ?_
          refine v_sipush hC dX12_pattern_121 (v := 1048) (by decide) ?_
          refine v_sipush hC dX12_pattern_124 (v := 257) (by decide) ?_
          refine v_iload_n hC dX12_pattern_127 rfl ?_
          refine v_imul hC dX12_pattern_128 (v := 257) (by decide) ?_
          refine v_iadd hC dX12_pattern_129 (v := 1305) (by decide) ?_
          refine v_iconst hC dX12_pattern_130 (v := 0) (by decide) ?_
          refine v_iast hC m_73 hf_1132 (vp_in_iff.mpr (by decide)) dX12_pattern_131 (fun f_1137 hf_1138 hk_1139 => ?_)
          have hf_1140 := (hk_1139 a_0 (ne_kd hf_1134 hf_1132 rfl)).trans hf_1134
          have hf_1141 := (hk_1139 (q 14) nq_21.symm).trans hf_1135
          have kr_1142 : ∀ x9, x9 ≠ (q 1) → f_1137 x9 = f_1041 x9 := fun x9 hx9 => (hk_1139 x9 hx9).trans (kr_1136 x9 hx9)
          refine v_iinc hC dX12_pattern_132 (k := 0) rfl (v := 2) (by decide) (by decide) (lv' := [(1, .int 2), (0, .ref a_0)]) rfl ?_
          refine v_goto hC dX12_pattern_135 (tgt := 112) (by decide) ?_
          refine v_iload_n hC dX12_pattern_112 rfl ?_
          refine v_iconst hC dX12_pattern_113 (v := 4) (by decide) ?_
          refine v_icmp_ge_f hC dX12_pattern_114 (tgt := 138) (by decide) (by decide) ?_
          refine v_aload_n hC dX12_pattern_117 rfl ?_
          refine v_get hC fl_X12_13 m_1 hf_1140 rfl dX12_pattern_118 ?_
          refine v_sipush hC dX12_pattern_121 (v := 1048) (by decide) ?_
          refine v_sipush hC dX12_pattern_124 (v := 257) (by decide) ?_
          refine v_iload_n hC dX12_pattern_127 rfl ?_
          refine v_imul hC dX12_pattern_128 (v := 514) (by decide) ?_
          refine v_iadd hC dX12_pattern_129 (v := 1562) (by decide) ?_
          refine v_iconst hC dX12_pattern_130 (v := 0) (by decide) ?_
          refine v_iast hC m_73 hf_1138 (vp_in_iff.mpr (by decide)) dX12_pattern_131 (fun f_1143 hf_1144 hk_1145 => ?_)
          have hf_1146 := (hk_1145 a_0 (ne_kd hf_1140 hf_1138 rfl)).trans hf_1140
          have hf_1147 := (hk_1145 (q 14) nq_21.symm).trans hf_1141
          have kr_1148 : ∀ x9, x9 ≠ (q 1) → f_1143 x9 = f_1041 x9 := fun x9 hx9 => (hk_1145 x9 hx9).trans (kr_1142 x9 hx9)
          refine v_iinc hC dX12_pattern_132 (k := 0) rfl (v := 3) (by decide) (by decide) (lv' := [(1, .int 3), (0, .ref a_0)]) rfl ?_
          refine v_goto hC dX12_pattern_135 (tgt := 112) (by decide) ?_
          refine v_iload_n hC dX12_pattern_112 rfl ?_
          refine v_iconst hC dX12_pattern_113 (v := 4) (by decide) ?_
          refine v_icmp_ge_f hC dX12_pattern_114 (tgt := 138) (by decide) (by decide) ?_
          refine v_aload_n hC dX12_pattern_117 rfl ?_
          refine v_get hC fl_X12_13 m_1 hf_1146 rfl dX12_pattern_118 ?_
          refine v_sipush hC dX12_pattern_121 (v := 1048) (by decide) ?_
          refine v_sipush hC dX12_pattern_124 (v := 257) (by decide) ?_
          refine v_iload_n hC dX12_pattern_127 rfl ?_
          refine v_imul hC dX12_pattern_128 (v := 771) (by decide) ?_
          refine v_iadd hC dX12_pattern_129 (v := 1819) (by decide) ?_
          refine v_iconst hC dX12_pattern_130 (v := 0) (by decide) ?_
          refine v_iast hC m_73 hf_1144 (vp_in_iff.mpr (by decide)) dX12_pattern_131 (fun f_1149 hf_1150 hk_1151 => ?_)
          have hf_1152 := (hk_1151 a_0 (ne_kd hf_1146 hf_1144 rfl)).trans hf_1146
          have hf_1153 := (hk_1151 (q 14) nq_21.symm).trans hf_1147
          have kr_1154 : ∀ x9, x9 ≠ (q 1) → f_1149 x9 = f_1041 x9 := fun x9 hx9 => (hk_1151 x9 hx9).trans (kr_1148 x9 hx9)
          refine v_iinc hC dX12_pattern_132 (k := 0) rfl (v := 4) (by decide) (by decide) (lv' := [(1, .int 4), (0, .ref a_0)]) rfl ?_
          refine v_goto hC dX12_pattern_135 (tgt := 112) (by decide) ?_
          refine v_iload_n hC dX12_pattern_112 rfl ?_
          refine v_iconst hC dX12_pattern_113 (v := 4) (by decide) ?_
          refine v_icmp_ge_t hC dX12_pattern_114 (tgt := 138) (by decide) (by decide) ?_
          have cx_1155 : (g_1073 0).toInt = r_194.toInt := congrArg Int32.toInt (cz_1077.trans cz_1036)
          have cx_1156 : (g_1073 1).toInt = r_139.toInt := congrArg Int32.toInt (co_1078.trans co_1037)
          obtain ⟨g_1159, e_1160, ok_1158, eg_1161⟩ : ∃ g9, f_1149 (q 1) = aI E 2076 g9 ∧ WOK g9 ∧ g9 = (upd (upd (upd (upd (va_cpy g_1073 (upd (upd (upd g_1101 0 (g_1073 0)) 1 (g_1073 1)) 2 (g_1073 2)) (16 : Int32).toNatClampNeg (16 : Int32).toNatClampNeg ((120 : Int32).toNatClampNeg - (16 : Int32).toNatClampNeg)) 1048 0) 1305 0) 1562 0) 1819 0) := ⟨_, hf_1150, (ok_1102.patf ok_1075 pr_1076 (by omega) (by omega) (by omega)), rfl⟩
          have hW_1157 := hW_1046.up e_1160 kr_1154 t_74 ⟨_, rfl, ok_1158⟩
          have fr_1162 := FR.w kr_1154 e_1100 (k := 2176) rfl
          have b_1163 := ok_1158.r0
          have b_1164 := ok_1158.w0
          refine v_aload_n hC dX12_pattern_138 rfl ?_
          refine v_vi hC (rest := []) m_1 hf_1152 rfl mi_X12_frees ms_X12_frees (p_X12_frees hW_1157 k_0 e_1160 ok_1158) mx_X12_frees ml_X12_200 (by decide) rfl (cells1 := 0) (slots1 := 0) (by decide) (by decide) (Nat.le_of_ble_eq_true rfl) (Nat.le_of_ble_eq_true rfl) rfl (Nat.le_of_ble_eq_true rfl) dX12_pattern_139 (fun r_1165 L_1166 f_1167 h_1168 => ?_)
          obtain ⟨rfl, rfl⟩ := h_1168
          exact hR _ _ _ _ _ _ _ dX12_pattern_142 rfl (Nat.le_of_ble_eq_true rfl) (Nat.le_of_ble_eq_true rfl) ⟨rfl, hW_1157, (((((((((((hF_49.tr fr_98).tr hF_109).tr hF_149).tr fr_191).tr hF_204).tr fr_245).tr hF_258).tr hF_1005).tr hF_1047).tr fr_1162).mono rfl)⟩
        · simp only [Int32.lt_iff_toInt_lt, Int32.le_iff_toInt_le, Int32.reduceToInt, ← Int32.toInt_inj] at h_1099
          refine v_bipush hC dX12_pattern_74 (v := (-4)) (by decide) ?_
          exact hR _ _ _ _ _ _ _ dX12_pattern_76 rfl (Nat.le_of_ble_eq_true rfl) (Nat.le_of_ble_eq_true rfl) ⟨rfl, hW_1046, ((((((((((hF_49.tr fr_98).tr hF_109).tr hF_149).tr fr_191).tr hF_204).tr fr_245).tr hF_258).tr hF_1005).tr hF_1047).mono rfl)⟩
      · simp only [Int32.lt_iff_toInt_lt, Int32.le_iff_toInt_le, Int32.reduceToInt, ← Int32.toInt_inj] at h_1089
        refine v_aload_n hC dX12_pattern_60 rfl ?_
        refine v_get hC fl_X12_120 m_1 e_1051 rfl dX12_pattern_61 ?_
        refine v_if_ne hC dX12_pattern_64 (tgt := 49) (by decide) (fun h_1171 => ?_) (fun h_1171 => ?_)
        · simp only [Int32.lt_iff_toInt_lt, Int32.le_iff_toInt_le, Int32.reduceToInt, ← Int32.toInt_inj] at h_1171
          refine v_pick [0] rfl ?_
          have fe_1172 : fld (f_1041 a_0) 12 = (v_1064 : Int32).toInt := by rw [e_1051]; rfl
          have h_1173 : fld (f_1041 a_0) 8 = (v_1057 : Int32).toInt := by rw [e_1051]; rfl
          exact ih_1010 f_1041 hW_1046 ((hF_1005.tr hF_1047).mono rfl) (by rw [fe_1172] <;> first | omega | (simp only [Int32.lt_iff_toInt_lt, Int32.le_iff_toInt_le, Int32.reduceToInt, ← Int32.toInt_inj, true_and, and_true, or_true, true_or, false_or, or_false, false_and, and_false, not_true_eq_false, not_false_eq_true] <;> omega)) ⟨_, e_1074, ok_1075, pr_1076, (cz_1077.trans cz_1036), (co_1078.trans co_1037)⟩ (by rw [h_1173]; omega)
        · simp only [Int32.lt_iff_toInt_lt, Int32.le_iff_toInt_le, Int32.reduceToInt, ← Int32.toInt_inj] at h_1171
          refine v_aload_n hC dX12_pattern_67 rfl ?_
          refine v_vi hC (rest := []) m_1 e_1051 rfl mi_X12_good ms_X12_good (p_X12_good hW_1046 k_0) mx_X12_good ml_X12_139 (by decide) rfl (cells1 := 0) (slots1 := 0) (by decide) (by decide) (Nat.le_of_ble_eq_true rfl) (Nat.le_of_ble_eq_true rfl) rfl (Nat.le_of_ble_eq_true rfl) dX12_pattern_68 (fun r_1174 L_1175 f_1176 h_1177 => ?_)
          obtain ⟨rfl, rfl, b_1178, x_1179⟩ := h_1177
          have fe_1182 : fld (f_1041 a_0) 12 = (v_1064 : Int32).toInt := by rw [e_1051]; rfl
          rw [fe_1182] at x_1179
          clear fe_1182
          try simp only [Int32.reduceToInt, Int64.reduceToInt] at x_1179
          refine v_if_ne hC dX12_pattern_71 (tgt := 77) (by decide) (fun h_1183 => ?_) (fun h_1183 => ?_)
          · simp only [Int32.lt_iff_toInt_lt, Int32.le_iff_toInt_le, Int32.reduceToInt, ← Int32.toInt_inj] at h_1183
            obtain ⟨g_1185, e_1184, ok_1186⟩ := hW_1046.at m_73 t_74
            have b_1187 := ok_1186.r0
            have b_1188 := ok_1186.w0
            refine v_iconst hC dX12_pattern_77 (v := 0) (by decide) ?_
            refine v_istore_n hC dX12_pattern_78 (by decide) (lv' := [(1, .int 0), (0, .ref a_0)]) rfl ?_
            refine v_iload_n hC dX12_pattern_79 rfl ?_
            refine v_iconst hC dX12_pattern_80 (v := 3) (by decide) ?_
            refine v_icmp_ge_f hC dX12_pattern_81 (tgt := 102) (by decide) (by decide) ?_
            refine v_aload_n hC dX12_pattern_84 rfl ?_
            refine v_get hC fl_X12_13 m_1 e_1051 rfl dX12_pattern_85 ?_
            refine v_iload_n hC dX12_pattern_88 rfl ?_
            refine v_aload_n hC dX12_pattern_89 rfl ?_
            refine v_get hC fl_X12_34 m_1 e_1051 rfl dX12_pattern_90 ?_
            refine v_iload_n hC dX12_pattern_93 rfl ?_
            refine v_iald hC m_80 e_1074 (vp_in_iff.mpr (by decide)) (v := g_1073 0) rfl dX12_pattern_94 ?_
            refine v_iast hC m_73 e_1184 (vp_in_iff.mpr (by decide)) dX12_pattern_95 (fun f_1189 hf_1190 hk_1191 => ?_)
            have hf_1192 := (hk_1191 a_0 (ne_kd e_1051 e_1184 rfl)).trans e_1051
            have hf_1193 := (hk_1191 (q 14) nq_21.symm).trans e_1074
            refine v_iinc hC dX12_pattern_96 (k := 0) rfl (v := 1) (by decide) (by decide) (lv' := [(1, .int 1), (0, .ref a_0)]) rfl ?_
            refine v_goto hC dX12_pattern_99 (tgt := 79) (by decide) ?_
            refine v_iload_n hC dX12_pattern_79 rfl ?_
            refine v_iconst hC dX12_pattern_80 (v := 3) (by decide) ?_
            refine v_icmp_ge_f hC dX12_pattern_81 (tgt := 102) (by decide) (by decide) ?_
            refine v_aload_n hC dX12_pattern_84 rfl ?_
            refine v_get hC fl_X12_13 m_1 hf_1192 rfl dX12_pattern_85 ?_
            refine v_iload_n hC dX12_pattern_88 rfl ?_
            refine v_aload_n hC dX12_pattern_89 rfl ?_
            refine v_get hC fl_X12_34 m_1 hf_1192 rfl dX12_pattern_90 ?_
            refine v_iload_n hC dX12_pattern_93 rfl ?_
            refine v_iald hC m_80 hf_1193 (vp_in_iff.mpr (by decide)) (v := g_1073 1) rfl dX12_pattern_94 ?_
            refine v_iast hC m_73 hf_1190 (vp_in_iff.mpr (by decide)) dX12_pattern_95 (fun f_1194 hf_1195 hk_1196 => ?_)
            have hf_1197 := (hk_1196 a_0 (ne_kd hf_1192 hf_1190 rfl)).trans hf_1192
            have hf_1198 := (hk_1196 (q 14) nq_21.symm).trans hf_1193
            have kr_1199 : ∀ x9, x9 ≠ (q 1) → f_1194 x9 = f_1041 x9 := fun x9 hx9 => (hk_1196 x9 hx9).trans (hk_1191 x9 hx9)
            refine v_iinc hC dX12_pattern_96 (k := 0) rfl (v := 2) (by decide) (by decide) (lv' := [(1, .int 2), (0, .ref a_0)]) rfl ?_
            refine v_goto hC dX12_pattern_99 (tgt := 79) (by decide) ?_
            refine v_iload_n hC dX12_pattern_79 rfl ?_
            refine v_iconst hC dX12_pattern_80 (v := 3) (by decide) ?_
            refine v_icmp_ge_f hC dX12_pattern_81 (tgt := 102) (by decide) (by decide) ?_
            refine v_aload_n hC dX12_pattern_84 rfl ?_
            refine v_get hC fl_X12_13 m_1 hf_1197 rfl dX12_pattern_85 ?_
            refine v_iload_n hC dX12_pattern_88 rfl ?_
            refine v_aload_n hC dX12_pattern_89 rfl ?_
            refine v_get hC fl_X12_34 m_1 hf_1197 rfl dX12_pattern_90 ?_
            refine v_iload_n hC dX12_pattern_93 rfl ?_
            refine v_iald hC m_80 hf_1198 (vp_in_iff.mpr (by decide)) (v := g_1073 2) rfl dX12_pattern_94 ?_
            refine v_iast hC m_73 hf_1195 (vp_in_iff.mpr (by decide)) dX12_pattern_95 (fun f_1200 hf_1201 hk_1202 => ?_)
            have hf_1203 := (hk_1202 a_0 (ne_kd hf_1197 hf_1195 rfl)).trans hf_1197
            have hf_1204 := (hk_1202 (q 14) nq_21.symm).trans hf_1198
            have kr_1205 : ∀ x9, x9 ≠ (q 1) → f_1200 x9 = f_1041 x9 := fun x9 hx9 => (hk_1202 x9 hx9).trans (kr_1199 x9 hx9)
            refine v_iinc hC dX12_pattern_96 (k := 0) rfl (v := 3) (by decide) (by decide) (lv' := [(1, .int 3), (0, .ref a_0)]) rfl ?_
            refine v_goto hC dX12_pattern_99 (tgt := 79) (by decide) ?_
            refine v_iload_n hC dX12_pattern_79 rfl ?_
            refine v_iconst hC dX12_pattern_80 (v := 3) (by decide) ?_
            refine v_icmp_ge_t hC dX12_pattern_81 (tgt := 102) (by decide) (by decide) ?_
            refine v_aload_n hC dX12_pattern_102 rfl ?_
            refine v_bipush hC dX12_pattern_103 (v := 16) (by decide) ?_
            refine v_bipush hC dX12_pattern_105 (v := 120) (by decide) ?_
            refine v_vv hC (rest := []) m_1 hf_1203 rfl mi_X12_keeps ms_X12_keeps (p_X12_keeps k_0 hf_1203 hf_1201 hf_1204 (by decide)) mx_X12_keeps ml_X12_197 (by decide) rfl (cells1 := 0) (slots1 := 0) (by decide) (by decide) (Nat.le_of_ble_eq_true rfl) (Nat.le_of_ble_eq_true rfl) rfl (Nat.le_of_ble_eq_true rfl) dX12_pattern_107 (fun L_1207 f_1208 h_1209 => ?_)
            obtain ⟨rfl, hf_1210, hk_1211⟩ := h_1209
            have hf_1212 := (hk_1211 a_0 (ne_kd hf_1203 hf_1201 rfl)).trans hf_1203
            have hf_1213 := (hk_1211 (q 14) nq_21.symm).trans hf_1204
            have kr_1214 : ∀ x9, x9 ≠ (q 1) → f_1208 x9 = f_1041 x9 := fun x9 hx9 => (hk_1211 x9 hx9).trans (kr_1205 x9 hx9)
            refine v_iconst hC dX12_pattern_110 (v := 0) (by decide) ?_
            refine v_istore_n hC dX12_pattern_111 (by decide) (lv' := [(1, .int 0), (0, .ref a_0)]) rfl ?_
            refine v_iload_n hC dX12_pattern_112 rfl ?_
            refine v_iconst hC dX12_pattern_113 (v := 4) (by decide) ?_
            refine v_icmp_ge_f hC dX12_pattern_114 (tgt := 138) (by decide) (by decide) ?_
            refine v_aload_n hC dX12_pattern_117 rfl ?_
            refine v_get hC fl_X12_13 m_1 hf_1212 rfl dX12_pattern_118 ?_
            refine v_sipush hC dX12_pattern_121 (v := 1048) (by decide) ?_
            refine v_sipush hC dX12_pattern_124 (v := 257) (by decide) ?_
            refine v_iload_n hC dX12_pattern_127 rfl ?_
            refine v_imul hC dX12_pattern_128 (v := 0) (by decide) ?_
            refine v_iadd hC dX12_pattern_129 (v := 1048) (by decide) ?_
            refine v_iconst hC dX12_pattern_130 (v := 0) (by decide) ?_
            refine v_iast hC m_73 hf_1210 (vp_in_iff.mpr (by decide)) dX12_pattern_131 (fun f_1215 hf_1216 hk_1217 => ?_)
            have hf_1218 := (hk_1217 a_0 (ne_kd hf_1212 hf_1210 rfl)).trans hf_1212
            have hf_1219 := (hk_1217 (q 14) nq_21.symm).trans hf_1213
            have kr_1220 : ∀ x9, x9 ≠ (q 1) → f_1215 x9 = f_1041 x9 := fun x9 hx9 => (hk_1217 x9 hx9).trans (kr_1214 x9 hx9)
            refine v_iinc hC dX12_pattern_132 (k := 0) rfl (v := 1) (by decide) (by decide) (lv' := [(1, .int 1), (0, .ref a_0)]) rfl ?_
            refine v_goto hC dX12_pattern_135 (tgt := 112) (by decide) ?_
            refine v_iload_n hC dX12_pattern_112 rfl ?_
            refine v_iconst hC dX12_pattern_113 (v := 4) (by decide) ?_
            refine v_icmp_ge_f hC dX12_pattern_114 (tgt := 138) (by decide) (by decide) ?_
            refine v_aload_n hC dX12_pattern_117 rfl ?_
            refine v_get hC fl_X12_13 m_1 hf_1218 rfl dX12_pattern_118 ?_
            refine v_sipush hC dX12_pattern_121 (v := 1048) (by decide) ?_
            refine v_sipush hC dX12_pattern_124 (v := 257) (by decide) ?_
            refine v_iload_n hC dX12_pattern_127 rfl ?_
            refine v_imul hC dX12_pattern_128 (v := 257) (by decide) ?_
            refine v_iadd hC dX12_pattern_129 (v := 1305) (by decide) ?_
            refine v_iconst hC dX12_pattern_130 (v := 0) (by decide) ?_
            refine v_iast hC m_73 hf_1216 (vp_in_iff.mpr (by decide)) dX12_pattern_131 (fun f_1221 hf_1222 hk_1223 => ?_)
            have hf_1224 := (hk_1223 a_0 (ne_kd hf_1218 hf_1216 rfl)).trans hf_1218
            have hf_1225 := (hk_1223 (q 14) nq_21.symm).trans hf_1219
            have kr_1226 : ∀ x9, x9 ≠ (q 1) → f_1221 x9 = f_1041 x9 := fun x9 hx9 => (hk_1223 x9 hx9).trans (kr_1220 x9 hx9)
            refine v_iinc hC dX12_pattern_132 (k := 0) rfl (v := 2) (by decide) (by decide) (lv' := [(1, .int 2), (0, .ref a_0)]) rfl ?_
            refine v_goto hC dX12_pattern_135 (tgt := 112) (by decide) ?_
            refine v_iload_n hC dX12_pattern_112 rfl ?_
            refine v_iconst hC dX12_pattern_113 (v := 4) (by decide) ?_
            refine v_icmp_ge_f hC dX12_pattern_114 (tgt := 138) (by decide) (by decide) ?_
            refine v_aload_n hC dX12_pattern_117 rfl ?_
            refine v_get hC fl_X12_13 m_1 hf_1224 rfl dX12_pattern_118 ?_
            refine v_sipush hC dX12_pattern_121 (v := 1048) (by decide) ?_
            refine v_sipush hC dX12_pattern_124 (v := 257) (by decide) ?_
            refine v_iload_n hC dX12_pattern_127 rfl ?_
            refine v_imul hC dX12_pattern_128 (v := 514) (by decide) ?_
            refine v_iadd hC dX12_pattern_129 (v := 1562) (by decide) ?_
            refine v_iconst hC dX12_pattern_130 (v := 0) (by decide) ?_
            refine v_iast hC m_73 hf_1222 (vp_in_iff.mpr (by decide)) dX12_pattern_131 (fun f_1227 hf_1228 hk_1229 => ?_)
            have hf_1230 := (hk_1229 a_0 (ne_kd hf_1224 hf_1222 rfl)).trans hf_1224
            have hf_1231 := (hk_1229 (q 14) nq_21.symm).trans hf_1225
            have kr_1232 : ∀ x9, x9 ≠ (q 1) → f_1227 x9 = f_1041 x9 := fun x9 hx9 => (hk_1229 x9 hx9).trans (kr_1226 x9 hx9)
            refine v_iinc hC dX12_pattern_132 (k := 0) rfl (v := 3) (by decide) (by decide) (lv' := [(1, .int 3), (0, .ref a_0)]) rfl ?_
            refine v_goto hC dX12_pattern_135 (tgt := 112) (by decide) ?_
            refine v_iload_n hC dX12_pattern_112 rfl ?_
            refine v_iconst hC dX12_pattern_113 (v := 4) (by decide) ?_
            refine v_icmp_ge_f hC dX12_pattern_114 (tgt := 138) (by decide) (by decide) ?_
            refine v_aload_n hC dX12_pattern_117 rfl ?_
            refine v_get hC fl_X12_13 m_1 hf_1230 rfl dX12_pattern_118 ?_
            refine v_sipush hC dX12_pattern_121 (v := 1048) (by decide) ?_
            refine v_sipush hC dX12_pattern_124 (v := 257) (by decide) ?_
            refine v_iload_n hC dX12_pattern_127 rfl ?_
            refine v_imul hC dX12_pattern_128 (v := 771) (by decide) ?_
            refine v_iadd hC dX12_pattern_129 (v := 1819) (by decide) ?_
            refine v_iconst hC dX12_pattern_130 (v := 0) (by decide) ?_
            refine v_iast hC m_73 hf_1228 (vp_in_iff.mpr (by decide)) dX12_pattern_131 (fun f_1233 hf_1234 hk_1235 => ?_)
            have hf_1236 := (hk_1235 a_0 (ne_kd hf_1230 hf_1228 rfl)).trans hf_1230
            have hf_1237 := (hk_1235 (q 14) nq_21.symm).trans hf_1231
            have kr_1238 : ∀ x9, x9 ≠ (q 1) → f_1233 x9 = f_1041 x9 := fun x9 hx9 => (hk_1235 x9 hx9).trans (kr_1232 x9 hx9)
            refine v_iinc hC dX12_pattern_132 (k := 0) rfl (v := 4) (by decide) (by decide) (lv' := [(1, .int 4), (0, .ref a_0)]) rfl ?_
            refine v_goto hC dX12_pattern_135 (tgt := 112) (by decide) ?_
            refine v_iload_n hC dX12_pattern_112 rfl ?_
            refine v_iconst hC dX12_pattern_113 (v := 4) (by decide) ?_
            refine v_icmp_ge_t hC dX12_pattern_114 (tgt := 138) (by decide) (by decide) ?_
            have cx_1239 : (g_1073 0).toInt = r_194.toInt := congrArg Int32.toInt (cz_1077.trans cz_1036)
            have cx_1240 : (g_1073 1).toInt = r_139.toInt := congrArg Int32.toInt (co_1078.trans co_1037)
            obtain ⟨g_1243, e_1244, ok_1242, eg_1245⟩ : ∃ g9, f_1233 (q 1) = aI E 2076 g9 ∧ WOK g9 ∧ g9 = (upd (upd (upd (upd (va_cpy g_1073 (upd (upd (upd g_1185 0 (g_1073 0)) 1 (g_1073 1)) 2 (g_1073 2)) (16 : Int32).toNatClampNeg (16 : Int32).toNatClampNeg ((120 : Int32).toNatClampNeg - (16 : Int32).toNatClampNeg)) 1048 0) 1305 0) 1562 0) 1819 0) := ⟨_, hf_1234, (ok_1186.patf ok_1075 pr_1076 (by omega) (by omega) (by omega)), rfl⟩
            have hW_1241 := hW_1046.up e_1244 kr_1238 t_74 ⟨_, rfl, ok_1242⟩
            have fr_1246 := FR.w kr_1238 e_1184 (k := 2176) rfl
            have b_1247 := ok_1242.r0
            have b_1248 := ok_1242.w0
            refine v_aload_n hC dX12_pattern_138 rfl ?_
            refine v_vi hC (rest := []) m_1 hf_1236 rfl mi_X12_frees ms_X12_frees (p_X12_frees hW_1241 k_0 e_1244 ok_1242) mx_X12_frees ml_X12_200 (by decide) rfl (cells1 := 0) (slots1 := 0) (by decide) (by decide) (Nat.le_of_ble_eq_true rfl) (Nat.le_of_ble_eq_true rfl) rfl (Nat.le_of_ble_eq_true rfl) dX12_pattern_139 (fun r_1249 L_1250 f_1251 h_1252 => ?_)
            obtain ⟨rfl, rfl⟩ := h_1252
            exact hR _ _ _ _ _ _ _ dX12_pattern_142 rfl (Nat.le_of_ble_eq_true rfl) (Nat.le_of_ble_eq_true rfl) ⟨rfl, hW_1241, (((((((((((hF_49.tr fr_98).tr hF_109).tr hF_149).tr fr_191).tr hF_204).tr fr_245).tr hF_258).tr hF_1005).tr hF_1047).tr fr_1246).mono rfl)⟩
          · simp only [Int32.lt_iff_toInt_lt, Int32.le_iff_toInt_le, Int32.reduceToInt, ← Int32.toInt_inj] at h_1183
            refine v_bipush hC dX12_pattern_74 (v := (-4)) (by decide) ?_
            exact hR _ _ _ _ _ _ _ dX12_pattern_76 rfl (Nat.le_of_ble_eq_true rfl) (Nat.le_of_ble_eq_true rfl) ⟨rfl, hW_1046, ((((((((((hF_49.tr fr_98).tr hF_109).tr hF_149).tr fr_191).tr hF_204).tr fr_245).tr hF_258).tr hF_1005).tr hF_1047).mono rfl)⟩
  refine v_pick [0] rfl ?_
  have fe_1255 : fld (f_251 a_0) 12 = (v_277 : Int32).toInt := by rw [e_264]; rfl
  have h_1256 : fld (f_251 a_0) 8 = (v_270 : Int32).toInt := by rw [e_264]; rfl
  exact lp_1008 602 f_251 hW_257 FR.rf (by rw [fe_1255] <;> first | omega | (simp only [Int32.lt_iff_toInt_lt, Int32.le_iff_toInt_le, Int32.reduceToInt, ← Int32.toInt_inj, true_and, and_true, or_true, true_or, false_or, or_false, false_and, and_false, not_true_eq_false, not_false_eq_true] <;> omega)) ⟨_, hf_263, ok_242, (PR.zero gz_246), cz_247, co_248⟩ (by rw [h_1256]; omega)
set_option maxRecDepth 100000 in
set_option maxHeartbeats 8000000 in
theorem p_X12_readLoss {l : Launch} {E : Ez} {L : List Nat} {f : Nat → va_E} {T : Nat → va_E → Prop} {a_0 : Nat} {q : Nat → Nat} {g_f : Nat → Int32} (hW : WT T L f) (k_0 : isM T L E a_0 q) (e_f : f (q 14) = aI E 2076 g_f) (o_f : FOK g_f) (hLB : 0 ≤ (g_f 6).toInt ∧ (g_f 6).toInt ≤ 12) (hLO : LO g_f) : CV l yX12_readLoss cX12_readLoss 4 8 0 0 E [.ref a_0] L f (fun L1 f1 => L = L1 ∧ WT T L f1 ∧ FR [12, 2176] f f1 ∧ (∃ g9 : Nat → Int32, f1 (q 14) = aI E 2076 g9 ∧ FOK g9 ∧ (0 ≤ (g9 6).toInt ∧ (g9 6).toInt ≤ 12) ∧ (¬ fld (f1 a_0) 12 = 0 ∨ LO g9)) ∧ (¬ fld (f1 a_0) 12 = 0 ∨ (fld (f a_0) 12 = 0 ∧ fld (f a_0) 8 < fld (f1 a_0) 8))) := by
  refine cv_of (by decide) (Nat.le_of_ble_eq_true rfl) (fun z hz hnm hC hR => ?_)
  have hC : Cx z E cX12_readLoss RX12 4 8 0 0 := hC
  subst hz
  show V z E 4 0 0 L f 0 [(0, .ref a_0)] []
  obtain ⟨m_1, t_2, nq_21, k_3, k_4, k_5, k_6, k_7, k_8, k_9, k_10, k_11, k_12, k_13, k_14, k_15, k_16, k_17, k_18, k_19, k_20⟩ := id k_0
  obtain ⟨m_22, t_23⟩ := id k_8
  obtain ⟨v_25, v_26, v_27, v_28, v_29, v_30, v_31, v_32, v_33, v_34, v_35, e_24, -, -, -, -, -, -, -⟩ := hW.at m_1 t_2
  have mz_36 : fld (f a_0) 8 = v_28.toInt := by rw [e_24]; rfl
  have mz_37 : fld (f a_0) 12 = v_32.toInt := by rw [e_24]; rfl
  refine v_sipush hC dX12_readLoss_0 (v := 1012) (by decide) ?_
  refine v_iconst hC dX12_readLoss_3 (v := 3) (by decide) ?_
  refine v_aload_n hC dX12_readLoss_4 rfl ?_
  refine v_get hC fl_X12_34 m_1 e_24 rfl dX12_readLoss_5 ?_
  refine v_bipush hC dX12_readLoss_8 (v := 6) (by decide) ?_
  refine v_iald hC m_22 e_f (vp_in_iff.mpr (by decide)) (v := g_f 6) rfl dX12_readLoss_10 ?_
  obtain ⟨v_38, h_39⟩ : ∃ v9 : Int32, (3 : Int32) * (g_f 6) = v9 := ⟨_, rfl⟩
  refine v_imul hC dX12_readLoss_11 h_39 ?_
  have h_40 := mul_v 3 12 36 h_39 (by decide) (by first | omega | (simp only [Int32.lt_iff_toInt_lt, Int32.le_iff_toInt_le, Int32.reduceToInt, ← Int32.toInt_inj, true_and, and_true, or_true, true_or, false_or, or_false, false_and, and_false, not_true_eq_false, not_false_eq_true] <;> omega)) (by decide) (by decide)
  try simp only [Int32.reduceToInt] at h_40
  obtain ⟨v_41, h_42⟩ : ∃ v9 : Int32, (1012 : Int32) + v_38 = v9 := ⟨_, rfl⟩
  refine v_iadd hC dX12_readLoss_12 h_42 ?_
  have h_43 := add_v h_42 (by first | omega | (simp only [Int32.lt_iff_toInt_lt, Int32.le_iff_toInt_le, Int32.reduceToInt, ← Int32.toInt_inj, true_and, and_true, or_true, true_or, false_or, or_false, false_and, and_false, not_true_eq_false, not_false_eq_true] <;> omega)) (by first | omega | (simp only [Int32.lt_iff_toInt_lt, Int32.le_iff_toInt_le, Int32.reduceToInt, ← Int32.toInt_inj, true_and, and_true, or_true, true_or, false_or, or_false, false_and, and_false, not_true_eq_false, not_false_eq_true] <;> omega))
  try simp only [Int32.reduceToInt] at h_43
  refine v_istore_n hC dX12_readLoss_13 (by decide) (lv' := [(1, .int v_41), (0, .ref a_0)]) rfl ?_
  refine v_aload_n hC dX12_readLoss_14 rfl ?_
  refine v_ldcwS hC sr_X12_287 dX12_readLoss_15 ?_
  refine v_vi hC (rest := []) m_1 e_24 rfl mi_X12_is ms_X12_is (p_X12_is hW k_0 (by decide)) mx_X12_is ml_X12_152 (by decide) rfl (cells1 := 0) (slots1 := 0) (by decide) (by decide) (Nat.le_of_ble_eq_true rfl) (Nat.le_of_ble_eq_true rfl) rfl (Nat.le_of_ble_eq_true rfl) dX12_readLoss_18 (fun r_44 L_45 f_46 h_47 => ?_)
  obtain ⟨rfl, rfl, rfl⟩ := h_47
  have jn_65 : ∀ (v_66 : Int32) (b_67 : (0 ≤ v_66.toInt ∧ v_66.toInt ≤ 1)), V z E 4 0 0 L f 49 [(1, .int v_41), (0, .ref a_0)] [.int v_66] := by
    intro v_66 b_67
    refine v_istore_n hC dX12_readLoss_49 (by decide) (lv' := [(2, .int v_66), (1, .int v_41), (0, .ref a_0)]) rfl ?_
    refine v_iload_n hC dX12_readLoss_50 rfl ?_
    refine v_if_ne hC dX12_readLoss_51 (tgt := 59) (by decide) (fun h_68 => ?_) (fun h_68 => ?_)
    · simp only [Int32.lt_iff_toInt_lt, Int32.le_iff_toInt_le, Int32.reduceToInt, ← Int32.toInt_inj] at h_68
      have nb_69 : (1 ≤ v_66.toInt ∧ v_66.toInt ≤ 1) := by omega
      refine v_iload_n hC dX12_readLoss_59 rfl ?_
      refine v_if_eq_f hC dX12_readLoss_60 (tgt := 80) (by decide) (by first | omega | (simp only [Int32.lt_iff_toInt_lt, Int32.le_iff_toInt_le, Int32.reduceToInt, ← Int32.toInt_inj, true_and, and_true, or_true, true_or, false_or, or_false, false_and, and_false, not_true_eq_false, not_false_eq_true] <;> omega)) ?_
      refine v_aload_n hC dX12_readLoss_63 rfl ?_
      refine v_get hC fl_X12_34 m_1 e_24 rfl dX12_readLoss_64 ?_
      refine v_bipush hC dX12_readLoss_67 (v := 6) (by decide) ?_
      refine v_iald hC m_22 e_f (vp_in_iff.mpr (by decide)) (v := g_f 6) rfl dX12_readLoss_69 ?_
      refine v_bipush hC dX12_readLoss_70 (v := 12) (by decide) ?_
      refine v_icmp_ne hC dX12_readLoss_72 (tgt := 80) (by decide) (fun h_70 => ?_) (fun h_70 => ?_)
      · simp only [Int32.lt_iff_toInt_lt, Int32.le_iff_toInt_le, Int32.reduceToInt, ← Int32.toInt_inj] at h_70
        have nb_71 : (0 ≤ (g_f 6).toInt ∧ (g_f 6).toInt ≤ 11) := by omega
        refine v_aload_n hC dX12_readLoss_80 rfl ?_
        refine v_vi hC (rest := []) m_1 e_24 rfl mi_X12_good ms_X12_good (p_X12_good hW k_0) mx_X12_good ml_X12_139 (by decide) rfl (cells1 := 0) (slots1 := 0) (by decide) (by decide) (Nat.le_of_ble_eq_true rfl) (Nat.le_of_ble_eq_true rfl) rfl (Nat.le_of_ble_eq_true rfl) dX12_readLoss_81 (fun r_72 L_73 f_74 h_75 => ?_)
        obtain ⟨rfl, rfl, b_76, x_77⟩ := h_75
        have fe_80 : fld (f a_0) 12 = (v_32 : Int32).toInt := by rw [e_24]; rfl
        rw [fe_80] at x_77
        clear fe_80
        try simp only [Int32.reduceToInt, Int64.reduceToInt] at x_77
        refine v_if_ne hC dX12_readLoss_84 (tgt := 88) (by decide) (fun h_81 => ?_) (fun h_81 => ?_)
        · simp only [Int32.lt_iff_toInt_lt, Int32.le_iff_toInt_le, Int32.reduceToInt, ← Int32.toInt_inj] at h_81
          have nb_82 : (1 ≤ r_72.toInt ∧ r_72.toInt ≤ 1) := by omega
          have g0_83 := gd_t x_77 h_81
          clear x_77
          refine v_aload_n hC dX12_readLoss_88 rfl ?_
          refine v_ldcwS hC sr_X12_287 dX12_readLoss_89 ?_
          refine v_vi hC (rest := []) m_1 e_24 rfl mi_X12_takes ms_X12_takes (p_X12_takes hW k_0 (by decide)) mx_X12_takes ml_X12_159 (by decide) rfl (cells1 := 0) (slots1 := 0) (by decide) (by decide) (Nat.le_of_ble_eq_true rfl) (Nat.le_of_ble_eq_true rfl) rfl (Nat.le_of_ble_eq_true rfl) dX12_readLoss_92 (fun r_85 L_86 f_87 h_88 => ?_)
          obtain ⟨rfl, hW_92, hF_93, rfl, x_89, x_90, x_91, -⟩ := h_88
          have fe_94 : fld (f a_0) 8 = (v_28 : Int32).toInt := by rw [e_24]; rfl
          have fe_95 : fld (f a_0) 9 = (v_29 : Int32).toInt := by rw [e_24]; rfl
          have fe_96 : fld (f a_0) 10 = (v_30 : Int32).toInt := by rw [e_24]; rfl
          have fe_97 : fld (f a_0) 12 = (v_32 : Int32).toInt := by rw [e_24]; rfl
          have hf_98 := hF_93.at e_f rfl
          obtain ⟨v_100, v_101, v_102, v_103, v_104, v_105, v_106, v_107, v_108, v_109, v_110, e_99, -, -, -, -, -, -, -⟩ := hW_92.at m_1 t_2
          have fe_111 : fld (f_87 a_0) 8 = (v_103 : Int32).toInt := by rw [e_99]; rfl
          have fe_112 : fld (f_87 a_0) 9 = (v_104 : Int32).toInt := by rw [e_99]; rfl
          have fe_113 : fld (f_87 a_0) 10 = (v_105 : Int32).toInt := by rw [e_99]; rfl
          have fe_114 : fld (f_87 a_0) 12 = (v_107 : Int32).toInt := by rw [e_99]; rfl
          rw [fe_94, fe_112, fe_111, fe_113] at x_89
          rw [fe_111, fe_94, fe_112, fe_95, fe_113, fe_96] at x_90
          rw [fe_114, fe_97] at x_91
          have g0_115 := x_91.trans g0_83
          clear fe_94 fe_95 fe_96 fe_97 fe_111 fe_112 fe_113 fe_114
          try simp only [Int32.reduceToInt, Int64.reduceToInt] at x_89
          try simp only [Int32.reduceToInt, Int64.reduceToInt] at x_90
          try simp only [Int32.reduceToInt, Int64.reduceToInt] at x_91
          refine v_if_eq hC dX12_readLoss_95 (tgt := 193) (by decide) (fun h_116 => ?_) (fun h_116 => ?_)
          · simp only [Int32.lt_iff_toInt_lt, Int32.le_iff_toInt_le, Int32.reduceToInt, ← Int32.toInt_inj] at h_116
            refine v_aload_n hC dX12_readLoss_193 rfl ?_
            refine v_ldcwS hC sr_X12_289 dX12_readLoss_194 ?_
            refine v_vi hC (rest := []) m_1 e_99 rfl mi_X12_takes ms_X12_takes (p_X12_takes hW_92 k_0 (by decide)) mx_X12_takes ml_X12_159 (by decide) rfl (cells1 := 0) (slots1 := 0) (by decide) (by decide) (Nat.le_of_ble_eq_true rfl) (Nat.le_of_ble_eq_true rfl) rfl (Nat.le_of_ble_eq_true rfl) dX12_readLoss_197 (fun r_117 L_118 f_119 h_120 => ?_)
            obtain ⟨rfl, hW_124, hF_125, rfl, x_121, x_122, x_123, -⟩ := h_120
            have fe_126 : fld (f_87 a_0) 8 = (v_103 : Int32).toInt := by rw [e_99]; rfl
            have fe_127 : fld (f_87 a_0) 9 = (v_104 : Int32).toInt := by rw [e_99]; rfl
            have fe_128 : fld (f_87 a_0) 10 = (v_105 : Int32).toInt := by rw [e_99]; rfl
            have fe_129 : fld (f_87 a_0) 12 = (v_107 : Int32).toInt := by rw [e_99]; rfl
            have hf_130 := hF_125.at hf_98 rfl
            obtain ⟨v_132, v_133, v_134, v_135, v_136, v_137, v_138, v_139, v_140, v_141, v_142, e_131, -, -, -, -, -, -, -⟩ := hW_124.at m_1 t_2
            have fe_143 : fld (f_119 a_0) 8 = (v_135 : Int32).toInt := by rw [e_131]; rfl
            have fe_144 : fld (f_119 a_0) 9 = (v_136 : Int32).toInt := by rw [e_131]; rfl
            have fe_145 : fld (f_119 a_0) 10 = (v_137 : Int32).toInt := by rw [e_131]; rfl
            have fe_146 : fld (f_119 a_0) 12 = (v_139 : Int32).toInt := by rw [e_131]; rfl
            rw [fe_126, fe_144, fe_143, fe_145] at x_121
            rw [fe_143, fe_126, fe_144, fe_127, fe_145, fe_128] at x_122
            rw [fe_146, fe_129] at x_123
            have g0_147 := x_123.trans g0_115
            clear fe_126 fe_127 fe_128 fe_129 fe_143 fe_144 fe_145 fe_146
            try simp only [Int32.reduceToInt, Int64.reduceToInt] at x_121
            try simp only [Int32.reduceToInt, Int64.reduceToInt] at x_122
            try simp only [Int32.reduceToInt, Int64.reduceToInt] at x_123
            refine v_if_eq hC dX12_readLoss_200 (tgt := 247) (by decide) (fun h_148 => ?_) (fun h_148 => ?_)
            · simp only [Int32.lt_iff_toInt_lt, Int32.le_iff_toInt_le, Int32.reduceToInt, ← Int32.toInt_inj] at h_148
              refine v_aload_n hC dX12_readLoss_247 rfl ?_
              refine v_vv hC (rest := []) m_1 e_131 rfl mi_X12_advance ms_X12_advance (p_X12_advance hW_124 k_0) mx_X12_advance ml_X12_156 (by decide) rfl (cells1 := 0) (slots1 := 0) (by decide) (by decide) (Nat.le_of_ble_eq_true rfl) (Nat.le_of_ble_eq_true rfl) rfl (Nat.le_of_ble_eq_true rfl) dX12_readLoss_248 (fun L_150 f_151 h_152 => ?_)
              obtain ⟨rfl, hW_156, hF_157, x_153, x_154, x_155, -⟩ := h_152
              have fe_158 : fld (f_119 a_0) 8 = (v_135 : Int32).toInt := by rw [e_131]; rfl
              have fe_159 : fld (f_119 a_0) 12 = (v_139 : Int32).toInt := by rw [e_131]; rfl
              have hf_160 := hF_157.at hf_130 rfl
              obtain ⟨v_162, v_163, v_164, v_165, v_166, v_167, v_168, v_169, v_170, v_171, v_172, e_161, -, -, -, -, -, -, -⟩ := hW_156.at m_1 t_2
              have fe_173 : fld (f_151 a_0) 8 = (v_165 : Int32).toInt := by rw [e_161]; rfl
              have fe_174 : fld (f_151 a_0) 9 = (v_166 : Int32).toInt := by rw [e_161]; rfl
              have fe_175 : fld (f_151 a_0) 10 = (v_167 : Int32).toInt := by rw [e_161]; rfl
              have fe_176 : fld (f_151 a_0) 12 = (v_169 : Int32).toInt := by rw [e_161]; rfl
              rw [fe_158, fe_174, fe_173] at x_153
              rw [fe_175, fe_174, fe_173] at x_154
              rw [fe_176, fe_159] at x_155
              have g0_177 := x_155.trans g0_147
              clear fe_158 fe_159 fe_173 fe_174 fe_175 fe_176
              refine v_aload_n hC dX12_readLoss_251 rfl ?_
              refine v_get hC fl_X12_34 m_1 e_161 rfl dX12_readLoss_252 ?_
              refine v_iload_n hC dX12_readLoss_255 rfl ?_
              refine v_iconst hC dX12_readLoss_256 (v := 3) (by decide) ?_
              refine v_iast hC m_22 hf_160 (vp_in_iff.mpr (by first | omega | (simp only [Int32.lt_iff_toInt_lt, Int32.le_iff_toInt_le, Int32.reduceToInt, ← Int32.toInt_inj, true_and, and_true, or_true, true_or, false_or, or_false, false_and, and_false, not_true_eq_false, not_false_eq_true] <;> omega))) dX12_readLoss_257 (fun f_178 hf_179 hk_180 => ?_)
              have hW_182 := hW_156.up hf_179 hk_180 t_23 ⟨_, rfl, (o_f.up (by first | omega | (simp only [Int32.lt_iff_toInt_lt, Int32.le_iff_toInt_le, Int32.reduceToInt, ← Int32.toInt_inj, true_and, and_true, or_true, true_or, false_or, or_false, false_and, and_false, not_true_eq_false, not_false_eq_true] <;> omega)) (fun q1 q2 => (by first | omega | (simp only [Int32.lt_iff_toInt_lt, Int32.le_iff_toInt_le, Int32.reduceToInt, ← Int32.toInt_inj] at *; omega))) (fun k9 q1 q2 q3 => (by first | omega | (simp only [Int32.lt_iff_toInt_lt, Int32.le_iff_toInt_le, Int32.reduceToInt, ← Int32.toInt_inj] at *; omega))))⟩
              obtain ⟨g_181, hf_179, ok_183, eg_184⟩ : ∃ g9, f_178 (q 14) = aI E 2076 g9 ∧ FOK g9 ∧ g9 = upd g_f (v_41 : Int32).toNatClampNeg 3 := ⟨_, hf_179, (o_f.up (by first | omega | (simp only [Int32.lt_iff_toInt_lt, Int32.le_iff_toInt_le, Int32.reduceToInt, ← Int32.toInt_inj, true_and, and_true, or_true, true_or, false_or, or_false, false_and, and_false, not_true_eq_false, not_false_eq_true] <;> omega)) (fun q1 q2 => (by first | omega | (simp only [Int32.lt_iff_toInt_lt, Int32.le_iff_toInt_le, Int32.reduceToInt, ← Int32.toInt_inj] at *; omega))) (fun k9 q1 q2 q3 => (by first | omega | (simp only [Int32.lt_iff_toInt_lt, Int32.le_iff_toInt_le, Int32.reduceToInt, ← Int32.toInt_inj] at *; omega)))), rfl⟩
              have hf_185 := (hk_180 a_0 (ne_kd e_161 hf_160 rfl)).trans e_161
              have fr_186 := FR.w hk_180 hf_160 (k := 2176) rfl
              have lk_187 := lk_at (g0 := g_f) eg_184 (by omega) (by omega)
              have ag_188 := (AG.rf o_f).st eg_184 (by omega) (by omega)
              try simp only [Int32.reduceToInt] at lk_187
              refine v_aload_n hC dX12_readLoss_258 rfl ?_
              refine v_vv hC (rest := []) m_1 hf_185 rfl mi_X12_ends ms_X12_ends (p_X12_ends hW_182 k_0) mx_X12_ends ml_X12_178 (by decide) rfl (cells1 := 0) (slots1 := 0) (by decide) (by decide) (Nat.le_of_ble_eq_true rfl) (Nat.le_of_ble_eq_true rfl) rfl (Nat.le_of_ble_eq_true rfl) dX12_readLoss_259 (fun L_190 f_191 h_192 => ?_)
              obtain ⟨rfl, hW_194, hF_195, -, -, -, -, x_193⟩ := h_192
              have fe_196 : fld (f_178 a_0) 8 = (v_165 : Int32).toInt := by rw [hf_185]; rfl
              have fe_197 : fld (f_178 a_0) 10 = (v_167 : Int32).toInt := by rw [hf_185]; rfl
              have fe_198 : fld (f_178 a_0) 12 = (v_169 : Int32).toInt := by rw [hf_185]; rfl
              have hf_199 := hF_195.at hf_179 rfl
              obtain ⟨v_201, v_202, v_203, v_204, v_205, v_206, v_207, v_208, v_209, v_210, v_211, e_200, -, -, -, -, -, -, -⟩ := hW_194.at m_1 t_2
              have fe_212 : fld (f_191 a_0) 8 = (v_204 : Int32).toInt := by rw [e_200]; rfl
              have fe_213 : fld (f_191 a_0) 9 = (v_205 : Int32).toInt := by rw [e_200]; rfl
              have fe_214 : fld (f_191 a_0) 10 = (v_206 : Int32).toInt := by rw [e_200]; rfl
              have fe_215 : fld (f_191 a_0) 12 = (v_208 : Int32).toInt := by rw [e_200]; rfl
              rw [fe_215, fe_198, fe_197, fe_196, fe_213, fe_212, fe_214] at x_193
              clear fe_196 fe_197 fe_198 fe_212 fe_213 fe_214 fe_215
              refine v_aload_n hC dX12_readLoss_262 rfl ?_
              refine v_get hC fl_X12_34 m_1 e_200 rfl dX12_readLoss_263 ?_
              refine v_bipush hC dX12_readLoss_266 (v := 6) (by decide) ?_
              refine v_dup2 hC dX12_readLoss_268 rfl rfl ?_
              have l6_216 : (g_181 6).toInt = (g_f 6).toInt := congrArg Int32.toInt ag_188.2.1
              refine v_iald hC m_22 hf_199 (vp_in_iff.mpr (by decide)) (v := g_181 6) rfl dX12_readLoss_269 ?_
              refine v_iconst hC dX12_readLoss_270 (v := 1) (by decide) ?_
              obtain ⟨v_217, h_218⟩ : ∃ v9 : Int32, (g_181 6) + 1 = v9 := ⟨_, rfl⟩
              refine v_iadd hC dX12_readLoss_271 h_218 ?_
              have h_219 := add_v h_218 (by first | omega | (simp only [Int32.lt_iff_toInt_lt, Int32.le_iff_toInt_le, Int32.reduceToInt, ← Int32.toInt_inj, true_and, and_true, or_true, true_or, false_or, or_false, false_and, and_false, not_true_eq_false, not_false_eq_true] <;> omega)) (by first | omega | (simp only [Int32.lt_iff_toInt_lt, Int32.le_iff_toInt_le, Int32.reduceToInt, ← Int32.toInt_inj, true_and, and_true, or_true, true_or, false_or, or_false, false_and, and_false, not_true_eq_false, not_false_eq_true] <;> omega))
              try simp only [Int32.reduceToInt] at h_219
              refine v_iast hC m_22 hf_199 (vp_in_iff.mpr (by decide)) dX12_readLoss_272 (fun f_220 hf_221 hk_222 => ?_)
              have hW_224 := hW_194.up hf_221 hk_222 t_23 ⟨_, rfl, (ok_183.up (i := 6) (by decide) (fun q1 q2 => absurd (And.intro q1 q2) (by decide)) (fun k9 q1 q2 q3 => by simp only [Int32.reduceToInt] at q3; omega))⟩
              obtain ⟨g_223, hf_221, ok_225, eg_226⟩ : ∃ g9, f_220 (q 14) = aI E 2076 g9 ∧ FOK g9 ∧ g9 = upd g_181 (6 : Int32).toNatClampNeg v_217 := ⟨_, hf_221, (ok_183.up (i := 6) (by decide) (fun q1 q2 => absurd (And.intro q1 q2) (by decide)) (fun k9 q1 q2 q3 => by simp only [Int32.reduceToInt] at q3; omega)), rfl⟩
              have hf_227 := (hk_222 a_0 (ne_kd e_200 hf_199 rfl)).trans e_200
              have fr_228 := FR.w hk_222 hf_199 (k := 2176) rfl
              have ln6_229 := FOK.n6 ag_188.1 eg_226
              have ln6_229_t : (g_223 6).toInt = v_217.toInt := congrArg Int32.toInt ln6_229.2
              have fe_230 : fld (f_220 a_0) 12 = (v_208 : Int32).toInt := by rw [hf_227]; rfl
              have fe_232 : fld (f_220 a_0) 8 = (v_204 : Int32).toInt := by rw [hf_227]; rfl
              have fe_233 : fld (f_220 a_0) 12 = (v_208 : Int32).toInt := by rw [hf_227]; rfl
              exact hR _ _ _ _ _ _ dX12_readLoss_273 (Nat.le_of_ble_eq_true rfl) (Nat.le_of_ble_eq_true rfl) ⟨rfl, hW_224, ((((((hF_93.tr hF_125).tr hF_157).tr fr_186).tr hF_195).tr fr_228).mono rfl), ⟨_, hf_221, ln6_229.1, (by omega), (by rw [fe_230]; by_cases q9 : v_208.toInt = 0; have gp_231 := x_193.resolve_left (fun h9 => h9 q9); clear x_193; exact .inr (LO.fin hLO ag_188 eg_226 (by omega) (by omega) (fun q8 => by omega)); exact .inl q9)⟩, (by simp only [fe_232, fe_233, mz_36, mz_37]; by_cases q9 : (v_208 : Int32).toInt = 0; have gp_234 := x_193.resolve_left (fun h9 => h9 q9); clear x_193; (right; omega); exact .inl q9)⟩
            · simp only [Int32.lt_iff_toInt_lt, Int32.le_iff_toInt_le, Int32.reduceToInt, ← Int32.toInt_inj] at h_148
              refine v_aload_n hC dX12_readLoss_203 rfl ?_
              refine v_get hC fl_X12_34 m_1 e_131 rfl dX12_readLoss_204 ?_
              refine v_iload_n hC dX12_readLoss_207 rfl ?_
              refine v_iconst hC dX12_readLoss_208 (v := 2) (by decide) ?_
              refine v_iast hC m_22 hf_130 (vp_in_iff.mpr (by first | omega | (simp only [Int32.lt_iff_toInt_lt, Int32.le_iff_toInt_le, Int32.reduceToInt, ← Int32.toInt_inj, true_and, and_true, or_true, true_or, false_or, or_false, false_and, and_false, not_true_eq_false, not_false_eq_true] <;> omega))) dX12_readLoss_209 (fun f_235 hf_236 hk_237 => ?_)
              have hW_239 := hW_124.up hf_236 hk_237 t_23 ⟨_, rfl, (o_f.up (by first | omega | (simp only [Int32.lt_iff_toInt_lt, Int32.le_iff_toInt_le, Int32.reduceToInt, ← Int32.toInt_inj, true_and, and_true, or_true, true_or, false_or, or_false, false_and, and_false, not_true_eq_false, not_false_eq_true] <;> omega)) (fun q1 q2 => (by first | omega | (simp only [Int32.lt_iff_toInt_lt, Int32.le_iff_toInt_le, Int32.reduceToInt, ← Int32.toInt_inj] at *; omega))) (fun k9 q1 q2 q3 => (by first | omega | (simp only [Int32.lt_iff_toInt_lt, Int32.le_iff_toInt_le, Int32.reduceToInt, ← Int32.toInt_inj] at *; omega))))⟩
              obtain ⟨g_238, hf_236, ok_240, eg_241⟩ : ∃ g9, f_235 (q 14) = aI E 2076 g9 ∧ FOK g9 ∧ g9 = upd g_f (v_41 : Int32).toNatClampNeg 2 := ⟨_, hf_236, (o_f.up (by first | omega | (simp only [Int32.lt_iff_toInt_lt, Int32.le_iff_toInt_le, Int32.reduceToInt, ← Int32.toInt_inj, true_and, and_true, or_true, true_or, false_or, or_false, false_and, and_false, not_true_eq_false, not_false_eq_true] <;> omega)) (fun q1 q2 => (by first | omega | (simp only [Int32.lt_iff_toInt_lt, Int32.le_iff_toInt_le, Int32.reduceToInt, ← Int32.toInt_inj] at *; omega))) (fun k9 q1 q2 q3 => (by first | omega | (simp only [Int32.lt_iff_toInt_lt, Int32.le_iff_toInt_le, Int32.reduceToInt, ← Int32.toInt_inj] at *; omega)))), rfl⟩
              have hf_242 := (hk_237 a_0 (ne_kd e_131 hf_130 rfl)).trans e_131
              have fr_243 := FR.w hk_237 hf_130 (k := 2176) rfl
              have lk_244 := lk_at (g0 := g_f) eg_241 (by omega) (by omega)
              have ag_245 := (AG.rf o_f).st eg_241 (by omega) (by omega)
              try simp only [Int32.reduceToInt] at lk_244
              refine v_aload_n hC dX12_readLoss_210 rfl ?_
              refine v_get hC fl_X12_34 m_1 hf_242 rfl dX12_readLoss_211 ?_
              refine v_iload_n hC dX12_readLoss_214 rfl ?_
              refine v_iconst hC dX12_readLoss_215 (v := 1) (by decide) ?_
              obtain ⟨v_246, h_247⟩ : ∃ v9 : Int32, v_41 + 1 = v9 := ⟨_, rfl⟩
              refine v_iadd hC dX12_readLoss_216 h_247 ?_
              have h_248 := add_v h_247 (by first | omega | (simp only [Int32.lt_iff_toInt_lt, Int32.le_iff_toInt_le, Int32.reduceToInt, ← Int32.toInt_inj, true_and, and_true, or_true, true_or, false_or, or_false, false_and, and_false, not_true_eq_false, not_false_eq_true] <;> omega)) (by first | omega | (simp only [Int32.lt_iff_toInt_lt, Int32.le_iff_toInt_le, Int32.reduceToInt, ← Int32.toInt_inj, true_and, and_true, or_true, true_or, false_or, or_false, false_and, and_false, not_true_eq_false, not_false_eq_true] <;> omega))
              try simp only [Int32.reduceToInt] at h_248
              refine v_aload_n hC dX12_readLoss_217 rfl ?_
              refine v_iconst hC dX12_readLoss_218 (v := 1) (by decide) ?_
              refine v_bipush hC dX12_readLoss_219 (v := 99) (by decide) ?_
              refine v_vi hC (rest := [.int v_246, .ref (q 14)]) m_1 hf_242 rfl mi_X12_number ms_X12_number (p_X12_number hW_239 k_0) mx_X12_number ml_X12_170 (by decide) rfl (cells1 := 0) (slots1 := 0) (by decide) (by decide) (Nat.le_of_ble_eq_true rfl) (Nat.le_of_ble_eq_true rfl) rfl (Nat.le_of_ble_eq_true rfl) dX12_readLoss_221 (fun r_249 L_250 f_251 h_252 => ?_)
              obtain ⟨rfl, hW_254, hF_255, -, -, -, -, -, x_253⟩ := h_252
              have fe_256 : fld (f_235 a_0) 8 = (v_135 : Int32).toInt := by rw [hf_242]; rfl
              have fe_257 : fld (f_235 a_0) 10 = (v_137 : Int32).toInt := by rw [hf_242]; rfl
              have fe_258 : fld (f_235 a_0) 12 = (v_139 : Int32).toInt := by rw [hf_242]; rfl
              have hf_259 := hF_255.at hf_236 rfl
              obtain ⟨v_261, v_262, v_263, v_264, v_265, v_266, v_267, v_268, v_269, v_270, v_271, e_260, -, -, -, -, -, -, -⟩ := hW_254.at m_1 t_2
              have fe_272 : fld (f_251 a_0) 8 = (v_264 : Int32).toInt := by rw [e_260]; rfl
              have fe_273 : fld (f_251 a_0) 9 = (v_265 : Int32).toInt := by rw [e_260]; rfl
              have fe_274 : fld (f_251 a_0) 10 = (v_266 : Int32).toInt := by rw [e_260]; rfl
              have fe_275 : fld (f_251 a_0) 12 = (v_268 : Int32).toInt := by rw [e_260]; rfl
              rw [fe_275, fe_258, fe_257, fe_256, fe_273, fe_272, fe_274] at x_253
              clear fe_256 fe_257 fe_258 fe_272 fe_273 fe_274 fe_275
              try simp only [Int32.reduceToInt, Int64.reduceToInt] at x_253
              refine v_iast hC m_22 hf_259 (vp_in_iff.mpr (by first | omega | (simp only [Int32.lt_iff_toInt_lt, Int32.le_iff_toInt_le, Int32.reduceToInt, ← Int32.toInt_inj, true_and, and_true, or_true, true_or, false_or, or_false, false_and, and_false, not_true_eq_false, not_false_eq_true] <;> omega))) dX12_readLoss_224 (fun f_276 hf_277 hk_278 => ?_)
              have hW_280 := hW_254.up hf_277 hk_278 t_23 ⟨_, rfl, (ok_240.up (by first | omega | (simp only [Int32.lt_iff_toInt_lt, Int32.le_iff_toInt_le, Int32.reduceToInt, ← Int32.toInt_inj, true_and, and_true, or_true, true_or, false_or, or_false, false_and, and_false, not_true_eq_false, not_false_eq_true] <;> omega)) (fun q1 q2 => (by first | omega | (simp only [Int32.lt_iff_toInt_lt, Int32.le_iff_toInt_le, Int32.reduceToInt, ← Int32.toInt_inj] at *; omega))) (fun k9 q1 q2 q3 => (by first | omega | (simp only [Int32.lt_iff_toInt_lt, Int32.le_iff_toInt_le, Int32.reduceToInt, ← Int32.toInt_inj] at *; omega))))⟩
              obtain ⟨g_279, hf_277, ok_281, eg_282⟩ : ∃ g9, f_276 (q 14) = aI E 2076 g9 ∧ FOK g9 ∧ g9 = upd g_238 (v_246 : Int32).toNatClampNeg r_249 := ⟨_, hf_277, (ok_240.up (by first | omega | (simp only [Int32.lt_iff_toInt_lt, Int32.le_iff_toInt_le, Int32.reduceToInt, ← Int32.toInt_inj, true_and, and_true, or_true, true_or, false_or, or_false, false_and, and_false, not_true_eq_false, not_false_eq_true] <;> omega)) (fun q1 q2 => (by first | omega | (simp only [Int32.lt_iff_toInt_lt, Int32.le_iff_toInt_le, Int32.reduceToInt, ← Int32.toInt_inj] at *; omega))) (fun k9 q1 q2 q3 => (by first | omega | (simp only [Int32.lt_iff_toInt_lt, Int32.le_iff_toInt_le, Int32.reduceToInt, ← Int32.toInt_inj] at *; omega)))), rfl⟩
              have hf_283 := (hk_278 a_0 (ne_kd e_260 hf_259 rfl)).trans e_260
              have fr_284 := FR.w hk_278 hf_259 (k := 2176) rfl
              have lk_285 := lf_at (g0 := g_f) eg_282 (by omega) (by omega)
              have ag_286 := ag_245.st eg_282 (by omega) (by omega)
              try simp only [Int32.reduceToInt] at lk_285
              refine v_aload_n hC dX12_readLoss_225 rfl ?_
              refine v_get hC fl_X12_34 m_1 hf_283 rfl dX12_readLoss_226 ?_
              refine v_iload_n hC dX12_readLoss_229 rfl ?_
              refine v_iconst hC dX12_readLoss_230 (v := 2) (by decide) ?_
              obtain ⟨v_287, h_288⟩ : ∃ v9 : Int32, v_41 + 2 = v9 := ⟨_, rfl⟩
              refine v_iadd hC dX12_readLoss_231 h_288 ?_
              have h_289 := add_v h_288 (by first | omega | (simp only [Int32.lt_iff_toInt_lt, Int32.le_iff_toInt_le, Int32.reduceToInt, ← Int32.toInt_inj, true_and, and_true, or_true, true_or, false_or, or_false, false_and, and_false, not_true_eq_false, not_false_eq_true] <;> omega)) (by first | omega | (simp only [Int32.lt_iff_toInt_lt, Int32.le_iff_toInt_le, Int32.reduceToInt, ← Int32.toInt_inj, true_and, and_true, or_true, true_or, false_or, or_false, false_and, and_false, not_true_eq_false, not_false_eq_true] <;> omega))
              try simp only [Int32.reduceToInt] at h_289
              refine v_aload_n hC dX12_readLoss_232 rfl ?_
              refine v_ldcwS hC sr_X12_297 dX12_readLoss_233 ?_
              refine v_iconst hC dX12_readLoss_236 (v := 0) (by decide) ?_
              refine v_sipush hC dX12_readLoss_237 (v := 255) (by decide) ?_
              refine v_vi hC (rest := [.int v_287, .ref (q 14)]) m_1 hf_283 rfl mi_X12_told ms_X12_told (p_X12_told hW_280 k_0 (by decide)) mx_X12_told ml_X12_189 (by decide) rfl (cells1 := 0) (slots1 := 0) (by decide) (by decide) (Nat.le_of_ble_eq_true rfl) (Nat.le_of_ble_eq_true rfl) rfl (Nat.le_of_ble_eq_true rfl) dX12_readLoss_240 (fun r_290 L_291 f_292 h_293 => ?_)
              obtain ⟨rfl, hW_295, hF_296, -, -, -, -, -, x_294⟩ := h_293
              have fe_297 : fld (f_276 a_0) 8 = (v_264 : Int32).toInt := by rw [hf_283]; rfl
              have fe_298 : fld (f_276 a_0) 12 = (v_268 : Int32).toInt := by rw [hf_283]; rfl
              have hf_299 := hF_296.at hf_277 rfl
              obtain ⟨v_301, v_302, v_303, v_304, v_305, v_306, v_307, v_308, v_309, v_310, v_311, e_300, -, -, -, -, -, -, -⟩ := hW_295.at m_1 t_2
              have fe_312 : fld (f_292 a_0) 8 = (v_304 : Int32).toInt := by rw [e_300]; rfl
              have fe_313 : fld (f_292 a_0) 9 = (v_305 : Int32).toInt := by rw [e_300]; rfl
              have fe_314 : fld (f_292 a_0) 10 = (v_306 : Int32).toInt := by rw [e_300]; rfl
              have fe_315 : fld (f_292 a_0) 12 = (v_308 : Int32).toInt := by rw [e_300]; rfl
              rw [fe_315, fe_298, fe_297, fe_313, fe_312, fe_314] at x_294
              clear fe_297 fe_298 fe_312 fe_313 fe_314 fe_315
              try simp only [Int32.reduceToInt, Int64.reduceToInt] at x_294
              refine v_iast hC m_22 hf_299 (vp_in_iff.mpr (by first | omega | (simp only [Int32.lt_iff_toInt_lt, Int32.le_iff_toInt_le, Int32.reduceToInt, ← Int32.toInt_inj, true_and, and_true, or_true, true_or, false_or, or_false, false_and, and_false, not_true_eq_false, not_false_eq_true] <;> omega))) dX12_readLoss_243 (fun f_316 hf_317 hk_318 => ?_)
              have hW_320 := hW_295.up hf_317 hk_318 t_23 ⟨_, rfl, (ok_281.up (by first | omega | (simp only [Int32.lt_iff_toInt_lt, Int32.le_iff_toInt_le, Int32.reduceToInt, ← Int32.toInt_inj, true_and, and_true, or_true, true_or, false_or, or_false, false_and, and_false, not_true_eq_false, not_false_eq_true] <;> omega)) (fun q1 q2 => (by first | omega | (simp only [Int32.lt_iff_toInt_lt, Int32.le_iff_toInt_le, Int32.reduceToInt, ← Int32.toInt_inj] at *; omega))) (fun k9 q1 q2 q3 => (by first | omega | (simp only [Int32.lt_iff_toInt_lt, Int32.le_iff_toInt_le, Int32.reduceToInt, ← Int32.toInt_inj] at *; omega))))⟩
              obtain ⟨g_319, hf_317, ok_321, eg_322⟩ : ∃ g9, f_316 (q 14) = aI E 2076 g9 ∧ FOK g9 ∧ g9 = upd g_279 (v_287 : Int32).toNatClampNeg r_290 := ⟨_, hf_317, (ok_281.up (by first | omega | (simp only [Int32.lt_iff_toInt_lt, Int32.le_iff_toInt_le, Int32.reduceToInt, ← Int32.toInt_inj, true_and, and_true, or_true, true_or, false_or, or_false, false_and, and_false, not_true_eq_false, not_false_eq_true] <;> omega)) (fun q1 q2 => (by first | omega | (simp only [Int32.lt_iff_toInt_lt, Int32.le_iff_toInt_le, Int32.reduceToInt, ← Int32.toInt_inj] at *; omega))) (fun k9 q1 q2 q3 => (by first | omega | (simp only [Int32.lt_iff_toInt_lt, Int32.le_iff_toInt_le, Int32.reduceToInt, ← Int32.toInt_inj] at *; omega)))), rfl⟩
              have hf_323 := (hk_318 a_0 (ne_kd e_300 hf_299 rfl)).trans e_300
              have fr_324 := FR.w hk_318 hf_299 (k := 2176) rfl
              have lk_325 := l2_at (g0 := g_f) eg_322 (by omega) (by omega)
              have ag_326 := ag_286.st eg_322 (by omega) (by omega)
              try simp only [Int32.reduceToInt] at lk_325
              refine v_goto hC dX12_readLoss_244 (tgt := 258) (by decide) ?_
              refine v_aload_n hC dX12_readLoss_258 rfl ?_
              refine v_vv hC (rest := []) m_1 hf_323 rfl mi_X12_ends ms_X12_ends (p_X12_ends hW_320 k_0) mx_X12_ends ml_X12_178 (by decide) rfl (cells1 := 0) (slots1 := 0) (by decide) (by decide) (Nat.le_of_ble_eq_true rfl) (Nat.le_of_ble_eq_true rfl) rfl (Nat.le_of_ble_eq_true rfl) dX12_readLoss_259 (fun L_328 f_329 h_330 => ?_)
              obtain ⟨rfl, hW_332, hF_333, -, -, -, -, x_331⟩ := h_330
              have fe_334 : fld (f_316 a_0) 8 = (v_304 : Int32).toInt := by rw [hf_323]; rfl
              have fe_335 : fld (f_316 a_0) 10 = (v_306 : Int32).toInt := by rw [hf_323]; rfl
              have fe_336 : fld (f_316 a_0) 12 = (v_308 : Int32).toInt := by rw [hf_323]; rfl
              have hf_337 := hF_333.at hf_317 rfl
              obtain ⟨v_339, v_340, v_341, v_342, v_343, v_344, v_345, v_346, v_347, v_348, v_349, e_338, -, -, -, -, -, -, -⟩ := hW_332.at m_1 t_2
              have fe_350 : fld (f_329 a_0) 8 = (v_342 : Int32).toInt := by rw [e_338]; rfl
              have fe_351 : fld (f_329 a_0) 9 = (v_343 : Int32).toInt := by rw [e_338]; rfl
              have fe_352 : fld (f_329 a_0) 10 = (v_344 : Int32).toInt := by rw [e_338]; rfl
              have fe_353 : fld (f_329 a_0) 12 = (v_346 : Int32).toInt := by rw [e_338]; rfl
              rw [fe_353, fe_336, fe_335, fe_334, fe_351, fe_350, fe_352] at x_331
              clear fe_334 fe_335 fe_336 fe_350 fe_351 fe_352 fe_353
              refine v_aload_n hC dX12_readLoss_262 rfl ?_
              refine v_get hC fl_X12_34 m_1 e_338 rfl dX12_readLoss_263 ?_
              refine v_bipush hC dX12_readLoss_266 (v := 6) (by decide) ?_
              refine v_dup2 hC dX12_readLoss_268 rfl rfl ?_
              have l6_354 : (g_319 6).toInt = (g_f 6).toInt := congrArg Int32.toInt ag_326.2.1
              refine v_iald hC m_22 hf_337 (vp_in_iff.mpr (by decide)) (v := g_319 6) rfl dX12_readLoss_269 ?_
              refine v_iconst hC dX12_readLoss_270 (v := 1) (by decide) ?_
              obtain ⟨v_355, h_356⟩ : ∃ v9 : Int32, (g_319 6) + 1 = v9 := ⟨_, rfl⟩
              refine v_iadd hC dX12_readLoss_271 h_356 ?_
              have h_357 := add_v h_356 (by first | omega | (simp only [Int32.lt_iff_toInt_lt, Int32.le_iff_toInt_le, Int32.reduceToInt, ← Int32.toInt_inj, true_and, and_true, or_true, true_or, false_or, or_false, false_and, and_false, not_true_eq_false, not_false_eq_true] <;> omega)) (by first | omega | (simp only [Int32.lt_iff_toInt_lt, Int32.le_iff_toInt_le, Int32.reduceToInt, ← Int32.toInt_inj, true_and, and_true, or_true, true_or, false_or, or_false, false_and, and_false, not_true_eq_false, not_false_eq_true] <;> omega))
              try simp only [Int32.reduceToInt] at h_357
              refine v_iast hC m_22 hf_337 (vp_in_iff.mpr (by decide)) dX12_readLoss_272 (fun f_358 hf_359 hk_360 => ?_)
              have hW_362 := hW_332.up hf_359 hk_360 t_23 ⟨_, rfl, (ok_321.up (i := 6) (by decide) (fun q1 q2 => absurd (And.intro q1 q2) (by decide)) (fun k9 q1 q2 q3 => by simp only [Int32.reduceToInt] at q3; omega))⟩
              obtain ⟨g_361, hf_359, ok_363, eg_364⟩ : ∃ g9, f_358 (q 14) = aI E 2076 g9 ∧ FOK g9 ∧ g9 = upd g_319 (6 : Int32).toNatClampNeg v_355 := ⟨_, hf_359, (ok_321.up (i := 6) (by decide) (fun q1 q2 => absurd (And.intro q1 q2) (by decide)) (fun k9 q1 q2 q3 => by simp only [Int32.reduceToInt] at q3; omega)), rfl⟩
              have hf_365 := (hk_360 a_0 (ne_kd e_338 hf_337 rfl)).trans e_338
              have fr_366 := FR.w hk_360 hf_337 (k := 2176) rfl
              have ln6_367 := FOK.n6 ag_326.1 eg_364
              have ln6_367_t : (g_361 6).toInt = v_355.toInt := congrArg Int32.toInt ln6_367.2
              have fe_368 : fld (f_358 a_0) 12 = (v_346 : Int32).toInt := by rw [hf_365]; rfl
              have fe_372 : fld (f_358 a_0) 8 = (v_342 : Int32).toInt := by rw [hf_365]; rfl
              have fe_373 : fld (f_358 a_0) 12 = (v_346 : Int32).toInt := by rw [hf_365]; rfl
              exact hR _ _ _ _ _ _ dX12_readLoss_273 (Nat.le_of_ble_eq_true rfl) (Nat.le_of_ble_eq_true rfl) ⟨rfl, hW_362, (((((((((hF_93.tr hF_125).tr fr_243).tr hF_255).tr fr_284).tr hF_296).tr fr_324).tr hF_333).tr fr_366).mono rfl), ⟨_, hf_359, ln6_367.1, (by omega), (by rw [fe_368]; by_cases q9 : v_346.toInt = 0; have gp_369 := x_331.resolve_left (fun h9 => h9 q9); clear x_331; have gp_370 := x_294.resolve_left (fun h9 => h9 gp_369.1); clear x_294; have gp_371 := x_253.resolve_left (fun h9 => h9 gp_370.1); clear x_253; exact .inr (LO.fin hLO ag_326 eg_364 (by omega) (by omega) (fun q8 => by omega)); exact .inl q9)⟩, (by simp only [fe_372, fe_373, mz_36, mz_37]; by_cases q9 : (v_346 : Int32).toInt = 0; have gp_374 := x_331.resolve_left (fun h9 => h9 q9); clear x_331; have gp_375 := x_294.resolve_left (fun h9 => h9 gp_374.1); clear x_294; have gp_376 := x_253.resolve_left (fun h9 => h9 gp_375.1); clear x_253; (right; omega); exact .inl q9)⟩
          · simp only [Int32.lt_iff_toInt_lt, Int32.le_iff_toInt_le, Int32.reduceToInt, ← Int32.toInt_inj] at h_116
            refine v_aload_n hC dX12_readLoss_98 rfl ?_
            refine v_ldcwS hC sr_X12_293 dX12_readLoss_99 ?_
            refine v_vi hC (rest := []) m_1 e_99 rfl mi_X12_is ms_X12_is (p_X12_is hW_92 k_0 (by decide)) mx_X12_is ml_X12_152 (by decide) rfl (cells1 := 0) (slots1 := 0) (by decide) (by decide) (Nat.le_of_ble_eq_true rfl) (Nat.le_of_ble_eq_true rfl) rfl (Nat.le_of_ble_eq_true rfl) dX12_readLoss_102 (fun r_377 L_378 f_379 h_380 => ?_)
            obtain ⟨rfl, rfl, rfl⟩ := h_380
            refine v_istore_n hC dX12_readLoss_105 (by decide) (lv' := [(3, .int (iw (f_87 a_0) (f_87 (q 4)) 74)), (2, .int v_66), (1, .int v_41), (0, .ref a_0)]) rfl ?_
            refine v_iload_n hC dX12_readLoss_106 rfl ?_
            refine v_if_ne hC dX12_readLoss_107 (tgt := 124) (by decide) (fun h_383 => ?_) (fun h_383 => ?_)
            · simp only [Int32.lt_iff_toInt_lt, Int32.le_iff_toInt_le, Int32.reduceToInt, ← Int32.toInt_inj] at h_383
              refine v_aload_n hC dX12_readLoss_124 rfl ?_
              refine v_vi hC (rest := []) m_1 e_99 rfl mi_X12_good ms_X12_good (p_X12_good hW_92 k_0) mx_X12_good ml_X12_139 (by decide) rfl (cells1 := 0) (slots1 := 0) (by decide) (by decide) (Nat.le_of_ble_eq_true rfl) (Nat.le_of_ble_eq_true rfl) rfl (Nat.le_of_ble_eq_true rfl) dX12_readLoss_125 (fun r_384 L_385 f_386 h_387 => ?_)
              obtain ⟨rfl, rfl, b_388, x_389⟩ := h_387
              have fe_392 : fld (f_87 a_0) 12 = (v_107 : Int32).toInt := by rw [e_99]; rfl
              rw [fe_392] at x_389
              clear fe_392
              try simp only [Int32.reduceToInt, Int64.reduceToInt] at x_389
              refine v_if_eq_f hC dX12_readLoss_128 (tgt := 135) (by decide) (gdb_n x_389 g0_115) ?_
              refine v_aload_n hC dX12_readLoss_131 rfl ?_
              refine v_vv hC (rest := []) m_1 e_99 rfl mi_X12_advance ms_X12_advance (p_X12_advance hW_92 k_0) mx_X12_advance ml_X12_156 (by decide) rfl (cells1 := 0) (slots1 := 0) (by decide) (by decide) (Nat.le_of_ble_eq_true rfl) (Nat.le_of_ble_eq_true rfl) rfl (Nat.le_of_ble_eq_true rfl) dX12_readLoss_132 (fun L_394 f_395 h_396 => ?_)
              obtain ⟨rfl, hW_400, hF_401, x_397, x_398, x_399, -⟩ := h_396
              have fe_402 : fld (f_87 a_0) 8 = (v_103 : Int32).toInt := by rw [e_99]; rfl
              have fe_403 : fld (f_87 a_0) 12 = (v_107 : Int32).toInt := by rw [e_99]; rfl
              have hf_404 := hF_401.at hf_98 rfl
              obtain ⟨v_406, v_407, v_408, v_409, v_410, v_411, v_412, v_413, v_414, v_415, v_416, e_405, -, -, -, -, -, -, -⟩ := hW_400.at m_1 t_2
              have fe_417 : fld (f_395 a_0) 8 = (v_409 : Int32).toInt := by rw [e_405]; rfl
              have fe_418 : fld (f_395 a_0) 9 = (v_410 : Int32).toInt := by rw [e_405]; rfl
              have fe_419 : fld (f_395 a_0) 10 = (v_411 : Int32).toInt := by rw [e_405]; rfl
              have fe_420 : fld (f_395 a_0) 12 = (v_413 : Int32).toInt := by rw [e_405]; rfl
              rw [fe_402, fe_418, fe_417] at x_397
              rw [fe_419, fe_418, fe_417] at x_398
              rw [fe_420, fe_403] at x_399
              have g0_421 := x_399.trans g0_115
              clear fe_402 fe_403 fe_417 fe_418 fe_419 fe_420
              refine v_aload_n hC dX12_readLoss_135 rfl ?_
              refine v_get hC fl_X12_34 m_1 e_405 rfl dX12_readLoss_136 ?_
              refine v_iload_n hC dX12_readLoss_139 rfl ?_
              refine v_iload_n hC dX12_readLoss_140 rfl ?_
              refine v_if_eq_f hC dX12_readLoss_141 (tgt := 148) (by decide) (by first | omega | (simp only [Int32.lt_iff_toInt_lt, Int32.le_iff_toInt_le, Int32.reduceToInt, ← Int32.toInt_inj, true_and, and_true, or_true, true_or, false_or, or_false, false_and, and_false, not_true_eq_false, not_false_eq_true] <;> omega)) ?_
              refine v_iconst hC dX12_readLoss_144 (v := 1) (by decide) ?_
              refine v_goto hC dX12_readLoss_145 (tgt := 149) (by decide) ?_
              refine v_iast hC m_22 hf_404 (vp_in_iff.mpr (by first | omega | (simp only [Int32.lt_iff_toInt_lt, Int32.le_iff_toInt_le, Int32.reduceToInt, ← Int32.toInt_inj, true_and, and_true, or_true, true_or, false_or, or_false, false_and, and_false, not_true_eq_false, not_false_eq_true] <;> omega))) dX12_readLoss_149 (fun f_422 hf_423 hk_424 => ?_)
              have hW_426 := hW_400.up hf_423 hk_424 t_23 ⟨_, rfl, (o_f.up (by first | omega | (simp only [Int32.lt_iff_toInt_lt, Int32.le_iff_toInt_le, Int32.reduceToInt, ← Int32.toInt_inj, true_and, and_true, or_true, true_or, false_or, or_false, false_and, and_false, not_true_eq_false, not_false_eq_true] <;> omega)) (fun q1 q2 => (by first | omega | (simp only [Int32.lt_iff_toInt_lt, Int32.le_iff_toInt_le, Int32.reduceToInt, ← Int32.toInt_inj] at *; omega))) (fun k9 q1 q2 q3 => (by first | omega | (simp only [Int32.lt_iff_toInt_lt, Int32.le_iff_toInt_le, Int32.reduceToInt, ← Int32.toInt_inj] at *; omega))))⟩
              obtain ⟨g_425, hf_423, ok_427, eg_428⟩ : ∃ g9, f_422 (q 14) = aI E 2076 g9 ∧ FOK g9 ∧ g9 = upd g_f (v_41 : Int32).toNatClampNeg 1 := ⟨_, hf_423, (o_f.up (by first | omega | (simp only [Int32.lt_iff_toInt_lt, Int32.le_iff_toInt_le, Int32.reduceToInt, ← Int32.toInt_inj, true_and, and_true, or_true, true_or, false_or, or_false, false_and, and_false, not_true_eq_false, not_false_eq_true] <;> omega)) (fun q1 q2 => (by first | omega | (simp only [Int32.lt_iff_toInt_lt, Int32.le_iff_toInt_le, Int32.reduceToInt, ← Int32.toInt_inj] at *; omega))) (fun k9 q1 q2 q3 => (by first | omega | (simp only [Int32.lt_iff_toInt_lt, Int32.le_iff_toInt_le, Int32.reduceToInt, ← Int32.toInt_inj] at *; omega)))), rfl⟩
              have hf_429 := (hk_424 a_0 (ne_kd e_405 hf_404 rfl)).trans e_405
              have fr_430 := FR.w hk_424 hf_404 (k := 2176) rfl
              have lk_431 := lk_at (g0 := g_f) eg_428 (by omega) (by omega)
              have ag_432 := (AG.rf o_f).st eg_428 (by omega) (by omega)
              try simp only [Int32.reduceToInt] at lk_431
              refine v_aload_n hC dX12_readLoss_150 rfl ?_
              refine v_get hC fl_X12_34 m_1 hf_429 rfl dX12_readLoss_151 ?_
              refine v_iload_n hC dX12_readLoss_154 rfl ?_
              refine v_iconst hC dX12_readLoss_155 (v := 1) (by decide) ?_
              obtain ⟨v_433, h_434⟩ : ∃ v9 : Int32, v_41 + 1 = v9 := ⟨_, rfl⟩
              refine v_iadd hC dX12_readLoss_156 h_434 ?_
              have h_435 := add_v h_434 (by first | omega | (simp only [Int32.lt_iff_toInt_lt, Int32.le_iff_toInt_le, Int32.reduceToInt, ← Int32.toInt_inj, true_and, and_true, or_true, true_or, false_or, or_false, false_and, and_false, not_true_eq_false, not_false_eq_true] <;> omega)) (by first | omega | (simp only [Int32.lt_iff_toInt_lt, Int32.le_iff_toInt_le, Int32.reduceToInt, ← Int32.toInt_inj, true_and, and_true, or_true, true_or, false_or, or_false, false_and, and_false, not_true_eq_false, not_false_eq_true] <;> omega))
              try simp only [Int32.reduceToInt] at h_435
              refine v_aload_n hC dX12_readLoss_157 rfl ?_
              refine v_iconst hC dX12_readLoss_158 (v := 0) (by decide) ?_
              refine v_bipush hC dX12_readLoss_159 (v := 15) (by decide) ?_
              refine v_vi hC (rest := [.int v_433, .ref (q 14)]) m_1 hf_429 rfl mi_X12_number ms_X12_number (p_X12_number hW_426 k_0) mx_X12_number ml_X12_170 (by decide) rfl (cells1 := 0) (slots1 := 0) (by decide) (by decide) (Nat.le_of_ble_eq_true rfl) (Nat.le_of_ble_eq_true rfl) rfl (Nat.le_of_ble_eq_true rfl) dX12_readLoss_161 (fun r_436 L_437 f_438 h_439 => ?_)
              obtain ⟨rfl, hW_441, hF_442, -, -, -, -, -, x_440⟩ := h_439
              have fe_443 : fld (f_422 a_0) 8 = (v_409 : Int32).toInt := by rw [hf_429]; rfl
              have fe_444 : fld (f_422 a_0) 10 = (v_411 : Int32).toInt := by rw [hf_429]; rfl
              have fe_445 : fld (f_422 a_0) 12 = (v_413 : Int32).toInt := by rw [hf_429]; rfl
              have hf_446 := hF_442.at hf_423 rfl
              obtain ⟨v_448, v_449, v_450, v_451, v_452, v_453, v_454, v_455, v_456, v_457, v_458, e_447, -, -, -, -, -, -, -⟩ := hW_441.at m_1 t_2
              have fe_459 : fld (f_438 a_0) 8 = (v_451 : Int32).toInt := by rw [e_447]; rfl
              have fe_460 : fld (f_438 a_0) 9 = (v_452 : Int32).toInt := by rw [e_447]; rfl
              have fe_461 : fld (f_438 a_0) 10 = (v_453 : Int32).toInt := by rw [e_447]; rfl
              have fe_462 : fld (f_438 a_0) 12 = (v_455 : Int32).toInt := by rw [e_447]; rfl
              rw [fe_462, fe_445, fe_444, fe_443, fe_460, fe_459, fe_461] at x_440
              clear fe_443 fe_444 fe_445 fe_459 fe_460 fe_461 fe_462
              try simp only [Int32.reduceToInt, Int64.reduceToInt] at x_440
              refine v_iast hC m_22 hf_446 (vp_in_iff.mpr (by first | omega | (simp only [Int32.lt_iff_toInt_lt, Int32.le_iff_toInt_le, Int32.reduceToInt, ← Int32.toInt_inj, true_and, and_true, or_true, true_or, false_or, or_false, false_and, and_false, not_true_eq_false, not_false_eq_true] <;> omega))) dX12_readLoss_164 (fun f_463 hf_464 hk_465 => ?_)
              have hW_467 := hW_441.up hf_464 hk_465 t_23 ⟨_, rfl, (ok_427.up (by first | omega | (simp only [Int32.lt_iff_toInt_lt, Int32.le_iff_toInt_le, Int32.reduceToInt, ← Int32.toInt_inj, true_and, and_true, or_true, true_or, false_or, or_false, false_and, and_false, not_true_eq_false, not_false_eq_true] <;> omega)) (fun q1 q2 => (by first | omega | (simp only [Int32.lt_iff_toInt_lt, Int32.le_iff_toInt_le, Int32.reduceToInt, ← Int32.toInt_inj] at *; omega))) (fun k9 q1 q2 q3 => (by first | omega | (simp only [Int32.lt_iff_toInt_lt, Int32.le_iff_toInt_le, Int32.reduceToInt, ← Int32.toInt_inj] at *; omega))))⟩
              obtain ⟨g_466, hf_464, ok_468, eg_469⟩ : ∃ g9, f_463 (q 14) = aI E 2076 g9 ∧ FOK g9 ∧ g9 = upd g_425 (v_433 : Int32).toNatClampNeg r_436 := ⟨_, hf_464, (ok_427.up (by first | omega | (simp only [Int32.lt_iff_toInt_lt, Int32.le_iff_toInt_le, Int32.reduceToInt, ← Int32.toInt_inj, true_and, and_true, or_true, true_or, false_or, or_false, false_and, and_false, not_true_eq_false, not_false_eq_true] <;> omega)) (fun q1 q2 => (by first | omega | (simp only [Int32.lt_iff_toInt_lt, Int32.le_iff_toInt_le, Int32.reduceToInt, ← Int32.toInt_inj] at *; omega))) (fun k9 q1 q2 q3 => (by first | omega | (simp only [Int32.lt_iff_toInt_lt, Int32.le_iff_toInt_le, Int32.reduceToInt, ← Int32.toInt_inj] at *; omega)))), rfl⟩
              have hf_470 := (hk_465 a_0 (ne_kd e_447 hf_446 rfl)).trans e_447
              have fr_471 := FR.w hk_465 hf_446 (k := 2176) rfl
              have lk_472 := lf_at (g0 := g_f) eg_469 (by omega) (by omega)
              have ag_473 := ag_432.st eg_469 (by omega) (by omega)
              try simp only [Int32.reduceToInt] at lk_472
              refine v_aload_n hC dX12_readLoss_165 rfl ?_
              refine v_get hC fl_X12_34 m_1 hf_470 rfl dX12_readLoss_166 ?_
              refine v_iload_n hC dX12_readLoss_169 rfl ?_
              refine v_iconst hC dX12_readLoss_170 (v := 2) (by decide) ?_
              obtain ⟨v_474, h_475⟩ : ∃ v9 : Int32, v_41 + 2 = v9 := ⟨_, rfl⟩
              refine v_iadd hC dX12_readLoss_171 h_475 ?_
              have h_476 := add_v h_475 (by first | omega | (simp only [Int32.lt_iff_toInt_lt, Int32.le_iff_toInt_le, Int32.reduceToInt, ← Int32.toInt_inj, true_and, and_true, or_true, true_or, false_or, or_false, false_and, and_false, not_true_eq_false, not_false_eq_true] <;> omega)) (by first | omega | (simp only [Int32.lt_iff_toInt_lt, Int32.le_iff_toInt_le, Int32.reduceToInt, ← Int32.toInt_inj, true_and, and_true, or_true, true_or, false_or, or_false, false_and, and_false, not_true_eq_false, not_false_eq_true] <;> omega))
              try simp only [Int32.reduceToInt] at h_476
              refine v_aload_n hC dX12_readLoss_172 rfl ?_
              refine v_ldcwS hC sr_X12_295 dX12_readLoss_173 ?_
              refine v_aload_n hC dX12_readLoss_176 rfl ?_
              refine v_get hC fl_X12_34 m_1 hf_470 rfl dX12_readLoss_177 ?_
              refine v_iload_n hC dX12_readLoss_180 rfl ?_
              refine v_iconst hC dX12_readLoss_181 (v := 1) (by decide) ?_
              obtain ⟨v_477, h_478⟩ : ∃ v9 : Int32, v_41 + 1 = v9 := ⟨_, rfl⟩
              refine v_iadd hC dX12_readLoss_182 h_478 ?_
              have h_479 := add_v h_478 (by first | omega | (simp only [Int32.lt_iff_toInt_lt, Int32.le_iff_toInt_le, Int32.reduceToInt, ← Int32.toInt_inj, true_and, and_true, or_true, true_or, false_or, or_false, false_and, and_false, not_true_eq_false, not_false_eq_true] <;> omega)) (by first | omega | (simp only [Int32.lt_iff_toInt_lt, Int32.le_iff_toInt_le, Int32.reduceToInt, ← Int32.toInt_inj, true_and, and_true, or_true, true_or, false_or, or_false, false_and, and_false, not_true_eq_false, not_false_eq_true] <;> omega))
              try simp only [Int32.reduceToInt] at h_479
              obtain ⟨v_480, h_481⟩ : ∃ v9 : Int32, g_466 (v_477 : Int32).toNatClampNeg = v9 := ⟨_, rfl⟩
              refine v_iald hC m_22 hf_464 (vp_in_iff.mpr (by first | omega | (simp only [Int32.lt_iff_toInt_lt, Int32.le_iff_toInt_le, Int32.reduceToInt, ← Int32.toInt_inj, true_and, and_true, or_true, true_or, false_or, or_false, false_and, and_false, not_true_eq_false, not_false_eq_true] <;> omega))) h_481 dX12_readLoss_183 ?_
              refine v_bipush hC dX12_readLoss_184 (v := 15) (by decide) ?_
              refine v_vi hC (rest := [.int v_474, .ref (q 14)]) m_1 hf_470 rfl mi_X12_told ms_X12_told (p_X12_told hW_467 k_0 (by decide)) mx_X12_told ml_X12_189 (by decide) rfl (cells1 := 0) (slots1 := 0) (by decide) (by decide) (Nat.le_of_ble_eq_true rfl) (Nat.le_of_ble_eq_true rfl) rfl (Nat.le_of_ble_eq_true rfl) dX12_readLoss_186 (fun r_482 L_483 f_484 h_485 => ?_)
              obtain ⟨rfl, hW_487, hF_488, -, -, -, -, -, x_486⟩ := h_485
              have fe_489 : fld (f_463 a_0) 8 = (v_451 : Int32).toInt := by rw [hf_470]; rfl
              have fe_490 : fld (f_463 a_0) 12 = (v_455 : Int32).toInt := by rw [hf_470]; rfl
              have hf_491 := hF_488.at hf_464 rfl
              obtain ⟨v_493, v_494, v_495, v_496, v_497, v_498, v_499, v_500, v_501, v_502, v_503, e_492, -, -, -, -, -, -, -⟩ := hW_487.at m_1 t_2
              have fe_504 : fld (f_484 a_0) 8 = (v_496 : Int32).toInt := by rw [e_492]; rfl
              have fe_505 : fld (f_484 a_0) 9 = (v_497 : Int32).toInt := by rw [e_492]; rfl
              have fe_506 : fld (f_484 a_0) 10 = (v_498 : Int32).toInt := by rw [e_492]; rfl
              have fe_507 : fld (f_484 a_0) 12 = (v_500 : Int32).toInt := by rw [e_492]; rfl
              rw [fe_507, fe_490, fe_489, fe_505, fe_504, fe_506] at x_486
              clear fe_489 fe_490 fe_504 fe_505 fe_506 fe_507
              try simp only [Int32.reduceToInt, Int64.reduceToInt] at x_486
              refine v_iast hC m_22 hf_491 (vp_in_iff.mpr (by first | omega | (simp only [Int32.lt_iff_toInt_lt, Int32.le_iff_toInt_le, Int32.reduceToInt, ← Int32.toInt_inj, true_and, and_true, or_true, true_or, false_or, or_false, false_and, and_false, not_true_eq_false, not_false_eq_true] <;> omega))) dX12_readLoss_189 (fun f_508 hf_509 hk_510 => ?_)
              have hW_512 := hW_487.up hf_509 hk_510 t_23 ⟨_, rfl, (ok_468.up (by first | omega | (simp only [Int32.lt_iff_toInt_lt, Int32.le_iff_toInt_le, Int32.reduceToInt, ← Int32.toInt_inj, true_and, and_true, or_true, true_or, false_or, or_false, false_and, and_false, not_true_eq_false, not_false_eq_true] <;> omega)) (fun q1 q2 => (by first | omega | (simp only [Int32.lt_iff_toInt_lt, Int32.le_iff_toInt_le, Int32.reduceToInt, ← Int32.toInt_inj] at *; omega))) (fun k9 q1 q2 q3 => (by first | omega | (simp only [Int32.lt_iff_toInt_lt, Int32.le_iff_toInt_le, Int32.reduceToInt, ← Int32.toInt_inj] at *; omega))))⟩
              obtain ⟨g_511, hf_509, ok_513, eg_514⟩ : ∃ g9, f_508 (q 14) = aI E 2076 g9 ∧ FOK g9 ∧ g9 = upd g_466 (v_474 : Int32).toNatClampNeg r_482 := ⟨_, hf_509, (ok_468.up (by first | omega | (simp only [Int32.lt_iff_toInt_lt, Int32.le_iff_toInt_le, Int32.reduceToInt, ← Int32.toInt_inj, true_and, and_true, or_true, true_or, false_or, or_false, false_and, and_false, not_true_eq_false, not_false_eq_true] <;> omega)) (fun q1 q2 => (by first | omega | (simp only [Int32.lt_iff_toInt_lt, Int32.le_iff_toInt_le, Int32.reduceToInt, ← Int32.toInt_inj] at *; omega))) (fun k9 q1 q2 q3 => (by first | omega | (simp only [Int32.lt_iff_toInt_lt, Int32.le_iff_toInt_le, Int32.reduceToInt, ← Int32.toInt_inj] at *; omega)))), rfl⟩
              have hf_515 := (hk_510 a_0 (ne_kd e_492 hf_491 rfl)).trans e_492
              have fr_516 := FR.w hk_510 hf_491 (k := 2176) rfl
              have lk_517 := l2_at (g0 := g_f) eg_514 (by omega) (by omega)
              have ag_518 := ag_473.st eg_514 (by omega) (by omega)
              try simp only [Int32.reduceToInt] at lk_517
              refine v_goto hC dX12_readLoss_190 (tgt := 258) (by decide) ?_
              refine v_aload_n hC dX12_readLoss_258 rfl ?_
              refine v_vv hC (rest := []) m_1 hf_515 rfl mi_X12_ends ms_X12_ends (p_X12_ends hW_512 k_0) mx_X12_ends ml_X12_178 (by decide) rfl (cells1 := 0) (slots1 := 0) (by decide) (by decide) (Nat.le_of_ble_eq_true rfl) (Nat.le_of_ble_eq_true rfl) rfl (Nat.le_of_ble_eq_true rfl) dX12_readLoss_259 (fun L_520 f_521 h_522 => ?_)
              obtain ⟨rfl, hW_524, hF_525, -, -, -, -, x_523⟩ := h_522
              have fe_526 : fld (f_508 a_0) 8 = (v_496 : Int32).toInt := by rw [hf_515]; rfl
              have fe_527 : fld (f_508 a_0) 10 = (v_498 : Int32).toInt := by rw [hf_515]; rfl
              have fe_528 : fld (f_508 a_0) 12 = (v_500 : Int32).toInt := by rw [hf_515]; rfl
              have hf_529 := hF_525.at hf_509 rfl
              obtain ⟨v_531, v_532, v_533, v_534, v_535, v_536, v_537, v_538, v_539, v_540, v_541, e_530, -, -, -, -, -, -, -⟩ := hW_524.at m_1 t_2
              have fe_542 : fld (f_521 a_0) 8 = (v_534 : Int32).toInt := by rw [e_530]; rfl
              have fe_543 : fld (f_521 a_0) 9 = (v_535 : Int32).toInt := by rw [e_530]; rfl
              have fe_544 : fld (f_521 a_0) 10 = (v_536 : Int32).toInt := by rw [e_530]; rfl
              have fe_545 : fld (f_521 a_0) 12 = (v_538 : Int32).toInt := by rw [e_530]; rfl
              rw [fe_545, fe_528, fe_527, fe_526, fe_543, fe_542, fe_544] at x_523
              clear fe_526 fe_527 fe_528 fe_542 fe_543 fe_544 fe_545
              refine v_aload_n hC dX12_readLoss_262 rfl ?_
              refine v_get hC fl_X12_34 m_1 e_530 rfl dX12_readLoss_263 ?_
              refine v_bipush hC dX12_readLoss_266 (v := 6) (by decide) ?_
              refine v_dup2 hC dX12_readLoss_268 rfl rfl ?_
              have l6_546 : (g_511 6).toInt = (g_f 6).toInt := congrArg Int32.toInt ag_518.2.1
              refine v_iald hC m_22 hf_529 (vp_in_iff.mpr (by decide)) (v := g_511 6) rfl dX12_readLoss_269 ?_
              refine v_iconst hC dX12_readLoss_270 (v := 1) (by decide) ?_
              obtain ⟨v_547, h_548⟩ : ∃ v9 : Int32, (g_511 6) + 1 = v9 := ⟨_, rfl⟩
              refine v_iadd hC dX12_readLoss_271 h_548 ?_
              have h_549 := add_v h_548 (by first | omega | (simp only [Int32.lt_iff_toInt_lt, Int32.le_iff_toInt_le, Int32.reduceToInt, ← Int32.toInt_inj, true_and, and_true, or_true, true_or, false_or, or_false, false_and, and_false, not_true_eq_false, not_false_eq_true] <;> omega)) (by first | omega | (simp only [Int32.lt_iff_toInt_lt, Int32.le_iff_toInt_le, Int32.reduceToInt, ← Int32.toInt_inj, true_and, and_true, or_true, true_or, false_or, or_false, false_and, and_false, not_true_eq_false, not_false_eq_true] <;> omega))
              try simp only [Int32.reduceToInt] at h_549
              refine v_iast hC m_22 hf_529 (vp_in_iff.mpr (by decide)) dX12_readLoss_272 (fun f_550 hf_551 hk_552 => ?_)
              have hW_554 := hW_524.up hf_551 hk_552 t_23 ⟨_, rfl, (ok_513.up (i := 6) (by decide) (fun q1 q2 => absurd (And.intro q1 q2) (by decide)) (fun k9 q1 q2 q3 => by simp only [Int32.reduceToInt] at q3; omega))⟩
              obtain ⟨g_553, hf_551, ok_555, eg_556⟩ : ∃ g9, f_550 (q 14) = aI E 2076 g9 ∧ FOK g9 ∧ g9 = upd g_511 (6 : Int32).toNatClampNeg v_547 := ⟨_, hf_551, (ok_513.up (i := 6) (by decide) (fun q1 q2 => absurd (And.intro q1 q2) (by decide)) (fun k9 q1 q2 q3 => by simp only [Int32.reduceToInt] at q3; omega)), rfl⟩
              have hf_557 := (hk_552 a_0 (ne_kd e_530 hf_529 rfl)).trans e_530
              have fr_558 := FR.w hk_552 hf_529 (k := 2176) rfl
              have ln6_559 := FOK.n6 ag_518.1 eg_556
              have ln6_559_t : (g_553 6).toInt = v_547.toInt := congrArg Int32.toInt ln6_559.2
              have fe_560 : fld (f_550 a_0) 12 = (v_538 : Int32).toInt := by rw [hf_557]; rfl
              have fe_564 : fld (f_550 a_0) 8 = (v_534 : Int32).toInt := by rw [hf_557]; rfl
              have fe_565 : fld (f_550 a_0) 12 = (v_538 : Int32).toInt := by rw [hf_557]; rfl
              exact hR _ _ _ _ _ _ dX12_readLoss_273 (Nat.le_of_ble_eq_true rfl) (Nat.le_of_ble_eq_true rfl) ⟨rfl, hW_554, (((((((((hF_93.tr hF_401).tr fr_430).tr hF_442).tr fr_471).tr hF_488).tr fr_516).tr hF_525).tr fr_558).mono rfl), ⟨_, hf_551, ln6_559.1, (by omega), (by rw [fe_560]; by_cases q9 : v_538.toInt = 0; have gp_561 := x_523.resolve_left (fun h9 => h9 q9); clear x_523; have gp_562 := x_486.resolve_left (fun h9 => h9 gp_561.1); clear x_486; have gp_563 := x_440.resolve_left (fun h9 => h9 gp_562.1); clear x_440; exact .inr (LO.fin hLO ag_518 eg_556 (by omega) (by omega) (fun q8 => by omega)); exact .inl q9)⟩, (by simp only [fe_564, fe_565, mz_36, mz_37]; by_cases q9 : (v_538 : Int32).toInt = 0; have gp_566 := x_523.resolve_left (fun h9 => h9 q9); clear x_523; have gp_567 := x_486.resolve_left (fun h9 => h9 gp_566.1); clear x_486; have gp_568 := x_440.resolve_left (fun h9 => h9 gp_567.1); clear x_440; (right; omega); exact .inl q9)⟩
            · simp only [Int32.lt_iff_toInt_lt, Int32.le_iff_toInt_le, Int32.reduceToInt, ← Int32.toInt_inj] at h_383
              refine v_aload_n hC dX12_readLoss_110 rfl ?_
              refine v_ldcS hC sr_X12_193 dX12_readLoss_111 ?_
              refine v_vi hC (rest := []) m_1 e_99 rfl mi_X12_is ms_X12_is (p_X12_is hW_92 k_0 (by decide)) mx_X12_is ml_X12_152 (by decide) rfl (cells1 := 0) (slots1 := 0) (by decide) (by decide) (Nat.le_of_ble_eq_true rfl) (Nat.le_of_ble_eq_true rfl) rfl (Nat.le_of_ble_eq_true rfl) dX12_readLoss_113 (fun r_569 L_570 f_571 h_572 => ?_)
              obtain ⟨rfl, rfl, rfl⟩ := h_572
              refine v_if_ne hC dX12_readLoss_116 (tgt := 124) (by decide) (fun h_575 => ?_) (fun h_575 => ?_)
              · simp only [Int32.lt_iff_toInt_lt, Int32.le_iff_toInt_le, Int32.reduceToInt, ← Int32.toInt_inj] at h_575
                refine v_aload_n hC dX12_readLoss_124 rfl ?_
                refine v_vi hC (rest := []) m_1 e_99 rfl mi_X12_good ms_X12_good (p_X12_good hW_92 k_0) mx_X12_good ml_X12_139 (by decide) rfl (cells1 := 0) (slots1 := 0) (by decide) (by decide) (Nat.le_of_ble_eq_true rfl) (Nat.le_of_ble_eq_true rfl) rfl (Nat.le_of_ble_eq_true rfl) dX12_readLoss_125 (fun r_576 L_577 f_578 h_579 => ?_)
                obtain ⟨rfl, rfl, b_580, x_581⟩ := h_579
                have fe_584 : fld (f_87 a_0) 12 = (v_107 : Int32).toInt := by rw [e_99]; rfl
                rw [fe_584] at x_581
                clear fe_584
                try simp only [Int32.reduceToInt, Int64.reduceToInt] at x_581
                refine v_if_eq_f hC dX12_readLoss_128 (tgt := 135) (by decide) (gdb_n x_581 g0_115) ?_
                refine v_aload_n hC dX12_readLoss_131 rfl ?_
                refine v_vv hC (rest := []) m_1 e_99 rfl mi_X12_advance ms_X12_advance (p_X12_advance hW_92 k_0) mx_X12_advance ml_X12_156 (by decide) rfl (cells1 := 0) (slots1 := 0) (by decide) (by decide) (Nat.le_of_ble_eq_true rfl) (Nat.le_of_ble_eq_true rfl) rfl (Nat.le_of_ble_eq_true rfl) dX12_readLoss_132 (fun L_586 f_587 h_588 => ?_)
                obtain ⟨rfl, hW_592, hF_593, x_589, x_590, x_591, -⟩ := h_588
                have fe_594 : fld (f_87 a_0) 8 = (v_103 : Int32).toInt := by rw [e_99]; rfl
                have fe_595 : fld (f_87 a_0) 12 = (v_107 : Int32).toInt := by rw [e_99]; rfl
                have hf_596 := hF_593.at hf_98 rfl
                obtain ⟨v_598, v_599, v_600, v_601, v_602, v_603, v_604, v_605, v_606, v_607, v_608, e_597, -, -, -, -, -, -, -⟩ := hW_592.at m_1 t_2
                have fe_609 : fld (f_587 a_0) 8 = (v_601 : Int32).toInt := by rw [e_597]; rfl
                have fe_610 : fld (f_587 a_0) 9 = (v_602 : Int32).toInt := by rw [e_597]; rfl
                have fe_611 : fld (f_587 a_0) 10 = (v_603 : Int32).toInt := by rw [e_597]; rfl
                have fe_612 : fld (f_587 a_0) 12 = (v_605 : Int32).toInt := by rw [e_597]; rfl
                rw [fe_594, fe_610, fe_609] at x_589
                rw [fe_611, fe_610, fe_609] at x_590
                rw [fe_612, fe_595] at x_591
                have g0_613 := x_591.trans g0_115
                clear fe_594 fe_595 fe_609 fe_610 fe_611 fe_612
                refine v_aload_n hC dX12_readLoss_135 rfl ?_
                refine v_get hC fl_X12_34 m_1 e_597 rfl dX12_readLoss_136 ?_
                refine v_iload_n hC dX12_readLoss_139 rfl ?_
                refine v_iload_n hC dX12_readLoss_140 rfl ?_
                refine v_if_eq_t hC dX12_readLoss_141 (tgt := 148) (by decide) (by first | omega | (simp only [Int32.lt_iff_toInt_lt, Int32.le_iff_toInt_le, Int32.reduceToInt, ← Int32.toInt_inj, true_and, and_true, or_true, true_or, false_or, or_false, false_and, and_false, not_true_eq_false, not_false_eq_true] <;> omega)) ?_
                refine v_iconst hC dX12_readLoss_148 (v := 0) (by decide) ?_
                refine v_iast hC m_22 hf_596 (vp_in_iff.mpr (by first | omega | (simp only [Int32.lt_iff_toInt_lt, Int32.le_iff_toInt_le, Int32.reduceToInt, ← Int32.toInt_inj, true_and, and_true, or_true, true_or, false_or, or_false, false_and, and_false, not_true_eq_false, not_false_eq_true] <;> omega))) dX12_readLoss_149 (fun f_614 hf_615 hk_616 => ?_)
                have hW_618 := hW_592.up hf_615 hk_616 t_23 ⟨_, rfl, (o_f.up (by first | omega | (simp only [Int32.lt_iff_toInt_lt, Int32.le_iff_toInt_le, Int32.reduceToInt, ← Int32.toInt_inj, true_and, and_true, or_true, true_or, false_or, or_false, false_and, and_false, not_true_eq_false, not_false_eq_true] <;> omega)) (fun q1 q2 => (by first | omega | (simp only [Int32.lt_iff_toInt_lt, Int32.le_iff_toInt_le, Int32.reduceToInt, ← Int32.toInt_inj] at *; omega))) (fun k9 q1 q2 q3 => (by first | omega | (simp only [Int32.lt_iff_toInt_lt, Int32.le_iff_toInt_le, Int32.reduceToInt, ← Int32.toInt_inj] at *; omega))))⟩
                obtain ⟨g_617, hf_615, ok_619, eg_620⟩ : ∃ g9, f_614 (q 14) = aI E 2076 g9 ∧ FOK g9 ∧ g9 = upd g_f (v_41 : Int32).toNatClampNeg 0 := ⟨_, hf_615, (o_f.up (by first | omega | (simp only [Int32.lt_iff_toInt_lt, Int32.le_iff_toInt_le, Int32.reduceToInt, ← Int32.toInt_inj, true_and, and_true, or_true, true_or, false_or, or_false, false_and, and_false, not_true_eq_false, not_false_eq_true] <;> omega)) (fun q1 q2 => (by first | omega | (simp only [Int32.lt_iff_toInt_lt, Int32.le_iff_toInt_le, Int32.reduceToInt, ← Int32.toInt_inj] at *; omega))) (fun k9 q1 q2 q3 => (by first | omega | (simp only [Int32.lt_iff_toInt_lt, Int32.le_iff_toInt_le, Int32.reduceToInt, ← Int32.toInt_inj] at *; omega)))), rfl⟩
                have hf_621 := (hk_616 a_0 (ne_kd e_597 hf_596 rfl)).trans e_597
                have fr_622 := FR.w hk_616 hf_596 (k := 2176) rfl
                have lk_623 := lk_at (g0 := g_f) eg_620 (by omega) (by omega)
                have ag_624 := (AG.rf o_f).st eg_620 (by omega) (by omega)
                try simp only [Int32.reduceToInt] at lk_623
                refine v_aload_n hC dX12_readLoss_150 rfl ?_
                refine v_get hC fl_X12_34 m_1 hf_621 rfl dX12_readLoss_151 ?_
                refine v_iload_n hC dX12_readLoss_154 rfl ?_
                refine v_iconst hC dX12_readLoss_155 (v := 1) (by decide) ?_
                obtain ⟨v_625, h_626⟩ : ∃ v9 : Int32, v_41 + 1 = v9 := ⟨_, rfl⟩
                refine v_iadd hC dX12_readLoss_156 h_626 ?_
                have h_627 := add_v h_626 (by first | omega | (simp only [Int32.lt_iff_toInt_lt, Int32.le_iff_toInt_le, Int32.reduceToInt, ← Int32.toInt_inj, true_and, and_true, or_true, true_or, false_or, or_false, false_and, and_false, not_true_eq_false, not_false_eq_true] <;> omega)) (by first | omega | (simp only [Int32.lt_iff_toInt_lt, Int32.le_iff_toInt_le, Int32.reduceToInt, ← Int32.toInt_inj, true_and, and_true, or_true, true_or, false_or, or_false, false_and, and_false, not_true_eq_false, not_false_eq_true] <;> omega))
                try simp only [Int32.reduceToInt] at h_627
                refine v_aload_n hC dX12_readLoss_157 rfl ?_
                refine v_iconst hC dX12_readLoss_158 (v := 0) (by decide) ?_
                refine v_bipush hC dX12_readLoss_159 (v := 15) (by decide) ?_
                refine v_vi hC (rest := [.int v_625, .ref (q 14)]) m_1 hf_621 rfl mi_X12_number ms_X12_number (p_X12_number hW_618 k_0) mx_X12_number ml_X12_170 (by decide) rfl (cells1 := 0) (slots1 := 0) (by decide) (by decide) (Nat.le_of_ble_eq_true rfl) (Nat.le_of_ble_eq_true rfl) rfl (Nat.le_of_ble_eq_true rfl) dX12_readLoss_161 (fun r_628 L_629 f_630 h_631 => ?_)
                obtain ⟨rfl, hW_633, hF_634, -, -, -, -, -, x_632⟩ := h_631
                have fe_635 : fld (f_614 a_0) 8 = (v_601 : Int32).toInt := by rw [hf_621]; rfl
                have fe_636 : fld (f_614 a_0) 10 = (v_603 : Int32).toInt := by rw [hf_621]; rfl
                have fe_637 : fld (f_614 a_0) 12 = (v_605 : Int32).toInt := by rw [hf_621]; rfl
                have hf_638 := hF_634.at hf_615 rfl
                obtain ⟨v_640, v_641, v_642, v_643, v_644, v_645, v_646, v_647, v_648, v_649, v_650, e_639, -, -, -, -, -, -, -⟩ := hW_633.at m_1 t_2
                have fe_651 : fld (f_630 a_0) 8 = (v_643 : Int32).toInt := by rw [e_639]; rfl
                have fe_652 : fld (f_630 a_0) 9 = (v_644 : Int32).toInt := by rw [e_639]; rfl
                have fe_653 : fld (f_630 a_0) 10 = (v_645 : Int32).toInt := by rw [e_639]; rfl
                have fe_654 : fld (f_630 a_0) 12 = (v_647 : Int32).toInt := by rw [e_639]; rfl
                rw [fe_654, fe_637, fe_636, fe_635, fe_652, fe_651, fe_653] at x_632
                clear fe_635 fe_636 fe_637 fe_651 fe_652 fe_653 fe_654
                try simp only [Int32.reduceToInt, Int64.reduceToInt] at x_632
                refine v_iast hC m_22 hf_638 (vp_in_iff.mpr (by first | omega | (simp only [Int32.lt_iff_toInt_lt, Int32.le_iff_toInt_le, Int32.reduceToInt, ← Int32.toInt_inj, true_and, and_true, or_true, true_or, false_or, or_false, false_and, and_false, not_true_eq_false, not_false_eq_true] <;> omega))) dX12_readLoss_164 (fun f_655 hf_656 hk_657 => ?_)
                have hW_659 := hW_633.up hf_656 hk_657 t_23 ⟨_, rfl, (ok_619.up (by first | omega | (simp only [Int32.lt_iff_toInt_lt, Int32.le_iff_toInt_le, Int32.reduceToInt, ← Int32.toInt_inj, true_and, and_true, or_true, true_or, false_or, or_false, false_and, and_false, not_true_eq_false, not_false_eq_true] <;> omega)) (fun q1 q2 => (by first | omega | (simp only [Int32.lt_iff_toInt_lt, Int32.le_iff_toInt_le, Int32.reduceToInt, ← Int32.toInt_inj] at *; omega))) (fun k9 q1 q2 q3 => (by first | omega | (simp only [Int32.lt_iff_toInt_lt, Int32.le_iff_toInt_le, Int32.reduceToInt, ← Int32.toInt_inj] at *; omega))))⟩
                obtain ⟨g_658, hf_656, ok_660, eg_661⟩ : ∃ g9, f_655 (q 14) = aI E 2076 g9 ∧ FOK g9 ∧ g9 = upd g_617 (v_625 : Int32).toNatClampNeg r_628 := ⟨_, hf_656, (ok_619.up (by first | omega | (simp only [Int32.lt_iff_toInt_lt, Int32.le_iff_toInt_le, Int32.reduceToInt, ← Int32.toInt_inj, true_and, and_true, or_true, true_or, false_or, or_false, false_and, and_false, not_true_eq_false, not_false_eq_true] <;> omega)) (fun q1 q2 => (by first | omega | (simp only [Int32.lt_iff_toInt_lt, Int32.le_iff_toInt_le, Int32.reduceToInt, ← Int32.toInt_inj] at *; omega))) (fun k9 q1 q2 q3 => (by first | omega | (simp only [Int32.lt_iff_toInt_lt, Int32.le_iff_toInt_le, Int32.reduceToInt, ← Int32.toInt_inj] at *; omega)))), rfl⟩
                have hf_662 := (hk_657 a_0 (ne_kd e_639 hf_638 rfl)).trans e_639
                have fr_663 := FR.w hk_657 hf_638 (k := 2176) rfl
                have lk_664 := lf_at (g0 := g_f) eg_661 (by omega) (by omega)
                have ag_665 := ag_624.st eg_661 (by omega) (by omega)
                try simp only [Int32.reduceToInt] at lk_664
                refine v_aload_n hC dX12_readLoss_165 rfl ?_
                refine v_get hC fl_X12_34 m_1 hf_662 rfl dX12_readLoss_166 ?_
                refine v_iload_n hC dX12_readLoss_169 rfl ?_
                refine v_iconst hC dX12_readLoss_170 (v := 2) (by decide) ?_
                obtain ⟨v_666, h_667⟩ : ∃ v9 : Int32, v_41 + 2 = v9 := ⟨_, rfl⟩
                refine v_iadd hC dX12_readLoss_171 h_667 ?_
                have h_668 := add_v h_667 (by first | omega | (simp only [Int32.lt_iff_toInt_lt, Int32.le_iff_toInt_le, Int32.reduceToInt, ← Int32.toInt_inj, true_and, and_true, or_true, true_or, false_or, or_false, false_and, and_false, not_true_eq_false, not_false_eq_true] <;> omega)) (by first | omega | (simp only [Int32.lt_iff_toInt_lt, Int32.le_iff_toInt_le, Int32.reduceToInt, ← Int32.toInt_inj, true_and, and_true, or_true, true_or, false_or, or_false, false_and, and_false, not_true_eq_false, not_false_eq_true] <;> omega))
                try simp only [Int32.reduceToInt] at h_668
                refine v_aload_n hC dX12_readLoss_172 rfl ?_
                refine v_ldcwS hC sr_X12_295 dX12_readLoss_173 ?_
                refine v_aload_n hC dX12_readLoss_176 rfl ?_
                refine v_get hC fl_X12_34 m_1 hf_662 rfl dX12_readLoss_177 ?_
                refine v_iload_n hC dX12_readLoss_180 rfl ?_
                refine v_iconst hC dX12_readLoss_181 (v := 1) (by decide) ?_
                obtain ⟨v_669, h_670⟩ : ∃ v9 : Int32, v_41 + 1 = v9 := ⟨_, rfl⟩
                refine v_iadd hC dX12_readLoss_182 h_670 ?_
                have h_671 := add_v h_670 (by first | omega | (simp only [Int32.lt_iff_toInt_lt, Int32.le_iff_toInt_le, Int32.reduceToInt, ← Int32.toInt_inj, true_and, and_true, or_true, true_or, false_or, or_false, false_and, and_false, not_true_eq_false, not_false_eq_true] <;> omega)) (by first | omega | (simp only [Int32.lt_iff_toInt_lt, Int32.le_iff_toInt_le, Int32.reduceToInt, ← Int32.toInt_inj, true_and, and_true, or_true, true_or, false_or, or_false, false_and, and_false, not_true_eq_false, not_false_eq_true] <;> omega))
                try simp only [Int32.reduceToInt] at h_671
                obtain ⟨v_672, h_673⟩ : ∃ v9 : Int32, g_658 (v_669 : Int32).toNatClampNeg = v9 := ⟨_, rfl⟩
                refine v_iald hC m_22 hf_656 (vp_in_iff.mpr (by first | omega | (simp only [Int32.lt_iff_toInt_lt, Int32.le_iff_toInt_le, Int32.reduceToInt, ← Int32.toInt_inj, true_and, and_true, or_true, true_or, false_or, or_false, false_and, and_false, not_true_eq_false, not_false_eq_true] <;> omega))) h_673 dX12_readLoss_183 ?_
                refine v_bipush hC dX12_readLoss_184 (v := 15) (by decide) ?_
                refine v_vi hC (rest := [.int v_666, .ref (q 14)]) m_1 hf_662 rfl mi_X12_told ms_X12_told (p_X12_told hW_659 k_0 (by decide)) mx_X12_told ml_X12_189 (by decide) rfl (cells1 := 0) (slots1 := 0) (by decide) (by decide) (Nat.le_of_ble_eq_true rfl) (Nat.le_of_ble_eq_true rfl) rfl (Nat.le_of_ble_eq_true rfl) dX12_readLoss_186 (fun r_674 L_675 f_676 h_677 => ?_)
                obtain ⟨rfl, hW_679, hF_680, -, -, -, -, -, x_678⟩ := h_677
                have fe_681 : fld (f_655 a_0) 8 = (v_643 : Int32).toInt := by rw [hf_662]; rfl
                have fe_682 : fld (f_655 a_0) 12 = (v_647 : Int32).toInt := by rw [hf_662]; rfl
                have hf_683 := hF_680.at hf_656 rfl
                obtain ⟨v_685, v_686, v_687, v_688, v_689, v_690, v_691, v_692, v_693, v_694, v_695, e_684, -, -, -, -, -, -, -⟩ := hW_679.at m_1 t_2
                have fe_696 : fld (f_676 a_0) 8 = (v_688 : Int32).toInt := by rw [e_684]; rfl
                have fe_697 : fld (f_676 a_0) 9 = (v_689 : Int32).toInt := by rw [e_684]; rfl
                have fe_698 : fld (f_676 a_0) 10 = (v_690 : Int32).toInt := by rw [e_684]; rfl
                have fe_699 : fld (f_676 a_0) 12 = (v_692 : Int32).toInt := by rw [e_684]; rfl
                rw [fe_699, fe_682, fe_681, fe_697, fe_696, fe_698] at x_678
                clear fe_681 fe_682 fe_696 fe_697 fe_698 fe_699
                try simp only [Int32.reduceToInt, Int64.reduceToInt] at x_678
                refine v_iast hC m_22 hf_683 (vp_in_iff.mpr (by first | omega | (simp only [Int32.lt_iff_toInt_lt, Int32.le_iff_toInt_le, Int32.reduceToInt, ← Int32.toInt_inj, true_and, and_true, or_true, true_or, false_or, or_false, false_and, and_false, not_true_eq_false, not_false_eq_true] <;> omega))) dX12_readLoss_189 (fun f_700 hf_701 hk_702 => ?_)
                have hW_704 := hW_679.up hf_701 hk_702 t_23 ⟨_, rfl, (ok_660.up (by first | omega | (simp only [Int32.lt_iff_toInt_lt, Int32.le_iff_toInt_le, Int32.reduceToInt, ← Int32.toInt_inj, true_and, and_true, or_true, true_or, false_or, or_false, false_and, and_false, not_true_eq_false, not_false_eq_true] <;> omega)) (fun q1 q2 => (by first | omega | (simp only [Int32.lt_iff_toInt_lt, Int32.le_iff_toInt_le, Int32.reduceToInt, ← Int32.toInt_inj] at *; omega))) (fun k9 q1 q2 q3 => (by first | omega | (simp only [Int32.lt_iff_toInt_lt, Int32.le_iff_toInt_le, Int32.reduceToInt, ← Int32.toInt_inj] at *; omega))))⟩
                obtain ⟨g_703, hf_701, ok_705, eg_706⟩ : ∃ g9, f_700 (q 14) = aI E 2076 g9 ∧ FOK g9 ∧ g9 = upd g_658 (v_666 : Int32).toNatClampNeg r_674 := ⟨_, hf_701, (ok_660.up (by first | omega | (simp only [Int32.lt_iff_toInt_lt, Int32.le_iff_toInt_le, Int32.reduceToInt, ← Int32.toInt_inj, true_and, and_true, or_true, true_or, false_or, or_false, false_and, and_false, not_true_eq_false, not_false_eq_true] <;> omega)) (fun q1 q2 => (by first | omega | (simp only [Int32.lt_iff_toInt_lt, Int32.le_iff_toInt_le, Int32.reduceToInt, ← Int32.toInt_inj] at *; omega))) (fun k9 q1 q2 q3 => (by first | omega | (simp only [Int32.lt_iff_toInt_lt, Int32.le_iff_toInt_le, Int32.reduceToInt, ← Int32.toInt_inj] at *; omega)))), rfl⟩
                have hf_707 := (hk_702 a_0 (ne_kd e_684 hf_683 rfl)).trans e_684
                have fr_708 := FR.w hk_702 hf_683 (k := 2176) rfl
                have lk_709 := l2_at (g0 := g_f) eg_706 (by omega) (by omega)
                have ag_710 := ag_665.st eg_706 (by omega) (by omega)
                try simp only [Int32.reduceToInt] at lk_709
                refine v_goto hC dX12_readLoss_190 (tgt := 258) (by decide) ?_
                refine v_aload_n hC dX12_readLoss_258 rfl ?_
                refine v_vv hC (rest := []) m_1 hf_707 rfl mi_X12_ends ms_X12_ends (p_X12_ends hW_704 k_0) mx_X12_ends ml_X12_178 (by decide) rfl (cells1 := 0) (slots1 := 0) (by decide) (by decide) (Nat.le_of_ble_eq_true rfl) (Nat.le_of_ble_eq_true rfl) rfl (Nat.le_of_ble_eq_true rfl) dX12_readLoss_259 (fun L_712 f_713 h_714 => ?_)
                obtain ⟨rfl, hW_716, hF_717, -, -, -, -, x_715⟩ := h_714
                have fe_718 : fld (f_700 a_0) 8 = (v_688 : Int32).toInt := by rw [hf_707]; rfl
                have fe_719 : fld (f_700 a_0) 10 = (v_690 : Int32).toInt := by rw [hf_707]; rfl
                have fe_720 : fld (f_700 a_0) 12 = (v_692 : Int32).toInt := by rw [hf_707]; rfl
                have hf_721 := hF_717.at hf_701 rfl
                obtain ⟨v_723, v_724, v_725, v_726, v_727, v_728, v_729, v_730, v_731, v_732, v_733, e_722, -, -, -, -, -, -, -⟩ := hW_716.at m_1 t_2
                have fe_734 : fld (f_713 a_0) 8 = (v_726 : Int32).toInt := by rw [e_722]; rfl
                have fe_735 : fld (f_713 a_0) 9 = (v_727 : Int32).toInt := by rw [e_722]; rfl
                have fe_736 : fld (f_713 a_0) 10 = (v_728 : Int32).toInt := by rw [e_722]; rfl
                have fe_737 : fld (f_713 a_0) 12 = (v_730 : Int32).toInt := by rw [e_722]; rfl
                rw [fe_737, fe_720, fe_719, fe_718, fe_735, fe_734, fe_736] at x_715
                clear fe_718 fe_719 fe_720 fe_734 fe_735 fe_736 fe_737
                refine v_aload_n hC dX12_readLoss_262 rfl ?_
                refine v_get hC fl_X12_34 m_1 e_722 rfl dX12_readLoss_263 ?_
                refine v_bipush hC dX12_readLoss_266 (v := 6) (by decide) ?_
                refine v_dup2 hC dX12_readLoss_268 rfl rfl ?_
                have l6_738 : (g_703 6).toInt = (g_f 6).toInt := congrArg Int32.toInt ag_710.2.1
                refine v_iald hC m_22 hf_721 (vp_in_iff.mpr (by decide)) (v := g_703 6) rfl dX12_readLoss_269 ?_
                refine v_iconst hC dX12_readLoss_270 (v := 1) (by decide) ?_
                obtain ⟨v_739, h_740⟩ : ∃ v9 : Int32, (g_703 6) + 1 = v9 := ⟨_, rfl⟩
                refine v_iadd hC dX12_readLoss_271 h_740 ?_
                have h_741 := add_v h_740 (by first | omega | (simp only [Int32.lt_iff_toInt_lt, Int32.le_iff_toInt_le, Int32.reduceToInt, ← Int32.toInt_inj, true_and, and_true, or_true, true_or, false_or, or_false, false_and, and_false, not_true_eq_false, not_false_eq_true] <;> omega)) (by first | omega | (simp only [Int32.lt_iff_toInt_lt, Int32.le_iff_toInt_le, Int32.reduceToInt, ← Int32.toInt_inj, true_and, and_true, or_true, true_or, false_or, or_false, false_and, and_false, not_true_eq_false, not_false_eq_true] <;> omega))
                try simp only [Int32.reduceToInt] at h_741
                refine v_iast hC m_22 hf_721 (vp_in_iff.mpr (by decide)) dX12_readLoss_272 (fun f_742 hf_743 hk_744 => ?_)
                have hW_746 := hW_716.up hf_743 hk_744 t_23 ⟨_, rfl, (ok_705.up (i := 6) (by decide) (fun q1 q2 => absurd (And.intro q1 q2) (by decide)) (fun k9 q1 q2 q3 => by simp only [Int32.reduceToInt] at q3; omega))⟩
                obtain ⟨g_745, hf_743, ok_747, eg_748⟩ : ∃ g9, f_742 (q 14) = aI E 2076 g9 ∧ FOK g9 ∧ g9 = upd g_703 (6 : Int32).toNatClampNeg v_739 := ⟨_, hf_743, (ok_705.up (i := 6) (by decide) (fun q1 q2 => absurd (And.intro q1 q2) (by decide)) (fun k9 q1 q2 q3 => by simp only [Int32.reduceToInt] at q3; omega)), rfl⟩
                have hf_749 := (hk_744 a_0 (ne_kd e_722 hf_721 rfl)).trans e_722
                have fr_750 := FR.w hk_744 hf_721 (k := 2176) rfl
                have ln6_751 := FOK.n6 ag_710.1 eg_748
                have ln6_751_t : (g_745 6).toInt = v_739.toInt := congrArg Int32.toInt ln6_751.2
                have fe_752 : fld (f_742 a_0) 12 = (v_730 : Int32).toInt := by rw [hf_749]; rfl
                have fe_756 : fld (f_742 a_0) 8 = (v_726 : Int32).toInt := by rw [hf_749]; rfl
                have fe_757 : fld (f_742 a_0) 12 = (v_730 : Int32).toInt := by rw [hf_749]; rfl
                exact hR _ _ _ _ _ _ dX12_readLoss_273 (Nat.le_of_ble_eq_true rfl) (Nat.le_of_ble_eq_true rfl) ⟨rfl, hW_746, (((((((((hF_93.tr hF_593).tr fr_622).tr hF_634).tr fr_663).tr hF_680).tr fr_708).tr hF_717).tr fr_750).mono rfl), ⟨_, hf_743, ln6_751.1, (by omega), (by rw [fe_752]; by_cases q9 : v_730.toInt = 0; have gp_753 := x_715.resolve_left (fun h9 => h9 q9); clear x_715; have gp_754 := x_678.resolve_left (fun h9 => h9 gp_753.1); clear x_678; have gp_755 := x_632.resolve_left (fun h9 => h9 gp_754.1); clear x_632; exact .inr (LO.fin hLO ag_710 eg_748 (by omega) (by omega) (fun q8 => by omega)); exact .inl q9)⟩, (by simp only [fe_756, fe_757, mz_36, mz_37]; by_cases q9 : (v_730 : Int32).toInt = 0; have gp_758 := x_715.resolve_left (fun h9 => h9 q9); clear x_715; have gp_759 := x_678.resolve_left (fun h9 => h9 gp_758.1); clear x_678; have gp_760 := x_632.resolve_left (fun h9 => h9 gp_759.1); clear x_632; (right; omega); exact .inl q9)⟩
              · simp only [Int32.lt_iff_toInt_lt, Int32.le_iff_toInt_le, Int32.reduceToInt, ← Int32.toInt_inj] at h_575
                refine v_aload_n hC dX12_readLoss_119 rfl ?_
                refine v_iconst hC dX12_readLoss_120 (v := 1) (by decide) ?_
                refine v_vv hC (rest := []) m_1 e_99 rfl mi_X12_errs ms_X12_errs (p_X12_errs hW_92 k_0 (by decide)) mx_X12_errs ml_X12_162 (by decide) rfl (cells1 := 0) (slots1 := 0) (by decide) (by decide) (Nat.le_of_ble_eq_true rfl) (Nat.le_of_ble_eq_true rfl) rfl (Nat.le_of_ble_eq_true rfl) dX12_readLoss_121 (fun L_762 f_763 h_764 => ?_)
                obtain ⟨rfl, hW_767, hF_768, x_765, x_766, -, -, -⟩ := h_764
                have fe_769 : fld (f_87 a_0) 8 = (v_103 : Int32).toInt := by rw [e_99]; rfl
                have hf_770 := hF_768.at hf_98 rfl
                obtain ⟨v_772, v_773, v_774, v_775, v_776, v_777, v_778, v_779, v_780, v_781, v_782, e_771, -, -, -, -, -, -, -⟩ := hW_767.at m_1 t_2
                have fe_783 : fld (f_763 a_0) 8 = (v_775 : Int32).toInt := by rw [e_771]; rfl
                have fe_784 : fld (f_763 a_0) 12 = (v_779 : Int32).toInt := by rw [e_771]; rfl
                rw [fe_784] at x_765
                rw [fe_783, fe_769] at x_766
                clear fe_769 fe_783 fe_784
                refine v_aload_n hC dX12_readLoss_124 rfl ?_
                refine v_vi hC (rest := []) m_1 e_771 rfl mi_X12_good ms_X12_good (p_X12_good hW_767 k_0) mx_X12_good ml_X12_139 (by decide) rfl (cells1 := 0) (slots1 := 0) (by decide) (by decide) (Nat.le_of_ble_eq_true rfl) (Nat.le_of_ble_eq_true rfl) rfl (Nat.le_of_ble_eq_true rfl) dX12_readLoss_125 (fun r_785 L_786 f_787 h_788 => ?_)
                obtain ⟨rfl, rfl, b_789, x_790⟩ := h_788
                have fe_793 : fld (f_763 a_0) 12 = (v_779 : Int32).toInt := by rw [e_771]; rfl
                rw [fe_793] at x_790
                clear fe_793
                try simp only [Int32.reduceToInt, Int64.reduceToInt] at x_790
                refine v_if_eq_t hC dX12_readLoss_128 (tgt := 135) (by decide) (gdb_z x_790 x_765) ?_
                refine v_aload_n hC dX12_readLoss_135 rfl ?_
                refine v_get hC fl_X12_34 m_1 e_771 rfl dX12_readLoss_136 ?_
                refine v_iload_n hC dX12_readLoss_139 rfl ?_
                refine v_iload_n hC dX12_readLoss_140 rfl ?_
                refine v_if_eq_t hC dX12_readLoss_141 (tgt := 148) (by decide) (by first | omega | (simp only [Int32.lt_iff_toInt_lt, Int32.le_iff_toInt_le, Int32.reduceToInt, ← Int32.toInt_inj, true_and, and_true, or_true, true_or, false_or, or_false, false_and, and_false, not_true_eq_false, not_false_eq_true] <;> omega)) ?_
                refine v_iconst hC dX12_readLoss_148 (v := 0) (by decide) ?_
                refine v_iast hC m_22 hf_770 (vp_in_iff.mpr (by first | omega | (simp only [Int32.lt_iff_toInt_lt, Int32.le_iff_toInt_le, Int32.reduceToInt, ← Int32.toInt_inj, true_and, and_true, or_true, true_or, false_or, or_false, false_and, and_false, not_true_eq_false, not_false_eq_true] <;> omega))) dX12_readLoss_149 (fun f_794 hf_795 hk_796 => ?_)
                have hW_798 := hW_767.up hf_795 hk_796 t_23 ⟨_, rfl, (o_f.up (by first | omega | (simp only [Int32.lt_iff_toInt_lt, Int32.le_iff_toInt_le, Int32.reduceToInt, ← Int32.toInt_inj, true_and, and_true, or_true, true_or, false_or, or_false, false_and, and_false, not_true_eq_false, not_false_eq_true] <;> omega)) (fun q1 q2 => (by first | omega | (simp only [Int32.lt_iff_toInt_lt, Int32.le_iff_toInt_le, Int32.reduceToInt, ← Int32.toInt_inj] at *; omega))) (fun k9 q1 q2 q3 => (by first | omega | (simp only [Int32.lt_iff_toInt_lt, Int32.le_iff_toInt_le, Int32.reduceToInt, ← Int32.toInt_inj] at *; omega))))⟩
                obtain ⟨g_797, hf_795, ok_799, eg_800⟩ : ∃ g9, f_794 (q 14) = aI E 2076 g9 ∧ FOK g9 ∧ g9 = upd g_f (v_41 : Int32).toNatClampNeg 0 := ⟨_, hf_795, (o_f.up (by first | omega | (simp only [Int32.lt_iff_toInt_lt, Int32.le_iff_toInt_le, Int32.reduceToInt, ← Int32.toInt_inj, true_and, and_true, or_true, true_or, false_or, or_false, false_and, and_false, not_true_eq_false, not_false_eq_true] <;> omega)) (fun q1 q2 => (by first | omega | (simp only [Int32.lt_iff_toInt_lt, Int32.le_iff_toInt_le, Int32.reduceToInt, ← Int32.toInt_inj] at *; omega))) (fun k9 q1 q2 q3 => (by first | omega | (simp only [Int32.lt_iff_toInt_lt, Int32.le_iff_toInt_le, Int32.reduceToInt, ← Int32.toInt_inj] at *; omega)))), rfl⟩
                have hf_801 := (hk_796 a_0 (ne_kd e_771 hf_770 rfl)).trans e_771
                have fr_802 := FR.w hk_796 hf_770 (k := 2176) rfl
                have lk_803 := lk_at (g0 := g_f) eg_800 (by omega) (by omega)
                have ag_804 := (AG.rf o_f).st eg_800 (by omega) (by omega)
                try simp only [Int32.reduceToInt] at lk_803
                refine v_aload_n hC dX12_readLoss_150 rfl ?_
                refine v_get hC fl_X12_34 m_1 hf_801 rfl dX12_readLoss_151 ?_
                refine v_iload_n hC dX12_readLoss_154 rfl ?_
                refine v_iconst hC dX12_readLoss_155 (v := 1) (by decide) ?_
                obtain ⟨v_805, h_806⟩ : ∃ v9 : Int32, v_41 + 1 = v9 := ⟨_, rfl⟩
                refine v_iadd hC dX12_readLoss_156 h_806 ?_
                have h_807 := add_v h_806 (by first | omega | (simp only [Int32.lt_iff_toInt_lt, Int32.le_iff_toInt_le, Int32.reduceToInt, ← Int32.toInt_inj, true_and, and_true, or_true, true_or, false_or, or_false, false_and, and_false, not_true_eq_false, not_false_eq_true] <;> omega)) (by first | omega | (simp only [Int32.lt_iff_toInt_lt, Int32.le_iff_toInt_le, Int32.reduceToInt, ← Int32.toInt_inj, true_and, and_true, or_true, true_or, false_or, or_false, false_and, and_false, not_true_eq_false, not_false_eq_true] <;> omega))
                try simp only [Int32.reduceToInt] at h_807
                refine v_aload_n hC dX12_readLoss_157 rfl ?_
                refine v_iconst hC dX12_readLoss_158 (v := 0) (by decide) ?_
                refine v_bipush hC dX12_readLoss_159 (v := 15) (by decide) ?_
                refine v_vi hC (rest := [.int v_805, .ref (q 14)]) m_1 hf_801 rfl mi_X12_number ms_X12_number (p_X12_number hW_798 k_0) mx_X12_number ml_X12_170 (by decide) rfl (cells1 := 0) (slots1 := 0) (by decide) (by decide) (Nat.le_of_ble_eq_true rfl) (Nat.le_of_ble_eq_true rfl) rfl (Nat.le_of_ble_eq_true rfl) dX12_readLoss_161 (fun r_808 L_809 f_810 h_811 => ?_)
                obtain ⟨rfl, hW_813, hF_814, -, -, -, -, -, x_812⟩ := h_811
                have fe_815 : fld (f_794 a_0) 8 = (v_775 : Int32).toInt := by rw [hf_801]; rfl
                have fe_816 : fld (f_794 a_0) 10 = (v_777 : Int32).toInt := by rw [hf_801]; rfl
                have fe_817 : fld (f_794 a_0) 12 = (v_779 : Int32).toInt := by rw [hf_801]; rfl
                have hf_818 := hF_814.at hf_795 rfl
                obtain ⟨v_820, v_821, v_822, v_823, v_824, v_825, v_826, v_827, v_828, v_829, v_830, e_819, -, -, -, -, -, -, -⟩ := hW_813.at m_1 t_2
                have fe_831 : fld (f_810 a_0) 8 = (v_823 : Int32).toInt := by rw [e_819]; rfl
                have fe_832 : fld (f_810 a_0) 9 = (v_824 : Int32).toInt := by rw [e_819]; rfl
                have fe_833 : fld (f_810 a_0) 10 = (v_825 : Int32).toInt := by rw [e_819]; rfl
                have fe_834 : fld (f_810 a_0) 12 = (v_827 : Int32).toInt := by rw [e_819]; rfl
                rw [fe_834, fe_817, fe_816, fe_815, fe_832, fe_831, fe_833] at x_812
                have nb_835 : ¬ (v_827 : Int32).toInt = 0 := x_812.elim id (fun h9 => absurd h9.1 x_765)
                clear x_812
                clear fe_815 fe_816 fe_817 fe_831 fe_832 fe_833 fe_834
                try simp only [Int32.reduceToInt, Int64.reduceToInt] at x_812
                refine v_iast hC m_22 hf_818 (vp_in_iff.mpr (by first | omega | (simp only [Int32.lt_iff_toInt_lt, Int32.le_iff_toInt_le, Int32.reduceToInt, ← Int32.toInt_inj, true_and, and_true, or_true, true_or, false_or, or_false, false_and, and_false, not_true_eq_false, not_false_eq_true] <;> omega))) dX12_readLoss_164 (fun f_836 hf_837 hk_838 => ?_)
                have hW_840 := hW_813.up hf_837 hk_838 t_23 ⟨_, rfl, (ok_799.up (by first | omega | (simp only [Int32.lt_iff_toInt_lt, Int32.le_iff_toInt_le, Int32.reduceToInt, ← Int32.toInt_inj, true_and, and_true, or_true, true_or, false_or, or_false, false_and, and_false, not_true_eq_false, not_false_eq_true] <;> omega)) (fun q1 q2 => (by first | omega | (simp only [Int32.lt_iff_toInt_lt, Int32.le_iff_toInt_le, Int32.reduceToInt, ← Int32.toInt_inj] at *; omega))) (fun k9 q1 q2 q3 => (by first | omega | (simp only [Int32.lt_iff_toInt_lt, Int32.le_iff_toInt_le, Int32.reduceToInt, ← Int32.toInt_inj] at *; omega))))⟩
                obtain ⟨g_839, hf_837, ok_841, eg_842⟩ : ∃ g9, f_836 (q 14) = aI E 2076 g9 ∧ FOK g9 ∧ g9 = upd g_797 (v_805 : Int32).toNatClampNeg r_808 := ⟨_, hf_837, (ok_799.up (by first | omega | (simp only [Int32.lt_iff_toInt_lt, Int32.le_iff_toInt_le, Int32.reduceToInt, ← Int32.toInt_inj, true_and, and_true, or_true, true_or, false_or, or_false, false_and, and_false, not_true_eq_false, not_false_eq_true] <;> omega)) (fun q1 q2 => (by first | omega | (simp only [Int32.lt_iff_toInt_lt, Int32.le_iff_toInt_le, Int32.reduceToInt, ← Int32.toInt_inj] at *; omega))) (fun k9 q1 q2 q3 => (by first | omega | (simp only [Int32.lt_iff_toInt_lt, Int32.le_iff_toInt_le, Int32.reduceToInt, ← Int32.toInt_inj] at *; omega)))), rfl⟩
                have hf_843 := (hk_838 a_0 (ne_kd e_819 hf_818 rfl)).trans e_819
                have fr_844 := FR.w hk_838 hf_818 (k := 2176) rfl
                have lk_845 := lf_at (g0 := g_f) eg_842 (by omega) (by omega)
                have ag_846 := ag_804.st eg_842 (by omega) (by omega)
                try simp only [Int32.reduceToInt] at lk_845
                refine v_aload_n hC dX12_readLoss_165 rfl ?_
                refine v_get hC fl_X12_34 m_1 hf_843 rfl dX12_readLoss_166 ?_
                refine v_iload_n hC dX12_readLoss_169 rfl ?_
                refine v_iconst hC dX12_readLoss_170 (v := 2) (by decide) ?_
                obtain ⟨v_847, h_848⟩ : ∃ v9 : Int32, v_41 + 2 = v9 := ⟨_, rfl⟩
                refine v_iadd hC dX12_readLoss_171 h_848 ?_
                have h_849 := add_v h_848 (by first | omega | (simp only [Int32.lt_iff_toInt_lt, Int32.le_iff_toInt_le, Int32.reduceToInt, ← Int32.toInt_inj, true_and, and_true, or_true, true_or, false_or, or_false, false_and, and_false, not_true_eq_false, not_false_eq_true] <;> omega)) (by first | omega | (simp only [Int32.lt_iff_toInt_lt, Int32.le_iff_toInt_le, Int32.reduceToInt, ← Int32.toInt_inj, true_and, and_true, or_true, true_or, false_or, or_false, false_and, and_false, not_true_eq_false, not_false_eq_true] <;> omega))
                try simp only [Int32.reduceToInt] at h_849
                refine v_aload_n hC dX12_readLoss_172 rfl ?_
                refine v_ldcwS hC sr_X12_295 dX12_readLoss_173 ?_
                refine v_aload_n hC dX12_readLoss_176 rfl ?_
                refine v_get hC fl_X12_34 m_1 hf_843 rfl dX12_readLoss_177 ?_
                refine v_iload_n hC dX12_readLoss_180 rfl ?_
                refine v_iconst hC dX12_readLoss_181 (v := 1) (by decide) ?_
                obtain ⟨v_850, h_851⟩ : ∃ v9 : Int32, v_41 + 1 = v9 := ⟨_, rfl⟩
                refine v_iadd hC dX12_readLoss_182 h_851 ?_
                have h_852 := add_v h_851 (by first | omega | (simp only [Int32.lt_iff_toInt_lt, Int32.le_iff_toInt_le, Int32.reduceToInt, ← Int32.toInt_inj, true_and, and_true, or_true, true_or, false_or, or_false, false_and, and_false, not_true_eq_false, not_false_eq_true] <;> omega)) (by first | omega | (simp only [Int32.lt_iff_toInt_lt, Int32.le_iff_toInt_le, Int32.reduceToInt, ← Int32.toInt_inj, true_and, and_true, or_true, true_or, false_or, or_false, false_and, and_false, not_true_eq_false, not_false_eq_true] <;> omega))
                try simp only [Int32.reduceToInt] at h_852
                obtain ⟨v_853, h_854⟩ : ∃ v9 : Int32, g_839 (v_850 : Int32).toNatClampNeg = v9 := ⟨_, rfl⟩
                refine v_iald hC m_22 hf_837 (vp_in_iff.mpr (by first | omega | (simp only [Int32.lt_iff_toInt_lt, Int32.le_iff_toInt_le, Int32.reduceToInt, ← Int32.toInt_inj, true_and, and_true, or_true, true_or, false_or, or_false, false_and, and_false, not_true_eq_false, not_false_eq_true] <;> omega))) h_854 dX12_readLoss_183 ?_
                refine v_bipush hC dX12_readLoss_184 (v := 15) (by decide) ?_
                refine v_vi hC (rest := [.int v_847, .ref (q 14)]) m_1 hf_843 rfl mi_X12_told ms_X12_told (p_X12_told hW_840 k_0 (by decide)) mx_X12_told ml_X12_189 (by decide) rfl (cells1 := 0) (slots1 := 0) (by decide) (by decide) (Nat.le_of_ble_eq_true rfl) (Nat.le_of_ble_eq_true rfl) rfl (Nat.le_of_ble_eq_true rfl) dX12_readLoss_186 (fun r_855 L_856 f_857 h_858 => ?_)
                obtain ⟨rfl, hW_860, hF_861, -, -, -, -, -, x_859⟩ := h_858
                have fe_862 : fld (f_836 a_0) 8 = (v_823 : Int32).toInt := by rw [hf_843]; rfl
                have fe_863 : fld (f_836 a_0) 12 = (v_827 : Int32).toInt := by rw [hf_843]; rfl
                have hf_864 := hF_861.at hf_837 rfl
                obtain ⟨v_866, v_867, v_868, v_869, v_870, v_871, v_872, v_873, v_874, v_875, v_876, e_865, -, -, -, -, -, -, -⟩ := hW_860.at m_1 t_2
                have fe_877 : fld (f_857 a_0) 8 = (v_869 : Int32).toInt := by rw [e_865]; rfl
                have fe_878 : fld (f_857 a_0) 9 = (v_870 : Int32).toInt := by rw [e_865]; rfl
                have fe_879 : fld (f_857 a_0) 10 = (v_871 : Int32).toInt := by rw [e_865]; rfl
                have fe_880 : fld (f_857 a_0) 12 = (v_873 : Int32).toInt := by rw [e_865]; rfl
                rw [fe_880, fe_863, fe_862, fe_878, fe_877, fe_879] at x_859
                have nb_881 : ¬ (v_873 : Int32).toInt = 0 := x_859.elim id (fun h9 => absurd h9.1 nb_835)
                clear x_859
                clear fe_862 fe_863 fe_877 fe_878 fe_879 fe_880
                try simp only [Int32.reduceToInt, Int64.reduceToInt] at x_859
                refine v_iast hC m_22 hf_864 (vp_in_iff.mpr (by first | omega | (simp only [Int32.lt_iff_toInt_lt, Int32.le_iff_toInt_le, Int32.reduceToInt, ← Int32.toInt_inj, true_and, and_true, or_true, true_or, false_or, or_false, false_and, and_false, not_true_eq_false, not_false_eq_true] <;> omega))) dX12_readLoss_189 (fun f_882 hf_883 hk_884 => ?_)
                have hW_886 := hW_860.up hf_883 hk_884 t_23 ⟨_, rfl, (ok_841.up (by first | omega | (simp only [Int32.lt_iff_toInt_lt, Int32.le_iff_toInt_le, Int32.reduceToInt, ← Int32.toInt_inj, true_and, and_true, or_true, true_or, false_or, or_false, false_and, and_false, not_true_eq_false, not_false_eq_true] <;> omega)) (fun q1 q2 => (by first | omega | (simp only [Int32.lt_iff_toInt_lt, Int32.le_iff_toInt_le, Int32.reduceToInt, ← Int32.toInt_inj] at *; omega))) (fun k9 q1 q2 q3 => (by first | omega | (simp only [Int32.lt_iff_toInt_lt, Int32.le_iff_toInt_le, Int32.reduceToInt, ← Int32.toInt_inj] at *; omega))))⟩
                obtain ⟨g_885, hf_883, ok_887, eg_888⟩ : ∃ g9, f_882 (q 14) = aI E 2076 g9 ∧ FOK g9 ∧ g9 = upd g_839 (v_847 : Int32).toNatClampNeg r_855 := ⟨_, hf_883, (ok_841.up (by first | omega | (simp only [Int32.lt_iff_toInt_lt, Int32.le_iff_toInt_le, Int32.reduceToInt, ← Int32.toInt_inj, true_and, and_true, or_true, true_or, false_or, or_false, false_and, and_false, not_true_eq_false, not_false_eq_true] <;> omega)) (fun q1 q2 => (by first | omega | (simp only [Int32.lt_iff_toInt_lt, Int32.le_iff_toInt_le, Int32.reduceToInt, ← Int32.toInt_inj] at *; omega))) (fun k9 q1 q2 q3 => (by first | omega | (simp only [Int32.lt_iff_toInt_lt, Int32.le_iff_toInt_le, Int32.reduceToInt, ← Int32.toInt_inj] at *; omega)))), rfl⟩
                have hf_889 := (hk_884 a_0 (ne_kd e_865 hf_864 rfl)).trans e_865
                have fr_890 := FR.w hk_884 hf_864 (k := 2176) rfl
                have lk_891 := l2_at (g0 := g_f) eg_888 (by omega) (by omega)
                have ag_892 := ag_846.st eg_888 (by omega) (by omega)
                try simp only [Int32.reduceToInt] at lk_891
                refine v_goto hC dX12_readLoss_190 (tgt := 258) (by decide) ?_
                refine v_aload_n hC dX12_readLoss_258 rfl ?_
                refine v_vv hC (rest := []) m_1 hf_889 rfl mi_X12_ends ms_X12_ends (p_X12_ends hW_886 k_0) mx_X12_ends ml_X12_178 (by decide) rfl (cells1 := 0) (slots1 := 0) (by decide) (by decide) (Nat.le_of_ble_eq_true rfl) (Nat.le_of_ble_eq_true rfl) rfl (Nat.le_of_ble_eq_true rfl) dX12_readLoss_259 (fun L_894 f_895 h_896 => ?_)
                obtain ⟨rfl, hW_898, hF_899, -, -, -, -, x_897⟩ := h_896
                have fe_900 : fld (f_882 a_0) 8 = (v_869 : Int32).toInt := by rw [hf_889]; rfl
                have fe_901 : fld (f_882 a_0) 10 = (v_871 : Int32).toInt := by rw [hf_889]; rfl
                have fe_902 : fld (f_882 a_0) 12 = (v_873 : Int32).toInt := by rw [hf_889]; rfl
                have hf_903 := hF_899.at hf_883 rfl
                obtain ⟨v_905, v_906, v_907, v_908, v_909, v_910, v_911, v_912, v_913, v_914, v_915, e_904, -, -, -, -, -, -, -⟩ := hW_898.at m_1 t_2
                have fe_916 : fld (f_895 a_0) 8 = (v_908 : Int32).toInt := by rw [e_904]; rfl
                have fe_917 : fld (f_895 a_0) 9 = (v_909 : Int32).toInt := by rw [e_904]; rfl
                have fe_918 : fld (f_895 a_0) 10 = (v_910 : Int32).toInt := by rw [e_904]; rfl
                have fe_919 : fld (f_895 a_0) 12 = (v_912 : Int32).toInt := by rw [e_904]; rfl
                rw [fe_919, fe_902, fe_901, fe_900, fe_917, fe_916, fe_918] at x_897
                have nb_920 : ¬ (v_912 : Int32).toInt = 0 := x_897.elim id (fun h9 => absurd h9.1 nb_881)
                clear x_897
                clear fe_900 fe_901 fe_902 fe_916 fe_917 fe_918 fe_919
                refine v_aload_n hC dX12_readLoss_262 rfl ?_
                refine v_get hC fl_X12_34 m_1 e_904 rfl dX12_readLoss_263 ?_
                refine v_bipush hC dX12_readLoss_266 (v := 6) (by decide) ?_
                refine v_dup2 hC dX12_readLoss_268 rfl rfl ?_
                have l6_921 : (g_885 6).toInt = (g_f 6).toInt := congrArg Int32.toInt ag_892.2.1
                refine v_iald hC m_22 hf_903 (vp_in_iff.mpr (by decide)) (v := g_885 6) rfl dX12_readLoss_269 ?_
                refine v_iconst hC dX12_readLoss_270 (v := 1) (by decide) ?_
                obtain ⟨v_922, h_923⟩ : ∃ v9 : Int32, (g_885 6) + 1 = v9 := ⟨_, rfl⟩
                refine v_iadd hC dX12_readLoss_271 h_923 ?_
                have h_924 := add_v h_923 (by first | omega | (simp only [Int32.lt_iff_toInt_lt, Int32.le_iff_toInt_le, Int32.reduceToInt, ← Int32.toInt_inj, true_and, and_true, or_true, true_or, false_or, or_false, false_and, and_false, not_true_eq_false, not_false_eq_true] <;> omega)) (by first | omega | (simp only [Int32.lt_iff_toInt_lt, Int32.le_iff_toInt_le, Int32.reduceToInt, ← Int32.toInt_inj, true_and, and_true, or_true, true_or, false_or, or_false, false_and, and_false, not_true_eq_false, not_false_eq_true] <;> omega))
                try simp only [Int32.reduceToInt] at h_924
                refine v_iast hC m_22 hf_903 (vp_in_iff.mpr (by decide)) dX12_readLoss_272 (fun f_925 hf_926 hk_927 => ?_)
                have hW_929 := hW_898.up hf_926 hk_927 t_23 ⟨_, rfl, (ok_887.up (i := 6) (by decide) (fun q1 q2 => absurd (And.intro q1 q2) (by decide)) (fun k9 q1 q2 q3 => by simp only [Int32.reduceToInt] at q3; omega))⟩
                obtain ⟨g_928, hf_926, ok_930, eg_931⟩ : ∃ g9, f_925 (q 14) = aI E 2076 g9 ∧ FOK g9 ∧ g9 = upd g_885 (6 : Int32).toNatClampNeg v_922 := ⟨_, hf_926, (ok_887.up (i := 6) (by decide) (fun q1 q2 => absurd (And.intro q1 q2) (by decide)) (fun k9 q1 q2 q3 => by simp only [Int32.reduceToInt] at q3; omega)), rfl⟩
                have hf_932 := (hk_927 a_0 (ne_kd e_904 hf_903 rfl)).trans e_904
                have fr_933 := FR.w hk_927 hf_903 (k := 2176) rfl
                have ln6_934 := FOK.n6 ag_892.1 eg_931
                have ln6_934_t : (g_928 6).toInt = v_922.toInt := congrArg Int32.toInt ln6_934.2
                have fe_935 : fld (f_925 a_0) 12 = (v_912 : Int32).toInt := by rw [hf_932]; rfl
                have fe_936 : fld (f_925 a_0) 8 = (v_908 : Int32).toInt := by rw [hf_932]; rfl
                have fe_937 : fld (f_925 a_0) 12 = (v_912 : Int32).toInt := by rw [hf_932]; rfl
                exact hR _ _ _ _ _ _ dX12_readLoss_273 (Nat.le_of_ble_eq_true rfl) (Nat.le_of_ble_eq_true rfl) ⟨rfl, hW_929, (((((((((hF_93.tr hF_768).tr fr_802).tr hF_814).tr fr_844).tr hF_861).tr fr_890).tr hF_899).tr fr_933).mono rfl), ⟨_, hf_926, ln6_934.1, (by omega), (by rw [fe_935]; exact .inl nb_920)⟩, (by simp only [fe_936, fe_937, mz_36, mz_37]; exact .inl nb_920)⟩
        · simp only [Int32.lt_iff_toInt_lt, Int32.le_iff_toInt_le, Int32.reduceToInt, ← Int32.toInt_inj] at h_81
          have g0_84 := gd_f x_77 h_81
          clear x_77
          have fe_938 : fld (f a_0) 12 = (v_32 : Int32).toInt := by rw [e_24]; rfl
          have fe_939 : fld (f a_0) 8 = (v_28 : Int32).toInt := by rw [e_24]; rfl
          have fe_940 : fld (f a_0) 12 = (v_32 : Int32).toInt := by rw [e_24]; rfl
          exact hR _ _ _ _ _ _ dX12_readLoss_87 (Nat.le_of_ble_eq_true rfl) (Nat.le_of_ble_eq_true rfl) ⟨rfl, hW, FR.rf, ⟨_, e_f, (AG.rf o_f).1, (by omega), (by rw [fe_938]; left; omega)⟩, (by simp only [fe_939, fe_940, mz_36, mz_37]; exact .inl g0_84)⟩
      · simp only [Int32.lt_iff_toInt_lt, Int32.le_iff_toInt_le, Int32.reduceToInt, ← Int32.toInt_inj] at h_70
        refine v_aload_n hC dX12_readLoss_75 rfl ?_
        refine v_iconst hC dX12_readLoss_76 (v := 3) (by decide) ?_
        refine v_vv hC (rest := []) m_1 e_24 rfl mi_X12_errs ms_X12_errs (p_X12_errs hW k_0 (by decide)) mx_X12_errs ml_X12_162 (by decide) rfl (cells1 := 0) (slots1 := 0) (by decide) (by decide) (Nat.le_of_ble_eq_true rfl) (Nat.le_of_ble_eq_true rfl) rfl (Nat.le_of_ble_eq_true rfl) dX12_readLoss_77 (fun L_942 f_943 h_944 => ?_)
        obtain ⟨rfl, hW_947, hF_948, x_945, x_946, -, -, -⟩ := h_944
        have fe_949 : fld (f a_0) 8 = (v_28 : Int32).toInt := by rw [e_24]; rfl
        have hf_950 := hF_948.at e_f rfl
        obtain ⟨v_952, v_953, v_954, v_955, v_956, v_957, v_958, v_959, v_960, v_961, v_962, e_951, -, -, -, -, -, -, -⟩ := hW_947.at m_1 t_2
        have fe_963 : fld (f_943 a_0) 8 = (v_955 : Int32).toInt := by rw [e_951]; rfl
        have fe_964 : fld (f_943 a_0) 12 = (v_959 : Int32).toInt := by rw [e_951]; rfl
        rw [fe_964] at x_945
        rw [fe_963, fe_949] at x_946
        clear fe_949 fe_963 fe_964
        refine v_aload_n hC dX12_readLoss_80 rfl ?_
        refine v_vi hC (rest := []) m_1 e_951 rfl mi_X12_good ms_X12_good (p_X12_good hW_947 k_0) mx_X12_good ml_X12_139 (by decide) rfl (cells1 := 0) (slots1 := 0) (by decide) (by decide) (Nat.le_of_ble_eq_true rfl) (Nat.le_of_ble_eq_true rfl) rfl (Nat.le_of_ble_eq_true rfl) dX12_readLoss_81 (fun r_965 L_966 f_967 h_968 => ?_)
        obtain ⟨rfl, rfl, b_969, x_970⟩ := h_968
        have fe_973 : fld (f_943 a_0) 12 = (v_959 : Int32).toInt := by rw [e_951]; rfl
        rw [fe_973] at x_970
        clear fe_973
        try simp only [Int32.reduceToInt, Int64.reduceToInt] at x_970
        refine v_if_ne_f hC dX12_readLoss_84 (tgt := 88) (by decide) (gdb_z x_970 x_945) ?_
        have fe_974 : fld (f_943 a_0) 12 = (v_959 : Int32).toInt := by rw [e_951]; rfl
        have fe_975 : fld (f_943 a_0) 8 = (v_955 : Int32).toInt := by rw [e_951]; rfl
        have fe_976 : fld (f_943 a_0) 12 = (v_959 : Int32).toInt := by rw [e_951]; rfl
        exact hR _ _ _ _ _ _ dX12_readLoss_87 (Nat.le_of_ble_eq_true rfl) (Nat.le_of_ble_eq_true rfl) ⟨rfl, hW_947, (hF_948.mono rfl), ⟨_, hf_950, (AG.rf o_f).1, (by omega), (by rw [fe_974]; left; omega)⟩, (by simp only [fe_975, fe_976, mz_36, mz_37]; exact .inl x_945)⟩
    · simp only [Int32.lt_iff_toInt_lt, Int32.le_iff_toInt_le, Int32.reduceToInt, ← Int32.toInt_inj] at h_68
      refine v_aload_n hC dX12_readLoss_54 rfl ?_
      refine v_iconst hC dX12_readLoss_55 (v := 1) (by decide) ?_
      refine v_vv hC (rest := []) m_1 e_24 rfl mi_X12_errs ms_X12_errs (p_X12_errs hW k_0 (by decide)) mx_X12_errs ml_X12_162 (by decide) rfl (cells1 := 0) (slots1 := 0) (by decide) (by decide) (Nat.le_of_ble_eq_true rfl) (Nat.le_of_ble_eq_true rfl) rfl (Nat.le_of_ble_eq_true rfl) dX12_readLoss_56 (fun L_978 f_979 h_980 => ?_)
      obtain ⟨rfl, hW_983, hF_984, x_981, x_982, -, -, -⟩ := h_980
      have fe_985 : fld (f a_0) 8 = (v_28 : Int32).toInt := by rw [e_24]; rfl
      have hf_986 := hF_984.at e_f rfl
      obtain ⟨v_988, v_989, v_990, v_991, v_992, v_993, v_994, v_995, v_996, v_997, v_998, e_987, -, -, -, -, -, -, -⟩ := hW_983.at m_1 t_2
      have fe_999 : fld (f_979 a_0) 8 = (v_991 : Int32).toInt := by rw [e_987]; rfl
      have fe_1000 : fld (f_979 a_0) 12 = (v_995 : Int32).toInt := by rw [e_987]; rfl
      rw [fe_1000] at x_981
      rw [fe_999, fe_985] at x_982
      clear fe_985 fe_999 fe_1000
      refine v_iload_n hC dX12_readLoss_59 rfl ?_
      refine v_if_eq_t hC dX12_readLoss_60 (tgt := 80) (by decide) (by first | omega | (simp only [Int32.lt_iff_toInt_lt, Int32.le_iff_toInt_le, Int32.reduceToInt, ← Int32.toInt_inj, true_and, and_true, or_true, true_or, false_or, or_false, false_and, and_false, not_true_eq_false, not_false_eq_true] <;> omega)) ?_
      refine v_aload_n hC dX12_readLoss_80 rfl ?_
      refine v_vi hC (rest := []) m_1 e_987 rfl mi_X12_good ms_X12_good (p_X12_good hW_983 k_0) mx_X12_good ml_X12_139 (by decide) rfl (cells1 := 0) (slots1 := 0) (by decide) (by decide) (Nat.le_of_ble_eq_true rfl) (Nat.le_of_ble_eq_true rfl) rfl (Nat.le_of_ble_eq_true rfl) dX12_readLoss_81 (fun r_1001 L_1002 f_1003 h_1004 => ?_)
      obtain ⟨rfl, rfl, b_1005, x_1006⟩ := h_1004
      have fe_1009 : fld (f_979 a_0) 12 = (v_995 : Int32).toInt := by rw [e_987]; rfl
      rw [fe_1009] at x_1006
      clear fe_1009
      try simp only [Int32.reduceToInt, Int64.reduceToInt] at x_1006
      refine v_if_ne_f hC dX12_readLoss_84 (tgt := 88) (by decide) (gdb_z x_1006 x_981) ?_
      have fe_1010 : fld (f_979 a_0) 12 = (v_995 : Int32).toInt := by rw [e_987]; rfl
      have fe_1011 : fld (f_979 a_0) 8 = (v_991 : Int32).toInt := by rw [e_987]; rfl
      have fe_1012 : fld (f_979 a_0) 12 = (v_995 : Int32).toInt := by rw [e_987]; rfl
      exact hR _ _ _ _ _ _ dX12_readLoss_87 (Nat.le_of_ble_eq_true rfl) (Nat.le_of_ble_eq_true rfl) ⟨rfl, hW_983, (hF_984.mono rfl), ⟨_, hf_986, (AG.rf o_f).1, (by omega), (by rw [fe_1010]; left; omega)⟩, (by simp only [fe_1011, fe_1012, mz_36, mz_37]; exact .inl x_981)⟩
  refine v_if_ne hC dX12_readLoss_21 (tgt := 44) (by decide) (fun h_50 => ?_) (fun h_50 => ?_)
  · simp only [Int32.lt_iff_toInt_lt, Int32.le_iff_toInt_le, Int32.reduceToInt, ← Int32.toInt_inj] at h_50
    refine v_iconst hC dX12_readLoss_44 (v := 1) (by decide) ?_
    refine v_goto hC dX12_readLoss_45 (tgt := 49) (by decide) ?_
    refine v_pick [0, 1] rfl ?_
    exact jn_65 1 (by decide)
  · simp only [Int32.lt_iff_toInt_lt, Int32.le_iff_toInt_le, Int32.reduceToInt, ← Int32.toInt_inj] at h_50
    refine v_aload_n hC dX12_readLoss_24 rfl ?_
    refine v_ldcwS hC sr_X12_289 dX12_readLoss_25 ?_
    refine v_vi hC (rest := []) m_1 e_24 rfl mi_X12_is ms_X12_is (p_X12_is hW k_0 (by decide)) mx_X12_is ml_X12_152 (by decide) rfl (cells1 := 0) (slots1 := 0) (by decide) (by decide) (Nat.le_of_ble_eq_true rfl) (Nat.le_of_ble_eq_true rfl) rfl (Nat.le_of_ble_eq_true rfl) dX12_readLoss_28 (fun r_1013 L_1014 f_1015 h_1016 => ?_)
    obtain ⟨rfl, rfl, rfl⟩ := h_1016
    refine v_if_ne hC dX12_readLoss_31 (tgt := 44) (by decide) (fun h_1019 => ?_) (fun h_1019 => ?_)
    · simp only [Int32.lt_iff_toInt_lt, Int32.le_iff_toInt_le, Int32.reduceToInt, ← Int32.toInt_inj] at h_1019
      refine v_iconst hC dX12_readLoss_44 (v := 1) (by decide) ?_
      refine v_goto hC dX12_readLoss_45 (tgt := 49) (by decide) ?_
      refine v_pick [0, 1] rfl ?_
      exact jn_65 1 (by decide)
    · simp only [Int32.lt_iff_toInt_lt, Int32.le_iff_toInt_le, Int32.reduceToInt, ← Int32.toInt_inj] at h_1019
      refine v_aload_n hC dX12_readLoss_34 rfl ?_
      refine v_ldcwS hC sr_X12_291 dX12_readLoss_35 ?_
      refine v_vi hC (rest := []) m_1 e_24 rfl mi_X12_is ms_X12_is (p_X12_is hW k_0 (by decide)) mx_X12_is ml_X12_152 (by decide) rfl (cells1 := 0) (slots1 := 0) (by decide) (by decide) (Nat.le_of_ble_eq_true rfl) (Nat.le_of_ble_eq_true rfl) rfl (Nat.le_of_ble_eq_true rfl) dX12_readLoss_38 (fun r_1020 L_1021 f_1022 h_1023 => ?_)
      obtain ⟨rfl, rfl, rfl⟩ := h_1023
      refine v_if_eq hC dX12_readLoss_41 (tgt := 48) (by decide) (fun h_1026 => ?_) (fun h_1026 => ?_)
      · simp only [Int32.lt_iff_toInt_lt, Int32.le_iff_toInt_le, Int32.reduceToInt, ← Int32.toInt_inj] at h_1026
        refine v_iconst hC dX12_readLoss_48 (v := 0) (by decide) ?_
        refine v_pick [0, 1] rfl ?_
        exact jn_65 0 (by decide)
      · simp only [Int32.lt_iff_toInt_lt, Int32.le_iff_toInt_le, Int32.reduceToInt, ← Int32.toInt_inj] at h_1026
        refine v_iconst hC dX12_readLoss_44 (v := 1) (by decide) ?_
        refine v_goto hC dX12_readLoss_45 (tgt := 49) (by decide) ?_
        refine v_pick [0, 1] rfl ?_
        exact jn_65 1 (by decide)
set_option maxRecDepth 100000 in
set_option maxHeartbeats 8000000 in
theorem p_X12_losses {l : Launch} {E : Ez} {L : List Nat} {f : Nat → va_E} {T : Nat → va_E → Prop} {a_0 : Nat} {q : Nat → Nat} (hW : WT T L f) (k_0 : isM T L E a_0 q) : CI l yX12_losses cX12_losses 1 .int 9 0 0 E [.ref a_0] L f (fun r L1 f1 => L = L1 ∧ WT T L f1 ∧ FR [12, 2176] f f1) := by
  refine ci_of (by decide) (Nat.le_of_ble_eq_true rfl) (fun z hz hnm hC hR => ?_)
  have hC : Cx z E cX12_losses RX12 1 9 0 0 := hC
  subst hz
  show V z E 1 0 0 L f 0 [(0, .ref a_0)] []
  obtain ⟨m_1, t_2, nq_21, k_3, k_4, k_5, k_6, k_7, k_8, k_9, k_10, k_11, k_12, k_13, k_14, k_15, k_16, k_17, k_18, k_19, k_20⟩ := id k_0
  refine v_aload_n hC dX12_losses_0 rfl ?_
  obtain ⟨v_23, v_24, v_26, v_28, v_30, v_32, v_34, v_35, v_36, v_37, v_39, e_22, b_25, b_27, b_29, b_31, b_33, b_38, b_40⟩ := hW.at m_1 t_2
  refine v_vv hC (rest := []) m_1 e_22 rfl mi_X12_begin ms_X12_begin (p_X12_begin hW k_0) mx_X12_begin ml_X12_181 (by decide) rfl (cells1 := 0) (slots1 := 0) (by decide) (by decide) (Nat.le_of_ble_eq_true rfl) (Nat.le_of_ble_eq_true rfl) rfl (Nat.le_of_ble_eq_true rfl) dX12_losses_1 (fun L_42 f_43 h_44 => ?_)
  obtain ⟨rfl, hW_48, hF_49, x_45, x_46, x_47⟩ := h_44
  have fe_50 : fld (f a_0) 20 = (v_39 : Int32).toInt := by rw [e_22]; rfl
  obtain ⟨v_52, v_53, v_55, v_57, v_59, v_61, v_63, v_64, v_65, v_66, v_68, e_51, b_54, b_56, b_58, b_60, b_62, b_67, b_69⟩ := hW_48.at m_1 t_2
  have fe_70 : fld (f_43 a_0) 8 = (v_57 : Int32).toInt := by rw [e_51]; rfl
  have fe_71 : fld (f_43 a_0) 12 = (v_64 : Int32).toInt := by rw [e_51]; rfl
  have fe_72 : fld (f_43 a_0) 20 = (v_68 : Int32).toInt := by rw [e_51]; rfl
  rw [fe_71] at x_45
  rw [fe_70] at x_46
  rw [fe_72, fe_50] at x_47
  clear fe_50 fe_70 fe_71 fe_72
  refine v_aload_n hC dX12_losses_4 rfl ?_
  refine v_get hC fl_X12_34 m_1 e_51 rfl dX12_losses_5 ?_
  refine v_bipush hC dX12_losses_8 (v := 6) (by decide) ?_
  refine v_iconst hC dX12_losses_10 (v := 0) (by decide) ?_
  obtain ⟨m_73, t_74⟩ := id k_8
  obtain ⟨g_76, e_75, ok_77⟩ := hW_48.at m_73 t_74
  refine v_iast hC m_73 e_75 (vp_in_iff.mpr (by decide)) dX12_losses_11 (fun f_78 hf_79 hk_80 => ?_)
  have hW_82 := hW_48.up hf_79 hk_80 t_74 ⟨_, rfl, (ok_77.up (i := 6) (by decide) (fun q1 q2 => absurd (And.intro q1 q2) (by decide)) (fun k9 q1 q2 q3 => by simp only [Int32.reduceToInt] at q3; omega))⟩
  obtain ⟨g_81, hf_79, ok_83, eg_84⟩ : ∃ g9, f_78 (q 14) = aI E 2076 g9 ∧ FOK g9 ∧ g9 = upd g_76 (6 : Int32).toNatClampNeg 0 := ⟨_, hf_79, (ok_77.up (i := 6) (by decide) (fun q1 q2 => absurd (And.intro q1 q2) (by decide)) (fun k9 q1 q2 q3 => by simp only [Int32.reduceToInt] at q3; omega)), rfl⟩
  have hf_85 := (hk_80 a_0 (ne_kd e_51 e_75 rfl)).trans e_51
  have fr_86 := FR.w hk_80 e_75 (k := 2176) rfl
  have gz_87 : (g_81 6).toInt = 0 := by rw [eg_84]; rfl
  have lo_88 : LO g_81 := fun l9 h9 => absurd h9 (by omega)
  refine v_aload_n hC dX12_losses_12 rfl ?_
  refine v_vv hC (rest := []) m_1 hf_85 rfl mi_X12_advance ms_X12_advance (p_X12_advance hW_82 k_0) mx_X12_advance ml_X12_156 (by decide) rfl (cells1 := 0) (slots1 := 0) (by decide) (by decide) (Nat.le_of_ble_eq_true rfl) (Nat.le_of_ble_eq_true rfl) rfl (Nat.le_of_ble_eq_true rfl) dX12_losses_13 (fun L_90 f_91 h_92 => ?_)
  obtain ⟨rfl, hW_94, hF_95, -, -, x_93, -⟩ := h_92
  have fe_96 : fld (f_78 a_0) 12 = (v_64 : Int32).toInt := by rw [hf_85]; rfl
  have hf_97 := hF_95.at hf_79 rfl
  obtain ⟨v_99, v_100, v_102, v_104, v_106, v_108, v_110, v_111, v_112, v_113, v_115, e_98, b_101, b_103, b_105, b_107, b_109, b_114, b_116⟩ := hW_94.at m_1 t_2
  have fe_117 : fld (f_91 a_0) 12 = (v_111 : Int32).toInt := by rw [e_98]; rfl
  rw [fe_117, fe_96] at x_93
  clear fe_96 fe_117
  have lp_486 : ∀ (n_487 : Nat) (f_482 : Nat → va_E) (hW_483 : WT T L f_482) (hF_484 : FR [12, 2176] f_91 f_482)  (cv_485 : ∃ g9 : Nat → Int32, (f_482 (q 14)) = aI E 2076 g9 ∧ FOK g9 ∧ (0 ≤ (g9 6).toInt ∧ (g9 6).toInt ≤ 12) ∧ (¬ fld (f_482 a_0) 12 = 0 ∨ LO g9)) (hm_489 : gm (f_482 a_0) < (n_487 : Int)), V z E 1 0 0 L f_482 16 [(0, .ref a_0)] [] := by
    intro n_487
    induction n_487 with
    | zero =>
      intro f_482 hW_483 hF_484 cv_485 hm_489
      obtain ⟨g_490, e_491, ok_492, bl_493, lo_494⟩ := cv_485
      obtain ⟨v_496, v_497, v_499, v_501, v_503, v_505, v_507, v_508, v_509, v_510, v_512, e_495, b_498, b_500, b_502, b_504, b_506, b_511, b_513⟩ := hW_483.at m_1 t_2
      have fe_514 : fld (f_482 a_0) 12 = (v_508 : Int32).toInt := by rw [e_495]; rfl
      rw [fe_514] at lo_494
      have gb_515 := gm_b (f_482 a_0)
      have fe_516 : fld (f_482 a_0) 8 = (v_501 : Int32).toInt := by rw [e_495]; rfl
      have fe_517 : fld (f_482 a_0) 12 = (v_508 : Int32).toInt := by rw [e_495]; rfl
      rw [fe_516, fe_517] at gb_515
      exfalso; omega
    | succ n_487 ih_488 =>
      intro f_482 hW_483 hF_484 cv_485 hm_489
      obtain ⟨g_490, e_491, ok_492, bl_493, lo_494⟩ := cv_485
      obtain ⟨v_496, v_497, v_499, v_501, v_503, v_505, v_507, v_508, v_509, v_510, v_512, e_495, b_498, b_500, b_502, b_504, b_506, b_511, b_513⟩ := hW_483.at m_1 t_2
      have fe_514 : fld (f_482 a_0) 12 = (v_508 : Int32).toInt := by rw [e_495]; rfl
      rw [fe_514] at lo_494
      have gb_515 := gm_b (f_482 a_0)
      have fe_516 : fld (f_482 a_0) 8 = (v_501 : Int32).toInt := by rw [e_495]; rfl
      have fe_517 : fld (f_482 a_0) 12 = (v_508 : Int32).toInt := by rw [e_495]; rfl
      rw [fe_516, fe_517] at gb_515
      refine v_aload_n hC dX12_losses_16 rfl ?_
      refine v_vi hC (rest := []) m_1 e_495 rfl mi_X12_good ms_X12_good (p_X12_good hW_483 k_0) mx_X12_good ml_X12_139 (by decide) rfl (cells1 := 0) (slots1 := 0) (by decide) (by decide) (Nat.le_of_ble_eq_true rfl) (Nat.le_of_ble_eq_true rfl) rfl (Nat.le_of_ble_eq_true rfl) dX12_losses_17 (fun r_518 L_519 f_520 h_521 => ?_)
      obtain ⟨rfl, rfl, b_522, x_523⟩ := h_521
      have fe_526 : fld (f_482 a_0) 12 = (v_508 : Int32).toInt := by rw [e_495]; rfl
      rw [fe_526] at x_523
      clear fe_526
      try simp only [Int32.reduceToInt, Int64.reduceToInt] at x_523
      refine v_if_eq hC dX12_losses_20 (tgt := 37) (by decide) (fun h_527 => ?_) (fun h_527 => ?_)
      · simp only [Int32.lt_iff_toInt_lt, Int32.le_iff_toInt_le, Int32.reduceToInt, ← Int32.toInt_inj] at h_527
        have g0_528 := gd_f x_523 h_527
        clear x_523
        refine v_aload_n hC dX12_losses_37 rfl ?_
        refine v_vi hC (rest := []) m_1 e_495 rfl mi_X12_good ms_X12_good (p_X12_good hW_483 k_0) mx_X12_good ml_X12_139 (by decide) rfl (cells1 := 0) (slots1 := 0) (by decide) (by decide) (Nat.le_of_ble_eq_true rfl) (Nat.le_of_ble_eq_true rfl) rfl (Nat.le_of_ble_eq_true rfl) dX12_losses_38 (fun r_531 L_532 f_533 h_534 => ?_)
        obtain ⟨rfl, rfl, b_535, x_536⟩ := h_534
        have fe_539 : fld (f_482 a_0) 12 = (v_508 : Int32).toInt := by rw [e_495]; rfl
        rw [fe_539] at x_536
        clear fe_539
        try simp only [Int32.reduceToInt, Int64.reduceToInt] at x_536
        refine v_if_ne_f hC dX12_losses_41 (tgt := 47) (by decide) (gdb_z x_536 g0_528) ?_
        refine v_bipush hC dX12_losses_44 (v := (-4)) (by decide) ?_
        exact hR _ _ _ _ _ _ _ dX12_losses_46 rfl (Nat.le_of_ble_eq_true rfl) (Nat.le_of_ble_eq_true rfl) ⟨rfl, hW_483, ((((hF_49.tr fr_86).tr hF_95).tr hF_484).mono rfl)⟩
      · simp only [Int32.lt_iff_toInt_lt, Int32.le_iff_toInt_le, Int32.reduceToInt, ← Int32.toInt_inj] at h_527
        have nb_529 : (1 ≤ r_518.toInt ∧ r_518.toInt ≤ 1) := by omega
        have g0_530 := gd_t x_523 h_527
        clear x_523
        refine v_aload_n hC dX12_losses_23 rfl ?_
        refine v_get hC fl_X12_120 m_1 e_495 rfl dX12_losses_24 ?_
        refine v_if_eq hC dX12_losses_27 (tgt := 37) (by decide) (fun h_540 => ?_) (fun h_540 => ?_)
        · simp only [Int32.lt_iff_toInt_lt, Int32.le_iff_toInt_le, Int32.reduceToInt, ← Int32.toInt_inj] at h_540
          refine v_aload_n hC dX12_losses_37 rfl ?_
          refine v_vi hC (rest := []) m_1 e_495 rfl mi_X12_good ms_X12_good (p_X12_good hW_483 k_0) mx_X12_good ml_X12_139 (by decide) rfl (cells1 := 0) (slots1 := 0) (by decide) (by decide) (Nat.le_of_ble_eq_true rfl) (Nat.le_of_ble_eq_true rfl) rfl (Nat.le_of_ble_eq_true rfl) dX12_losses_38 (fun r_542 L_543 f_544 h_545 => ?_)
          obtain ⟨rfl, rfl, b_546, x_547⟩ := h_545
          have fe_550 : fld (f_482 a_0) 12 = (v_508 : Int32).toInt := by rw [e_495]; rfl
          rw [fe_550] at x_547
          clear fe_550
          try simp only [Int32.reduceToInt, Int64.reduceToInt] at x_547
          refine v_if_ne_t hC dX12_losses_41 (tgt := 47) (by decide) (gdb_n x_547 g0_530) ?_
          obtain ⟨m_551, t_552⟩ := id k_3
          obtain ⟨g_554, e_553, ok_555⟩ := hW_483.at m_551 t_552
          have b_556 := ok_555.r0
          have b_557 := ok_555.w0
          refine v_aload_n hC dX12_losses_47 rfl ?_
          refine v_get hC fl_X12_13 m_1 e_495 rfl dX12_losses_48 ?_
          refine v_bipush hC dX12_losses_51 (v := 6) (by decide) ?_
          refine v_aload_n hC dX12_losses_53 rfl ?_
          refine v_get hC fl_X12_34 m_1 e_495 rfl dX12_losses_54 ?_
          refine v_bipush hC dX12_losses_57 (v := 6) (by decide) ?_
          refine v_iald hC m_73 e_491 (vp_in_iff.mpr (by decide)) (v := g_490 6) rfl dX12_losses_59 ?_
          refine v_iast hC m_551 e_553 (vp_in_iff.mpr (by decide)) dX12_losses_60 (fun f_558 hf_559 hk_560 => ?_)
          have hf_561 := (hk_560 a_0 (ne_kd e_495 e_553 rfl)).trans e_495
          have hf_562 := (hk_560 (q 14) nq_21.symm).trans e_491
          refine v_aload_n hC dX12_losses_61 rfl ?_
          refine v_sipush hC dX12_losses_62 (v := 1012) (by decide) ?_
          refine v_sipush hC dX12_losses_65 (v := 1048) (by decide) ?_
          refine v_vv hC (rest := []) m_1 hf_561 rfl mi_X12_keeps ms_X12_keeps (p_X12_keeps k_0 hf_561 hf_559 hf_562 (by decide)) mx_X12_keeps ml_X12_197 (by decide) rfl (cells1 := 0) (slots1 := 0) (by decide) (by decide) (Nat.le_of_ble_eq_true rfl) (Nat.le_of_ble_eq_true rfl) rfl (Nat.le_of_ble_eq_true rfl) dX12_losses_68 (fun L_564 f_565 h_566 => ?_)
          obtain ⟨rfl, hf_567, hk_568⟩ := h_566
          have hf_569 := (hk_568 a_0 (ne_kd hf_561 hf_559 rfl)).trans hf_561
          have hf_570 := (hk_568 (q 14) nq_21.symm).trans hf_562
          have kr_571 : ∀ x9, x9 ≠ (q 1) → f_565 x9 = f_482 x9 := fun x9 hx9 => (hk_568 x9 hx9).trans (hk_560 x9 hx9)
          obtain ⟨g_574, e_575, ok_573, eg_576⟩ : ∃ g9, f_565 (q 1) = aI E 2076 g9 ∧ WOK g9 ∧ g9 = (va_cpy g_490 (upd g_554 6 (g_490 6)) (1012 : Int32).toNatClampNeg (1012 : Int32).toNatClampNeg ((1048 : Int32).toNatClampNeg - (1012 : Int32).toNatClampNeg)) := ⟨_, hf_567, (ok_555.losx (by omega) (lo_494.resolve_left (fun h9 => h9 g0_530))), rfl⟩
          have hW_572 := hW_483.up e_575 kr_571 t_552 ⟨_, rfl, ok_573⟩
          have fr_577 := FR.w kr_571 e_553 (k := 2176) rfl
          have b_578 := ok_573.r0
          have b_579 := ok_573.w0
          refine v_aload_n hC dX12_losses_71 rfl ?_
          refine v_get hC fl_X12_13 m_1 hf_569 rfl dX12_losses_72 ?_
          refine v_bipush hC dX12_losses_75 (v := 6) (by decide) ?_
          refine v_iald hC m_551 e_575 (vp_in_iff.mpr (by decide)) (v := g_574 6) rfl dX12_losses_77 ?_
          exact hR _ _ _ _ _ _ _ dX12_losses_78 rfl (Nat.le_of_ble_eq_true rfl) (Nat.le_of_ble_eq_true rfl) ⟨rfl, hW_572, (((((hF_49.tr fr_86).tr hF_95).tr hF_484).tr fr_577).mono rfl)⟩
        · simp only [Int32.lt_iff_toInt_lt, Int32.le_iff_toInt_le, Int32.reduceToInt, ← Int32.toInt_inj] at h_540
          have nb_541 : (1 ≤ v_505.toInt ∧ v_505.toInt ≤ 4) := by omega
          refine v_aload_n hC dX12_losses_30 rfl ?_
          refine v_vv hC (rest := []) m_1 e_495 rfl mi_X12_readLoss ms_X12_readLoss (p_X12_readLoss hW_483 k_0 e_491 ok_492 (by first | omega | (simp only [Int32.lt_iff_toInt_lt, Int32.le_iff_toInt_le, Int32.reduceToInt, ← Int32.toInt_inj, true_and, and_true, or_true, true_or, false_or, or_false, false_and, and_false, not_true_eq_false, not_false_eq_true] <;> omega)) (lo_494.resolve_left (fun h9 => h9 g0_530))) mx_X12_readLoss ml_X12_298 (by decide) rfl (cells1 := 0) (slots1 := 0) (by decide) (by decide) (Nat.le_of_ble_eq_true rfl) (Nat.le_of_ble_eq_true rfl) rfl (Nat.le_of_ble_eq_true rfl) dX12_losses_31 (fun L_581 f_582 h_583 => ?_)
          obtain ⟨rfl, hW_586, hF_587, x_584, x_585⟩ := h_583
          have fe_588 : fld (f_482 a_0) 8 = (v_501 : Int32).toInt := by rw [e_495]; rfl
          have fe_589 : fld (f_482 a_0) 12 = (v_508 : Int32).toInt := by rw [e_495]; rfl
          obtain ⟨v_591, v_592, v_594, v_596, v_598, v_600, v_602, v_603, v_604, v_605, v_607, e_590, b_593, b_595, b_597, b_599, b_601, b_606, b_608⟩ := hW_586.at m_1 t_2
          have fe_609 : fld (f_582 a_0) 8 = (v_596 : Int32).toInt := by rw [e_590]; rfl
          have fe_610 : fld (f_582 a_0) 12 = (v_603 : Int32).toInt := by rw [e_590]; rfl
          rw [fe_610] at x_584
          rw [fe_610, fe_589, fe_588, fe_609] at x_585
          clear fe_588 fe_589 fe_609 fe_610
          obtain ⟨g_611, e_612, ok_613, bl_614, lo_615⟩ := x_584
          refine v_goto hC dX12_losses_34 (tgt := 16) (by decide) ?_
          refine v_pick [0] rfl ?_
          have fe_616 : fld (f_582 a_0) 12 = (v_603 : Int32).toInt := by rw [e_590]; rfl
          have gb_617 := gm_b (f_582 a_0)
          have fe_618 : fld (f_582 a_0) 8 = (v_596 : Int32).toInt := by rw [e_590]; rfl
          have fe_619 : fld (f_582 a_0) 12 = (v_603 : Int32).toInt := by rw [e_590]; rfl
          rw [fe_618, fe_619] at gb_617
          exact ih_488 f_582 hW_586 ((hF_484.tr hF_587).mono rfl) ⟨_, e_612, ok_613, (by omega), (by rw [fe_616]; exact lo_615)⟩ (by omega)
  refine v_pick [0] rfl ?_
  have fe_620 : fld (f_91 a_0) 12 = (v_111 : Int32).toInt := by rw [e_98]; rfl
  have gb_621 := gm_b (f_91 a_0)
  have fe_622 : fld (f_91 a_0) 8 = (v_104 : Int32).toInt := by rw [e_98]; rfl
  have fe_623 : fld (f_91 a_0) 12 = (v_111 : Int32).toInt := by rw [e_98]; rfl
  rw [fe_622, fe_623] at gb_621
  exact lp_486 700 f_91 hW_94 FR.rf ⟨_, hf_97, ok_83, (by omega), .inr lo_88⟩ (by omega)
