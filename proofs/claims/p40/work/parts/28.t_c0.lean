set_option maxRecDepth 100000 in
set_option maxHeartbeats 8000000 in
theorem p_X7_hasRoomFor {l : Launch} {E : Ez} {L : List Nat} {f : Nat → va_E} {T : Nat → va_E → Prop} {a_0 : Nat} {a_1 : Int32} (hW : WT T L f) (k_0 : isTape T L E a_0) : CI l yX7_hasRoomFor cX7_hasRoomFor 2 .boolean 0 0 0 E [.ref a_0, .int a_1] L f (fun r L1 f1 => L = L1 ∧ f = f1 ∧ (0 ≤ r.toInt ∧ r.toInt ≤ 1)) := by
  refine ci_of (by decide) (Nat.le_of_ble_eq_true rfl) (fun z hz hnm hC hR => ?_)
  have hC : Cx z E cX7_hasRoomFor RX7 2 0 0 0 := hC
  subst hz
  show V z E 2 0 0 L f 0 [(0, .ref a_0), (1, .int a_1)] []
  refine v_aload_n hC dX7_hasRoomFor_0 rfl ?_
  obtain ⟨m_1, q_3, t_2, k_4⟩ := id k_0
  obtain ⟨v_6, v_8, v_9, v_11, v_13, v_14, e_5, b_7, b_10, b_12⟩ := hW.at m_1 t_2
  refine v_get hC fl_X7_19 m_1 e_5 rfl dX7_hasRoomFor_1 ?_
  refine v_iload_n hC dX7_hasRoomFor_4 rfl ?_
  obtain ⟨v_15, h_16⟩ : ∃ v9 : Int32, v_6 + a_1 = v9 := ⟨_, rfl⟩
  refine v_iadd hC dX7_hasRoomFor_5 h_16 ?_
  refine v_sipush hC dX7_hasRoomFor_6 (v := 600) (by decide) ?_
  refine v_icmp_gt hC dX7_hasRoomFor_9 (tgt := 16) (by decide) (fun h_18 => ?_) (fun h_18 => ?_)
  · simp only [Int32.lt_iff_toInt_lt, Int32.le_iff_toInt_le, Int32.reduceToInt, ← Int32.toInt_inj] at h_18
    refine v_iconst hC dX7_hasRoomFor_16 (v := 0) (by decide) ?_
    exact hR _ _ _ _ _ _ _ dX7_hasRoomFor_17 rfl (Nat.le_of_ble_eq_true rfl) (Nat.le_of_ble_eq_true rfl) ⟨rfl, rfl, (by decide)⟩
  · simp only [Int32.lt_iff_toInt_lt, Int32.le_iff_toInt_le, Int32.reduceToInt, ← Int32.toInt_inj] at h_18
    refine v_iconst hC dX7_hasRoomFor_12 (v := 1) (by decide) ?_
    refine v_goto hC dX7_hasRoomFor_13 (tgt := 17) (by decide) ?_
    exact hR _ _ _ _ _ _ _ dX7_hasRoomFor_17 rfl (Nat.le_of_ble_eq_true rfl) (Nat.le_of_ble_eq_true rfl) ⟨rfl, rfl, (by decide)⟩
set_option maxRecDepth 100000 in
set_option maxHeartbeats 8000000 in
theorem p_X7_addBytesOf {l : Launch} {E : Ez} {L : List Nat} {f : Nat → va_E} {T : Nat → va_E → Prop} {a_0 : Nat} {a_1 : Int32} (hW : WT T L f) (k_0 : isTape T L E a_0) : CV l yX7_addBytesOf cX7_addBytesOf 3 0 0 0 E [.ref a_0, .int a_1] L f (fun L1 f1 => L = L1 ∧ WT T L f1 ∧ FR [7, 700] f f1) := by
  refine cv_of (by decide) (Nat.le_of_ble_eq_true rfl) (fun z hz hnm hC hR => ?_)
  have hC : Cx z E cX7_addBytesOf RX7 3 0 0 0 := hC
  subst hz
  show V z E 3 0 0 L f 0 [(0, .ref a_0), (1, .int a_1)] []
  refine v_bipush hC dX7_addBytesOf_0 (v := 24) (by decide) ?_
  refine v_istore_n hC dX7_addBytesOf_2 (by decide) (lv' := [(2, .int 24), (0, .ref a_0), (1, .int a_1)]) rfl ?_
  have lp_263 : ∀ (n_264 : Nat) (f_259 : Nat → va_E) (hW_260 : WT T L f_259) (hF_261 : FR [7, 700] f f_259) (i_258 : Int32) (b_262 : ((-8) ≤ i_258.toInt ∧ i_258.toInt ≤ 24)) (hm_266 : i_258.toInt - (-8) < (n_264 : Int)), V z E 3 0 0 L f_259 3 [(2, .int i_258), (0, .ref a_0), (1, .int a_1)] [] := by
    intro n_264
    induction n_264 with
    | zero =>
      intro f_259 hW_260 hF_261 i_258 b_262 hm_266
      exfalso; omega
    | succ n_264 ih_265 =>
      intro f_259 hW_260 hF_261 i_258 b_262 hm_266
      refine v_iload_n hC dX7_addBytesOf_3 rfl ?_
      refine v_if_lt hC dX7_addBytesOf_4 (tgt := 51) (by decide) (fun h_267 => ?_) (fun h_267 => ?_)
      · simp only [Int32.lt_iff_toInt_lt, Int32.le_iff_toInt_le, Int32.reduceToInt, ← Int32.toInt_inj] at h_267
        exact hR _ _ _ _ _ _ dX7_addBytesOf_51 (Nat.le_of_ble_eq_true rfl) (Nat.le_of_ble_eq_true rfl) ⟨rfl, hW_260, (hF_261.mono rfl)⟩
      · simp only [Int32.lt_iff_toInt_lt, Int32.le_iff_toInt_le, Int32.reduceToInt, ← Int32.toInt_inj] at h_267
        refine v_aload_n hC dX7_addBytesOf_7 rfl ?_
        obtain ⟨m_268, q_270, t_269, k_271⟩ := id k_0
        obtain ⟨v_273, v_275, v_276, v_278, v_280, v_281, e_272, b_274, b_277, b_279⟩ := hW_260.at m_268 t_269
        refine v_get hC fl_X7_19 m_268 e_272 rfl dX7_addBytesOf_8 ?_
        refine v_aload_n hC dX7_addBytesOf_11 rfl ?_
        refine v_get hC fl_X7_9 m_268 e_272 rfl dX7_addBytesOf_12 ?_
        obtain ⟨m_282, t_283⟩ := id k_271
        obtain ⟨g_285, e_284⟩ := hW_260.at m_282 t_283
        refine v_alen hC m_282 e_284 (t := 1) rfl (v := 600) rfl dX7_addBytesOf_15 ?_
        refine v_icmp_ge hC dX7_addBytesOf_16 (tgt := 45) (by decide) (fun h_286 => ?_) (fun h_286 => ?_)
        · simp only [Int32.lt_iff_toInt_lt, Int32.le_iff_toInt_le, Int32.reduceToInt, ← Int32.toInt_inj] at h_286
          obtain ⟨v_287, h_288⟩ : ∃ v9 : Int32, i_258 + Int32.ofInt (-8) = v9 := ⟨_, rfl⟩
          have h_289 := add_v (b := (-8)) h_288 (by first | omega | (simp only [Int32.lt_iff_toInt_lt, Int32.le_iff_toInt_le, Int32.reduceToInt, ← Int32.toInt_inj, true_and, and_true, or_true, true_or, false_or, or_false, false_and, and_false, not_true_eq_false, not_false_eq_true] <;> omega)) (by first | omega | (simp only [Int32.lt_iff_toInt_lt, Int32.le_iff_toInt_le, Int32.reduceToInt, ← Int32.toInt_inj, true_and, and_true, or_true, true_or, false_or, or_false, false_and, and_false, not_true_eq_false, not_false_eq_true] <;> omega))
          simp only [Int32.reduceToInt] at h_289
          refine v_iinc hC dX7_addBytesOf_45 (k := 0) rfl (v := v_287) h_288 (by decide) (lv' := [(2, .int v_287), (0, .ref a_0), (1, .int a_1)]) rfl ?_
          refine v_goto hC dX7_addBytesOf_48 (tgt := 3) (by decide) ?_
          refine v_pick [0, 1, 2] rfl ?_
          exact ih_265 f_259 hW_260 (hF_261.mono rfl) v_287 (by first | omega | (simp only [Int32.lt_iff_toInt_lt, Int32.le_iff_toInt_le, Int32.reduceToInt, ← Int32.toInt_inj, true_and, and_true, or_true, true_or, false_or, or_false, false_and, and_false, not_true_eq_false, not_false_eq_true] <;> omega)) (by first | omega | (simp only [Int32.lt_iff_toInt_lt, Int32.le_iff_toInt_le, Int32.reduceToInt, ← Int32.toInt_inj, true_and, and_true, or_true, true_or, false_or, or_false, false_and, and_false, not_true_eq_false, not_false_eq_true] <;> omega))
        · simp only [Int32.lt_iff_toInt_lt, Int32.le_iff_toInt_le, Int32.reduceToInt, ← Int32.toInt_inj] at h_286
          refine v_aload_n hC dX7_addBytesOf_19 rfl ?_
          refine v_get hC fl_X7_9 m_268 e_272 rfl dX7_addBytesOf_20 ?_
          refine v_aload_n hC dX7_addBytesOf_23 rfl ?_
          refine v_get hC fl_X7_19 m_268 e_272 rfl dX7_addBytesOf_24 ?_
          refine v_iload_n hC dX7_addBytesOf_27 rfl ?_
          refine v_iload_n hC dX7_addBytesOf_28 rfl ?_
          obtain ⟨v_290, h_291⟩ : ∃ v9 : Int32, ((a_1 : Int32).toUInt32 >>> ((i_258 : Int32).toUInt32 &&& Int32.toUInt32 31)).toInt32 = v9 := ⟨_, rfl⟩
          refine v_iushr hC dX7_addBytesOf_29 h_291 ?_
          refine v_sipush hC dX7_addBytesOf_30 (v := 255) (by decide) ?_
          obtain ⟨v_292, h_293⟩ : ∃ v9 : Int32, v_290 &&& 255 = v9 := ⟨_, rfl⟩
          refine v_iand hC dX7_addBytesOf_33 h_293 ?_
          have h_294 := and_v h_293 (by decide)
          try simp only [Int32.reduceToInt] at h_294
          refine v_iast hC m_282 e_284 (vp_in_iff.mpr (by first | omega | (simp only [Int32.lt_iff_toInt_lt, Int32.le_iff_toInt_le, Int32.reduceToInt, ← Int32.toInt_inj, true_and, and_true, or_true, true_or, false_or, or_false, false_and, and_false, not_true_eq_false, not_false_eq_true] <;> omega))) dX7_addBytesOf_34 (fun f_295 hf_296 hk_297 => ?_)
          have hW_299 := hW_260.up hf_296 hk_297 t_283 ⟨_, rfl⟩
          obtain ⟨g_298, hf_296⟩ : ∃ g9, f_295 q_270 = aI E 600 g9 := ⟨_, hf_296⟩
          have hf_300 := (hk_297 a_0 (ne_kd e_272 e_284 rfl)).trans e_272
          have fr_301 := FR.w hk_297 e_284 (k := 700) rfl
          refine v_aload_n hC dX7_addBytesOf_35 rfl ?_
          refine v_dup hC dX7_addBytesOf_36 rfl ?_
          refine v_get hC fl_X7_19 m_268 hf_300 rfl dX7_addBytesOf_37 ?_
          refine v_iconst hC dX7_addBytesOf_40 (v := 1) (by decide) ?_
          obtain ⟨v_302, h_303⟩ : ∃ v9 : Int32, v_273 + 1 = v9 := ⟨_, rfl⟩
          refine v_iadd hC dX7_addBytesOf_41 h_303 ?_
          have h_304 := add_v h_303 (by first | omega | (simp only [Int32.lt_iff_toInt_lt, Int32.le_iff_toInt_le, Int32.reduceToInt, ← Int32.toInt_inj, true_and, and_true, or_true, true_or, false_or, or_false, false_and, and_false, not_true_eq_false, not_false_eq_true] <;> omega)) (by first | omega | (simp only [Int32.lt_iff_toInt_lt, Int32.le_iff_toInt_le, Int32.reduceToInt, ← Int32.toInt_inj, true_and, and_true, or_true, true_or, false_or, or_false, false_and, and_false, not_true_eq_false, not_false_eq_true] <;> omega))
          try simp only [Int32.reduceToInt] at h_304
          refine v_put hC fl_X7_19 m_268 hf_300 rfl rfl (Nat.le_of_ble_eq_true rfl) (fs' := [.ref q_270, .int v_302, .int v_275, .int v_276, .int v_278, .int v_280, .int v_281]) rfl dX7_addBytesOf_42 (fun f_305 hf_306 hk_307 => ?_)
          have hW_308 := hW_299.up hf_306 hk_307 t_269 ⟨v_302, v_275, v_276, v_278, v_280, v_281, rfl, (by first | omega | (simp only [Int32.lt_iff_toInt_lt, Int32.le_iff_toInt_le, Int32.reduceToInt, ← Int32.toInt_inj, true_and, and_true, or_true, true_or, false_or, or_false, false_and, and_false, not_true_eq_false, not_false_eq_true] <;> omega)), (by first | omega | (simp only [Int32.lt_iff_toInt_lt, Int32.le_iff_toInt_le, Int32.reduceToInt, ← Int32.toInt_inj, true_and, and_true, or_true, true_or, false_or, or_false, false_and, and_false, not_true_eq_false, not_false_eq_true] <;> omega)), (by first | omega | (simp only [Int32.lt_iff_toInt_lt, Int32.le_iff_toInt_le, Int32.reduceToInt, ← Int32.toInt_inj, true_and, and_true, or_true, true_or, false_or, or_false, false_and, and_false, not_true_eq_false, not_false_eq_true] <;> omega))⟩
          have hf_309 := (hk_307 q_270 (ne_kd hf_296 hf_300 rfl)).trans hf_296
          have fr_310 := FR.w hk_307 hf_300 (k := 7) rfl
          obtain ⟨v_311, h_312⟩ : ∃ v9 : Int32, i_258 + Int32.ofInt (-8) = v9 := ⟨_, rfl⟩
          have h_313 := add_v (b := (-8)) h_312 (by first | omega | (simp only [Int32.lt_iff_toInt_lt, Int32.le_iff_toInt_le, Int32.reduceToInt, ← Int32.toInt_inj, true_and, and_true, or_true, true_or, false_or, or_false, false_and, and_false, not_true_eq_false, not_false_eq_true] <;> omega)) (by first | omega | (simp only [Int32.lt_iff_toInt_lt, Int32.le_iff_toInt_le, Int32.reduceToInt, ← Int32.toInt_inj, true_and, and_true, or_true, true_or, false_or, or_false, false_and, and_false, not_true_eq_false, not_false_eq_true] <;> omega))
          simp only [Int32.reduceToInt] at h_313
          refine v_iinc hC dX7_addBytesOf_45 (k := 0) rfl (v := v_311) h_312 (by decide) (lv' := [(2, .int v_311), (0, .ref a_0), (1, .int a_1)]) rfl ?_
          refine v_goto hC dX7_addBytesOf_48 (tgt := 3) (by decide) ?_
          refine v_pick [0, 1, 2] rfl ?_
          exact ih_265 f_305 hW_308 (((hF_261.tr fr_301).tr fr_310).mono rfl) v_311 (by first | omega | (simp only [Int32.lt_iff_toInt_lt, Int32.le_iff_toInt_le, Int32.reduceToInt, ← Int32.toInt_inj, true_and, and_true, or_true, true_or, false_or, or_false, false_and, and_false, not_true_eq_false, not_false_eq_true] <;> omega)) (by first | omega | (simp only [Int32.lt_iff_toInt_lt, Int32.le_iff_toInt_le, Int32.reduceToInt, ← Int32.toInt_inj, true_and, and_true, or_true, true_or, false_or, or_false, false_and, and_false, not_true_eq_false, not_false_eq_true] <;> omega))
  refine v_pick [0, 1, 2] rfl ?_
  exact lp_263 34 f hW FR.rf 24 (by decide) (by decide)
set_option maxRecDepth 100000 in
set_option maxHeartbeats 8000000 in
theorem p_X7_empty {l : Launch} {E : Ez} {L : List Nat} {f : Nat → va_E} {T : Nat → va_E → Prop} {a_0 : Nat} (hW : WT T L f) (k_0 : isTape T L E a_0) : CV l yX7_empty cX7_empty 1 0 0 0 E [.ref a_0] L f (fun L1 f1 => L = L1 ∧ WT T L f1 ∧ FR [7] f f1) := by
  refine cv_of (by decide) (Nat.le_of_ble_eq_true rfl) (fun z hz hnm hC hR => ?_)
  have hC : Cx z E cX7_empty RX7 1 0 0 0 := hC
  subst hz
  show V z E 1 0 0 L f 0 [(0, .ref a_0)] []
  refine v_aload_n hC dX7_empty_0 rfl ?_
  refine v_iconst hC dX7_empty_1 (v := 0) (by decide) ?_
  obtain ⟨m_1, q_3, t_2, k_4⟩ := id k_0
  obtain ⟨v_6, v_8, v_9, v_11, v_13, v_14, e_5, b_7, b_10, b_12⟩ := hW.at m_1 t_2
  refine v_put hC fl_X7_19 m_1 e_5 rfl rfl (Nat.le_of_ble_eq_true rfl) (fs' := [.ref q_3, .int 0, .int v_8, .int v_9, .int v_11, .int v_13, .int v_14]) rfl dX7_empty_2 (fun f_15 hf_16 hk_17 => ?_)
  have hW_18 := hW.up hf_16 hk_17 t_2 ⟨0, v_8, v_9, v_11, v_13, v_14, rfl, (by decide), (by first | omega | (simp only [Int32.lt_iff_toInt_lt, Int32.le_iff_toInt_le, Int32.reduceToInt, ← Int32.toInt_inj, true_and, and_true, or_true, true_or, false_or, or_false, false_and, and_false, not_true_eq_false, not_false_eq_true] <;> omega)), (by first | omega | (simp only [Int32.lt_iff_toInt_lt, Int32.le_iff_toInt_le, Int32.reduceToInt, ← Int32.toInt_inj, true_and, and_true, or_true, true_or, false_or, or_false, false_and, and_false, not_true_eq_false, not_false_eq_true] <;> omega))⟩
  have fr_19 := FR.w hk_17 e_5 (k := 7) rfl
  exact hR _ _ _ _ _ _ dX7_empty_5 (Nat.le_of_ble_eq_true rfl) (Nat.le_of_ble_eq_true rfl) ⟨rfl, hW_18, (fr_19.mono rfl)⟩
set_option maxRecDepth 100000 in
set_option maxHeartbeats 8000000 in
theorem p_X7_byteAt {l : Launch} {E : Ez} {L : List Nat} {f : Nat → va_E} {T : Nat → va_E → Prop} {a_0 : Nat} {a_1 : Int32} (hW : WT T L f) (k_0 : isTape T L E a_0) : CI l yX7_byteAt cX7_byteAt 2 .int 0 0 0 E [.ref a_0, .int a_1] L f (fun r L1 f1 => L = L1 ∧ f = f1 ∧ (¬ r.toInt = 0 ∨ (0 ≤ a_1.toInt ∧ a_1.toInt ≤ 599))) := by
  refine ci_of (by decide) (Nat.le_of_ble_eq_true rfl) (fun z hz hnm hC hR => ?_)
  have hC : Cx z E cX7_byteAt RX7 2 0 0 0 := hC
  subst hz
  show V z E 2 0 0 L f 0 [(0, .ref a_0), (1, .int a_1)] []
  refine v_iload_n hC dX7_byteAt_0 rfl ?_
  refine v_if_lt hC dX7_byteAt_1 (tgt := 30) (by decide) (fun h_1 => ?_) (fun h_1 => ?_)
  · simp only [Int32.lt_iff_toInt_lt, Int32.le_iff_toInt_le, Int32.reduceToInt, ← Int32.toInt_inj] at h_1
    refine v_iconst hC dX7_byteAt_30 (v := (-1)) (by decide) ?_
    exact hR _ _ _ _ _ _ _ dX7_byteAt_31 rfl (Nat.le_of_ble_eq_true rfl) (Nat.le_of_ble_eq_true rfl) ⟨rfl, rfl, (.inl (by decide))⟩
  · simp only [Int32.lt_iff_toInt_lt, Int32.le_iff_toInt_le, Int32.reduceToInt, ← Int32.toInt_inj] at h_1
    refine v_iload_n hC dX7_byteAt_4 rfl ?_
    refine v_aload_n hC dX7_byteAt_5 rfl ?_
    obtain ⟨m_2, q_4, t_3, k_5⟩ := id k_0
    obtain ⟨v_7, v_9, v_10, v_12, v_14, v_15, e_6, b_8, b_11, b_13⟩ := hW.at m_2 t_3
    refine v_get hC fl_X7_19 m_2 e_6 rfl dX7_byteAt_6 ?_
    refine v_icmp_ge hC dX7_byteAt_9 (tgt := 30) (by decide) (fun h_16 => ?_) (fun h_16 => ?_)
    · simp only [Int32.lt_iff_toInt_lt, Int32.le_iff_toInt_le, Int32.reduceToInt, ← Int32.toInt_inj] at h_16
      refine v_iconst hC dX7_byteAt_30 (v := (-1)) (by decide) ?_
      exact hR _ _ _ _ _ _ _ dX7_byteAt_31 rfl (Nat.le_of_ble_eq_true rfl) (Nat.le_of_ble_eq_true rfl) ⟨rfl, rfl, (.inl (by decide))⟩
    · simp only [Int32.lt_iff_toInt_lt, Int32.le_iff_toInt_le, Int32.reduceToInt, ← Int32.toInt_inj] at h_16
      refine v_iload_n hC dX7_byteAt_12 rfl ?_
      refine v_aload_n hC dX7_byteAt_13 rfl ?_
      refine v_get hC fl_X7_9 m_2 e_6 rfl dX7_byteAt_14 ?_
      obtain ⟨m_17, t_18⟩ := id k_5
      obtain ⟨g_20, e_19⟩ := hW.at m_17 t_18
      refine v_alen hC m_17 e_19 (t := 1) rfl (v := 600) rfl dX7_byteAt_17 ?_
      refine v_icmp_ge_f hC dX7_byteAt_18 (tgt := 30) (by decide) (by first | omega | (simp only [Int32.lt_iff_toInt_lt, Int32.le_iff_toInt_le, Int32.reduceToInt, ← Int32.toInt_inj, true_and, and_true, or_true, true_or, false_or, or_false, false_and, and_false, not_true_eq_false, not_false_eq_true] <;> omega)) ?_
      refine v_aload_n hC dX7_byteAt_21 rfl ?_
      refine v_get hC fl_X7_9 m_2 e_6 rfl dX7_byteAt_22 ?_
      refine v_iload_n hC dX7_byteAt_25 rfl ?_
      obtain ⟨v_21, h_22⟩ : ∃ v9 : Int32, g_20 (a_1 : Int32).toNatClampNeg = v9 := ⟨_, rfl⟩
      refine v_iald hC m_17 e_19 (vp_in_iff.mpr (by first | omega | (simp only [Int32.lt_iff_toInt_lt, Int32.le_iff_toInt_le, Int32.reduceToInt, ← Int32.toInt_inj, true_and, and_true, or_true, true_or, false_or, or_false, false_and, and_false, not_true_eq_false, not_false_eq_true] <;> omega))) h_22 dX7_byteAt_26 ?_
      refine v_goto hC dX7_byteAt_27 (tgt := 31) (by decide) ?_
      exact hR _ _ _ _ _ _ _ dX7_byteAt_31 rfl (Nat.le_of_ble_eq_true rfl) (Nat.le_of_ble_eq_true rfl) ⟨rfl, rfl, (.inr (by first | omega | (simp only [Int32.lt_iff_toInt_lt, Int32.le_iff_toInt_le, Int32.reduceToInt, ← Int32.toInt_inj, true_and, and_true, or_true, true_or, false_or, or_false, false_and, and_false, not_true_eq_false, not_false_eq_true] <;> omega)))⟩
set_option maxRecDepth 100000 in
set_option maxHeartbeats 8000000 in
theorem p_X7_isFine {l : Launch} {E : Ez} {L : List Nat} {f : Nat → va_E} {T : Nat → va_E → Prop} {a_0 : Nat} (hW : WT T L f) (k_0 : isTape T L E a_0) : CI l yX7_isFine cX7_isFine 1 .boolean 0 0 0 E [.ref a_0] L f (fun r L1 f1 => L = L1 ∧ f = f1 ∧ (0 ≤ r.toInt ∧ r.toInt ≤ 1)) := by
  refine ci_of (by decide) (Nat.le_of_ble_eq_true rfl) (fun z hz hnm hC hR => ?_)
  have hC : Cx z E cX7_isFine RX7 1 0 0 0 := hC
  subst hz
  show V z E 1 0 0 L f 0 [(0, .ref a_0)] []
  refine v_aload_n hC dX7_isFine_0 rfl ?_
  obtain ⟨m_1, q_3, t_2, k_4⟩ := id k_0
  obtain ⟨v_6, v_8, v_9, v_11, v_13, v_14, e_5, b_7, b_10, b_12⟩ := hW.at m_1 t_2
  refine v_get hC fl_X7_22 m_1 e_5 rfl dX7_isFine_1 ?_
  refine v_if_ne hC dX7_isFine_4 (tgt := 11) (by decide) (fun h_15 => ?_) (fun h_15 => ?_)
  · simp only [Int32.lt_iff_toInt_lt, Int32.le_iff_toInt_le, Int32.reduceToInt, ← Int32.toInt_inj] at h_15
    refine v_iconst hC dX7_isFine_11 (v := 0) (by decide) ?_
    exact hR _ _ _ _ _ _ _ dX7_isFine_12 rfl (Nat.le_of_ble_eq_true rfl) (Nat.le_of_ble_eq_true rfl) ⟨rfl, rfl, (by decide)⟩
  · simp only [Int32.lt_iff_toInt_lt, Int32.le_iff_toInt_le, Int32.reduceToInt, ← Int32.toInt_inj] at h_15
    refine v_iconst hC dX7_isFine_7 (v := 1) (by decide) ?_
    refine v_goto hC dX7_isFine_8 (tgt := 12) (by decide) ?_
    exact hR _ _ _ _ _ _ _ dX7_isFine_12 rfl (Nat.le_of_ble_eq_true rfl) (Nat.le_of_ble_eq_true rfl) ⟨rfl, rfl, (by decide)⟩
set_option maxRecDepth 100000 in
set_option maxHeartbeats 8000000 in
theorem p_X7_isBlank {l : Launch} {E : Ez} {L : List Nat} {f : Nat → va_E} {T : Nat → va_E → Prop} {a_0 : Int32} (hW : WT T L f) : CI l yX7_isBlank cX7_isBlank 1 .boolean 0 0 0 E [.int a_0] L f (fun r L1 f1 => L = L1 ∧ f = f1 ∧ (0 ≤ r.toInt ∧ r.toInt ≤ 1) ∧ (r.toInt = 0 ∨ (10 ≤ a_0.toInt ∧ a_0.toInt ≤ 32))) := by
  refine ci_of (by decide) (Nat.le_of_ble_eq_true rfl) (fun z hz hnm hC hR => ?_)
  have hC : Cx z E cX7_isBlank RX7 1 0 0 0 := hC
  subst hz
  show V z E 1 0 0 L f 0 [(0, .int a_0)] []
  refine v_iload_n hC dX7_isBlank_0 rfl ?_
  refine v_bipush hC dX7_isBlank_1 (v := 32) (by decide) ?_
  refine v_icmp_eq hC dX7_isBlank_3 (tgt := 12) (by decide) (fun h_1 => ?_) (fun h_1 => ?_)
  · simp only [Int32.lt_iff_toInt_lt, Int32.le_iff_toInt_le, Int32.reduceToInt, ← Int32.toInt_inj] at h_1
    refine v_iconst hC dX7_isBlank_12 (v := 1) (by decide) ?_
    refine v_goto hC dX7_isBlank_13 (tgt := 17) (by decide) ?_
    exact hR _ _ _ _ _ _ _ dX7_isBlank_17 rfl (Nat.le_of_ble_eq_true rfl) (Nat.le_of_ble_eq_true rfl) ⟨rfl, rfl, (by decide), (.inr (by first | omega | (simp only [Int32.lt_iff_toInt_lt, Int32.le_iff_toInt_le, Int32.reduceToInt, ← Int32.toInt_inj, true_and, and_true, or_true, true_or, false_or, or_false, false_and, and_false, not_true_eq_false, not_false_eq_true] <;> omega)))⟩
  · simp only [Int32.lt_iff_toInt_lt, Int32.le_iff_toInt_le, Int32.reduceToInt, ← Int32.toInt_inj] at h_1
    refine v_iload_n hC dX7_isBlank_6 rfl ?_
    refine v_bipush hC dX7_isBlank_7 (v := 10) (by decide) ?_
    refine v_icmp_ne hC dX7_isBlank_9 (tgt := 16) (by decide) (fun h_2 => ?_) (fun h_2 => ?_)
    · simp only [Int32.lt_iff_toInt_lt, Int32.le_iff_toInt_le, Int32.reduceToInt, ← Int32.toInt_inj] at h_2
      refine v_iconst hC dX7_isBlank_16 (v := 0) (by decide) ?_
      exact hR _ _ _ _ _ _ _ dX7_isBlank_17 rfl (Nat.le_of_ble_eq_true rfl) (Nat.le_of_ble_eq_true rfl) ⟨rfl, rfl, (by decide), (.inl (by decide))⟩
    · simp only [Int32.lt_iff_toInt_lt, Int32.le_iff_toInt_le, Int32.reduceToInt, ← Int32.toInt_inj] at h_2
      refine v_iconst hC dX7_isBlank_12 (v := 1) (by decide) ?_
      refine v_goto hC dX7_isBlank_13 (tgt := 17) (by decide) ?_
      exact hR _ _ _ _ _ _ _ dX7_isBlank_17 rfl (Nat.le_of_ble_eq_true rfl) (Nat.le_of_ble_eq_true rfl) ⟨rfl, rfl, (by decide), (.inr (by first | omega | (simp only [Int32.lt_iff_toInt_lt, Int32.le_iff_toInt_le, Int32.reduceToInt, ← Int32.toInt_inj, true_and, and_true, or_true, true_or, false_or, or_false, false_and, and_false, not_true_eq_false, not_false_eq_true] <;> omega)))⟩
set_option maxRecDepth 100000 in
set_option maxHeartbeats 8000000 in
theorem p_X7_kindOf {l : Launch} {E : Ez} {L : List Nat} {f : Nat → va_E} {T : Nat → va_E → Prop} {a_0 : Int32} (hW : WT T L f) : CI l yX7_kindOf cX7_kindOf 1 .int 0 0 0 E [.int a_0] L f (fun r L1 f1 => L = L1 ∧ f = f1 ∧ (0 ≤ r.toInt ∧ r.toInt ≤ 4) ∧ (¬ r.toInt = 0 ∨ ((-1) ≤ a_0.toInt ∧ a_0.toInt ≤ (-1)))) := by
  refine ci_of (by decide) (Nat.le_of_ble_eq_true rfl) (fun z hz hnm hC hR => ?_)
  have hC : Cx z E cX7_kindOf RX7 1 0 0 0 := hC
  subst hz
  show V z E 1 0 0 L f 0 [(0, .int a_0)] []
  refine v_iload_n hC dX7_kindOf_0 rfl ?_
  refine v_bipush hC dX7_kindOf_1 (v := 97) (by decide) ?_
  refine v_icmp_lt hC dX7_kindOf_3 (tgt := 14) (by decide) (fun h_1 => ?_) (fun h_1 => ?_)
  · simp only [Int32.lt_iff_toInt_lt, Int32.le_iff_toInt_le, Int32.reduceToInt, ← Int32.toInt_inj] at h_1
    refine v_iload_n hC dX7_kindOf_14 rfl ?_
    refine v_bipush hC dX7_kindOf_15 (v := 48) (by decide) ?_
    refine v_icmp_lt hC dX7_kindOf_17 (tgt := 28) (by decide) (fun h_2 => ?_) (fun h_2 => ?_)
    · simp only [Int32.lt_iff_toInt_lt, Int32.le_iff_toInt_le, Int32.reduceToInt, ← Int32.toInt_inj] at h_2
      refine v_iload_n hC dX7_kindOf_28 rfl ?_
      refine v_bipush hC dX7_kindOf_29 (v := 59) (by decide) ?_
      refine v_icmp_ne_t hC dX7_kindOf_31 (tgt := 36) (by decide) (by first | omega | (simp only [Int32.lt_iff_toInt_lt, Int32.le_iff_toInt_le, Int32.reduceToInt, ← Int32.toInt_inj, true_and, and_true, or_true, true_or, false_or, or_false, false_and, and_false, not_true_eq_false, not_false_eq_true] <;> omega)) ?_
      refine v_iload_n hC dX7_kindOf_36 rfl ?_
      refine v_iconst hC dX7_kindOf_37 (v := (-1)) (by decide) ?_
      refine v_icmp_ne hC dX7_kindOf_38 (tgt := 45) (by decide) (fun h_3 => ?_) (fun h_3 => ?_)
      · simp only [Int32.lt_iff_toInt_lt, Int32.le_iff_toInt_le, Int32.reduceToInt, ← Int32.toInt_inj] at h_3
        refine v_iconst hC dX7_kindOf_45 (v := 4) (by decide) ?_
        exact hR _ _ _ _ _ _ _ dX7_kindOf_46 rfl (Nat.le_of_ble_eq_true rfl) (Nat.le_of_ble_eq_true rfl) ⟨rfl, rfl, (by decide), (.inl (by decide))⟩
      · simp only [Int32.lt_iff_toInt_lt, Int32.le_iff_toInt_le, Int32.reduceToInt, ← Int32.toInt_inj] at h_3
        refine v_iconst hC dX7_kindOf_41 (v := 0) (by decide) ?_
        refine v_goto hC dX7_kindOf_42 (tgt := 46) (by decide) ?_
        exact hR _ _ _ _ _ _ _ dX7_kindOf_46 rfl (Nat.le_of_ble_eq_true rfl) (Nat.le_of_ble_eq_true rfl) ⟨rfl, rfl, (by decide), (.inr (by first | omega | (simp only [Int32.lt_iff_toInt_lt, Int32.le_iff_toInt_le, Int32.reduceToInt, ← Int32.toInt_inj, true_and, and_true, or_true, true_or, false_or, or_false, false_and, and_false, not_true_eq_false, not_false_eq_true] <;> omega)))⟩
    · simp only [Int32.lt_iff_toInt_lt, Int32.le_iff_toInt_le, Int32.reduceToInt, ← Int32.toInt_inj] at h_2
      refine v_iload_n hC dX7_kindOf_20 rfl ?_
      refine v_bipush hC dX7_kindOf_21 (v := 57) (by decide) ?_
      refine v_icmp_gt hC dX7_kindOf_23 (tgt := 28) (by decide) (fun h_4 => ?_) (fun h_4 => ?_)
      · simp only [Int32.lt_iff_toInt_lt, Int32.le_iff_toInt_le, Int32.reduceToInt, ← Int32.toInt_inj] at h_4
        refine v_iload_n hC dX7_kindOf_28 rfl ?_
        refine v_bipush hC dX7_kindOf_29 (v := 59) (by decide) ?_
        refine v_icmp_ne hC dX7_kindOf_31 (tgt := 36) (by decide) (fun h_5 => ?_) (fun h_5 => ?_)
        · simp only [Int32.lt_iff_toInt_lt, Int32.le_iff_toInt_le, Int32.reduceToInt, ← Int32.toInt_inj] at h_5
          refine v_iload_n hC dX7_kindOf_36 rfl ?_
          refine v_iconst hC dX7_kindOf_37 (v := (-1)) (by decide) ?_
          refine v_icmp_ne_t hC dX7_kindOf_38 (tgt := 45) (by decide) (by first | omega | (simp only [Int32.lt_iff_toInt_lt, Int32.le_iff_toInt_le, Int32.reduceToInt, ← Int32.toInt_inj, true_and, and_true, or_true, true_or, false_or, or_false, false_and, and_false, not_true_eq_false, not_false_eq_true] <;> omega)) ?_
          refine v_iconst hC dX7_kindOf_45 (v := 4) (by decide) ?_
          exact hR _ _ _ _ _ _ _ dX7_kindOf_46 rfl (Nat.le_of_ble_eq_true rfl) (Nat.le_of_ble_eq_true rfl) ⟨rfl, rfl, (by decide), (.inl (by decide))⟩
        · simp only [Int32.lt_iff_toInt_lt, Int32.le_iff_toInt_le, Int32.reduceToInt, ← Int32.toInt_inj] at h_5
          refine v_iconst hC dX7_kindOf_34 (v := 3) (by decide) ?_
          exact hR _ _ _ _ _ _ _ dX7_kindOf_35 rfl (Nat.le_of_ble_eq_true rfl) (Nat.le_of_ble_eq_true rfl) ⟨rfl, rfl, (by decide), (.inl (by decide))⟩
      · simp only [Int32.lt_iff_toInt_lt, Int32.le_iff_toInt_le, Int32.reduceToInt, ← Int32.toInt_inj] at h_4
        refine v_iconst hC dX7_kindOf_26 (v := 2) (by decide) ?_
        exact hR _ _ _ _ _ _ _ dX7_kindOf_27 rfl (Nat.le_of_ble_eq_true rfl) (Nat.le_of_ble_eq_true rfl) ⟨rfl, rfl, (by decide), (.inl (by decide))⟩
  · simp only [Int32.lt_iff_toInt_lt, Int32.le_iff_toInt_le, Int32.reduceToInt, ← Int32.toInt_inj] at h_1
    refine v_iload_n hC dX7_kindOf_6 rfl ?_
    refine v_bipush hC dX7_kindOf_7 (v := 122) (by decide) ?_
    refine v_icmp_gt hC dX7_kindOf_9 (tgt := 14) (by decide) (fun h_6 => ?_) (fun h_6 => ?_)
    · simp only [Int32.lt_iff_toInt_lt, Int32.le_iff_toInt_le, Int32.reduceToInt, ← Int32.toInt_inj] at h_6
      refine v_iload_n hC dX7_kindOf_14 rfl ?_
      refine v_bipush hC dX7_kindOf_15 (v := 48) (by decide) ?_
      refine v_icmp_lt_f hC dX7_kindOf_17 (tgt := 28) (by decide) (by first | omega | (simp only [Int32.lt_iff_toInt_lt, Int32.le_iff_toInt_le, Int32.reduceToInt, ← Int32.toInt_inj, true_and, and_true, or_true, true_or, false_or, or_false, false_and, and_false, not_true_eq_false, not_false_eq_true] <;> omega)) ?_
      refine v_iload_n hC dX7_kindOf_20 rfl ?_
      refine v_bipush hC dX7_kindOf_21 (v := 57) (by decide) ?_
      refine v_icmp_gt_t hC dX7_kindOf_23 (tgt := 28) (by decide) (by first | omega | (simp only [Int32.lt_iff_toInt_lt, Int32.le_iff_toInt_le, Int32.reduceToInt, ← Int32.toInt_inj, true_and, and_true, or_true, true_or, false_or, or_false, false_and, and_false, not_true_eq_false, not_false_eq_true] <;> omega)) ?_
      refine v_iload_n hC dX7_kindOf_28 rfl ?_
      refine v_bipush hC dX7_kindOf_29 (v := 59) (by decide) ?_
      refine v_icmp_ne_t hC dX7_kindOf_31 (tgt := 36) (by decide) (by first | omega | (simp only [Int32.lt_iff_toInt_lt, Int32.le_iff_toInt_le, Int32.reduceToInt, ← Int32.toInt_inj, true_and, and_true, or_true, true_or, false_or, or_false, false_and, and_false, not_true_eq_false, not_false_eq_true] <;> omega)) ?_
      refine v_iload_n hC dX7_kindOf_36 rfl ?_
      refine v_iconst hC dX7_kindOf_37 (v := (-1)) (by decide) ?_
      refine v_icmp_ne_t hC dX7_kindOf_38 (tgt := 45) (by decide) (by first | omega | (simp only [Int32.lt_iff_toInt_lt, Int32.le_iff_toInt_le, Int32.reduceToInt, ← Int32.toInt_inj, true_and, and_true, or_true, true_or, false_or, or_false, false_and, and_false, not_true_eq_false, not_false_eq_true] <;> omega)) ?_
      refine v_iconst hC dX7_kindOf_45 (v := 4) (by decide) ?_
      exact hR _ _ _ _ _ _ _ dX7_kindOf_46 rfl (Nat.le_of_ble_eq_true rfl) (Nat.le_of_ble_eq_true rfl) ⟨rfl, rfl, (by decide), (.inl (by decide))⟩
    · simp only [Int32.lt_iff_toInt_lt, Int32.le_iff_toInt_le, Int32.reduceToInt, ← Int32.toInt_inj] at h_6
      refine v_iconst hC dX7_kindOf_12 (v := 1) (by decide) ?_
      exact hR _ _ _ _ _ _ _ dX7_kindOf_13 rfl (Nat.le_of_ble_eq_true rfl) (Nat.le_of_ble_eq_true rfl) ⟨rfl, rfl, (by decide), (.inl (by decide))⟩
set_option maxRecDepth 100000 in
set_option maxHeartbeats 8000000 in
theorem p_X7_advance {l : Launch} {E : Ez} {L : List Nat} {f : Nat → va_E} {T : Nat → va_E → Prop} {a_0 : Nat} (hW : WT T L f) (k_0 : isTape T L E a_0) : CV l yX7_advance cX7_advance 2 1 0 0 E [.ref a_0] L f (fun L1 f1 => L = L1 ∧ WT T L f1 ∧ FR [7] f f1) := by
  refine cv_of (by decide) (Nat.le_of_ble_eq_true rfl) (fun z hz hnm hC hR => ?_)
  have hC : Cx z E cX7_advance RX7 2 1 0 0 := hC
  subst hz
  show V z E 2 0 0 L f 0 [(0, .ref a_0)] []
  refine v_aload_n hC dX7_advance_0 rfl ?_
  obtain ⟨m_1, q_3, t_2, k_4⟩ := id k_0
  obtain ⟨v_6, v_8, v_9, v_11, v_13, v_14, e_5, b_7, b_10, b_12⟩ := hW.at m_1 t_2
  refine v_vi hC (rest := []) m_1 e_5 rfl mi_X7_isFine ms_X7_isFine (p_X7_isFine hW k_0) mx_X7_isFine ml_X7_31 (by decide) rfl (cells1 := 0) (slots1 := 0) (by decide) (by decide) (Nat.le_of_ble_eq_true rfl) (Nat.le_of_ble_eq_true rfl) rfl (Nat.le_of_ble_eq_true rfl) dX7_advance_1 (fun r_15 L_16 f_17 h_18 => ?_)
  obtain ⟨rfl, rfl, b_19⟩ := h_18
  refine v_if_ne hC dX7_advance_4 (tgt := 8) (by decide) (fun h_22 => ?_) (fun h_22 => ?_)
  · simp only [Int32.lt_iff_toInt_lt, Int32.le_iff_toInt_le, Int32.reduceToInt, ← Int32.toInt_inj] at h_22
    refine v_aload_n hC dX7_advance_8 rfl ?_
    refine v_aload_n hC dX7_advance_9 rfl ?_
    refine v_get hC fl_X7_25 m_1 e_5 rfl dX7_advance_10 ?_
    refine v_put hC fl_X7_38 m_1 e_5 rfl rfl (Nat.le_of_ble_eq_true rfl) (fs' := [.ref q_3, .int v_6, .int v_8, .int v_11, .int v_11, .int v_13, .int v_14]) rfl dX7_advance_13 (fun f_23 hf_24 hk_25 => ?_)
    have hW_26 := hW.up hf_24 hk_25 t_2 ⟨v_6, v_8, v_11, v_11, v_13, v_14, rfl, (by first | omega | (simp only [Int32.lt_iff_toInt_lt, Int32.le_iff_toInt_le, Int32.reduceToInt, ← Int32.toInt_inj, true_and, and_true, or_true, true_or, false_or, or_false, false_and, and_false, not_true_eq_false, not_false_eq_true] <;> omega)), (by first | omega | (simp only [Int32.lt_iff_toInt_lt, Int32.le_iff_toInt_le, Int32.reduceToInt, ← Int32.toInt_inj, true_and, and_true, or_true, true_or, false_or, or_false, false_and, and_false, not_true_eq_false, not_false_eq_true] <;> omega)), (by first | omega | (simp only [Int32.lt_iff_toInt_lt, Int32.le_iff_toInt_le, Int32.reduceToInt, ← Int32.toInt_inj, true_and, and_true, or_true, true_or, false_or, or_false, false_and, and_false, not_true_eq_false, not_false_eq_true] <;> omega))⟩
    have fr_27 := FR.w hk_25 e_5 (k := 7) rfl
    have lp_784 : ∀ (n_785 : Nat) (f_781 : Nat → va_E) (hW_782 : WT T L f_781) (hF_783 : FR [7] f_23 f_781)  (hm_787 : 600 - fld (f_781 a_0) 3 < (n_785 : Int)), V z E 2 0 0 L f_781 16 [(0, .ref a_0)] [] := by
      intro n_785
      induction n_785 with
      | zero =>
        intro f_781 hW_782 hF_783 hm_787
        obtain ⟨v_789, v_791, v_792, v_794, v_796, v_797, e_788, b_790, b_793, b_795⟩ := hW_782.at m_1 t_2
        have h_798 : fld (f_781 a_0) 3 = (v_792 : Int32).toInt := by rw [e_788]; rfl
        rw [h_798] at hm_787
        exfalso; omega
      | succ n_785 ih_786 =>
        intro f_781 hW_782 hF_783 hm_787
        obtain ⟨v_789, v_791, v_792, v_794, v_796, v_797, e_788, b_790, b_793, b_795⟩ := hW_782.at m_1 t_2
        have h_798 : fld (f_781 a_0) 3 = (v_792 : Int32).toInt := by rw [e_788]; rfl
        rw [h_798] at hm_787
        refine v_aload_n hC dX7_advance_16 rfl ?_
        refine v_get hC fl_X7_38 m_1 e_788 rfl dX7_advance_17 ?_
        refine v_aload_n hC dX7_advance_20 rfl ?_
        refine v_get hC fl_X7_19 m_1 e_788 rfl dX7_advance_21 ?_
        have jn_825 : V z E 2 0 0 L f_781 54 [(0, .ref a_0)] [] := by
          refine v_aload_n hC dX7_advance_54 rfl ?_
          refine v_aload_n hC dX7_advance_55 rfl ?_
          refine v_aload_n hC dX7_advance_56 rfl ?_
          refine v_get hC fl_X7_38 m_1 e_788 rfl dX7_advance_57 ?_
          refine v_vi hC (rest := [.ref a_0]) m_1 e_788 rfl mi_X7_byteAt ms_X7_byteAt (p_X7_byteAt hW_782 k_0) mx_X7_byteAt ml_X7_41 (by decide) rfl (cells1 := 0) (slots1 := 0) (by decide) (by decide) (Nat.le_of_ble_eq_true rfl) (Nat.le_of_ble_eq_true rfl) rfl (Nat.le_of_ble_eq_true rfl) dX7_advance_60 (fun r_826 L_827 f_828 h_829 => ?_)
          obtain ⟨rfl, rfl, h_830⟩ := h_829
          refine v_si hC (rest := [.ref a_0]) mt_X7_kindOf (p_X7_kindOf hW_782) mx_X7_kindOf ml_X7_49 (by decide) rfl (cells1 := 0) (slots1 := 0) (by decide) (by decide) (Nat.le_of_ble_eq_true rfl) (Nat.le_of_ble_eq_true rfl) rfl (Nat.le_of_ble_eq_true rfl) dX7_advance_63 (fun r_833 L_834 f_835 h_836 => ?_)
          obtain ⟨rfl, rfl, b_837, h_838⟩ := h_836
          refine v_put hC fl_X7_35 m_1 e_788 rfl rfl (Nat.le_of_ble_eq_true rfl) (fs' := [.ref q_3, .int v_789, .int r_833, .int v_792, .int v_794, .int v_796, .int v_797]) rfl dX7_advance_66 (fun f_841 hf_842 hk_843 => ?_)
          have hW_844 := hW_782.up hf_842 hk_843 t_2 ⟨v_789, r_833, v_792, v_794, v_796, v_797, rfl, (by first | omega | (simp only [Int32.lt_iff_toInt_lt, Int32.le_iff_toInt_le, Int32.reduceToInt, ← Int32.toInt_inj, true_and, and_true, or_true, true_or, false_or, or_false, false_and, and_false, not_true_eq_false, not_false_eq_true] <;> omega)), (by first | omega | (simp only [Int32.lt_iff_toInt_lt, Int32.le_iff_toInt_le, Int32.reduceToInt, ← Int32.toInt_inj, true_and, and_true, or_true, true_or, false_or, or_false, false_and, and_false, not_true_eq_false, not_false_eq_true] <;> omega)), (by first | omega | (simp only [Int32.lt_iff_toInt_lt, Int32.le_iff_toInt_le, Int32.reduceToInt, ← Int32.toInt_inj, true_and, and_true, or_true, true_or, false_or, or_false, false_and, and_false, not_true_eq_false, not_false_eq_true] <;> omega))⟩
          have fr_845 := FR.w hk_843 e_788 (k := 7) rfl
          refine v_aload_n hC dX7_advance_69 rfl ?_
          refine v_aload_n hC dX7_advance_70 rfl ?_
          refine v_get hC fl_X7_38 m_1 hf_842 rfl dX7_advance_71 ?_
          refine v_iconst hC dX7_advance_74 (v := 1) (by decide) ?_
          obtain ⟨v_846, h_847⟩ : ∃ v9 : Int32, v_792 + 1 = v9 := ⟨_, rfl⟩
          refine v_iadd hC dX7_advance_75 h_847 ?_
          have h_848 := add_v h_847 (by first | omega | (simp only [Int32.lt_iff_toInt_lt, Int32.le_iff_toInt_le, Int32.reduceToInt, ← Int32.toInt_inj, true_and, and_true, or_true, true_or, false_or, or_false, false_and, and_false, not_true_eq_false, not_false_eq_true] <;> omega)) (by first | omega | (simp only [Int32.lt_iff_toInt_lt, Int32.le_iff_toInt_le, Int32.reduceToInt, ← Int32.toInt_inj, true_and, and_true, or_true, true_or, false_or, or_false, false_and, and_false, not_true_eq_false, not_false_eq_true] <;> omega))
          try simp only [Int32.reduceToInt] at h_848
          refine v_aload_n hC dX7_advance_76 rfl ?_
          refine v_get hC fl_X7_19 m_1 hf_842 rfl dX7_advance_77 ?_
          obtain ⟨v_849, h_850⟩ : ∃ v9 : Int32, (if v_789 < (v_846 : Int32) then v_789 else (v_846 : Int32)) = v9 := ⟨_, rfl⟩
          refine v_mmin hC mm_X7_52 mm_smin mm_i mm_cmin (by decide) (Nat.le_of_ble_eq_true rfl) (Nat.le_of_ble_eq_true rfl) (Nat.le_of_ble_eq_true rfl) h_850 dX7_advance_80 ?_
          have b_851 := min_v h_850
          try simp only [Int32.reduceToInt] at b_851
          refine v_put hC fl_X7_25 m_1 hf_842 rfl rfl (Nat.le_of_ble_eq_true rfl) (fs' := [.ref q_3, .int v_789, .int r_833, .int v_792, .int v_849, .int v_796, .int v_797]) rfl dX7_advance_83 (fun f_852 hf_853 hk_854 => ?_)
          have hW_855 := hW_844.up hf_853 hk_854 t_2 ⟨v_789, r_833, v_792, v_849, v_796, v_797, rfl, (by first | omega | (simp only [Int32.lt_iff_toInt_lt, Int32.le_iff_toInt_le, Int32.reduceToInt, ← Int32.toInt_inj, true_and, and_true, or_true, true_or, false_or, or_false, false_and, and_false, not_true_eq_false, not_false_eq_true] <;> omega)), (by first | omega | (simp only [Int32.lt_iff_toInt_lt, Int32.le_iff_toInt_le, Int32.reduceToInt, ← Int32.toInt_inj, true_and, and_true, or_true, true_or, false_or, or_false, false_and, and_false, not_true_eq_false, not_false_eq_true] <;> omega)), (by first | omega | (simp only [Int32.lt_iff_toInt_lt, Int32.le_iff_toInt_le, Int32.reduceToInt, ← Int32.toInt_inj, true_and, and_true, or_true, true_or, false_or, or_false, false_and, and_false, not_true_eq_false, not_false_eq_true] <;> omega))⟩
          have fr_856 := FR.w hk_854 hf_842 (k := 7) rfl
          refine v_aload_n hC dX7_advance_86 rfl ?_
          refine v_get hC fl_X7_35 m_1 hf_853 rfl dX7_advance_87 ?_
          refine v_iconst hC dX7_advance_90 (v := 1) (by decide) ?_
          have jn_859 : ∀ (v_860 : Int32) (b_861 : (0 ≤ v_860.toInt ∧ v_860.toInt ≤ 1)), V z E 2 0 0 L f_852 107 [(0, .ref a_0)] [.int v_860] := by
            intro v_860 b_861
            refine v_istore_n hC dX7_advance_107 (by decide) (lv' := [(1, .int v_860), (0, .ref a_0)]) rfl ?_
            have lp_973 : ∀ (n_974 : Nat) (f_970 : Nat → va_E) (hW_971 : WT T L f_970) (hF_972 : FR [7] f_852 f_970)  (hm_976 : 600 - fld (f_970 a_0) 4 < (n_974 : Int)), V z E 2 0 0 L f_970 108 [(1, .int v_860), (0, .ref a_0)] [] := by
              intro n_974
              induction n_974 with
              | zero =>
                intro f_970 hW_971 hF_972 hm_976
                obtain ⟨v_978, v_980, v_981, v_983, v_985, v_986, e_977, b_979, b_982, b_984⟩ := hW_971.at m_1 t_2
                have h_987 : fld (f_970 a_0) 4 = (v_983 : Int32).toInt := by rw [e_977]; rfl
                rw [h_987] at hm_976
                exfalso; omega
              | succ n_974 ih_975 =>
                intro f_970 hW_971 hF_972 hm_976
                obtain ⟨v_978, v_980, v_981, v_983, v_985, v_986, e_977, b_979, b_982, b_984⟩ := hW_971.at m_1 t_2
                have h_987 : fld (f_970 a_0) 4 = (v_983 : Int32).toInt := by rw [e_977]; rfl
                rw [h_987] at hm_976
                refine v_iload_n hC dX7_advance_108 rfl ?_
                refine v_if_eq hC dX7_advance_109 (tgt := 154) (by decide) (fun h_988 => ?_) (fun h_988 => ?_)
                · simp only [Int32.lt_iff_toInt_lt, Int32.le_iff_toInt_le, Int32.reduceToInt, ← Int32.toInt_inj] at h_988
                  exact hR _ _ _ _ _ _ dX7_advance_154 (Nat.le_of_ble_eq_true rfl) (Nat.le_of_ble_eq_true rfl) ⟨rfl, hW_971, (((((fr_27.tr hF_783).tr fr_845).tr fr_856).tr hF_972).mono rfl)⟩
                · simp only [Int32.lt_iff_toInt_lt, Int32.le_iff_toInt_le, Int32.reduceToInt, ← Int32.toInt_inj] at h_988
                  refine v_aload_n hC dX7_advance_112 rfl ?_
                  refine v_get hC fl_X7_25 m_1 e_977 rfl dX7_advance_113 ?_
                  refine v_aload_n hC dX7_advance_116 rfl ?_
                  refine v_get hC fl_X7_19 m_1 e_977 rfl dX7_advance_117 ?_
                  refine v_icmp_ge hC dX7_advance_120 (tgt := 154) (by decide) (fun h_989 => ?_) (fun h_989 => ?_)
                  · simp only [Int32.lt_iff_toInt_lt, Int32.le_iff_toInt_le, Int32.reduceToInt, ← Int32.toInt_inj] at h_989
                    exact hR _ _ _ _ _ _ dX7_advance_154 (Nat.le_of_ble_eq_true rfl) (Nat.le_of_ble_eq_true rfl) ⟨rfl, hW_971, (((((fr_27.tr hF_783).tr fr_845).tr fr_856).tr hF_972).mono rfl)⟩
                  · simp only [Int32.lt_iff_toInt_lt, Int32.le_iff_toInt_le, Int32.reduceToInt, ← Int32.toInt_inj] at h_989
                    refine v_aload_n hC dX7_advance_123 rfl ?_
                    refine v_aload_n hC dX7_advance_124 rfl ?_
                    refine v_get hC fl_X7_25 m_1 e_977 rfl dX7_advance_125 ?_
                    refine v_vi hC (rest := []) m_1 e_977 rfl mi_X7_byteAt ms_X7_byteAt (p_X7_byteAt hW_971 k_0) mx_X7_byteAt ml_X7_41 (by decide) rfl (cells1 := 0) (slots1 := 0) (by decide) (by decide) (Nat.le_of_ble_eq_true rfl) (Nat.le_of_ble_eq_true rfl) rfl (Nat.le_of_ble_eq_true rfl) dX7_advance_128 (fun r_990 L_991 f_992 h_993 => ?_)
                    obtain ⟨rfl, rfl, h_994⟩ := h_993
                    refine v_si hC (rest := []) mt_X7_kindOf (p_X7_kindOf hW_971) mx_X7_kindOf ml_X7_49 (by decide) rfl (cells1 := 0) (slots1 := 0) (by decide) (by decide) (Nat.le_of_ble_eq_true rfl) (Nat.le_of_ble_eq_true rfl) rfl (Nat.le_of_ble_eq_true rfl) dX7_advance_131 (fun r_997 L_998 f_999 h_1000 => ?_)
                    obtain ⟨rfl, rfl, b_1001, h_1002⟩ := h_1000
                    refine v_aload_n hC dX7_advance_134 rfl ?_
                    refine v_get hC fl_X7_35 m_1 e_977 rfl dX7_advance_135 ?_
                    refine v_icmp_ne hC dX7_advance_138 (tgt := 154) (by decide) (fun h_1005 => ?_) (fun h_1005 => ?_)
                    · simp only [Int32.lt_iff_toInt_lt, Int32.le_iff_toInt_le, Int32.reduceToInt, ← Int32.toInt_inj] at h_1005
                      exact hR _ _ _ _ _ _ dX7_advance_154 (Nat.le_of_ble_eq_true rfl) (Nat.le_of_ble_eq_true rfl) ⟨rfl, hW_971, (((((fr_27.tr hF_783).tr fr_845).tr fr_856).tr hF_972).mono rfl)⟩
                    · simp only [Int32.lt_iff_toInt_lt, Int32.le_iff_toInt_le, Int32.reduceToInt, ← Int32.toInt_inj] at h_1005
                      refine v_aload_n hC dX7_advance_141 rfl ?_
                      refine v_dup hC dX7_advance_142 rfl ?_
                      refine v_get hC fl_X7_25 m_1 e_977 rfl dX7_advance_143 ?_
                      refine v_iconst hC dX7_advance_146 (v := 1) (by decide) ?_
                      obtain ⟨v_1006, h_1007⟩ : ∃ v9 : Int32, v_983 + 1 = v9 := ⟨_, rfl⟩
                      refine v_iadd hC dX7_advance_147 h_1007 ?_
                      have h_1008 := add_v h_1007 (by first | omega | (simp only [Int32.lt_iff_toInt_lt, Int32.le_iff_toInt_le, Int32.reduceToInt, ← Int32.toInt_inj, true_and, and_true, or_true, true_or, false_or, or_false, false_and, and_false, not_true_eq_false, not_false_eq_true] <;> omega)) (by first | omega | (simp only [Int32.lt_iff_toInt_lt, Int32.le_iff_toInt_le, Int32.reduceToInt, ← Int32.toInt_inj, true_and, and_true, or_true, true_or, false_or, or_false, false_and, and_false, not_true_eq_false, not_false_eq_true] <;> omega))
                      try simp only [Int32.reduceToInt] at h_1008
                      refine v_put hC fl_X7_25 m_1 e_977 rfl rfl (Nat.le_of_ble_eq_true rfl) (fs' := [.ref q_3, .int v_978, .int v_980, .int v_981, .int v_1006, .int v_985, .int v_986]) rfl dX7_advance_148 (fun f_1009 hf_1010 hk_1011 => ?_)
                      have hW_1012 := hW_971.up hf_1010 hk_1011 t_2 ⟨v_978, v_980, v_981, v_1006, v_985, v_986, rfl, (by first | omega | (simp only [Int32.lt_iff_toInt_lt, Int32.le_iff_toInt_le, Int32.reduceToInt, ← Int32.toInt_inj, true_and, and_true, or_true, true_or, false_or, or_false, false_and, and_false, not_true_eq_false, not_false_eq_true] <;> omega)), (by first | omega | (simp only [Int32.lt_iff_toInt_lt, Int32.le_iff_toInt_le, Int32.reduceToInt, ← Int32.toInt_inj, true_and, and_true, or_true, true_or, false_or, or_false, false_and, and_false, not_true_eq_false, not_false_eq_true] <;> omega)), (by first | omega | (simp only [Int32.lt_iff_toInt_lt, Int32.le_iff_toInt_le, Int32.reduceToInt, ← Int32.toInt_inj, true_and, and_true, or_true, true_or, false_or, or_false, false_and, and_false, not_true_eq_false, not_false_eq_true] <;> omega))⟩
                      have fr_1013 := FR.w hk_1011 e_977 (k := 7) rfl
                      refine v_goto hC dX7_advance_151 (tgt := 108) (by decide) ?_
                      refine v_pick [0, 1] rfl ?_
                      have h_1014 : fld (f_1009 a_0) 4 = (v_1006 : Int32).toInt := by rw [hf_1010]; rfl
                      exact ih_975 f_1009 hW_1012 ((hF_972.tr fr_1013).mono rfl) (by rw [h_1014]; omega)
            refine v_pick [0, 1] rfl ?_
            have h_1015 : fld (f_852 a_0) 4 = (v_849 : Int32).toInt := by rw [hf_853]; rfl
            exact lp_973 602 f_852 hW_855 FR.rf (by rw [h_1015]; omega)
          refine v_icmp_eq hC dX7_advance_91 (tgt := 102) (by decide) (fun h_857 => ?_) (fun h_857 => ?_)
          · simp only [Int32.lt_iff_toInt_lt, Int32.le_iff_toInt_le, Int32.reduceToInt, ← Int32.toInt_inj] at h_857
            refine v_iconst hC dX7_advance_102 (v := 1) (by decide) ?_
            refine v_goto hC dX7_advance_103 (tgt := 107) (by decide) ?_
            refine v_pick [0] rfl ?_
            exact jn_859 1 (by decide)
          · simp only [Int32.lt_iff_toInt_lt, Int32.le_iff_toInt_le, Int32.reduceToInt, ← Int32.toInt_inj] at h_857
            refine v_aload_n hC dX7_advance_94 rfl ?_
            refine v_get hC fl_X7_35 m_1 hf_853 rfl dX7_advance_95 ?_
            refine v_iconst hC dX7_advance_98 (v := 2) (by decide) ?_
            refine v_icmp_ne hC dX7_advance_99 (tgt := 106) (by decide) (fun h_1016 => ?_) (fun h_1016 => ?_)
            · simp only [Int32.lt_iff_toInt_lt, Int32.le_iff_toInt_le, Int32.reduceToInt, ← Int32.toInt_inj] at h_1016
              refine v_iconst hC dX7_advance_106 (v := 0) (by decide) ?_
              refine v_pick [0] rfl ?_
              exact jn_859 0 (by decide)
            · simp only [Int32.lt_iff_toInt_lt, Int32.le_iff_toInt_le, Int32.reduceToInt, ← Int32.toInt_inj] at h_1016
              refine v_iconst hC dX7_advance_102 (v := 1) (by decide) ?_
              refine v_goto hC dX7_advance_103 (tgt := 107) (by decide) ?_
              refine v_pick [0] rfl ?_
              exact jn_859 1 (by decide)
        refine v_icmp_ge hC dX7_advance_24 (tgt := 54) (by decide) (fun h_799 => ?_) (fun h_799 => ?_)
        · simp only [Int32.lt_iff_toInt_lt, Int32.le_iff_toInt_le, Int32.reduceToInt, ← Int32.toInt_inj] at h_799
          refine v_pick [0] rfl ?_
          exact jn_825 
        · simp only [Int32.lt_iff_toInt_lt, Int32.le_iff_toInt_le, Int32.reduceToInt, ← Int32.toInt_inj] at h_799
          refine v_aload_n hC dX7_advance_27 rfl ?_
          refine v_aload_n hC dX7_advance_28 rfl ?_
          refine v_get hC fl_X7_38 m_1 e_788 rfl dX7_advance_29 ?_
          refine v_vi hC (rest := []) m_1 e_788 rfl mi_X7_byteAt ms_X7_byteAt (p_X7_byteAt hW_782 k_0) mx_X7_byteAt ml_X7_41 (by decide) rfl (cells1 := 0) (slots1 := 0) (by decide) (by decide) (Nat.le_of_ble_eq_true rfl) (Nat.le_of_ble_eq_true rfl) rfl (Nat.le_of_ble_eq_true rfl) dX7_advance_32 (fun r_1017 L_1018 f_1019 h_1020 => ?_)
          obtain ⟨rfl, rfl, h_1021⟩ := h_1020
          refine v_si hC (rest := []) mt_X7_isBlank (p_X7_isBlank hW_782) mx_X7_isBlank ml_X7_45 (by decide) rfl (cells1 := 0) (slots1 := 0) (by decide) (by decide) (Nat.le_of_ble_eq_true rfl) (Nat.le_of_ble_eq_true rfl) rfl (Nat.le_of_ble_eq_true rfl) dX7_advance_35 (fun r_1024 L_1025 f_1026 h_1027 => ?_)
          obtain ⟨rfl, rfl, b_1028, h_1029⟩ := h_1027
          refine v_if_eq hC dX7_advance_38 (tgt := 54) (by decide) (fun h_1032 => ?_) (fun h_1032 => ?_)
          · simp only [Int32.lt_iff_toInt_lt, Int32.le_iff_toInt_le, Int32.reduceToInt, ← Int32.toInt_inj] at h_1032
            refine v_pick [0] rfl ?_
            exact jn_825 
          · simp only [Int32.lt_iff_toInt_lt, Int32.le_iff_toInt_le, Int32.reduceToInt, ← Int32.toInt_inj] at h_1032
            refine v_aload_n hC dX7_advance_41 rfl ?_
            refine v_dup hC dX7_advance_42 rfl ?_
            refine v_get hC fl_X7_38 m_1 e_788 rfl dX7_advance_43 ?_
            refine v_iconst hC dX7_advance_46 (v := 1) (by decide) ?_
            obtain ⟨v_1033, h_1034⟩ : ∃ v9 : Int32, v_792 + 1 = v9 := ⟨_, rfl⟩
            refine v_iadd hC dX7_advance_47 h_1034 ?_
            have h_1035 := add_v h_1034 (by first | omega | (simp only [Int32.lt_iff_toInt_lt, Int32.le_iff_toInt_le, Int32.reduceToInt, ← Int32.toInt_inj, true_and, and_true, or_true, true_or, false_or, or_false, false_and, and_false, not_true_eq_false, not_false_eq_true] <;> omega)) (by first | omega | (simp only [Int32.lt_iff_toInt_lt, Int32.le_iff_toInt_le, Int32.reduceToInt, ← Int32.toInt_inj, true_and, and_true, or_true, true_or, false_or, or_false, false_and, and_false, not_true_eq_false, not_false_eq_true] <;> omega))
            try simp only [Int32.reduceToInt] at h_1035
            refine v_put hC fl_X7_38 m_1 e_788 rfl rfl (Nat.le_of_ble_eq_true rfl) (fs' := [.ref q_3, .int v_789, .int v_791, .int v_1033, .int v_794, .int v_796, .int v_797]) rfl dX7_advance_48 (fun f_1036 hf_1037 hk_1038 => ?_)
            have hW_1039 := hW_782.up hf_1037 hk_1038 t_2 ⟨v_789, v_791, v_1033, v_794, v_796, v_797, rfl, (by first | omega | (simp only [Int32.lt_iff_toInt_lt, Int32.le_iff_toInt_le, Int32.reduceToInt, ← Int32.toInt_inj, true_and, and_true, or_true, true_or, false_or, or_false, false_and, and_false, not_true_eq_false, not_false_eq_true] <;> omega)), (by first | omega | (simp only [Int32.lt_iff_toInt_lt, Int32.le_iff_toInt_le, Int32.reduceToInt, ← Int32.toInt_inj, true_and, and_true, or_true, true_or, false_or, or_false, false_and, and_false, not_true_eq_false, not_false_eq_true] <;> omega)), (by first | omega | (simp only [Int32.lt_iff_toInt_lt, Int32.le_iff_toInt_le, Int32.reduceToInt, ← Int32.toInt_inj, true_and, and_true, or_true, true_or, false_or, or_false, false_and, and_false, not_true_eq_false, not_false_eq_true] <;> omega))⟩
            have fr_1040 := FR.w hk_1038 e_788 (k := 7) rfl
            refine v_goto hC dX7_advance_51 (tgt := 16) (by decide) ?_
            refine v_pick [0] rfl ?_
            have h_1041 : fld (f_1036 a_0) 3 = (v_1033 : Int32).toInt := by rw [hf_1037]; rfl
            exact ih_786 f_1036 hW_1039 ((hF_783.tr fr_1040).mono rfl) (by rw [h_1041]; omega)
    refine v_pick [0] rfl ?_
    have h_1042 : fld (f_23 a_0) 3 = (v_11 : Int32).toInt := by rw [hf_24]; rfl
    exact lp_784 602 f_23 hW_26 FR.rf (by rw [h_1042]; omega)
  · simp only [Int32.lt_iff_toInt_lt, Int32.le_iff_toInt_le, Int32.reduceToInt, ← Int32.toInt_inj] at h_22
    exact hR _ _ _ _ _ _ dX7_advance_7 (Nat.le_of_ble_eq_true rfl) (Nat.le_of_ble_eq_true rfl) ⟨rfl, hW, FR.rf⟩
set_option maxRecDepth 100000 in
set_option maxHeartbeats 8000000 in
theorem p_X7_start {l : Launch} {E : Ez} {L : List Nat} {f : Nat → va_E} {T : Nat → va_E → Prop} {a_0 : Nat} (hW : WT T L f) (k_0 : isTape T L E a_0) : CV l yX7_start cX7_start 1 2 0 0 E [.ref a_0] L f (fun L1 f1 => L = L1 ∧ WT T L f1 ∧ FR [7] f f1) := by
  refine cv_of (by decide) (Nat.le_of_ble_eq_true rfl) (fun z hz hnm hC hR => ?_)
  have hC : Cx z E cX7_start RX7 1 2 0 0 := hC
  subst hz
  show V z E 1 0 0 L f 0 [(0, .ref a_0)] []
  refine v_aload_n hC dX7_start_0 rfl ?_
  refine v_iconst hC dX7_start_1 (v := 0) (by decide) ?_
  obtain ⟨m_1, q_3, t_2, k_4⟩ := id k_0
  obtain ⟨v_6, v_8, v_9, v_11, v_13, v_14, e_5, b_7, b_10, b_12⟩ := hW.at m_1 t_2
  refine v_put hC fl_X7_22 m_1 e_5 rfl rfl (Nat.le_of_ble_eq_true rfl) (fs' := [.ref q_3, .int v_6, .int v_8, .int v_9, .int v_11, .int 0, .int v_14]) rfl dX7_start_2 (fun f_15 hf_16 hk_17 => ?_)
  have hW_18 := hW.up hf_16 hk_17 t_2 ⟨v_6, v_8, v_9, v_11, 0, v_14, rfl, (by first | omega | (simp only [Int32.lt_iff_toInt_lt, Int32.le_iff_toInt_le, Int32.reduceToInt, ← Int32.toInt_inj, true_and, and_true, or_true, true_or, false_or, or_false, false_and, and_false, not_true_eq_false, not_false_eq_true] <;> omega)), (by first | omega | (simp only [Int32.lt_iff_toInt_lt, Int32.le_iff_toInt_le, Int32.reduceToInt, ← Int32.toInt_inj, true_and, and_true, or_true, true_or, false_or, or_false, false_and, and_false, not_true_eq_false, not_false_eq_true] <;> omega)), (by first | omega | (simp only [Int32.lt_iff_toInt_lt, Int32.le_iff_toInt_le, Int32.reduceToInt, ← Int32.toInt_inj, true_and, and_true, or_true, true_or, false_or, or_false, false_and, and_false, not_true_eq_false, not_false_eq_true] <;> omega))⟩
  have fr_19 := FR.w hk_17 e_5 (k := 7) rfl
  refine v_aload_n hC dX7_start_5 rfl ?_
  refine v_iconst hC dX7_start_6 (v := (-1)) (by decide) ?_
  refine v_put hC fl_X7_15 m_1 hf_16 rfl rfl (Nat.le_of_ble_eq_true rfl) (fs' := [.ref q_3, .int v_6, .int v_8, .int v_9, .int v_11, .int 0, .int (-1)]) rfl dX7_start_7 (fun f_20 hf_21 hk_22 => ?_)
  have hW_23 := hW_18.up hf_21 hk_22 t_2 ⟨v_6, v_8, v_9, v_11, 0, (-1), rfl, (by first | omega | (simp only [Int32.lt_iff_toInt_lt, Int32.le_iff_toInt_le, Int32.reduceToInt, ← Int32.toInt_inj, true_and, and_true, or_true, true_or, false_or, or_false, false_and, and_false, not_true_eq_false, not_false_eq_true] <;> omega)), (by first | omega | (simp only [Int32.lt_iff_toInt_lt, Int32.le_iff_toInt_le, Int32.reduceToInt, ← Int32.toInt_inj, true_and, and_true, or_true, true_or, false_or, or_false, false_and, and_false, not_true_eq_false, not_false_eq_true] <;> omega)), (by first | omega | (simp only [Int32.lt_iff_toInt_lt, Int32.le_iff_toInt_le, Int32.reduceToInt, ← Int32.toInt_inj, true_and, and_true, or_true, true_or, false_or, or_false, false_and, and_false, not_true_eq_false, not_false_eq_true] <;> omega))⟩
  have fr_24 := FR.w hk_22 hf_16 (k := 7) rfl
  refine v_aload_n hC dX7_start_10 rfl ?_
  refine v_iconst hC dX7_start_11 (v := 0) (by decide) ?_
  refine v_put hC fl_X7_25 m_1 hf_21 rfl rfl (Nat.le_of_ble_eq_true rfl) (fs' := [.ref q_3, .int v_6, .int v_8, .int v_9, .int 0, .int 0, .int (-1)]) rfl dX7_start_12 (fun f_25 hf_26 hk_27 => ?_)
  have hW_28 := hW_23.up hf_26 hk_27 t_2 ⟨v_6, v_8, v_9, 0, 0, (-1), rfl, (by first | omega | (simp only [Int32.lt_iff_toInt_lt, Int32.le_iff_toInt_le, Int32.reduceToInt, ← Int32.toInt_inj, true_and, and_true, or_true, true_or, false_or, or_false, false_and, and_false, not_true_eq_false, not_false_eq_true] <;> omega)), (by first | omega | (simp only [Int32.lt_iff_toInt_lt, Int32.le_iff_toInt_le, Int32.reduceToInt, ← Int32.toInt_inj, true_and, and_true, or_true, true_or, false_or, or_false, false_and, and_false, not_true_eq_false, not_false_eq_true] <;> omega)), (by decide)⟩
  have fr_29 := FR.w hk_27 hf_21 (k := 7) rfl
  refine v_aload_n hC dX7_start_15 rfl ?_
  refine v_vv hC (rest := []) m_1 hf_26 rfl mi_X7_advance ms_X7_advance (p_X7_advance hW_28 k_0) mx_X7_advance ml_X7_28 (by decide) rfl (cells1 := 0) (slots1 := 0) (by decide) (by decide) (Nat.le_of_ble_eq_true rfl) (Nat.le_of_ble_eq_true rfl) rfl (Nat.le_of_ble_eq_true rfl) dX7_start_16 (fun L_31 f_32 h_33 => ?_)
  obtain ⟨rfl, hW_34, hF_35⟩ := h_33
  exact hR _ _ _ _ _ _ dX7_start_19 (Nat.le_of_ble_eq_true rfl) (Nat.le_of_ble_eq_true rfl) ⟨rfl, hW_34, ((((fr_19.tr fr_24).tr fr_29).tr hF_35).mono rfl)⟩
set_option maxRecDepth 100000 in
set_option maxHeartbeats 8000000 in
theorem p_X7_goesOn {l : Launch} {E : Ez} {L : List Nat} {f : Nat → va_E} {T : Nat → va_E → Prop} {a_0 : Nat} (hW : WT T L f) (k_0 : isTape T L E a_0) : CI l yX7_goesOn cX7_goesOn 1 .boolean 1 0 0 E [.ref a_0] L f (fun r L1 f1 => L = L1 ∧ f = f1 ∧ (0 ≤ r.toInt ∧ r.toInt ≤ 1)) := by
  refine ci_of (by decide) (Nat.le_of_ble_eq_true rfl) (fun z hz hnm hC hR => ?_)
  have hC : Cx z E cX7_goesOn RX7 1 1 0 0 := hC
  subst hz
  show V z E 1 0 0 L f 0 [(0, .ref a_0)] []
  refine v_aload_n hC dX7_goesOn_0 rfl ?_
  obtain ⟨m_1, q_3, t_2, k_4⟩ := id k_0
  obtain ⟨v_6, v_8, v_9, v_11, v_13, v_14, e_5, b_7, b_10, b_12⟩ := hW.at m_1 t_2
  refine v_vi hC (rest := []) m_1 e_5 rfl mi_X7_isFine ms_X7_isFine (p_X7_isFine hW k_0) mx_X7_isFine ml_X7_31 (by decide) rfl (cells1 := 0) (slots1 := 0) (by decide) (by decide) (Nat.le_of_ble_eq_true rfl) (Nat.le_of_ble_eq_true rfl) rfl (Nat.le_of_ble_eq_true rfl) dX7_goesOn_1 (fun r_15 L_16 f_17 h_18 => ?_)
  obtain ⟨rfl, rfl, b_19⟩ := h_18
  refine v_if_eq hC dX7_goesOn_4 (tgt := 18) (by decide) (fun h_22 => ?_) (fun h_22 => ?_)
  · simp only [Int32.lt_iff_toInt_lt, Int32.le_iff_toInt_le, Int32.reduceToInt, ← Int32.toInt_inj] at h_22
    refine v_iconst hC dX7_goesOn_18 (v := 0) (by decide) ?_
    exact hR _ _ _ _ _ _ _ dX7_goesOn_19 rfl (Nat.le_of_ble_eq_true rfl) (Nat.le_of_ble_eq_true rfl) ⟨rfl, rfl, (by decide)⟩
  · simp only [Int32.lt_iff_toInt_lt, Int32.le_iff_toInt_le, Int32.reduceToInt, ← Int32.toInt_inj] at h_22
    refine v_aload_n hC dX7_goesOn_7 rfl ?_
    refine v_get hC fl_X7_35 m_1 e_5 rfl dX7_goesOn_8 ?_
    refine v_if_eq hC dX7_goesOn_11 (tgt := 18) (by decide) (fun h_23 => ?_) (fun h_23 => ?_)
    · simp only [Int32.lt_iff_toInt_lt, Int32.le_iff_toInt_le, Int32.reduceToInt, ← Int32.toInt_inj] at h_23
      refine v_iconst hC dX7_goesOn_18 (v := 0) (by decide) ?_
      exact hR _ _ _ _ _ _ _ dX7_goesOn_19 rfl (Nat.le_of_ble_eq_true rfl) (Nat.le_of_ble_eq_true rfl) ⟨rfl, rfl, (by decide)⟩
    · simp only [Int32.lt_iff_toInt_lt, Int32.le_iff_toInt_le, Int32.reduceToInt, ← Int32.toInt_inj] at h_23
      refine v_iconst hC dX7_goesOn_14 (v := 1) (by decide) ?_
      refine v_goto hC dX7_goesOn_15 (tgt := 19) (by decide) ?_
      exact hR _ _ _ _ _ _ _ dX7_goesOn_19 rfl (Nat.le_of_ble_eq_true rfl) (Nat.le_of_ble_eq_true rfl) ⟨rfl, rfl, (by decide)⟩
set_option maxRecDepth 100000 in
set_option maxHeartbeats 8000000 in
theorem p_X7_complain {l : Launch} {E : Ez} {L : List Nat} {f : Nat → va_E} {T : Nat → va_E → Prop} {a_0 : Nat} {a_1 : Int32} (hW : WT T L f) (k_0 : isTape T L E a_0) : CV l yX7_complain cX7_complain 2 1 0 0 E [.ref a_0, .int a_1] L f (fun L1 f1 => L = L1 ∧ WT T L f1 ∧ FR [7] f f1) := by
  refine cv_of (by decide) (Nat.le_of_ble_eq_true rfl) (fun z hz hnm hC hR => ?_)
  have hC : Cx z E cX7_complain RX7 2 1 0 0 := hC
  subst hz
  show V z E 2 0 0 L f 0 [(0, .ref a_0), (1, .int a_1)] []
  refine v_aload_n hC dX7_complain_0 rfl ?_
  obtain ⟨m_1, q_3, t_2, k_4⟩ := id k_0
  obtain ⟨v_6, v_8, v_9, v_11, v_13, v_14, e_5, b_7, b_10, b_12⟩ := hW.at m_1 t_2
  refine v_vi hC (rest := []) m_1 e_5 rfl mi_X7_isFine ms_X7_isFine (p_X7_isFine hW k_0) mx_X7_isFine ml_X7_31 (by decide) rfl (cells1 := 0) (slots1 := 0) (by decide) (by decide) (Nat.le_of_ble_eq_true rfl) (Nat.le_of_ble_eq_true rfl) rfl (Nat.le_of_ble_eq_true rfl) dX7_complain_1 (fun r_15 L_16 f_17 h_18 => ?_)
  obtain ⟨rfl, rfl, b_19⟩ := h_18
  refine v_if_eq hC dX7_complain_4 (tgt := 25) (by decide) (fun h_22 => ?_) (fun h_22 => ?_)
  · simp only [Int32.lt_iff_toInt_lt, Int32.le_iff_toInt_le, Int32.reduceToInt, ← Int32.toInt_inj] at h_22
    exact hR _ _ _ _ _ _ dX7_complain_25 (Nat.le_of_ble_eq_true rfl) (Nat.le_of_ble_eq_true rfl) ⟨rfl, hW, FR.rf⟩
  · simp only [Int32.lt_iff_toInt_lt, Int32.le_iff_toInt_le, Int32.reduceToInt, ← Int32.toInt_inj] at h_22
    refine v_aload_n hC dX7_complain_7 rfl ?_
    refine v_iload_n hC dX7_complain_8 rfl ?_
    refine v_put hC fl_X7_22 m_1 e_5 rfl rfl (Nat.le_of_ble_eq_true rfl) (fs' := [.ref q_3, .int v_6, .int v_8, .int v_9, .int v_11, .int a_1, .int v_14]) rfl dX7_complain_9 (fun f_23 hf_24 hk_25 => ?_)
    have hW_26 := hW.up hf_24 hk_25 t_2 ⟨v_6, v_8, v_9, v_11, a_1, v_14, rfl, (by first | omega | (simp only [Int32.lt_iff_toInt_lt, Int32.le_iff_toInt_le, Int32.reduceToInt, ← Int32.toInt_inj, true_and, and_true, or_true, true_or, false_or, or_false, false_and, and_false, not_true_eq_false, not_false_eq_true] <;> omega)), (by first | omega | (simp only [Int32.lt_iff_toInt_lt, Int32.le_iff_toInt_le, Int32.reduceToInt, ← Int32.toInt_inj, true_and, and_true, or_true, true_or, false_or, or_false, false_and, and_false, not_true_eq_false, not_false_eq_true] <;> omega)), (by first | omega | (simp only [Int32.lt_iff_toInt_lt, Int32.le_iff_toInt_le, Int32.reduceToInt, ← Int32.toInt_inj, true_and, and_true, or_true, true_or, false_or, or_false, false_and, and_false, not_true_eq_false, not_false_eq_true] <;> omega))⟩
    have fr_27 := FR.w hk_25 e_5 (k := 7) rfl
    refine v_aload_n hC dX7_complain_12 rfl ?_
    refine v_aload_n hC dX7_complain_13 rfl ?_
    refine v_get hC fl_X7_38 m_1 hf_24 rfl dX7_complain_14 ?_
    refine v_put hC fl_X7_15 m_1 hf_24 rfl rfl (Nat.le_of_ble_eq_true rfl) (fs' := [.ref q_3, .int v_6, .int v_8, .int v_9, .int v_11, .int a_1, .int v_9]) rfl dX7_complain_17 (fun f_28 hf_29 hk_30 => ?_)
    have hW_31 := hW_26.up hf_29 hk_30 t_2 ⟨v_6, v_8, v_9, v_11, a_1, v_9, rfl, (by first | omega | (simp only [Int32.lt_iff_toInt_lt, Int32.le_iff_toInt_le, Int32.reduceToInt, ← Int32.toInt_inj, true_and, and_true, or_true, true_or, false_or, or_false, false_and, and_false, not_true_eq_false, not_false_eq_true] <;> omega)), (by first | omega | (simp only [Int32.lt_iff_toInt_lt, Int32.le_iff_toInt_le, Int32.reduceToInt, ← Int32.toInt_inj, true_and, and_true, or_true, true_or, false_or, or_false, false_and, and_false, not_true_eq_false, not_false_eq_true] <;> omega)), (by first | omega | (simp only [Int32.lt_iff_toInt_lt, Int32.le_iff_toInt_le, Int32.reduceToInt, ← Int32.toInt_inj, true_and, and_true, or_true, true_or, false_or, or_false, false_and, and_false, not_true_eq_false, not_false_eq_true] <;> omega))⟩
    have fr_32 := FR.w hk_30 hf_24 (k := 7) rfl
    refine v_aload_n hC dX7_complain_20 rfl ?_
    refine v_iconst hC dX7_complain_21 (v := 4) (by decide) ?_
    refine v_put hC fl_X7_35 m_1 hf_29 rfl rfl (Nat.le_of_ble_eq_true rfl) (fs' := [.ref q_3, .int v_6, .int 4, .int v_9, .int v_11, .int a_1, .int v_9]) rfl dX7_complain_22 (fun f_33 hf_34 hk_35 => ?_)
    have hW_36 := hW_31.up hf_34 hk_35 t_2 ⟨v_6, 4, v_9, v_11, a_1, v_9, rfl, (by first | omega | (simp only [Int32.lt_iff_toInt_lt, Int32.le_iff_toInt_le, Int32.reduceToInt, ← Int32.toInt_inj, true_and, and_true, or_true, true_or, false_or, or_false, false_and, and_false, not_true_eq_false, not_false_eq_true] <;> omega)), (by first | omega | (simp only [Int32.lt_iff_toInt_lt, Int32.le_iff_toInt_le, Int32.reduceToInt, ← Int32.toInt_inj, true_and, and_true, or_true, true_or, false_or, or_false, false_and, and_false, not_true_eq_false, not_false_eq_true] <;> omega)), (by first | omega | (simp only [Int32.lt_iff_toInt_lt, Int32.le_iff_toInt_le, Int32.reduceToInt, ← Int32.toInt_inj, true_and, and_true, or_true, true_or, false_or, or_false, false_and, and_false, not_true_eq_false, not_false_eq_true] <;> omega))⟩
    have fr_37 := FR.w hk_35 hf_29 (k := 7) rfl
    exact hR _ _ _ _ _ _ dX7_complain_25 (Nat.le_of_ble_eq_true rfl) (Nat.le_of_ble_eq_true rfl) ⟨rfl, hW_36, (((fr_27.tr fr_32).tr fr_37).mono rfl)⟩
set_option maxRecDepth 100000 in
set_option maxHeartbeats 8000000 in
theorem p_X7_isNumber {l : Launch} {E : Ez} {L : List Nat} {f : Nat → va_E} {T : Nat → va_E → Prop} {a_0 : Nat} (hW : WT T L f) (k_0 : isTape T L E a_0) : CI l yX7_isNumber cX7_isNumber 1 .boolean 0 0 0 E [.ref a_0] L f (fun r L1 f1 => L = L1 ∧ f = f1 ∧ (0 ≤ r.toInt ∧ r.toInt ≤ 1)) := by
  refine ci_of (by decide) (Nat.le_of_ble_eq_true rfl) (fun z hz hnm hC hR => ?_)
  have hC : Cx z E cX7_isNumber RX7 1 0 0 0 := hC
  subst hz
  show V z E 1 0 0 L f 0 [(0, .ref a_0)] []
  refine v_aload_n hC dX7_isNumber_0 rfl ?_
  obtain ⟨m_1, q_3, t_2, k_4⟩ := id k_0
  obtain ⟨v_6, v_8, v_9, v_11, v_13, v_14, e_5, b_7, b_10, b_12⟩ := hW.at m_1 t_2
  refine v_get hC fl_X7_35 m_1 e_5 rfl dX7_isNumber_1 ?_
  refine v_iconst hC dX7_isNumber_4 (v := 2) (by decide) ?_
  refine v_icmp_ne hC dX7_isNumber_5 (tgt := 12) (by decide) (fun h_15 => ?_) (fun h_15 => ?_)
  · simp only [Int32.lt_iff_toInt_lt, Int32.le_iff_toInt_le, Int32.reduceToInt, ← Int32.toInt_inj] at h_15
    refine v_iconst hC dX7_isNumber_12 (v := 0) (by decide) ?_
    exact hR _ _ _ _ _ _ _ dX7_isNumber_13 rfl (Nat.le_of_ble_eq_true rfl) (Nat.le_of_ble_eq_true rfl) ⟨rfl, rfl, (by decide)⟩
  · simp only [Int32.lt_iff_toInt_lt, Int32.le_iff_toInt_le, Int32.reduceToInt, ← Int32.toInt_inj] at h_15
    refine v_iconst hC dX7_isNumber_8 (v := 1) (by decide) ?_
    refine v_goto hC dX7_isNumber_9 (tgt := 13) (by decide) ?_
    exact hR _ _ _ _ _ _ _ dX7_isNumber_13 rfl (Nat.le_of_ble_eq_true rfl) (Nat.le_of_ble_eq_true rfl) ⟨rfl, rfl, (by decide)⟩
set_option maxRecDepth 100000 in
set_option maxHeartbeats 8000000 in
theorem p_X7_numberTold {l : Launch} {E : Ez} {L : List Nat} {f : Nat → va_E} {T : Nat → va_E → Prop} {a_0 : Nat} (hW : WT T L f) (k_0 : isTape T L E a_0) : CI l yX7_numberTold cX7_numberTold 3 .int 1 0 0 E [.ref a_0] L f (fun r L1 f1 => L = L1 ∧ f = f1 ∧ (r.toInt ≤ 10000)) := by
  refine ci_of (by decide) (Nat.le_of_ble_eq_true rfl) (fun z hz hnm hC hR => ?_)
  have hC : Cx z E cX7_numberTold RX7 3 1 0 0 := hC
  subst hz
  show V z E 3 0 0 L f 0 [(0, .ref a_0)] []
  refine v_iconst hC dX7_numberTold_0 (v := 0) (by decide) ?_
  refine v_istore_n hC dX7_numberTold_1 (by decide) (lv' := [(1, .int 0), (0, .ref a_0)]) rfl ?_
  refine v_aload_n hC dX7_numberTold_2 rfl ?_
  obtain ⟨m_1, q_3, t_2, k_4⟩ := id k_0
  obtain ⟨v_6, v_8, v_9, v_11, v_13, v_14, e_5, b_7, b_10, b_12⟩ := hW.at m_1 t_2
  refine v_get hC fl_X7_38 m_1 e_5 rfl dX7_numberTold_3 ?_
  refine v_istore_n hC dX7_numberTold_6 (by decide) (lv' := [(2, .int v_9), (1, .int 0), (0, .ref a_0)]) rfl ?_
  have lp_184 : ∀ (n_185 : Nat) (i_180 : Int32) (b_182 : (0 ≤ i_180.toInt ∧ i_180.toInt ≤ 600)) (i_181 : Int32) (b_183 : (i_181.toInt ≤ 10000)) (hm_187 : 600 - i_180.toInt < (n_185 : Int)), V z E 3 0 0 L f 7 [(2, .int i_180), (1, .int i_181), (0, .ref a_0)] [] := by
    intro n_185
    induction n_185 with
    | zero =>
      intro i_180 b_182 i_181 b_183 hm_187
      exfalso; omega
    | succ n_185 ih_186 =>
      intro i_180 b_182 i_181 b_183 hm_187
      refine v_iload_n hC dX7_numberTold_7 rfl ?_
      refine v_aload_n hC dX7_numberTold_8 rfl ?_
      refine v_get hC fl_X7_25 m_1 e_5 rfl dX7_numberTold_9 ?_
      refine v_icmp_ge hC dX7_numberTold_12 (tgt := 41) (by decide) (fun h_188 => ?_) (fun h_188 => ?_)
      · simp only [Int32.lt_iff_toInt_lt, Int32.le_iff_toInt_le, Int32.reduceToInt, ← Int32.toInt_inj] at h_188
        refine v_iload_n hC dX7_numberTold_41 rfl ?_
        exact hR _ _ _ _ _ _ _ dX7_numberTold_42 rfl (Nat.le_of_ble_eq_true rfl) (Nat.le_of_ble_eq_true rfl) ⟨rfl, rfl, (by first | omega | (simp only [Int32.lt_iff_toInt_lt, Int32.le_iff_toInt_le, Int32.reduceToInt, ← Int32.toInt_inj, true_and, and_true, or_true, true_or, false_or, or_false, false_and, and_false, not_true_eq_false, not_false_eq_true] <;> omega))⟩
      · simp only [Int32.lt_iff_toInt_lt, Int32.le_iff_toInt_le, Int32.reduceToInt, ← Int32.toInt_inj] at h_188
        refine v_sipush hC dX7_numberTold_15 (v := 10000) (by decide) ?_
        refine v_bipush hC dX7_numberTold_18 (v := 10) (by decide) ?_
        refine v_iload_n hC dX7_numberTold_20 rfl ?_
        obtain ⟨v_189, h_190⟩ : ∃ v9 : Int32, (10 : Int32) * i_181 = v9 := ⟨_, rfl⟩
        refine v_imul hC dX7_numberTold_21 h_190 ?_
        refine v_aload_n hC dX7_numberTold_22 rfl ?_
        refine v_iload_n hC dX7_numberTold_23 rfl ?_
        refine v_vi hC (rest := [.int v_189, .int 10000]) m_1 e_5 rfl mi_X7_byteAt ms_X7_byteAt (p_X7_byteAt hW k_0) mx_X7_byteAt ml_X7_41 (by decide) rfl (cells1 := 0) (slots1 := 0) (by decide) (by decide) (Nat.le_of_ble_eq_true rfl) (Nat.le_of_ble_eq_true rfl) rfl (Nat.le_of_ble_eq_true rfl) dX7_numberTold_24 (fun r_192 L_193 f_194 h_195 => ?_)
        obtain ⟨rfl, rfl, h_196⟩ := h_195
        obtain ⟨v_199, h_200⟩ : ∃ v9 : Int32, v_189 + r_192 = v9 := ⟨_, rfl⟩
        refine v_iadd hC dX7_numberTold_27 h_200 ?_
        refine v_bipush hC dX7_numberTold_28 (v := 48) (by decide) ?_
        obtain ⟨v_202, h_203⟩ : ∃ v9 : Int32, v_199 - 48 = v9 := ⟨_, rfl⟩
        refine v_isub hC dX7_numberTold_30 h_203 ?_
        obtain ⟨v_205, h_206⟩ : ∃ v9 : Int32, (if v_202 < (10000 : Int32) then v_202 else (10000 : Int32)) = v9 := ⟨_, rfl⟩
        refine v_mmin hC mm_X7_52 mm_smin mm_i mm_cmin (by decide) (Nat.le_of_ble_eq_true rfl) (Nat.le_of_ble_eq_true rfl) (Nat.le_of_ble_eq_true rfl) h_206 dX7_numberTold_31 ?_
        have b_207 := min_v h_206
        try simp only [Int32.reduceToInt] at b_207
        refine v_istore_n hC dX7_numberTold_34 (by decide) (lv' := [(1, .int v_205), (2, .int i_180), (0, .ref a_0)]) rfl ?_
        obtain ⟨v_208, h_209⟩ : ∃ v9 : Int32, i_180 + Int32.ofInt 1 = v9 := ⟨_, rfl⟩
        have h_210 := add_v (b := 1) h_209 (by first | omega | (simp only [Int32.lt_iff_toInt_lt, Int32.le_iff_toInt_le, Int32.reduceToInt, ← Int32.toInt_inj, true_and, and_true, or_true, true_or, false_or, or_false, false_and, and_false, not_true_eq_false, not_false_eq_true] <;> omega)) (by first | omega | (simp only [Int32.lt_iff_toInt_lt, Int32.le_iff_toInt_le, Int32.reduceToInt, ← Int32.toInt_inj, true_and, and_true, or_true, true_or, false_or, or_false, false_and, and_false, not_true_eq_false, not_false_eq_true] <;> omega))
        simp only [Int32.reduceToInt] at h_210
        refine v_iinc hC dX7_numberTold_35 (k := 1) rfl (v := v_208) h_209 (by decide) (lv' := [(2, .int v_208), (1, .int v_205), (0, .ref a_0)]) rfl ?_
        refine v_goto hC dX7_numberTold_38 (tgt := 7) (by decide) ?_
        refine v_pick [0, 1, 2] rfl ?_
        exact ih_186 v_208 (by first | omega | (simp only [Int32.lt_iff_toInt_lt, Int32.le_iff_toInt_le, Int32.reduceToInt, ← Int32.toInt_inj, true_and, and_true, or_true, true_or, false_or, or_false, false_and, and_false, not_true_eq_false, not_false_eq_true] <;> omega)) v_205 (by first | omega | (simp only [Int32.lt_iff_toInt_lt, Int32.le_iff_toInt_le, Int32.reduceToInt, ← Int32.toInt_inj, true_and, and_true, or_true, true_or, false_or, or_false, false_and, and_false, not_true_eq_false, not_false_eq_true] <;> omega)) (by first | omega | (simp only [Int32.lt_iff_toInt_lt, Int32.le_iff_toInt_le, Int32.reduceToInt, ← Int32.toInt_inj, true_and, and_true, or_true, true_or, false_or, or_false, false_and, and_false, not_true_eq_false, not_false_eq_true] <;> omega))
  refine v_pick [0, 1, 2] rfl ?_
  exact lp_184 602 v_9 (by first | omega | (simp only [Int32.lt_iff_toInt_lt, Int32.le_iff_toInt_le, Int32.reduceToInt, ← Int32.toInt_inj, true_and, and_true, or_true, true_or, false_or, or_false, false_and, and_false, not_true_eq_false, not_false_eq_true] <;> omega)) 0 (by decide) (by first | omega | (simp only [Int32.lt_iff_toInt_lt, Int32.le_iff_toInt_le, Int32.reduceToInt, ← Int32.toInt_inj, true_and, and_true, or_true, true_or, false_or, or_false, false_and, and_false, not_true_eq_false, not_false_eq_true] <;> omega))
set_option maxRecDepth 100000 in
set_option maxHeartbeats 8000000 in
theorem p_X7_isEvenNumber {l : Launch} {E : Ez} {L : List Nat} {f : Nat → va_E} {T : Nat → va_E → Prop} {a_0 : Nat} (hW : WT T L f) (k_0 : isTape T L E a_0) : CI l yX7_isEvenNumber cX7_isEvenNumber 1 .boolean 2 0 0 E [.ref a_0] L f (fun r L1 f1 => L = L1 ∧ f = f1 ∧ (0 ≤ r.toInt ∧ r.toInt ≤ 1)) := by
  refine ci_of (by decide) (Nat.le_of_ble_eq_true rfl) (fun z hz hnm hC hR => ?_)
  have hC : Cx z E cX7_isEvenNumber RX7 1 2 0 0 := hC
  subst hz
  show V z E 1 0 0 L f 0 [(0, .ref a_0)] []
  refine v_aload_n hC dX7_isEvenNumber_0 rfl ?_
  obtain ⟨m_1, q_3, t_2, k_4⟩ := id k_0
  obtain ⟨v_6, v_8, v_9, v_11, v_13, v_14, e_5, b_7, b_10, b_12⟩ := hW.at m_1 t_2
  refine v_vi hC (rest := []) m_1 e_5 rfl mi_X7_isNumber ms_X7_isNumber (p_X7_isNumber hW k_0) mx_X7_isNumber ml_X7_58 (by decide) rfl (cells1 := 0) (slots1 := 0) (by decide) (by decide) (Nat.le_of_ble_eq_true rfl) (Nat.le_of_ble_eq_true rfl) rfl (Nat.le_of_ble_eq_true rfl) dX7_isEvenNumber_1 (fun r_15 L_16 f_17 h_18 => ?_)
  obtain ⟨rfl, rfl, b_19⟩ := h_18
  refine v_if_eq hC dX7_isEvenNumber_4 (tgt := 20) (by decide) (fun h_22 => ?_) (fun h_22 => ?_)
  · simp only [Int32.lt_iff_toInt_lt, Int32.le_iff_toInt_le, Int32.reduceToInt, ← Int32.toInt_inj] at h_22
    refine v_iconst hC dX7_isEvenNumber_20 (v := 0) (by decide) ?_
    exact hR _ _ _ _ _ _ _ dX7_isEvenNumber_21 rfl (Nat.le_of_ble_eq_true rfl) (Nat.le_of_ble_eq_true rfl) ⟨rfl, rfl, (by decide)⟩
  · simp only [Int32.lt_iff_toInt_lt, Int32.le_iff_toInt_le, Int32.reduceToInt, ← Int32.toInt_inj] at h_22
    refine v_aload_n hC dX7_isEvenNumber_7 rfl ?_
    refine v_vi hC (rest := []) m_1 e_5 rfl mi_X7_numberTold ms_X7_numberTold (p_X7_numberTold hW k_0) mx_X7_numberTold ml_X7_61 (by decide) rfl (cells1 := 0) (slots1 := 0) (by decide) (by decide) (Nat.le_of_ble_eq_true rfl) (Nat.le_of_ble_eq_true rfl) rfl (Nat.le_of_ble_eq_true rfl) dX7_isEvenNumber_8 (fun r_23 L_24 f_25 h_26 => ?_)
    obtain ⟨rfl, rfl, b_27⟩ := h_26
    refine v_iconst hC dX7_isEvenNumber_11 (v := 2) (by decide) ?_
    obtain ⟨v_30, h_31⟩ : ∃ v9 : Int32, r_23 - r_23 / 2 * 2 = v9 := ⟨_, rfl⟩
    refine v_irem hC dX7_isEvenNumber_12 (by decide) h_31 ?_
    refine v_if_ne hC dX7_isEvenNumber_13 (tgt := 20) (by decide) (fun h_33 => ?_) (fun h_33 => ?_)
    · simp only [Int32.lt_iff_toInt_lt, Int32.le_iff_toInt_le, Int32.reduceToInt, ← Int32.toInt_inj] at h_33
      refine v_iconst hC dX7_isEvenNumber_20 (v := 0) (by decide) ?_
      exact hR _ _ _ _ _ _ _ dX7_isEvenNumber_21 rfl (Nat.le_of_ble_eq_true rfl) (Nat.le_of_ble_eq_true rfl) ⟨rfl, rfl, (by decide)⟩
    · simp only [Int32.lt_iff_toInt_lt, Int32.le_iff_toInt_le, Int32.reduceToInt, ← Int32.toInt_inj] at h_33
      refine v_iconst hC dX7_isEvenNumber_16 (v := 1) (by decide) ?_
      refine v_goto hC dX7_isEvenNumber_17 (tgt := 21) (by decide) ?_
      exact hR _ _ _ _ _ _ _ dX7_isEvenNumber_21 rfl (Nat.le_of_ble_eq_true rfl) (Nat.le_of_ble_eq_true rfl) ⟨rfl, rfl, (by decide)⟩
set_option maxRecDepth 100000 in
set_option maxHeartbeats 8000000 in
theorem p_X7_isSemicolon {l : Launch} {E : Ez} {L : List Nat} {f : Nat → va_E} {T : Nat → va_E → Prop} {a_0 : Nat} (hW : WT T L f) (k_0 : isTape T L E a_0) : CI l yX7_isSemicolon cX7_isSemicolon 1 .boolean 0 0 0 E [.ref a_0] L f (fun r L1 f1 => L = L1 ∧ f = f1 ∧ (0 ≤ r.toInt ∧ r.toInt ≤ 1)) := by
  refine ci_of (by decide) (Nat.le_of_ble_eq_true rfl) (fun z hz hnm hC hR => ?_)
  have hC : Cx z E cX7_isSemicolon RX7 1 0 0 0 := hC
  subst hz
  show V z E 1 0 0 L f 0 [(0, .ref a_0)] []
  refine v_aload_n hC dX7_isSemicolon_0 rfl ?_
  obtain ⟨m_1, q_3, t_2, k_4⟩ := id k_0
  obtain ⟨v_6, v_8, v_9, v_11, v_13, v_14, e_5, b_7, b_10, b_12⟩ := hW.at m_1 t_2
  refine v_get hC fl_X7_35 m_1 e_5 rfl dX7_isSemicolon_1 ?_
  refine v_iconst hC dX7_isSemicolon_4 (v := 3) (by decide) ?_
  refine v_icmp_ne hC dX7_isSemicolon_5 (tgt := 12) (by decide) (fun h_15 => ?_) (fun h_15 => ?_)
  · simp only [Int32.lt_iff_toInt_lt, Int32.le_iff_toInt_le, Int32.reduceToInt, ← Int32.toInt_inj] at h_15
    refine v_iconst hC dX7_isSemicolon_12 (v := 0) (by decide) ?_
    exact hR _ _ _ _ _ _ _ dX7_isSemicolon_13 rfl (Nat.le_of_ble_eq_true rfl) (Nat.le_of_ble_eq_true rfl) ⟨rfl, rfl, (by decide)⟩
  · simp only [Int32.lt_iff_toInt_lt, Int32.le_iff_toInt_le, Int32.reduceToInt, ← Int32.toInt_inj] at h_15
    refine v_iconst hC dX7_isSemicolon_8 (v := 1) (by decide) ?_
    refine v_goto hC dX7_isSemicolon_9 (tgt := 13) (by decide) ?_
    exact hR _ _ _ _ _ _ _ dX7_isSemicolon_13 rfl (Nat.le_of_ble_eq_true rfl) (Nat.le_of_ble_eq_true rfl) ⟨rfl, rfl, (by decide)⟩
set_option maxRecDepth 100000 in
set_option maxHeartbeats 8000000 in
theorem p_X7_isWord {l : Launch} {E : Ez} {L : List Nat} {f : Nat → va_E} {T : Nat → va_E → Prop} {a_0 : Nat} {a_1 : Nat} (hW : WT T L f) (k_0 : isTape T L E a_0) (ha_1 : a_1 < 77) : CI l yX7_isWord cX7_isWord 3 .boolean 4 0 0 E [.ref a_0, .ref (eK E a_1)] L f (fun r L1 f1 => L = L1 ∧ f = f1 ∧ (0 ≤ r.toInt ∧ r.toInt ≤ 1)) := by
  refine ci_of (by decide) (Nat.le_of_ble_eq_true rfl) (fun z hz hnm hC hR => ?_)
  have hC : Cx z E cX7_isWord RX7 3 4 0 0 := hC
  subst hz
  show V z E 3 0 0 L f 0 [(0, .ref a_0), (1, .ref (eK E a_1))] []
  refine v_aload_n hC dX7_isWord_0 rfl ?_
  obtain ⟨m_1, q_3, t_2, k_4⟩ := id k_0
  obtain ⟨v_6, v_8, v_9, v_11, v_13, v_14, e_5, b_7, b_10, b_12⟩ := hW.at m_1 t_2
  refine v_get hC fl_X7_35 m_1 e_5 rfl dX7_isWord_1 ?_
  refine v_iconst hC dX7_isWord_4 (v := 1) (by decide) ?_
  refine v_icmp_ne hC dX7_isWord_5 (tgt := 24) (by decide) (fun h_15 => ?_) (fun h_15 => ?_)
  · simp only [Int32.lt_iff_toInt_lt, Int32.le_iff_toInt_le, Int32.reduceToInt, ← Int32.toInt_inj] at h_15
    refine v_iconst hC dX7_isWord_24 (v := 0) (by decide) ?_
    exact hR _ _ _ _ _ _ _ dX7_isWord_25 rfl (Nat.le_of_ble_eq_true rfl) (Nat.le_of_ble_eq_true rfl) ⟨rfl, rfl, (by decide)⟩
  · simp only [Int32.lt_iff_toInt_lt, Int32.le_iff_toInt_le, Int32.reduceToInt, ← Int32.toInt_inj] at h_15
    refine v_aload_n hC dX7_isWord_8 rfl ?_
    refine v_get hC fl_X7_25 m_1 e_5 rfl dX7_isWord_9 ?_
    refine v_aload_n hC dX7_isWord_12 rfl ?_
    refine v_get hC fl_X7_38 m_1 e_5 rfl dX7_isWord_13 ?_
    obtain ⟨v_16, h_17⟩ : ∃ v9 : Int32, v_11 - v_9 = v9 := ⟨_, rfl⟩
    refine v_isub hC dX7_isWord_16 h_17 ?_
    have h_18 := sub_v h_17 (by first | omega | (simp only [Int32.lt_iff_toInt_lt, Int32.le_iff_toInt_le, Int32.reduceToInt, ← Int32.toInt_inj, true_and, and_true, or_true, true_or, false_or, or_false, false_and, and_false, not_true_eq_false, not_false_eq_true] <;> omega)) (by first | omega | (simp only [Int32.lt_iff_toInt_lt, Int32.le_iff_toInt_le, Int32.reduceToInt, ← Int32.toInt_inj, true_and, and_true, or_true, true_or, false_or, or_false, false_and, and_false, not_true_eq_false, not_false_eq_true] <;> omega))
    refine v_aload_n hC dX7_isWord_17 rfl ?_
    refine v_viS hC (rest := [.int v_16]) ha_1 rfl mi_J0_length_8abf5 ms_J0_length_8abf5 (p_J0_length_8abf5 hW ha_1) mx_J0_length_8abf5 ml_X7_65 (by decide) rfl (cells1 := 0) (slots1 := 0) (by decide) (by decide) (Nat.le_of_ble_eq_true rfl) (Nat.le_of_ble_eq_true rfl) rfl (Nat.le_of_ble_eq_true rfl) dX7_isWord_18 (fun r_19 L_20 f_21 h_22 => ?_)
    obtain ⟨rfl, rfl, b_23, x_24⟩ := h_22
    try simp only [Int32.reduceToInt, Int64.reduceToInt] at x_24
    refine v_icmp_eq hC dX7_isWord_21 (tgt := 26) (by decide) (fun h_27 => ?_) (fun h_27 => ?_)
    · simp only [Int32.lt_iff_toInt_lt, Int32.le_iff_toInt_le, Int32.reduceToInt, ← Int32.toInt_inj] at h_27
      refine v_iconst hC dX7_isWord_26 (v := 0) (by decide) ?_
      refine v_istore_n hC dX7_isWord_27 (by decide) (lv' := [(2, .int 0), (0, .ref a_0), (1, .ref (eK E a_1))]) rfl ?_
      have lp_131 : ∀ (n_132 : Nat) (i_129 : Int32) (b_130 : (0 ≤ i_129.toInt ∧ i_129.toInt ≤ 40)) (hm_134 : 40 - i_129.toInt < (n_132 : Int)), V z E 3 0 0 L f 28 [(2, .int i_129), (0, .ref a_0), (1, .ref (eK E a_1))] [] := by
        intro n_132
        induction n_132 with
        | zero =>
          intro i_129 b_130 hm_134
          exfalso; omega
        | succ n_132 ih_133 =>
          intro i_129 b_130 hm_134
          refine v_iload_n hC dX7_isWord_28 rfl ?_
          refine v_aload_n hC dX7_isWord_29 rfl ?_
          refine v_viS hC (rest := [.int i_129]) ha_1 rfl mi_J0_length_8abf5 ms_J0_length_8abf5 (p_J0_length_8abf5 hW ha_1) mx_J0_length_8abf5 ml_X7_65 (by decide) rfl (cells1 := 0) (slots1 := 0) (by decide) (by decide) (Nat.le_of_ble_eq_true rfl) (Nat.le_of_ble_eq_true rfl) rfl (Nat.le_of_ble_eq_true rfl) dX7_isWord_30 (fun r_135 L_136 f_137 h_138 => ?_)
          obtain ⟨rfl, rfl, b_139, x_140⟩ := h_138
          try simp only [Int32.reduceToInt, Int64.reduceToInt] at x_140
          refine v_icmp_ge hC dX7_isWord_33 (tgt := 62) (by decide) (fun h_143 => ?_) (fun h_143 => ?_)
          · simp only [Int32.lt_iff_toInt_lt, Int32.le_iff_toInt_le, Int32.reduceToInt, ← Int32.toInt_inj] at h_143
            refine v_iconst hC dX7_isWord_62 (v := 1) (by decide) ?_
            exact hR _ _ _ _ _ _ _ dX7_isWord_63 rfl (Nat.le_of_ble_eq_true rfl) (Nat.le_of_ble_eq_true rfl) ⟨rfl, rfl, (by decide)⟩
          · simp only [Int32.lt_iff_toInt_lt, Int32.le_iff_toInt_le, Int32.reduceToInt, ← Int32.toInt_inj] at h_143
            refine v_aload_n hC dX7_isWord_36 rfl ?_
            refine v_iload_n hC dX7_isWord_37 rfl ?_
            refine v_viS hC (rest := []) ha_1 rfl mi_J0_charAt_5068e ms_J0_charAt_5068e (p_J0_charAt_5068e hW ha_1 (by first | omega | (simp only [Int32.lt_iff_toInt_lt, Int32.le_iff_toInt_le, Int32.reduceToInt, ← Int32.toInt_inj, true_and, and_true, or_true, true_or, false_or, or_false, false_and, and_false, not_true_eq_false, not_false_eq_true] <;> omega))) mx_J0_charAt_5068e ml_X7_70 (by decide) rfl (cells1 := 0) (slots1 := 0) (by decide) (by decide) (Nat.le_of_ble_eq_true rfl) (Nat.le_of_ble_eq_true rfl) rfl (Nat.le_of_ble_eq_true rfl) dX7_isWord_38 (fun r_144 L_145 f_146 h_147 => ?_)
            obtain ⟨rfl, rfl, rfl, nr_148⟩ := h_147
            refine v_aload_n hC dX7_isWord_41 rfl ?_
            refine v_aload_n hC dX7_isWord_42 rfl ?_
            refine v_get hC fl_X7_38 m_1 e_5 rfl dX7_isWord_43 ?_
            refine v_iload_n hC dX7_isWord_46 rfl ?_
            obtain ⟨v_151, h_152⟩ : ∃ v9 : Int32, v_9 + i_129 = v9 := ⟨_, rfl⟩
            refine v_iadd hC dX7_isWord_47 h_152 ?_
            have h_153 := add_v h_152 (by first | omega | (simp only [Int32.lt_iff_toInt_lt, Int32.le_iff_toInt_le, Int32.reduceToInt, ← Int32.toInt_inj, true_and, and_true, or_true, true_or, false_or, or_false, false_and, and_false, not_true_eq_false, not_false_eq_true] <;> omega)) (by first | omega | (simp only [Int32.lt_iff_toInt_lt, Int32.le_iff_toInt_le, Int32.reduceToInt, ← Int32.toInt_inj, true_and, and_true, or_true, true_or, false_or, or_false, false_and, and_false, not_true_eq_false, not_false_eq_true] <;> omega))
            refine v_vi hC (rest := [.int (chv a_1 i_129)]) m_1 e_5 rfl mi_X7_byteAt ms_X7_byteAt (p_X7_byteAt hW k_0) mx_X7_byteAt ml_X7_41 (by decide) rfl (cells1 := 0) (slots1 := 0) (by decide) (by decide) (Nat.le_of_ble_eq_true rfl) (Nat.le_of_ble_eq_true rfl) rfl (Nat.le_of_ble_eq_true rfl) dX7_isWord_48 (fun r_154 L_155 f_156 h_157 => ?_)
            obtain ⟨rfl, rfl, h_158⟩ := h_157
            refine v_icmp_eq hC dX7_isWord_51 (tgt := 56) (by decide) (fun h_161 => ?_) (fun h_161 => ?_)
            · simp only [Int32.lt_iff_toInt_lt, Int32.le_iff_toInt_le, Int32.reduceToInt, ← Int32.toInt_inj] at h_161
              obtain ⟨v_162, h_163⟩ : ∃ v9 : Int32, i_129 + Int32.ofInt 1 = v9 := ⟨_, rfl⟩
              have h_164 := add_v (b := 1) h_163 (by first | omega | (simp only [Int32.lt_iff_toInt_lt, Int32.le_iff_toInt_le, Int32.reduceToInt, ← Int32.toInt_inj, true_and, and_true, or_true, true_or, false_or, or_false, false_and, and_false, not_true_eq_false, not_false_eq_true] <;> omega)) (by first | omega | (simp only [Int32.lt_iff_toInt_lt, Int32.le_iff_toInt_le, Int32.reduceToInt, ← Int32.toInt_inj, true_and, and_true, or_true, true_or, false_or, or_false, false_and, and_false, not_true_eq_false, not_false_eq_true] <;> omega))
              simp only [Int32.reduceToInt] at h_164
              refine v_iinc hC dX7_isWord_56 (k := 0) rfl (v := v_162) h_163 (by decide) (lv' := [(2, .int v_162), (0, .ref a_0), (1, .ref (eK E a_1))]) rfl ?_
              refine v_goto hC dX7_isWord_59 (tgt := 28) (by decide) ?_
              refine v_pick [0, 1, 2] rfl ?_
              exact ih_133 v_162 (by first | omega | (simp only [Int32.lt_iff_toInt_lt, Int32.le_iff_toInt_le, Int32.reduceToInt, ← Int32.toInt_inj, true_and, and_true, or_true, true_or, false_or, or_false, false_and, and_false, not_true_eq_false, not_false_eq_true] <;> omega)) (by first | omega | (simp only [Int32.lt_iff_toInt_lt, Int32.le_iff_toInt_le, Int32.reduceToInt, ← Int32.toInt_inj, true_and, and_true, or_true, true_or, false_or, or_false, false_and, and_false, not_true_eq_false, not_false_eq_true] <;> omega))
            · simp only [Int32.lt_iff_toInt_lt, Int32.le_iff_toInt_le, Int32.reduceToInt, ← Int32.toInt_inj] at h_161
              refine v_iconst hC dX7_isWord_54 (v := 0) (by decide) ?_
              exact hR _ _ _ _ _ _ _ dX7_isWord_55 rfl (Nat.le_of_ble_eq_true rfl) (Nat.le_of_ble_eq_true rfl) ⟨rfl, rfl, (by decide)⟩
      refine v_pick [0, 1, 2] rfl ?_
      exact lp_131 42 0 (by decide) (by decide)
    · simp only [Int32.lt_iff_toInt_lt, Int32.le_iff_toInt_le, Int32.reduceToInt, ← Int32.toInt_inj] at h_27
      refine v_iconst hC dX7_isWord_24 (v := 0) (by decide) ?_
      exact hR _ _ _ _ _ _ _ dX7_isWord_25 rfl (Nat.le_of_ble_eq_true rfl) (Nat.le_of_ble_eq_true rfl) ⟨rfl, rfl, (by decide)⟩
set_option maxRecDepth 100000 in
set_option maxHeartbeats 8000000 in
theorem p_J1_canEncode_9a6ad {l : Launch} {E : Ez} {L : List Nat} {f : Nat → va_E} {T : Nat → va_E → Prop} {a_0 : Int32} (hW : WT T L f) : CI l yJ1_canEncode_9a6ad cJ1_canEncode_9a6ad 1 .boolean 0 0 0 E [.int a_0] L f (fun r L1 f1 => L = L1 ∧ f = f1 ∧ (0 ≤ r.toInt ∧ r.toInt ≤ 1) ∧ (r.toInt = 0 ∨ (0 ≤ a_0.toInt ∧ a_0.toInt ≤ 255))) := by
  refine ci_of (by decide) (Nat.le_of_ble_eq_true rfl) (fun z hz hnm hC hR => ?_)
  have hC : Cx z E cJ1_canEncode_9a6ad RJ1 1 0 0 0 := hC
  subst hz
  show V z E 1 0 0 L f 0 [(0, .int a_0)] []
  refine v_iload_n hC dJ1_canEncode_9a6ad_0 rfl ?_
  refine v_if_lt hC dJ1_canEncode_9a6ad_1 (tgt := 15) (by decide) (fun h_1 => ?_) (fun h_1 => ?_)
  · simp only [Int32.lt_iff_toInt_lt, Int32.le_iff_toInt_le, Int32.reduceToInt, ← Int32.toInt_inj] at h_1
    refine v_iconst hC dJ1_canEncode_9a6ad_15 (v := 0) (by decide) ?_
    exact hR _ _ _ _ _ _ _ dJ1_canEncode_9a6ad_16 rfl (Nat.le_of_ble_eq_true rfl) (Nat.le_of_ble_eq_true rfl) ⟨rfl, rfl, (by decide), (.inl (by decide))⟩
  · simp only [Int32.lt_iff_toInt_lt, Int32.le_iff_toInt_le, Int32.reduceToInt, ← Int32.toInt_inj] at h_1
    refine v_iload_n hC dJ1_canEncode_9a6ad_4 rfl ?_
    refine v_sipush hC dJ1_canEncode_9a6ad_5 (v := 255) (by decide) ?_
    refine v_icmp_gt hC dJ1_canEncode_9a6ad_8 (tgt := 15) (by decide) (fun h_2 => ?_) (fun h_2 => ?_)
    · simp only [Int32.lt_iff_toInt_lt, Int32.le_iff_toInt_le, Int32.reduceToInt, ← Int32.toInt_inj] at h_2
      refine v_iconst hC dJ1_canEncode_9a6ad_15 (v := 0) (by decide) ?_
      exact hR _ _ _ _ _ _ _ dJ1_canEncode_9a6ad_16 rfl (Nat.le_of_ble_eq_true rfl) (Nat.le_of_ble_eq_true rfl) ⟨rfl, rfl, (by decide), (.inl (by decide))⟩
    · simp only [Int32.lt_iff_toInt_lt, Int32.le_iff_toInt_le, Int32.reduceToInt, ← Int32.toInt_inj] at h_2
      refine v_iconst hC dJ1_canEncode_9a6ad_11 (v := 1) (by decide) ?_
      refine v_goto hC dJ1_canEncode_9a6ad_12 (tgt := 16) (by decide) ?_
      exact hR _ _ _ _ _ _ _ dJ1_canEncode_9a6ad_16 rfl (Nat.le_of_ble_eq_true rfl) (Nat.le_of_ble_eq_true rfl) ⟨rfl, rfl, (by decide), (.inr (by first | omega | (simp only [Int32.lt_iff_toInt_lt, Int32.le_iff_toInt_le, Int32.reduceToInt, ← Int32.toInt_inj, true_and, and_true, or_true, true_or, false_or, or_false, false_and, and_false, not_true_eq_false, not_false_eq_true] <;> omega)))⟩
set_option maxRecDepth 100000 in
set_option maxHeartbeats 8000000 in
theorem p_J1_indexOfChar_4cfef {l : Launch} {E : Ez} {L : List Nat} {f : Nat → va_E} {T : Nat → va_E → Prop} {a_0 : Nat} {a_1 : Int32} {a_2 : Int32} {a_3 : Int32} (hW : WT T L f) (ha_0 : a_0 < 77) (g_2 : (0 ≤ a_2.toInt ∧ a_2.toInt ≤ 39)) (g_3 : (a_3.toInt ≤ 40)) (hlen : a_3.toInt ≤ ((bytStr.getD a_0 []).length : Int)) : CI l yJ1_indexOfChar_4cfef cJ1_indexOfChar_4cfef 6 .int 0 0 0 E [.ref (eV E a_0), .int a_1, .int a_2, .int a_3] L f (fun r L1 f1 => L = L1 ∧ f = f1 ∧ ((-1) ≤ r.toInt ∧ r.toInt ≤ 39) ∧ (¬ r.toInt = 0 ∨ (1 ≤ a_3.toInt ∧ a_3.toInt ≤ 40))) := by
  refine ci_of (by decide) (Nat.le_of_ble_eq_true rfl) (fun z hz hnm hC hR => ?_)
  have hC : Cx z E cJ1_indexOfChar_4cfef RJ1 6 0 0 0 := hC
  subst hz
  show V z E 6 0 0 L f 0 [(0, .ref (eV E a_0)), (1, .int a_1), (2, .int a_2), (3, .int a_3)] []
  refine v_iload_n hC dJ1_indexOfChar_4cfef_0 rfl ?_
  obtain ⟨v_1, h_2⟩ : ∃ v9 : Int32, a_1.toInt8.toInt32 = v9 := ⟨_, rfl⟩
  refine v_i2b hC dJ1_indexOfChar_4cfef_1 h_2 ?_
  refine v_istore hC dJ1_indexOfChar_4cfef_2 (by decide) (lv' := [(4, .int v_1), (0, .ref (eV E a_0)), (1, .int a_1), (2, .int a_2), (3, .int a_3)]) rfl ?_
  refine v_iload_n hC dJ1_indexOfChar_4cfef_4 rfl ?_
  refine v_istore hC dJ1_indexOfChar_4cfef_5 (by decide) (lv' := [(5, .int a_2), (4, .int v_1), (0, .ref (eV E a_0)), (1, .int a_1), (2, .int a_2), (3, .int a_3)]) rfl ?_
  have lp_34 : ∀ (n_35 : Nat) (i_32 : Int32) (b_33 : (0 ≤ i_32.toInt ∧ i_32.toInt ≤ 40)) (hm_37 : 40 - i_32.toInt < (n_35 : Int)), V z E 6 0 0 L f 7 [(5, .int i_32), (4, .int v_1), (0, .ref (eV E a_0)), (3, .int a_3)] [] := by
    intro n_35
    induction n_35 with
    | zero =>
      intro i_32 b_33 hm_37
      exfalso; omega
    | succ n_35 ih_36 =>
      intro i_32 b_33 hm_37
      refine v_iload hC dJ1_indexOfChar_4cfef_7 rfl ?_
      refine v_iload_n hC dJ1_indexOfChar_4cfef_9 rfl ?_
      refine v_icmp_ge hC dJ1_indexOfChar_4cfef_10 (tgt := 31) (by decide) (fun h_38 => ?_) (fun h_38 => ?_)
      · simp only [Int32.lt_iff_toInt_lt, Int32.le_iff_toInt_le, Int32.reduceToInt, ← Int32.toInt_inj] at h_38
        refine v_iconst hC dJ1_indexOfChar_4cfef_31 (v := (-1)) (by decide) ?_
        exact hR _ _ _ _ _ _ _ dJ1_indexOfChar_4cfef_32 rfl (Nat.le_of_ble_eq_true rfl) (Nat.le_of_ble_eq_true rfl) ⟨rfl, rfl, (by decide), (.inl (by decide))⟩
      · simp only [Int32.lt_iff_toInt_lt, Int32.le_iff_toInt_le, Int32.reduceToInt, ← Int32.toInt_inj] at h_38
        refine v_aload_n hC dJ1_indexOfChar_4cfef_13 rfl ?_
        refine v_iload hC dJ1_indexOfChar_4cfef_14 rfl ?_
        obtain ⟨v_39, h_40⟩ : ∃ v9 : Int32, (bytStr.getD a_0 []).getD (i_32 : Int32).toNatClampNeg 0 = v9 := ⟨_, rfl⟩
        refine v_baldS hC ha_0 (vp_in_iff.mpr (by first | omega | (simp only [Int32.lt_iff_toInt_lt, Int32.le_iff_toInt_le, Int32.reduceToInt, ← Int32.toInt_inj, true_and, and_true, or_true, true_or, false_or, or_false, false_and, and_false, not_true_eq_false, not_false_eq_true] <;> omega))) h_40 dJ1_indexOfChar_4cfef_16 ?_
        refine v_iload hC dJ1_indexOfChar_4cfef_17 rfl ?_
        refine v_icmp_ne hC dJ1_indexOfChar_4cfef_19 (tgt := 25) (by decide) (fun h_41 => ?_) (fun h_41 => ?_)
        · simp only [Int32.lt_iff_toInt_lt, Int32.le_iff_toInt_le, Int32.reduceToInt, ← Int32.toInt_inj] at h_41
          obtain ⟨v_42, h_43⟩ : ∃ v9 : Int32, i_32 + Int32.ofInt 1 = v9 := ⟨_, rfl⟩
          have h_44 := add_v (b := 1) h_43 (by first | omega | (simp only [Int32.lt_iff_toInt_lt, Int32.le_iff_toInt_le, Int32.reduceToInt, ← Int32.toInt_inj, true_and, and_true, or_true, true_or, false_or, or_false, false_and, and_false, not_true_eq_false, not_false_eq_true] <;> omega)) (by first | omega | (simp only [Int32.lt_iff_toInt_lt, Int32.le_iff_toInt_le, Int32.reduceToInt, ← Int32.toInt_inj, true_and, and_true, or_true, true_or, false_or, or_false, false_and, and_false, not_true_eq_false, not_false_eq_true] <;> omega))
          simp only [Int32.reduceToInt] at h_44
          refine v_iinc hC dJ1_indexOfChar_4cfef_25 (k := 0) rfl (v := v_42) h_43 (by decide) (lv' := [(5, .int v_42), (4, .int v_1), (0, .ref (eV E a_0)), (3, .int a_3)]) rfl ?_
          refine v_goto hC dJ1_indexOfChar_4cfef_28 (tgt := 7) (by decide) ?_
          refine v_pick [0, 1, 2, 3] rfl ?_
          exact ih_36 v_42 (by first | omega | (simp only [Int32.lt_iff_toInt_lt, Int32.le_iff_toInt_le, Int32.reduceToInt, ← Int32.toInt_inj, true_and, and_true, or_true, true_or, false_or, or_false, false_and, and_false, not_true_eq_false, not_false_eq_true] <;> omega)) (by first | omega | (simp only [Int32.lt_iff_toInt_lt, Int32.le_iff_toInt_le, Int32.reduceToInt, ← Int32.toInt_inj, true_and, and_true, or_true, true_or, false_or, or_false, false_and, and_false, not_true_eq_false, not_false_eq_true] <;> omega))
        · simp only [Int32.lt_iff_toInt_lt, Int32.le_iff_toInt_le, Int32.reduceToInt, ← Int32.toInt_inj] at h_41
          refine v_iload hC dJ1_indexOfChar_4cfef_22 rfl ?_
          exact hR _ _ _ _ _ _ _ dJ1_indexOfChar_4cfef_24 rfl (Nat.le_of_ble_eq_true rfl) (Nat.le_of_ble_eq_true rfl) ⟨rfl, rfl, (by first | omega | (simp only [Int32.lt_iff_toInt_lt, Int32.le_iff_toInt_le, Int32.reduceToInt, ← Int32.toInt_inj, true_and, and_true, or_true, true_or, false_or, or_false, false_and, and_false, not_true_eq_false, not_false_eq_true] <;> omega)), (.inr (by first | omega | (simp only [Int32.lt_iff_toInt_lt, Int32.le_iff_toInt_le, Int32.reduceToInt, ← Int32.toInt_inj, true_and, and_true, or_true, true_or, false_or, or_false, false_and, and_false, not_true_eq_false, not_false_eq_true] <;> omega)))⟩
  refine v_pick [0, 1, 2, 5] rfl ?_
  exact lp_34 42 a_2 (by first | omega | (simp only [Int32.lt_iff_toInt_lt, Int32.le_iff_toInt_le, Int32.reduceToInt, ← Int32.toInt_inj, true_and, and_true, or_true, true_or, false_or, or_false, false_and, and_false, not_true_eq_false, not_false_eq_true] <;> omega)) (by first | omega | (simp only [Int32.lt_iff_toInt_lt, Int32.le_iff_toInt_le, Int32.reduceToInt, ← Int32.toInt_inj, true_and, and_true, or_true, true_or, false_or, or_false, false_and, and_false, not_true_eq_false, not_false_eq_true] <;> omega))
set_option maxRecDepth 100000 in
set_option maxHeartbeats 8000000 in
theorem p_J1_indexOf_4cfef {l : Launch} {E : Ez} {L : List Nat} {f : Nat → va_E} {T : Nat → va_E → Prop} {a_0 : Nat} {a_1 : Int32} {a_2 : Int32} {a_3 : Int32} (hW : WT T L f) (ha_0 : a_0 < 77) : CI l yJ1_indexOf_4cfef cJ1_indexOf_4cfef 4 .int 1 0 0 E [.ref (eV E a_0), .int a_1, .int a_2, .int a_3] L f (fun r L1 f1 => L = L1 ∧ f = f1 ∧ ((-1) ≤ r.toInt ∧ r.toInt ≤ 39) ∧ (¬ r.toInt = 0 ∨ (0 ≤ a_1.toInt ∧ a_1.toInt ≤ 255))) := by
  refine ci_of (by decide) (Nat.le_of_ble_eq_true rfl) (fun z hz hnm hC hR => ?_)
  have hC : Cx z E cJ1_indexOf_4cfef RJ1 4 1 0 0 := hC
  subst hz
  show V z E 4 0 0 L f 0 [(0, .ref (eV E a_0)), (1, .int a_1), (2, .int a_2), (3, .int a_3)] []
  refine v_iload_n hC dJ1_indexOf_4cfef_0 rfl ?_
  refine v_si hC (rest := []) mt_J1_canEncode_9a6ad (p_J1_canEncode_9a6ad hW) mx_J1_canEncode_9a6ad ml_J1_88 (by decide) rfl (cells1 := 0) (slots1 := 0) (by decide) (by decide) (Nat.le_of_ble_eq_true rfl) (Nat.le_of_ble_eq_true rfl) rfl (Nat.le_of_ble_eq_true rfl) dJ1_indexOf_4cfef_1 (fun r_1 L_2 f_3 h_4 => ?_)
  obtain ⟨rfl, rfl, b_5, h_6⟩ := h_4
  refine v_if_ne hC dJ1_indexOf_4cfef_4 (tgt := 9) (by decide) (fun h_9 => ?_) (fun h_9 => ?_)
  · simp only [Int32.lt_iff_toInt_lt, Int32.le_iff_toInt_le, Int32.reduceToInt, ← Int32.toInt_inj] at h_9
    refine v_iload_n hC dJ1_indexOf_4cfef_9 rfl ?_
    refine v_iconst hC dJ1_indexOf_4cfef_10 (v := 0) (by decide) ?_
    obtain ⟨v_10, h_11⟩ : ∃ v9 : Int32, (if (a_2 : Int32) < 0 then 0 else (a_2 : Int32)) = v9 := ⟨_, rfl⟩
    refine v_mmax hC mm_J1_92 mm_smax mm_i mm_cmax (by decide) (Nat.le_of_ble_eq_true rfl) (Nat.le_of_ble_eq_true rfl) (Nat.le_of_ble_eq_true rfl) h_11 dJ1_indexOf_4cfef_11 ?_
    have b_12 := max_v h_11
    try simp only [Int32.reduceToInt] at b_12
    refine v_istore_n hC dJ1_indexOf_4cfef_14 (by decide) (lv' := [(2, .int v_10), (0, .ref (eV E a_0)), (1, .int a_1), (3, .int a_3)]) rfl ?_
    refine v_iload_n hC dJ1_indexOf_4cfef_15 rfl ?_
    refine v_aload_n hC dJ1_indexOf_4cfef_16 rfl ?_
    obtain ⟨v_13, h_14⟩ : ∃ v9 : Int32, nI (bytStr.getD a_0 []).length = v9 := ⟨_, rfl⟩
    refine v_alenS hC ha_0 dJ1_indexOf_4cfef_17 ?_
    have b_15 := len_v ha_0
    rw [h_14] at b_15 ⊢
    obtain ⟨v_16, h_17⟩ : ∃ v9 : Int32, (if v_13 < (a_3 : Int32) then v_13 else (a_3 : Int32)) = v9 := ⟨_, rfl⟩
    refine v_mmin hC mm_J1_38 mm_smin mm_i mm_cmin (by decide) (Nat.le_of_ble_eq_true rfl) (Nat.le_of_ble_eq_true rfl) (Nat.le_of_ble_eq_true rfl) h_17 dJ1_indexOf_4cfef_18 ?_
    have b_18 := min_v h_17
    try simp only [Int32.reduceToInt] at b_18
    refine v_istore_n hC dJ1_indexOf_4cfef_21 (by decide) (lv' := [(3, .int v_16), (2, .int v_10), (0, .ref (eV E a_0)), (1, .int a_1)]) rfl ?_
    refine v_iload_n hC dJ1_indexOf_4cfef_22 rfl ?_
    refine v_iload_n hC dJ1_indexOf_4cfef_23 rfl ?_
    refine v_icmp_lt hC dJ1_indexOf_4cfef_24 (tgt := 29) (by decide) (fun h_19 => ?_) (fun h_19 => ?_)
    · simp only [Int32.lt_iff_toInt_lt, Int32.le_iff_toInt_le, Int32.reduceToInt, ← Int32.toInt_inj] at h_19
      refine v_aload_n hC dJ1_indexOf_4cfef_29 rfl ?_
      refine v_iload_n hC dJ1_indexOf_4cfef_30 rfl ?_
      refine v_iload_n hC dJ1_indexOf_4cfef_31 rfl ?_
      refine v_iload_n hC dJ1_indexOf_4cfef_32 rfl ?_
      refine v_si hC (rest := []) mt_J1_indexOfChar_4cfef (p_J1_indexOfChar_4cfef hW ha_0 (by first | omega | (simp only [Int32.lt_iff_toInt_lt, Int32.le_iff_toInt_le, Int32.reduceToInt, ← Int32.toInt_inj, true_and, and_true, or_true, true_or, false_or, or_false, false_and, and_false, not_true_eq_false, not_false_eq_true] <;> omega)) (by first | omega | (simp only [Int32.lt_iff_toInt_lt, Int32.le_iff_toInt_le, Int32.reduceToInt, ← Int32.toInt_inj, true_and, and_true, or_true, true_or, false_or, or_false, false_and, and_false, not_true_eq_false, not_false_eq_true] <;> omega)) (by first | omega | (simp only [Int32.lt_iff_toInt_lt, Int32.le_iff_toInt_le, Int32.reduceToInt, ← Int32.toInt_inj, true_and, and_true, or_true, true_or, false_or, or_false, false_and, and_false, not_true_eq_false, not_false_eq_true] <;> omega))) mx_J1_indexOfChar_4cfef ml_J1_95 (by decide) rfl (cells1 := 0) (slots1 := 0) (by decide) (by decide) (Nat.le_of_ble_eq_true rfl) (Nat.le_of_ble_eq_true rfl) rfl (Nat.le_of_ble_eq_true rfl) dJ1_indexOf_4cfef_33 (fun r_20 L_21 f_22 h_23 => ?_)
      obtain ⟨rfl, rfl, b_24, h_25⟩ := h_23
      exact hR _ _ _ _ _ _ _ dJ1_indexOf_4cfef_36 rfl (Nat.le_of_ble_eq_true rfl) (Nat.le_of_ble_eq_true rfl) ⟨rfl, rfl, (by first | omega | (simp only [Int32.lt_iff_toInt_lt, Int32.le_iff_toInt_le, Int32.reduceToInt, ← Int32.toInt_inj, true_and, and_true, or_true, true_or, false_or, or_false, false_and, and_false, not_true_eq_false, not_false_eq_true] <;> omega)), (.inr (by first | omega | (simp only [Int32.lt_iff_toInt_lt, Int32.le_iff_toInt_le, Int32.reduceToInt, ← Int32.toInt_inj, true_and, and_true, or_true, true_or, false_or, or_false, false_and, and_false, not_true_eq_false, not_false_eq_true] <;> omega)))⟩
    · simp only [Int32.lt_iff_toInt_lt, Int32.le_iff_toInt_le, Int32.reduceToInt, ← Int32.toInt_inj] at h_19
      refine v_iconst hC dJ1_indexOf_4cfef_27 (v := (-1)) (by decide) ?_
      exact hR _ _ _ _ _ _ _ dJ1_indexOf_4cfef_28 rfl (Nat.le_of_ble_eq_true rfl) (Nat.le_of_ble_eq_true rfl) ⟨rfl, rfl, (by decide), (.inl (by decide))⟩
  · simp only [Int32.lt_iff_toInt_lt, Int32.le_iff_toInt_le, Int32.reduceToInt, ← Int32.toInt_inj] at h_9
    refine v_iconst hC dJ1_indexOf_4cfef_7 (v := (-1)) (by decide) ?_
    exact hR _ _ _ _ _ _ _ dJ1_indexOf_4cfef_8 rfl (Nat.le_of_ble_eq_true rfl) (Nat.le_of_ble_eq_true rfl) ⟨rfl, rfl, (by decide), (.inl (by decide))⟩
set_option maxRecDepth 100000 in
set_option maxHeartbeats 8000000 in
theorem p_J0_indexOf_7cf53 {l : Launch} {E : Ez} {L : List Nat} {f : Nat → va_E} {T : Nat → va_E → Prop} {a_0 : Nat} {a_1 : Int32} {a_2 : Int32} (hW : WT T L f) (ha_0 : a_0 < 77) : CI l yJ0_indexOf_7cf53 cJ0_indexOf_7cf53 3 .int 2 0 0 E [.ref (eK E a_0), .int a_1, .int a_2] L f (fun r L1 f1 => L = L1 ∧ f = f1 ∧ ((-1) ≤ r.toInt ∧ r.toInt ≤ 39) ∧ (¬ r.toInt = 0 ∨ (0 ≤ a_1.toInt ∧ a_1.toInt ≤ 255))) := by
  refine ci_of (by decide) (Nat.le_of_ble_eq_true rfl) (fun z hz hnm hC hR => ?_)
  have hC : Cx z E cJ0_indexOf_7cf53 RJ0 3 2 0 0 := hC
  subst hz
  show V z E 3 0 0 L f 0 [(0, .ref (eK E a_0)), (1, .int a_1), (2, .int a_2)] []
  refine v_aload_n hC dJ0_indexOf_7cf53_0 rfl ?_
  refine v_viS hC (rest := []) ha_0 rfl mi_J0_isLatin1_aae02 ms_J0_isLatin1_aae02 (p_J0_isLatin1_aae02 hW ha_0) mx_J0_isLatin1_aae02 ml_J0_492 (by decide) rfl (cells1 := 0) (slots1 := 0) (by decide) (by decide) (Nat.le_of_ble_eq_true rfl) (Nat.le_of_ble_eq_true rfl) rfl (Nat.le_of_ble_eq_true rfl) dJ0_indexOf_7cf53_1 (fun r_1 L_2 f_3 h_4 => ?_)
  obtain ⟨rfl, rfl, b_5⟩ := h_4
  obtain rfl : r_1 = 1 := Int32.toInt_inj.mp (by simp only [Int32.reduceToInt]; omega)
  refine v_if_eq_f hC dJ0_indexOf_7cf53_4 (tgt := 23) (by decide) (by decide) ?_
  refine v_aload_n hC dJ0_indexOf_7cf53_7 rfl ?_
  refine v_getSv hC ha_0 sf_J0_9 dJ0_indexOf_7cf53_8 ?_
  refine v_iload_n hC dJ0_indexOf_7cf53_11 rfl ?_
  refine v_iload_n hC dJ0_indexOf_7cf53_12 rfl ?_
  refine v_aload_n hC dJ0_indexOf_7cf53_13 rfl ?_
  refine v_viS hC (rest := [.int a_2, .int a_1, .ref (eV E a_0)]) ha_0 rfl mi_J0_length_8abf5 ms_J0_length_8abf5 (p_J0_length_8abf5 hW ha_0) mx_J0_length_8abf5 ml_J0_505 (by decide) rfl (cells1 := 0) (slots1 := 0) (by decide) (by decide) (Nat.le_of_ble_eq_true rfl) (Nat.le_of_ble_eq_true rfl) rfl (Nat.le_of_ble_eq_true rfl) dJ0_indexOf_7cf53_14 (fun r_8 L_9 f_10 h_11 => ?_)
  obtain ⟨rfl, rfl, b_12, x_13⟩ := h_11
  try simp only [Int32.reduceToInt, Int64.reduceToInt] at x_13
  refine v_si hC (rest := []) mt_J1_indexOf_4cfef (p_J1_indexOf_4cfef hW ha_0) mx_J1_indexOf_4cfef ml_J0_637 (by decide) rfl (cells1 := 0) (slots1 := 0) (by decide) (by decide) (Nat.le_of_ble_eq_true rfl) (Nat.le_of_ble_eq_true rfl) rfl (Nat.le_of_ble_eq_true rfl) dJ0_indexOf_7cf53_17 (fun r_16 L_17 f_18 h_19 => ?_)
  obtain ⟨rfl, rfl, b_20, h_21⟩ := h_19
  refine v_goto hC dJ0_indexOf_7cf53_20 (tgt := 36) (by decide) ?_
  exact hR _ _ _ _ _ _ _ dJ0_indexOf_7cf53_36 rfl (Nat.le_of_ble_eq_true rfl) (Nat.le_of_ble_eq_true rfl) ⟨rfl, rfl, (by first | omega | (simp only [Int32.lt_iff_toInt_lt, Int32.le_iff_toInt_le, Int32.reduceToInt, ← Int32.toInt_inj, true_and, and_true, or_true, true_or, false_or, or_false, false_and, and_false, not_true_eq_false, not_false_eq_true] <;> omega)), (by first | omega | (simp only [Int32.lt_iff_toInt_lt, Int32.le_iff_toInt_le, Int32.reduceToInt, ← Int32.toInt_inj, true_and, and_true, or_true, true_or, false_or, or_false, false_and, and_false, not_true_eq_false, not_false_eq_true] <;> omega))⟩
set_option maxRecDepth 100000 in
set_option maxHeartbeats 8000000 in
theorem p_J0_indexOf_0f7a4 {l : Launch} {E : Ez} {L : List Nat} {f : Nat → va_E} {T : Nat → va_E → Prop} {a_0 : Nat} {a_1 : Int32} (hW : WT T L f) (ha_0 : a_0 < 77) : CI l yJ0_indexOf_0f7a4 cJ0_indexOf_0f7a4 2 .int 3 0 0 E [.ref (eK E a_0), .int a_1] L f (fun r L1 f1 => L = L1 ∧ f = f1 ∧ ((-1) ≤ r.toInt ∧ r.toInt ≤ 39) ∧ (¬ r.toInt = 0 ∨ (0 ≤ a_1.toInt ∧ a_1.toInt ≤ 255))) := by
  refine ci_of (by decide) (Nat.le_of_ble_eq_true rfl) (fun z hz hnm hC hR => ?_)
  have hC : Cx z E cJ0_indexOf_0f7a4 RJ0 2 3 0 0 := hC
  subst hz
  show V z E 2 0 0 L f 0 [(0, .ref (eK E a_0)), (1, .int a_1)] []
  refine v_aload_n hC dJ0_indexOf_0f7a4_0 rfl ?_
  refine v_iload_n hC dJ0_indexOf_0f7a4_1 rfl ?_
  refine v_iconst hC dJ0_indexOf_0f7a4_2 (v := 0) (by decide) ?_
  refine v_viS hC (rest := []) ha_0 rfl mi_J0_indexOf_7cf53 ms_J0_indexOf_7cf53 (p_J0_indexOf_7cf53 hW ha_0) mx_J0_indexOf_7cf53 ml_J0_633 (by decide) rfl (cells1 := 0) (slots1 := 0) (by decide) (by decide) (Nat.le_of_ble_eq_true rfl) (Nat.le_of_ble_eq_true rfl) rfl (Nat.le_of_ble_eq_true rfl) dJ0_indexOf_0f7a4_3 (fun r_1 L_2 f_3 h_4 => ?_)
  obtain ⟨rfl, rfl, b_5, h_6⟩ := h_4
  exact hR _ _ _ _ _ _ _ dJ0_indexOf_0f7a4_6 rfl (Nat.le_of_ble_eq_true rfl) (Nat.le_of_ble_eq_true rfl) ⟨rfl, rfl, (by first | omega | (simp only [Int32.lt_iff_toInt_lt, Int32.le_iff_toInt_le, Int32.reduceToInt, ← Int32.toInt_inj, true_and, and_true, or_true, true_or, false_or, or_false, false_and, and_false, not_true_eq_false, not_false_eq_true] <;> omega)), (by first | omega | (simp only [Int32.lt_iff_toInt_lt, Int32.le_iff_toInt_le, Int32.reduceToInt, ← Int32.toInt_inj, true_and, and_true, or_true, true_or, false_or, or_false, false_and, and_false, not_true_eq_false, not_false_eq_true] <;> omega))⟩
set_option maxRecDepth 100000 in
set_option maxHeartbeats 8000000 in
theorem p_X7_isWordOf {l : Launch} {E : Ez} {L : List Nat} {f : Nat → va_E} {T : Nat → va_E → Prop} {a_0 : Nat} {a_1 : Nat} (hW : WT T L f) (k_0 : isTape T L E a_0) (ha_1 : a_1 < 77) : CI l yX7_isWordOf cX7_isWordOf 3 .boolean 4 0 0 E [.ref a_0, .ref (eK E a_1)] L f (fun r L1 f1 => L = L1 ∧ f = f1 ∧ (0 ≤ r.toInt ∧ r.toInt ≤ 1)) := by
  refine ci_of (by decide) (Nat.le_of_ble_eq_true rfl) (fun z hz hnm hC hR => ?_)
  have hC : Cx z E cX7_isWordOf RX7 3 4 0 0 := hC
  subst hz
  show V z E 3 0 0 L f 0 [(0, .ref a_0), (1, .ref (eK E a_1))] []
  refine v_aload_n hC dX7_isWordOf_0 rfl ?_
  obtain ⟨m_1, q_3, t_2, k_4⟩ := id k_0
  obtain ⟨v_6, v_8, v_9, v_11, v_13, v_14, e_5, b_7, b_10, b_12⟩ := hW.at m_1 t_2
  refine v_get hC fl_X7_38 m_1 e_5 rfl dX7_isWordOf_1 ?_
  refine v_istore_n hC dX7_isWordOf_4 (by decide) (lv' := [(2, .int v_9), (0, .ref a_0), (1, .ref (eK E a_1))]) rfl ?_
  have lp_95 : ∀ (n_96 : Nat) (i_93 : Int32) (b_94 : (0 ≤ i_93.toInt ∧ i_93.toInt ≤ 600)) (hm_98 : 600 - i_93.toInt < (n_96 : Int)), V z E 3 0 0 L f 5 [(2, .int i_93), (0, .ref a_0), (1, .ref (eK E a_1))] [] := by
    intro n_96
    induction n_96 with
    | zero =>
      intro i_93 b_94 hm_98
      exfalso; omega
    | succ n_96 ih_97 =>
      intro i_93 b_94 hm_98
      refine v_iload_n hC dX7_isWordOf_5 rfl ?_
      refine v_aload_n hC dX7_isWordOf_6 rfl ?_
      refine v_get hC fl_X7_25 m_1 e_5 rfl dX7_isWordOf_7 ?_
      refine v_icmp_ge hC dX7_isWordOf_10 (tgt := 34) (by decide) (fun h_99 => ?_) (fun h_99 => ?_)
      · simp only [Int32.lt_iff_toInt_lt, Int32.le_iff_toInt_le, Int32.reduceToInt, ← Int32.toInt_inj] at h_99
        refine v_aload_n hC dX7_isWordOf_34 rfl ?_
        refine v_get hC fl_X7_35 m_1 e_5 rfl dX7_isWordOf_35 ?_
        refine v_iconst hC dX7_isWordOf_38 (v := 1) (by decide) ?_
        refine v_icmp_ne hC dX7_isWordOf_39 (tgt := 46) (by decide) (fun h_100 => ?_) (fun h_100 => ?_)
        · simp only [Int32.lt_iff_toInt_lt, Int32.le_iff_toInt_le, Int32.reduceToInt, ← Int32.toInt_inj] at h_100
          refine v_iconst hC dX7_isWordOf_46 (v := 0) (by decide) ?_
          exact hR _ _ _ _ _ _ _ dX7_isWordOf_47 rfl (Nat.le_of_ble_eq_true rfl) (Nat.le_of_ble_eq_true rfl) ⟨rfl, rfl, (by decide)⟩
        · simp only [Int32.lt_iff_toInt_lt, Int32.le_iff_toInt_le, Int32.reduceToInt, ← Int32.toInt_inj] at h_100
          refine v_iconst hC dX7_isWordOf_42 (v := 1) (by decide) ?_
          refine v_goto hC dX7_isWordOf_43 (tgt := 47) (by decide) ?_
          exact hR _ _ _ _ _ _ _ dX7_isWordOf_47 rfl (Nat.le_of_ble_eq_true rfl) (Nat.le_of_ble_eq_true rfl) ⟨rfl, rfl, (by decide)⟩
      · simp only [Int32.lt_iff_toInt_lt, Int32.le_iff_toInt_le, Int32.reduceToInt, ← Int32.toInt_inj] at h_99
        refine v_aload_n hC dX7_isWordOf_13 rfl ?_
        refine v_aload_n hC dX7_isWordOf_14 rfl ?_
        refine v_iload_n hC dX7_isWordOf_15 rfl ?_
        refine v_vi hC (rest := [.ref (eK E a_1)]) m_1 e_5 rfl mi_X7_byteAt ms_X7_byteAt (p_X7_byteAt hW k_0) mx_X7_byteAt ml_X7_41 (by decide) rfl (cells1 := 0) (slots1 := 0) (by decide) (by decide) (Nat.le_of_ble_eq_true rfl) (Nat.le_of_ble_eq_true rfl) rfl (Nat.le_of_ble_eq_true rfl) dX7_isWordOf_16 (fun r_101 L_102 f_103 h_104 => ?_)
        obtain ⟨rfl, rfl, h_105⟩ := h_104
        obtain ⟨v_108, h_109⟩ : ∃ v9 : Int32, (r_101.toUInt32 % 65536).toInt32 = v9 := ⟨_, rfl⟩
        refine v_i2c hC dX7_isWordOf_19 h_109 ?_
        refine v_viS hC (rest := []) ha_1 rfl mi_J0_indexOf_0f7a4 ms_J0_indexOf_0f7a4 (p_J0_indexOf_0f7a4 hW ha_1) mx_J0_indexOf_0f7a4 ml_X7_74 (by decide) rfl (cells1 := 0) (slots1 := 0) (by decide) (by decide) (Nat.le_of_ble_eq_true rfl) (Nat.le_of_ble_eq_true rfl) rfl (Nat.le_of_ble_eq_true rfl) dX7_isWordOf_20 (fun r_110 L_111 f_112 h_113 => ?_)
        obtain ⟨rfl, rfl, b_114, h_115⟩ := h_113
        refine v_if_ge hC dX7_isWordOf_23 (tgt := 28) (by decide) (fun h_118 => ?_) (fun h_118 => ?_)
        · simp only [Int32.lt_iff_toInt_lt, Int32.le_iff_toInt_le, Int32.reduceToInt, ← Int32.toInt_inj] at h_118
          obtain ⟨v_119, h_120⟩ : ∃ v9 : Int32, i_93 + Int32.ofInt 1 = v9 := ⟨_, rfl⟩
          have h_121 := add_v (b := 1) h_120 (by first | omega | (simp only [Int32.lt_iff_toInt_lt, Int32.le_iff_toInt_le, Int32.reduceToInt, ← Int32.toInt_inj, true_and, and_true, or_true, true_or, false_or, or_false, false_and, and_false, not_true_eq_false, not_false_eq_true] <;> omega)) (by first | omega | (simp only [Int32.lt_iff_toInt_lt, Int32.le_iff_toInt_le, Int32.reduceToInt, ← Int32.toInt_inj, true_and, and_true, or_true, true_or, false_or, or_false, false_and, and_false, not_true_eq_false, not_false_eq_true] <;> omega))
          simp only [Int32.reduceToInt] at h_121
          refine v_iinc hC dX7_isWordOf_28 (k := 0) rfl (v := v_119) h_120 (by decide) (lv' := [(2, .int v_119), (0, .ref a_0), (1, .ref (eK E a_1))]) rfl ?_
          refine v_goto hC dX7_isWordOf_31 (tgt := 5) (by decide) ?_
          refine v_pick [0, 1, 2] rfl ?_
          exact ih_97 v_119 (by first | omega | (simp only [Int32.lt_iff_toInt_lt, Int32.le_iff_toInt_le, Int32.reduceToInt, ← Int32.toInt_inj, true_and, and_true, or_true, true_or, false_or, or_false, false_and, and_false, not_true_eq_false, not_false_eq_true] <;> omega)) (by first | omega | (simp only [Int32.lt_iff_toInt_lt, Int32.le_iff_toInt_le, Int32.reduceToInt, ← Int32.toInt_inj, true_and, and_true, or_true, true_or, false_or, or_false, false_and, and_false, not_true_eq_false, not_false_eq_true] <;> omega))
        · simp only [Int32.lt_iff_toInt_lt, Int32.le_iff_toInt_le, Int32.reduceToInt, ← Int32.toInt_inj] at h_118
          refine v_iconst hC dX7_isWordOf_26 (v := 0) (by decide) ?_
          exact hR _ _ _ _ _ _ _ dX7_isWordOf_27 rfl (Nat.le_of_ble_eq_true rfl) (Nat.le_of_ble_eq_true rfl) ⟨rfl, rfl, (by decide)⟩
  refine v_pick [0, 1, 2] rfl ?_
  exact lp_95 602 v_9 (by first | omega | (simp only [Int32.lt_iff_toInt_lt, Int32.le_iff_toInt_le, Int32.reduceToInt, ← Int32.toInt_inj, true_and, and_true, or_true, true_or, false_or, or_false, false_and, and_false, not_true_eq_false, not_false_eq_true] <;> omega)) (by first | omega | (simp only [Int32.lt_iff_toInt_lt, Int32.le_iff_toInt_le, Int32.reduceToInt, ← Int32.toInt_inj, true_and, and_true, or_true, true_or, false_or, or_false, false_and, and_false, not_true_eq_false, not_false_eq_true] <;> omega))
set_option maxRecDepth 100000 in
set_option maxHeartbeats 8000000 in
theorem p_X7_wordLength {l : Launch} {E : Ez} {L : List Nat} {f : Nat → va_E} {T : Nat → va_E → Prop} {a_0 : Nat} (hW : WT T L f) (k_0 : isTape T L E a_0) : CI l yX7_wordLength cX7_wordLength 1 .int 0 0 0 E [.ref a_0] L f (fun r L1 f1 => L = L1 ∧ f = f1 ∧ ((-600) ≤ r.toInt ∧ r.toInt ≤ 600)) := by
  refine ci_of (by decide) (Nat.le_of_ble_eq_true rfl) (fun z hz hnm hC hR => ?_)
  have hC : Cx z E cX7_wordLength RX7 1 0 0 0 := hC
  subst hz
  show V z E 1 0 0 L f 0 [(0, .ref a_0)] []
  refine v_aload_n hC dX7_wordLength_0 rfl ?_
  obtain ⟨m_1, q_3, t_2, k_4⟩ := id k_0
  obtain ⟨v_6, v_8, v_9, v_11, v_13, v_14, e_5, b_7, b_10, b_12⟩ := hW.at m_1 t_2
  refine v_get hC fl_X7_35 m_1 e_5 rfl dX7_wordLength_1 ?_
  refine v_iconst hC dX7_wordLength_4 (v := 1) (by decide) ?_
  refine v_icmp_ne hC dX7_wordLength_5 (tgt := 20) (by decide) (fun h_15 => ?_) (fun h_15 => ?_)
  · simp only [Int32.lt_iff_toInt_lt, Int32.le_iff_toInt_le, Int32.reduceToInt, ← Int32.toInt_inj] at h_15
    refine v_iconst hC dX7_wordLength_20 (v := 0) (by decide) ?_
    exact hR _ _ _ _ _ _ _ dX7_wordLength_21 rfl (Nat.le_of_ble_eq_true rfl) (Nat.le_of_ble_eq_true rfl) ⟨rfl, rfl, (by decide)⟩
  · simp only [Int32.lt_iff_toInt_lt, Int32.le_iff_toInt_le, Int32.reduceToInt, ← Int32.toInt_inj] at h_15
    refine v_aload_n hC dX7_wordLength_8 rfl ?_
    refine v_get hC fl_X7_25 m_1 e_5 rfl dX7_wordLength_9 ?_
    refine v_aload_n hC dX7_wordLength_12 rfl ?_
    refine v_get hC fl_X7_38 m_1 e_5 rfl dX7_wordLength_13 ?_
    obtain ⟨v_16, h_17⟩ : ∃ v9 : Int32, v_11 - v_9 = v9 := ⟨_, rfl⟩
    refine v_isub hC dX7_wordLength_16 h_17 ?_
    have h_18 := sub_v h_17 (by first | omega | (simp only [Int32.lt_iff_toInt_lt, Int32.le_iff_toInt_le, Int32.reduceToInt, ← Int32.toInt_inj, true_and, and_true, or_true, true_or, false_or, or_false, false_and, and_false, not_true_eq_false, not_false_eq_true] <;> omega)) (by first | omega | (simp only [Int32.lt_iff_toInt_lt, Int32.le_iff_toInt_le, Int32.reduceToInt, ← Int32.toInt_inj, true_and, and_true, or_true, true_or, false_or, or_false, false_and, and_false, not_true_eq_false, not_false_eq_true] <;> omega))
    refine v_goto hC dX7_wordLength_17 (tgt := 21) (by decide) ?_
    exact hR _ _ _ _ _ _ _ dX7_wordLength_21 rfl (Nat.le_of_ble_eq_true rfl) (Nat.le_of_ble_eq_true rfl) ⟨rfl, rfl, (by first | omega | (simp only [Int32.lt_iff_toInt_lt, Int32.le_iff_toInt_le, Int32.reduceToInt, ← Int32.toInt_inj, true_and, and_true, or_true, true_or, false_or, or_false, false_and, and_false, not_true_eq_false, not_false_eq_true] <;> omega))⟩
set_option maxRecDepth 100000 in
set_option maxHeartbeats 8000000 in
theorem p_X7_signOfWord {l : Launch} {E : Ez} {L : List Nat} {f : Nat → va_E} {T : Nat → va_E → Prop} {a_0 : Nat} {a_1 : Int32} {a_2 : Nat} (hW : WT T L f) (k_0 : isTape T L E a_0) (ha_2 : a_2 < 77) : CI l yX7_signOfWord cX7_signOfWord 3 .int 4 0 0 E [.ref a_0, .int a_1, .ref (eK E a_2)] L f (fun r L1 f1 => L = L1 ∧ f = f1 ∧ ((-1) ≤ r.toInt ∧ r.toInt ≤ 39)) := by
  refine ci_of (by decide) (Nat.le_of_ble_eq_true rfl) (fun z hz hnm hC hR => ?_)
  have hC : Cx z E cX7_signOfWord RX7 3 4 0 0 := hC
  subst hz
  show V z E 3 0 0 L f 0 [(0, .ref a_0), (1, .int a_1), (2, .ref (eK E a_2))] []
  refine v_aload_n hC dX7_signOfWord_0 rfl ?_
  refine v_aload_n hC dX7_signOfWord_1 rfl ?_
  refine v_aload_n hC dX7_signOfWord_2 rfl ?_
  obtain ⟨m_1, q_3, t_2, k_4⟩ := id k_0
  obtain ⟨v_6, v_8, v_9, v_11, v_13, v_14, e_5, b_7, b_10, b_12⟩ := hW.at m_1 t_2
  refine v_get hC fl_X7_38 m_1 e_5 rfl dX7_signOfWord_3 ?_
  refine v_iload_n hC dX7_signOfWord_6 rfl ?_
  obtain ⟨v_15, h_16⟩ : ∃ v9 : Int32, v_9 + a_1 = v9 := ⟨_, rfl⟩
  refine v_iadd hC dX7_signOfWord_7 h_16 ?_
  refine v_vi hC (rest := [.ref (eK E a_2)]) m_1 e_5 rfl mi_X7_byteAt ms_X7_byteAt (p_X7_byteAt hW k_0) mx_X7_byteAt ml_X7_41 (by decide) rfl (cells1 := 0) (slots1 := 0) (by decide) (by decide) (Nat.le_of_ble_eq_true rfl) (Nat.le_of_ble_eq_true rfl) rfl (Nat.le_of_ble_eq_true rfl) dX7_signOfWord_8 (fun r_18 L_19 f_20 h_21 => ?_)
  obtain ⟨rfl, rfl, h_22⟩ := h_21
  obtain ⟨v_25, h_26⟩ : ∃ v9 : Int32, (r_18.toUInt32 % 65536).toInt32 = v9 := ⟨_, rfl⟩
  refine v_i2c hC dX7_signOfWord_11 h_26 ?_
  refine v_viS hC (rest := []) ha_2 rfl mi_J0_indexOf_0f7a4 ms_J0_indexOf_0f7a4 (p_J0_indexOf_0f7a4 hW ha_2) mx_J0_indexOf_0f7a4 ml_X7_74 (by decide) rfl (cells1 := 0) (slots1 := 0) (by decide) (by decide) (Nat.le_of_ble_eq_true rfl) (Nat.le_of_ble_eq_true rfl) rfl (Nat.le_of_ble_eq_true rfl) dX7_signOfWord_12 (fun r_27 L_28 f_29 h_30 => ?_)
  obtain ⟨rfl, rfl, b_31, h_32⟩ := h_30
  exact hR _ _ _ _ _ _ _ dX7_signOfWord_15 rfl (Nat.le_of_ble_eq_true rfl) (Nat.le_of_ble_eq_true rfl) ⟨rfl, rfl, (by first | omega | (simp only [Int32.lt_iff_toInt_lt, Int32.le_iff_toInt_le, Int32.reduceToInt, ← Int32.toInt_inj, true_and, and_true, or_true, true_or, false_or, or_false, false_and, and_false, not_true_eq_false, not_false_eq_true] <;> omega))⟩
set_option maxRecDepth 100000 in
set_option maxHeartbeats 8000000 in
theorem p_X7_takeWord {l : Launch} {E : Ez} {L : List Nat} {f : Nat → va_E} {T : Nat → va_E → Prop} {a_0 : Nat} {a_1 : Nat} (hW : WT T L f) (k_0 : isTape T L E a_0) (ha_1 : a_1 < 77) : CV l yX7_takeWord cX7_takeWord 2 5 0 0 E [.ref a_0, .ref (eK E a_1)] L f (fun L1 f1 => L = L1 ∧ WT T L f1 ∧ FR [7] f f1) := by
  refine cv_of (by decide) (Nat.le_of_ble_eq_true rfl) (fun z hz hnm hC hR => ?_)
  have hC : Cx z E cX7_takeWord RX7 2 5 0 0 := hC
  subst hz
  show V z E 2 0 0 L f 0 [(0, .ref a_0), (1, .ref (eK E a_1))] []
  refine v_aload_n hC dX7_takeWord_0 rfl ?_
  refine v_aload_n hC dX7_takeWord_1 rfl ?_
  obtain ⟨m_1, q_3, t_2, k_4⟩ := id k_0
  obtain ⟨v_6, v_8, v_9, v_11, v_13, v_14, e_5, b_7, b_10, b_12⟩ := hW.at m_1 t_2
  refine v_vi hC (rest := []) m_1 e_5 rfl mi_X7_isWord ms_X7_isWord (p_X7_isWord hW k_0 ha_1) mx_X7_isWord ml_X7_77 (by decide) rfl (cells1 := 0) (slots1 := 0) (by decide) (by decide) (Nat.le_of_ble_eq_true rfl) (Nat.le_of_ble_eq_true rfl) rfl (Nat.le_of_ble_eq_true rfl) dX7_takeWord_2 (fun r_15 L_16 f_17 h_18 => ?_)
  obtain ⟨rfl, rfl, b_19⟩ := h_18
  refine v_if_eq hC dX7_takeWord_5 (tgt := 15) (by decide) (fun h_22 => ?_) (fun h_22 => ?_)
  · simp only [Int32.lt_iff_toInt_lt, Int32.le_iff_toInt_le, Int32.reduceToInt, ← Int32.toInt_inj] at h_22
    refine v_aload_n hC dX7_takeWord_15 rfl ?_
    refine v_iconst hC dX7_takeWord_16 (v := 1) (by decide) ?_
    refine v_vv hC (rest := []) m_1 e_5 rfl mi_X7_complain ms_X7_complain (p_X7_complain hW k_0) mx_X7_complain ml_X7_81 (by decide) rfl (cells1 := 0) (slots1 := 0) (by decide) (by decide) (Nat.le_of_ble_eq_true rfl) (Nat.le_of_ble_eq_true rfl) rfl (Nat.le_of_ble_eq_true rfl) dX7_takeWord_17 (fun L_24 f_25 h_26 => ?_)
    obtain ⟨rfl, hW_27, hF_28⟩ := h_26
    exact hR _ _ _ _ _ _ dX7_takeWord_20 (Nat.le_of_ble_eq_true rfl) (Nat.le_of_ble_eq_true rfl) ⟨rfl, hW_27, (hF_28.mono rfl)⟩
  · simp only [Int32.lt_iff_toInt_lt, Int32.le_iff_toInt_le, Int32.reduceToInt, ← Int32.toInt_inj] at h_22
    refine v_aload_n hC dX7_takeWord_8 rfl ?_
    refine v_vv hC (rest := []) m_1 e_5 rfl mi_X7_advance ms_X7_advance (p_X7_advance hW k_0) mx_X7_advance ml_X7_28 (by decide) rfl (cells1 := 0) (slots1 := 0) (by decide) (by decide) (Nat.le_of_ble_eq_true rfl) (Nat.le_of_ble_eq_true rfl) rfl (Nat.le_of_ble_eq_true rfl) dX7_takeWord_9 (fun L_30 f_31 h_32 => ?_)
    obtain ⟨rfl, hW_33, hF_34⟩ := h_32
    refine v_goto hC dX7_takeWord_12 (tgt := 20) (by decide) ?_
    exact hR _ _ _ _ _ _ dX7_takeWord_20 (Nat.le_of_ble_eq_true rfl) (Nat.le_of_ble_eq_true rfl) ⟨rfl, hW_33, (hF_34.mono rfl)⟩
