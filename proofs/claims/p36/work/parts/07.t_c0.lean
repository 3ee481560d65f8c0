set_option maxRecDepth 100000 in
set_option maxHeartbeats 4000000 in
theorem p_X7_isFine {l : Launch} {E : Ez} {L : List Nat} {f : Nat → va_E} {T : Nat → va_E → Prop} {t q : Nat} (m_t : t ∈ L) (T_t : T t = tTape q) (m_q : q ∈ L) (T_q : T q = tI E 600) (hW : WT T L f) : CI l yX7_isFine cX7_isFine 1 .boolean 0 0 0 E [.ref t] L f (fun r L1 f1 => L = L1 ∧ f = f1) := by
  refine ci_of (by decide) (Nat.le_of_ble_eq_true rfl) (fun z hz hnm hC hR => ?_)
  have hC : Cx z E cX7_isFine RX7 1 0 0 0 := hC
  subst hz
  show V z E 1 0 0 L f 0 [(0, .ref t)] []
  refine v_aload_n hC dX7_isFine_0 rfl ?_
  obtain ⟨v_2, v_4, v_5, v_7, v_9, v_10, e_1, b_3, b_6, b_8⟩ := hW.at m_t T_t
  refine v_get hC fl_X7_22 m_t e_1 rfl dX7_isFine_1 ?_
  refine v_if_ne hC dX7_isFine_4 (tgt := 11) (by decide) (fun h_11 => ?_) (fun h_11 => ?_)
  · refine v_iconst hC dX7_isFine_11 (v := 0) (by decide) ?_
    exact hR _ _ _ _ _ _ _ dX7_isFine_12 rfl (Nat.le_of_ble_eq_true rfl) (Nat.le_of_ble_eq_true rfl) ⟨rfl, rfl⟩
  · refine v_iconst hC dX7_isFine_7 (v := 1) (by decide) ?_
    refine v_goto hC dX7_isFine_8 (tgt := 12) (by decide) ?_
    exact hR _ _ _ _ _ _ _ dX7_isFine_12 rfl (Nat.le_of_ble_eq_true rfl) (Nat.le_of_ble_eq_true rfl) ⟨rfl, rfl⟩
set_option maxRecDepth 100000 in
set_option maxHeartbeats 4000000 in
theorem p_X7_isNumber {l : Launch} {E : Ez} {L : List Nat} {f : Nat → va_E} {T : Nat → va_E → Prop} {t q : Nat} (m_t : t ∈ L) (T_t : T t = tTape q) (m_q : q ∈ L) (T_q : T q = tI E 600) (hW : WT T L f) : CI l yX7_isNumber cX7_isNumber 1 .boolean 0 0 0 E [.ref t] L f (fun r L1 f1 => L = L1 ∧ f = f1) := by
  refine ci_of (by decide) (Nat.le_of_ble_eq_true rfl) (fun z hz hnm hC hR => ?_)
  have hC : Cx z E cX7_isNumber RX7 1 0 0 0 := hC
  subst hz
  show V z E 1 0 0 L f 0 [(0, .ref t)] []
  refine v_aload_n hC dX7_isNumber_0 rfl ?_
  obtain ⟨v_2, v_4, v_5, v_7, v_9, v_10, e_1, b_3, b_6, b_8⟩ := hW.at m_t T_t
  refine v_get hC fl_X7_35 m_t e_1 rfl dX7_isNumber_1 ?_
  refine v_iconst hC dX7_isNumber_4 (v := 2) (by decide) ?_
  refine v_icmp_ne hC dX7_isNumber_5 (tgt := 12) (by decide) (fun h_11 => ?_) (fun h_11 => ?_)
  · refine v_iconst hC dX7_isNumber_12 (v := 0) (by decide) ?_
    exact hR _ _ _ _ _ _ _ dX7_isNumber_13 rfl (Nat.le_of_ble_eq_true rfl) (Nat.le_of_ble_eq_true rfl) ⟨rfl, rfl⟩
  · refine v_iconst hC dX7_isNumber_8 (v := 1) (by decide) ?_
    refine v_goto hC dX7_isNumber_9 (tgt := 13) (by decide) ?_
    exact hR _ _ _ _ _ _ _ dX7_isNumber_13 rfl (Nat.le_of_ble_eq_true rfl) (Nat.le_of_ble_eq_true rfl) ⟨rfl, rfl⟩
set_option maxRecDepth 100000 in
set_option maxHeartbeats 4000000 in
theorem p_X7_isSemicolon {l : Launch} {E : Ez} {L : List Nat} {f : Nat → va_E} {T : Nat → va_E → Prop} {t q : Nat} (m_t : t ∈ L) (T_t : T t = tTape q) (m_q : q ∈ L) (T_q : T q = tI E 600) (hW : WT T L f) : CI l yX7_isSemicolon cX7_isSemicolon 1 .boolean 0 0 0 E [.ref t] L f (fun r L1 f1 => L = L1 ∧ f = f1) := by
  refine ci_of (by decide) (Nat.le_of_ble_eq_true rfl) (fun z hz hnm hC hR => ?_)
  have hC : Cx z E cX7_isSemicolon RX7 1 0 0 0 := hC
  subst hz
  show V z E 1 0 0 L f 0 [(0, .ref t)] []
  refine v_aload_n hC dX7_isSemicolon_0 rfl ?_
  obtain ⟨v_2, v_4, v_5, v_7, v_9, v_10, e_1, b_3, b_6, b_8⟩ := hW.at m_t T_t
  refine v_get hC fl_X7_35 m_t e_1 rfl dX7_isSemicolon_1 ?_
  refine v_iconst hC dX7_isSemicolon_4 (v := 3) (by decide) ?_
  refine v_icmp_ne hC dX7_isSemicolon_5 (tgt := 12) (by decide) (fun h_11 => ?_) (fun h_11 => ?_)
  · refine v_iconst hC dX7_isSemicolon_12 (v := 0) (by decide) ?_
    exact hR _ _ _ _ _ _ _ dX7_isSemicolon_13 rfl (Nat.le_of_ble_eq_true rfl) (Nat.le_of_ble_eq_true rfl) ⟨rfl, rfl⟩
  · refine v_iconst hC dX7_isSemicolon_8 (v := 1) (by decide) ?_
    refine v_goto hC dX7_isSemicolon_9 (tgt := 13) (by decide) ?_
    exact hR _ _ _ _ _ _ _ dX7_isSemicolon_13 rfl (Nat.le_of_ble_eq_true rfl) (Nat.le_of_ble_eq_true rfl) ⟨rfl, rfl⟩
set_option maxRecDepth 100000 in
set_option maxHeartbeats 4000000 in
theorem p_X7_hasRoomFor {l : Launch} {E : Ez} {L : List Nat} {f : Nat → va_E} {T : Nat → va_E → Prop} {t q : Nat} {n : Int32} (m_t : t ∈ L) (T_t : T t = tTape q) (m_q : q ∈ L) (T_q : T q = tI E 600) (hW : WT T L f) : CI l yX7_hasRoomFor cX7_hasRoomFor 2 .boolean 0 0 0 E [.ref t, .int n] L f (fun r L1 f1 => L = L1 ∧ f = f1) := by
  refine ci_of (by decide) (Nat.le_of_ble_eq_true rfl) (fun z hz hnm hC hR => ?_)
  have hC : Cx z E cX7_hasRoomFor RX7 2 0 0 0 := hC
  subst hz
  show V z E 2 0 0 L f 0 [(0, .ref t), (1, .int n)] []
  refine v_aload_n hC dX7_hasRoomFor_0 rfl ?_
  obtain ⟨v_2, v_4, v_5, v_7, v_9, v_10, e_1, b_3, b_6, b_8⟩ := hW.at m_t T_t
  refine v_get hC fl_X7_19 m_t e_1 rfl dX7_hasRoomFor_1 ?_
  refine v_iload_n hC dX7_hasRoomFor_4 rfl ?_
  obtain ⟨v_11, h_12⟩ : ∃ v9 : Int32, v_2 + n = v9 := ⟨_, rfl⟩
  refine v_iadd hC dX7_hasRoomFor_5 h_12 ?_
  refine v_sipush hC dX7_hasRoomFor_6 (v := 600) (by decide) ?_
  refine v_icmp_gt hC dX7_hasRoomFor_9 (tgt := 16) (by decide) (fun h_13 => ?_) (fun h_13 => ?_)
  · refine v_iconst hC dX7_hasRoomFor_16 (v := 0) (by decide) ?_
    exact hR _ _ _ _ _ _ _ dX7_hasRoomFor_17 rfl (Nat.le_of_ble_eq_true rfl) (Nat.le_of_ble_eq_true rfl) ⟨rfl, rfl⟩
  · refine v_iconst hC dX7_hasRoomFor_12 (v := 1) (by decide) ?_
    refine v_goto hC dX7_hasRoomFor_13 (tgt := 17) (by decide) ?_
    exact hR _ _ _ _ _ _ _ dX7_hasRoomFor_17 rfl (Nat.le_of_ble_eq_true rfl) (Nat.le_of_ble_eq_true rfl) ⟨rfl, rfl⟩
set_option maxRecDepth 100000 in
set_option maxHeartbeats 4000000 in
theorem p_X7_byteAt {l : Launch} {E : Ez} {L : List Nat} {f : Nat → va_E} {T : Nat → va_E → Prop} {t q : Nat} {i : Int32} (m_t : t ∈ L) (T_t : T t = tTape q) (m_q : q ∈ L) (T_q : T q = tI E 600) (hW : WT T L f) : CI l yX7_byteAt cX7_byteAt 2 .int 0 0 0 E [.ref t, .int i] L f (fun r L1 f1 => L = L1 ∧ f = f1) := by
  refine ci_of (by decide) (Nat.le_of_ble_eq_true rfl) (fun z hz hnm hC hR => ?_)
  have hC : Cx z E cX7_byteAt RX7 2 0 0 0 := hC
  subst hz
  show V z E 2 0 0 L f 0 [(0, .ref t), (1, .int i)] []
  refine v_iload_n hC dX7_byteAt_0 rfl ?_
  refine v_if_lt hC dX7_byteAt_1 (tgt := 30) (by decide) (fun h_1 => ?_) (fun h_1 => ?_)
  · refine v_iconst hC dX7_byteAt_30 (v := (-1)) (by decide) ?_
    exact hR _ _ _ _ _ _ _ dX7_byteAt_31 rfl (Nat.le_of_ble_eq_true rfl) (Nat.le_of_ble_eq_true rfl) ⟨rfl, rfl⟩
  · refine v_iload_n hC dX7_byteAt_4 rfl ?_
    refine v_aload_n hC dX7_byteAt_5 rfl ?_
    obtain ⟨v_3, v_5, v_6, v_8, v_10, v_11, e_2, b_4, b_7, b_9⟩ := hW.at m_t T_t
    refine v_get hC fl_X7_19 m_t e_2 rfl dX7_byteAt_6 ?_
    refine v_icmp_ge hC dX7_byteAt_9 (tgt := 30) (by decide) (fun h_12 => ?_) (fun h_12 => ?_)
    · refine v_iconst hC dX7_byteAt_30 (v := (-1)) (by decide) ?_
      exact hR _ _ _ _ _ _ _ dX7_byteAt_31 rfl (Nat.le_of_ble_eq_true rfl) (Nat.le_of_ble_eq_true rfl) ⟨rfl, rfl⟩
    · refine v_iload_n hC dX7_byteAt_12 rfl ?_
      refine v_aload_n hC dX7_byteAt_13 rfl ?_
      refine v_get hC fl_X7_9 m_t e_2 rfl dX7_byteAt_14 ?_
      obtain ⟨g_14, e_13⟩ := hW.at m_q T_q
      refine v_alen hC m_q e_13 (t := 1) rfl (v := 600) rfl dX7_byteAt_17 ?_
      refine v_icmp_ge hC dX7_byteAt_18 (tgt := 30) (by decide) (fun h_15 => ?_) (fun h_15 => ?_)
      · refine v_iconst hC dX7_byteAt_30 (v := (-1)) (by decide) ?_
        exact hR _ _ _ _ _ _ _ dX7_byteAt_31 rfl (Nat.le_of_ble_eq_true rfl) (Nat.le_of_ble_eq_true rfl) ⟨rfl, rfl⟩
      · refine v_aload_n hC dX7_byteAt_21 rfl ?_
        refine v_get hC fl_X7_9 m_t e_2 rfl dX7_byteAt_22 ?_
        refine v_iload_n hC dX7_byteAt_25 rfl ?_
        refine v_iald hC m_q e_13 (vp_in_iff.mpr (by simp only [Int32.lt_iff_toInt_lt, Int32.le_iff_toInt_le, Int32.reduceToInt, ← Int32.toInt_inj] at h_1 b_4 h_12 h_15 ⊢; omega)) rfl dX7_byteAt_26 ?_
        refine v_goto hC dX7_byteAt_27 (tgt := 31) (by decide) ?_
        exact hR _ _ _ _ _ _ _ dX7_byteAt_31 rfl (Nat.le_of_ble_eq_true rfl) (Nat.le_of_ble_eq_true rfl) ⟨rfl, rfl⟩
set_option maxRecDepth 100000 in
set_option maxHeartbeats 4000000 in
theorem p_X7_empty {l : Launch} {E : Ez} {L : List Nat} {f : Nat → va_E} {T : Nat → va_E → Prop} {t q : Nat} (m_t : t ∈ L) (T_t : T t = tTape q) (m_q : q ∈ L) (T_q : T q = tI E 600) (hW : WT T L f) : CV l yX7_empty cX7_empty 1 0 0 0 E [.ref t] L f (fun L1 f1 => L = L1 ∧ WT T L f1 ∧ ∀ b, b ≠ t → f1 b = f b) := by
  refine cv_of (by decide) (Nat.le_of_ble_eq_true rfl) (fun z hz hnm hC hR => ?_)
  have hC : Cx z E cX7_empty RX7 1 0 0 0 := hC
  subst hz
  show V z E 1 0 0 L f 0 [(0, .ref t)] []
  refine v_aload_n hC dX7_empty_0 rfl ?_
  refine v_iconst hC dX7_empty_1 (v := 0) (by decide) ?_
  obtain ⟨v_2, v_4, v_5, v_7, v_9, v_10, e_1, b_3, b_6, b_8⟩ := hW.at m_t T_t
  refine v_put hC fl_X7_19 m_t e_1 rfl rfl (Nat.le_of_ble_eq_true rfl) (fs' := [.ref q, .int 0, .int v_4, .int v_5, .int v_7, .int v_9, .int v_10]) rfl dX7_empty_2 (fun f_11 hf_12 hk_13 => ?_)
  have hW_14 := hW.up hf_12 hk_13 T_t ⟨0, v_4, v_5, v_7, v_9, v_10, rfl, (by simp only [Int32.lt_iff_toInt_lt, Int32.le_iff_toInt_le, Int32.reduceToInt, ← Int32.toInt_inj] at ⊢; omega), b_6, b_8⟩
  exact hR _ _ _ _ _ _ dX7_empty_5 (Nat.le_of_ble_eq_true rfl) (Nat.le_of_ble_eq_true rfl) ⟨rfl, hW_14, fun b hb => (hk_13 b hb)⟩
set_option maxRecDepth 100000 in
set_option maxHeartbeats 4000000 in
theorem p_X7_goesOn {l : Launch} {E : Ez} {L : List Nat} {f : Nat → va_E} {T : Nat → va_E → Prop} {t q : Nat} (m_t : t ∈ L) (T_t : T t = tTape q) (m_q : q ∈ L) (T_q : T q = tI E 600) (hW : WT T L f) : CI l yX7_goesOn cX7_goesOn 1 .boolean 1 0 0 E [.ref t] L f (fun r L1 f1 => L = L1 ∧ f = f1) := by
  refine ci_of (by decide) (Nat.le_of_ble_eq_true rfl) (fun z hz hnm hC hR => ?_)
  have hC : Cx z E cX7_goesOn RX7 1 1 0 0 := hC
  subst hz
  show V z E 1 0 0 L f 0 [(0, .ref t)] []
  refine v_aload_n hC dX7_goesOn_0 rfl ?_
  obtain ⟨v_2, v_4, v_5, v_7, v_9, v_10, e_1, b_3, b_6, b_8⟩ := hW.at m_t T_t
  refine v_vi hC (rest := []) m_t e_1 rfl mi_X7_isFine ms_X7_isFine (p_X7_isFine m_t T_t m_q T_q hW) mx_X7_isFine ml_X7_31 (by decide) rfl (cells1 := 0) (slots1 := 0) (by decide) (by decide) (Nat.le_of_ble_eq_true rfl) (Nat.le_of_ble_eq_true rfl) rfl (Nat.le_of_ble_eq_true rfl) dX7_goesOn_1 (fun r_11 L_12 f_13 h_14 => ?_)
  obtain ⟨rfl, rfl⟩ := h_14
  refine v_if_eq hC dX7_goesOn_4 (tgt := 18) (by decide) (fun h_15 => ?_) (fun h_15 => ?_)
  · refine v_iconst hC dX7_goesOn_18 (v := 0) (by decide) ?_
    exact hR _ _ _ _ _ _ _ dX7_goesOn_19 rfl (Nat.le_of_ble_eq_true rfl) (Nat.le_of_ble_eq_true rfl) ⟨rfl, rfl⟩
  · refine v_aload_n hC dX7_goesOn_7 rfl ?_
    refine v_get hC fl_X7_35 m_t e_1 rfl dX7_goesOn_8 ?_
    refine v_if_eq hC dX7_goesOn_11 (tgt := 18) (by decide) (fun h_16 => ?_) (fun h_16 => ?_)
    · refine v_iconst hC dX7_goesOn_18 (v := 0) (by decide) ?_
      exact hR _ _ _ _ _ _ _ dX7_goesOn_19 rfl (Nat.le_of_ble_eq_true rfl) (Nat.le_of_ble_eq_true rfl) ⟨rfl, rfl⟩
    · refine v_iconst hC dX7_goesOn_14 (v := 1) (by decide) ?_
      refine v_goto hC dX7_goesOn_15 (tgt := 19) (by decide) ?_
      exact hR _ _ _ _ _ _ _ dX7_goesOn_19 rfl (Nat.le_of_ble_eq_true rfl) (Nat.le_of_ble_eq_true rfl) ⟨rfl, rfl⟩
set_option maxRecDepth 100000 in
set_option maxHeartbeats 4000000 in
theorem p_X7_complain {l : Launch} {E : Ez} {L : List Nat} {f : Nat → va_E} {T : Nat → va_E → Prop} {t q : Nat} {k : Int32} (m_t : t ∈ L) (T_t : T t = tTape q) (m_q : q ∈ L) (T_q : T q = tI E 600) (hW : WT T L f) : CV l yX7_complain cX7_complain 2 1 0 0 E [.ref t, .int k] L f (fun L1 f1 => L = L1 ∧ WT T L f1 ∧ ∀ b, b ≠ t → f1 b = f b) := by
  refine cv_of (by decide) (Nat.le_of_ble_eq_true rfl) (fun z hz hnm hC hR => ?_)
  have hC : Cx z E cX7_complain RX7 2 1 0 0 := hC
  subst hz
  show V z E 2 0 0 L f 0 [(0, .ref t), (1, .int k)] []
  refine v_aload_n hC dX7_complain_0 rfl ?_
  obtain ⟨v_2, v_4, v_5, v_7, v_9, v_10, e_1, b_3, b_6, b_8⟩ := hW.at m_t T_t
  refine v_vi hC (rest := []) m_t e_1 rfl mi_X7_isFine ms_X7_isFine (p_X7_isFine m_t T_t m_q T_q hW) mx_X7_isFine ml_X7_31 (by decide) rfl (cells1 := 0) (slots1 := 0) (by decide) (by decide) (Nat.le_of_ble_eq_true rfl) (Nat.le_of_ble_eq_true rfl) rfl (Nat.le_of_ble_eq_true rfl) dX7_complain_1 (fun r_11 L_12 f_13 h_14 => ?_)
  obtain ⟨rfl, rfl⟩ := h_14
  refine v_if_eq hC dX7_complain_4 (tgt := 25) (by decide) (fun h_15 => ?_) (fun h_15 => ?_)
  · exact hR _ _ _ _ _ _ dX7_complain_25 (Nat.le_of_ble_eq_true rfl) (Nat.le_of_ble_eq_true rfl) ⟨rfl, hW, fun b hb => rfl⟩
  · refine v_aload_n hC dX7_complain_7 rfl ?_
    refine v_iload_n hC dX7_complain_8 rfl ?_
    refine v_put hC fl_X7_22 m_t e_1 rfl rfl (Nat.le_of_ble_eq_true rfl) (fs' := [.ref q, .int v_2, .int v_4, .int v_5, .int v_7, .int k, .int v_10]) rfl dX7_complain_9 (fun f_16 hf_17 hk_18 => ?_)
    have hW_19 := hW.up hf_17 hk_18 T_t ⟨v_2, v_4, v_5, v_7, k, v_10, rfl, b_3, b_6, b_8⟩
    refine v_aload_n hC dX7_complain_12 rfl ?_
    refine v_aload_n hC dX7_complain_13 rfl ?_
    refine v_get hC fl_X7_38 m_t hf_17 rfl dX7_complain_14 ?_
    refine v_put hC fl_X7_15 m_t hf_17 rfl rfl (Nat.le_of_ble_eq_true rfl) (fs' := [.ref q, .int v_2, .int v_4, .int v_5, .int v_7, .int k, .int v_5]) rfl dX7_complain_17 (fun f_20 hf_21 hk_22 => ?_)
    have hW_23 := hW_19.up hf_21 hk_22 T_t ⟨v_2, v_4, v_5, v_7, k, v_5, rfl, b_3, b_6, b_8⟩
    refine v_aload_n hC dX7_complain_20 rfl ?_
    refine v_iconst hC dX7_complain_21 (v := 4) (by decide) ?_
    refine v_put hC fl_X7_35 m_t hf_21 rfl rfl (Nat.le_of_ble_eq_true rfl) (fs' := [.ref q, .int v_2, .int 4, .int v_5, .int v_7, .int k, .int v_5]) rfl dX7_complain_22 (fun f_24 hf_25 hk_26 => ?_)
    have hW_27 := hW_23.up hf_25 hk_26 T_t ⟨v_2, 4, v_5, v_7, k, v_5, rfl, b_3, b_6, b_8⟩
    exact hR _ _ _ _ _ _ dX7_complain_25 (Nat.le_of_ble_eq_true rfl) (Nat.le_of_ble_eq_true rfl) ⟨rfl, hW_27, fun b hb => ((hk_26 b hb).trans ((hk_22 b hb).trans (hk_18 b hb)))⟩
set_option maxRecDepth 100000 in
set_option maxHeartbeats 4000000 in
theorem p_X7_kindOf {l : Launch} {E : Ez} {L : List Nat} {f : Nat → va_E} {b : Int32}  : CI l yX7_kindOf cX7_kindOf 1 .int 0 0 0 E [.int b] L f (fun r L1 f1 => L = L1 ∧ f = f1) := by
  refine ci_of (by decide) (Nat.le_of_ble_eq_true rfl) (fun z hz hnm hC hR => ?_)
  have hC : Cx z E cX7_kindOf RX7 1 0 0 0 := hC
  subst hz
  show V z E 1 0 0 L f 0 [(0, .int b)] []
  refine v_iload_n hC dX7_kindOf_0 rfl ?_
  refine v_bipush hC dX7_kindOf_1 (v := 97) (by decide) ?_
  refine v_icmp_lt hC dX7_kindOf_3 (tgt := 14) (by decide) (fun h_1 => ?_) (fun h_1 => ?_)
  · refine v_iload_n hC dX7_kindOf_14 rfl ?_
    refine v_bipush hC dX7_kindOf_15 (v := 48) (by decide) ?_
    refine v_icmp_lt hC dX7_kindOf_17 (tgt := 28) (by decide) (fun h_2 => ?_) (fun h_2 => ?_)
    · refine v_iload_n hC dX7_kindOf_28 rfl ?_
      refine v_bipush hC dX7_kindOf_29 (v := 59) (by decide) ?_
      refine v_icmp_ne_t hC dX7_kindOf_31 (tgt := 36) (by decide) (by simp only [Int32.lt_iff_toInt_lt, Int32.le_iff_toInt_le, Int32.reduceToInt, ← Int32.toInt_inj] at h_1 h_2 ⊢; omega) ?_
      refine v_iload_n hC dX7_kindOf_36 rfl ?_
      refine v_iconst hC dX7_kindOf_37 (v := (-1)) (by decide) ?_
      refine v_icmp_ne hC dX7_kindOf_38 (tgt := 45) (by decide) (fun h_3 => ?_) (fun h_3 => ?_)
      · refine v_iconst hC dX7_kindOf_45 (v := 4) (by decide) ?_
        exact hR _ _ _ _ _ _ _ dX7_kindOf_46 rfl (Nat.le_of_ble_eq_true rfl) (Nat.le_of_ble_eq_true rfl) ⟨rfl, rfl⟩
      · refine v_iconst hC dX7_kindOf_41 (v := 0) (by decide) ?_
        refine v_goto hC dX7_kindOf_42 (tgt := 46) (by decide) ?_
        exact hR _ _ _ _ _ _ _ dX7_kindOf_46 rfl (Nat.le_of_ble_eq_true rfl) (Nat.le_of_ble_eq_true rfl) ⟨rfl, rfl⟩
    · refine v_iload_n hC dX7_kindOf_20 rfl ?_
      refine v_bipush hC dX7_kindOf_21 (v := 57) (by decide) ?_
      refine v_icmp_gt hC dX7_kindOf_23 (tgt := 28) (by decide) (fun h_4 => ?_) (fun h_4 => ?_)
      · refine v_iload_n hC dX7_kindOf_28 rfl ?_
        refine v_bipush hC dX7_kindOf_29 (v := 59) (by decide) ?_
        refine v_icmp_ne hC dX7_kindOf_31 (tgt := 36) (by decide) (fun h_5 => ?_) (fun h_5 => ?_)
        · refine v_iload_n hC dX7_kindOf_36 rfl ?_
          refine v_iconst hC dX7_kindOf_37 (v := (-1)) (by decide) ?_
          refine v_icmp_ne_t hC dX7_kindOf_38 (tgt := 45) (by decide) (by simp only [Int32.lt_iff_toInt_lt, Int32.le_iff_toInt_le, Int32.reduceToInt, ← Int32.toInt_inj] at h_1 h_2 h_4 h_5 ⊢; omega) ?_
          refine v_iconst hC dX7_kindOf_45 (v := 4) (by decide) ?_
          exact hR _ _ _ _ _ _ _ dX7_kindOf_46 rfl (Nat.le_of_ble_eq_true rfl) (Nat.le_of_ble_eq_true rfl) ⟨rfl, rfl⟩
        · refine v_iconst hC dX7_kindOf_34 (v := 3) (by decide) ?_
          exact hR _ _ _ _ _ _ _ dX7_kindOf_35 rfl (Nat.le_of_ble_eq_true rfl) (Nat.le_of_ble_eq_true rfl) ⟨rfl, rfl⟩
      · refine v_iconst hC dX7_kindOf_26 (v := 2) (by decide) ?_
        exact hR _ _ _ _ _ _ _ dX7_kindOf_27 rfl (Nat.le_of_ble_eq_true rfl) (Nat.le_of_ble_eq_true rfl) ⟨rfl, rfl⟩
  · refine v_iload_n hC dX7_kindOf_6 rfl ?_
    refine v_bipush hC dX7_kindOf_7 (v := 122) (by decide) ?_
    refine v_icmp_gt hC dX7_kindOf_9 (tgt := 14) (by decide) (fun h_6 => ?_) (fun h_6 => ?_)
    · refine v_iload_n hC dX7_kindOf_14 rfl ?_
      refine v_bipush hC dX7_kindOf_15 (v := 48) (by decide) ?_
      refine v_icmp_lt_f hC dX7_kindOf_17 (tgt := 28) (by decide) (by simp only [Int32.lt_iff_toInt_lt, Int32.le_iff_toInt_le, Int32.reduceToInt, ← Int32.toInt_inj] at h_1 h_6 ⊢; omega) ?_
      refine v_iload_n hC dX7_kindOf_20 rfl ?_
      refine v_bipush hC dX7_kindOf_21 (v := 57) (by decide) ?_
      refine v_icmp_gt_t hC dX7_kindOf_23 (tgt := 28) (by decide) (by simp only [Int32.lt_iff_toInt_lt, Int32.le_iff_toInt_le, Int32.reduceToInt, ← Int32.toInt_inj] at h_1 h_6 ⊢; omega) ?_
      refine v_iload_n hC dX7_kindOf_28 rfl ?_
      refine v_bipush hC dX7_kindOf_29 (v := 59) (by decide) ?_
      refine v_icmp_ne_t hC dX7_kindOf_31 (tgt := 36) (by decide) (by simp only [Int32.lt_iff_toInt_lt, Int32.le_iff_toInt_le, Int32.reduceToInt, ← Int32.toInt_inj] at h_1 h_6 ⊢; omega) ?_
      refine v_iload_n hC dX7_kindOf_36 rfl ?_
      refine v_iconst hC dX7_kindOf_37 (v := (-1)) (by decide) ?_
      refine v_icmp_ne_t hC dX7_kindOf_38 (tgt := 45) (by decide) (by simp only [Int32.lt_iff_toInt_lt, Int32.le_iff_toInt_le, Int32.reduceToInt, ← Int32.toInt_inj] at h_1 h_6 ⊢; omega) ?_
      refine v_iconst hC dX7_kindOf_45 (v := 4) (by decide) ?_
      exact hR _ _ _ _ _ _ _ dX7_kindOf_46 rfl (Nat.le_of_ble_eq_true rfl) (Nat.le_of_ble_eq_true rfl) ⟨rfl, rfl⟩
    · refine v_iconst hC dX7_kindOf_12 (v := 1) (by decide) ?_
      exact hR _ _ _ _ _ _ _ dX7_kindOf_13 rfl (Nat.le_of_ble_eq_true rfl) (Nat.le_of_ble_eq_true rfl) ⟨rfl, rfl⟩
set_option maxRecDepth 100000 in
set_option maxHeartbeats 4000000 in
theorem p_X7_isBlank {l : Launch} {E : Ez} {L : List Nat} {f : Nat → va_E} {b : Int32}  : CI l yX7_isBlank cX7_isBlank 1 .boolean 0 0 0 E [.int b] L f (fun r L1 f1 => L = L1 ∧ f = f1) := by
  refine ci_of (by decide) (Nat.le_of_ble_eq_true rfl) (fun z hz hnm hC hR => ?_)
  have hC : Cx z E cX7_isBlank RX7 1 0 0 0 := hC
  subst hz
  show V z E 1 0 0 L f 0 [(0, .int b)] []
  refine v_iload_n hC dX7_isBlank_0 rfl ?_
  refine v_bipush hC dX7_isBlank_1 (v := 32) (by decide) ?_
  refine v_icmp_eq hC dX7_isBlank_3 (tgt := 12) (by decide) (fun h_1 => ?_) (fun h_1 => ?_)
  · refine v_iconst hC dX7_isBlank_12 (v := 1) (by decide) ?_
    refine v_goto hC dX7_isBlank_13 (tgt := 17) (by decide) ?_
    exact hR _ _ _ _ _ _ _ dX7_isBlank_17 rfl (Nat.le_of_ble_eq_true rfl) (Nat.le_of_ble_eq_true rfl) ⟨rfl, rfl⟩
  · refine v_iload_n hC dX7_isBlank_6 rfl ?_
    refine v_bipush hC dX7_isBlank_7 (v := 10) (by decide) ?_
    refine v_icmp_ne hC dX7_isBlank_9 (tgt := 16) (by decide) (fun h_2 => ?_) (fun h_2 => ?_)
    · refine v_iconst hC dX7_isBlank_16 (v := 0) (by decide) ?_
      exact hR _ _ _ _ _ _ _ dX7_isBlank_17 rfl (Nat.le_of_ble_eq_true rfl) (Nat.le_of_ble_eq_true rfl) ⟨rfl, rfl⟩
    · refine v_iconst hC dX7_isBlank_12 (v := 1) (by decide) ?_
      refine v_goto hC dX7_isBlank_13 (tgt := 17) (by decide) ?_
      exact hR _ _ _ _ _ _ _ dX7_isBlank_17 rfl (Nat.le_of_ble_eq_true rfl) (Nat.le_of_ble_eq_true rfl) ⟨rfl, rfl⟩
