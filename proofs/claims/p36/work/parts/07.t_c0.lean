set_option maxRecDepth 100000 in
set_option maxHeartbeats 4000000 in
theorem p_X7_isFine {l : Launch} {E : Ez} {L : List Nat} {f : Nat → va_E} {T : Nat → va_E → Prop} {t q : Nat} (m_t : t ∈ L) (T_t : T t = tTape q) (m_q : q ∈ L) (T_q : T q = tI E 600) (hW : WT T L f) : CI l yX7_isFine cX7_isFine 1 .boolean 0 0 0 E [.ref t] L f (fun r L1 f1 => L = L1 ∧ f = f1) := by
  refine ci_of (by decide) (Nat.le_of_ble_eq_true rfl) (fun z hz hnm hC hR => ?_)
  have hC : Cx z E cX7_isFine RX7 1 0 0 0 := hC
  subst hz
  show V z E 1 0 0 L f 0 [(0, .ref t)] []
  refine v_aload_n hC dX7_isFine_0 rfl ?_
  obtain ⟨v_2, v_4, v_5, v_7, v_9, v_10, e_1, b_3, b_6, b_8⟩ := hW.at m_t T_t
  refine v_get hC fl_X7_22 m_t e_1 rfl dX7_isFine_1 ?_
  refine v_if_ne hC dX7_isFine_4 (tgt := 11) (by decide) (fun h_11 => ?_) (fun h_11 => ?_)
  · refine v_iconst hC dX7_isFine_11 (v := 0) (by decide) ?_
    exact hR _ _ _ _ _ _ _ dX7_isFine_12 rfl (Nat.le_of_ble_eq_true rfl) (Nat.le_of_ble_eq_true rfl) ⟨rfl, rfl⟩
  · refine v_iconst hC dX7_isFine_7 (v := 1) (by decide) ?_
    refine v_goto hC dX7_isFine_8 (tgt := 12) (by decide) ?_
    exact hR _ _ _ _ _ _ _ dX7_isFine_12 rfl (Nat.le_of_ble_eq_true rfl) (Nat.le_of_ble_eq_true rfl) ⟨rfl, rfl⟩
set_option maxRecDepth 100000 in
set_option maxHeartbeats 4000000 in
theorem p_X7_isNumber {l : Launch} {E : Ez} {L : List Nat} {f : Nat → va_E} {T : Nat → va_E → Prop} {t q : Nat} (m_t : t ∈ L) (T_t : T t = tTape q) (m_q : q ∈ L) (T_q : T q = tI E 600) (hW : WT T L f) : CI l yX7_isNumber cX7_isNumber 1 .boolean 0 0 0 E [.ref t] L f (fun r L1 f1 => L = L1 ∧ f = f1) := by
  refine ci_of (by decide) (Nat.le_of_ble_eq_true rfl) (fun z hz hnm hC hR => ?_)
  have hC : Cx z E cX7_isNumber RX7 1 0 0 0 := hC
  subst hz
  show V z E 1 0 0 L f 0 [(0, .ref t)] []
  refine v_aload_n hC dX7_isNumber_0 rfl ?_
  obtain ⟨v_2, v_4, v_5, v_7, v_9, v_10, e_1, b_3, b_6, b_8⟩ := hW.at m_t T_t
  refine v_get hC fl_X7_35 m_t e_1 rfl dX7_isNumber_1 ?_
  refine v_iconst hC dX7_isNumber_4 (v := 2) (by decide) ?_
  refine v_icmp_ne hC dX7_isNumber_5 (tgt := 12) (by decide) (fun h_11 => ?_) (fun h_11 => ?_)
  · refine v_iconst hC dX7_isNumber_12 (v := 0) (by decide) ?_
    exact hR _ _ _ _ _ _ _ dX7_isNumber_13 rfl (Nat.le_of_ble_eq_true rfl) (Nat.le_of_ble_eq_true rfl) ⟨rfl, rfl⟩
  · refine v_iconst hC dX7_isNumber_8 (v := 1) (by decide) ?_
    refine v_goto hC dX7_isNumber_9 (tgt := 13) (by decide) ?_
    exact hR _ _ _ _ _ _ _ dX7_isNumber_13 rfl (Nat.le_of_ble_eq_true rfl) (Nat.le_of_ble_eq_true rfl) ⟨rfl, rfl⟩
set_option maxRecDepth 100000 in
set_option maxHeartbeats 4000000 in
theorem p_X7_isSemicolon {l : Launch} {E : Ez} {L : List Nat} {f : Nat → va_E} {T : Nat → va_E → Prop} {t q : Nat} (m_t : t ∈ L) (T_t : T t = tTape q) (m_q : q ∈ L) (T_q : T q = tI E 600) (hW : WT T L f) : CI l yX7_isSemicolon cX7_isSemicolon 1 .boolean 0 0 0 E [.ref t] L f (fun r L1 f1 => L = L1 ∧ f = f1) := by
  refine ci_of (by decide) (Nat.le_of_ble_eq_true rfl) (fun z hz hnm hC hR => ?_)
  have hC : Cx z E cX7_isSemicolon RX7 1 0 0 0 := hC
  subst hz
  show V z E 1 0 0 L f 0 [(0, .ref t)] []
  refine v_aload_n hC dX7_isSemicolon_0 rfl ?_
  obtain ⟨v_2, v_4, v_5, v_7, v_9, v_10, e_1, b_3, b_6, b_8⟩ := hW.at m_t T_t
  refine v_get hC fl_X7_35 m_t e_1 rfl dX7_isSemicolon_1 ?_
  refine v_iconst hC dX7_isSemicolon_4 (v := 3) (by decide) ?_
  refine v_icmp_ne hC dX7_isSemicolon_5 (tgt := 12) (by decide) (fun h_11 => ?_) (fun h_11 => ?_)
  · refine v_iconst hC dX7_isSemicolon_12 (v := 0) (by decide) ?_
    exact hR _ _ _ _ _ _ _ dX7_isSemicolon_13 rfl (Nat.le_of_ble_eq_true rfl) (Nat.le_of_ble_eq_true rfl) ⟨rfl, rfl⟩
  · refine v_iconst hC dX7_isSemicolon_8 (v := 1) (by decide) ?_
    refine v_goto hC dX7_isSemicolon_9 (tgt := 13) (by decide) ?_
    exact hR _ _ _ _ _ _ _ dX7_isSemicolon_13 rfl (Nat.le_of_ble_eq_true rfl) (Nat.le_of_ble_eq_true rfl) ⟨rfl, rfl⟩
set_option maxRecDepth 100000 in
set_option maxHeartbeats 4000000 in
theorem p_X7_hasRoomFor {l : Launch} {E : Ez} {L : List Nat} {f : Nat → va_E} {T : Nat → va_E → Prop} {t q : Nat} {n : Int32} (m_t : t ∈ L) (T_t : T t = tTape q) (m_q : q ∈ L) (T_q : T q = tI E 600) (hW : WT T L f) : CI l yX7_hasRoomFor cX7_hasRoomFor 2 .boolean 0 0 0 E [.ref t, .int n] L f (fun r L1 f1 => L = L1 ∧ f = f1) := by
  refine ci_of (by decide) (Nat.le_of_ble_eq_true rfl) (fun z hz hnm hC hR => ?_)
  have hC : Cx z E cX7_hasRoomFor RX7 2 0 0 0 := hC
  subst hz
  show V z E 2 0 0 L f 0 [(0, .ref t), (1, .int n)] []
  refine v_aload_n hC dX7_hasRoomFor_0 rfl ?_
  obtain ⟨v_2, v_4, v_5, v_7, v_9, v_10, e_1, b_3, b_6, b_8⟩ := hW.at m_t T_t
  refine v_get hC fl_X7_19 m_t e_1 rfl dX7_hasRoomFor_1 ?_
  refine v_iload_n hC dX7_hasRoomFor_4 rfl ?_
  obtain ⟨v_11, h_12⟩ : ∃ v9 : Int32, v_2 + n = v9 := ⟨_, rfl⟩
  refine v_iadd hC dX7_hasRoomFor_5 h_12 ?_
  refine v_sipush hC dX7_hasRoomFor_6 (v := 600) (by decide) ?_
  refine v_icmp_gt hC dX7_hasRoomFor_9 (tgt := 16) (by decide) (fun h_13 => ?_) (fun h_13 => ?_)
  · refine v_iconst hC dX7_hasRoomFor_16 (v := 0) (by decide) ?_
    exact hR _ _ _ _ _ _ _ dX7_hasRoomFor_17 rfl (Nat.le_of_ble_eq_true rfl) (Nat.le_of_ble_eq_true rfl) ⟨rfl, rfl⟩
  · refine v_iconst hC dX7_hasRoomFor_12 (v := 1) (by decide) ?_
    refine v_goto hC dX7_hasRoomFor_13 (tgt := 17) (by decide) ?_
    exact hR _ _ _ _ _ _ _ dX7_hasRoomFor_17 rfl (Nat.le_of_ble_eq_true rfl) (Nat.le_of_ble_eq_true rfl) ⟨rfl, rfl⟩
set_option maxRecDepth 100000 in
set_option maxHeartbeats 4000000 in
theorem p_X7_byteAt {l : Launch} {E : Ez} {L : List Nat} {f : Nat → va_E} {T : Nat → va_E → Prop} {t q : Nat} {i : Int32} (m_t : t ∈ L) (T_t : T t = tTape q) (m_q : q ∈ L) (T_q : T q = tI E 600) (hW : WT T L f) : CI l yX7_byteAt cX7_byteAt 2 .int 0 0 0 E [.ref t, .int i] L f (fun r L1 f1 => L = L1 ∧ f = f1) := by
  refine ci_of (by decide) (Nat.le_of_ble_eq_true rfl) (fun z hz hnm hC hR => ?_)
  have hC : Cx z E cX7_byteAt RX7 2 0 0 0 := hC
  subst hz
  show V z E 2 0 0 L f 0 [(0, .ref t), (1, .int i)] []
  refine v_iload_n hC dX7_byteAt_0 rfl ?_
  refine v_if_lt hC dX7_byteAt_1 (tgt := 30) (by decide) (fun h_1 => ?_) (fun h_1 => ?_)
  · refine v_iconst hC dX7_byteAt_30 (v := (-1)) (by decide) ?_
    exact hR _ _ _ _ _ _ _ dX7_byteAt_31 rfl (Nat.le_of_ble_eq_true rfl) (Nat.le_of_ble_eq_true rfl) ⟨rfl, rfl⟩
  · refine v_iload_n hC dX7_byteAt_4 rfl ?_
    refine v_aload_n hC dX7_byteAt_5 rfl ?_
    obtain ⟨v_3, v_5, v_6, v_8, v_10, v_11, e_2, b_4, b_7, b_9⟩ := hW.at m_t T_t
    refine v_get hC fl_X7_19 m_t e_2 rfl dX7_byteAt_6 ?_
    refine v_icmp_ge hC dX7_byteAt_9 (tgt := 30) (by decide) (fun h_12 => ?_) (fun h_12 => ?_)
    · refine v_iconst hC dX7_byteAt_30 (v := (-1)) (by decide) ?_
      exact hR _ _ _ _ _ _ _ dX7_byteAt_31 rfl (Nat.le_of_ble_eq_true rfl) (Nat.le_of_ble_eq_true rfl) ⟨rfl, rfl⟩
    · refine v_iload_n hC dX7_byteAt_12 rfl ?_
      refine v_aload_n hC dX7_byteAt_13 rfl ?_
      refine v_get hC fl_X7_9 m_t e_2 rfl dX7_byteAt_14 ?_
      obtain ⟨g_14, e_13⟩ := hW.at m_q T_q
      refine v_alen hC m_q e_13 (t := 1) rfl (v := 600) rfl dX7_byteAt_17 ?_
      refine v_icmp_ge hC dX7_byteAt_18 (tgt := 30) (by decide) (fun h_15 => ?_) (fun h_15 => ?_)
      · refine v_iconst hC dX7_byteAt_30 (v := (-1)) (by decide) ?_
        exact hR _ _ _ _ _ _ _ dX7_byteAt_31 rfl (Nat.le_of_ble_eq_true rfl) (Nat.le_of_ble_eq_true rfl) ⟨rfl, rfl⟩
      · refine v_aload_n hC dX7_byteAt_21 rfl ?_
        refine v_get hC fl_X7_9 m_t e_2 rfl dX7_byteAt_22 ?_
        refine v_iload_n hC dX7_byteAt_25 rfl ?_
        refine v_iald hC m_q e_13 (vp_in_iff.mpr (by simp only [Int32.lt_iff_toInt_lt, Int32.le_iff_toInt_le, Int32.reduceToInt, ← Int32.toInt_inj] at h_1 b_4 h_12 h_15 ⊢; omega)) rfl dX7_byteAt_26 ?_
        refine v_goto hC dX7_byteAt_27 (tgt := 31) (by decide) ?_
        exact hR _ _ _ _ _ _ _ dX7_byteAt_31 rfl (Nat.le_of_ble_eq_true rfl) (Nat.le_of_ble_eq_true rfl) ⟨rfl, rfl⟩
set_option maxRecDepth 100000 in
set_option maxHeartbeats 4000000 in
theorem p_X7_empty {l : Launch} {E : Ez} {L : List Nat} {f : Nat → va_E} {T : Nat → va_E → Prop} {t q : Nat} (m_t : t ∈ L) (T_t : T t = tTape q) (m_q : q ∈ L) (T_q : T q = tI E 600) (hW : WT T L f) : CV l yX7_empty cX7_empty 1 0 0 0 E [.ref t] L f (fun L1 f1 => L = L1 ∧ WT T L f1 ∧ ∀ b, b ≠ t → f1 b = f b) := by
  refine cv_of (by decide) (Nat.le_of_ble_eq_true rfl) (fun z hz hnm hC hR => ?_)
  have hC : Cx z E cX7_empty RX7 1 0 0 0 := hC
  subst hz
  show V z E 1 0 0 L f 0 [(0, .ref t)] []
  refine v_aload_n hC dX7_empty_0 rfl ?_
  refine v_iconst hC dX7_empty_1 (v := 0) (by decide) ?_
  obtain ⟨v_2, v_4, v_5, v_7, v_9, v_10, e_1, b_3, b_6, b_8⟩ := hW.at m_t T_t
  refine v_put hC fl_X7_19 m_t e_1 rfl rfl (Nat.le_of_ble_eq_true rfl) (fs' := [.ref q, .int 0, .int v_4, .int v_5, .int v_7, .int v_9, .int v_10]) rfl dX7_empty_2 (fun f_11 hf_12 hk_13 => ?_)
  have hW_14 := hW.up hf_12 hk_13 T_t ⟨0, v_4, v_5, v_7, v_9, v_10, rfl, (by simp only [Int32.lt_iff_toInt_lt, Int32.le_iff_toInt_le, Int32.reduceToInt, ← Int32.toInt_inj] at ⊢; omega), b_6, b_8⟩
  exact hR _ _ _ _ _ _ dX7_empty_5 (Nat.le_of_ble_eq_true rfl) (Nat.le_of_ble_eq_true rfl) ⟨rfl, hW_14, fun b hb => (hk_13 b hb)⟩
set_option maxRecDepth 100000 in
set_option maxHeartbeats 4000000 in
theorem p_X7_goesOn {l : Launch} {E : Ez} {L : List Nat} {f : Nat → va_E} {T : Nat → va_E → Prop} {t q : Nat} (m_t : t ∈ L) (T_t : T t = tTape q) (m_q : q ∈ L) (T_q : T q = tI E 600) (hW : WT T L f) : CI l yX7_goesOn cX7_goesOn 1 .boolean 1 0 0 E [.ref t] L f (fun r L1 f1 => L = L1 ∧ f = f1) := by
  refine ci_of (by decide) (Nat.le_of_ble_eq_true rfl) (fun z hz hnm hC hR => ?_)
  have hC : Cx z E cX7_goesOn RX7 1 1 0 0 := hC
  subst hz
  show V z E 1 0 0 L f 0 [(0, .ref t)] []
  refine v_aload_n hC dX7_goesOn_0 rfl ?_
  obtain ⟨v_2, v_4, v_5, v_7, v_9, v_10, e_1, b_3, b_6, b_8⟩ := hW.at m_t T_t
  refine v_vi hC (rest := []) m_t e_1 rfl mi_X7_isFine ms_X7_isFine (p_X7_isFine m_t T_t m_q T_q hW) mx_X7_isFine ml_X7_31 (by decide) rfl (cells1 := 0) (slots1 := 0) (by decide) (by decide) (Nat.le_of_ble_eq_true rfl) (Nat.le_of_ble_eq_true rfl) rfl (Nat.le_of_ble_eq_true rfl) dX7_goesOn_1 (fun r_11 L_12 f_13 h_14 => ?_)
  obtain ⟨rfl, rfl⟩ := h_14
  refine v_if_eq hC dX7_goesOn_4 (tgt := 18) (by decide) (fun h_15 => ?_) (fun h_15 => ?_)
  · refine v_iconst hC dX7_goesOn_18 (v := 0) (by decide) ?_
    exact hR _ _ _ _ _ _ _ dX7_goesOn_19 rfl (Nat.le_of_ble_eq_true rfl) (Nat.le_of_ble_eq_true rfl) ⟨rfl, rfl⟩
  · refine v_aload_n hC dX7_goesOn_7 rfl ?_
    refine v_get hC fl_X7_35 m_t e_1 rfl dX7_goesOn_8 ?_
    refine v_if_eq hC dX7_goesOn_11 (tgt := 18) (by decide) (fun h_16 => ?_) (fun h_16 => ?_)
    · refine v_iconst hC dX7_goesOn_18 (v := 0) (by decide) ?_
      exact hR _ _ _ _ _ _ _ dX7_goesOn_19 rfl (Nat.le_of_ble_eq_true rfl) (Nat.le_of_ble_eq_true rfl) ⟨rfl, rfl⟩
    · refine v_iconst hC dX7_goesOn_14 (v := 1) (by decide) ?_
      refine v_goto hC dX7_goesOn_15 (tgt := 19) (by decide) ?_
      exact hR _ _ _ _ _ _ _ dX7_goesOn_19 rfl (Nat.le_of_ble_eq_true rfl) (Nat.le_of_ble_eq_true rfl) ⟨rfl, rfl⟩
set_option maxRecDepth 100000 in
set_option maxHeartbeats 4000000 in
theorem p_X7_complain {l : Launch} {E : Ez} {L : List Nat} {f : Nat → va_E} {T : Nat → va_E → Prop} {t q : Nat} {k : Int32} (m_t : t ∈ L) (T_t : T t = tTape q) (m_q : q ∈ L) (T_q : T q = tI E 600) (hW : WT T L f) : CV l yX7_complain cX7_complain 2 1 0 0 E [.ref t, .int k] L f (fun L1 f1 => L = L1 ∧ WT T L f1 ∧ ∀ b, b ≠ t → f1 b = f b) := by
  refine cv_of (by decide) (Nat.le_of_ble_eq_true rfl) (fun z hz hnm hC hR => ?_)
  have hC : Cx z E cX7_complain RX7 2 1 0 0 := hC
  subst hz
  show V z E 2 0 0 L f 0 [(0, .ref t), (1, .int k)] []
  refine v_aload_n hC dX7_complain_0 rfl ?_
  obtain ⟨v_2, v_4, v_5, v_7, v_9, v_10, e_1, b_3, b_6, b_8⟩ := hW.at m_t T_t
  refine v_vi hC (rest := []) m_t e_1 rfl mi_X7_isFine ms_X7_isFine (p_X7_isFine m_t T_t m_q T_q hW) mx_X7_isFine ml_X7_31 (by decide) rfl (cells1 := 0) (slots1 := 0) (by decide) (by decide) (Nat.le_of_ble_eq_true rfl) (Nat.le_of_ble_eq_true rfl) rfl (Nat.le_of_ble_eq_true rfl) dX7_complain_1 (fun r_11 L_12 f_13 h_14 => ?_)
  obtain ⟨rfl, rfl⟩ := h_14
  refine v_if_eq hC dX7_complain_4 (tgt := 25) (by decide) (fun h_15 => ?_) (fun h_15 => ?_)
  · exact hR _ _ _ _ _ _ dX7_complain_25 (Nat.le_of_ble_eq_true rfl) (Nat.le_of_ble_eq_true rfl) ⟨rfl, hW, fun b hb => rfl⟩
  · refine v_aload_n hC dX7_complain_7 rfl ?_
    refine v_iload_n hC dX7_complain_8 rfl ?_
    refine v_put hC fl_X7_22 m_t e_1 rfl rfl (Nat.le_of_ble_eq_true rfl) (fs' := [.ref q, .int v_2, .int v_4, .int v_5, .int v_7, .int k, .int v_10]) rfl dX7_complain_9 (fun f_16 hf_17 hk_18 => ?_)
    have hW_19 := hW.up hf_17 hk_18 T_t ⟨v_2, v_4, v_5, v_7, k, v_10, rfl, b_3, b_6, b_8⟩
    refine v_aload_n hC dX7_complain_12 rfl ?_
    refine v_aload_n hC dX7_complain_13 rfl ?_
    refine v_get hC fl_X7_38 m_t hf_17 rfl dX7_complain_14 ?_
    refine v_put hC fl_X7_15 m_t hf_17 rfl rfl (Nat.le_of_ble_eq_true rfl) (fs' := [.ref q, .int v_2, .int v_4, .int v_5, .int v_7, .int k, .int v_5]) rfl dX7_complain_17 (fun f_20 hf_21 hk_22 => ?_)
    have hW_23 := hW_19.up hf_21 hk_22 T_t ⟨v_2, v_4, v_5, v_7, k, v_5, rfl, b_3, b_6, b_8⟩
    refine v_aload_n hC dX7_complain_20 rfl ?_
    refine v_iconst hC dX7_complain_21 (v := 4) (by decide) ?_
    refine v_put hC fl_X7_35 m_t hf_21 rfl rfl (Nat.le_of_ble_eq_true rfl) (fs' := [.ref q, .int v_2, .int 4, .int v_5, .int v_7, .int k, .int v_5]) rfl dX7_complain_22 (fun f_24 hf_25 hk_26 => ?_)
    have hW_27 := hW_23.up hf_25 hk_26 T_t ⟨v_2, 4, v_5, v_7, k, v_5, rfl, b_3, b_6, b_8⟩
    exact hR _ _ _ _ _ _ dX7_complain_25 (Nat.le_of_ble_eq_true rfl) (Nat.le_of_ble_eq_true rfl) ⟨rfl, hW_27, fun b hb => ((hk_26 b hb).trans ((hk_22 b hb).trans (hk_18 b hb)))⟩
set_option maxRecDepth 100000 in
set_option maxHeartbeats 4000000 in
theorem p_X7_kindOf {l : Launch} {E : Ez} {L : List Nat} {f : Nat → va_E} {b : Int32}  : CI l yX7_kindOf cX7_kindOf 1 .int 0 0 0 E [.int b] L f (fun r L1 f1 => L = L1 ∧ f = f1) := by
  refine ci_of (by decide) (Nat.le_of_ble_eq_true rfl) (fun z hz hnm hC hR => ?_)
  have hC : Cx z E cX7_kindOf RX7 1 0 0 0 := hC
  subst hz
  show V z E 1 0 0 L f 0 [(0, .int b)] []
  refine v_iload_n hC dX7_kindOf_0 rfl ?_
  refine v_bipush hC dX7_kindOf_1 (v := 97) (by decide) ?_
  refine v_icmp_lt hC dX7_kindOf_3 (tgt := 14) (by decide) (fun h_1 => ?_) (fun h_1 => ?_)
  · refine v_iload_n hC dX7_kindOf_14 rfl ?_
    refine v_bipush hC dX7_kindOf_15 (v := 48) (by decide) ?_
    refine v_icmp_lt hC dX7_kindOf_17 (tgt := 28) (by decide) (fun h_2 => ?_) (fun h_2 => ?_)
    · refine v_iload_n hC dX7_kindOf_28 rfl ?_
      refine v_bipush hC dX7_kindOf_29 (v := 59) (by decide) ?_
      refine v_icmp_ne_t hC dX7_kindOf_31 (tgt := 36) (by decide) (by simp only [Int32.lt_iff_toInt_lt, Int32.le_iff_toInt_le, Int32.reduceToInt, ← Int32.toInt_inj] at h_1 h_2 ⊢; omega) ?_
      refine v_iload_n hC dX7_kindOf_36 rfl ?_
      refine v_iconst hC dX7_kindOf_37 (v := (-1)) (by decide) ?_
      refine v_icmp_ne hC dX7_kindOf_38 (tgt := 45) (by decide) (fun h_3 => ?_) (fun h_3 => ?_)
      · refine v_iconst hC dX7_kindOf_45 (v := 4) (by decide) ?_
        exact hR _ _ _ _ _ _ _ dX7_kindOf_46 rfl (Nat.le_of_ble_eq_true rfl) (Nat.le_of_ble_eq_true rfl) ⟨rfl, rfl⟩
      · refine v_iconst hC dX7_kindOf_41 (v := 0) (by decide) ?_
        refine v_goto hC dX7_kindOf_42 (tgt := 46) (by decide) ?_
        exact hR _ _ _ _ _ _ _ dX7_kindOf_46 rfl (Nat.le_of_ble_eq_true rfl) (Nat.le_of_ble_eq_true rfl) ⟨rfl, rfl⟩
    · refine v_iload_n hC dX7_kindOf_20 rfl ?_
      refine v_bipush hC dX7_kindOf_21 (v := 57) (by decide) ?_
      refine v_icmp_gt hC dX7_kindOf_23 (tgt := 28) (by decide) (fun h_4 => ?_) (fun h_4 => ?_)
      · refine v_iload_n hC dX7_kindOf_28 rfl ?_
        refine v_bipush hC dX7_kindOf_29 (v := 59) (by decide) ?_
        refine v_icmp_ne hC dX7_kindOf_31 (tgt := 36) (by decide) (fun h_5 => ?_) (fun h_5 => ?_)
        · refine v_iload_n hC dX7_kindOf_36 rfl ?_
          refine v_iconst hC dX7_kindOf_37 (v := (-1)) (by decide) ?_
          refine v_icmp_ne_t hC dX7_kindOf_38 (tgt := 45) (by decide) (by simp only [Int32.lt_iff_toInt_lt, Int32.le_iff_toInt_le, Int32.reduceToInt, ← Int32.toInt_inj] at h_1 h_2 h_4 h_5 ⊢; omega) ?_
          refine v_iconst hC dX7_kindOf_45 (v := 4) (by decide) ?_
          exact hR _ _ _ _ _ _ _ dX7_kindOf_46 rfl (Nat.le_of_ble_eq_true rfl) (Nat.le_of_ble_eq_true rfl) ⟨rfl, rfl⟩
        · refine v_iconst hC dX7_kindOf_34 (v := 3) (by decide) ?_
          exact hR _ _ _ _ _ _ _ dX7_kindOf_35 rfl (Nat.le_of_ble_eq_true rfl) (Nat.le_of_ble_eq_true rfl) ⟨rfl, rfl⟩
      · refine v_iconst hC dX7_kindOf_26 (v := 2) (by decide) ?_
        exact hR _ _ _ _ _ _ _ dX7_kindOf_27 rfl (Nat.le_of_ble_eq_true rfl) (Nat.le_of_ble_eq_true rfl) ⟨rfl, rfl⟩
  · refine v_iload_n hC dX7_kindOf_6 rfl ?_
    refine v_bipush hC dX7_kindOf_7 (v := 122) (by decide) ?_
    refine v_icmp_gt hC dX7_kindOf_9 (tgt := 14) (by decide) (fun h_6 => ?_) (fun h_6 => ?_)
    · refine v_iload_n hC dX7_kindOf_14 rfl ?_
      refine v_bipush hC dX7_kindOf_15 (v := 48) (by decide) ?_
      refine v_icmp_lt_f hC dX7_kindOf_17 (tgt := 28) (by decide) (by simp only [Int32.lt_iff_toInt_lt, Int32.le_iff_toInt_le, Int32.reduceToInt, ← Int32.toInt_inj] at h_1 h_6 ⊢; omega) ?_
      refine v_iload_n hC dX7_kindOf_20 rfl ?_
      refine v_bipush hC dX7_kindOf_21 (v := 57) (by decide) ?_
      refine v_icmp_gt_t hC dX7_kindOf_23 (tgt := 28) (by decide) (by simp only [Int32.lt_iff_toInt_lt, Int32.le_iff_toInt_le, Int32.reduceToInt, ← Int32.toInt_inj] at h_1 h_6 ⊢; omega) ?_
      refine v_iload_n hC dX7_kindOf_28 rfl ?_
      refine v_bipush hC dX7_kindOf_29 (v := 59) (by decide) ?_
      refine v_icmp_ne_t hC dX7_kindOf_31 (tgt := 36) (by decide) (by simp only [Int32.lt_iff_toInt_lt, Int32.le_iff_toInt_le, Int32.reduceToInt, ← Int32.toInt_inj] at h_1 h_6 ⊢; omega) ?_
      refine v_iload_n hC dX7_kindOf_36 rfl ?_
      refine v_iconst hC dX7_kindOf_37 (v := (-1)) (by decide) ?_
      refine v_icmp_ne_t hC dX7_kindOf_38 (tgt := 45) (by decide) (by simp only [Int32.lt_iff_toInt_lt, Int32.le_iff_toInt_le, Int32.reduceToInt, ← Int32.toInt_inj] at h_1 h_6 ⊢; omega) ?_
      refine v_iconst hC dX7_kindOf_45 (v := 4) (by decide) ?_
      exact hR _ _ _ _ _ _ _ dX7_kindOf_46 rfl (Nat.le_of_ble_eq_true rfl) (Nat.le_of_ble_eq_true rfl) ⟨rfl, rfl⟩
    · refine v_iconst hC dX7_kindOf_12 (v := 1) (by decide) ?_
      exact hR _ _ _ _ _ _ _ dX7_kindOf_13 rfl (Nat.le_of_ble_eq_true rfl) (Nat.le_of_ble_eq_true rfl) ⟨rfl, rfl⟩
set_option maxRecDepth 100000 in
set_option maxHeartbeats 4000000 in
theorem p_X7_isBlank {l : Launch} {E : Ez} {L : List Nat} {f : Nat → va_E} {b : Int32}  : CI l yX7_isBlank cX7_isBlank 1 .boolean 0 0 0 E [.int b] L f (fun r L1 f1 => L = L1 ∧ f = f1) := by
  refine ci_of (by decide) (Nat.le_of_ble_eq_true rfl) (fun z hz hnm hC hR => ?_)
  have hC : Cx z E cX7_isBlank RX7 1 0 0 0 := hC
  subst hz
  show V z E 1 0 0 L f 0 [(0, .int b)] []
  refine v_iload_n hC dX7_isBlank_0 rfl ?_
  refine v_bipush hC dX7_isBlank_1 (v := 32) (by decide) ?_
  refine v_icmp_eq hC dX7_isBlank_3 (tgt := 12) (by decide) (fun h_1 => ?_) (fun h_1 => ?_)
  · refine v_iconst hC dX7_isBlank_12 (v := 1) (by decide) ?_
    refine v_goto hC dX7_isBlank_13 (tgt := 17) (by decide) ?_
    exact hR _ _ _ _ _ _ _ dX7_isBlank_17 rfl (Nat.le_of_ble_eq_true rfl) (Nat.le_of_ble_eq_true rfl) ⟨rfl, rfl⟩
  · refine v_iload_n hC dX7_isBlank_6 rfl ?_
    refine v_bipush hC dX7_isBlank_7 (v := 10) (by decide) ?_
    refine v_icmp_ne hC dX7_isBlank_9 (tgt := 16) (by decide) (fun h_2 => ?_) (fun h_2 => ?_)
    · refine v_iconst hC dX7_isBlank_16 (v := 0) (by decide) ?_
      exact hR _ _ _ _ _ _ _ dX7_isBlank_17 rfl (Nat.le_of_ble_eq_true rfl) (Nat.le_of_ble_eq_true rfl) ⟨rfl, rfl⟩
    · refine v_iconst hC dX7_isBlank_12 (v := 1) (by decide) ?_
      refine v_goto hC dX7_isBlank_13 (tgt := 17) (by decide) ?_
      exact hR _ _ _ _ _ _ _ dX7_isBlank_17 rfl (Nat.le_of_ble_eq_true rfl) (Nat.le_of_ble_eq_true rfl) ⟨rfl, rfl⟩
set_option maxRecDepth 100000 in
set_option maxHeartbeats 4000000 in
theorem p_X7_advance {l : Launch} {E : Ez} {L : List Nat} {f : Nat → va_E} {T : Nat → va_E → Prop} {t q : Nat} (m_t : t ∈ L) (T_t : T t = tTape q) (m_q : q ∈ L) (T_q : T q = tI E 600) (hW : WT T L f) : CV l yX7_advance cX7_advance 2 1 0 0 E [.ref t] L f (fun L1 f1 => L = L1 ∧ WT T L f1 ∧ ∀ b, b ≠ t → f1 b = f b) := by
  refine cv_of (by decide) (Nat.le_of_ble_eq_true rfl) (fun z hz hnm hC hR => ?_)
  have hC : Cx z E cX7_advance RX7 2 1 0 0 := hC
  subst hz
  show V z E 2 0 0 L f 0 [(0, .ref t)] []
  refine v_aload_n hC dX7_advance_0 rfl ?_
  obtain ⟨v_2, v_4, v_5, v_7, v_9, v_10, e_1, b_3, b_6, b_8⟩ := hW.at m_t T_t
  refine v_vi hC (rest := []) m_t e_1 rfl mi_X7_isFine ms_X7_isFine (p_X7_isFine m_t T_t m_q T_q hW) mx_X7_isFine ml_X7_31 (by decide) rfl (cells1 := 0) (slots1 := 0) (by decide) (by decide) (Nat.le_of_ble_eq_true rfl) (Nat.le_of_ble_eq_true rfl) rfl (Nat.le_of_ble_eq_true rfl) dX7_advance_1 (fun r_11 L_12 f_13 h_14 => ?_)
  obtain ⟨rfl, rfl⟩ := h_14
  refine v_if_ne hC dX7_advance_4 (tgt := 8) (by decide) (fun h_15 => ?_) (fun h_15 => ?_)
  · refine v_aload_n hC dX7_advance_8 rfl ?_
    refine v_aload_n hC dX7_advance_9 rfl ?_
    refine v_get hC fl_X7_25 m_t e_1 rfl dX7_advance_10 ?_
    refine v_put hC fl_X7_38 m_t e_1 rfl rfl (Nat.le_of_ble_eq_true rfl) (fs' := [.ref q, .int v_2, .int v_4, .int v_7, .int v_7, .int v_9, .int v_10]) rfl dX7_advance_13 (fun f_16 hf_17 hk_18 => ?_)
    have hW_19 := hW.up hf_17 hk_18 T_t ⟨v_2, v_4, v_7, v_7, v_9, v_10, rfl, b_3, b_8, b_8⟩
    have loop16 : ∀ (n9 : Nat) (f_30 : Nat → va_E) (_ : WT T L f_30) (v_20 v_22 v_23 v_25 v_27 v_28 : Int32), f_30 t = ob 7 [.ref q, .int v_20, .int v_22, .int v_23, .int v_25, .int v_27, .int v_28] → (0 ≤ v_20 ∧ v_20 ≤ 600) → (0 ≤ v_23 ∧ v_23 ≤ 600) → (0 ≤ v_25 ∧ v_25 ≤ 600) → (∀ b, b ≠ t → f_30 b = f_16 b) → 600 - v_23.toInt < (n9 : Int) → V z E 2 0 0 L f_30 16 [(0, .ref t)] [] := by
      intro n9
      induction n9 with
      | zero =>
        intro f_30 hW_31 v_20 v_22 v_23 v_25 v_27 v_28 e_32 b_21 b_24 b_26 hk_33 hm_29
        exfalso
        simp only [Int32.lt_iff_toInt_lt, Int32.le_iff_toInt_le, Int32.reduceToInt, ← Int32.toInt_inj] at b_21 b_24 b_26
        omega
      | succ n9 ih =>
        intro f_30 hW_31 v_20 v_22 v_23 v_25 v_27 v_28 e_32 b_21 b_24 b_26 hk_33 hm_29
        refine v_aload_n hC dX7_advance_16 rfl ?_
        refine v_get hC fl_X7_38 m_t e_32 rfl dX7_advance_17 ?_
        refine v_aload_n hC dX7_advance_20 rfl ?_
        refine v_get hC fl_X7_19 m_t e_32 rfl dX7_advance_21 ?_
        refine v_icmp_ge hC dX7_advance_24 (tgt := 54) (by decide) (fun h_34 => ?_) (fun h_34 => ?_)
        · refine v_aload_n hC dX7_advance_54 rfl ?_
          refine v_aload_n hC dX7_advance_55 rfl ?_
          refine v_aload_n hC dX7_advance_56 rfl ?_
          refine v_get hC fl_X7_38 m_t e_32 rfl dX7_advance_57 ?_
          refine v_vi hC (rest := [.ref t]) m_t e_32 rfl mi_X7_byteAt ms_X7_byteAt (p_X7_byteAt m_t T_t m_q T_q hW_31) mx_X7_byteAt ml_X7_41 (by decide) rfl (cells1 := 0) (slots1 := 0) (by decide) (by decide) (Nat.le_of_ble_eq_true rfl) (Nat.le_of_ble_eq_true rfl) rfl (Nat.le_of_ble_eq_true rfl) dX7_advance_60 (fun r_35 L_36 f_37 h_38 => ?_)
          obtain ⟨rfl, rfl⟩ := h_38
          refine v_si hC (rest := [.ref t]) mt_X7_kindOf p_X7_kindOf mx_X7_kindOf ml_X7_49 (by decide) rfl (cells1 := 0) (slots1 := 0) (by decide) (by decide) (Nat.le_of_ble_eq_true rfl) (Nat.le_of_ble_eq_true rfl) rfl (Nat.le_of_ble_eq_true rfl) dX7_advance_63 (fun r_39 L_40 f_41 h_42 => ?_)
          obtain ⟨rfl, rfl⟩ := h_42
          refine v_put hC fl_X7_35 m_t e_32 rfl rfl (Nat.le_of_ble_eq_true rfl) (fs' := [.ref q, .int v_20, .int r_39, .int v_23, .int v_25, .int v_27, .int v_28]) rfl dX7_advance_66 (fun f_43 hf_44 hk_45 => ?_)
          have hW_46 := hW_31.up hf_44 hk_45 T_t ⟨v_20, r_39, v_23, v_25, v_27, v_28, rfl, b_21, b_24, b_26⟩
          refine v_aload_n hC dX7_advance_69 rfl ?_
          refine v_aload_n hC dX7_advance_70 rfl ?_
          refine v_get hC fl_X7_38 m_t hf_44 rfl dX7_advance_71 ?_
          refine v_iconst hC dX7_advance_74 (v := 1) (by decide) ?_
          obtain ⟨v_47, h_48⟩ : ∃ v9 : Int32, v_23 + 1 = v9 := ⟨_, rfl⟩
          refine v_iadd hC dX7_advance_75 h_48 ?_
          have h_49 : v_47.toInt = (v_23 : Int32).toInt + (1 : Int32).toInt := by rw [← h_48]; exact add_toInt (by simp only [Int32.lt_iff_toInt_lt, Int32.le_iff_toInt_le, Int32.reduceToInt, ← Int32.toInt_inj] at b_21 b_24 hm_29 h_34 ⊢; omega) (by simp only [Int32.lt_iff_toInt_lt, Int32.le_iff_toInt_le, Int32.reduceToInt, ← Int32.toInt_inj] at b_21 b_24 hm_29 h_34 ⊢; omega)
          refine v_aload_n hC dX7_advance_76 rfl ?_
          refine v_get hC fl_X7_19 m_t hf_44 rfl dX7_advance_77 ?_
          obtain ⟨v_50, h_51⟩ : ∃ v9 : Int32, (if v_20 < v_47 then v_20 else v_47) = v9 := ⟨_, rfl⟩
          refine v_mmin hC mm_X7_52 mm_smin mm_i mm_cmin (by decide) (Nat.le_of_ble_eq_true rfl) (Nat.le_of_ble_eq_true rfl) (Nat.le_of_ble_eq_true rfl) h_51 dX7_advance_80 ?_
          have b_52 : 0 ≤ v_50 ∧ v_50 ≤ 600 := by rw [← h_51]; simp only [Int32.lt_iff_toInt_lt, Int32.le_iff_toInt_le, Int32.reduceToInt, ← Int32.toInt_inj] at b_21 b_24 hm_29 h_34 h_49 ⊢; split <;> (simp only [Int32.lt_iff_toInt_lt, Int32.le_iff_toInt_le, Int32.reduceToInt, ← Int32.toInt_inj] at *; omega)
          refine v_put hC fl_X7_25 m_t hf_44 rfl rfl (Nat.le_of_ble_eq_true rfl) (fs' := [.ref q, .int v_20, .int r_39, .int v_23, .int v_50, .int v_27, .int v_28]) rfl dX7_advance_83 (fun f_53 hf_54 hk_55 => ?_)
          have hW_56 := hW_46.up hf_54 hk_55 T_t ⟨v_20, r_39, v_23, v_50, v_27, v_28, rfl, b_21, b_24, b_52⟩
          refine v_aload_n hC dX7_advance_86 rfl ?_
          refine v_get hC fl_X7_35 m_t hf_54 rfl dX7_advance_87 ?_
          refine v_iconst hC dX7_advance_90 (v := 1) (by decide) ?_
          refine v_icmp_eq hC dX7_advance_91 (tgt := 102) (by decide) (fun h_57 => ?_) (fun h_57 => ?_)
          · refine v_iconst hC dX7_advance_102 (v := 1) (by decide) ?_
            refine v_goto hC dX7_advance_103 (tgt := 107) (by decide) ?_
            refine v_istore_n hC dX7_advance_107 (by decide) (lv' := [(1, .int 1), (0, .ref t)]) rfl ?_
            have loop108 : ∀ (n9 : Nat) (f_68 : Nat → va_E) (_ : WT T L f_68) (v_58 v_60 v_61 v_63 v_65 v_66 : Int32), f_68 t = ob 7 [.ref q, .int v_58, .int v_60, .int v_61, .int v_63, .int v_65, .int v_66] → (0 ≤ v_58 ∧ v_58 ≤ 600) → (0 ≤ v_61 ∧ v_61 ≤ 600) → (0 ≤ v_63 ∧ v_63 ≤ 600) → (∀ b, b ≠ t → f_68 b = f_53 b) → 600 - v_63.toInt < (n9 : Int) → V z E 2 0 0 L f_68 108 [(1, .int 1), (0, .ref t)] [] := by
              intro n9
              induction n9 with
              | zero =>
                intro f_68 hW_69 v_58 v_60 v_61 v_63 v_65 v_66 e_70 b_59 b_62 b_64 hk_71 hm_67
                exfalso
                simp only [Int32.lt_iff_toInt_lt, Int32.le_iff_toInt_le, Int32.reduceToInt, ← Int32.toInt_inj] at b_59 b_62 b_64
                omega
              | succ n9 ih =>
                intro f_68 hW_69 v_58 v_60 v_61 v_63 v_65 v_66 e_70 b_59 b_62 b_64 hk_71 hm_67
                refine v_iload_n hC dX7_advance_108 rfl ?_
                refine v_if_eq_f hC dX7_advance_109 (tgt := 154) (by decide) (by decide) ?_
                refine v_aload_n hC dX7_advance_112 rfl ?_
                refine v_get hC fl_X7_25 m_t e_70 rfl dX7_advance_113 ?_
                refine v_aload_n hC dX7_advance_116 rfl ?_
                refine v_get hC fl_X7_19 m_t e_70 rfl dX7_advance_117 ?_
                refine v_icmp_ge hC dX7_advance_120 (tgt := 154) (by decide) (fun h_72 => ?_) (fun h_72 => ?_)
                · exact hR _ _ _ _ _ _ dX7_advance_154 (Nat.le_of_ble_eq_true rfl) (Nat.le_of_ble_eq_true rfl) ⟨rfl, hW_69, fun b hb => ((hk_71 b hb).trans ((hk_55 b hb).trans ((hk_45 b hb).trans ((hk_33 b hb).trans (hk_18 b hb)))))⟩
                · refine v_aload_n hC dX7_advance_123 rfl ?_
                  refine v_aload_n hC dX7_advance_124 rfl ?_
                  refine v_get hC fl_X7_25 m_t e_70 rfl dX7_advance_125 ?_
                  refine v_vi hC (rest := []) m_t e_70 rfl mi_X7_byteAt ms_X7_byteAt (p_X7_byteAt m_t T_t m_q T_q hW_69) mx_X7_byteAt ml_X7_41 (by decide) rfl (cells1 := 0) (slots1 := 0) (by decide) (by decide) (Nat.le_of_ble_eq_true rfl) (Nat.le_of_ble_eq_true rfl) rfl (Nat.le_of_ble_eq_true rfl) dX7_advance_128 (fun r_73 L_74 f_75 h_76 => ?_)
                  obtain ⟨rfl, rfl⟩ := h_76
                  refine v_si hC (rest := []) mt_X7_kindOf p_X7_kindOf mx_X7_kindOf ml_X7_49 (by decide) rfl (cells1 := 0) (slots1 := 0) (by decide) (by decide) (Nat.le_of_ble_eq_true rfl) (Nat.le_of_ble_eq_true rfl) rfl (Nat.le_of_ble_eq_true rfl) dX7_advance_131 (fun r_77 L_78 f_79 h_80 => ?_)
                  obtain ⟨rfl, rfl⟩ := h_80
                  refine v_aload_n hC dX7_advance_134 rfl ?_
                  refine v_get hC fl_X7_35 m_t e_70 rfl dX7_advance_135 ?_
                  refine v_icmp_ne hC dX7_advance_138 (tgt := 154) (by decide) (fun h_81 => ?_) (fun h_81 => ?_)
                  · exact hR _ _ _ _ _ _ dX7_advance_154 (Nat.le_of_ble_eq_true rfl) (Nat.le_of_ble_eq_true rfl) ⟨rfl, hW_69, fun b hb => ((hk_71 b hb).trans ((hk_55 b hb).trans ((hk_45 b hb).trans ((hk_33 b hb).trans (hk_18 b hb)))))⟩
                  · refine v_aload_n hC dX7_advance_141 rfl ?_
                    refine v_dup hC dX7_advance_142 rfl ?_
                    refine v_get hC fl_X7_25 m_t e_70 rfl dX7_advance_143 ?_
                    refine v_iconst hC dX7_advance_146 (v := 1) (by decide) ?_
                    obtain ⟨v_82, h_83⟩ : ∃ v9 : Int32, v_63 + 1 = v9 := ⟨_, rfl⟩
                    refine v_iadd hC dX7_advance_147 h_83 ?_
                    have h_84 : v_82.toInt = (v_63 : Int32).toInt + (1 : Int32).toInt := by rw [← h_83]; exact add_toInt (by simp only [Int32.lt_iff_toInt_lt, Int32.le_iff_toInt_le, Int32.reduceToInt, ← Int32.toInt_inj] at b_21 b_24 hm_29 h_34 h_49 b_59 b_64 hm_67 h_72 ⊢; omega) (by simp only [Int32.lt_iff_toInt_lt, Int32.le_iff_toInt_le, Int32.reduceToInt, ← Int32.toInt_inj] at b_21 b_24 hm_29 h_34 h_49 b_59 b_64 hm_67 h_72 ⊢; omega)
                    refine v_put hC fl_X7_25 m_t e_70 rfl rfl (Nat.le_of_ble_eq_true rfl) (fs' := [.ref q, .int v_58, .int v_60, .int v_61, .int v_82, .int v_65, .int v_66]) rfl dX7_advance_148 (fun f_85 hf_86 hk_87 => ?_)
                    have hW_88 := hW_69.up hf_86 hk_87 T_t ⟨v_58, v_60, v_61, v_82, v_65, v_66, rfl, b_59, b_62, (by simp only [Int32.lt_iff_toInt_lt, Int32.le_iff_toInt_le, Int32.reduceToInt, ← Int32.toInt_inj] at b_21 b_24 hm_29 h_34 h_49 b_59 b_64 hm_67 h_72 h_84 ⊢; omega)⟩
                    refine v_goto hC dX7_advance_151 (tgt := 108) (by decide) ?_
                    refine v_pick [0, 1] rfl ?_
                    exact ih f_85 hW_88 v_58 v_60 v_61 v_82 v_65 v_66 hf_86 b_59 b_62 (by simp only [Int32.lt_iff_toInt_lt, Int32.le_iff_toInt_le, Int32.reduceToInt, ← Int32.toInt_inj] at b_21 b_24 hm_29 h_34 h_49 b_59 b_64 hm_67 h_72 h_84 ⊢; omega) (fun b hb => ((hk_87 b hb).trans (hk_71 b hb))) (by simp only [Int32.lt_iff_toInt_lt, Int32.le_iff_toInt_le, Int32.reduceToInt, ← Int32.toInt_inj] at b_21 b_24 hm_29 h_34 h_49 b_59 b_64 hm_67 h_72 h_84 ⊢; omega)
            refine v_pick [0, 1] rfl ?_
            exact loop108 602 f_53 hW_56 v_20 r_39 v_23 v_50 v_27 v_28 hf_54 b_21 b_24 b_52 (fun _ _ => rfl) (by simp only [Int32.lt_iff_toInt_lt, Int32.le_iff_toInt_le, Int32.reduceToInt, ← Int32.toInt_inj] at b_52 ⊢; omega)
          · refine v_aload_n hC dX7_advance_94 rfl ?_
            refine v_get hC fl_X7_35 m_t hf_54 rfl dX7_advance_95 ?_
            refine v_iconst hC dX7_advance_98 (v := 2) (by decide) ?_
            refine v_icmp_ne hC dX7_advance_99 (tgt := 106) (by decide) (fun h_89 => ?_) (fun h_89 => ?_)
            · refine v_iconst hC dX7_advance_106 (v := 0) (by decide) ?_
              refine v_istore_n hC dX7_advance_107 (by decide) (lv' := [(1, .int 0), (0, .ref t)]) rfl ?_
              have loop108 : ∀ (n9 : Nat) (f_100 : Nat → va_E) (_ : WT T L f_100) (v_90 v_92 v_93 v_95 v_97 v_98 : Int32), f_100 t = ob 7 [.ref q, .int v_90, .int v_92, .int v_93, .int v_95, .int v_97, .int v_98] → (0 ≤ v_90 ∧ v_90 ≤ 600) → (0 ≤ v_93 ∧ v_93 ≤ 600) → (0 ≤ v_95 ∧ v_95 ≤ 600) → (∀ b, b ≠ t → f_100 b = f_53 b) → 600 - v_95.toInt < (n9 : Int) → V z E 2 0 0 L f_100 108 [(1, .int 0), (0, .ref t)] [] := by
                intro n9
                induction n9 with
                | zero =>
                  intro f_100 hW_101 v_90 v_92 v_93 v_95 v_97 v_98 e_102 b_91 b_94 b_96 hk_103 hm_99
                  exfalso
                  simp only [Int32.lt_iff_toInt_lt, Int32.le_iff_toInt_le, Int32.reduceToInt, ← Int32.toInt_inj] at b_91 b_94 b_96
                  omega
                | succ n9 ih =>
                  intro f_100 hW_101 v_90 v_92 v_93 v_95 v_97 v_98 e_102 b_91 b_94 b_96 hk_103 hm_99
                  refine v_iload_n hC dX7_advance_108 rfl ?_
                  refine v_if_eq_t hC dX7_advance_109 (tgt := 154) (by decide) (by decide) ?_
                  exact hR _ _ _ _ _ _ dX7_advance_154 (Nat.le_of_ble_eq_true rfl) (Nat.le_of_ble_eq_true rfl) ⟨rfl, hW_101, fun b hb => ((hk_103 b hb).trans ((hk_55 b hb).trans ((hk_45 b hb).trans ((hk_33 b hb).trans (hk_18 b hb)))))⟩
              refine v_pick [0, 1] rfl ?_
              exact loop108 602 f_53 hW_56 v_20 r_39 v_23 v_50 v_27 v_28 hf_54 b_21 b_24 b_52 (fun _ _ => rfl) (by simp only [Int32.lt_iff_toInt_lt, Int32.le_iff_toInt_le, Int32.reduceToInt, ← Int32.toInt_inj] at b_52 ⊢; omega)
            · refine v_iconst hC dX7_advance_102 (v := 1) (by decide) ?_
              refine v_goto hC dX7_advance_103 (tgt := 107) (by decide) ?_
              refine v_istore_n hC dX7_advance_107 (by decide) (lv' := [(1, .int 1), (0, .ref t)]) rfl ?_
              have loop108 : ∀ (n9 : Nat) (f_114 : Nat → va_E) (_ : WT T L f_114) (v_104 v_106 v_107 v_109 v_111 v_112 : Int32), f_114 t = ob 7 [.ref q, .int v_104, .int v_106, .int v_107, .int v_109, .int v_111, .int v_112] → (0 ≤ v_104 ∧ v_104 ≤ 600) → (0 ≤ v_107 ∧ v_107 ≤ 600) → (0 ≤ v_109 ∧ v_109 ≤ 600) → (∀ b, b ≠ t → f_114 b = f_53 b) → 600 - v_109.toInt < (n9 : Int) → V z E 2 0 0 L f_114 108 [(1, .int 1), (0, .ref t)] [] := by
                intro n9
                induction n9 with
                | zero =>
                  intro f_114 hW_115 v_104 v_106 v_107 v_109 v_111 v_112 e_116 b_105 b_108 b_110 hk_117 hm_113
                  exfalso
                  simp only [Int32.lt_iff_toInt_lt, Int32.le_iff_toInt_le, Int32.reduceToInt, ← Int32.toInt_inj] at b_105 b_108 b_110
                  omega
                | succ n9 ih =>
                  intro f_114 hW_115 v_104 v_106 v_107 v_109 v_111 v_112 e_116 b_105 b_108 b_110 hk_117 hm_113
                  refine v_iload_n hC dX7_advance_108 rfl ?_
                  refine v_if_eq_f hC dX7_advance_109 (tgt := 154) (by decide) (by decide) ?_
                  refine v_aload_n hC dX7_advance_112 rfl ?_
                  refine v_get hC fl_X7_25 m_t e_116 rfl dX7_advance_113 ?_
                  refine v_aload_n hC dX7_advance_116 rfl ?_
                  refine v_get hC fl_X7_19 m_t e_116 rfl dX7_advance_117 ?_
                  refine v_icmp_ge hC dX7_advance_120 (tgt := 154) (by decide) (fun h_118 => ?_) (fun h_118 => ?_)
                  · exact hR _ _ _ _ _ _ dX7_advance_154 (Nat.le_of_ble_eq_true rfl) (Nat.le_of_ble_eq_true rfl) ⟨rfl, hW_115, fun b hb => ((hk_117 b hb).trans ((hk_55 b hb).trans ((hk_45 b hb).trans ((hk_33 b hb).trans (hk_18 b hb)))))⟩
                  · refine v_aload_n hC dX7_advance_123 rfl ?_
                    refine v_aload_n hC dX7_advance_124 rfl ?_
                    refine v_get hC fl_X7_25 m_t e_116 rfl dX7_advance_125 ?_
                    refine v_vi hC (rest := []) m_t e_116 rfl mi_X7_byteAt ms_X7_byteAt (p_X7_byteAt m_t T_t m_q T_q hW_115) mx_X7_byteAt ml_X7_41 (by decide) rfl (cells1 := 0) (slots1 := 0) (by decide) (by decide) (Nat.le_of_ble_eq_true rfl) (Nat.le_of_ble_eq_true rfl) rfl (Nat.le_of_ble_eq_true rfl) dX7_advance_128 (fun r_119 L_120 f_121 h_122 => ?_)
                    obtain ⟨rfl, rfl⟩ := h_122
                    refine v_si hC (rest := []) mt_X7_kindOf p_X7_kindOf mx_X7_kindOf ml_X7_49 (by decide) rfl (cells1 := 0) (slots1 := 0) (by decide) (by decide) (Nat.le_of_ble_eq_true rfl) (Nat.le_of_ble_eq_true rfl) rfl (Nat.le_of_ble_eq_true rfl) dX7_advance_131 (fun r_123 L_124 f_125 h_126 => ?_)
                    obtain ⟨rfl, rfl⟩ := h_126
                    refine v_aload_n hC dX7_advance_134 rfl ?_
                    refine v_get hC fl_X7_35 m_t e_116 rfl dX7_advance_135 ?_
                    refine v_icmp_ne hC dX7_advance_138 (tgt := 154) (by decide) (fun h_127 => ?_) (fun h_127 => ?_)
                    · exact hR _ _ _ _ _ _ dX7_advance_154 (Nat.le_of_ble_eq_true rfl) (Nat.le_of_ble_eq_true rfl) ⟨rfl, hW_115, fun b hb => ((hk_117 b hb).trans ((hk_55 b hb).trans ((hk_45 b hb).trans ((hk_33 b hb).trans (hk_18 b hb)))))⟩
                    · refine v_aload_n hC dX7_advance_141 rfl ?_
                      refine v_dup hC dX7_advance_142 rfl ?_
                      refine v_get hC fl_X7_25 m_t e_116 rfl dX7_advance_143 ?_
                      refine v_iconst hC dX7_advance_146 (v := 1) (by decide) ?_
                      obtain ⟨v_128, h_129⟩ : ∃ v9 : Int32, v_109 + 1 = v9 := ⟨_, rfl⟩
                      refine v_iadd hC dX7_advance_147 h_129 ?_
                      have h_130 : v_128.toInt = (v_109 : Int32).toInt + (1 : Int32).toInt := by rw [← h_129]; exact add_toInt (by simp only [Int32.lt_iff_toInt_lt, Int32.le_iff_toInt_le, Int32.reduceToInt, ← Int32.toInt_inj] at b_21 b_24 hm_29 h_34 h_49 b_105 b_110 hm_113 h_118 ⊢; omega) (by simp only [Int32.lt_iff_toInt_lt, Int32.le_iff_toInt_le, Int32.reduceToInt, ← Int32.toInt_inj] at b_21 b_24 hm_29 h_34 h_49 b_105 b_110 hm_113 h_118 ⊢; omega)
                      refine v_put hC fl_X7_25 m_t e_116 rfl rfl (Nat.le_of_ble_eq_true rfl) (fs' := [.ref q, .int v_104, .int v_106, .int v_107, .int v_128, .int v_111, .int v_112]) rfl dX7_advance_148 (fun f_131 hf_132 hk_133 => ?_)
                      have hW_134 := hW_115.up hf_132 hk_133 T_t ⟨v_104, v_106, v_107, v_128, v_111, v_112, rfl, b_105, b_108, (by simp only [Int32.lt_iff_toInt_lt, Int32.le_iff_toInt_le, Int32.reduceToInt, ← Int32.toInt_inj] at b_21 b_24 hm_29 h_34 h_49 b_105 b_110 hm_113 h_118 h_130 ⊢; omega)⟩
                      refine v_goto hC dX7_advance_151 (tgt := 108) (by decide) ?_
                      refine v_pick [0, 1] rfl ?_
                      exact ih f_131 hW_134 v_104 v_106 v_107 v_128 v_111 v_112 hf_132 b_105 b_108 (by simp only [Int32.lt_iff_toInt_lt, Int32.le_iff_toInt_le, Int32.reduceToInt, ← Int32.toInt_inj] at b_21 b_24 hm_29 h_34 h_49 b_105 b_110 hm_113 h_118 h_130 ⊢; omega) (fun b hb => ((hk_133 b hb).trans (hk_117 b hb))) (by simp only [Int32.lt_iff_toInt_lt, Int32.le_iff_toInt_le, Int32.reduceToInt, ← Int32.toInt_inj] at b_21 b_24 hm_29 h_34 h_49 b_105 b_110 hm_113 h_118 h_130 ⊢; omega)
              refine v_pick [0, 1] rfl ?_
              exact loop108 602 f_53 hW_56 v_20 r_39 v_23 v_50 v_27 v_28 hf_54 b_21 b_24 b_52 (fun _ _ => rfl) (by simp only [Int32.lt_iff_toInt_lt, Int32.le_iff_toInt_le, Int32.reduceToInt, ← Int32.toInt_inj] at b_52 ⊢; omega)
        · refine v_aload_n hC dX7_advance_27 rfl ?_
          refine v_aload_n hC dX7_advance_28 rfl ?_
          refine v_get hC fl_X7_38 m_t e_32 rfl dX7_advance_29 ?_
          refine v_vi hC (rest := []) m_t e_32 rfl mi_X7_byteAt ms_X7_byteAt (p_X7_byteAt m_t T_t m_q T_q hW_31) mx_X7_byteAt ml_X7_41 (by decide) rfl (cells1 := 0) (slots1 := 0) (by decide) (by decide) (Nat.le_of_ble_eq_true rfl) (Nat.le_of_ble_eq_true rfl) rfl (Nat.le_of_ble_eq_true rfl) dX7_advance_32 (fun r_135 L_136 f_137 h_138 => ?_)
          obtain ⟨rfl, rfl⟩ := h_138
          refine v_si hC (rest := []) mt_X7_isBlank p_X7_isBlank mx_X7_isBlank ml_X7_45 (by decide) rfl (cells1 := 0) (slots1 := 0) (by decide) (by decide) (Nat.le_of_ble_eq_true rfl) (Nat.le_of_ble_eq_true rfl) rfl (Nat.le_of_ble_eq_true rfl) dX7_advance_35 (fun r_139 L_140 f_141 h_142 => ?_)
          obtain ⟨rfl, rfl⟩ := h_142
          refine v_if_eq hC dX7_advance_38 (tgt := 54) (by decide) (fun h_143 => ?_) (fun h_143 => ?_)
          · refine v_aload_n hC dX7_advance_54 rfl ?_
            refine v_aload_n hC dX7_advance_55 rfl ?_
            refine v_aload_n hC dX7_advance_56 rfl ?_
            refine v_get hC fl_X7_38 m_t e_32 rfl dX7_advance_57 ?_
            refine v_vi hC (rest := [.ref t]) m_t e_32 rfl mi_X7_byteAt ms_X7_byteAt (p_X7_byteAt m_t T_t m_q T_q hW_31) mx_X7_byteAt ml_X7_41 (by decide) rfl (cells1 := 0) (slots1 := 0) (by decide) (by decide) (Nat.le_of_ble_eq_true rfl) (Nat.le_of_ble_eq_true rfl) rfl (Nat.le_of_ble_eq_true rfl) dX7_advance_60 (fun r_144 L_145 f_146 h_147 => ?_)
            obtain ⟨rfl, rfl⟩ := h_147
            refine v_si hC (rest := [.ref t]) mt_X7_kindOf p_X7_kindOf mx_X7_kindOf ml_X7_49 (by decide) rfl (cells1 := 0) (slots1 := 0) (by decide) (by decide) (Nat.le_of_ble_eq_true rfl) (Nat.le_of_ble_eq_true rfl) rfl (Nat.le_of_ble_eq_true rfl) dX7_advance_63 (fun r_148 L_149 f_150 h_151 => ?_)
            obtain ⟨rfl, rfl⟩ := h_151
            refine v_put hC fl_X7_35 m_t e_32 rfl rfl (Nat.le_of_ble_eq_true rfl) (fs' := [.ref q, .int v_20, .int r_148, .int v_23, .int v_25, .int v_27, .int v_28]) rfl dX7_advance_66 (fun f_152 hf_153 hk_154 => ?_)
            have hW_155 := hW_31.up hf_153 hk_154 T_t ⟨v_20, r_148, v_23, v_25, v_27, v_28, rfl, b_21, b_24, b_26⟩
            refine v_aload_n hC dX7_advance_69 rfl ?_
            refine v_aload_n hC dX7_advance_70 rfl ?_
            refine v_get hC fl_X7_38 m_t hf_153 rfl dX7_advance_71 ?_
            refine v_iconst hC dX7_advance_74 (v := 1) (by decide) ?_
            obtain ⟨v_156, h_157⟩ : ∃ v9 : Int32, v_23 + 1 = v9 := ⟨_, rfl⟩
            refine v_iadd hC dX7_advance_75 h_157 ?_
            have h_158 : v_156.toInt = (v_23 : Int32).toInt + (1 : Int32).toInt := by rw [← h_157]; exact add_toInt (by simp only [Int32.lt_iff_toInt_lt, Int32.le_iff_toInt_le, Int32.reduceToInt, ← Int32.toInt_inj] at b_21 b_24 hm_29 h_34 ⊢; omega) (by simp only [Int32.lt_iff_toInt_lt, Int32.le_iff_toInt_le, Int32.reduceToInt, ← Int32.toInt_inj] at b_21 b_24 hm_29 h_34 ⊢; omega)
            refine v_aload_n hC dX7_advance_76 rfl ?_
            refine v_get hC fl_X7_19 m_t hf_153 rfl dX7_advance_77 ?_
            obtain ⟨v_159, h_160⟩ : ∃ v9 : Int32, (if v_20 < v_156 then v_20 else v_156) = v9 := ⟨_, rfl⟩
            refine v_mmin hC mm_X7_52 mm_smin mm_i mm_cmin (by decide) (Nat.le_of_ble_eq_true rfl) (Nat.le_of_ble_eq_true rfl) (Nat.le_of_ble_eq_true rfl) h_160 dX7_advance_80 ?_
            have b_161 : 0 ≤ v_159 ∧ v_159 ≤ 600 := by rw [← h_160]; simp only [Int32.lt_iff_toInt_lt, Int32.le_iff_toInt_le, Int32.reduceToInt, ← Int32.toInt_inj] at b_21 b_24 hm_29 h_34 h_158 ⊢; split <;> (simp only [Int32.lt_iff_toInt_lt, Int32.le_iff_toInt_le, Int32.reduceToInt, ← Int32.toInt_inj] at *; omega)
            refine v_put hC fl_X7_25 m_t hf_153 rfl rfl (Nat.le_of_ble_eq_true rfl) (fs' := [.ref q, .int v_20, .int r_148, .int v_23, .int v_159, .int v_27, .int v_28]) rfl dX7_advance_83 (fun f_162 hf_163 hk_164 => ?_)
            have hW_165 := hW_155.up hf_163 hk_164 T_t ⟨v_20, r_148, v_23, v_159, v_27, v_28, rfl, b_21, b_24, b_161⟩
            refine v_aload_n hC dX7_advance_86 rfl ?_
            refine v_get hC fl_X7_35 m_t hf_163 rfl dX7_advance_87 ?_
            refine v_iconst hC dX7_advance_90 (v := 1) (by decide) ?_
            refine v_icmp_eq hC dX7_advance_91 (tgt := 102) (by decide) (fun h_166 => ?_) (fun h_166 => ?_)
            · refine v_iconst hC dX7_advance_102 (v := 1) (by decide) ?_
              refine v_goto hC dX7_advance_103 (tgt := 107) (by decide) ?_
              refine v_istore_n hC dX7_advance_107 (by decide) (lv' := [(1, .int 1), (0, .ref t)]) rfl ?_
              have loop108 : ∀ (n9 : Nat) (f_177 : Nat → va_E) (_ : WT T L f_177) (v_167 v_169 v_170 v_172 v_174 v_175 : Int32), f_177 t = ob 7 [.ref q, .int v_167, .int v_169, .int v_170, .int v_172, .int v_174, .int v_175] → (0 ≤ v_167 ∧ v_167 ≤ 600) → (0 ≤ v_170 ∧ v_170 ≤ 600) → (0 ≤ v_172 ∧ v_172 ≤ 600) → (∀ b, b ≠ t → f_177 b = f_162 b) → 600 - v_172.toInt < (n9 : Int) → V z E 2 0 0 L f_177 108 [(1, .int 1), (0, .ref t)] [] := by
                intro n9
                induction n9 with
                | zero =>
                  intro f_177 hW_178 v_167 v_169 v_170 v_172 v_174 v_175 e_179 b_168 b_171 b_173 hk_180 hm_176
                  exfalso
                  simp only [Int32.lt_iff_toInt_lt, Int32.le_iff_toInt_le, Int32.reduceToInt, ← Int32.toInt_inj] at b_168 b_171 b_173
                  omega
                | succ n9 ih =>
                  intro f_177 hW_178 v_167 v_169 v_170 v_172 v_174 v_175 e_179 b_168 b_171 b_173 hk_180 hm_176
                  refine v_iload_n hC dX7_advance_108 rfl ?_
                  refine v_if_eq_f hC dX7_advance_109 (tgt := 154) (by decide) (by decide) ?_
                  refine v_aload_n hC dX7_advance_112 rfl ?_
                  refine v_get hC fl_X7_25 m_t e_179 rfl dX7_advance_113 ?_
                  refine v_aload_n hC dX7_advance_116 rfl ?_
                  refine v_get hC fl_X7_19 m_t e_179 rfl dX7_advance_117 ?_
                  refine v_icmp_ge hC dX7_advance_120 (tgt := 154) (by decide) (fun h_181 => ?_) (fun h_181 => ?_)
                  · exact hR _ _ _ _ _ _ dX7_advance_154 (Nat.le_of_ble_eq_true rfl) (Nat.le_of_ble_eq_true rfl) ⟨rfl, hW_178, fun b hb => ((hk_180 b hb).trans ((hk_164 b hb).trans ((hk_154 b hb).trans ((hk_33 b hb).trans (hk_18 b hb)))))⟩
                  · refine v_aload_n hC dX7_advance_123 rfl ?_
                    refine v_aload_n hC dX7_advance_124 rfl ?_
                    refine v_get hC fl_X7_25 m_t e_179 rfl dX7_advance_125 ?_
                    refine v_vi hC (rest := []) m_t e_179 rfl mi_X7_byteAt ms_X7_byteAt (p_X7_byteAt m_t T_t m_q T_q hW_178) mx_X7_byteAt ml_X7_41 (by decide) rfl (cells1 := 0) (slots1 := 0) (by decide) (by decide) (Nat.le_of_ble_eq_true rfl) (Nat.le_of_ble_eq_true rfl) rfl (Nat.le_of_ble_eq_true rfl) dX7_advance_128 (fun r_182 L_183 f_184 h_185 => ?_)
                    obtain ⟨rfl, rfl⟩ := h_185
                    refine v_si hC (rest := []) mt_X7_kindOf p_X7_kindOf mx_X7_kindOf ml_X7_49 (by decide) rfl (cells1 := 0) (slots1 := 0) (by decide) (by decide) (Nat.le_of_ble_eq_true rfl) (Nat.le_of_ble_eq_true rfl) rfl (Nat.le_of_ble_eq_true rfl) dX7_advance_131 (fun r_186 L_187 f_188 h_189 => ?_)
                    obtain ⟨rfl, rfl⟩ := h_189
                    refine v_aload_n hC dX7_advance_134 rfl ?_
                    refine v_get hC fl_X7_35 m_t e_179 rfl dX7_advance_135 ?_
                    refine v_icmp_ne hC dX7_advance_138 (tgt := 154) (by decide) (fun h_190 => ?_) (fun h_190 => ?_)
                    · exact hR _ _ _ _ _ _ dX7_advance_154 (Nat.le_of_ble_eq_true rfl) (Nat.le_of_ble_eq_true rfl) ⟨rfl, hW_178, fun b hb => ((hk_180 b hb).trans ((hk_164 b hb).trans ((hk_154 b hb).trans ((hk_33 b hb).trans (hk_18 b hb)))))⟩
                    · refine v_aload_n hC dX7_advance_141 rfl ?_
                      refine v_dup hC dX7_advance_142 rfl ?_
                      refine v_get hC fl_X7_25 m_t e_179 rfl dX7_advance_143 ?_
                      refine v_iconst hC dX7_advance_146 (v := 1) (by decide) ?_
                      obtain ⟨v_191, h_192⟩ : ∃ v9 : Int32, v_172 + 1 = v9 := ⟨_, rfl⟩
                      refine v_iadd hC dX7_advance_147 h_192 ?_
                      have h_193 : v_191.toInt = (v_172 : Int32).toInt + (1 : Int32).toInt := by rw [← h_192]; exact add_toInt (by simp only [Int32.lt_iff_toInt_lt, Int32.le_iff_toInt_le, Int32.reduceToInt, ← Int32.toInt_inj] at b_21 b_24 hm_29 h_34 h_158 b_168 b_173 hm_176 h_181 ⊢; omega) (by simp only [Int32.lt_iff_toInt_lt, Int32.le_iff_toInt_le, Int32.reduceToInt, ← Int32.toInt_inj] at b_21 b_24 hm_29 h_34 h_158 b_168 b_173 hm_176 h_181 ⊢; omega)
                      refine v_put hC fl_X7_25 m_t e_179 rfl rfl (Nat.le_of_ble_eq_true rfl) (fs' := [.ref q, .int v_167, .int v_169, .int v_170, .int v_191, .int v_174, .int v_175]) rfl dX7_advance_148 (fun f_194 hf_195 hk_196 => ?_)
                      have hW_197 := hW_178.up hf_195 hk_196 T_t ⟨v_167, v_169, v_170, v_191, v_174, v_175, rfl, b_168, b_171, (by simp only [Int32.lt_iff_toInt_lt, Int32.le_iff_toInt_le, Int32.reduceToInt, ← Int32.toInt_inj] at b_21 b_24 hm_29 h_34 h_158 b_168 b_173 hm_176 h_181 h_193 ⊢; omega)⟩
                      refine v_goto hC dX7_advance_151 (tgt := 108) (by decide) ?_
                      refine v_pick [0, 1] rfl ?_
                      exact ih f_194 hW_197 v_167 v_169 v_170 v_191 v_174 v_175 hf_195 b_168 b_171 (by simp only [Int32.lt_iff_toInt_lt, Int32.le_iff_toInt_le, Int32.reduceToInt, ← Int32.toInt_inj] at b_21 b_24 hm_29 h_34 h_158 b_168 b_173 hm_176 h_181 h_193 ⊢; omega) (fun b hb => ((hk_196 b hb).trans (hk_180 b hb))) (by simp only [Int32.lt_iff_toInt_lt, Int32.le_iff_toInt_le, Int32.reduceToInt, ← Int32.toInt_inj] at b_21 b_24 hm_29 h_34 h_158 b_168 b_173 hm_176 h_181 h_193 ⊢; omega)
              refine v_pick [0, 1] rfl ?_
              exact loop108 602 f_162 hW_165 v_20 r_148 v_23 v_159 v_27 v_28 hf_163 b_21 b_24 b_161 (fun _ _ => rfl) (by simp only [Int32.lt_iff_toInt_lt, Int32.le_iff_toInt_le, Int32.reduceToInt, ← Int32.toInt_inj] at b_161 ⊢; omega)
            · refine v_aload_n hC dX7_advance_94 rfl ?_
              refine v_get hC fl_X7_35 m_t hf_163 rfl dX7_advance_95 ?_
              refine v_iconst hC dX7_advance_98 (v := 2) (by decide) ?_
              refine v_icmp_ne hC dX7_advance_99 (tgt := 106) (by decide) (fun h_198 => ?_) (fun h_198 => ?_)
              · refine v_iconst hC dX7_advance_106 (v := 0) (by decide) ?_
                refine v_istore_n hC dX7_advance_107 (by decide) (lv' := [(1, .int 0), (0, .ref t)]) rfl ?_
                have loop108 : ∀ (n9 : Nat) (f_209 : Nat → va_E) (_ : WT T L f_209) (v_199 v_201 v_202 v_204 v_206 v_207 : Int32), f_209 t = ob 7 [.ref q, .int v_199, .int v_201, .int v_202, .int v_204, .int v_206, .int v_207] → (0 ≤ v_199 ∧ v_199 ≤ 600) → (0 ≤ v_202 ∧ v_202 ≤ 600) → (0 ≤ v_204 ∧ v_204 ≤ 600) → (∀ b, b ≠ t → f_209 b = f_162 b) → 600 - v_204.toInt < (n9 : Int) → V z E 2 0 0 L f_209 108 [(1, .int 0), (0, .ref t)] [] := by
                  intro n9
                  induction n9 with
                  | zero =>
                    intro f_209 hW_210 v_199 v_201 v_202 v_204 v_206 v_207 e_211 b_200 b_203 b_205 hk_212 hm_208
                    exfalso
                    simp only [Int32.lt_iff_toInt_lt, Int32.le_iff_toInt_le, Int32.reduceToInt, ← Int32.toInt_inj] at b_200 b_203 b_205
                    omega
                  | succ n9 ih =>
                    intro f_209 hW_210 v_199 v_201 v_202 v_204 v_206 v_207 e_211 b_200 b_203 b_205 hk_212 hm_208
                    refine v_iload_n hC dX7_advance_108 rfl ?_
                    refine v_if_eq_t hC dX7_advance_109 (tgt := 154) (by decide) (by decide) ?_
                    exact hR _ _ _ _ _ _ dX7_advance_154 (Nat.le_of_ble_eq_true rfl) (Nat.le_of_ble_eq_true rfl) ⟨rfl, hW_210, fun b hb => ((hk_212 b hb).trans ((hk_164 b hb).trans ((hk_154 b hb).trans ((hk_33 b hb).trans (hk_18 b hb)))))⟩
                refine v_pick [0, 1] rfl ?_
                exact loop108 602 f_162 hW_165 v_20 r_148 v_23 v_159 v_27 v_28 hf_163 b_21 b_24 b_161 (fun _ _ => rfl) (by simp only [Int32.lt_iff_toInt_lt, Int32.le_iff_toInt_le, Int32.reduceToInt, ← Int32.toInt_inj] at b_161 ⊢; omega)
              · refine v_iconst hC dX7_advance_102 (v := 1) (by decide) ?_
                refine v_goto hC dX7_advance_103 (tgt := 107) (by decide) ?_
                refine v_istore_n hC dX7_advance_107 (by decide) (lv' := [(1, .int 1), (0, .ref t)]) rfl ?_
                have loop108 : ∀ (n9 : Nat) (f_223 : Nat → va_E) (_ : WT T L f_223) (v_213 v_215 v_216 v_218 v_220 v_221 : Int32), f_223 t = ob 7 [.ref q, .int v_213, .int v_215, .int v_216, .int v_218, .int v_220, .int v_221] → (0 ≤ v_213 ∧ v_213 ≤ 600) → (0 ≤ v_216 ∧ v_216 ≤ 600) → (0 ≤ v_218 ∧ v_218 ≤ 600) → (∀ b, b ≠ t → f_223 b = f_162 b) → 600 - v_218.toInt < (n9 : Int) → V z E 2 0 0 L f_223 108 [(1, .int 1), (0, .ref t)] [] := by
                  intro n9
                  induction n9 with
                  | zero =>
                    intro f_223 hW_224 v_213 v_215 v_216 v_218 v_220 v_221 e_225 b_214 b_217 b_219 hk_226 hm_222
                    exfalso
                    simp only [Int32.lt_iff_toInt_lt, Int32.le_iff_toInt_le, Int32.reduceToInt, ← Int32.toInt_inj] at b_214 b_217 b_219
                    omega
                  | succ n9 ih =>
                    intro f_223 hW_224 v_213 v_215 v_216 v_218 v_220 v_221 e_225 b_214 b_217 b_219 hk_226 hm_222
                    refine v_iload_n hC dX7_advance_108 rfl ?_
                    refine v_if_eq_f hC dX7_advance_109 (tgt := 154) (by decide) (by decide) ?_
                    refine v_aload_n hC dX7_advance_112 rfl ?_
                    refine v_get hC fl_X7_25 m_t e_225 rfl dX7_advance_113 ?_
                    refine v_aload_n hC dX7_advance_116 rfl ?_
                    refine v_get hC fl_X7_19 m_t e_225 rfl dX7_advance_117 ?_
                    refine v_icmp_ge hC dX7_advance_120 (tgt := 154) (by decide) (fun h_227 => ?_) (fun h_227 => ?_)
                    · exact hR _ _ _ _ _ _ dX7_advance_154 (Nat.le_of_ble_eq_true rfl) (Nat.le_of_ble_eq_true rfl) ⟨rfl, hW_224, fun b hb => ((hk_226 b hb).trans ((hk_164 b hb).trans ((hk_154 b hb).trans ((hk_33 b hb).trans (hk_18 b hb)))))⟩
                    · refine v_aload_n hC dX7_advance_123 rfl ?_
                      refine v_aload_n hC dX7_advance_124 rfl ?_
                      refine v_get hC fl_X7_25 m_t e_225 rfl dX7_advance_125 ?_
                      refine v_vi hC (rest := []) m_t e_225 rfl mi_X7_byteAt ms_X7_byteAt (p_X7_byteAt m_t T_t m_q T_q hW_224) mx_X7_byteAt ml_X7_41 (by decide) rfl (cells1 := 0) (slots1 := 0) (by decide) (by decide) (Nat.le_of_ble_eq_true rfl) (Nat.le_of_ble_eq_true rfl) rfl (Nat.le_of_ble_eq_true rfl) dX7_advance_128 (fun r_228 L_229 f_230 h_231 => ?_)
                      obtain ⟨rfl, rfl⟩ := h_231
                      refine v_si hC (rest := []) mt_X7_kindOf p_X7_kindOf mx_X7_kindOf ml_X7_49 (by decide) rfl (cells1 := 0) (slots1 := 0) (by decide) (by decide) (Nat.le_of_ble_eq_true rfl) (Nat.le_of_ble_eq_true rfl) rfl (Nat.le_of_ble_eq_true rfl) dX7_advance_131 (fun r_232 L_233 f_234 h_235 => ?_)
                      obtain ⟨rfl, rfl⟩ := h_235
                      refine v_aload_n hC dX7_advance_134 rfl ?_
                      refine v_get hC fl_X7_35 m_t e_225 rfl dX7_advance_135 ?_
                      refine v_icmp_ne hC dX7_advance_138 (tgt := 154) (by decide) (fun h_236 => ?_) (fun h_236 => ?_)
                      · exact hR _ _ _ _ _ _ dX7_advance_154 (Nat.le_of_ble_eq_true rfl) (Nat.le_of_ble_eq_true rfl) ⟨rfl, hW_224, fun b hb => ((hk_226 b hb).trans ((hk_164 b hb).trans ((hk_154 b hb).trans ((hk_33 b hb).trans (hk_18 b hb)))))⟩
                      · refine v_aload_n hC dX7_advance_141 rfl ?_
                        refine v_dup hC dX7_advance_142 rfl ?_
                        refine v_get hC fl_X7_25 m_t e_225 rfl dX7_advance_143 ?_
                        refine v_iconst hC dX7_advance_146 (v := 1) (by decide) ?_
                        obtain ⟨v_237, h_238⟩ : ∃ v9 : Int32, v_218 + 1 = v9 := ⟨_, rfl⟩
                        refine v_iadd hC dX7_advance_147 h_238 ?_
                        have h_239 : v_237.toInt = (v_218 : Int32).toInt + (1 : Int32).toInt := by rw [← h_238]; exact add_toInt (by simp only [Int32.lt_iff_toInt_lt, Int32.le_iff_toInt_le, Int32.reduceToInt, ← Int32.toInt_inj] at b_21 b_24 hm_29 h_34 h_158 b_214 b_219 hm_222 h_227 ⊢; omega) (by simp only [Int32.lt_iff_toInt_lt, Int32.le_iff_toInt_le, Int32.reduceToInt, ← Int32.toInt_inj] at b_21 b_24 hm_29 h_34 h_158 b_214 b_219 hm_222 h_227 ⊢; omega)
                        refine v_put hC fl_X7_25 m_t e_225 rfl rfl (Nat.le_of_ble_eq_true rfl) (fs' := [.ref q, .int v_213, .int v_215, .int v_216, .int v_237, .int v_220, .int v_221]) rfl dX7_advance_148 (fun f_240 hf_241 hk_242 => ?_)
                        have hW_243 := hW_224.up hf_241 hk_242 T_t ⟨v_213, v_215, v_216, v_237, v_220, v_221, rfl, b_214, b_217, (by simp only [Int32.lt_iff_toInt_lt, Int32.le_iff_toInt_le, Int32.reduceToInt, ← Int32.toInt_inj] at b_21 b_24 hm_29 h_34 h_158 b_214 b_219 hm_222 h_227 h_239 ⊢; omega)⟩
                        refine v_goto hC dX7_advance_151 (tgt := 108) (by decide) ?_
                        refine v_pick [0, 1] rfl ?_
                        exact ih f_240 hW_243 v_213 v_215 v_216 v_237 v_220 v_221 hf_241 b_214 b_217 (by simp only [Int32.lt_iff_toInt_lt, Int32.le_iff_toInt_le, Int32.reduceToInt, ← Int32.toInt_inj] at b_21 b_24 hm_29 h_34 h_158 b_214 b_219 hm_222 h_227 h_239 ⊢; omega) (fun b hb => ((hk_242 b hb).trans (hk_226 b hb))) (by simp only [Int32.lt_iff_toInt_lt, Int32.le_iff_toInt_le, Int32.reduceToInt, ← Int32.toInt_inj] at b_21 b_24 hm_29 h_34 h_158 b_214 b_219 hm_222 h_227 h_239 ⊢; omega)
                refine v_pick [0, 1] rfl ?_
                exact loop108 602 f_162 hW_165 v_20 r_148 v_23 v_159 v_27 v_28 hf_163 b_21 b_24 b_161 (fun _ _ => rfl) (by simp only [Int32.lt_iff_toInt_lt, Int32.le_iff_toInt_le, Int32.reduceToInt, ← Int32.toInt_inj] at b_161 ⊢; omega)
          · refine v_aload_n hC dX7_advance_41 rfl ?_
            refine v_dup hC dX7_advance_42 rfl ?_
            refine v_get hC fl_X7_38 m_t e_32 rfl dX7_advance_43 ?_
            refine v_iconst hC dX7_advance_46 (v := 1) (by decide) ?_
            obtain ⟨v_244, h_245⟩ : ∃ v9 : Int32, v_23 + 1 = v9 := ⟨_, rfl⟩
            refine v_iadd hC dX7_advance_47 h_245 ?_
            have h_246 : v_244.toInt = (v_23 : Int32).toInt + (1 : Int32).toInt := by rw [← h_245]; exact add_toInt (by simp only [Int32.lt_iff_toInt_lt, Int32.le_iff_toInt_le, Int32.reduceToInt, ← Int32.toInt_inj] at b_21 b_24 hm_29 h_34 ⊢; omega) (by simp only [Int32.lt_iff_toInt_lt, Int32.le_iff_toInt_le, Int32.reduceToInt, ← Int32.toInt_inj] at b_21 b_24 hm_29 h_34 ⊢; omega)
            refine v_put hC fl_X7_38 m_t e_32 rfl rfl (Nat.le_of_ble_eq_true rfl) (fs' := [.ref q, .int v_20, .int v_22, .int v_244, .int v_25, .int v_27, .int v_28]) rfl dX7_advance_48 (fun f_247 hf_248 hk_249 => ?_)
            have hW_250 := hW_31.up hf_248 hk_249 T_t ⟨v_20, v_22, v_244, v_25, v_27, v_28, rfl, b_21, (by simp only [Int32.lt_iff_toInt_lt, Int32.le_iff_toInt_le, Int32.reduceToInt, ← Int32.toInt_inj] at b_21 b_24 hm_29 h_34 h_246 ⊢; omega), b_26⟩
            refine v_goto hC dX7_advance_51 (tgt := 16) (by decide) ?_
            refine v_pick [0] rfl ?_
            exact ih f_247 hW_250 v_20 v_22 v_244 v_25 v_27 v_28 hf_248 b_21 (by simp only [Int32.lt_iff_toInt_lt, Int32.le_iff_toInt_le, Int32.reduceToInt, ← Int32.toInt_inj] at b_21 b_24 hm_29 h_34 h_246 ⊢; omega) b_26 (fun b hb => ((hk_249 b hb).trans (hk_33 b hb))) (by simp only [Int32.lt_iff_toInt_lt, Int32.le_iff_toInt_le, Int32.reduceToInt, ← Int32.toInt_inj] at b_21 b_24 hm_29 h_34 h_246 ⊢; omega)
    refine v_pick [0] rfl ?_
    exact loop16 602 f_16 hW_19 v_2 v_4 v_7 v_7 v_9 v_10 hf_17 b_3 b_8 b_8 (fun _ _ => rfl) (by simp only [Int32.lt_iff_toInt_lt, Int32.le_iff_toInt_le, Int32.reduceToInt, ← Int32.toInt_inj] at b_8 ⊢; omega)
  · exact hR _ _ _ _ _ _ dX7_advance_7 (Nat.le_of_ble_eq_true rfl) (Nat.le_of_ble_eq_true rfl) ⟨rfl, hW, fun b hb => rfl⟩
