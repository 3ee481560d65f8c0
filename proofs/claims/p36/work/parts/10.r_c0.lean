set_option maxRecDepth 100000 in
set_option maxHeartbeats 4000000 in
theorem p_X12_in {l : Launch} {E : Ez} {L : List Nat} {f : Nat → va_E} {T : Nat → va_E → Prop} {a_0 : Int64} {a_1 : Int64} {a_2 : Int64} (hW : WT T L f) : CI l yX12_in cX12_in 6 .boolean 0 0 0 E [.long a_0, .long a_1, .long a_2] L f (fun r L1 f1 => L = L1 ∧ f = f1 ∧ (0 ≤ r.toInt ∧ r.toInt ≤ 1) ∧ ((r.toInt = 1 ∧ a_1.toInt ≤ a_0.toInt ∧ a_0.toInt ≤ a_2.toInt) ∨ (r.toInt = 0 ∧ (a_0.toInt < a_1.toInt ∨ a_2.toInt < a_0.toInt)))) := by
  refine ci_of (by decide) (Nat.le_of_ble_eq_true rfl) (fun z hz hnm hC hR => ?_)
  have hC : Cx z E cX12_in RX12 6 0 0 0 := hC
  subst hz
  show V z E 6 0 0 L f 0 [(0, .long a_0), (2, .long a_1), (4, .long a_2)] []
  refine v_lload_n hC dX12_in_0 rfl ?_
  refine v_lload_n hC dX12_in_1 rfl ?_
  obtain ⟨v_1, h_2⟩ : ∃ v9 : Int32, lg_cmp (a_0 : Int64) a_1 = v9 := ⟨_, rfl⟩
  refine v_lcmp hC dX12_in_2 h_2 ?_
  refine v_if_lt hC dX12_in_3 (tgt := 17) (by decide) (fun h_3 => ?_) (fun h_3 => ?_)
  · rw [← h_2] at h_3
    have h_4 := (lgc_lt.mp h_3)
    simp only [Int64.lt_iff_toInt_lt, Int64.le_iff_toInt_le] at h_4
    refine v_iconst hC dX12_in_17 (v := 0) (by decide) ?_
    exact hR _ _ _ _ _ _ _ dX12_in_18 rfl (Nat.le_of_ble_eq_true rfl) (Nat.le_of_ble_eq_true rfl) ⟨rfl, rfl, (by decide), (by first | omega | (simp only [Int32.lt_iff_toInt_lt, Int32.le_iff_toInt_le, Int32.reduceToInt, ← Int32.toInt_inj, true_and, and_true, or_true, true_or, false_or, or_false, false_and, and_false, not_true_eq_false, not_false_eq_true] <;> omega))⟩
  · rw [← h_2] at h_3
    have h_5 := (mt lgc_lt.mpr h_3)
    simp only [Int64.lt_iff_toInt_lt, Int64.le_iff_toInt_le] at h_5
    refine v_lload_n hC dX12_in_6 rfl ?_
    refine v_lload hC dX12_in_7 rfl ?_
    obtain ⟨v_6, h_7⟩ : ∃ v9 : Int32, lg_cmp (a_0 : Int64) a_2 = v9 := ⟨_, rfl⟩
    refine v_lcmp hC dX12_in_9 h_7 ?_
    refine v_if_gt hC dX12_in_10 (tgt := 17) (by decide) (fun h_8 => ?_) (fun h_8 => ?_)
    · rw [← h_7] at h_8
      have h_9 := (lgc_gt.mp h_8)
      simp only [Int64.lt_iff_toInt_lt, Int64.le_iff_toInt_le] at h_9
      refine v_iconst hC dX12_in_17 (v := 0) (by decide) ?_
      exact hR _ _ _ _ _ _ _ dX12_in_18 rfl (Nat.le_of_ble_eq_true rfl) (Nat.le_of_ble_eq_true rfl) ⟨rfl, rfl, (by decide), (by first | omega | (simp only [Int32.lt_iff_toInt_lt, Int32.le_iff_toInt_le, Int32.reduceToInt, ← Int32.toInt_inj, true_and, and_true, or_true, true_or, false_or, or_false, false_and, and_false, not_true_eq_false, not_false_eq_true] <;> omega))⟩
    · rw [← h_7] at h_8
      have h_10 := (mt lgc_gt.mpr h_8)
      simp only [Int64.lt_iff_toInt_lt, Int64.le_iff_toInt_le] at h_10
      refine v_iconst hC dX12_in_13 (v := 1) (by decide) ?_
      refine v_goto hC dX12_in_14 (tgt := 18) (by decide) ?_
      exact hR _ _ _ _ _ _ _ dX12_in_18 rfl (Nat.le_of_ble_eq_true rfl) (Nat.le_of_ble_eq_true rfl) ⟨rfl, rfl, (by decide), (by first | omega | (simp only [Int32.lt_iff_toInt_lt, Int32.le_iff_toInt_le, Int32.reduceToInt, ← Int32.toInt_inj, true_and, and_true, or_true, true_or, false_or, or_false, false_and, and_false, not_true_eq_false, not_false_eq_true] <;> omega))⟩
set_option maxRecDepth 100000 in
set_option maxHeartbeats 4000000 in
theorem p_X12_see {l : Launch} {E : Ez} {L : List Nat} {f : Nat → va_E} {T : Nat → va_E → Prop} {a_0 : Nat} {a_1 : Int32} {q : Nat → Nat} (hW : WT T L f) (k_0 : isM T L E a_0 q) (g_1 : (0 ≤ a_1.toInt ∧ a_1.toInt ≤ 600)) : CI l yX12_see cX12_see 2 .int 0 0 0 E [.ref a_0, .int a_1] L f (fun r L1 f1 => L = L1 ∧ f = f1 ∧ r = (sv (f a_0) (f (q 4)) a_1)) := by
  refine ci_of (by decide) (Nat.le_of_ble_eq_true rfl) (fun z hz hnm hC hR => ?_)
  have hC : Cx z E cX12_see RX12 2 0 0 0 := hC
  subst hz
  show V z E 2 0 0 L f 0 [(0, .ref a_0), (1, .int a_1)] []
  obtain ⟨m_1, t_2, k_3, k_4, k_5, k_6, k_7, k_8, k_9, k_10, k_11, k_12, k_13, k_14, k_15, k_16, k_17, k_18, k_19, k_20⟩ := id k_0
  refine v_iload_n hC dX12_see_0 rfl ?_
  refine v_aload_n hC dX12_see_1 rfl ?_
  obtain ⟨v_22, v_23, v_25, v_27, v_29, v_31, v_33, v_34, v_35, v_36, v_38, e_21, b_24, b_26, b_28, b_30, b_32, b_37, b_39⟩ := hW.at m_1 t_2
  refine v_get hC fl_X12_105 m_1 e_21 rfl dX12_see_2 ?_
  refine v_icmp_ge hC dX12_see_5 (tgt := 21) (by decide) (fun h_40 => ?_) (fun h_40 => ?_)
  · simp only [Int32.lt_iff_toInt_lt, Int32.le_iff_toInt_le, Int32.reduceToInt, ← Int32.toInt_inj] at h_40
    refine v_iconst hC dX12_see_21 (v := (-1)) (by decide) ?_
    have fe_41 : fld (f a_0) 7 = (v_25 : Int32).toInt := by rw [e_21]; rfl
    exact hR _ _ _ _ _ _ _ dX12_see_22 rfl (Nat.le_of_ble_eq_true rfl) (Nat.le_of_ble_eq_true rfl) ⟨rfl, rfl, (sv_out (by rw [fe_41]; omega))⟩
  · simp only [Int32.lt_iff_toInt_lt, Int32.le_iff_toInt_le, Int32.reduceToInt, ← Int32.toInt_inj] at h_40
    refine v_aload_n hC dX12_see_8 rfl ?_
    refine v_get hC fl_X12_24 m_1 e_21 rfl dX12_see_9 ?_
    refine v_iload_n hC dX12_see_12 rfl ?_
    obtain ⟨m_42, t_43⟩ := id k_6
    obtain ⟨g_45, e_44, fit_46⟩ := hW.at m_42 t_43
    obtain ⟨v_47, h_48⟩ : ∃ v9 : Int32, g_45 (a_1 : Int32).toNatClampNeg = v9 := ⟨_, rfl⟩
    refine v_bald hC m_42 e_44 (vp_in_iff.mpr (by first | omega | (simp only [Int32.lt_iff_toInt_lt, Int32.le_iff_toInt_le, Int32.reduceToInt, ← Int32.toInt_inj, true_and, and_true, or_true, true_or, false_or, or_false, false_and, and_false, not_true_eq_false, not_false_eq_true] <;> omega))) h_48 dX12_see_13 ?_
    refine v_sipush hC dX12_see_14 (v := 255) (by decide) ?_
    obtain ⟨v_49, h_50⟩ : ∃ v9 : Int32, v_47 &&& 255 = v9 := ⟨_, rfl⟩
    refine v_iand hC dX12_see_17 h_50 ?_
    have h_51 := and_v h_50 (by decide)
    try simp only [Int32.reduceToInt] at h_51
    refine v_goto hC dX12_see_18 (tgt := 22) (by decide) ?_
    have fe_52 : fld (f a_0) 7 = (v_25 : Int32).toInt := by rw [e_21]; rfl
    exact hR _ _ _ _ _ _ _ dX12_see_22 rfl (Nat.le_of_ble_eq_true rfl) (Nat.le_of_ble_eq_true rfl) ⟨rfl, rfl, (sv_in (by rw [fe_52]; omega) e_44 h_48 h_50)⟩
set_option maxRecDepth 100000 in
set_option maxHeartbeats 4000000 in
theorem p_X12_begin {l : Launch} {E : Ez} {L : List Nat} {f : Nat → va_E} {T : Nat → va_E → Prop} {a_0 : Nat} {q : Nat → Nat} (hW : WT T L f) (k_0 : isM T L E a_0 q) : CV l yX12_begin cX12_begin 1 0 0 0 E [.ref a_0] L f (fun L1 f1 => L = L1 ∧ WT T L f1 ∧ FR [12] f f1 ∧ fld (f1 a_0) 12 = 0 ∧ fld (f1 a_0) 8 = 0 ∧ fld (f1 a_0) 20 = fld (f a_0) 20) := by
  refine cv_of (by decide) (Nat.le_of_ble_eq_true rfl) (fun z hz hnm hC hR => ?_)
  have hC : Cx z E cX12_begin RX12 1 0 0 0 := hC
  subst hz
  show V z E 1 0 0 L f 0 [(0, .ref a_0)] []
  obtain ⟨m_1, t_2, k_3, k_4, k_5, k_6, k_7, k_8, k_9, k_10, k_11, k_12, k_13, k_14, k_15, k_16, k_17, k_18, k_19, k_20⟩ := id k_0
  obtain ⟨v_22, v_23, v_25, v_27, v_29, v_31, v_33, v_34, v_35, v_36, v_38, e_21, b_24, b_26, b_28, b_30, b_32, b_37, b_39⟩ := hW.at m_1 t_2
  have mz_40 : fld (f a_0) 20 = v_38.toInt := by rw [e_21]; rfl
  refine v_aload_n hC dX12_begin_0 rfl ?_
  refine v_aload_n hC dX12_begin_1 rfl ?_
  refine v_get hC fl_X12_102 m_1 e_21 rfl dX12_begin_2 ?_
  refine v_put hC fl_X12_105 m_1 e_21 rfl rfl (Nat.le_of_ble_eq_true rfl) (fs' := [.int v_22, .ref (q 1), .ref (q 2), .ref (q 3), .ref (q 4), .int v_23, .ref (q 6), .int v_23, .int v_27, .int v_29, .int v_31, .int v_33, .int v_34, .int v_35, .ref (q 14), .ref (q 15), .ref (q 16), .int v_36, .ref (q 18), .ref (q 19), .int v_38, .ref (q 21), .ref (q 22), .ref (q 23), .ref (q 24), .ref (q 25), .ref (q 26), .ref (q 27), .ref (q 28)]) rfl dX12_begin_5 (fun f_41 hf_42 hk_43 => ?_)
  have hW_44 := hW.up hf_42 hk_43 t_2 ⟨v_22, v_23, v_23, v_27, v_29, v_31, v_33, v_34, v_35, v_36, v_38, rfl, (by first | omega | (simp only [Int32.lt_iff_toInt_lt, Int32.le_iff_toInt_le, Int32.reduceToInt, ← Int32.toInt_inj, true_and, and_true, or_true, true_or, false_or, or_false, false_and, and_false, not_true_eq_false, not_false_eq_true] <;> omega)), (by first | omega | (simp only [Int32.lt_iff_toInt_lt, Int32.le_iff_toInt_le, Int32.reduceToInt, ← Int32.toInt_inj, true_and, and_true, or_true, true_or, false_or, or_false, false_and, and_false, not_true_eq_false, not_false_eq_true] <;> omega)), (by first | omega | (simp only [Int32.lt_iff_toInt_lt, Int32.le_iff_toInt_le, Int32.reduceToInt, ← Int32.toInt_inj, true_and, and_true, or_true, true_or, false_or, or_false, false_and, and_false, not_true_eq_false, not_false_eq_true] <;> omega)), (by first | omega | (simp only [Int32.lt_iff_toInt_lt, Int32.le_iff_toInt_le, Int32.reduceToInt, ← Int32.toInt_inj, true_and, and_true, or_true, true_or, false_or, or_false, false_and, and_false, not_true_eq_false, not_false_eq_true] <;> omega)), (by first | omega | (simp only [Int32.lt_iff_toInt_lt, Int32.le_iff_toInt_le, Int32.reduceToInt, ← Int32.toInt_inj, true_and, and_true, or_true, true_or, false_or, or_false, false_and, and_false, not_true_eq_false, not_false_eq_true] <;> omega)), (by first | omega | (simp only [Int32.lt_iff_toInt_lt, Int32.le_iff_toInt_le, Int32.reduceToInt, ← Int32.toInt_inj, true_and, and_true, or_true, true_or, false_or, or_false, false_and, and_false, not_true_eq_false, not_false_eq_true] <;> omega)), (by first | omega | (simp only [Int32.lt_iff_toInt_lt, Int32.le_iff_toInt_le, Int32.reduceToInt, ← Int32.toInt_inj, true_and, and_true, or_true, true_or, false_or, or_false, false_and, and_false, not_true_eq_false, not_false_eq_true] <;> omega))⟩
  have fr_45 := FR.w hk_43 e_21 (k := 12) rfl
  refine v_aload_n hC dX12_begin_8 rfl ?_
  refine v_iconst hC dX12_begin_9 (v := 0) (by decide) ?_
  refine v_put hC fl_X12_102 m_1 hf_42 rfl rfl (Nat.le_of_ble_eq_true rfl) (fs' := [.int v_22, .ref (q 1), .ref (q 2), .ref (q 3), .ref (q 4), .int 0, .ref (q 6), .int v_23, .int v_27, .int v_29, .int v_31, .int v_33, .int v_34, .int v_35, .ref (q 14), .ref (q 15), .ref (q 16), .int v_36, .ref (q 18), .ref (q 19), .int v_38, .ref (q 21), .ref (q 22), .ref (q 23), .ref (q 24), .ref (q 25), .ref (q 26), .ref (q 27), .ref (q 28)]) rfl dX12_begin_10 (fun f_46 hf_47 hk_48 => ?_)
  have hW_49 := hW_44.up hf_47 hk_48 t_2 ⟨v_22, 0, v_23, v_27, v_29, v_31, v_33, v_34, v_35, v_36, v_38, rfl, (by decide), (by first | omega | (simp only [Int32.lt_iff_toInt_lt, Int32.le_iff_toInt_le, Int32.reduceToInt, ← Int32.toInt_inj, true_and, and_true, or_true, true_or, false_or, or_false, false_and, and_false, not_true_eq_false, not_false_eq_true] <;> omega)), (by first | omega | (simp only [Int32.lt_iff_toInt_lt, Int32.le_iff_toInt_le, Int32.reduceToInt, ← Int32.toInt_inj, true_and, and_true, or_true, true_or, false_or, or_false, false_and, and_false, not_true_eq_false, not_false_eq_true] <;> omega)), (by first | omega | (simp only [Int32.lt_iff_toInt_lt, Int32.le_iff_toInt_le, Int32.reduceToInt, ← Int32.toInt_inj, true_and, and_true, or_true, true_or, false_or, or_false, false_and, and_false, not_true_eq_false, not_false_eq_true] <;> omega)), (by first | omega | (simp only [Int32.lt_iff_toInt_lt, Int32.le_iff_toInt_le, Int32.reduceToInt, ← Int32.toInt_inj, true_and, and_true, or_true, true_or, false_or, or_false, false_and, and_false, not_true_eq_false, not_false_eq_true] <;> omega)), (by first | omega | (simp only [Int32.lt_iff_toInt_lt, Int32.le_iff_toInt_le, Int32.reduceToInt, ← Int32.toInt_inj, true_and, and_true, or_true, true_or, false_or, or_false, false_and, and_false, not_true_eq_false, not_false_eq_true] <;> omega)), (by first | omega | (simp only [Int32.lt_iff_toInt_lt, Int32.le_iff_toInt_le, Int32.reduceToInt, ← Int32.toInt_inj, true_and, and_true, or_true, true_or, false_or, or_false, false_and, and_false, not_true_eq_false, not_false_eq_true] <;> omega))⟩
  have fr_50 := FR.w hk_48 hf_42 (k := 12) rfl
  refine v_aload_n hC dX12_begin_13 rfl ?_
  refine v_iconst hC dX12_begin_14 (v := 0) (by decide) ?_
  refine v_put hC fl_X12_108 m_1 hf_47 rfl rfl (Nat.le_of_ble_eq_true rfl) (fs' := [.int v_22, .ref (q 1), .ref (q 2), .ref (q 3), .ref (q 4), .int 0, .ref (q 6), .int v_23, .int 0, .int v_29, .int v_31, .int v_33, .int v_34, .int v_35, .ref (q 14), .ref (q 15), .ref (q 16), .int v_36, .ref (q 18), .ref (q 19), .int v_38, .ref (q 21), .ref (q 22), .ref (q 23), .ref (q 24), .ref (q 25), .ref (q 26), .ref (q 27), .ref (q 28)]) rfl dX12_begin_15 (fun f_51 hf_52 hk_53 => ?_)
  have hW_54 := hW_49.up hf_52 hk_53 t_2 ⟨v_22, 0, v_23, 0, v_29, v_31, v_33, v_34, v_35, v_36, v_38, rfl, (by decide), (by first | omega | (simp only [Int32.lt_iff_toInt_lt, Int32.le_iff_toInt_le, Int32.reduceToInt, ← Int32.toInt_inj, true_and, and_true, or_true, true_or, false_or, or_false, false_and, and_false, not_true_eq_false, not_false_eq_true] <;> omega)), (by decide), (by first | omega | (simp only [Int32.lt_iff_toInt_lt, Int32.le_iff_toInt_le, Int32.reduceToInt, ← Int32.toInt_inj, true_and, and_true, or_true, true_or, false_or, or_false, false_and, and_false, not_true_eq_false, not_false_eq_true] <;> omega)), (by first | omega | (simp only [Int32.lt_iff_toInt_lt, Int32.le_iff_toInt_le, Int32.reduceToInt, ← Int32.toInt_inj, true_and, and_true, or_true, true_or, false_or, or_false, false_and, and_false, not_true_eq_false, not_false_eq_true] <;> omega)), (by first | omega | (simp only [Int32.lt_iff_toInt_lt, Int32.le_iff_toInt_le, Int32.reduceToInt, ← Int32.toInt_inj, true_and, and_true, or_true, true_or, false_or, or_false, false_and, and_false, not_true_eq_false, not_false_eq_true] <;> omega)), (by first | omega | (simp only [Int32.lt_iff_toInt_lt, Int32.le_iff_toInt_le, Int32.reduceToInt, ← Int32.toInt_inj, true_and, and_true, or_true, true_or, false_or, or_false, false_and, and_false, not_true_eq_false, not_false_eq_true] <;> omega))⟩
  have fr_55 := FR.w hk_53 hf_47 (k := 12) rfl
  refine v_aload_n hC dX12_begin_18 rfl ?_
  refine v_iconst hC dX12_begin_19 (v := 0) (by decide) ?_
  refine v_put hC fl_X12_111 m_1 hf_52 rfl rfl (Nat.le_of_ble_eq_true rfl) (fs' := [.int v_22, .ref (q 1), .ref (q 2), .ref (q 3), .ref (q 4), .int 0, .ref (q 6), .int v_23, .int 0, .int v_29, .int v_31, .int v_33, .int 0, .int v_35, .ref (q 14), .ref (q 15), .ref (q 16), .int v_36, .ref (q 18), .ref (q 19), .int v_38, .ref (q 21), .ref (q 22), .ref (q 23), .ref (q 24), .ref (q 25), .ref (q 26), .ref (q 27), .ref (q 28)]) rfl dX12_begin_20 (fun f_56 hf_57 hk_58 => ?_)
  have hW_59 := hW_54.up hf_57 hk_58 t_2 ⟨v_22, 0, v_23, 0, v_29, v_31, v_33, 0, v_35, v_36, v_38, rfl, (by decide), (by first | omega | (simp only [Int32.lt_iff_toInt_lt, Int32.le_iff_toInt_le, Int32.reduceToInt, ← Int32.toInt_inj, true_and, and_true, or_true, true_or, false_or, or_false, false_and, and_false, not_true_eq_false, not_false_eq_true] <;> omega)), (by decide), (by first | omega | (simp only [Int32.lt_iff_toInt_lt, Int32.le_iff_toInt_le, Int32.reduceToInt, ← Int32.toInt_inj, true_and, and_true, or_true, true_or, false_or, or_false, false_and, and_false, not_true_eq_false, not_false_eq_true] <;> omega)), (by first | omega | (simp only [Int32.lt_iff_toInt_lt, Int32.le_iff_toInt_le, Int32.reduceToInt, ← Int32.toInt_inj, true_and, and_true, or_true, true_or, false_or, or_false, false_and, and_false, not_true_eq_false, not_false_eq_true] <;> omega)), (by first | omega | (simp only [Int32.lt_iff_toInt_lt, Int32.le_iff_toInt_le, Int32.reduceToInt, ← Int32.toInt_inj, true_and, and_true, or_true, true_or, false_or, or_false, false_and, and_false, not_true_eq_false, not_false_eq_true] <;> omega)), (by first | omega | (simp only [Int32.lt_iff_toInt_lt, Int32.le_iff_toInt_le, Int32.reduceToInt, ← Int32.toInt_inj, true_and, and_true, or_true, true_or, false_or, or_false, false_and, and_false, not_true_eq_false, not_false_eq_true] <;> omega))⟩
  have fr_60 := FR.w hk_58 hf_52 (k := 12) rfl
  refine v_aload_n hC dX12_begin_23 rfl ?_
  refine v_iconst hC dX12_begin_24 (v := (-1)) (by decide) ?_
  refine v_put hC fl_X12_31 m_1 hf_57 rfl rfl (Nat.le_of_ble_eq_true rfl) (fs' := [.int v_22, .ref (q 1), .ref (q 2), .ref (q 3), .ref (q 4), .int 0, .ref (q 6), .int v_23, .int 0, .int v_29, .int v_31, .int v_33, .int 0, .int (-1), .ref (q 14), .ref (q 15), .ref (q 16), .int v_36, .ref (q 18), .ref (q 19), .int v_38, .ref (q 21), .ref (q 22), .ref (q 23), .ref (q 24), .ref (q 25), .ref (q 26), .ref (q 27), .ref (q 28)]) rfl dX12_begin_25 (fun f_61 hf_62 hk_63 => ?_)
  have hW_64 := hW_59.up hf_62 hk_63 t_2 ⟨v_22, 0, v_23, 0, v_29, v_31, v_33, 0, (-1), v_36, v_38, rfl, (by decide), (by first | omega | (simp only [Int32.lt_iff_toInt_lt, Int32.le_iff_toInt_le, Int32.reduceToInt, ← Int32.toInt_inj, true_and, and_true, or_true, true_or, false_or, or_false, false_and, and_false, not_true_eq_false, not_false_eq_true] <;> omega)), (by decide), (by first | omega | (simp only [Int32.lt_iff_toInt_lt, Int32.le_iff_toInt_le, Int32.reduceToInt, ← Int32.toInt_inj, true_and, and_true, or_true, true_or, false_or, or_false, false_and, and_false, not_true_eq_false, not_false_eq_true] <;> omega)), (by first | omega | (simp only [Int32.lt_iff_toInt_lt, Int32.le_iff_toInt_le, Int32.reduceToInt, ← Int32.toInt_inj, true_and, and_true, or_true, true_or, false_or, or_false, false_and, and_false, not_true_eq_false, not_false_eq_true] <;> omega)), (by first | omega | (simp only [Int32.lt_iff_toInt_lt, Int32.le_iff_toInt_le, Int32.reduceToInt, ← Int32.toInt_inj, true_and, and_true, or_true, true_or, false_or, or_false, false_and, and_false, not_true_eq_false, not_false_eq_true] <;> omega)), (by first | omega | (simp only [Int32.lt_iff_toInt_lt, Int32.le_iff_toInt_le, Int32.reduceToInt, ← Int32.toInt_inj, true_and, and_true, or_true, true_or, false_or, or_false, false_and, and_false, not_true_eq_false, not_false_eq_true] <;> omega))⟩
  have fr_65 := FR.w hk_63 hf_57 (k := 12) rfl
  have fe_66 : fld (f_61 a_0) 12 = (0 : Int32).toInt := by rw [hf_62]; rfl
  simp only [Int32.reduceToInt] at fe_66
  have fe_67 : fld (f_61 a_0) 8 = (0 : Int32).toInt := by rw [hf_62]; rfl
  simp only [Int32.reduceToInt] at fe_67
  have fe_68 : fld (f_61 a_0) 20 = (v_38 : Int32).toInt := by rw [hf_62]; rfl
  exact hR _ _ _ _ _ _ dX12_begin_28 (Nat.le_of_ble_eq_true rfl) (Nat.le_of_ble_eq_true rfl) ⟨rfl, hW_64, (((((fr_45.tr fr_50).tr fr_55).tr fr_60).tr fr_65).mono rfl), (by simp only [fe_66, true_and, and_true, or_true, true_or, false_or, or_false, false_and, and_false, not_true_eq_false, not_false_eq_true] <;> first | omega | (simp only [Int32.lt_iff_toInt_lt, Int32.le_iff_toInt_le, Int32.reduceToInt, ← Int32.toInt_inj, true_and, and_true, or_true, true_or, false_or, or_false, false_and, and_false, not_true_eq_false, not_false_eq_true] <;> omega)), (by simp only [fe_67, true_and, and_true, or_true, true_or, false_or, or_false, false_and, and_false, not_true_eq_false, not_false_eq_true] <;> first | omega | (simp only [Int32.lt_iff_toInt_lt, Int32.le_iff_toInt_le, Int32.reduceToInt, ← Int32.toInt_inj, true_and, and_true, or_true, true_or, false_or, or_false, false_and, and_false, not_true_eq_false, not_false_eq_true] <;> omega)), (by simp only [fe_68, mz_40, true_and, and_true, or_true, true_or, false_or, or_false, false_and, and_false, not_true_eq_false, not_false_eq_true] <;> first | omega | (simp only [Int32.lt_iff_toInt_lt, Int32.le_iff_toInt_le, Int32.reduceToInt, ← Int32.toInt_inj, true_and, and_true, or_true, true_or, false_or, or_false, false_and, and_false, not_true_eq_false, not_false_eq_true] <;> omega))⟩
set_option maxRecDepth 100000 in
set_option maxHeartbeats 4000000 in
theorem p_X12_advance {l : Launch} {E : Ez} {L : List Nat} {f : Nat → va_E} {T : Nat → va_E → Prop} {a_0 : Nat} {q : Nat → Nat} (hW : WT T L f) (k_0 : isM T L E a_0 q) : CV l yX12_advance cX12_advance 2 1 0 0 E [.ref a_0] L f (fun L1 f1 => L = L1 ∧ WT T L f1 ∧ FR [12] f f1 ∧ (fld (f a_0) 8 ≤ fld (f1 a_0) 9 ∧ fld (f1 a_0) 9 ≤ fld (f1 a_0) 8) ∧ (fld (f1 a_0) 10 = 0 ∨ fld (f1 a_0) 9 < fld (f1 a_0) 8) ∧ fld (f1 a_0) 12 = fld (f a_0) 12 ∧ fld (f1 a_0) 20 = fld (f a_0) 20) := by
  refine cv_of (by decide) (Nat.le_of_ble_eq_true rfl) (fun z hz hnm hC hR => ?_)
  have hC : Cx z E cX12_advance RX12 2 1 0 0 := hC
  subst hz
  show V z E 2 0 0 L f 0 [(0, .ref a_0)] []
  obtain ⟨m_1, t_2, k_3, k_4, k_5, k_6, k_7, k_8, k_9, k_10, k_11, k_12, k_13, k_14, k_15, k_16, k_17, k_18, k_19, k_20⟩ := id k_0
  obtain ⟨v_22, v_23, v_25, v_27, v_29, v_31, v_33, v_34, v_35, v_36, v_38, e_21, b_24, b_26, b_28, b_30, b_32, b_37, b_39⟩ := hW.at m_1 t_2
  have mz_40 : fld (f a_0) 8 = v_27.toInt := by rw [e_21]; rfl
  have mz_41 : fld (f a_0) 12 = v_34.toInt := by rw [e_21]; rfl
  have mz_42 : fld (f a_0) 20 = v_38.toInt := by rw [e_21]; rfl
  have lp_2815 : ∀ (n_2816 : Nat) (f_2809 : Nat → va_E) (hW_2810 : WT T L f_2809) (hF_2811 : FR [12] f f_2809)  (nv_2812 : v_27.toInt ≤ fld (f_2809 a_0) 8) (nv_2813 : fld (f_2809 a_0) 12 = v_34.toInt) (nv_2814 : fld (f_2809 a_0) 20 = v_38.toInt) (hm_2818 : 600 - fld (f_2809 a_0) 8 < (n_2816 : Int)), V z E 2 0 0 L f_2809 0 [(0, .ref a_0)] [] := by
    intro n_2816
    induction n_2816 with
    | zero =>
      intro f_2809 hW_2810 hF_2811 nv_2812 nv_2813 nv_2814 hm_2818
      obtain ⟨v_2820, v_2821, v_2823, v_2825, v_2827, v_2829, v_2831, v_2832, v_2833, v_2834, v_2836, e_2819, b_2822, b_2824, b_2826, b_2828, b_2830, b_2835, b_2837⟩ := hW_2810.at m_1 t_2
      have fe_2838 : fld (f_2809 a_0) 8 = (v_2825 : Int32).toInt := by rw [e_2819]; rfl
      rw [fe_2838] at nv_2812
      have fe_2839 : fld (f_2809 a_0) 12 = (v_2832 : Int32).toInt := by rw [e_2819]; rfl
      rw [fe_2839] at nv_2813
      have fe_2840 : fld (f_2809 a_0) 20 = (v_2836 : Int32).toInt := by rw [e_2819]; rfl
      rw [fe_2840] at nv_2814
      have h_2841 : fld (f_2809 a_0) 8 = (v_2825 : Int32).toInt := by rw [e_2819]; rfl
      rw [h_2841] at hm_2818
      exfalso; omega
    | succ n_2816 ih_2817 =>
      intro f_2809 hW_2810 hF_2811 nv_2812 nv_2813 nv_2814 hm_2818
      obtain ⟨v_2820, v_2821, v_2823, v_2825, v_2827, v_2829, v_2831, v_2832, v_2833, v_2834, v_2836, e_2819, b_2822, b_2824, b_2826, b_2828, b_2830, b_2835, b_2837⟩ := hW_2810.at m_1 t_2
      have fe_2838 : fld (f_2809 a_0) 8 = (v_2825 : Int32).toInt := by rw [e_2819]; rfl
      rw [fe_2838] at nv_2812
      have fe_2839 : fld (f_2809 a_0) 12 = (v_2832 : Int32).toInt := by rw [e_2819]; rfl
      rw [fe_2839] at nv_2813
      have fe_2840 : fld (f_2809 a_0) 20 = (v_2836 : Int32).toInt := by rw [e_2819]; rfl
      rw [fe_2840] at nv_2814
      have h_2841 : fld (f_2809 a_0) 8 = (v_2825 : Int32).toInt := by rw [e_2819]; rfl
      rw [h_2841] at hm_2818
      refine v_aload_n hC dX12_advance_0 rfl ?_
      refine v_aload_n hC dX12_advance_1 rfl ?_
      refine v_get hC fl_X12_108 m_1 e_2819 rfl dX12_advance_2 ?_
      refine v_vi hC (rest := []) m_1 e_2819 rfl mi_X12_see ms_X12_see (p_X12_see hW_2810 k_0 (by first | omega | (simp only [Int32.lt_iff_toInt_lt, Int32.le_iff_toInt_le, Int32.reduceToInt, ← Int32.toInt_inj, true_and, and_true, or_true, true_or, false_or, or_false, false_and, and_false, not_true_eq_false, not_false_eq_true] <;> omega))) mx_X12_see ml_X12_114 (by decide) rfl (cells1 := 0) (slots1 := 0) (by decide) (by decide) (Nat.le_of_ble_eq_true rfl) (Nat.le_of_ble_eq_true rfl) rfl (Nat.le_of_ble_eq_true rfl) dX12_advance_5 (fun r_2842 L_2843 f_2844 h_2845 => ?_)
      obtain ⟨rfl, rfl, rfl⟩ := h_2845
      have sb_2848 := sv_b (f_2809 a_0) (f_2809 (q 4)) v_2825
      have fe_2849 : fld (f_2809 a_0) 7 = (v_2823 : Int32).toInt := by rw [e_2819]; rfl
      rw [fe_2849] at sb_2848
      refine v_bipush hC dX12_advance_8 (v := 32) (by decide) ?_
      refine v_icmp_eq hC dX12_advance_10 (tgt := 26) (by decide) (fun h_2850 => ?_) (fun h_2850 => ?_)
      · simp only [Int32.lt_iff_toInt_lt, Int32.le_iff_toInt_le, Int32.reduceToInt, ← Int32.toInt_inj] at h_2850
        refine v_aload_n hC dX12_advance_26 rfl ?_
        refine v_dup hC dX12_advance_27 rfl ?_
        refine v_get hC fl_X12_108 m_1 e_2819 rfl dX12_advance_28 ?_
        refine v_iconst hC dX12_advance_31 (v := 1) (by decide) ?_
        obtain ⟨v_2863, h_2864⟩ : ∃ v9 : Int32, v_2825 + 1 = v9 := ⟨_, rfl⟩
        refine v_iadd hC dX12_advance_32 h_2864 ?_
        have h_2865 := add_v h_2864 (by first | omega | (simp only [Int32.lt_iff_toInt_lt, Int32.le_iff_toInt_le, Int32.reduceToInt, ← Int32.toInt_inj, true_and, and_true, or_true, true_or, false_or, or_false, false_and, and_false, not_true_eq_false, not_false_eq_true] <;> omega)) (by first | omega | (simp only [Int32.lt_iff_toInt_lt, Int32.le_iff_toInt_le, Int32.reduceToInt, ← Int32.toInt_inj, true_and, and_true, or_true, true_or, false_or, or_false, false_and, and_false, not_true_eq_false, not_false_eq_true] <;> omega))
        try simp only [Int32.reduceToInt] at h_2865
        refine v_put hC fl_X12_108 m_1 e_2819 rfl rfl (Nat.le_of_ble_eq_true rfl) (fs' := [.int v_2820, .ref (q 1), .ref (q 2), .ref (q 3), .ref (q 4), .int v_2821, .ref (q 6), .int v_2823, .int v_2863, .int v_2827, .int v_2829, .int v_2831, .int v_2832, .int v_2833, .ref (q 14), .ref (q 15), .ref (q 16), .int v_2834, .ref (q 18), .ref (q 19), .int v_2836, .ref (q 21), .ref (q 22), .ref (q 23), .ref (q 24), .ref (q 25), .ref (q 26), .ref (q 27), .ref (q 28)]) rfl dX12_advance_33 (fun f_2866 hf_2867 hk_2868 => ?_)
        have hW_2869 := hW_2810.up hf_2867 hk_2868 t_2 ⟨v_2820, v_2821, v_2823, v_2863, v_2827, v_2829, v_2831, v_2832, v_2833, v_2834, v_2836, rfl, (by first | omega | (simp only [Int32.lt_iff_toInt_lt, Int32.le_iff_toInt_le, Int32.reduceToInt, ← Int32.toInt_inj, true_and, and_true, or_true, true_or, false_or, or_false, false_and, and_false, not_true_eq_false, not_false_eq_true] <;> omega)), (by first | omega | (simp only [Int32.lt_iff_toInt_lt, Int32.le_iff_toInt_le, Int32.reduceToInt, ← Int32.toInt_inj, true_and, and_true, or_true, true_or, false_or, or_false, false_and, and_false, not_true_eq_false, not_false_eq_true] <;> omega)), (by first | omega | (simp only [Int32.lt_iff_toInt_lt, Int32.le_iff_toInt_le, Int32.reduceToInt, ← Int32.toInt_inj, true_and, and_true, or_true, true_or, false_or, or_false, false_and, and_false, not_true_eq_false, not_false_eq_true] <;> omega)), (by first | omega | (simp only [Int32.lt_iff_toInt_lt, Int32.le_iff_toInt_le, Int32.reduceToInt, ← Int32.toInt_inj, true_and, and_true, or_true, true_or, false_or, or_false, false_and, and_false, not_true_eq_false, not_false_eq_true] <;> omega)), (by first | omega | (simp only [Int32.lt_iff_toInt_lt, Int32.le_iff_toInt_le, Int32.reduceToInt, ← Int32.toInt_inj, true_and, and_true, or_true, true_or, false_or, or_false, false_and, and_false, not_true_eq_false, not_false_eq_true] <;> omega)), (by first | omega | (simp only [Int32.lt_iff_toInt_lt, Int32.le_iff_toInt_le, Int32.reduceToInt, ← Int32.toInt_inj, true_and, and_true, or_true, true_or, false_or, or_false, false_and, and_false, not_true_eq_false, not_false_eq_true] <;> omega)), (by first | omega | (simp only [Int32.lt_iff_toInt_lt, Int32.le_iff_toInt_le, Int32.reduceToInt, ← Int32.toInt_inj, true_and, and_true, or_true, true_or, false_or, or_false, false_and, and_false, not_true_eq_false, not_false_eq_true] <;> omega))⟩
        have fr_2870 := FR.w hk_2868 e_2819 (k := 12) rfl
        refine v_goto hC dX12_advance_36 (tgt := 0) (by decide) ?_
        refine v_pick [0] rfl ?_
        have fe_2871 : fld (f_2866 a_0) 8 = (v_2863 : Int32).toInt := by rw [hf_2867]; rfl
        have fe_2872 : fld (f_2866 a_0) 12 = (v_2832 : Int32).toInt := by rw [hf_2867]; rfl
        have fe_2873 : fld (f_2866 a_0) 20 = (v_2836 : Int32).toInt := by rw [hf_2867]; rfl
        have h_2874 : fld (f_2866 a_0) 8 = (v_2863 : Int32).toInt := by rw [hf_2867]; rfl
        exact ih_2817 f_2866 hW_2869 ((hF_2811.tr fr_2870).mono rfl) (by rw [fe_2871] <;> first | omega | (simp only [Int32.lt_iff_toInt_lt, Int32.le_iff_toInt_le, Int32.reduceToInt, ← Int32.toInt_inj, true_and, and_true, or_true, true_or, false_or, or_false, false_and, and_false, not_true_eq_false, not_false_eq_true] <;> omega)) (by rw [fe_2872] <;> first | omega | (simp only [Int32.lt_iff_toInt_lt, Int32.le_iff_toInt_le, Int32.reduceToInt, ← Int32.toInt_inj, true_and, and_true, or_true, true_or, false_or, or_false, false_and, and_false, not_true_eq_false, not_false_eq_true] <;> omega)) (by rw [fe_2873] <;> first | omega | (simp only [Int32.lt_iff_toInt_lt, Int32.le_iff_toInt_le, Int32.reduceToInt, ← Int32.toInt_inj, true_and, and_true, or_true, true_or, false_or, or_false, false_and, and_false, not_true_eq_false, not_false_eq_true] <;> omega)) (by rw [h_2874]; omega)
      · simp only [Int32.lt_iff_toInt_lt, Int32.le_iff_toInt_le, Int32.reduceToInt, ← Int32.toInt_inj] at h_2850
        refine v_aload_n hC dX12_advance_13 rfl ?_
        refine v_aload_n hC dX12_advance_14 rfl ?_
        refine v_get hC fl_X12_108 m_1 e_2819 rfl dX12_advance_15 ?_
        refine v_vi hC (rest := []) m_1 e_2819 rfl mi_X12_see ms_X12_see (p_X12_see hW_2810 k_0 (by first | omega | (simp only [Int32.lt_iff_toInt_lt, Int32.le_iff_toInt_le, Int32.reduceToInt, ← Int32.toInt_inj, true_and, and_true, or_true, true_or, false_or, or_false, false_and, and_false, not_true_eq_false, not_false_eq_true] <;> omega))) mx_X12_see ml_X12_114 (by decide) rfl (cells1 := 0) (slots1 := 0) (by decide) (by decide) (Nat.le_of_ble_eq_true rfl) (Nat.le_of_ble_eq_true rfl) rfl (Nat.le_of_ble_eq_true rfl) dX12_advance_18 (fun r_2875 L_2876 f_2877 h_2878 => ?_)
        obtain ⟨rfl, rfl, rfl⟩ := h_2878
        have sb_2881 := sv_b (f_2809 a_0) (f_2809 (q 4)) v_2825
        have fe_2882 : fld (f_2809 a_0) 7 = (v_2823 : Int32).toInt := by rw [e_2819]; rfl
        rw [fe_2882] at sb_2881
        refine v_bipush hC dX12_advance_21 (v := 10) (by decide) ?_
        refine v_icmp_ne hC dX12_advance_23 (tgt := 39) (by decide) (fun h_2883 => ?_) (fun h_2883 => ?_)
        · simp only [Int32.lt_iff_toInt_lt, Int32.le_iff_toInt_le, Int32.reduceToInt, ← Int32.toInt_inj] at h_2883
          refine v_aload_n hC dX12_advance_39 rfl ?_
          refine v_aload_n hC dX12_advance_40 rfl ?_
          refine v_get hC fl_X12_108 m_1 e_2819 rfl dX12_advance_41 ?_
          refine v_put hC fl_X12_117 m_1 e_2819 rfl rfl (Nat.le_of_ble_eq_true rfl) (fs' := [.int v_2820, .ref (q 1), .ref (q 2), .ref (q 3), .ref (q 4), .int v_2821, .ref (q 6), .int v_2823, .int v_2825, .int v_2825, .int v_2829, .int v_2831, .int v_2832, .int v_2833, .ref (q 14), .ref (q 15), .ref (q 16), .int v_2834, .ref (q 18), .ref (q 19), .int v_2836, .ref (q 21), .ref (q 22), .ref (q 23), .ref (q 24), .ref (q 25), .ref (q 26), .ref (q 27), .ref (q 28)]) rfl dX12_advance_44 (fun f_2896 hf_2897 hk_2898 => ?_)
          have hW_2899 := hW_2810.up hf_2897 hk_2898 t_2 ⟨v_2820, v_2821, v_2823, v_2825, v_2825, v_2829, v_2831, v_2832, v_2833, v_2834, v_2836, rfl, (by first | omega | (simp only [Int32.lt_iff_toInt_lt, Int32.le_iff_toInt_le, Int32.reduceToInt, ← Int32.toInt_inj, true_and, and_true, or_true, true_or, false_or, or_false, false_and, and_false, not_true_eq_false, not_false_eq_true] <;> omega)), (by first | omega | (simp only [Int32.lt_iff_toInt_lt, Int32.le_iff_toInt_le, Int32.reduceToInt, ← Int32.toInt_inj, true_and, and_true, or_true, true_or, false_or, or_false, false_and, and_false, not_true_eq_false, not_false_eq_true] <;> omega)), (by first | omega | (simp only [Int32.lt_iff_toInt_lt, Int32.le_iff_toInt_le, Int32.reduceToInt, ← Int32.toInt_inj, true_and, and_true, or_true, true_or, false_or, or_false, false_and, and_false, not_true_eq_false, not_false_eq_true] <;> omega)), (by first | omega | (simp only [Int32.lt_iff_toInt_lt, Int32.le_iff_toInt_le, Int32.reduceToInt, ← Int32.toInt_inj, true_and, and_true, or_true, true_or, false_or, or_false, false_and, and_false, not_true_eq_false, not_false_eq_true] <;> omega)), (by first | omega | (simp only [Int32.lt_iff_toInt_lt, Int32.le_iff_toInt_le, Int32.reduceToInt, ← Int32.toInt_inj, true_and, and_true, or_true, true_or, false_or, or_false, false_and, and_false, not_true_eq_false, not_false_eq_true] <;> omega)), (by first | omega | (simp only [Int32.lt_iff_toInt_lt, Int32.le_iff_toInt_le, Int32.reduceToInt, ← Int32.toInt_inj, true_and, and_true, or_true, true_or, false_or, or_false, false_and, and_false, not_true_eq_false, not_false_eq_true] <;> omega)), (by first | omega | (simp only [Int32.lt_iff_toInt_lt, Int32.le_iff_toInt_le, Int32.reduceToInt, ← Int32.toInt_inj, true_and, and_true, or_true, true_or, false_or, or_false, false_and, and_false, not_true_eq_false, not_false_eq_true] <;> omega))⟩
          have fr_2900 := FR.w hk_2898 e_2819 (k := 12) rfl
          refine v_aload_n hC dX12_advance_47 rfl ?_
          refine v_aload_n hC dX12_advance_48 rfl ?_
          refine v_get hC fl_X12_108 m_1 hf_2897 rfl dX12_advance_49 ?_
          refine v_vi hC (rest := []) m_1 hf_2897 rfl mi_X12_see ms_X12_see (p_X12_see hW_2899 k_0 (by first | omega | (simp only [Int32.lt_iff_toInt_lt, Int32.le_iff_toInt_le, Int32.reduceToInt, ← Int32.toInt_inj, true_and, and_true, or_true, true_or, false_or, or_false, false_and, and_false, not_true_eq_false, not_false_eq_true] <;> omega))) mx_X12_see ml_X12_114 (by decide) rfl (cells1 := 0) (slots1 := 0) (by decide) (by decide) (Nat.le_of_ble_eq_true rfl) (Nat.le_of_ble_eq_true rfl) rfl (Nat.le_of_ble_eq_true rfl) dX12_advance_52 (fun r_2901 L_2902 f_2903 h_2904 => ?_)
          obtain ⟨rfl, rfl, rfl⟩ := h_2904
          have sb_2907 := sv_b (f_2896 a_0) (f_2896 (q 4)) v_2825
          have fe_2908 : fld (f_2896 a_0) 7 = (v_2823 : Int32).toInt := by rw [hf_2897]; rfl
          rw [fe_2908] at sb_2907
          obtain ⟨m_2909, t_2910⟩ := id k_6
          obtain ⟨g_2912, e_2911, fit_2913⟩ := hW_2899.at m_2909 t_2910
          have fe_2914 : fld (f_2896 a_0) 7 = (v_2823 : Int32).toInt := by rw [hf_2897]; rfl
          refine v_istore_n hC dX12_advance_55 (by decide) (lv' := [(1, .int (sv (f_2896 a_0) (f_2896 (q 4)) v_2825)), (0, .ref a_0)]) rfl ?_
          refine v_iload_n hC dX12_advance_56 rfl ?_
          refine v_iconst hC dX12_advance_57 (v := (-1)) (by decide) ?_
          refine v_icmp_ne hC dX12_advance_58 (tgt := 69) (by decide) (fun h_2915 => ?_) (fun h_2915 => ?_)
          · simp only [Int32.lt_iff_toInt_lt, Int32.le_iff_toInt_le, Int32.reduceToInt, ← Int32.toInt_inj] at h_2915
            refine v_iload_n hC dX12_advance_69 rfl ?_
            obtain ⟨v_2916, h_2917⟩ : ∃ v9 : Int64, (sv (f_2896 a_0) (f_2896 (q 4)) v_2825).toInt64 = v9 := ⟨_, rfl⟩
            refine v_i2l hC dX12_advance_70 h_2917 ?_
            have h_2918 : v_2916.toInt = (sv (f_2896 a_0) (f_2896 (q 4)) v_2825).toInt := by rw [← h_2917]; exact Int32.toInt_toInt64 _
            refine v_ldc2 hC kl_X12_123 dX12_advance_71 ?_
            refine v_ldc2 hC kl_X12_125 dX12_advance_74 ?_
            refine v_si hC (rest := []) mt_X12_in (p_X12_in hW_2899) mx_X12_in ml_X12_79 (by decide) rfl (cells1 := 0) (slots1 := 0) (by decide) (by decide) (Nat.le_of_ble_eq_true rfl) (Nat.le_of_ble_eq_true rfl) rfl (Nat.le_of_ble_eq_true rfl) dX12_advance_77 (fun r_2919 L_2920 f_2921 h_2922 => ?_)
            obtain ⟨rfl, rfl, b_2923, x_2924⟩ := h_2922
            try simp only [Int32.reduceToInt, Int64.reduceToInt] at x_2924
            refine v_if_eq hC dX12_advance_80 (tgt := 125) (by decide) (fun h_2927 => ?_) (fun h_2927 => ?_)
            · simp only [Int32.lt_iff_toInt_lt, Int32.le_iff_toInt_le, Int32.reduceToInt, ← Int32.toInt_inj] at h_2927
              refine v_iload_n hC dX12_advance_125 rfl ?_
              obtain ⟨v_2928, h_2929⟩ : ∃ v9 : Int64, (sv (f_2896 a_0) (f_2896 (q 4)) v_2825).toInt64 = v9 := ⟨_, rfl⟩
              refine v_i2l hC dX12_advance_126 h_2929 ?_
              have h_2930 : v_2928.toInt = (sv (f_2896 a_0) (f_2896 (q 4)) v_2825).toInt := by rw [← h_2929]; exact Int32.toInt_toInt64 _
              refine v_ldc2 hC kl_X12_127 dX12_advance_127 ?_
              refine v_ldc2 hC kl_X12_129 dX12_advance_130 ?_
              refine v_si hC (rest := []) mt_X12_in (p_X12_in hW_2899) mx_X12_in ml_X12_79 (by decide) rfl (cells1 := 0) (slots1 := 0) (by decide) (by decide) (Nat.le_of_ble_eq_true rfl) (Nat.le_of_ble_eq_true rfl) rfl (Nat.le_of_ble_eq_true rfl) dX12_advance_133 (fun r_2931 L_2932 f_2933 h_2934 => ?_)
              obtain ⟨rfl, rfl, b_2935, x_2936⟩ := h_2934
              try simp only [Int32.reduceToInt, Int64.reduceToInt] at x_2936
              refine v_if_eq hC dX12_advance_136 (tgt := 215) (by decide) (fun h_2939 => ?_) (fun h_2939 => ?_)
              · simp only [Int32.lt_iff_toInt_lt, Int32.le_iff_toInt_le, Int32.reduceToInt, ← Int32.toInt_inj] at h_2939
                refine v_aload_n hC dX12_advance_215 rfl ?_
                refine v_iload_n hC dX12_advance_216 rfl ?_
                refine v_bipush hC dX12_advance_217 (v := 59) (by decide) ?_
                refine v_icmp_ne hC dX12_advance_219 (tgt := 226) (by decide) (fun h_2940 => ?_) (fun h_2940 => ?_)
                · simp only [Int32.lt_iff_toInt_lt, Int32.le_iff_toInt_le, Int32.reduceToInt, ← Int32.toInt_inj] at h_2940
                  refine v_iconst hC dX12_advance_226 (v := 4) (by decide) ?_
                  refine v_put hC fl_X12_120 m_1 hf_2897 rfl rfl (Nat.le_of_ble_eq_true rfl) (fs' := [.int v_2820, .ref (q 1), .ref (q 2), .ref (q 3), .ref (q 4), .int v_2821, .ref (q 6), .int v_2823, .int v_2825, .int v_2825, .int 4, .int v_2831, .int v_2832, .int v_2833, .ref (q 14), .ref (q 15), .ref (q 16), .int v_2834, .ref (q 18), .ref (q 19), .int v_2836, .ref (q 21), .ref (q 22), .ref (q 23), .ref (q 24), .ref (q 25), .ref (q 26), .ref (q 27), .ref (q 28)]) rfl dX12_advance_227 (fun f_2941 hf_2942 hk_2943 => ?_)
                  have hW_2944 := hW_2899.up hf_2942 hk_2943 t_2 ⟨v_2820, v_2821, v_2823, v_2825, v_2825, 4, v_2831, v_2832, v_2833, v_2834, v_2836, rfl, (by first | omega | (simp only [Int32.lt_iff_toInt_lt, Int32.le_iff_toInt_le, Int32.reduceToInt, ← Int32.toInt_inj, true_and, and_true, or_true, true_or, false_or, or_false, false_and, and_false, not_true_eq_false, not_false_eq_true] <;> omega)), (by first | omega | (simp only [Int32.lt_iff_toInt_lt, Int32.le_iff_toInt_le, Int32.reduceToInt, ← Int32.toInt_inj, true_and, and_true, or_true, true_or, false_or, or_false, false_and, and_false, not_true_eq_false, not_false_eq_true] <;> omega)), (by first | omega | (simp only [Int32.lt_iff_toInt_lt, Int32.le_iff_toInt_le, Int32.reduceToInt, ← Int32.toInt_inj, true_and, and_true, or_true, true_or, false_or, or_false, false_and, and_false, not_true_eq_false, not_false_eq_true] <;> omega)), (by first | omega | (simp only [Int32.lt_iff_toInt_lt, Int32.le_iff_toInt_le, Int32.reduceToInt, ← Int32.toInt_inj, true_and, and_true, or_true, true_or, false_or, or_false, false_and, and_false, not_true_eq_false, not_false_eq_true] <;> omega)), (by decide), (by first | omega | (simp only [Int32.lt_iff_toInt_lt, Int32.le_iff_toInt_le, Int32.reduceToInt, ← Int32.toInt_inj, true_and, and_true, or_true, true_or, false_or, or_false, false_and, and_false, not_true_eq_false, not_false_eq_true] <;> omega)), (by first | omega | (simp only [Int32.lt_iff_toInt_lt, Int32.le_iff_toInt_le, Int32.reduceToInt, ← Int32.toInt_inj, true_and, and_true, or_true, true_or, false_or, or_false, false_and, and_false, not_true_eq_false, not_false_eq_true] <;> omega))⟩
                  have hf_2945 := (hk_2943 (q 4) (ne_kd e_2911 hf_2897 rfl)).trans e_2911
                  have fr_2946 := FR.w hk_2943 hf_2897 (k := 12) rfl
                  refine v_aload_n hC dX12_advance_230 rfl ?_
                  refine v_dup hC dX12_advance_231 rfl ?_
                  refine v_get hC fl_X12_108 m_1 hf_2942 rfl dX12_advance_232 ?_
                  refine v_iconst hC dX12_advance_235 (v := 1) (by decide) ?_
                  obtain ⟨v_2947, h_2948⟩ : ∃ v9 : Int32, v_2825 + 1 = v9 := ⟨_, rfl⟩
                  refine v_iadd hC dX12_advance_236 h_2948 ?_
                  have h_2949 := add_v h_2948 (by first | omega | (simp only [Int32.lt_iff_toInt_lt, Int32.le_iff_toInt_le, Int32.reduceToInt, ← Int32.toInt_inj, true_and, and_true, or_true, true_or, false_or, or_false, false_and, and_false, not_true_eq_false, not_false_eq_true] <;> omega)) (by first | omega | (simp only [Int32.lt_iff_toInt_lt, Int32.le_iff_toInt_le, Int32.reduceToInt, ← Int32.toInt_inj, true_and, and_true, or_true, true_or, false_or, or_false, false_and, and_false, not_true_eq_false, not_false_eq_true] <;> omega))
                  try simp only [Int32.reduceToInt] at h_2949
                  refine v_put hC fl_X12_108 m_1 hf_2942 rfl rfl (Nat.le_of_ble_eq_true rfl) (fs' := [.int v_2820, .ref (q 1), .ref (q 2), .ref (q 3), .ref (q 4), .int v_2821, .ref (q 6), .int v_2823, .int v_2947, .int v_2825, .int 4, .int v_2831, .int v_2832, .int v_2833, .ref (q 14), .ref (q 15), .ref (q 16), .int v_2834, .ref (q 18), .ref (q 19), .int v_2836, .ref (q 21), .ref (q 22), .ref (q 23), .ref (q 24), .ref (q 25), .ref (q 26), .ref (q 27), .ref (q 28)]) rfl dX12_advance_237 (fun f_2950 hf_2951 hk_2952 => ?_)
                  have hW_2953 := hW_2944.up hf_2951 hk_2952 t_2 ⟨v_2820, v_2821, v_2823, v_2947, v_2825, 4, v_2831, v_2832, v_2833, v_2834, v_2836, rfl, (by first | omega | (simp only [Int32.lt_iff_toInt_lt, Int32.le_iff_toInt_le, Int32.reduceToInt, ← Int32.toInt_inj, true_and, and_true, or_true, true_or, false_or, or_false, false_and, and_false, not_true_eq_false, not_false_eq_true] <;> omega)), (by first | omega | (simp only [Int32.lt_iff_toInt_lt, Int32.le_iff_toInt_le, Int32.reduceToInt, ← Int32.toInt_inj, true_and, and_true, or_true, true_or, false_or, or_false, false_and, and_false, not_true_eq_false, not_false_eq_true] <;> omega)), (by first | omega | (simp only [Int32.lt_iff_toInt_lt, Int32.le_iff_toInt_le, Int32.reduceToInt, ← Int32.toInt_inj, true_and, and_true, or_true, true_or, false_or, or_false, false_and, and_false, not_true_eq_false, not_false_eq_true] <;> omega)), (by first | omega | (simp only [Int32.lt_iff_toInt_lt, Int32.le_iff_toInt_le, Int32.reduceToInt, ← Int32.toInt_inj, true_and, and_true, or_true, true_or, false_or, or_false, false_and, and_false, not_true_eq_false, not_false_eq_true] <;> omega)), (by decide), (by first | omega | (simp only [Int32.lt_iff_toInt_lt, Int32.le_iff_toInt_le, Int32.reduceToInt, ← Int32.toInt_inj, true_and, and_true, or_true, true_or, false_or, or_false, false_and, and_false, not_true_eq_false, not_false_eq_true] <;> omega)), (by first | omega | (simp only [Int32.lt_iff_toInt_lt, Int32.le_iff_toInt_le, Int32.reduceToInt, ← Int32.toInt_inj, true_and, and_true, or_true, true_or, false_or, or_false, false_and, and_false, not_true_eq_false, not_false_eq_true] <;> omega))⟩
                  have hf_2954 := (hk_2952 (q 4) (ne_kd hf_2945 hf_2942 rfl)).trans hf_2945
                  have fr_2955 := FR.w hk_2952 hf_2942 (k := 12) rfl
                  have fe_2956 : fld (f_2950 a_0) 8 = (v_2947 : Int32).toInt := by rw [hf_2951]; rfl
                  have fe_2957 : fld (f_2950 a_0) 9 = (v_2825 : Int32).toInt := by rw [hf_2951]; rfl
                  have fe_2958 : fld (f_2950 a_0) 8 = (v_2947 : Int32).toInt := by rw [hf_2951]; rfl
                  have fe_2959 : fld (f_2950 a_0) 9 = (v_2825 : Int32).toInt := by rw [hf_2951]; rfl
                  have fe_2960 : fld (f_2950 a_0) 10 = (4 : Int32).toInt := by rw [hf_2951]; rfl
                  simp only [Int32.reduceToInt] at fe_2960
                  have fe_2961 : fld (f_2950 a_0) 12 = (v_2832 : Int32).toInt := by rw [hf_2951]; rfl
                  have fe_2962 : fld (f_2950 a_0) 20 = (v_2836 : Int32).toInt := by rw [hf_2951]; rfl
                  exact hR _ _ _ _ _ _ dX12_advance_240 (Nat.le_of_ble_eq_true rfl) (Nat.le_of_ble_eq_true rfl) ⟨rfl, hW_2953, ((((hF_2811.tr fr_2900).tr fr_2946).tr fr_2955).mono rfl), (by simp only [fe_2956, fe_2957, mz_40, true_and, and_true, or_true, true_or, false_or, or_false, false_and, and_false, not_true_eq_false, not_false_eq_true] <;> first | omega | (simp only [Int32.lt_iff_toInt_lt, Int32.le_iff_toInt_le, Int32.reduceToInt, ← Int32.toInt_inj, true_and, and_true, or_true, true_or, false_or, or_false, false_and, and_false, not_true_eq_false, not_false_eq_true] <;> omega)), (by simp only [fe_2958, fe_2959, fe_2960, true_and, and_true, or_true, true_or, false_or, or_false, false_and, and_false, not_true_eq_false, not_false_eq_true] <;> first | omega | (simp only [Int32.lt_iff_toInt_lt, Int32.le_iff_toInt_le, Int32.reduceToInt, ← Int32.toInt_inj, true_and, and_true, or_true, true_or, false_or, or_false, false_and, and_false, not_true_eq_false, not_false_eq_true] <;> omega)), (by simp only [fe_2961, mz_41, true_and, and_true, or_true, true_or, false_or, or_false, false_and, and_false, not_true_eq_false, not_false_eq_true] <;> first | omega | (simp only [Int32.lt_iff_toInt_lt, Int32.le_iff_toInt_le, Int32.reduceToInt, ← Int32.toInt_inj, true_and, and_true, or_true, true_or, false_or, or_false, false_and, and_false, not_true_eq_false, not_false_eq_true] <;> omega)), (by simp only [fe_2962, mz_42, true_and, and_true, or_true, true_or, false_or, or_false, false_and, and_false, not_true_eq_false, not_false_eq_true] <;> first | omega | (simp only [Int32.lt_iff_toInt_lt, Int32.le_iff_toInt_le, Int32.reduceToInt, ← Int32.toInt_inj, true_and, and_true, or_true, true_or, false_or, or_false, false_and, and_false, not_true_eq_false, not_false_eq_true] <;> omega))⟩
                · simp only [Int32.lt_iff_toInt_lt, Int32.le_iff_toInt_le, Int32.reduceToInt, ← Int32.toInt_inj] at h_2940
                  refine v_iconst hC dX12_advance_222 (v := 3) (by decide) ?_
                  refine v_goto hC dX12_advance_223 (tgt := 227) (by decide) ?_
                  refine v_put hC fl_X12_120 m_1 hf_2897 rfl rfl (Nat.le_of_ble_eq_true rfl) (fs' := [.int v_2820, .ref (q 1), .ref (q 2), .ref (q 3), .ref (q 4), .int v_2821, .ref (q 6), .int v_2823, .int v_2825, .int v_2825, .int 3, .int v_2831, .int v_2832, .int v_2833, .ref (q 14), .ref (q 15), .ref (q 16), .int v_2834, .ref (q 18), .ref (q 19), .int v_2836, .ref (q 21), .ref (q 22), .ref (q 23), .ref (q 24), .ref (q 25), .ref (q 26), .ref (q 27), .ref (q 28)]) rfl dX12_advance_227 (fun f_2963 hf_2964 hk_2965 => ?_)
                  have hW_2966 := hW_2899.up hf_2964 hk_2965 t_2 ⟨v_2820, v_2821, v_2823, v_2825, v_2825, 3, v_2831, v_2832, v_2833, v_2834, v_2836, rfl, (by first | omega | (simp only [Int32.lt_iff_toInt_lt, Int32.le_iff_toInt_le, Int32.reduceToInt, ← Int32.toInt_inj, true_and, and_true, or_true, true_or, false_or, or_false, false_and, and_false, not_true_eq_false, not_false_eq_true] <;> omega)), (by first | omega | (simp only [Int32.lt_iff_toInt_lt, Int32.le_iff_toInt_le, Int32.reduceToInt, ← Int32.toInt_inj, true_and, and_true, or_true, true_or, false_or, or_false, false_and, and_false, not_true_eq_false, not_false_eq_true] <;> omega)), (by first | omega | (simp only [Int32.lt_iff_toInt_lt, Int32.le_iff_toInt_le, Int32.reduceToInt, ← Int32.toInt_inj, true_and, and_true, or_true, true_or, false_or, or_false, false_and, and_false, not_true_eq_false, not_false_eq_true] <;> omega)), (by first | omega | (simp only [Int32.lt_iff_toInt_lt, Int32.le_iff_toInt_le, Int32.reduceToInt, ← Int32.toInt_inj, true_and, and_true, or_true, true_or, false_or, or_false, false_and, and_false, not_true_eq_false, not_false_eq_true] <;> omega)), (by decide), (by first | omega | (simp only [Int32.lt_iff_toInt_lt, Int32.le_iff_toInt_le, Int32.reduceToInt, ← Int32.toInt_inj, true_and, and_true, or_true, true_or, false_or, or_false, false_and, and_false, not_true_eq_false, not_false_eq_true] <;> omega)), (by first | omega | (simp only [Int32.lt_iff_toInt_lt, Int32.le_iff_toInt_le, Int32.reduceToInt, ← Int32.toInt_inj, true_and, and_true, or_true, true_or, false_or, or_false, false_and, and_false, not_true_eq_false, not_false_eq_true] <;> omega))⟩
                  have hf_2967 := (hk_2965 (q 4) (ne_kd e_2911 hf_2897 rfl)).trans e_2911
                  have fr_2968 := FR.w hk_2965 hf_2897 (k := 12) rfl
                  refine v_aload_n hC dX12_advance_230 rfl ?_
                  refine v_dup hC dX12_advance_231 rfl ?_
                  refine v_get hC fl_X12_108 m_1 hf_2964 rfl dX12_advance_232 ?_
                  refine v_iconst hC dX12_advance_235 (v := 1) (by decide) ?_
                  obtain ⟨v_2969, h_2970⟩ : ∃ v9 : Int32, v_2825 + 1 = v9 := ⟨_, rfl⟩
                  refine v_iadd hC dX12_advance_236 h_2970 ?_
                  have h_2971 := add_v h_2970 (by first | omega | (simp only [Int32.lt_iff_toInt_lt, Int32.le_iff_toInt_le, Int32.reduceToInt, ← Int32.toInt_inj, true_and, and_true, or_true, true_or, false_or, or_false, false_and, and_false, not_true_eq_false, not_false_eq_true] <;> omega)) (by first | omega | (simp only [Int32.lt_iff_toInt_lt, Int32.le_iff_toInt_le, Int32.reduceToInt, ← Int32.toInt_inj, true_and, and_true, or_true, true_or, false_or, or_false, false_and, and_false, not_true_eq_false, not_false_eq_true] <;> omega))
                  try simp only [Int32.reduceToInt] at h_2971
                  refine v_put hC fl_X12_108 m_1 hf_2964 rfl rfl (Nat.le_of_ble_eq_true rfl) (fs' := [.int v_2820, .ref (q 1), .ref (q 2), .ref (q 3), .ref (q 4), .int v_2821, .ref (q 6), .int v_2823, .int v_2969, .int v_2825, .int 3, .int v_2831, .int v_2832, .int v_2833, .ref (q 14), .ref (q 15), .ref (q 16), .int v_2834, .ref (q 18), .ref (q 19), .int v_2836, .ref (q 21), .ref (q 22), .ref (q 23), .ref (q 24), .ref (q 25), .ref (q 26), .ref (q 27), .ref (q 28)]) rfl dX12_advance_237 (fun f_2972 hf_2973 hk_2974 => ?_)
                  have hW_2975 := hW_2966.up hf_2973 hk_2974 t_2 ⟨v_2820, v_2821, v_2823, v_2969, v_2825, 3, v_2831, v_2832, v_2833, v_2834, v_2836, rfl, (by first | omega | (simp only [Int32.lt_iff_toInt_lt, Int32.le_iff_toInt_le, Int32.reduceToInt, ← Int32.toInt_inj, true_and, and_true, or_true, true_or, false_or, or_false, false_and, and_false, not_true_eq_false, not_false_eq_true] <;> omega)), (by first | omega | (simp only [Int32.lt_iff_toInt_lt, Int32.le_iff_toInt_le, Int32.reduceToInt, ← Int32.toInt_inj, true_and, and_true, or_true, true_or, false_or, or_false, false_and, and_false, not_true_eq_false, not_false_eq_true] <;> omega)), (by first | omega | (simp only [Int32.lt_iff_toInt_lt, Int32.le_iff_toInt_le, Int32.reduceToInt, ← Int32.toInt_inj, true_and, and_true, or_true, true_or, false_or, or_false, false_and, and_false, not_true_eq_false, not_false_eq_true] <;> omega)), (by first | omega | (simp only [Int32.lt_iff_toInt_lt, Int32.le_iff_toInt_le, Int32.reduceToInt, ← Int32.toInt_inj, true_and, and_true, or_true, true_or, false_or, or_false, false_and, and_false, not_true_eq_false, not_false_eq_true] <;> omega)), (by decide), (by first | omega | (simp only [Int32.lt_iff_toInt_lt, Int32.le_iff_toInt_le, Int32.reduceToInt, ← Int32.toInt_inj, true_and, and_true, or_true, true_or, false_or, or_false, false_and, and_false, not_true_eq_false, not_false_eq_true] <;> omega)), (by first | omega | (simp only [Int32.lt_iff_toInt_lt, Int32.le_iff_toInt_le, Int32.reduceToInt, ← Int32.toInt_inj, true_and, and_true, or_true, true_or, false_or, or_false, false_and, and_false, not_true_eq_false, not_false_eq_true] <;> omega))⟩
                  have hf_2976 := (hk_2974 (q 4) (ne_kd hf_2967 hf_2964 rfl)).trans hf_2967
                  have fr_2977 := FR.w hk_2974 hf_2964 (k := 12) rfl
                  have fe_2978 : fld (f_2972 a_0) 8 = (v_2969 : Int32).toInt := by rw [hf_2973]; rfl
                  have fe_2979 : fld (f_2972 a_0) 9 = (v_2825 : Int32).toInt := by rw [hf_2973]; rfl
                  have fe_2980 : fld (f_2972 a_0) 8 = (v_2969 : Int32).toInt := by rw [hf_2973]; rfl
                  have fe_2981 : fld (f_2972 a_0) 9 = (v_2825 : Int32).toInt := by rw [hf_2973]; rfl
                  have fe_2982 : fld (f_2972 a_0) 10 = (3 : Int32).toInt := by rw [hf_2973]; rfl
                  simp only [Int32.reduceToInt] at fe_2982
                  have fe_2983 : fld (f_2972 a_0) 12 = (v_2832 : Int32).toInt := by rw [hf_2973]; rfl
                  have fe_2984 : fld (f_2972 a_0) 20 = (v_2836 : Int32).toInt := by rw [hf_2973]; rfl
                  exact hR _ _ _ _ _ _ dX12_advance_240 (Nat.le_of_ble_eq_true rfl) (Nat.le_of_ble_eq_true rfl) ⟨rfl, hW_2975, ((((hF_2811.tr fr_2900).tr fr_2968).tr fr_2977).mono rfl), (by simp only [fe_2978, fe_2979, mz_40, true_and, and_true, or_true, true_or, false_or, or_false, false_and, and_false, not_true_eq_false, not_false_eq_true] <;> first | omega | (simp only [Int32.lt_iff_toInt_lt, Int32.le_iff_toInt_le, Int32.reduceToInt, ← Int32.toInt_inj, true_and, and_true, or_true, true_or, false_or, or_false, false_and, and_false, not_true_eq_false, not_false_eq_true] <;> omega)), (by simp only [fe_2980, fe_2981, fe_2982, true_and, and_true, or_true, true_or, false_or, or_false, false_and, and_false, not_true_eq_false, not_false_eq_true] <;> first | omega | (simp only [Int32.lt_iff_toInt_lt, Int32.le_iff_toInt_le, Int32.reduceToInt, ← Int32.toInt_inj, true_and, and_true, or_true, true_or, false_or, or_false, false_and, and_false, not_true_eq_false, not_false_eq_true] <;> omega)), (by simp only [fe_2983, mz_41, true_and, and_true, or_true, true_or, false_or, or_false, false_and, and_false, not_true_eq_false, not_false_eq_true] <;> first | omega | (simp only [Int32.lt_iff_toInt_lt, Int32.le_iff_toInt_le, Int32.reduceToInt, ← Int32.toInt_inj, true_and, and_true, or_true, true_or, false_or, or_false, false_and, and_false, not_true_eq_false, not_false_eq_true] <;> omega)), (by simp only [fe_2984, mz_42, true_and, and_true, or_true, true_or, false_or, or_false, false_and, and_false, not_true_eq_false, not_false_eq_true] <;> first | omega | (simp only [Int32.lt_iff_toInt_lt, Int32.le_iff_toInt_le, Int32.reduceToInt, ← Int32.toInt_inj, true_and, and_true, or_true, true_or, false_or, or_false, false_and, and_false, not_true_eq_false, not_false_eq_true] <;> omega))⟩
              · simp only [Int32.lt_iff_toInt_lt, Int32.le_iff_toInt_le, Int32.reduceToInt, ← Int32.toInt_inj] at h_2939
                refine v_aload_n hC dX12_advance_139 rfl ?_
                refine v_iconst hC dX12_advance_140 (v := 0) (by decide) ?_
                refine v_put hC fl_X12_131 m_1 hf_2897 rfl rfl (Nat.le_of_ble_eq_true rfl) (fs' := [.int v_2820, .ref (q 1), .ref (q 2), .ref (q 3), .ref (q 4), .int v_2821, .ref (q 6), .int v_2823, .int v_2825, .int v_2825, .int v_2829, .int 0, .int v_2832, .int v_2833, .ref (q 14), .ref (q 15), .ref (q 16), .int v_2834, .ref (q 18), .ref (q 19), .int v_2836, .ref (q 21), .ref (q 22), .ref (q 23), .ref (q 24), .ref (q 25), .ref (q 26), .ref (q 27), .ref (q 28)]) rfl dX12_advance_141 (fun f_2985 hf_2986 hk_2987 => ?_)
                have hW_2988 := hW_2899.up hf_2986 hk_2987 t_2 ⟨v_2820, v_2821, v_2823, v_2825, v_2825, v_2829, 0, v_2832, v_2833, v_2834, v_2836, rfl, (by first | omega | (simp only [Int32.lt_iff_toInt_lt, Int32.le_iff_toInt_le, Int32.reduceToInt, ← Int32.toInt_inj, true_and, and_true, or_true, true_or, false_or, or_false, false_and, and_false, not_true_eq_false, not_false_eq_true] <;> omega)), (by first | omega | (simp only [Int32.lt_iff_toInt_lt, Int32.le_iff_toInt_le, Int32.reduceToInt, ← Int32.toInt_inj, true_and, and_true, or_true, true_or, false_or, or_false, false_and, and_false, not_true_eq_false, not_false_eq_true] <;> omega)), (by first | omega | (simp only [Int32.lt_iff_toInt_lt, Int32.le_iff_toInt_le, Int32.reduceToInt, ← Int32.toInt_inj, true_and, and_true, or_true, true_or, false_or, or_false, false_and, and_false, not_true_eq_false, not_false_eq_true] <;> omega)), (by first | omega | (simp only [Int32.lt_iff_toInt_lt, Int32.le_iff_toInt_le, Int32.reduceToInt, ← Int32.toInt_inj, true_and, and_true, or_true, true_or, false_or, or_false, false_and, and_false, not_true_eq_false, not_false_eq_true] <;> omega)), (by first | omega | (simp only [Int32.lt_iff_toInt_lt, Int32.le_iff_toInt_le, Int32.reduceToInt, ← Int32.toInt_inj, true_and, and_true, or_true, true_or, false_or, or_false, false_and, and_false, not_true_eq_false, not_false_eq_true] <;> omega)), (by first | omega | (simp only [Int32.lt_iff_toInt_lt, Int32.le_iff_toInt_le, Int32.reduceToInt, ← Int32.toInt_inj, true_and, and_true, or_true, true_or, false_or, or_false, false_and, and_false, not_true_eq_false, not_false_eq_true] <;> omega)), (by first | omega | (simp only [Int32.lt_iff_toInt_lt, Int32.le_iff_toInt_le, Int32.reduceToInt, ← Int32.toInt_inj, true_and, and_true, or_true, true_or, false_or, or_false, false_and, and_false, not_true_eq_false, not_false_eq_true] <;> omega))⟩
                have hf_2989 := (hk_2987 (q 4) (ne_kd e_2911 hf_2897 rfl)).trans e_2911
                have fr_2990 := FR.w hk_2987 hf_2897 (k := 12) rfl
                refine v_aload_n hC dX12_advance_144 rfl ?_
                refine v_aload_n hC dX12_advance_145 rfl ?_
                refine v_get hC fl_X12_108 m_1 hf_2986 rfl dX12_advance_146 ?_
                refine v_vi hC (rest := []) m_1 hf_2986 rfl mi_X12_see ms_X12_see (p_X12_see hW_2988 k_0 (by first | omega | (simp only [Int32.lt_iff_toInt_lt, Int32.le_iff_toInt_le, Int32.reduceToInt, ← Int32.toInt_inj, true_and, and_true, or_true, true_or, false_or, or_false, false_and, and_false, not_true_eq_false, not_false_eq_true] <;> omega))) mx_X12_see ml_X12_114 (by decide) rfl (cells1 := 0) (slots1 := 0) (by decide) (by decide) (Nat.le_of_ble_eq_true rfl) (Nat.le_of_ble_eq_true rfl) rfl (Nat.le_of_ble_eq_true rfl) dX12_advance_149 (fun r_2991 L_2992 f_2993 h_2994 => ?_)
                obtain ⟨rfl, rfl, rfl⟩ := h_2994
                have sb_2997 := sv_b (f_2985 a_0) (f_2985 (q 4)) v_2825
                have fe_2998 : fld (f_2985 a_0) 7 = (v_2823 : Int32).toInt := by rw [hf_2986]; rfl
                rw [fe_2998] at sb_2997
                have fe_2999 : fld (f_2985 a_0) 7 = (v_2823 : Int32).toInt := by rw [hf_2986]; rfl
                have sc_3000 : ((sv (f_2985 a_0) (f_2985 (q 4)) v_2825)).toInt = ((sv (f_2896 a_0) (f_2896 (q 4)) v_2825)).toInt := congrArg Int32.toInt (sv_congr (fe_2999.trans fe_2914.symm) (hf_2989.trans e_2911.symm))
                obtain ⟨v_3001, h_3002⟩ : ∃ v9 : Int64, (sv (f_2985 a_0) (f_2985 (q 4)) v_2825).toInt64 = v9 := ⟨_, rfl⟩
                refine v_i2l hC dX12_advance_152 h_3002 ?_
                have h_3003 : v_3001.toInt = (sv (f_2985 a_0) (f_2985 (q 4)) v_2825).toInt := by rw [← h_3002]; exact Int32.toInt_toInt64 _
                refine v_ldc2 hC kl_X12_127 dX12_advance_153 ?_
                refine v_ldc2 hC kl_X12_129 dX12_advance_156 ?_
                refine v_si hC (rest := []) mt_X12_in (p_X12_in hW_2988) mx_X12_in ml_X12_79 (by decide) rfl (cells1 := 0) (slots1 := 0) (by decide) (by decide) (Nat.le_of_ble_eq_true rfl) (Nat.le_of_ble_eq_true rfl) rfl (Nat.le_of_ble_eq_true rfl) dX12_advance_159 (fun r_3004 L_3005 f_3006 h_3007 => ?_)
                obtain ⟨rfl, rfl, b_3008, x_3009⟩ := h_3007
                try simp only [Int32.reduceToInt, Int64.reduceToInt] at x_3009
                refine v_if_eq_f hC dX12_advance_162 (tgt := 207) (by decide) (by first | omega | (simp only [Int32.lt_iff_toInt_lt, Int32.le_iff_toInt_le, Int32.reduceToInt, ← Int32.toInt_inj, true_and, and_true, or_true, true_or, false_or, or_false, false_and, and_false, not_true_eq_false, not_false_eq_true] <;> omega)) ?_
                refine v_aload_n hC dX12_advance_165 rfl ?_
                refine v_sipush hC dX12_advance_166 (v := 9999) (by decide) ?_
                refine v_bipush hC dX12_advance_169 (v := 10) (by decide) ?_
                refine v_aload_n hC dX12_advance_171 rfl ?_
                refine v_get hC fl_X12_131 m_1 hf_2986 rfl dX12_advance_172 ?_
                refine v_imul hC dX12_advance_175 (v := 0) (by decide) ?_
                refine v_aload_n hC dX12_advance_176 rfl ?_
                refine v_aload_n hC dX12_advance_177 rfl ?_
                refine v_get hC fl_X12_108 m_1 hf_2986 rfl dX12_advance_178 ?_
                refine v_vi hC (rest := [.int 0, .int 9999, .ref a_0]) m_1 hf_2986 rfl mi_X12_see ms_X12_see (p_X12_see hW_2988 k_0 (by first | omega | (simp only [Int32.lt_iff_toInt_lt, Int32.le_iff_toInt_le, Int32.reduceToInt, ← Int32.toInt_inj, true_and, and_true, or_true, true_or, false_or, or_false, false_and, and_false, not_true_eq_false, not_false_eq_true] <;> omega))) mx_X12_see ml_X12_114 (by decide) rfl (cells1 := 0) (slots1 := 0) (by decide) (by decide) (Nat.le_of_ble_eq_true rfl) (Nat.le_of_ble_eq_true rfl) rfl (Nat.le_of_ble_eq_true rfl) dX12_advance_181 (fun r_3012 L_3013 f_3014 h_3015 => ?_)
                obtain ⟨rfl, rfl, rfl⟩ := h_3015
                have sb_3018 := sv_b (f_2985 a_0) (f_2985 (q 4)) v_2825
                have fe_3019 : fld (f_2985 a_0) 7 = (v_2823 : Int32).toInt := by rw [hf_2986]; rfl
                rw [fe_3019] at sb_3018
                obtain ⟨v_3020, h_3021⟩ : ∃ v9 : Int32, (0 : Int32) + (sv (f_2985 a_0) (f_2985 (q 4)) v_2825) = v9 := ⟨_, rfl⟩
                refine v_iadd hC dX12_advance_184 h_3021 ?_
                have h_3022 := add_v h_3021 (by first | omega | (simp only [Int32.lt_iff_toInt_lt, Int32.le_iff_toInt_le, Int32.reduceToInt, ← Int32.toInt_inj, true_and, and_true, or_true, true_or, false_or, or_false, false_and, and_false, not_true_eq_false, not_false_eq_true] <;> omega)) (by first | omega | (simp only [Int32.lt_iff_toInt_lt, Int32.le_iff_toInt_le, Int32.reduceToInt, ← Int32.toInt_inj, true_and, and_true, or_true, true_or, false_or, or_false, false_and, and_false, not_true_eq_false, not_false_eq_true] <;> omega))
                try simp only [Int32.reduceToInt] at h_3022
                refine v_bipush hC dX12_advance_185 (v := 48) (by decide) ?_
                obtain ⟨v_3023, h_3024⟩ : ∃ v9 : Int32, v_3020 - 48 = v9 := ⟨_, rfl⟩
                refine v_isub hC dX12_advance_187 h_3024 ?_
                have h_3025 := sub_v h_3024 (by first | omega | (simp only [Int32.lt_iff_toInt_lt, Int32.le_iff_toInt_le, Int32.reduceToInt, ← Int32.toInt_inj, true_and, and_true, or_true, true_or, false_or, or_false, false_and, and_false, not_true_eq_false, not_false_eq_true] <;> omega)) (by first | omega | (simp only [Int32.lt_iff_toInt_lt, Int32.le_iff_toInt_le, Int32.reduceToInt, ← Int32.toInt_inj, true_and, and_true, or_true, true_or, false_or, or_false, false_and, and_false, not_true_eq_false, not_false_eq_true] <;> omega))
                try simp only [Int32.reduceToInt] at h_3025
                obtain ⟨v_3026, h_3027⟩ : ∃ v9 : Int32, (if v_3023 < (9999 : Int32) then v_3023 else (9999 : Int32)) = v9 := ⟨_, rfl⟩
                refine v_mmin hC mm_X12_134 mm_smin mm_i mm_cmin (by decide) (Nat.le_of_ble_eq_true rfl) (Nat.le_of_ble_eq_true rfl) (Nat.le_of_ble_eq_true rfl) h_3027 dX12_advance_188 ?_
                have b_3028 := min_v h_3027
                try simp only [Int32.reduceToInt] at b_3028
                refine v_put hC fl_X12_131 m_1 hf_2986 rfl rfl (Nat.le_of_ble_eq_true rfl) (fs' := [.int v_2820, .ref (q 1), .ref (q 2), .ref (q 3), .ref (q 4), .int v_2821, .ref (q 6), .int v_2823, .int v_2825, .int v_2825, .int v_2829, .int v_3026, .int v_2832, .int v_2833, .ref (q 14), .ref (q 15), .ref (q 16), .int v_2834, .ref (q 18), .ref (q 19), .int v_2836, .ref (q 21), .ref (q 22), .ref (q 23), .ref (q 24), .ref (q 25), .ref (q 26), .ref (q 27), .ref (q 28)]) rfl dX12_advance_191 (fun f_3029 hf_3030 hk_3031 => ?_)
                have hW_3032 := hW_2988.up hf_3030 hk_3031 t_2 ⟨v_2820, v_2821, v_2823, v_2825, v_2825, v_2829, v_3026, v_2832, v_2833, v_2834, v_2836, rfl, (by first | omega | (simp only [Int32.lt_iff_toInt_lt, Int32.le_iff_toInt_le, Int32.reduceToInt, ← Int32.toInt_inj, true_and, and_true, or_true, true_or, false_or, or_false, false_and, and_false, not_true_eq_false, not_false_eq_true] <;> omega)), (by first | omega | (simp only [Int32.lt_iff_toInt_lt, Int32.le_iff_toInt_le, Int32.reduceToInt, ← Int32.toInt_inj, true_and, and_true, or_true, true_or, false_or, or_false, false_and, and_false, not_true_eq_false, not_false_eq_true] <;> omega)), (by first | omega | (simp only [Int32.lt_iff_toInt_lt, Int32.le_iff_toInt_le, Int32.reduceToInt, ← Int32.toInt_inj, true_and, and_true, or_true, true_or, false_or, or_false, false_and, and_false, not_true_eq_false, not_false_eq_true] <;> omega)), (by first | omega | (simp only [Int32.lt_iff_toInt_lt, Int32.le_iff_toInt_le, Int32.reduceToInt, ← Int32.toInt_inj, true_and, and_true, or_true, true_or, false_or, or_false, false_and, and_false, not_true_eq_false, not_false_eq_true] <;> omega)), (by first | omega | (simp only [Int32.lt_iff_toInt_lt, Int32.le_iff_toInt_le, Int32.reduceToInt, ← Int32.toInt_inj, true_and, and_true, or_true, true_or, false_or, or_false, false_and, and_false, not_true_eq_false, not_false_eq_true] <;> omega)), (by first | omega | (simp only [Int32.lt_iff_toInt_lt, Int32.le_iff_toInt_le, Int32.reduceToInt, ← Int32.toInt_inj, true_and, and_true, or_true, true_or, false_or, or_false, false_and, and_false, not_true_eq_false, not_false_eq_true] <;> omega)), (by first | omega | (simp only [Int32.lt_iff_toInt_lt, Int32.le_iff_toInt_le, Int32.reduceToInt, ← Int32.toInt_inj, true_and, and_true, or_true, true_or, false_or, or_false, false_and, and_false, not_true_eq_false, not_false_eq_true] <;> omega))⟩
                have hf_3033 := (hk_3031 (q 4) (ne_kd hf_2989 hf_2986 rfl)).trans hf_2989
                have fr_3034 := FR.w hk_3031 hf_2986 (k := 12) rfl
                refine v_aload_n hC dX12_advance_194 rfl ?_
                refine v_dup hC dX12_advance_195 rfl ?_
                refine v_get hC fl_X12_108 m_1 hf_3030 rfl dX12_advance_196 ?_
                refine v_iconst hC dX12_advance_199 (v := 1) (by decide) ?_
                obtain ⟨v_3035, h_3036⟩ : ∃ v9 : Int32, v_2825 + 1 = v9 := ⟨_, rfl⟩
                refine v_iadd hC dX12_advance_200 h_3036 ?_
                have h_3037 := add_v h_3036 (by first | omega | (simp only [Int32.lt_iff_toInt_lt, Int32.le_iff_toInt_le, Int32.reduceToInt, ← Int32.toInt_inj, true_and, and_true, or_true, true_or, false_or, or_false, false_and, and_false, not_true_eq_false, not_false_eq_true] <;> omega)) (by first | omega | (simp only [Int32.lt_iff_toInt_lt, Int32.le_iff_toInt_le, Int32.reduceToInt, ← Int32.toInt_inj, true_and, and_true, or_true, true_or, false_or, or_false, false_and, and_false, not_true_eq_false, not_false_eq_true] <;> omega))
                try simp only [Int32.reduceToInt] at h_3037
                refine v_put hC fl_X12_108 m_1 hf_3030 rfl rfl (Nat.le_of_ble_eq_true rfl) (fs' := [.int v_2820, .ref (q 1), .ref (q 2), .ref (q 3), .ref (q 4), .int v_2821, .ref (q 6), .int v_2823, .int v_3035, .int v_2825, .int v_2829, .int v_3026, .int v_2832, .int v_2833, .ref (q 14), .ref (q 15), .ref (q 16), .int v_2834, .ref (q 18), .ref (q 19), .int v_2836, .ref (q 21), .ref (q 22), .ref (q 23), .ref (q 24), .ref (q 25), .ref (q 26), .ref (q 27), .ref (q 28)]) rfl dX12_advance_201 (fun f_3038 hf_3039 hk_3040 => ?_)
                have hW_3041 := hW_3032.up hf_3039 hk_3040 t_2 ⟨v_2820, v_2821, v_2823, v_3035, v_2825, v_2829, v_3026, v_2832, v_2833, v_2834, v_2836, rfl, (by first | omega | (simp only [Int32.lt_iff_toInt_lt, Int32.le_iff_toInt_le, Int32.reduceToInt, ← Int32.toInt_inj, true_and, and_true, or_true, true_or, false_or, or_false, false_and, and_false, not_true_eq_false, not_false_eq_true] <;> omega)), (by first | omega | (simp only [Int32.lt_iff_toInt_lt, Int32.le_iff_toInt_le, Int32.reduceToInt, ← Int32.toInt_inj, true_and, and_true, or_true, true_or, false_or, or_false, false_and, and_false, not_true_eq_false, not_false_eq_true] <;> omega)), (by first | omega | (simp only [Int32.lt_iff_toInt_lt, Int32.le_iff_toInt_le, Int32.reduceToInt, ← Int32.toInt_inj, true_and, and_true, or_true, true_or, false_or, or_false, false_and, and_false, not_true_eq_false, not_false_eq_true] <;> omega)), (by first | omega | (simp only [Int32.lt_iff_toInt_lt, Int32.le_iff_toInt_le, Int32.reduceToInt, ← Int32.toInt_inj, true_and, and_true, or_true, true_or, false_or, or_false, false_and, and_false, not_true_eq_false, not_false_eq_true] <;> omega)), (by first | omega | (simp only [Int32.lt_iff_toInt_lt, Int32.le_iff_toInt_le, Int32.reduceToInt, ← Int32.toInt_inj, true_and, and_true, or_true, true_or, false_or, or_false, false_and, and_false, not_true_eq_false, not_false_eq_true] <;> omega)), (by first | omega | (simp only [Int32.lt_iff_toInt_lt, Int32.le_iff_toInt_le, Int32.reduceToInt, ← Int32.toInt_inj, true_and, and_true, or_true, true_or, false_or, or_false, false_and, and_false, not_true_eq_false, not_false_eq_true] <;> omega)), (by first | omega | (simp only [Int32.lt_iff_toInt_lt, Int32.le_iff_toInt_le, Int32.reduceToInt, ← Int32.toInt_inj, true_and, and_true, or_true, true_or, false_or, or_false, false_and, and_false, not_true_eq_false, not_false_eq_true] <;> omega))⟩
                have hf_3042 := (hk_3040 (q 4) (ne_kd hf_3033 hf_3030 rfl)).trans hf_3033
                have fr_3043 := FR.w hk_3040 hf_3030 (k := 12) rfl
                refine v_goto hC dX12_advance_204 (tgt := 144) (by decide) ?_
                have lp_3319 : ∀ (n_3320 : Nat) (f_3311 : Nat → va_E) (hW_3312 : WT T L f_3311) (hF_3313 : FR [12] f_3038 f_3311)  (nv_3315 : v_27.toInt ≤ fld (f_3311 a_0) 9) (nv_3316 : fld (f_3311 a_0) 9 < fld (f_3311 a_0) 8) (nv_3317 : fld (f_3311 a_0) 12 = v_34.toInt) (nv_3318 : fld (f_3311 a_0) 20 = v_38.toInt) (hm_3322 : 600 - fld (f_3311 a_0) 8 < (n_3320 : Int)), V z E 2 0 0 L f_3311 144 [(0, .ref a_0)] [] := by
                  intro n_3320
                  induction n_3320 with
                  | zero =>
                    intro f_3311 hW_3312 hF_3313 nv_3315 nv_3316 nv_3317 nv_3318 hm_3322
                    have hf_3314 := hF_3313.at hf_3042 rfl
                    obtain ⟨v_3324, v_3325, v_3327, v_3329, v_3331, v_3333, v_3335, v_3336, v_3337, v_3338, v_3340, e_3323, b_3326, b_3328, b_3330, b_3332, b_3334, b_3339, b_3341⟩ := hW_3312.at m_1 t_2
                    have fe_3342 : fld (f_3311 a_0) 9 = (v_3331 : Int32).toInt := by rw [e_3323]; rfl
                    rw [fe_3342] at nv_3315
                    have fe_3343 : fld (f_3311 a_0) 8 = (v_3329 : Int32).toInt := by rw [e_3323]; rfl
                    have fe_3344 : fld (f_3311 a_0) 9 = (v_3331 : Int32).toInt := by rw [e_3323]; rfl
                    rw [fe_3343, fe_3344] at nv_3316
                    have fe_3345 : fld (f_3311 a_0) 12 = (v_3336 : Int32).toInt := by rw [e_3323]; rfl
                    rw [fe_3345] at nv_3317
                    have fe_3346 : fld (f_3311 a_0) 20 = (v_3340 : Int32).toInt := by rw [e_3323]; rfl
                    rw [fe_3346] at nv_3318
                    have h_3347 : fld (f_3311 a_0) 8 = (v_3329 : Int32).toInt := by rw [e_3323]; rfl
                    rw [h_3347] at hm_3322
                    exfalso; omega
                  | succ n_3320 ih_3321 =>
                    intro f_3311 hW_3312 hF_3313 nv_3315 nv_3316 nv_3317 nv_3318 hm_3322
                    have hf_3314 := hF_3313.at hf_3042 rfl
                    obtain ⟨v_3324, v_3325, v_3327, v_3329, v_3331, v_3333, v_3335, v_3336, v_3337, v_3338, v_3340, e_3323, b_3326, b_3328, b_3330, b_3332, b_3334, b_3339, b_3341⟩ := hW_3312.at m_1 t_2
                    have fe_3342 : fld (f_3311 a_0) 9 = (v_3331 : Int32).toInt := by rw [e_3323]; rfl
                    rw [fe_3342] at nv_3315
                    have fe_3343 : fld (f_3311 a_0) 8 = (v_3329 : Int32).toInt := by rw [e_3323]; rfl
                    have fe_3344 : fld (f_3311 a_0) 9 = (v_3331 : Int32).toInt := by rw [e_3323]; rfl
                    rw [fe_3343, fe_3344] at nv_3316
                    have fe_3345 : fld (f_3311 a_0) 12 = (v_3336 : Int32).toInt := by rw [e_3323]; rfl
                    rw [fe_3345] at nv_3317
                    have fe_3346 : fld (f_3311 a_0) 20 = (v_3340 : Int32).toInt := by rw [e_3323]; rfl
                    rw [fe_3346] at nv_3318
                    have h_3347 : fld (f_3311 a_0) 8 = (v_3329 : Int32).toInt := by rw [e_3323]; rfl
                    rw [h_3347] at hm_3322
                    refine v_aload_n hC dX12_advance_144 rfl ?_
                    refine v_aload_n hC dX12_advance_145 rfl ?_
                    refine v_get hC fl_X12_108 m_1 e_3323 rfl dX12_advance_146 ?_
                    refine v_vi hC (rest := []) m_1 e_3323 rfl mi_X12_see ms_X12_see (p_X12_see hW_3312 k_0 (by first | omega | (simp only [Int32.lt_iff_toInt_lt, Int32.le_iff_toInt_le, Int32.reduceToInt, ← Int32.toInt_inj, true_and, and_true, or_true, true_or, false_or, or_false, false_and, and_false, not_true_eq_false, not_false_eq_true] <;> omega))) mx_X12_see ml_X12_114 (by decide) rfl (cells1 := 0) (slots1 := 0) (by decide) (by decide) (Nat.le_of_ble_eq_true rfl) (Nat.le_of_ble_eq_true rfl) rfl (Nat.le_of_ble_eq_true rfl) dX12_advance_149 (fun r_3348 L_3349 f_3350 h_3351 => ?_)
                    obtain ⟨rfl, rfl, rfl⟩ := h_3351
                    have sb_3354 := sv_b (f_3311 a_0) (f_3311 (q 4)) v_3329
                    have fe_3355 : fld (f_3311 a_0) 7 = (v_3327 : Int32).toInt := by rw [e_3323]; rfl
                    rw [fe_3355] at sb_3354
                    obtain ⟨v_3356, h_3357⟩ : ∃ v9 : Int64, (sv (f_3311 a_0) (f_3311 (q 4)) v_3329).toInt64 = v9 := ⟨_, rfl⟩
                    refine v_i2l hC dX12_advance_152 h_3357 ?_
                    have h_3358 : v_3356.toInt = (sv (f_3311 a_0) (f_3311 (q 4)) v_3329).toInt := by rw [← h_3357]; exact Int32.toInt_toInt64 _
                    refine v_ldc2 hC kl_X12_127 dX12_advance_153 ?_
                    refine v_ldc2 hC kl_X12_129 dX12_advance_156 ?_
                    refine v_si hC (rest := []) mt_X12_in (p_X12_in hW_3312) mx_X12_in ml_X12_79 (by decide) rfl (cells1 := 0) (slots1 := 0) (by decide) (by decide) (Nat.le_of_ble_eq_true rfl) (Nat.le_of_ble_eq_true rfl) rfl (Nat.le_of_ble_eq_true rfl) dX12_advance_159 (fun r_3359 L_3360 f_3361 h_3362 => ?_)
                    obtain ⟨rfl, rfl, b_3363, x_3364⟩ := h_3362
                    try simp only [Int32.reduceToInt, Int64.reduceToInt] at x_3364
                    refine v_if_eq hC dX12_advance_162 (tgt := 207) (by decide) (fun h_3367 => ?_) (fun h_3367 => ?_)
                    · simp only [Int32.lt_iff_toInt_lt, Int32.le_iff_toInt_le, Int32.reduceToInt, ← Int32.toInt_inj] at h_3367
                      refine v_aload_n hC dX12_advance_207 rfl ?_
                      refine v_iconst hC dX12_advance_208 (v := 2) (by decide) ?_
                      refine v_put hC fl_X12_120 m_1 e_3323 rfl rfl (Nat.le_of_ble_eq_true rfl) (fs' := [.int v_3324, .ref (q 1), .ref (q 2), .ref (q 3), .ref (q 4), .int v_3325, .ref (q 6), .int v_3327, .int v_3329, .int v_3331, .int 2, .int v_3335, .int v_3336, .int v_3337, .ref (q 14), .ref (q 15), .ref (q 16), .int v_3338, .ref (q 18), .ref (q 19), .int v_3340, .ref (q 21), .ref (q 22), .ref (q 23), .ref (q 24), .ref (q 25), .ref (q 26), .ref (q 27), .ref (q 28)]) rfl dX12_advance_209 (fun f_3368 hf_3369 hk_3370 => ?_)
                      have hW_3371 := hW_3312.up hf_3369 hk_3370 t_2 ⟨v_3324, v_3325, v_3327, v_3329, v_3331, 2, v_3335, v_3336, v_3337, v_3338, v_3340, rfl, (by first | omega | (simp only [Int32.lt_iff_toInt_lt, Int32.le_iff_toInt_le, Int32.reduceToInt, ← Int32.toInt_inj, true_and, and_true, or_true, true_or, false_or, or_false, false_and, and_false, not_true_eq_false, not_false_eq_true] <;> omega)), (by first | omega | (simp only [Int32.lt_iff_toInt_lt, Int32.le_iff_toInt_le, Int32.reduceToInt, ← Int32.toInt_inj, true_and, and_true, or_true, true_or, false_or, or_false, false_and, and_false, not_true_eq_false, not_false_eq_true] <;> omega)), (by first | omega | (simp only [Int32.lt_iff_toInt_lt, Int32.le_iff_toInt_le, Int32.reduceToInt, ← Int32.toInt_inj, true_and, and_true, or_true, true_or, false_or, or_false, false_and, and_false, not_true_eq_false, not_false_eq_true] <;> omega)), (by first | omega | (simp only [Int32.lt_iff_toInt_lt, Int32.le_iff_toInt_le, Int32.reduceToInt, ← Int32.toInt_inj, true_and, and_true, or_true, true_or, false_or, or_false, false_and, and_false, not_true_eq_false, not_false_eq_true] <;> omega)), (by decide), (by first | omega | (simp only [Int32.lt_iff_toInt_lt, Int32.le_iff_toInt_le, Int32.reduceToInt, ← Int32.toInt_inj, true_and, and_true, or_true, true_or, false_or, or_false, false_and, and_false, not_true_eq_false, not_false_eq_true] <;> omega)), (by first | omega | (simp only [Int32.lt_iff_toInt_lt, Int32.le_iff_toInt_le, Int32.reduceToInt, ← Int32.toInt_inj, true_and, and_true, or_true, true_or, false_or, or_false, false_and, and_false, not_true_eq_false, not_false_eq_true] <;> omega))⟩
                      have hf_3372 := (hk_3370 (q 4) (ne_kd hf_3314 e_3323 rfl)).trans hf_3314
                      have fr_3373 := FR.w hk_3370 e_3323 (k := 12) rfl
                      refine v_goto hC dX12_advance_212 (tgt := 240) (by decide) ?_
                      have fe_3374 : fld (f_3368 a_0) 8 = (v_3329 : Int32).toInt := by rw [hf_3369]; rfl
                      have fe_3375 : fld (f_3368 a_0) 9 = (v_3331 : Int32).toInt := by rw [hf_3369]; rfl
                      have fe_3376 : fld (f_3368 a_0) 8 = (v_3329 : Int32).toInt := by rw [hf_3369]; rfl
                      have fe_3377 : fld (f_3368 a_0) 9 = (v_3331 : Int32).toInt := by rw [hf_3369]; rfl
                      have fe_3378 : fld (f_3368 a_0) 10 = (2 : Int32).toInt := by rw [hf_3369]; rfl
                      simp only [Int32.reduceToInt] at fe_3378
                      have fe_3379 : fld (f_3368 a_0) 12 = (v_3336 : Int32).toInt := by rw [hf_3369]; rfl
                      have fe_3380 : fld (f_3368 a_0) 20 = (v_3340 : Int32).toInt := by rw [hf_3369]; rfl
                      exact hR _ _ _ _ _ _ dX12_advance_240 (Nat.le_of_ble_eq_true rfl) (Nat.le_of_ble_eq_true rfl) ⟨rfl, hW_3371, (((((((hF_2811.tr fr_2900).tr fr_2990).tr fr_3034).tr fr_3043).tr hF_3313).tr fr_3373).mono rfl), (by simp only [fe_3374, fe_3375, mz_40, true_and, and_true, or_true, true_or, false_or, or_false, false_and, and_false, not_true_eq_false, not_false_eq_true] <;> first | omega | (simp only [Int32.lt_iff_toInt_lt, Int32.le_iff_toInt_le, Int32.reduceToInt, ← Int32.toInt_inj, true_and, and_true, or_true, true_or, false_or, or_false, false_and, and_false, not_true_eq_false, not_false_eq_true] <;> omega)), (by simp only [fe_3376, fe_3377, fe_3378, true_and, and_true, or_true, true_or, false_or, or_false, false_and, and_false, not_true_eq_false, not_false_eq_true] <;> first | omega | (simp only [Int32.lt_iff_toInt_lt, Int32.le_iff_toInt_le, Int32.reduceToInt, ← Int32.toInt_inj, true_and, and_true, or_true, true_or, false_or, or_false, false_and, and_false, not_true_eq_false, not_false_eq_true] <;> omega)), (by simp only [fe_3379, mz_41, true_and, and_true, or_true, true_or, false_or, or_false, false_and, and_false, not_true_eq_false, not_false_eq_true] <;> first | omega | (simp only [Int32.lt_iff_toInt_lt, Int32.le_iff_toInt_le, Int32.reduceToInt, ← Int32.toInt_inj, true_and, and_true, or_true, true_or, false_or, or_false, false_and, and_false, not_true_eq_false, not_false_eq_true] <;> omega)), (by simp only [fe_3380, mz_42, true_and, and_true, or_true, true_or, false_or, or_false, false_and, and_false, not_true_eq_false, not_false_eq_true] <;> first | omega | (simp only [Int32.lt_iff_toInt_lt, Int32.le_iff_toInt_le, Int32.reduceToInt, ← Int32.toInt_inj, true_and, and_true, or_true, true_or, false_or, or_false, false_and, and_false, not_true_eq_false, not_false_eq_true] <;> omega))⟩
                    · simp only [Int32.lt_iff_toInt_lt, Int32.le_iff_toInt_le, Int32.reduceToInt, ← Int32.toInt_inj] at h_3367
                      refine v_aload_n hC dX12_advance_165 rfl ?_
                      refine v_sipush hC dX12_advance_166 (v := 9999) (by decide) ?_
                      refine v_bipush hC dX12_advance_169 (v := 10) (by decide) ?_
                      refine v_aload_n hC dX12_advance_171 rfl ?_
                      refine v_get hC fl_X12_131 m_1 e_3323 rfl dX12_advance_172 ?_
                      obtain ⟨v_3381, h_3382⟩ : ∃ v9 : Int32, (10 : Int32) * v_3335 = v9 := ⟨_, rfl⟩
                      refine v_imul hC dX12_advance_175 h_3382 ?_
                      refine v_aload_n hC dX12_advance_176 rfl ?_
                      refine v_aload_n hC dX12_advance_177 rfl ?_
                      refine v_get hC fl_X12_108 m_1 e_3323 rfl dX12_advance_178 ?_
                      refine v_vi hC (rest := [.int v_3381, .int 9999, .ref a_0]) m_1 e_3323 rfl mi_X12_see ms_X12_see (p_X12_see hW_3312 k_0 (by first | omega | (simp only [Int32.lt_iff_toInt_lt, Int32.le_iff_toInt_le, Int32.reduceToInt, ← Int32.toInt_inj, true_and, and_true, or_true, true_or, false_or, or_false, false_and, and_false, not_true_eq_false, not_false_eq_true] <;> omega))) mx_X12_see ml_X12_114 (by decide) rfl (cells1 := 0) (slots1 := 0) (by decide) (by decide) (Nat.le_of_ble_eq_true rfl) (Nat.le_of_ble_eq_true rfl) rfl (Nat.le_of_ble_eq_true rfl) dX12_advance_181 (fun r_3384 L_3385 f_3386 h_3387 => ?_)
                      obtain ⟨rfl, rfl, rfl⟩ := h_3387
                      have sb_3390 := sv_b (f_3311 a_0) (f_3311 (q 4)) v_3329
                      have fe_3391 : fld (f_3311 a_0) 7 = (v_3327 : Int32).toInt := by rw [e_3323]; rfl
                      rw [fe_3391] at sb_3390
                      obtain ⟨v_3392, h_3393⟩ : ∃ v9 : Int32, v_3381 + (sv (f_3311 a_0) (f_3311 (q 4)) v_3329) = v9 := ⟨_, rfl⟩
                      refine v_iadd hC dX12_advance_184 h_3393 ?_
                      refine v_bipush hC dX12_advance_185 (v := 48) (by decide) ?_
                      obtain ⟨v_3395, h_3396⟩ : ∃ v9 : Int32, v_3392 - 48 = v9 := ⟨_, rfl⟩
                      refine v_isub hC dX12_advance_187 h_3396 ?_
                      obtain ⟨v_3398, h_3399⟩ : ∃ v9 : Int32, (if v_3395 < (9999 : Int32) then v_3395 else (9999 : Int32)) = v9 := ⟨_, rfl⟩
                      refine v_mmin hC mm_X12_134 mm_smin mm_i mm_cmin (by decide) (Nat.le_of_ble_eq_true rfl) (Nat.le_of_ble_eq_true rfl) (Nat.le_of_ble_eq_true rfl) h_3399 dX12_advance_188 ?_
                      have b_3400 := min_v h_3399
                      try simp only [Int32.reduceToInt] at b_3400
                      refine v_put hC fl_X12_131 m_1 e_3323 rfl rfl (Nat.le_of_ble_eq_true rfl) (fs' := [.int v_3324, .ref (q 1), .ref (q 2), .ref (q 3), .ref (q 4), .int v_3325, .ref (q 6), .int v_3327, .int v_3329, .int v_3331, .int v_3333, .int v_3398, .int v_3336, .int v_3337, .ref (q 14), .ref (q 15), .ref (q 16), .int v_3338, .ref (q 18), .ref (q 19), .int v_3340, .ref (q 21), .ref (q 22), .ref (q 23), .ref (q 24), .ref (q 25), .ref (q 26), .ref (q 27), .ref (q 28)]) rfl dX12_advance_191 (fun f_3401 hf_3402 hk_3403 => ?_)
                      have hW_3404 := hW_3312.up hf_3402 hk_3403 t_2 ⟨v_3324, v_3325, v_3327, v_3329, v_3331, v_3333, v_3398, v_3336, v_3337, v_3338, v_3340, rfl, (by first | omega | (simp only [Int32.lt_iff_toInt_lt, Int32.le_iff_toInt_le, Int32.reduceToInt, ← Int32.toInt_inj, true_and, and_true, or_true, true_or, false_or, or_false, false_and, and_false, not_true_eq_false, not_false_eq_true] <;> omega)), (by first | omega | (simp only [Int32.lt_iff_toInt_lt, Int32.le_iff_toInt_le, Int32.reduceToInt, ← Int32.toInt_inj, true_and, and_true, or_true, true_or, false_or, or_false, false_and, and_false, not_true_eq_false, not_false_eq_true] <;> omega)), (by first | omega | (simp only [Int32.lt_iff_toInt_lt, Int32.le_iff_toInt_le, Int32.reduceToInt, ← Int32.toInt_inj, true_and, and_true, or_true, true_or, false_or, or_false, false_and, and_false, not_true_eq_false, not_false_eq_true] <;> omega)), (by first | omega | (simp only [Int32.lt_iff_toInt_lt, Int32.le_iff_toInt_le, Int32.reduceToInt, ← Int32.toInt_inj, true_and, and_true, or_true, true_or, false_or, or_false, false_and, and_false, not_true_eq_false, not_false_eq_true] <;> omega)), (by first | omega | (simp only [Int32.lt_iff_toInt_lt, Int32.le_iff_toInt_le, Int32.reduceToInt, ← Int32.toInt_inj, true_and, and_true, or_true, true_or, false_or, or_false, false_and, and_false, not_true_eq_false, not_false_eq_true] <;> omega)), (by first | omega | (simp only [Int32.lt_iff_toInt_lt, Int32.le_iff_toInt_le, Int32.reduceToInt, ← Int32.toInt_inj, true_and, and_true, or_true, true_or, false_or, or_false, false_and, and_false, not_true_eq_false, not_false_eq_true] <;> omega)), (by first | omega | (simp only [Int32.lt_iff_toInt_lt, Int32.le_iff_toInt_le, Int32.reduceToInt, ← Int32.toInt_inj, true_and, and_true, or_true, true_or, false_or, or_false, false_and, and_false, not_true_eq_false, not_false_eq_true] <;> omega))⟩
                      have hf_3405 := (hk_3403 (q 4) (ne_kd hf_3314 e_3323 rfl)).trans hf_3314
                      have fr_3406 := FR.w hk_3403 e_3323 (k := 12) rfl
                      refine v_aload_n hC dX12_advance_194 rfl ?_
                      refine v_dup hC dX12_advance_195 rfl ?_
                      refine v_get hC fl_X12_108 m_1 hf_3402 rfl dX12_advance_196 ?_
                      refine v_iconst hC dX12_advance_199 (v := 1) (by decide) ?_
                      obtain ⟨v_3407, h_3408⟩ : ∃ v9 : Int32, v_3329 + 1 = v9 := ⟨_, rfl⟩
                      refine v_iadd hC dX12_advance_200 h_3408 ?_
                      have h_3409 := add_v h_3408 (by first | omega | (simp only [Int32.lt_iff_toInt_lt, Int32.le_iff_toInt_le, Int32.reduceToInt, ← Int32.toInt_inj, true_and, and_true, or_true, true_or, false_or, or_false, false_and, and_false, not_true_eq_false, not_false_eq_true] <;> omega)) (by first | omega | (simp only [Int32.lt_iff_toInt_lt, Int32.le_iff_toInt_le, Int32.reduceToInt, ← Int32.toInt_inj, true_and, and_true, or_true, true_or, false_or, or_false, false_and, and_false, not_true_eq_false, not_false_eq_true] <;> omega))
                      try simp only [Int32.reduceToInt] at h_3409
                      refine v_put hC fl_X12_108 m_1 hf_3402 rfl rfl (Nat.le_of_ble_eq_true rfl) (fs' := [.int v_3324, .ref (q 1), .ref (q 2), .ref (q 3), .ref (q 4), .int v_3325, .ref (q 6), .int v_3327, .int v_3407, .int v_3331, .int v_3333, .int v_3398, .int v_3336, .int v_3337, .ref (q 14), .ref (q 15), .ref (q 16), .int v_3338, .ref (q 18), .ref (q 19), .int v_3340, .ref (q 21), .ref (q 22), .ref (q 23), .ref (q 24), .ref (q 25), .ref (q 26), .ref (q 27), .ref (q 28)]) rfl dX12_advance_201 (fun f_3410 hf_3411 hk_3412 => ?_)
                      have hW_3413 := hW_3404.up hf_3411 hk_3412 t_2 ⟨v_3324, v_3325, v_3327, v_3407, v_3331, v_3333, v_3398, v_3336, v_3337, v_3338, v_3340, rfl, (by first | omega | (simp only [Int32.lt_iff_toInt_lt, Int32.le_iff_toInt_le, Int32.reduceToInt, ← Int32.toInt_inj, true_and, and_true, or_true, true_or, false_or, or_false, false_and, and_false, not_true_eq_false, not_false_eq_true] <;> omega)), (by first | omega | (simp only [Int32.lt_iff_toInt_lt, Int32.le_iff_toInt_le, Int32.reduceToInt, ← Int32.toInt_inj, true_and, and_true, or_true, true_or, false_or, or_false, false_and, and_false, not_true_eq_false, not_false_eq_true] <;> omega)), (by first | omega | (simp only [Int32.lt_iff_toInt_lt, Int32.le_iff_toInt_le, Int32.reduceToInt, ← Int32.toInt_inj, true_and, and_true, or_true, true_or, false_or, or_false, false_and, and_false, not_true_eq_false, not_false_eq_true] <;> omega)), (by first | omega | (simp only [Int32.lt_iff_toInt_lt, Int32.le_iff_toInt_le, Int32.reduceToInt, ← Int32.toInt_inj, true_and, and_true, or_true, true_or, false_or, or_false, false_and, and_false, not_true_eq_false, not_false_eq_true] <;> omega)), (by first | omega | (simp only [Int32.lt_iff_toInt_lt, Int32.le_iff_toInt_le, Int32.reduceToInt, ← Int32.toInt_inj, true_and, and_true, or_true, true_or, false_or, or_false, false_and, and_false, not_true_eq_false, not_false_eq_true] <;> omega)), (by first | omega | (simp only [Int32.lt_iff_toInt_lt, Int32.le_iff_toInt_le, Int32.reduceToInt, ← Int32.toInt_inj, true_and, and_true, or_true, true_or, false_or, or_false, false_and, and_false, not_true_eq_false, not_false_eq_true] <;> omega)), (by first | omega | (simp only [Int32.lt_iff_toInt_lt, Int32.le_iff_toInt_le, Int32.reduceToInt, ← Int32.toInt_inj, true_and, and_true, or_true, true_or, false_or, or_false, false_and, and_false, not_true_eq_false, not_false_eq_true] <;> omega))⟩
                      have hf_3414 := (hk_3412 (q 4) (ne_kd hf_3405 hf_3402 rfl)).trans hf_3405
                      have fr_3415 := FR.w hk_3412 hf_3402 (k := 12) rfl
                      refine v_goto hC dX12_advance_204 (tgt := 144) (by decide) ?_
                      refine v_pick [0] rfl ?_
                      have fe_3416 : fld (f_3410 a_0) 9 = (v_3331 : Int32).toInt := by rw [hf_3411]; rfl
                      have fe_3417 : fld (f_3410 a_0) 8 = (v_3407 : Int32).toInt := by rw [hf_3411]; rfl
                      have fe_3418 : fld (f_3410 a_0) 9 = (v_3331 : Int32).toInt := by rw [hf_3411]; rfl
                      have fe_3419 : fld (f_3410 a_0) 12 = (v_3336 : Int32).toInt := by rw [hf_3411]; rfl
                      have fe_3420 : fld (f_3410 a_0) 20 = (v_3340 : Int32).toInt := by rw [hf_3411]; rfl
                      have h_3421 : fld (f_3410 a_0) 8 = (v_3407 : Int32).toInt := by rw [hf_3411]; rfl
                      exact ih_3321 f_3410 hW_3413 (((hF_3313.tr fr_3406).tr fr_3415).mono rfl) (by rw [fe_3416] <;> first | omega | (simp only [Int32.lt_iff_toInt_lt, Int32.le_iff_toInt_le, Int32.reduceToInt, ← Int32.toInt_inj, true_and, and_true, or_true, true_or, false_or, or_false, false_and, and_false, not_true_eq_false, not_false_eq_true] <;> omega)) (by rw [fe_3417, fe_3418] <;> first | omega | (simp only [Int32.lt_iff_toInt_lt, Int32.le_iff_toInt_le, Int32.reduceToInt, ← Int32.toInt_inj, true_and, and_true, or_true, true_or, false_or, or_false, false_and, and_false, not_true_eq_false, not_false_eq_true] <;> omega)) (by rw [fe_3419] <;> first | omega | (simp only [Int32.lt_iff_toInt_lt, Int32.le_iff_toInt_le, Int32.reduceToInt, ← Int32.toInt_inj, true_and, and_true, or_true, true_or, false_or, or_false, false_and, and_false, not_true_eq_false, not_false_eq_true] <;> omega)) (by rw [fe_3420] <;> first | omega | (simp only [Int32.lt_iff_toInt_lt, Int32.le_iff_toInt_le, Int32.reduceToInt, ← Int32.toInt_inj, true_and, and_true, or_true, true_or, false_or, or_false, false_and, and_false, not_true_eq_false, not_false_eq_true] <;> omega)) (by rw [h_3421]; omega)
                refine v_pick [1] rfl ?_
                have fe_3422 : fld (f_3038 a_0) 9 = (v_2825 : Int32).toInt := by rw [hf_3039]; rfl
                have fe_3423 : fld (f_3038 a_0) 8 = (v_3035 : Int32).toInt := by rw [hf_3039]; rfl
                have fe_3424 : fld (f_3038 a_0) 9 = (v_2825 : Int32).toInt := by rw [hf_3039]; rfl
                have fe_3425 : fld (f_3038 a_0) 12 = (v_2832 : Int32).toInt := by rw [hf_3039]; rfl
                have fe_3426 : fld (f_3038 a_0) 20 = (v_2836 : Int32).toInt := by rw [hf_3039]; rfl
                have h_3427 : fld (f_3038 a_0) 8 = (v_3035 : Int32).toInt := by rw [hf_3039]; rfl
                exact lp_3319 602 f_3038 hW_3041 FR.rf (by rw [fe_3422] <;> first | omega | (simp only [Int32.lt_iff_toInt_lt, Int32.le_iff_toInt_le, Int32.reduceToInt, ← Int32.toInt_inj, true_and, and_true, or_true, true_or, false_or, or_false, false_and, and_false, not_true_eq_false, not_false_eq_true] <;> omega)) (by rw [fe_3423, fe_3424] <;> first | omega | (simp only [Int32.lt_iff_toInt_lt, Int32.le_iff_toInt_le, Int32.reduceToInt, ← Int32.toInt_inj, true_and, and_true, or_true, true_or, false_or, or_false, false_and, and_false, not_true_eq_false, not_false_eq_true] <;> omega)) (by rw [fe_3425] <;> first | omega | (simp only [Int32.lt_iff_toInt_lt, Int32.le_iff_toInt_le, Int32.reduceToInt, ← Int32.toInt_inj, true_and, and_true, or_true, true_or, false_or, or_false, false_and, and_false, not_true_eq_false, not_false_eq_true] <;> omega)) (by rw [fe_3426] <;> first | omega | (simp only [Int32.lt_iff_toInt_lt, Int32.le_iff_toInt_le, Int32.reduceToInt, ← Int32.toInt_inj, true_and, and_true, or_true, true_or, false_or, or_false, false_and, and_false, not_true_eq_false, not_false_eq_true] <;> omega)) (by rw [h_3427]; omega)
            · simp only [Int32.lt_iff_toInt_lt, Int32.le_iff_toInt_le, Int32.reduceToInt, ← Int32.toInt_inj] at h_2927
              refine v_aload_n hC dX12_advance_83 rfl ?_
              refine v_aload_n hC dX12_advance_84 rfl ?_
              refine v_get hC fl_X12_108 m_1 hf_2897 rfl dX12_advance_85 ?_
              refine v_vi hC (rest := []) m_1 hf_2897 rfl mi_X12_see ms_X12_see (p_X12_see hW_2899 k_0 (by first | omega | (simp only [Int32.lt_iff_toInt_lt, Int32.le_iff_toInt_le, Int32.reduceToInt, ← Int32.toInt_inj, true_and, and_true, or_true, true_or, false_or, or_false, false_and, and_false, not_true_eq_false, not_false_eq_true] <;> omega))) mx_X12_see ml_X12_114 (by decide) rfl (cells1 := 0) (slots1 := 0) (by decide) (by decide) (Nat.le_of_ble_eq_true rfl) (Nat.le_of_ble_eq_true rfl) rfl (Nat.le_of_ble_eq_true rfl) dX12_advance_88 (fun r_3428 L_3429 f_3430 h_3431 => ?_)
              obtain ⟨rfl, rfl, rfl⟩ := h_3431
              have sb_3434 := sv_b (f_2896 a_0) (f_2896 (q 4)) v_2825
              have fe_3435 : fld (f_2896 a_0) 7 = (v_2823 : Int32).toInt := by rw [hf_2897]; rfl
              rw [fe_3435] at sb_3434
              obtain ⟨v_3436, h_3437⟩ : ∃ v9 : Int64, (sv (f_2896 a_0) (f_2896 (q 4)) v_2825).toInt64 = v9 := ⟨_, rfl⟩
              refine v_i2l hC dX12_advance_91 h_3437 ?_
              have h_3438 : v_3436.toInt = (sv (f_2896 a_0) (f_2896 (q 4)) v_2825).toInt := by rw [← h_3437]; exact Int32.toInt_toInt64 _
              refine v_ldc2 hC kl_X12_123 dX12_advance_92 ?_
              refine v_ldc2 hC kl_X12_125 dX12_advance_95 ?_
              refine v_si hC (rest := []) mt_X12_in (p_X12_in hW_2899) mx_X12_in ml_X12_79 (by decide) rfl (cells1 := 0) (slots1 := 0) (by decide) (by decide) (Nat.le_of_ble_eq_true rfl) (Nat.le_of_ble_eq_true rfl) rfl (Nat.le_of_ble_eq_true rfl) dX12_advance_98 (fun r_3439 L_3440 f_3441 h_3442 => ?_)
              obtain ⟨rfl, rfl, b_3443, x_3444⟩ := h_3442
              try simp only [Int32.reduceToInt, Int64.reduceToInt] at x_3444
              refine v_if_eq_f hC dX12_advance_101 (tgt := 117) (by decide) (by first | omega | (simp only [Int32.lt_iff_toInt_lt, Int32.le_iff_toInt_le, Int32.reduceToInt, ← Int32.toInt_inj, true_and, and_true, or_true, true_or, false_or, or_false, false_and, and_false, not_true_eq_false, not_false_eq_true] <;> omega)) ?_
              refine v_aload_n hC dX12_advance_104 rfl ?_
              refine v_dup hC dX12_advance_105 rfl ?_
              refine v_get hC fl_X12_108 m_1 hf_2897 rfl dX12_advance_106 ?_
              refine v_iconst hC dX12_advance_109 (v := 1) (by decide) ?_
              obtain ⟨v_3447, h_3448⟩ : ∃ v9 : Int32, v_2825 + 1 = v9 := ⟨_, rfl⟩
              refine v_iadd hC dX12_advance_110 h_3448 ?_
              have h_3449 := add_v h_3448 (by first | omega | (simp only [Int32.lt_iff_toInt_lt, Int32.le_iff_toInt_le, Int32.reduceToInt, ← Int32.toInt_inj, true_and, and_true, or_true, true_or, false_or, or_false, false_and, and_false, not_true_eq_false, not_false_eq_true] <;> omega)) (by first | omega | (simp only [Int32.lt_iff_toInt_lt, Int32.le_iff_toInt_le, Int32.reduceToInt, ← Int32.toInt_inj, true_and, and_true, or_true, true_or, false_or, or_false, false_and, and_false, not_true_eq_false, not_false_eq_true] <;> omega))
              try simp only [Int32.reduceToInt] at h_3449
              refine v_put hC fl_X12_108 m_1 hf_2897 rfl rfl (Nat.le_of_ble_eq_true rfl) (fs' := [.int v_2820, .ref (q 1), .ref (q 2), .ref (q 3), .ref (q 4), .int v_2821, .ref (q 6), .int v_2823, .int v_3447, .int v_2825, .int v_2829, .int v_2831, .int v_2832, .int v_2833, .ref (q 14), .ref (q 15), .ref (q 16), .int v_2834, .ref (q 18), .ref (q 19), .int v_2836, .ref (q 21), .ref (q 22), .ref (q 23), .ref (q 24), .ref (q 25), .ref (q 26), .ref (q 27), .ref (q 28)]) rfl dX12_advance_111 (fun f_3450 hf_3451 hk_3452 => ?_)
              have hW_3453 := hW_2899.up hf_3451 hk_3452 t_2 ⟨v_2820, v_2821, v_2823, v_3447, v_2825, v_2829, v_2831, v_2832, v_2833, v_2834, v_2836, rfl, (by first | omega | (simp only [Int32.lt_iff_toInt_lt, Int32.le_iff_toInt_le, Int32.reduceToInt, ← Int32.toInt_inj, true_and, and_true, or_true, true_or, false_or, or_false, false_and, and_false, not_true_eq_false, not_false_eq_true] <;> omega)), (by first | omega | (simp only [Int32.lt_iff_toInt_lt, Int32.le_iff_toInt_le, Int32.reduceToInt, ← Int32.toInt_inj, true_and, and_true, or_true, true_or, false_or, or_false, false_and, and_false, not_true_eq_false, not_false_eq_true] <;> omega)), (by first | omega | (simp only [Int32.lt_iff_toInt_lt, Int32.le_iff_toInt_le, Int32.reduceToInt, ← Int32.toInt_inj, true_and, and_true, or_true, true_or, false_or, or_false, false_and, and_false, not_true_eq_false, not_false_eq_true] <;> omega)), (by first | omega | (simp only [Int32.lt_iff_toInt_lt, Int32.le_iff_toInt_le, Int32.reduceToInt, ← Int32.toInt_inj, true_and, and_true, or_true, true_or, false_or, or_false, false_and, and_false, not_true_eq_false, not_false_eq_true] <;> omega)), (by first | omega | (simp only [Int32.lt_iff_toInt_lt, Int32.le_iff_toInt_le, Int32.reduceToInt, ← Int32.toInt_inj, true_and, and_true, or_true, true_or, false_or, or_false, false_and, and_false, not_true_eq_false, not_false_eq_true] <;> omega)), (by first | omega | (simp only [Int32.lt_iff_toInt_lt, Int32.le_iff_toInt_le, Int32.reduceToInt, ← Int32.toInt_inj, true_and, and_true, or_true, true_or, false_or, or_false, false_and, and_false, not_true_eq_false, not_false_eq_true] <;> omega)), (by first | omega | (simp only [Int32.lt_iff_toInt_lt, Int32.le_iff_toInt_le, Int32.reduceToInt, ← Int32.toInt_inj, true_and, and_true, or_true, true_or, false_or, or_false, false_and, and_false, not_true_eq_false, not_false_eq_true] <;> omega))⟩
              have hf_3454 := (hk_3452 (q 4) (ne_kd e_2911 hf_2897 rfl)).trans e_2911
              have fr_3455 := FR.w hk_3452 hf_2897 (k := 12) rfl
              refine v_goto hC dX12_advance_114 (tgt := 83) (by decide) ?_
              have lp_3653 : ∀ (n_3654 : Nat) (f_3645 : Nat → va_E) (hW_3646 : WT T L f_3645) (hF_3647 : FR [12] f_3450 f_3645)  (nv_3649 : v_27.toInt ≤ fld (f_3645 a_0) 9) (nv_3650 : fld (f_3645 a_0) 9 < fld (f_3645 a_0) 8) (nv_3651 : fld (f_3645 a_0) 12 = v_34.toInt) (nv_3652 : fld (f_3645 a_0) 20 = v_38.toInt) (hm_3656 : 600 - fld (f_3645 a_0) 8 < (n_3654 : Int)), V z E 2 0 0 L f_3645 83 [(0, .ref a_0)] [] := by
                intro n_3654
                induction n_3654 with
                | zero =>
                  intro f_3645 hW_3646 hF_3647 nv_3649 nv_3650 nv_3651 nv_3652 hm_3656
                  have hf_3648 := hF_3647.at hf_3454 rfl
                  obtain ⟨v_3658, v_3659, v_3661, v_3663, v_3665, v_3667, v_3669, v_3670, v_3671, v_3672, v_3674, e_3657, b_3660, b_3662, b_3664, b_3666, b_3668, b_3673, b_3675⟩ := hW_3646.at m_1 t_2
                  have fe_3676 : fld (f_3645 a_0) 9 = (v_3665 : Int32).toInt := by rw [e_3657]; rfl
                  rw [fe_3676] at nv_3649
                  have fe_3677 : fld (f_3645 a_0) 8 = (v_3663 : Int32).toInt := by rw [e_3657]; rfl
                  have fe_3678 : fld (f_3645 a_0) 9 = (v_3665 : Int32).toInt := by rw [e_3657]; rfl
                  rw [fe_3677, fe_3678] at nv_3650
                  have fe_3679 : fld (f_3645 a_0) 12 = (v_3670 : Int32).toInt := by rw [e_3657]; rfl
                  rw [fe_3679] at nv_3651
                  have fe_3680 : fld (f_3645 a_0) 20 = (v_3674 : Int32).toInt := by rw [e_3657]; rfl
                  rw [fe_3680] at nv_3652
                  have h_3681 : fld (f_3645 a_0) 8 = (v_3663 : Int32).toInt := by rw [e_3657]; rfl
                  rw [h_3681] at hm_3656
                  exfalso; omega
                | succ n_3654 ih_3655 =>
                  intro f_3645 hW_3646 hF_3647 nv_3649 nv_3650 nv_3651 nv_3652 hm_3656
                  have hf_3648 := hF_3647.at hf_3454 rfl
                  obtain ⟨v_3658, v_3659, v_3661, v_3663, v_3665, v_3667, v_3669, v_3670, v_3671, v_3672, v_3674, e_3657, b_3660, b_3662, b_3664, b_3666, b_3668, b_3673, b_3675⟩ := hW_3646.at m_1 t_2
                  have fe_3676 : fld (f_3645 a_0) 9 = (v_3665 : Int32).toInt := by rw [e_3657]; rfl
                  rw [fe_3676] at nv_3649
                  have fe_3677 : fld (f_3645 a_0) 8 = (v_3663 : Int32).toInt := by rw [e_3657]; rfl
                  have fe_3678 : fld (f_3645 a_0) 9 = (v_3665 : Int32).toInt := by rw [e_3657]; rfl
                  rw [fe_3677, fe_3678] at nv_3650
                  have fe_3679 : fld (f_3645 a_0) 12 = (v_3670 : Int32).toInt := by rw [e_3657]; rfl
                  rw [fe_3679] at nv_3651
                  have fe_3680 : fld (f_3645 a_0) 20 = (v_3674 : Int32).toInt := by rw [e_3657]; rfl
                  rw [fe_3680] at nv_3652
                  have h_3681 : fld (f_3645 a_0) 8 = (v_3663 : Int32).toInt := by rw [e_3657]; rfl
                  rw [h_3681] at hm_3656
                  refine v_aload_n hC dX12_advance_83 rfl ?_
                  refine v_aload_n hC dX12_advance_84 rfl ?_
                  refine v_get hC fl_X12_108 m_1 e_3657 rfl dX12_advance_85 ?_
                  refine v_vi hC (rest := []) m_1 e_3657 rfl mi_X12_see ms_X12_see (p_X12_see hW_3646 k_0 (by first | omega | (simp only [Int32.lt_iff_toInt_lt, Int32.le_iff_toInt_le, Int32.reduceToInt, ← Int32.toInt_inj, true_and, and_true, or_true, true_or, false_or, or_false, false_and, and_false, not_true_eq_false, not_false_eq_true] <;> omega))) mx_X12_see ml_X12_114 (by decide) rfl (cells1 := 0) (slots1 := 0) (by decide) (by decide) (Nat.le_of_ble_eq_true rfl) (Nat.le_of_ble_eq_true rfl) rfl (Nat.le_of_ble_eq_true rfl) dX12_advance_88 (fun r_3682 L_3683 f_3684 h_3685 => ?_)
                  obtain ⟨rfl, rfl, rfl⟩ := h_3685
                  have sb_3688 := sv_b (f_3645 a_0) (f_3645 (q 4)) v_3663
                  have fe_3689 : fld (f_3645 a_0) 7 = (v_3661 : Int32).toInt := by rw [e_3657]; rfl
                  rw [fe_3689] at sb_3688
                  obtain ⟨v_3690, h_3691⟩ : ∃ v9 : Int64, (sv (f_3645 a_0) (f_3645 (q 4)) v_3663).toInt64 = v9 := ⟨_, rfl⟩
                  refine v_i2l hC dX12_advance_91 h_3691 ?_
                  have h_3692 : v_3690.toInt = (sv (f_3645 a_0) (f_3645 (q 4)) v_3663).toInt := by rw [← h_3691]; exact Int32.toInt_toInt64 _
                  refine v_ldc2 hC kl_X12_123 dX12_advance_92 ?_
                  refine v_ldc2 hC kl_X12_125 dX12_advance_95 ?_
                  refine v_si hC (rest := []) mt_X12_in (p_X12_in hW_3646) mx_X12_in ml_X12_79 (by decide) rfl (cells1 := 0) (slots1 := 0) (by decide) (by decide) (Nat.le_of_ble_eq_true rfl) (Nat.le_of_ble_eq_true rfl) rfl (Nat.le_of_ble_eq_true rfl) dX12_advance_98 (fun r_3693 L_3694 f_3695 h_3696 => ?_)
                  obtain ⟨rfl, rfl, b_3697, x_3698⟩ := h_3696
                  try simp only [Int32.reduceToInt, Int64.reduceToInt] at x_3698
                  refine v_if_eq hC dX12_advance_101 (tgt := 117) (by decide) (fun h_3701 => ?_) (fun h_3701 => ?_)
                  · simp only [Int32.lt_iff_toInt_lt, Int32.le_iff_toInt_le, Int32.reduceToInt, ← Int32.toInt_inj] at h_3701
                    refine v_aload_n hC dX12_advance_117 rfl ?_
                    refine v_iconst hC dX12_advance_118 (v := 1) (by decide) ?_
                    refine v_put hC fl_X12_120 m_1 e_3657 rfl rfl (Nat.le_of_ble_eq_true rfl) (fs' := [.int v_3658, .ref (q 1), .ref (q 2), .ref (q 3), .ref (q 4), .int v_3659, .ref (q 6), .int v_3661, .int v_3663, .int v_3665, .int 1, .int v_3669, .int v_3670, .int v_3671, .ref (q 14), .ref (q 15), .ref (q 16), .int v_3672, .ref (q 18), .ref (q 19), .int v_3674, .ref (q 21), .ref (q 22), .ref (q 23), .ref (q 24), .ref (q 25), .ref (q 26), .ref (q 27), .ref (q 28)]) rfl dX12_advance_119 (fun f_3702 hf_3703 hk_3704 => ?_)
                    have hW_3705 := hW_3646.up hf_3703 hk_3704 t_2 ⟨v_3658, v_3659, v_3661, v_3663, v_3665, 1, v_3669, v_3670, v_3671, v_3672, v_3674, rfl, (by first | omega | (simp only [Int32.lt_iff_toInt_lt, Int32.le_iff_toInt_le, Int32.reduceToInt, ← Int32.toInt_inj, true_and, and_true, or_true, true_or, false_or, or_false, false_and, and_false, not_true_eq_false, not_false_eq_true] <;> omega)), (by first | omega | (simp only [Int32.lt_iff_toInt_lt, Int32.le_iff_toInt_le, Int32.reduceToInt, ← Int32.toInt_inj, true_and, and_true, or_true, true_or, false_or, or_false, false_and, and_false, not_true_eq_false, not_false_eq_true] <;> omega)), (by first | omega | (simp only [Int32.lt_iff_toInt_lt, Int32.le_iff_toInt_le, Int32.reduceToInt, ← Int32.toInt_inj, true_and, and_true, or_true, true_or, false_or, or_false, false_and, and_false, not_true_eq_false, not_false_eq_true] <;> omega)), (by first | omega | (simp only [Int32.lt_iff_toInt_lt, Int32.le_iff_toInt_le, Int32.reduceToInt, ← Int32.toInt_inj, true_and, and_true, or_true, true_or, false_or, or_false, false_and, and_false, not_true_eq_false, not_false_eq_true] <;> omega)), (by decide), (by first | omega | (simp only [Int32.lt_iff_toInt_lt, Int32.le_iff_toInt_le, Int32.reduceToInt, ← Int32.toInt_inj, true_and, and_true, or_true, true_or, false_or, or_false, false_and, and_false, not_true_eq_false, not_false_eq_true] <;> omega)), (by first | omega | (simp only [Int32.lt_iff_toInt_lt, Int32.le_iff_toInt_le, Int32.reduceToInt, ← Int32.toInt_inj, true_and, and_true, or_true, true_or, false_or, or_false, false_and, and_false, not_true_eq_false, not_false_eq_true] <;> omega))⟩
                    have hf_3706 := (hk_3704 (q 4) (ne_kd hf_3648 e_3657 rfl)).trans hf_3648
                    have fr_3707 := FR.w hk_3704 e_3657 (k := 12) rfl
                    refine v_goto hC dX12_advance_122 (tgt := 240) (by decide) ?_
                    have fe_3708 : fld (f_3702 a_0) 8 = (v_3663 : Int32).toInt := by rw [hf_3703]; rfl
                    have fe_3709 : fld (f_3702 a_0) 9 = (v_3665 : Int32).toInt := by rw [hf_3703]; rfl
                    have fe_3710 : fld (f_3702 a_0) 8 = (v_3663 : Int32).toInt := by rw [hf_3703]; rfl
                    have fe_3711 : fld (f_3702 a_0) 9 = (v_3665 : Int32).toInt := by rw [hf_3703]; rfl
                    have fe_3712 : fld (f_3702 a_0) 10 = (1 : Int32).toInt := by rw [hf_3703]; rfl
                    simp only [Int32.reduceToInt] at fe_3712
                    have fe_3713 : fld (f_3702 a_0) 12 = (v_3670 : Int32).toInt := by rw [hf_3703]; rfl
                    have fe_3714 : fld (f_3702 a_0) 20 = (v_3674 : Int32).toInt := by rw [hf_3703]; rfl
                    exact hR _ _ _ _ _ _ dX12_advance_240 (Nat.le_of_ble_eq_true rfl) (Nat.le_of_ble_eq_true rfl) ⟨rfl, hW_3705, (((((hF_2811.tr fr_2900).tr fr_3455).tr hF_3647).tr fr_3707).mono rfl), (by simp only [fe_3708, fe_3709, mz_40, true_and, and_true, or_true, true_or, false_or, or_false, false_and, and_false, not_true_eq_false, not_false_eq_true] <;> first | omega | (simp only [Int32.lt_iff_toInt_lt, Int32.le_iff_toInt_le, Int32.reduceToInt, ← Int32.toInt_inj, true_and, and_true, or_true, true_or, false_or, or_false, false_and, and_false, not_true_eq_false, not_false_eq_true] <;> omega)), (by simp only [fe_3710, fe_3711, fe_3712, true_and, and_true, or_true, true_or, false_or, or_false, false_and, and_false, not_true_eq_false, not_false_eq_true] <;> first | omega | (simp only [Int32.lt_iff_toInt_lt, Int32.le_iff_toInt_le, Int32.reduceToInt, ← Int32.toInt_inj, true_and, and_true, or_true, true_or, false_or, or_false, false_and, and_false, not_true_eq_false, not_false_eq_true] <;> omega)), (by simp only [fe_3713, mz_41, true_and, and_true, or_true, true_or, false_or, or_false, false_and, and_false, not_true_eq_false, not_false_eq_true] <;> first | omega | (simp only [Int32.lt_iff_toInt_lt, Int32.le_iff_toInt_le, Int32.reduceToInt, ← Int32.toInt_inj, true_and, and_true, or_true, true_or, false_or, or_false, false_and, and_false, not_true_eq_false, not_false_eq_true] <;> omega)), (by simp only [fe_3714, mz_42, true_and, and_true, or_true, true_or, false_or, or_false, false_and, and_false, not_true_eq_false, not_false_eq_true] <;> first | omega | (simp only [Int32.lt_iff_toInt_lt, Int32.le_iff_toInt_le, Int32.reduceToInt, ← Int32.toInt_inj, true_and, and_true, or_true, true_or, false_or, or_false, false_and, and_false, not_true_eq_false, not_false_eq_true] <;> omega))⟩
                  · simp only [Int32.lt_iff_toInt_lt, Int32.le_iff_toInt_le, Int32.reduceToInt, ← Int32.toInt_inj] at h_3701
                    refine v_aload_n hC dX12_advance_104 rfl ?_
                    refine v_dup hC dX12_advance_105 rfl ?_
                    refine v_get hC fl_X12_108 m_1 e_3657 rfl dX12_advance_106 ?_
                    refine v_iconst hC dX12_advance_109 (v := 1) (by decide) ?_
                    obtain ⟨v_3715, h_3716⟩ : ∃ v9 : Int32, v_3663 + 1 = v9 := ⟨_, rfl⟩
                    refine v_iadd hC dX12_advance_110 h_3716 ?_
                    have h_3717 := add_v h_3716 (by first | omega | (simp only [Int32.lt_iff_toInt_lt, Int32.le_iff_toInt_le, Int32.reduceToInt, ← Int32.toInt_inj, true_and, and_true, or_true, true_or, false_or, or_false, false_and, and_false, not_true_eq_false, not_false_eq_true] <;> omega)) (by first | omega | (simp only [Int32.lt_iff_toInt_lt, Int32.le_iff_toInt_le, Int32.reduceToInt, ← Int32.toInt_inj, true_and, and_true, or_true, true_or, false_or, or_false, false_and, and_false, not_true_eq_false, not_false_eq_true] <;> omega))
                    try simp only [Int32.reduceToInt] at h_3717
                    refine v_put hC fl_X12_108 m_1 e_3657 rfl rfl (Nat.le_of_ble_eq_true rfl) (fs' := [.int v_3658, .ref (q 1), .ref (q 2), .ref (q 3), .ref (q 4), .int v_3659, .ref (q 6), .int v_3661, .int v_3715, .int v_3665, .int v_3667, .int v_3669, .int v_3670, .int v_3671, .ref (q 14), .ref (q 15), .ref (q 16), .int v_3672, .ref (q 18), .ref (q 19), .int v_3674, .ref (q 21), .ref (q 22), .ref (q 23), .ref (q 24), .ref (q 25), .ref (q 26), .ref (q 27), .ref (q 28)]) rfl dX12_advance_111 (fun f_3718 hf_3719 hk_3720 => ?_)
                    have hW_3721 := hW_3646.up hf_3719 hk_3720 t_2 ⟨v_3658, v_3659, v_3661, v_3715, v_3665, v_3667, v_3669, v_3670, v_3671, v_3672, v_3674, rfl, (by first | omega | (simp only [Int32.lt_iff_toInt_lt, Int32.le_iff_toInt_le, Int32.reduceToInt, ← Int32.toInt_inj, true_and, and_true, or_true, true_or, false_or, or_false, false_and, and_false, not_true_eq_false, not_false_eq_true] <;> omega)), (by first | omega | (simp only [Int32.lt_iff_toInt_lt, Int32.le_iff_toInt_le, Int32.reduceToInt, ← Int32.toInt_inj, true_and, and_true, or_true, true_or, false_or, or_false, false_and, and_false, not_true_eq_false, not_false_eq_true] <;> omega)), (by first | omega | (simp only [Int32.lt_iff_toInt_lt, Int32.le_iff_toInt_le, Int32.reduceToInt, ← Int32.toInt_inj, true_and, and_true, or_true, true_or, false_or, or_false, false_and, and_false, not_true_eq_false, not_false_eq_true] <;> omega)), (by first | omega | (simp only [Int32.lt_iff_toInt_lt, Int32.le_iff_toInt_le, Int32.reduceToInt, ← Int32.toInt_inj, true_and, and_true, or_true, true_or, false_or, or_false, false_and, and_false, not_true_eq_false, not_false_eq_true] <;> omega)), (by first | omega | (simp only [Int32.lt_iff_toInt_lt, Int32.le_iff_toInt_le, Int32.reduceToInt, ← Int32.toInt_inj, true_and, and_true, or_true, true_or, false_or, or_false, false_and, and_false, not_true_eq_false, not_false_eq_true] <;> omega)), (by first | omega | (simp only [Int32.lt_iff_toInt_lt, Int32.le_iff_toInt_le, Int32.reduceToInt, ← Int32.toInt_inj, true_and, and_true, or_true, true_or, false_or, or_false, false_and, and_false, not_true_eq_false, not_false_eq_true] <;> omega)), (by first | omega | (simp only [Int32.lt_iff_toInt_lt, Int32.le_iff_toInt_le, Int32.reduceToInt, ← Int32.toInt_inj, true_and, and_true, or_true, true_or, false_or, or_false, false_and, and_false, not_true_eq_false, not_false_eq_true] <;> omega))⟩
                    have hf_3722 := (hk_3720 (q 4) (ne_kd hf_3648 e_3657 rfl)).trans hf_3648
                    have fr_3723 := FR.w hk_3720 e_3657 (k := 12) rfl
                    refine v_goto hC dX12_advance_114 (tgt := 83) (by decide) ?_
                    refine v_pick [0] rfl ?_
                    have fe_3724 : fld (f_3718 a_0) 9 = (v_3665 : Int32).toInt := by rw [hf_3719]; rfl
                    have fe_3725 : fld (f_3718 a_0) 8 = (v_3715 : Int32).toInt := by rw [hf_3719]; rfl
                    have fe_3726 : fld (f_3718 a_0) 9 = (v_3665 : Int32).toInt := by rw [hf_3719]; rfl
                    have fe_3727 : fld (f_3718 a_0) 12 = (v_3670 : Int32).toInt := by rw [hf_3719]; rfl
                    have fe_3728 : fld (f_3718 a_0) 20 = (v_3674 : Int32).toInt := by rw [hf_3719]; rfl
                    have h_3729 : fld (f_3718 a_0) 8 = (v_3715 : Int32).toInt := by rw [hf_3719]; rfl
                    exact ih_3655 f_3718 hW_3721 ((hF_3647.tr fr_3723).mono rfl) (by rw [fe_3724] <;> first | omega | (simp only [Int32.lt_iff_toInt_lt, Int32.le_iff_toInt_le, Int32.reduceToInt, ← Int32.toInt_inj, true_and, and_true, or_true, true_or, false_or, or_false, false_and, and_false, not_true_eq_false, not_false_eq_true] <;> omega)) (by rw [fe_3725, fe_3726] <;> first | omega | (simp only [Int32.lt_iff_toInt_lt, Int32.le_iff_toInt_le, Int32.reduceToInt, ← Int32.toInt_inj, true_and, and_true, or_true, true_or, false_or, or_false, false_and, and_false, not_true_eq_false, not_false_eq_true] <;> omega)) (by rw [fe_3727] <;> first | omega | (simp only [Int32.lt_iff_toInt_lt, Int32.le_iff_toInt_le, Int32.reduceToInt, ← Int32.toInt_inj, true_and, and_true, or_true, true_or, false_or, or_false, false_and, and_false, not_true_eq_false, not_false_eq_true] <;> omega)) (by rw [fe_3728] <;> first | omega | (simp only [Int32.lt_iff_toInt_lt, Int32.le_iff_toInt_le, Int32.reduceToInt, ← Int32.toInt_inj, true_and, and_true, or_true, true_or, false_or, or_false, false_and, and_false, not_true_eq_false, not_false_eq_true] <;> omega)) (by rw [h_3729]; omega)
              refine v_pick [1] rfl ?_
              have fe_3730 : fld (f_3450 a_0) 9 = (v_2825 : Int32).toInt := by rw [hf_3451]; rfl
              have fe_3731 : fld (f_3450 a_0) 8 = (v_3447 : Int32).toInt := by rw [hf_3451]; rfl
              have fe_3732 : fld (f_3450 a_0) 9 = (v_2825 : Int32).toInt := by rw [hf_3451]; rfl
              have fe_3733 : fld (f_3450 a_0) 12 = (v_2832 : Int32).toInt := by rw [hf_3451]; rfl
              have fe_3734 : fld (f_3450 a_0) 20 = (v_2836 : Int32).toInt := by rw [hf_3451]; rfl
              have h_3735 : fld (f_3450 a_0) 8 = (v_3447 : Int32).toInt := by rw [hf_3451]; rfl
              exact lp_3653 602 f_3450 hW_3453 FR.rf (by rw [fe_3730] <;> first | omega | (simp only [Int32.lt_iff_toInt_lt, Int32.le_iff_toInt_le, Int32.reduceToInt, ← Int32.toInt_inj, true_and, and_true, or_true, true_or, false_or, or_false, false_and, and_false, not_true_eq_false, not_false_eq_true] <;> omega)) (by rw [fe_3731, fe_3732] <;> first | omega | (simp only [Int32.lt_iff_toInt_lt, Int32.le_iff_toInt_le, Int32.reduceToInt, ← Int32.toInt_inj, true_and, and_true, or_true, true_or, false_or, or_false, false_and, and_false, not_true_eq_false, not_false_eq_true] <;> omega)) (by rw [fe_3733] <;> first | omega | (simp only [Int32.lt_iff_toInt_lt, Int32.le_iff_toInt_le, Int32.reduceToInt, ← Int32.toInt_inj, true_and, and_true, or_true, true_or, false_or, or_false, false_and, and_false, not_true_eq_false, not_false_eq_true] <;> omega)) (by rw [fe_3734] <;> first | omega | (simp only [Int32.lt_iff_toInt_lt, Int32.le_iff_toInt_le, Int32.reduceToInt, ← Int32.toInt_inj, true_and, and_true, or_true, true_or, false_or, or_false, false_and, and_false, not_true_eq_false, not_false_eq_true] <;> omega)) (by rw [h_3735]; omega)
          · simp only [Int32.lt_iff_toInt_lt, Int32.le_iff_toInt_le, Int32.reduceToInt, ← Int32.toInt_inj] at h_2915
            refine v_aload_n hC dX12_advance_61 rfl ?_
            refine v_iconst hC dX12_advance_62 (v := 0) (by decide) ?_
            refine v_put hC fl_X12_120 m_1 hf_2897 rfl rfl (Nat.le_of_ble_eq_true rfl) (fs' := [.int v_2820, .ref (q 1), .ref (q 2), .ref (q 3), .ref (q 4), .int v_2821, .ref (q 6), .int v_2823, .int v_2825, .int v_2825, .int 0, .int v_2831, .int v_2832, .int v_2833, .ref (q 14), .ref (q 15), .ref (q 16), .int v_2834, .ref (q 18), .ref (q 19), .int v_2836, .ref (q 21), .ref (q 22), .ref (q 23), .ref (q 24), .ref (q 25), .ref (q 26), .ref (q 27), .ref (q 28)]) rfl dX12_advance_63 (fun f_3736 hf_3737 hk_3738 => ?_)
            have hW_3739 := hW_2899.up hf_3737 hk_3738 t_2 ⟨v_2820, v_2821, v_2823, v_2825, v_2825, 0, v_2831, v_2832, v_2833, v_2834, v_2836, rfl, (by first | omega | (simp only [Int32.lt_iff_toInt_lt, Int32.le_iff_toInt_le, Int32.reduceToInt, ← Int32.toInt_inj, true_and, and_true, or_true, true_or, false_or, or_false, false_and, and_false, not_true_eq_false, not_false_eq_true] <;> omega)), (by first | omega | (simp only [Int32.lt_iff_toInt_lt, Int32.le_iff_toInt_le, Int32.reduceToInt, ← Int32.toInt_inj, true_and, and_true, or_true, true_or, false_or, or_false, false_and, and_false, not_true_eq_false, not_false_eq_true] <;> omega)), (by first | omega | (simp only [Int32.lt_iff_toInt_lt, Int32.le_iff_toInt_le, Int32.reduceToInt, ← Int32.toInt_inj, true_and, and_true, or_true, true_or, false_or, or_false, false_and, and_false, not_true_eq_false, not_false_eq_true] <;> omega)), (by first | omega | (simp only [Int32.lt_iff_toInt_lt, Int32.le_iff_toInt_le, Int32.reduceToInt, ← Int32.toInt_inj, true_and, and_true, or_true, true_or, false_or, or_false, false_and, and_false, not_true_eq_false, not_false_eq_true] <;> omega)), (by decide), (by first | omega | (simp only [Int32.lt_iff_toInt_lt, Int32.le_iff_toInt_le, Int32.reduceToInt, ← Int32.toInt_inj, true_and, and_true, or_true, true_or, false_or, or_false, false_and, and_false, not_true_eq_false, not_false_eq_true] <;> omega)), (by first | omega | (simp only [Int32.lt_iff_toInt_lt, Int32.le_iff_toInt_le, Int32.reduceToInt, ← Int32.toInt_inj, true_and, and_true, or_true, true_or, false_or, or_false, false_and, and_false, not_true_eq_false, not_false_eq_true] <;> omega))⟩
            have hf_3740 := (hk_3738 (q 4) (ne_kd e_2911 hf_2897 rfl)).trans e_2911
            have fr_3741 := FR.w hk_3738 hf_2897 (k := 12) rfl
            refine v_goto hC dX12_advance_66 (tgt := 240) (by decide) ?_
            have fe_3742 : fld (f_3736 a_0) 8 = (v_2825 : Int32).toInt := by rw [hf_3737]; rfl
            have fe_3743 : fld (f_3736 a_0) 9 = (v_2825 : Int32).toInt := by rw [hf_3737]; rfl
            have fe_3744 : fld (f_3736 a_0) 8 = (v_2825 : Int32).toInt := by rw [hf_3737]; rfl
            have fe_3745 : fld (f_3736 a_0) 9 = (v_2825 : Int32).toInt := by rw [hf_3737]; rfl
            have fe_3746 : fld (f_3736 a_0) 10 = (0 : Int32).toInt := by rw [hf_3737]; rfl
            simp only [Int32.reduceToInt] at fe_3746
            have fe_3747 : fld (f_3736 a_0) 12 = (v_2832 : Int32).toInt := by rw [hf_3737]; rfl
            have fe_3748 : fld (f_3736 a_0) 20 = (v_2836 : Int32).toInt := by rw [hf_3737]; rfl
            exact hR _ _ _ _ _ _ dX12_advance_240 (Nat.le_of_ble_eq_true rfl) (Nat.le_of_ble_eq_true rfl) ⟨rfl, hW_3739, (((hF_2811.tr fr_2900).tr fr_3741).mono rfl), (by simp only [fe_3742, fe_3743, mz_40, true_and, and_true, or_true, true_or, false_or, or_false, false_and, and_false, not_true_eq_false, not_false_eq_true] <;> first | omega | (simp only [Int32.lt_iff_toInt_lt, Int32.le_iff_toInt_le, Int32.reduceToInt, ← Int32.toInt_inj, true_and, and_true, or_true, true_or, false_or, or_false, false_and, and_false, not_true_eq_false, not_false_eq_true] <;> omega)), (by simp only [fe_3744, fe_3745, fe_3746, true_and, and_true, or_true, true_or, false_or, or_false, false_and, and_false, not_true_eq_false, not_false_eq_true] <;> first | omega | (simp only [Int32.lt_iff_toInt_lt, Int32.le_iff_toInt_le, Int32.reduceToInt, ← Int32.toInt_inj, true_and, and_true, or_true, true_or, false_or, or_false, false_and, and_false, not_true_eq_false, not_false_eq_true] <;> omega)), (by simp only [fe_3747, mz_41, true_and, and_true, or_true, true_or, false_or, or_false, false_and, and_false, not_true_eq_false, not_false_eq_true] <;> first | omega | (simp only [Int32.lt_iff_toInt_lt, Int32.le_iff_toInt_le, Int32.reduceToInt, ← Int32.toInt_inj, true_and, and_true, or_true, true_or, false_or, or_false, false_and, and_false, not_true_eq_false, not_false_eq_true] <;> omega)), (by simp only [fe_3748, mz_42, true_and, and_true, or_true, true_or, false_or, or_false, false_and, and_false, not_true_eq_false, not_false_eq_true] <;> first | omega | (simp only [Int32.lt_iff_toInt_lt, Int32.le_iff_toInt_le, Int32.reduceToInt, ← Int32.toInt_inj, true_and, and_true, or_true, true_or, false_or, or_false, false_and, and_false, not_true_eq_false, not_false_eq_true] <;> omega))⟩
        · simp only [Int32.lt_iff_toInt_lt, Int32.le_iff_toInt_le, Int32.reduceToInt, ← Int32.toInt_inj] at h_2883
          refine v_aload_n hC dX12_advance_26 rfl ?_
          refine v_dup hC dX12_advance_27 rfl ?_
          refine v_get hC fl_X12_108 m_1 e_2819 rfl dX12_advance_28 ?_
          refine v_iconst hC dX12_advance_31 (v := 1) (by decide) ?_
          obtain ⟨v_3749, h_3750⟩ : ∃ v9 : Int32, v_2825 + 1 = v9 := ⟨_, rfl⟩
          refine v_iadd hC dX12_advance_32 h_3750 ?_
          have h_3751 := add_v h_3750 (by first | omega | (simp only [Int32.lt_iff_toInt_lt, Int32.le_iff_toInt_le, Int32.reduceToInt, ← Int32.toInt_inj, true_and, and_true, or_true, true_or, false_or, or_false, false_and, and_false, not_true_eq_false, not_false_eq_true] <;> omega)) (by first | omega | (simp only [Int32.lt_iff_toInt_lt, Int32.le_iff_toInt_le, Int32.reduceToInt, ← Int32.toInt_inj, true_and, and_true, or_true, true_or, false_or, or_false, false_and, and_false, not_true_eq_false, not_false_eq_true] <;> omega))
          try simp only [Int32.reduceToInt] at h_3751
          refine v_put hC fl_X12_108 m_1 e_2819 rfl rfl (Nat.le_of_ble_eq_true rfl) (fs' := [.int v_2820, .ref (q 1), .ref (q 2), .ref (q 3), .ref (q 4), .int v_2821, .ref (q 6), .int v_2823, .int v_3749, .int v_2827, .int v_2829, .int v_2831, .int v_2832, .int v_2833, .ref (q 14), .ref (q 15), .ref (q 16), .int v_2834, .ref (q 18), .ref (q 19), .int v_2836, .ref (q 21), .ref (q 22), .ref (q 23), .ref (q 24), .ref (q 25), .ref (q 26), .ref (q 27), .ref (q 28)]) rfl dX12_advance_33 (fun f_3752 hf_3753 hk_3754 => ?_)
          have hW_3755 := hW_2810.up hf_3753 hk_3754 t_2 ⟨v_2820, v_2821, v_2823, v_3749, v_2827, v_2829, v_2831, v_2832, v_2833, v_2834, v_2836, rfl, (by first | omega | (simp only [Int32.lt_iff_toInt_lt, Int32.le_iff_toInt_le, Int32.reduceToInt, ← Int32.toInt_inj, true_and, and_true, or_true, true_or, false_or, or_false, false_and, and_false, not_true_eq_false, not_false_eq_true] <;> omega)), (by first | omega | (simp only [Int32.lt_iff_toInt_lt, Int32.le_iff_toInt_le, Int32.reduceToInt, ← Int32.toInt_inj, true_and, and_true, or_true, true_or, false_or, or_false, false_and, and_false, not_true_eq_false, not_false_eq_true] <;> omega)), (by first | omega | (simp only [Int32.lt_iff_toInt_lt, Int32.le_iff_toInt_le, Int32.reduceToInt, ← Int32.toInt_inj, true_and, and_true, or_true, true_or, false_or, or_false, false_and, and_false, not_true_eq_false, not_false_eq_true] <;> omega)), (by first | omega | (simp only [Int32.lt_iff_toInt_lt, Int32.le_iff_toInt_le, Int32.reduceToInt, ← Int32.toInt_inj, true_and, and_true, or_true, true_or, false_or, or_false, false_and, and_false, not_true_eq_false, not_false_eq_true] <;> omega)), (by first | omega | (simp only [Int32.lt_iff_toInt_lt, Int32.le_iff_toInt_le, Int32.reduceToInt, ← Int32.toInt_inj, true_and, and_true, or_true, true_or, false_or, or_false, false_and, and_false, not_true_eq_false, not_false_eq_true] <;> omega)), (by first | omega | (simp only [Int32.lt_iff_toInt_lt, Int32.le_iff_toInt_le, Int32.reduceToInt, ← Int32.toInt_inj, true_and, and_true, or_true, true_or, false_or, or_false, false_and, and_false, not_true_eq_false, not_false_eq_true] <;> omega)), (by first | omega | (simp only [Int32.lt_iff_toInt_lt, Int32.le_iff_toInt_le, Int32.reduceToInt, ← Int32.toInt_inj, true_and, and_true, or_true, true_or, false_or, or_false, false_and, and_false, not_true_eq_false, not_false_eq_true] <;> omega))⟩
          have fr_3756 := FR.w hk_3754 e_2819 (k := 12) rfl
          refine v_goto hC dX12_advance_36 (tgt := 0) (by decide) ?_
          refine v_pick [0] rfl ?_
          have fe_3757 : fld (f_3752 a_0) 8 = (v_3749 : Int32).toInt := by rw [hf_3753]; rfl
          have fe_3758 : fld (f_3752 a_0) 12 = (v_2832 : Int32).toInt := by rw [hf_3753]; rfl
          have fe_3759 : fld (f_3752 a_0) 20 = (v_2836 : Int32).toInt := by rw [hf_3753]; rfl
          have h_3760 : fld (f_3752 a_0) 8 = (v_3749 : Int32).toInt := by rw [hf_3753]; rfl
          exact ih_2817 f_3752 hW_3755 ((hF_2811.tr fr_3756).mono rfl) (by rw [fe_3757] <;> first | omega | (simp only [Int32.lt_iff_toInt_lt, Int32.le_iff_toInt_le, Int32.reduceToInt, ← Int32.toInt_inj, true_and, and_true, or_true, true_or, false_or, or_false, false_and, and_false, not_true_eq_false, not_false_eq_true] <;> omega)) (by rw [fe_3758] <;> first | omega | (simp only [Int32.lt_iff_toInt_lt, Int32.le_iff_toInt_le, Int32.reduceToInt, ← Int32.toInt_inj, true_and, and_true, or_true, true_or, false_or, or_false, false_and, and_false, not_true_eq_false, not_false_eq_true] <;> omega)) (by rw [fe_3759] <;> first | omega | (simp only [Int32.lt_iff_toInt_lt, Int32.le_iff_toInt_le, Int32.reduceToInt, ← Int32.toInt_inj, true_and, and_true, or_true, true_or, false_or, or_false, false_and, and_false, not_true_eq_false, not_false_eq_true] <;> omega)) (by rw [h_3760]; omega)
  refine v_pick [0] rfl ?_
  have fe_3761 : fld (f a_0) 8 = (v_27 : Int32).toInt := by rw [e_21]; rfl
  have fe_3762 : fld (f a_0) 12 = (v_34 : Int32).toInt := by rw [e_21]; rfl
  have fe_3763 : fld (f a_0) 20 = (v_38 : Int32).toInt := by rw [e_21]; rfl
  have h_3764 : fld (f a_0) 8 = (v_27 : Int32).toInt := by rw [e_21]; rfl
  exact lp_2815 602 f hW FR.rf (by rw [fe_3761] <;> first | omega | (simp only [Int32.lt_iff_toInt_lt, Int32.le_iff_toInt_le, Int32.reduceToInt, ← Int32.toInt_inj, true_and, and_true, or_true, true_or, false_or, or_false, false_and, and_false, not_true_eq_false, not_false_eq_true] <;> omega)) (by rw [fe_3762] <;> first | omega | (simp only [Int32.lt_iff_toInt_lt, Int32.le_iff_toInt_le, Int32.reduceToInt, ← Int32.toInt_inj, true_and, and_true, or_true, true_or, false_or, or_false, false_and, and_false, not_true_eq_false, not_false_eq_true] <;> omega)) (by rw [fe_3763] <;> first | omega | (simp only [Int32.lt_iff_toInt_lt, Int32.le_iff_toInt_le, Int32.reduceToInt, ← Int32.toInt_inj, true_and, and_true, or_true, true_or, false_or, or_false, false_and, and_false, not_true_eq_false, not_false_eq_true] <;> omega)) (by rw [h_3764]; omega)
set_option maxRecDepth 100000 in
set_option maxHeartbeats 4000000 in
theorem p_X12_good {l : Launch} {E : Ez} {L : List Nat} {f : Nat → va_E} {T : Nat → va_E → Prop} {a_0 : Nat} {q : Nat → Nat} (hW : WT T L f) (k_0 : isM T L E a_0 q) : CI l yX12_good cX12_good 1 .boolean 0 0 0 E [.ref a_0] L f (fun r L1 f1 => L = L1 ∧ f = f1 ∧ (0 ≤ r.toInt ∧ r.toInt ≤ 1) ∧ ((r.toInt = 1 ∧ fld (f a_0) 12 = 0) ∨ (r.toInt = 0 ∧ ¬ fld (f a_0) 12 = 0))) := by
  refine ci_of (by decide) (Nat.le_of_ble_eq_true rfl) (fun z hz hnm hC hR => ?_)
  have hC : Cx z E cX12_good RX12 1 0 0 0 := hC
  subst hz
  show V z E 1 0 0 L f 0 [(0, .ref a_0)] []
  obtain ⟨m_1, t_2, k_3, k_4, k_5, k_6, k_7, k_8, k_9, k_10, k_11, k_12, k_13, k_14, k_15, k_16, k_17, k_18, k_19, k_20⟩ := id k_0
  obtain ⟨v_22, v_23, v_25, v_27, v_29, v_31, v_33, v_34, v_35, v_36, v_38, e_21, b_24, b_26, b_28, b_30, b_32, b_37, b_39⟩ := hW.at m_1 t_2
  have mz_40 : fld (f a_0) 12 = v_34.toInt := by rw [e_21]; rfl
  refine v_aload_n hC dX12_good_0 rfl ?_
  refine v_get hC fl_X12_111 m_1 e_21 rfl dX12_good_1 ?_
  refine v_if_ne hC dX12_good_4 (tgt := 11) (by decide) (fun h_41 => ?_) (fun h_41 => ?_)
  · simp only [Int32.lt_iff_toInt_lt, Int32.le_iff_toInt_le, Int32.reduceToInt, ← Int32.toInt_inj] at h_41
    refine v_iconst hC dX12_good_11 (v := 0) (by decide) ?_
    exact hR _ _ _ _ _ _ _ dX12_good_12 rfl (Nat.le_of_ble_eq_true rfl) (Nat.le_of_ble_eq_true rfl) ⟨rfl, rfl, (by decide), (by simp only [mz_40, true_and, and_true, or_true, true_or, false_or, or_false, false_and, and_false, not_true_eq_false, not_false_eq_true] <;> first | omega | (simp only [Int32.lt_iff_toInt_lt, Int32.le_iff_toInt_le, Int32.reduceToInt, ← Int32.toInt_inj, true_and, and_true, or_true, true_or, false_or, or_false, false_and, and_false, not_true_eq_false, not_false_eq_true] <;> omega))⟩
  · simp only [Int32.lt_iff_toInt_lt, Int32.le_iff_toInt_le, Int32.reduceToInt, ← Int32.toInt_inj] at h_41
    refine v_iconst hC dX12_good_7 (v := 1) (by decide) ?_
    refine v_goto hC dX12_good_8 (tgt := 12) (by decide) ?_
    exact hR _ _ _ _ _ _ _ dX12_good_12 rfl (Nat.le_of_ble_eq_true rfl) (Nat.le_of_ble_eq_true rfl) ⟨rfl, rfl, (by decide), (by simp only [mz_40, true_and, and_true, or_true, true_or, false_or, or_false, false_and, and_false, not_true_eq_false, not_false_eq_true] <;> first | omega | (simp only [Int32.lt_iff_toInt_lt, Int32.le_iff_toInt_le, Int32.reduceToInt, ← Int32.toInt_inj, true_and, and_true, or_true, true_or, false_or, or_false, false_and, and_false, not_true_eq_false, not_false_eq_true] <;> omega))⟩
set_option maxRecDepth 100000 in
set_option maxHeartbeats 4000000 in
theorem p_X12_errs {l : Launch} {E : Ez} {L : List Nat} {f : Nat → va_E} {T : Nat → va_E → Prop} {a_0 : Nat} {a_1 : Int32} {q : Nat → Nat} (hW : WT T L f) (k_0 : isM T L E a_0 q) (g_1 : (1 ≤ a_1.toInt ∧ a_1.toInt ≤ 3)) : CV l yX12_errs cX12_errs 2 1 0 0 E [.ref a_0, .int a_1] L f (fun L1 f1 => L = L1 ∧ WT T L f1 ∧ FR [12] f f1 ∧ ¬ fld (f1 a_0) 12 = 0 ∧ fld (f1 a_0) 8 = fld (f a_0) 8 ∧ fld (f1 a_0) 9 = fld (f a_0) 9 ∧ fld (f1 a_0) 10 = fld (f a_0) 10 ∧ fld (f1 a_0) 20 = fld (f a_0) 20) := by
  refine cv_of (by decide) (Nat.le_of_ble_eq_true rfl) (fun z hz hnm hC hR => ?_)
  have hC : Cx z E cX12_errs RX12 2 1 0 0 := hC
  subst hz
  show V z E 2 0 0 L f 0 [(0, .ref a_0), (1, .int a_1)] []
  obtain ⟨m_1, t_2, k_3, k_4, k_5, k_6, k_7, k_8, k_9, k_10, k_11, k_12, k_13, k_14, k_15, k_16, k_17, k_18, k_19, k_20⟩ := id k_0
  obtain ⟨v_22, v_23, v_25, v_27, v_29, v_31, v_33, v_34, v_35, v_36, v_38, e_21, b_24, b_26, b_28, b_30, b_32, b_37, b_39⟩ := hW.at m_1 t_2
  have mz_40 : fld (f a_0) 8 = v_27.toInt := by rw [e_21]; rfl
  have mz_41 : fld (f a_0) 9 = v_29.toInt := by rw [e_21]; rfl
  have mz_42 : fld (f a_0) 10 = v_31.toInt := by rw [e_21]; rfl
  have mz_43 : fld (f a_0) 20 = v_38.toInt := by rw [e_21]; rfl
  refine v_aload_n hC dX12_errs_0 rfl ?_
  refine v_vi hC (rest := []) m_1 e_21 rfl mi_X12_good ms_X12_good (p_X12_good hW k_0) mx_X12_good ml_X12_139 (by decide) rfl (cells1 := 0) (slots1 := 0) (by decide) (by decide) (Nat.le_of_ble_eq_true rfl) (Nat.le_of_ble_eq_true rfl) rfl (Nat.le_of_ble_eq_true rfl) dX12_errs_1 (fun r_44 L_45 f_46 h_47 => ?_)
  obtain ⟨rfl, rfl, b_48, x_49⟩ := h_47
  have fe_52 : fld (f a_0) 12 = (v_34 : Int32).toInt := by rw [e_21]; rfl
  rw [fe_52] at x_49
  try simp only [Int32.reduceToInt, Int64.reduceToInt] at x_49
  refine v_if_ne hC dX12_errs_4 (tgt := 8) (by decide) (fun h_53 => ?_) (fun h_53 => ?_)
  · simp only [Int32.lt_iff_toInt_lt, Int32.le_iff_toInt_le, Int32.reduceToInt, ← Int32.toInt_inj] at h_53
    refine v_aload_n hC dX12_errs_8 rfl ?_
    refine v_iload_n hC dX12_errs_9 rfl ?_
    refine v_put hC fl_X12_111 m_1 e_21 rfl rfl (Nat.le_of_ble_eq_true rfl) (fs' := [.int v_22, .ref (q 1), .ref (q 2), .ref (q 3), .ref (q 4), .int v_23, .ref (q 6), .int v_25, .int v_27, .int v_29, .int v_31, .int v_33, .int a_1, .int v_35, .ref (q 14), .ref (q 15), .ref (q 16), .int v_36, .ref (q 18), .ref (q 19), .int v_38, .ref (q 21), .ref (q 22), .ref (q 23), .ref (q 24), .ref (q 25), .ref (q 26), .ref (q 27), .ref (q 28)]) rfl dX12_errs_10 (fun f_54 hf_55 hk_56 => ?_)
    have hW_57 := hW.up hf_55 hk_56 t_2 ⟨v_22, v_23, v_25, v_27, v_29, v_31, v_33, a_1, v_35, v_36, v_38, rfl, (by first | omega | (simp only [Int32.lt_iff_toInt_lt, Int32.le_iff_toInt_le, Int32.reduceToInt, ← Int32.toInt_inj, true_and, and_true, or_true, true_or, false_or, or_false, false_and, and_false, not_true_eq_false, not_false_eq_true] <;> omega)), (by first | omega | (simp only [Int32.lt_iff_toInt_lt, Int32.le_iff_toInt_le, Int32.reduceToInt, ← Int32.toInt_inj, true_and, and_true, or_true, true_or, false_or, or_false, false_and, and_false, not_true_eq_false, not_false_eq_true] <;> omega)), (by first | omega | (simp only [Int32.lt_iff_toInt_lt, Int32.le_iff_toInt_le, Int32.reduceToInt, ← Int32.toInt_inj, true_and, and_true, or_true, true_or, false_or, or_false, false_and, and_false, not_true_eq_false, not_false_eq_true] <;> omega)), (by first | omega | (simp only [Int32.lt_iff_toInt_lt, Int32.le_iff_toInt_le, Int32.reduceToInt, ← Int32.toInt_inj, true_and, and_true, or_true, true_or, false_or, or_false, false_and, and_false, not_true_eq_false, not_false_eq_true] <;> omega)), (by first | omega | (simp only [Int32.lt_iff_toInt_lt, Int32.le_iff_toInt_le, Int32.reduceToInt, ← Int32.toInt_inj, true_and, and_true, or_true, true_or, false_or, or_false, false_and, and_false, not_true_eq_false, not_false_eq_true] <;> omega)), (by first | omega | (simp only [Int32.lt_iff_toInt_lt, Int32.le_iff_toInt_le, Int32.reduceToInt, ← Int32.toInt_inj, true_and, and_true, or_true, true_or, false_or, or_false, false_and, and_false, not_true_eq_false, not_false_eq_true] <;> omega)), (by first | omega | (simp only [Int32.lt_iff_toInt_lt, Int32.le_iff_toInt_le, Int32.reduceToInt, ← Int32.toInt_inj, true_and, and_true, or_true, true_or, false_or, or_false, false_and, and_false, not_true_eq_false, not_false_eq_true] <;> omega))⟩
    have fr_58 := FR.w hk_56 e_21 (k := 12) rfl
    refine v_aload_n hC dX12_errs_13 rfl ?_
    refine v_aload_n hC dX12_errs_14 rfl ?_
    refine v_get hC fl_X12_117 m_1 hf_55 rfl dX12_errs_15 ?_
    refine v_put hC fl_X12_31 m_1 hf_55 rfl rfl (Nat.le_of_ble_eq_true rfl) (fs' := [.int v_22, .ref (q 1), .ref (q 2), .ref (q 3), .ref (q 4), .int v_23, .ref (q 6), .int v_25, .int v_27, .int v_29, .int v_31, .int v_33, .int a_1, .int v_29, .ref (q 14), .ref (q 15), .ref (q 16), .int v_36, .ref (q 18), .ref (q 19), .int v_38, .ref (q 21), .ref (q 22), .ref (q 23), .ref (q 24), .ref (q 25), .ref (q 26), .ref (q 27), .ref (q 28)]) rfl dX12_errs_18 (fun f_59 hf_60 hk_61 => ?_)
    have hW_62 := hW_57.up hf_60 hk_61 t_2 ⟨v_22, v_23, v_25, v_27, v_29, v_31, v_33, a_1, v_29, v_36, v_38, rfl, (by first | omega | (simp only [Int32.lt_iff_toInt_lt, Int32.le_iff_toInt_le, Int32.reduceToInt, ← Int32.toInt_inj, true_and, and_true, or_true, true_or, false_or, or_false, false_and, and_false, not_true_eq_false, not_false_eq_true] <;> omega)), (by first | omega | (simp only [Int32.lt_iff_toInt_lt, Int32.le_iff_toInt_le, Int32.reduceToInt, ← Int32.toInt_inj, true_and, and_true, or_true, true_or, false_or, or_false, false_and, and_false, not_true_eq_false, not_false_eq_true] <;> omega)), (by first | omega | (simp only [Int32.lt_iff_toInt_lt, Int32.le_iff_toInt_le, Int32.reduceToInt, ← Int32.toInt_inj, true_and, and_true, or_true, true_or, false_or, or_false, false_and, and_false, not_true_eq_false, not_false_eq_true] <;> omega)), (by first | omega | (simp only [Int32.lt_iff_toInt_lt, Int32.le_iff_toInt_le, Int32.reduceToInt, ← Int32.toInt_inj, true_and, and_true, or_true, true_or, false_or, or_false, false_and, and_false, not_true_eq_false, not_false_eq_true] <;> omega)), (by first | omega | (simp only [Int32.lt_iff_toInt_lt, Int32.le_iff_toInt_le, Int32.reduceToInt, ← Int32.toInt_inj, true_and, and_true, or_true, true_or, false_or, or_false, false_and, and_false, not_true_eq_false, not_false_eq_true] <;> omega)), (by first | omega | (simp only [Int32.lt_iff_toInt_lt, Int32.le_iff_toInt_le, Int32.reduceToInt, ← Int32.toInt_inj, true_and, and_true, or_true, true_or, false_or, or_false, false_and, and_false, not_true_eq_false, not_false_eq_true] <;> omega)), (by first | omega | (simp only [Int32.lt_iff_toInt_lt, Int32.le_iff_toInt_le, Int32.reduceToInt, ← Int32.toInt_inj, true_and, and_true, or_true, true_or, false_or, or_false, false_and, and_false, not_true_eq_false, not_false_eq_true] <;> omega))⟩
    have fr_63 := FR.w hk_61 hf_55 (k := 12) rfl
    have fe_64 : fld (f_59 a_0) 12 = (a_1 : Int32).toInt := by rw [hf_60]; rfl
    have fe_65 : fld (f_59 a_0) 8 = (v_27 : Int32).toInt := by rw [hf_60]; rfl
    have fe_66 : fld (f_59 a_0) 9 = (v_29 : Int32).toInt := by rw [hf_60]; rfl
    have fe_67 : fld (f_59 a_0) 10 = (v_31 : Int32).toInt := by rw [hf_60]; rfl
    have fe_68 : fld (f_59 a_0) 20 = (v_38 : Int32).toInt := by rw [hf_60]; rfl
    exact hR _ _ _ _ _ _ dX12_errs_21 (Nat.le_of_ble_eq_true rfl) (Nat.le_of_ble_eq_true rfl) ⟨rfl, hW_62, ((fr_58.tr fr_63).mono rfl), (by simp only [fe_64, true_and, and_true, or_true, true_or, false_or, or_false, false_and, and_false, not_true_eq_false, not_false_eq_true] <;> first | omega | (simp only [Int32.lt_iff_toInt_lt, Int32.le_iff_toInt_le, Int32.reduceToInt, ← Int32.toInt_inj, true_and, and_true, or_true, true_or, false_or, or_false, false_and, and_false, not_true_eq_false, not_false_eq_true] <;> omega)), (by simp only [fe_65, mz_40, true_and, and_true, or_true, true_or, false_or, or_false, false_and, and_false, not_true_eq_false, not_false_eq_true] <;> first | omega | (simp only [Int32.lt_iff_toInt_lt, Int32.le_iff_toInt_le, Int32.reduceToInt, ← Int32.toInt_inj, true_and, and_true, or_true, true_or, false_or, or_false, false_and, and_false, not_true_eq_false, not_false_eq_true] <;> omega)), (by simp only [fe_66, mz_41, true_and, and_true, or_true, true_or, false_or, or_false, false_and, and_false, not_true_eq_false, not_false_eq_true] <;> first | omega | (simp only [Int32.lt_iff_toInt_lt, Int32.le_iff_toInt_le, Int32.reduceToInt, ← Int32.toInt_inj, true_and, and_true, or_true, true_or, false_or, or_false, false_and, and_false, not_true_eq_false, not_false_eq_true] <;> omega)), (by simp only [fe_67, mz_42, true_and, and_true, or_true, true_or, false_or, or_false, false_and, and_false, not_true_eq_false, not_false_eq_true] <;> first | omega | (simp only [Int32.lt_iff_toInt_lt, Int32.le_iff_toInt_le, Int32.reduceToInt, ← Int32.toInt_inj, true_and, and_true, or_true, true_or, false_or, or_false, false_and, and_false, not_true_eq_false, not_false_eq_true] <;> omega)), (by simp only [fe_68, mz_43, true_and, and_true, or_true, true_or, false_or, or_false, false_and, and_false, not_true_eq_false, not_false_eq_true] <;> first | omega | (simp only [Int32.lt_iff_toInt_lt, Int32.le_iff_toInt_le, Int32.reduceToInt, ← Int32.toInt_inj, true_and, and_true, or_true, true_or, false_or, or_false, false_and, and_false, not_true_eq_false, not_false_eq_true] <;> omega))⟩
  · simp only [Int32.lt_iff_toInt_lt, Int32.le_iff_toInt_le, Int32.reduceToInt, ← Int32.toInt_inj] at h_53
    have fe_69 : fld (f a_0) 12 = (v_34 : Int32).toInt := by rw [e_21]; rfl
    have fe_70 : fld (f a_0) 8 = (v_27 : Int32).toInt := by rw [e_21]; rfl
    have fe_71 : fld (f a_0) 9 = (v_29 : Int32).toInt := by rw [e_21]; rfl
    have fe_72 : fld (f a_0) 10 = (v_31 : Int32).toInt := by rw [e_21]; rfl
    have fe_73 : fld (f a_0) 20 = (v_38 : Int32).toInt := by rw [e_21]; rfl
    exact hR _ _ _ _ _ _ dX12_errs_7 (Nat.le_of_ble_eq_true rfl) (Nat.le_of_ble_eq_true rfl) ⟨rfl, hW, FR.rf, (by simp only [fe_69, true_and, and_true, or_true, true_or, false_or, or_false, false_and, and_false, not_true_eq_false, not_false_eq_true] <;> first | omega | (simp only [Int32.lt_iff_toInt_lt, Int32.le_iff_toInt_le, Int32.reduceToInt, ← Int32.toInt_inj, true_and, and_true, or_true, true_or, false_or, or_false, false_and, and_false, not_true_eq_false, not_false_eq_true] <;> omega)), (by simp only [fe_70, mz_40, true_and, and_true, or_true, true_or, false_or, or_false, false_and, and_false, not_true_eq_false, not_false_eq_true] <;> first | omega | (simp only [Int32.lt_iff_toInt_lt, Int32.le_iff_toInt_le, Int32.reduceToInt, ← Int32.toInt_inj, true_and, and_true, or_true, true_or, false_or, or_false, false_and, and_false, not_true_eq_false, not_false_eq_true] <;> omega)), (by simp only [fe_71, mz_41, true_and, and_true, or_true, true_or, false_or, or_false, false_and, and_false, not_true_eq_false, not_false_eq_true] <;> first | omega | (simp only [Int32.lt_iff_toInt_lt, Int32.le_iff_toInt_le, Int32.reduceToInt, ← Int32.toInt_inj, true_and, and_true, or_true, true_or, false_or, or_false, false_and, and_false, not_true_eq_false, not_false_eq_true] <;> omega)), (by simp only [fe_72, mz_42, true_and, and_true, or_true, true_or, false_or, or_false, false_and, and_false, not_true_eq_false, not_false_eq_true] <;> first | omega | (simp only [Int32.lt_iff_toInt_lt, Int32.le_iff_toInt_le, Int32.reduceToInt, ← Int32.toInt_inj, true_and, and_true, or_true, true_or, false_or, or_false, false_and, and_false, not_true_eq_false, not_false_eq_true] <;> omega)), (by simp only [fe_73, mz_43, true_and, and_true, or_true, true_or, false_or, or_false, false_and, and_false, not_true_eq_false, not_false_eq_true] <;> first | omega | (simp only [Int32.lt_iff_toInt_lt, Int32.le_iff_toInt_le, Int32.reduceToInt, ← Int32.toInt_inj, true_and, and_true, or_true, true_or, false_or, or_false, false_and, and_false, not_true_eq_false, not_false_eq_true] <;> omega))⟩
set_option maxRecDepth 100000 in
set_option maxHeartbeats 4000000 in
theorem p_J0_coder_7d493 {l : Launch} {E : Ez} {L : List Nat} {f : Nat → va_E} {T : Nat → va_E → Prop} {a_0 : Nat} (hW : WT T L f) (ha_0 : a_0 < 77) : CI l yJ0_coder_7d493 cJ0_coder_7d493 1 .byte 0 0 0 E [.ref (eK E a_0)] L f (fun r L1 f1 => L = L1 ∧ f = f1 ∧ (0 ≤ r.toInt ∧ r.toInt ≤ 0) ∧ narrow .byte (.int r) = .int r) := by
  refine ci_of (by decide) (Nat.le_of_ble_eq_true rfl) (fun z hz hnm hC hR => ?_)
  have hC : Cx z E cJ0_coder_7d493 RJ0 1 0 0 0 := hC
  subst hz
  show V z E 1 0 0 L f 0 [(0, .ref (eK E a_0))] []
  refine v_getCS hC sf_J0_38 dJ0_coder_7d493_0 ?_
  refine v_if_eq_f hC dJ0_coder_7d493_3 (tgt := 13) (by decide) (by decide) ?_
  refine v_aload_n hC dJ0_coder_7d493_6 rfl ?_
  refine v_getSc hC ha_0 sf_J0_15 dJ0_coder_7d493_7 ?_
  refine v_goto hC dJ0_coder_7d493_10 (tgt := 14) (by decide) ?_
  exact hR _ _ _ _ _ _ _ dJ0_coder_7d493_14 rfl (Nat.le_of_ble_eq_true rfl) (Nat.le_of_ble_eq_true rfl) ⟨rfl, rfl, (by decide), rfl⟩
set_option maxRecDepth 100000 in
set_option maxHeartbeats 4000000 in
theorem p_J0_length_8abf5 {l : Launch} {E : Ez} {L : List Nat} {f : Nat → va_E} {T : Nat → va_E → Prop} {a_0 : Nat} (hW : WT T L f) (ha_0 : a_0 < 77) : CI l yJ0_length_8abf5 cJ0_length_8abf5 1 .int 1 0 0 E [.ref (eK E a_0)] L f (fun r L1 f1 => L = L1 ∧ f = f1 ∧ (0 ≤ r.toInt ∧ r.toInt ≤ 40) ∧ r.toInt = ((bytStr.getD a_0 []).length : Int)) := by
  refine ci_of (by decide) (Nat.le_of_ble_eq_true rfl) (fun z hz hnm hC hR => ?_)
  have hC : Cx z E cJ0_length_8abf5 RJ0 1 1 0 0 := hC
  subst hz
  show V z E 1 0 0 L f 0 [(0, .ref (eK E a_0))] []
  refine v_aload_n hC dJ0_length_8abf5_0 rfl ?_
  refine v_getSv hC ha_0 sf_J0_9 dJ0_length_8abf5_1 ?_
  obtain ⟨v_1, h_2⟩ : ∃ v9 : Int32, nI (bytStr.getD a_0 []).length = v9 := ⟨_, rfl⟩
  refine v_alenS hC ha_0 dJ0_length_8abf5_4 ?_
  have b_3 := len_v ha_0
  rw [h_2] at b_3 ⊢
  refine v_aload_n hC dJ0_length_8abf5_5 rfl ?_
  refine v_viS hC (rest := [.int v_1]) ha_0 rfl mi_J0_coder_7d493 ms_J0_coder_7d493 (p_J0_coder_7d493 hW ha_0) mx_J0_coder_7d493 ml_J0_335 (by decide) rfl (cells1 := 0) (slots1 := 0) (by decide) (by decide) (Nat.le_of_ble_eq_true rfl) (Nat.le_of_ble_eq_true rfl) rfl (Nat.le_of_ble_eq_true rfl) dJ0_length_8abf5_6 (fun r_4 L_5 f_6 h_7 => ?_)
  obtain ⟨rfl, rfl, b_8, nr_9⟩ := h_7
  obtain rfl : r_4 = 0 := Int32.toInt_inj.mp (by simp only [Int32.reduceToInt]; omega)
  refine v_ishr hC dJ0_length_8abf5_9 (sb_shr0 _) ?_
  exact hR _ _ _ _ _ _ _ dJ0_length_8abf5_10 rfl (Nat.le_of_ble_eq_true rfl) (Nat.le_of_ble_eq_true rfl) ⟨rfl, rfl, (by first | omega | (simp only [Int32.lt_iff_toInt_lt, Int32.le_iff_toInt_le, Int32.reduceToInt, ← Int32.toInt_inj, true_and, and_true, or_true, true_or, false_or, or_false, false_and, and_false, not_true_eq_false, not_false_eq_true] <;> omega)), (by first | omega | (simp only [Int32.lt_iff_toInt_lt, Int32.le_iff_toInt_le, Int32.reduceToInt, ← Int32.toInt_inj, true_and, and_true, or_true, true_or, false_or, or_false, false_and, and_false, not_true_eq_false, not_false_eq_true] <;> omega))⟩
set_option maxRecDepth 100000 in
set_option maxHeartbeats 4000000 in
theorem p_J0_isLatin1_aae02 {l : Launch} {E : Ez} {L : List Nat} {f : Nat → va_E} {T : Nat → va_E → Prop} {a_0 : Nat} (hW : WT T L f) (ha_0 : a_0 < 77) : CI l yJ0_isLatin1_aae02 cJ0_isLatin1_aae02 1 .boolean 0 0 0 E [.ref (eK E a_0)] L f (fun r L1 f1 => L = L1 ∧ f = f1 ∧ (1 ≤ r.toInt ∧ r.toInt ≤ 1)) := by
  refine ci_of (by decide) (Nat.le_of_ble_eq_true rfl) (fun z hz hnm hC hR => ?_)
  have hC : Cx z E cJ0_isLatin1_aae02 RJ0 1 0 0 0 := hC
  subst hz
  show V z E 1 0 0 L f 0 [(0, .ref (eK E a_0))] []
  refine v_getCS hC sf_J0_38 dJ0_isLatin1_aae02_0 ?_
  refine v_if_eq_f hC dJ0_isLatin1_aae02_3 (tgt := 17) (by decide) (by decide) ?_
  refine v_aload_n hC dJ0_isLatin1_aae02_6 rfl ?_
  refine v_getSc hC ha_0 sf_J0_15 dJ0_isLatin1_aae02_7 ?_
  refine v_if_ne_f hC dJ0_isLatin1_aae02_10 (tgt := 17) (by decide) (by decide) ?_
  refine v_iconst hC dJ0_isLatin1_aae02_13 (v := 1) (by decide) ?_
  refine v_goto hC dJ0_isLatin1_aae02_14 (tgt := 18) (by decide) ?_
  exact hR _ _ _ _ _ _ _ dJ0_isLatin1_aae02_18 rfl (Nat.le_of_ble_eq_true rfl) (Nat.le_of_ble_eq_true rfl) ⟨rfl, rfl, (by decide)⟩
set_option maxRecDepth 100000 in
set_option maxHeartbeats 4000000 in
theorem p_J3_checkIndex_8e157 {l : Launch} {E : Ez} {L : List Nat} {f : Nat → va_E} {T : Nat → va_E → Prop} {a_0 : Int32} {a_1 : Int32} (hW : WT T L f) (hlen : 0 ≤ a_0.toInt ∧ a_0.toInt < a_1.toInt) : CI l yJ3_checkIndex_8e157 cJ3_checkIndex_8e157 3 .int 0 0 0 E [.int a_0, .int a_1, .null] L f (fun r L1 f1 => L = L1 ∧ f = f1) := by
  refine ci_of (by decide) (Nat.le_of_ble_eq_true rfl) (fun z hz hnm hC hR => ?_)
  have hC : Cx z E cJ3_checkIndex_8e157 RJ3 3 0 0 0 := hC
  subst hz
  show V z E 3 0 0 L f 0 [(0, .int a_0), (1, .int a_1), (2, .null)] []
  refine v_iload_n hC dJ3_checkIndex_8e157_0 rfl ?_
  refine v_if_lt_f hC dJ3_checkIndex_8e157_1 (tgt := 9) (by decide) (by first | omega | (simp only [Int32.lt_iff_toInt_lt, Int32.le_iff_toInt_le, Int32.reduceToInt, ← Int32.toInt_inj, true_and, and_true, or_true, true_or, false_or, or_false, false_and, and_false, not_true_eq_false, not_false_eq_true] <;> omega)) ?_
  refine v_iload_n hC dJ3_checkIndex_8e157_4 rfl ?_
  refine v_iload_n hC dJ3_checkIndex_8e157_5 rfl ?_
  refine v_icmp_lt_t hC dJ3_checkIndex_8e157_6 (tgt := 16) (by decide) (by first | omega | (simp only [Int32.lt_iff_toInt_lt, Int32.le_iff_toInt_le, Int32.reduceToInt, ← Int32.toInt_inj, true_and, and_true, or_true, true_or, false_or, or_false, false_and, and_false, not_true_eq_false, not_false_eq_true] <;> omega)) ?_
  refine v_iload_n hC dJ3_checkIndex_8e157_16 rfl ?_
  exact hR _ _ _ _ _ _ _ dJ3_checkIndex_8e157_17 rfl (Nat.le_of_ble_eq_true rfl) (Nat.le_of_ble_eq_true rfl) ⟨rfl, rfl⟩
set_option maxRecDepth 100000 in
set_option maxHeartbeats 4000000 in
theorem p_J3_checkIndex_8e157_10 {l : Launch} {E : Ez} {L : List Nat} {f : Nat → va_E} {T : Nat → va_E → Prop} {a_0 : Int32} {a_1 : Int32} {a_2 : Nat} (hW : WT T L f) (hlen : 0 ≤ a_0.toInt ∧ a_0.toInt < a_1.toInt) : CI l yJ3_checkIndex_8e157 cJ3_checkIndex_8e157 3 .int 0 0 0 E [.int a_0, .int a_1, .ref a_2] L f (fun r L1 f1 => L = L1 ∧ f = f1) := by
  refine ci_of (by decide) (Nat.le_of_ble_eq_true rfl) (fun z hz hnm hC hR => ?_)
  have hC : Cx z E cJ3_checkIndex_8e157 RJ3 3 0 0 0 := hC
  subst hz
  show V z E 3 0 0 L f 0 [(0, .int a_0), (1, .int a_1), (2, .ref a_2)] []
  refine v_iload_n hC dJ3_checkIndex_8e157_0 rfl ?_
  refine v_if_lt_f hC dJ3_checkIndex_8e157_1 (tgt := 9) (by decide) (by first | omega | (simp only [Int32.lt_iff_toInt_lt, Int32.le_iff_toInt_le, Int32.reduceToInt, ← Int32.toInt_inj, true_and, and_true, or_true, true_or, false_or, or_false, false_and, and_false, not_true_eq_false, not_false_eq_true] <;> omega)) ?_
  refine v_iload_n hC dJ3_checkIndex_8e157_4 rfl ?_
  refine v_iload_n hC dJ3_checkIndex_8e157_5 rfl ?_
  refine v_icmp_lt_t hC dJ3_checkIndex_8e157_6 (tgt := 16) (by decide) (by first | omega | (simp only [Int32.lt_iff_toInt_lt, Int32.le_iff_toInt_le, Int32.reduceToInt, ← Int32.toInt_inj, true_and, and_true, or_true, true_or, false_or, or_false, false_and, and_false, not_true_eq_false, not_false_eq_true] <;> omega)) ?_
  refine v_iload_n hC dJ3_checkIndex_8e157_16 rfl ?_
  exact hR _ _ _ _ _ _ _ dJ3_checkIndex_8e157_17 rfl (Nat.le_of_ble_eq_true rfl) (Nat.le_of_ble_eq_true rfl) ⟨rfl, rfl⟩
set_option maxRecDepth 100000 in
set_option maxHeartbeats 4000000 in
theorem p_J0_checkIndex_df160 {l : Launch} {E : Ez} {L : List Nat} {f : Nat → va_E} {T : Nat → va_E → Prop} {a_0 : Int32} {a_1 : Int32} (hW : WT T L f) (hlen : 0 ≤ a_0.toInt ∧ a_0.toInt < a_1.toInt) : CV l yJ0_checkIndex_df160 cJ0_checkIndex_df160 2 1 0 0 E [.int a_0, .int a_1] L f (fun L1 f1 => L = L1 ∧ f = f1) := by
  refine cv_of (by decide) (Nat.le_of_ble_eq_true rfl) (fun z hz hnm hC hR => ?_)
  have hC : Cx z E cJ0_checkIndex_df160 RJ0 2 1 0 0 := hC
  subst hz
  show V z E 2 0 0 L f 0 [(0, .int a_0), (1, .int a_1)] []
  refine v_iload_n hC dJ0_checkIndex_df160_0 rfl ?_
  refine v_iload_n hC dJ0_checkIndex_df160_1 rfl ?_
  refine v_getSF hC sf_J0_1053 dJ0_checkIndex_df160_2 ?_ (fun o_1 => ?_)
  · refine v_si hC (rest := []) mt_J3_checkIndex_8e157 (p_J3_checkIndex_8e157 hW (by first | omega | (simp only [Int32.lt_iff_toInt_lt, Int32.le_iff_toInt_le, Int32.reduceToInt, ← Int32.toInt_inj, true_and, and_true, or_true, true_or, false_or, or_false, false_and, and_false, not_true_eq_false, not_false_eq_true] <;> omega))) mx_J3_checkIndex_8e157 ml_J0_1059 (by decide) rfl (cells1 := 0) (slots1 := 0) (by decide) (by decide) (Nat.le_of_ble_eq_true rfl) (Nat.le_of_ble_eq_true rfl) rfl (Nat.le_of_ble_eq_true rfl) dJ0_checkIndex_df160_5 (fun r_2 L_3 f_4 h_5 => ?_)
    obtain ⟨rfl, rfl⟩ := h_5
    refine v_pop hC dJ0_checkIndex_df160_8 rfl ?_
    exact hR _ _ _ _ _ _ dJ0_checkIndex_df160_9 (Nat.le_of_ble_eq_true rfl) (Nat.le_of_ble_eq_true rfl) ⟨rfl, rfl⟩
  · refine v_si hC (rest := []) mt_J3_checkIndex_8e157 (p_J3_checkIndex_8e157_10 hW (by first | omega | (simp only [Int32.lt_iff_toInt_lt, Int32.le_iff_toInt_le, Int32.reduceToInt, ← Int32.toInt_inj, true_and, and_true, or_true, true_or, false_or, or_false, false_and, and_false, not_true_eq_false, not_false_eq_true] <;> omega))) mx_J3_checkIndex_8e157 ml_J0_1059 (by decide) rfl (cells1 := 0) (slots1 := 0) (by decide) (by decide) (Nat.le_of_ble_eq_true rfl) (Nat.le_of_ble_eq_true rfl) rfl (Nat.le_of_ble_eq_true rfl) dJ0_checkIndex_df160_5 (fun r_8 L_9 f_10 h_11 => ?_)
    obtain ⟨rfl, rfl⟩ := h_11
    refine v_pop hC dJ0_checkIndex_df160_8 rfl ?_
    exact hR _ _ _ _ _ _ dJ0_checkIndex_df160_9 (Nat.le_of_ble_eq_true rfl) (Nat.le_of_ble_eq_true rfl) ⟨rfl, rfl⟩
set_option maxRecDepth 100000 in
set_option maxHeartbeats 4000000 in
theorem p_J1_charAt_3b067 {l : Launch} {E : Ez} {L : List Nat} {f : Nat → va_E} {T : Nat → va_E → Prop} {a_0 : Nat} {a_1 : Int32} (hW : WT T L f) (ha_0 : a_0 < 77) (hlen : 0 ≤ a_1.toInt ∧ a_1.toInt < ((bytStr.getD a_0 []).length : Int)) : CI l yJ1_charAt_3b067 cJ1_charAt_3b067 2 .char 2 0 0 E [.ref (eV E a_0), .int a_1] L f (fun r L1 f1 => L = L1 ∧ f = f1 ∧ r = (chv a_0 a_1) ∧ narrow .char (.int r) = .int r) := by
  refine ci_of (by decide) (Nat.le_of_ble_eq_true rfl) (fun z hz hnm hC hR => ?_)
  have hC : Cx z E cJ1_charAt_3b067 RJ1 2 2 0 0 := hC
  subst hz
  show V z E 2 0 0 L f 0 [(0, .ref (eV E a_0)), (1, .int a_1)] []
  refine v_iload_n hC dJ1_charAt_3b067_0 rfl ?_
  refine v_aload_n hC dJ1_charAt_3b067_1 rfl ?_
  obtain ⟨v_1, h_2⟩ : ∃ v9 : Int32, nI (bytStr.getD a_0 []).length = v9 := ⟨_, rfl⟩
  refine v_alenS hC ha_0 dJ1_charAt_3b067_2 ?_
  have b_3 := len_v ha_0
  rw [h_2] at b_3 ⊢
  refine v_sv hC (rest := []) mt_J0_checkIndex_df160 (p_J0_checkIndex_df160 hW (by first | omega | (simp only [Int32.lt_iff_toInt_lt, Int32.le_iff_toInt_le, Int32.reduceToInt, ← Int32.toInt_inj, true_and, and_true, or_true, true_or, false_or, or_false, false_and, and_false, not_true_eq_false, not_false_eq_true] <;> omega))) mx_J0_checkIndex_df160 ml_J1_9 (by decide) rfl (cells1 := 0) (slots1 := 0) (by decide) (by decide) (Nat.le_of_ble_eq_true rfl) (Nat.le_of_ble_eq_true rfl) rfl (Nat.le_of_ble_eq_true rfl) dJ1_charAt_3b067_3 (fun L_5 f_6 h_7 => ?_)
  obtain ⟨rfl, rfl⟩ := h_7
  refine v_aload_n hC dJ1_charAt_3b067_6 rfl ?_
  refine v_iload_n hC dJ1_charAt_3b067_7 rfl ?_
  obtain ⟨v_10, h_11⟩ : ∃ v9 : Int32, (bytStr.getD a_0 []).getD (a_1 : Int32).toNatClampNeg 0 = v9 := ⟨_, rfl⟩
  refine v_baldS hC ha_0 (vp_in_iff.mpr (by first | omega | (simp only [Int32.lt_iff_toInt_lt, Int32.le_iff_toInt_le, Int32.reduceToInt, ← Int32.toInt_inj, true_and, and_true, or_true, true_or, false_or, or_false, false_and, and_false, not_true_eq_false, not_false_eq_true] <;> omega))) h_11 dJ1_charAt_3b067_8 ?_
  refine v_sipush hC dJ1_charAt_3b067_9 (v := 255) (by decide) ?_
  obtain ⟨v_12, h_13⟩ : ∃ v9 : Int32, v_10 &&& 255 = v9 := ⟨_, rfl⟩
  refine v_iand hC dJ1_charAt_3b067_12 h_13 ?_
  have h_14 := and_v h_13 (by decide)
  try simp only [Int32.reduceToInt] at h_14
  obtain ⟨v_15, h_16⟩ : ∃ v9 : Int32, (v_12.toUInt32 % 65536).toInt32 = v9 := ⟨_, rfl⟩
  refine v_i2c hC dJ1_charAt_3b067_13 h_16 ?_
  exact hR _ _ _ _ _ _ _ dJ1_charAt_3b067_14 (by rw [← h_16]; exact pk_nc _) (Nat.le_of_ble_eq_true rfl) (Nat.le_of_ble_eq_true rfl) ⟨rfl, rfl, (by rw [← h_16, ← h_13, ← h_11]; rfl), (by rw [← h_16]; exact pk_nc _)⟩
set_option maxRecDepth 100000 in
set_option maxHeartbeats 4000000 in
theorem p_J0_charAt_5068e {l : Launch} {E : Ez} {L : List Nat} {f : Nat → va_E} {T : Nat → va_E → Prop} {a_0 : Nat} {a_1 : Int32} (hW : WT T L f) (ha_0 : a_0 < 77) (hlen : 0 ≤ a_1.toInt ∧ a_1.toInt < ((bytStr.getD a_0 []).length : Int)) : CI l yJ0_charAt_5068e cJ0_charAt_5068e 2 .char 3 0 0 E [.ref (eK E a_0), .int a_1] L f (fun r L1 f1 => L = L1 ∧ f = f1 ∧ r = (chv a_0 a_1) ∧ narrow .char (.int r) = .int r) := by
  refine ci_of (by decide) (Nat.le_of_ble_eq_true rfl) (fun z hz hnm hC hR => ?_)
  have hC : Cx z E cJ0_charAt_5068e RJ0 2 3 0 0 := hC
  subst hz
  show V z E 2 0 0 L f 0 [(0, .ref (eK E a_0)), (1, .int a_1)] []
  refine v_aload_n hC dJ0_charAt_5068e_0 rfl ?_
  refine v_viS hC (rest := []) ha_0 rfl mi_J0_isLatin1_aae02 ms_J0_isLatin1_aae02 (p_J0_isLatin1_aae02 hW ha_0) mx_J0_isLatin1_aae02 ml_J0_492 (by decide) rfl (cells1 := 0) (slots1 := 0) (by decide) (by decide) (Nat.le_of_ble_eq_true rfl) (Nat.le_of_ble_eq_true rfl) rfl (Nat.le_of_ble_eq_true rfl) dJ0_charAt_5068e_1 (fun r_1 L_2 f_3 h_4 => ?_)
  obtain ⟨rfl, rfl, b_5⟩ := h_4
  obtain rfl : r_1 = 1 := Int32.toInt_inj.mp (by simp only [Int32.reduceToInt]; omega)
  refine v_if_eq_f hC dJ0_charAt_5068e_4 (tgt := 16) (by decide) (by decide) ?_
  refine v_aload_n hC dJ0_charAt_5068e_7 rfl ?_
  refine v_getSv hC ha_0 sf_J0_9 dJ0_charAt_5068e_8 ?_
  refine v_iload_n hC dJ0_charAt_5068e_11 rfl ?_
  refine v_si hC (rest := []) mt_J1_charAt_3b067 (p_J1_charAt_3b067 hW ha_0 (by first | omega | (simp only [Int32.lt_iff_toInt_lt, Int32.le_iff_toInt_le, Int32.reduceToInt, ← Int32.toInt_inj, true_and, and_true, or_true, true_or, false_or, or_false, false_and, and_false, not_true_eq_false, not_false_eq_true] <;> omega))) mx_J1_charAt_3b067 ml_J0_495 (by decide) rfl (cells1 := 0) (slots1 := 0) (by decide) (by decide) (Nat.le_of_ble_eq_true rfl) (Nat.le_of_ble_eq_true rfl) rfl (Nat.le_of_ble_eq_true rfl) dJ0_charAt_5068e_12 (fun r_8 L_9 f_10 h_11 => ?_)
  obtain ⟨rfl, rfl, rfl, nr_12⟩ := h_11
  exact hR _ _ _ _ _ _ _ dJ0_charAt_5068e_15 nr_12 (Nat.le_of_ble_eq_true rfl) (Nat.le_of_ble_eq_true rfl) ⟨rfl, rfl, rfl, nr_12⟩
set_option maxRecDepth 100000 in
set_option maxHeartbeats 4000000 in
theorem p_X12_is {l : Launch} {E : Ez} {L : List Nat} {f : Nat → va_E} {T : Nat → va_E → Prop} {a_0 : Nat} {a_1 : Nat} {q : Nat → Nat} (hW : WT T L f) (k_0 : isM T L E a_0 q) (ha_1 : a_1 < 77) : CI l yX12_is cX12_is 4 .boolean 4 0 0 E [.ref a_0, .ref (eK E a_1)] L f (fun r L1 f1 => L = L1 ∧ f = f1 ∧ r = (iw (f a_0) (f (q 4)) a_1)) := by
  refine ci_of (by decide) (Nat.le_of_ble_eq_true rfl) (fun z hz hnm hC hR => ?_)
  have hC : Cx z E cX12_is RX12 4 4 0 0 := hC
  subst hz
  show V z E 4 0 0 L f 0 [(0, .ref a_0), (1, .ref (eK E a_1))] []
  obtain ⟨m_1, t_2, k_3, k_4, k_5, k_6, k_7, k_8, k_9, k_10, k_11, k_12, k_13, k_14, k_15, k_16, k_17, k_18, k_19, k_20⟩ := id k_0
  refine v_aload_n hC dX12_is_0 rfl ?_
  obtain ⟨v_22, v_23, v_25, v_27, v_29, v_31, v_33, v_34, v_35, v_36, v_38, e_21, b_24, b_26, b_28, b_30, b_32, b_37, b_39⟩ := hW.at m_1 t_2
  refine v_vi hC (rest := []) m_1 e_21 rfl mi_X12_good ms_X12_good (p_X12_good hW k_0) mx_X12_good ml_X12_139 (by decide) rfl (cells1 := 0) (slots1 := 0) (by decide) (by decide) (Nat.le_of_ble_eq_true rfl) (Nat.le_of_ble_eq_true rfl) rfl (Nat.le_of_ble_eq_true rfl) dX12_is_1 (fun r_40 L_41 f_42 h_43 => ?_)
  obtain ⟨rfl, rfl, b_44, x_45⟩ := h_43
  have fe_48 : fld (f a_0) 12 = (v_34 : Int32).toInt := by rw [e_21]; rfl
  rw [fe_48] at x_45
  try simp only [Int32.reduceToInt, Int64.reduceToInt] at x_45
  refine v_if_eq hC dX12_is_4 (tgt := 35) (by decide) (fun h_49 => ?_) (fun h_49 => ?_)
  · simp only [Int32.lt_iff_toInt_lt, Int32.le_iff_toInt_le, Int32.reduceToInt, ← Int32.toInt_inj] at h_49
    refine v_iconst hC dX12_is_35 (v := 0) (by decide) ?_
    refine v_istore_n hC dX12_is_36 (by decide) (lv' := [(2, .int 0), (0, .ref a_0), (1, .ref (eK E a_1))]) rfl ?_
    refine v_iconst hC dX12_is_37 (v := 0) (by decide) ?_
    refine v_istore_n hC dX12_is_38 (by decide) (lv' := [(3, .int 0), (2, .int 0), (0, .ref a_0), (1, .ref (eK E a_1))]) rfl ?_
    have lp_177 : ∀ (n_178 : Nat) (i_172 : Int32) (b_174 : (0 ≤ i_172.toInt ∧ i_172.toInt ≤ 40)) (i_173 : Int32) (b_175 : (0 ≤ i_173.toInt ∧ i_173.toInt ≤ 1)) (cv_176 : IWI (f a_0) (f (q 4)) a_1 i_173 i_172) (hm_180 : 40 - i_172.toInt < (n_178 : Int)), V z E 4 0 0 L f 39 [(3, .int i_172), (2, .int i_173), (0, .ref a_0), (1, .ref (eK E a_1))] [] := by
      intro n_178
      induction n_178 with
      | zero =>
        intro i_172 b_174 i_173 b_175 cv_176 hm_180
        have bs_181 := cv_176.bs
        have fe_182 : fld (f a_0) 8 = (v_27 : Int32).toInt := by rw [e_21]; rfl
        have fe_183 : fld (f a_0) 9 = (v_29 : Int32).toInt := by rw [e_21]; rfl
        have fe_184 : fld (f a_0) 10 = (v_31 : Int32).toInt := by rw [e_21]; rfl
        have fe_185 : fld (f a_0) 12 = (v_34 : Int32).toInt := by rw [e_21]; rfl
        rw [fe_182, fe_183, fe_184, fe_185] at bs_181
        exfalso; omega
      | succ n_178 ih_179 =>
        intro i_172 b_174 i_173 b_175 cv_176 hm_180
        have bs_181 := cv_176.bs
        have fe_182 : fld (f a_0) 8 = (v_27 : Int32).toInt := by rw [e_21]; rfl
        have fe_183 : fld (f a_0) 9 = (v_29 : Int32).toInt := by rw [e_21]; rfl
        have fe_184 : fld (f a_0) 10 = (v_31 : Int32).toInt := by rw [e_21]; rfl
        have fe_185 : fld (f a_0) 12 = (v_34 : Int32).toInt := by rw [e_21]; rfl
        rw [fe_182, fe_183, fe_184, fe_185] at bs_181
        refine v_iload_n hC dX12_is_39 rfl ?_
        refine v_aload_n hC dX12_is_40 rfl ?_
        refine v_viS hC (rest := [.int i_172]) ha_1 rfl mi_J0_length_8abf5 ms_J0_length_8abf5 (p_J0_length_8abf5 hW ha_1) mx_J0_length_8abf5 ml_X12_143 (by decide) rfl (cells1 := 0) (slots1 := 0) (by decide) (by decide) (Nat.le_of_ble_eq_true rfl) (Nat.le_of_ble_eq_true rfl) rfl (Nat.le_of_ble_eq_true rfl) dX12_is_41 (fun r_186 L_187 f_188 h_189 => ?_)
        obtain ⟨rfl, rfl, b_190, x_191⟩ := h_189
        try simp only [Int32.reduceToInt, Int64.reduceToInt] at x_191
        refine v_icmp_ge hC dX12_is_44 (tgt := 82) (by decide) (fun h_194 => ?_) (fun h_194 => ?_)
        · simp only [Int32.lt_iff_toInt_lt, Int32.le_iff_toInt_le, Int32.reduceToInt, ← Int32.toInt_inj] at h_194
          refine v_iload_n hC dX12_is_82 rfl ?_
          exact hR _ _ _ _ _ _ _ dX12_is_83 (nar01 (by first | omega | (simp only [Int32.lt_iff_toInt_lt, Int32.le_iff_toInt_le, Int32.reduceToInt, ← Int32.toInt_inj, true_and, and_true, or_true, true_or, false_or, or_false, false_and, and_false, not_true_eq_false, not_false_eq_true] <;> omega))) (Nat.le_of_ble_eq_true rfl) (Nat.le_of_ble_eq_true rfl) ⟨rfl, rfl, (cv_176.fin (by first | (left; omega) | (right; omega)))⟩
        · simp only [Int32.lt_iff_toInt_lt, Int32.le_iff_toInt_le, Int32.reduceToInt, ← Int32.toInt_inj] at h_194
          refine v_iload_n hC dX12_is_47 rfl ?_
          refine v_if_eq hC dX12_is_48 (tgt := 82) (by decide) (fun h_195 => ?_) (fun h_195 => ?_)
          · simp only [Int32.lt_iff_toInt_lt, Int32.le_iff_toInt_le, Int32.reduceToInt, ← Int32.toInt_inj] at h_195
            refine v_iload_n hC dX12_is_82 rfl ?_
            exact hR _ _ _ _ _ _ _ dX12_is_83 (nar01 (by first | omega | (simp only [Int32.lt_iff_toInt_lt, Int32.le_iff_toInt_le, Int32.reduceToInt, ← Int32.toInt_inj, true_and, and_true, or_true, true_or, false_or, or_false, false_and, and_false, not_true_eq_false, not_false_eq_true] <;> omega))) (Nat.le_of_ble_eq_true rfl) (Nat.le_of_ble_eq_true rfl) ⟨rfl, rfl, (cv_176.fin (by first | (left; omega) | (right; omega)))⟩
          · simp only [Int32.lt_iff_toInt_lt, Int32.le_iff_toInt_le, Int32.reduceToInt, ← Int32.toInt_inj] at h_195
            refine v_aload_n hC dX12_is_51 rfl ?_
            refine v_get hC fl_X12_24 m_1 e_21 rfl dX12_is_52 ?_
            refine v_aload_n hC dX12_is_55 rfl ?_
            refine v_get hC fl_X12_117 m_1 e_21 rfl dX12_is_56 ?_
            refine v_iload_n hC dX12_is_59 rfl ?_
            obtain ⟨v_196, h_197⟩ : ∃ v9 : Int32, v_29 + i_172 = v9 := ⟨_, rfl⟩
            refine v_iadd hC dX12_is_60 h_197 ?_
            have h_198 := add_v h_197 (by first | omega | (simp only [Int32.lt_iff_toInt_lt, Int32.le_iff_toInt_le, Int32.reduceToInt, ← Int32.toInt_inj, true_and, and_true, or_true, true_or, false_or, or_false, false_and, and_false, not_true_eq_false, not_false_eq_true] <;> omega)) (by first | omega | (simp only [Int32.lt_iff_toInt_lt, Int32.le_iff_toInt_le, Int32.reduceToInt, ← Int32.toInt_inj, true_and, and_true, or_true, true_or, false_or, or_false, false_and, and_false, not_true_eq_false, not_false_eq_true] <;> omega))
            obtain ⟨m_199, t_200⟩ := id k_6
            obtain ⟨g_202, e_201, fit_203⟩ := hW.at m_199 t_200
            obtain ⟨v_204, h_205⟩ : ∃ v9 : Int32, g_202 (v_196 : Int32).toNatClampNeg = v9 := ⟨_, rfl⟩
            refine v_bald hC m_199 e_201 (vp_in_iff.mpr (by first | omega | (simp only [Int32.lt_iff_toInt_lt, Int32.le_iff_toInt_le, Int32.reduceToInt, ← Int32.toInt_inj, true_and, and_true, or_true, true_or, false_or, or_false, false_and, and_false, not_true_eq_false, not_false_eq_true] <;> omega))) h_205 dX12_is_61 ?_
            refine v_aload_n hC dX12_is_62 rfl ?_
            refine v_iload_n hC dX12_is_63 rfl ?_
            refine v_viS hC (rest := [.int v_204]) ha_1 rfl mi_J0_charAt_5068e ms_J0_charAt_5068e (p_J0_charAt_5068e hW ha_1 (by first | omega | (simp only [Int32.lt_iff_toInt_lt, Int32.le_iff_toInt_le, Int32.reduceToInt, ← Int32.toInt_inj, true_and, and_true, or_true, true_or, false_or, or_false, false_and, and_false, not_true_eq_false, not_false_eq_true] <;> omega))) mx_J0_charAt_5068e ml_X12_148 (by decide) rfl (cells1 := 0) (slots1 := 0) (by decide) (by decide) (Nat.le_of_ble_eq_true rfl) (Nat.le_of_ble_eq_true rfl) rfl (Nat.le_of_ble_eq_true rfl) dX12_is_64 (fun r_206 L_207 f_208 h_209 => ?_)
            obtain ⟨rfl, rfl, rfl, nr_210⟩ := h_209
            refine v_icmp_ne hC dX12_is_67 (tgt := 74) (by decide) (fun h_213 => ?_) (fun h_213 => ?_)
            · simp only [Int32.lt_iff_toInt_lt, Int32.le_iff_toInt_le, Int32.reduceToInt, ← Int32.toInt_inj] at h_213
              refine v_iconst hC dX12_is_74 (v := 0) (by decide) ?_
              refine v_istore_n hC dX12_is_75 (by decide) (lv' := [(2, .int 0), (3, .int i_172), (0, .ref a_0), (1, .ref (eK E a_1))]) rfl ?_
              obtain ⟨v_214, h_215⟩ : ∃ v9 : Int32, i_172 + Int32.ofInt 1 = v9 := ⟨_, rfl⟩
              have h_216 := add_v (b := 1) h_215 (by first | omega | (simp only [Int32.lt_iff_toInt_lt, Int32.le_iff_toInt_le, Int32.reduceToInt, ← Int32.toInt_inj, true_and, and_true, or_true, true_or, false_or, or_false, false_and, and_false, not_true_eq_false, not_false_eq_true] <;> omega)) (by first | omega | (simp only [Int32.lt_iff_toInt_lt, Int32.le_iff_toInt_le, Int32.reduceToInt, ← Int32.toInt_inj, true_and, and_true, or_true, true_or, false_or, or_false, false_and, and_false, not_true_eq_false, not_false_eq_true] <;> omega))
              simp only [Int32.reduceToInt] at h_216
              refine v_iinc hC dX12_is_76 (k := 1) rfl (v := v_214) h_215 (by decide) (lv' := [(3, .int v_214), (2, .int 0), (0, .ref a_0), (1, .ref (eK E a_1))]) rfl ?_
              refine v_goto hC dX12_is_79 (tgt := 39) (by decide) ?_
              refine v_pick [0, 1, 2, 3] rfl ?_
              have fe_217 : fld (f a_0) 9 = (v_29 : Int32).toInt := by rw [e_21]; rfl
              exact ih_179 v_214 (by first | omega | (simp only [Int32.lt_iff_toInt_lt, Int32.le_iff_toInt_le, Int32.reduceToInt, ← Int32.toInt_inj, true_and, and_true, or_true, true_or, false_or, or_false, false_and, and_false, not_true_eq_false, not_false_eq_true] <;> omega)) 0 (by decide) (cv_176.no (by omega) (by omega) (by omega) (fun q9 => h_213 (congrArg Int32.toInt ((bat_at (t := f (q 4)) e_201 h_205 (k := i_172) (F := fld (f a_0) 9) (by rw [fe_217]; omega) (by rw [fe_217]; omega) (by omega)).symm.trans q9)))) (by first | omega | (simp only [Int32.lt_iff_toInt_lt, Int32.le_iff_toInt_le, Int32.reduceToInt, ← Int32.toInt_inj, true_and, and_true, or_true, true_or, false_or, or_false, false_and, and_false, not_true_eq_false, not_false_eq_true] <;> omega))
            · simp only [Int32.lt_iff_toInt_lt, Int32.le_iff_toInt_le, Int32.reduceToInt, ← Int32.toInt_inj] at h_213
              refine v_iconst hC dX12_is_70 (v := 1) (by decide) ?_
              refine v_goto hC dX12_is_71 (tgt := 75) (by decide) ?_
              refine v_istore_n hC dX12_is_75 (by decide) (lv' := [(2, .int 1), (3, .int i_172), (0, .ref a_0), (1, .ref (eK E a_1))]) rfl ?_
              obtain ⟨v_218, h_219⟩ : ∃ v9 : Int32, i_172 + Int32.ofInt 1 = v9 := ⟨_, rfl⟩
              have h_220 := add_v (b := 1) h_219 (by first | omega | (simp only [Int32.lt_iff_toInt_lt, Int32.le_iff_toInt_le, Int32.reduceToInt, ← Int32.toInt_inj, true_and, and_true, or_true, true_or, false_or, or_false, false_and, and_false, not_true_eq_false, not_false_eq_true] <;> omega)) (by first | omega | (simp only [Int32.lt_iff_toInt_lt, Int32.le_iff_toInt_le, Int32.reduceToInt, ← Int32.toInt_inj, true_and, and_true, or_true, true_or, false_or, or_false, false_and, and_false, not_true_eq_false, not_false_eq_true] <;> omega))
              simp only [Int32.reduceToInt] at h_220
              refine v_iinc hC dX12_is_76 (k := 1) rfl (v := v_218) h_219 (by decide) (lv' := [(3, .int v_218), (2, .int 1), (0, .ref a_0), (1, .ref (eK E a_1))]) rfl ?_
              refine v_goto hC dX12_is_79 (tgt := 39) (by decide) ?_
              refine v_pick [0, 1, 2, 3] rfl ?_
              have fe_221 : fld (f a_0) 9 = (v_29 : Int32).toInt := by rw [e_21]; rfl
              exact ih_179 v_218 (by first | omega | (simp only [Int32.lt_iff_toInt_lt, Int32.le_iff_toInt_le, Int32.reduceToInt, ← Int32.toInt_inj, true_and, and_true, or_true, true_or, false_or, or_false, false_and, and_false, not_true_eq_false, not_false_eq_true] <;> omega)) 1 (by decide) (cv_176.yes (by omega) (by omega) (by omega) ((bat_at (t := f (q 4)) e_201 h_205 (k := i_172) (F := fld (f a_0) 9) (by rw [fe_221]; omega) (by rw [fe_221]; omega) (by omega)).trans (Int32.toInt_inj.mp (by omega)))) (by first | omega | (simp only [Int32.lt_iff_toInt_lt, Int32.le_iff_toInt_le, Int32.reduceToInt, ← Int32.toInt_inj, true_and, and_true, or_true, true_or, false_or, or_false, false_and, and_false, not_true_eq_false, not_false_eq_true] <;> omega))
    refine v_pick [0, 1, 2, 3] rfl ?_
    have fe_222 : fld (f a_0) 8 = (v_27 : Int32).toInt := by rw [e_21]; rfl
    have fe_223 : fld (f a_0) 9 = (v_29 : Int32).toInt := by rw [e_21]; rfl
    have fe_224 : fld (f a_0) 10 = (v_31 : Int32).toInt := by rw [e_21]; rfl
    have fe_225 : fld (f a_0) 12 = (v_34 : Int32).toInt := by rw [e_21]; rfl
    exact lp_177 42 0 (by decide) 0 (by decide) (IWI.s0 (by intro q9; rw [fe_222, fe_223, fe_224, fe_225] at q9; omega)) (by decide)
  · simp only [Int32.lt_iff_toInt_lt, Int32.le_iff_toInt_le, Int32.reduceToInt, ← Int32.toInt_inj] at h_49
    refine v_aload_n hC dX12_is_7 rfl ?_
    refine v_get hC fl_X12_120 m_1 e_21 rfl dX12_is_8 ?_
    refine v_iconst hC dX12_is_11 (v := 1) (by decide) ?_
    refine v_icmp_ne hC dX12_is_12 (tgt := 35) (by decide) (fun h_226 => ?_) (fun h_226 => ?_)
    · simp only [Int32.lt_iff_toInt_lt, Int32.le_iff_toInt_le, Int32.reduceToInt, ← Int32.toInt_inj] at h_226
      refine v_iconst hC dX12_is_35 (v := 0) (by decide) ?_
      refine v_istore_n hC dX12_is_36 (by decide) (lv' := [(2, .int 0), (0, .ref a_0), (1, .ref (eK E a_1))]) rfl ?_
      refine v_iconst hC dX12_is_37 (v := 0) (by decide) ?_
      refine v_istore_n hC dX12_is_38 (by decide) (lv' := [(3, .int 0), (2, .int 0), (0, .ref a_0), (1, .ref (eK E a_1))]) rfl ?_
      have lp_354 : ∀ (n_355 : Nat) (i_349 : Int32) (b_351 : (0 ≤ i_349.toInt ∧ i_349.toInt ≤ 40)) (i_350 : Int32) (b_352 : (0 ≤ i_350.toInt ∧ i_350.toInt ≤ 1)) (cv_353 : IWI (f a_0) (f (q 4)) a_1 i_350 i_349) (hm_357 : 40 - i_349.toInt < (n_355 : Int)), V z E 4 0 0 L f 39 [(3, .int i_349), (2, .int i_350), (0, .ref a_0), (1, .ref (eK E a_1))] [] := by
        intro n_355
        induction n_355 with
        | zero =>
          intro i_349 b_351 i_350 b_352 cv_353 hm_357
          have bs_358 := cv_353.bs
          have fe_359 : fld (f a_0) 8 = (v_27 : Int32).toInt := by rw [e_21]; rfl
          have fe_360 : fld (f a_0) 9 = (v_29 : Int32).toInt := by rw [e_21]; rfl
          have fe_361 : fld (f a_0) 10 = (v_31 : Int32).toInt := by rw [e_21]; rfl
          have fe_362 : fld (f a_0) 12 = (v_34 : Int32).toInt := by rw [e_21]; rfl
          rw [fe_359, fe_360, fe_361, fe_362] at bs_358
          exfalso; omega
        | succ n_355 ih_356 =>
          intro i_349 b_351 i_350 b_352 cv_353 hm_357
          have bs_358 := cv_353.bs
          have fe_359 : fld (f a_0) 8 = (v_27 : Int32).toInt := by rw [e_21]; rfl
          have fe_360 : fld (f a_0) 9 = (v_29 : Int32).toInt := by rw [e_21]; rfl
          have fe_361 : fld (f a_0) 10 = (v_31 : Int32).toInt := by rw [e_21]; rfl
          have fe_362 : fld (f a_0) 12 = (v_34 : Int32).toInt := by rw [e_21]; rfl
          rw [fe_359, fe_360, fe_361, fe_362] at bs_358
          refine v_iload_n hC dX12_is_39 rfl ?_
          refine v_aload_n hC dX12_is_40 rfl ?_
          refine v_viS hC (rest := [.int i_349]) ha_1 rfl mi_J0_length_8abf5 ms_J0_length_8abf5 (p_J0_length_8abf5 hW ha_1) mx_J0_length_8abf5 ml_X12_143 (by decide) rfl (cells1 := 0) (slots1 := 0) (by decide) (by decide) (Nat.le_of_ble_eq_true rfl) (Nat.le_of_ble_eq_true rfl) rfl (Nat.le_of_ble_eq_true rfl) dX12_is_41 (fun r_363 L_364 f_365 h_366 => ?_)
          obtain ⟨rfl, rfl, b_367, x_368⟩ := h_366
          try simp only [Int32.reduceToInt, Int64.reduceToInt] at x_368
          refine v_icmp_ge hC dX12_is_44 (tgt := 82) (by decide) (fun h_371 => ?_) (fun h_371 => ?_)
          · simp only [Int32.lt_iff_toInt_lt, Int32.le_iff_toInt_le, Int32.reduceToInt, ← Int32.toInt_inj] at h_371
            refine v_iload_n hC dX12_is_82 rfl ?_
            exact hR _ _ _ _ _ _ _ dX12_is_83 (nar01 (by first | omega | (simp only [Int32.lt_iff_toInt_lt, Int32.le_iff_toInt_le, Int32.reduceToInt, ← Int32.toInt_inj, true_and, and_true, or_true, true_or, false_or, or_false, false_and, and_false, not_true_eq_false, not_false_eq_true] <;> omega))) (Nat.le_of_ble_eq_true rfl) (Nat.le_of_ble_eq_true rfl) ⟨rfl, rfl, (cv_353.fin (by first | (left; omega) | (right; omega)))⟩
          · simp only [Int32.lt_iff_toInt_lt, Int32.le_iff_toInt_le, Int32.reduceToInt, ← Int32.toInt_inj] at h_371
            refine v_iload_n hC dX12_is_47 rfl ?_
            refine v_if_eq hC dX12_is_48 (tgt := 82) (by decide) (fun h_372 => ?_) (fun h_372 => ?_)
            · simp only [Int32.lt_iff_toInt_lt, Int32.le_iff_toInt_le, Int32.reduceToInt, ← Int32.toInt_inj] at h_372
              refine v_iload_n hC dX12_is_82 rfl ?_
              exact hR _ _ _ _ _ _ _ dX12_is_83 (nar01 (by first | omega | (simp only [Int32.lt_iff_toInt_lt, Int32.le_iff_toInt_le, Int32.reduceToInt, ← Int32.toInt_inj, true_and, and_true, or_true, true_or, false_or, or_false, false_and, and_false, not_true_eq_false, not_false_eq_true] <;> omega))) (Nat.le_of_ble_eq_true rfl) (Nat.le_of_ble_eq_true rfl) ⟨rfl, rfl, (cv_353.fin (by first | (left; omega) | (right; omega)))⟩
            · simp only [Int32.lt_iff_toInt_lt, Int32.le_iff_toInt_le, Int32.reduceToInt, ← Int32.toInt_inj] at h_372
              refine v_aload_n hC dX12_is_51 rfl ?_
              refine v_get hC fl_X12_24 m_1 e_21 rfl dX12_is_52 ?_
              refine v_aload_n hC dX12_is_55 rfl ?_
              refine v_get hC fl_X12_117 m_1 e_21 rfl dX12_is_56 ?_
              refine v_iload_n hC dX12_is_59 rfl ?_
              obtain ⟨v_373, h_374⟩ : ∃ v9 : Int32, v_29 + i_349 = v9 := ⟨_, rfl⟩
              refine v_iadd hC dX12_is_60 h_374 ?_
              have h_375 := add_v h_374 (by first | omega | (simp only [Int32.lt_iff_toInt_lt, Int32.le_iff_toInt_le, Int32.reduceToInt, ← Int32.toInt_inj, true_and, and_true, or_true, true_or, false_or, or_false, false_and, and_false, not_true_eq_false, not_false_eq_true] <;> omega)) (by first | omega | (simp only [Int32.lt_iff_toInt_lt, Int32.le_iff_toInt_le, Int32.reduceToInt, ← Int32.toInt_inj, true_and, and_true, or_true, true_or, false_or, or_false, false_and, and_false, not_true_eq_false, not_false_eq_true] <;> omega))
              obtain ⟨m_376, t_377⟩ := id k_6
              obtain ⟨g_379, e_378, fit_380⟩ := hW.at m_376 t_377
              obtain ⟨v_381, h_382⟩ : ∃ v9 : Int32, g_379 (v_373 : Int32).toNatClampNeg = v9 := ⟨_, rfl⟩
              refine v_bald hC m_376 e_378 (vp_in_iff.mpr (by first | omega | (simp only [Int32.lt_iff_toInt_lt, Int32.le_iff_toInt_le, Int32.reduceToInt, ← Int32.toInt_inj, true_and, and_true, or_true, true_or, false_or, or_false, false_and, and_false, not_true_eq_false, not_false_eq_true] <;> omega))) h_382 dX12_is_61 ?_
              refine v_aload_n hC dX12_is_62 rfl ?_
              refine v_iload_n hC dX12_is_63 rfl ?_
              refine v_viS hC (rest := [.int v_381]) ha_1 rfl mi_J0_charAt_5068e ms_J0_charAt_5068e (p_J0_charAt_5068e hW ha_1 (by first | omega | (simp only [Int32.lt_iff_toInt_lt, Int32.le_iff_toInt_le, Int32.reduceToInt, ← Int32.toInt_inj, true_and, and_true, or_true, true_or, false_or, or_false, false_and, and_false, not_true_eq_false, not_false_eq_true] <;> omega))) mx_J0_charAt_5068e ml_X12_148 (by decide) rfl (cells1 := 0) (slots1 := 0) (by decide) (by decide) (Nat.le_of_ble_eq_true rfl) (Nat.le_of_ble_eq_true rfl) rfl (Nat.le_of_ble_eq_true rfl) dX12_is_64 (fun r_383 L_384 f_385 h_386 => ?_)
              obtain ⟨rfl, rfl, rfl, nr_387⟩ := h_386
              refine v_icmp_ne hC dX12_is_67 (tgt := 74) (by decide) (fun h_390 => ?_) (fun h_390 => ?_)
              · simp only [Int32.lt_iff_toInt_lt, Int32.le_iff_toInt_le, Int32.reduceToInt, ← Int32.toInt_inj] at h_390
                refine v_iconst hC dX12_is_74 (v := 0) (by decide) ?_
                refine v_istore_n hC dX12_is_75 (by decide) (lv' := [(2, .int 0), (3, .int i_349), (0, .ref a_0), (1, .ref (eK E a_1))]) rfl ?_
                obtain ⟨v_391, h_392⟩ : ∃ v9 : Int32, i_349 + Int32.ofInt 1 = v9 := ⟨_, rfl⟩
                have h_393 := add_v (b := 1) h_392 (by first | omega | (simp only [Int32.lt_iff_toInt_lt, Int32.le_iff_toInt_le, Int32.reduceToInt, ← Int32.toInt_inj, true_and, and_true, or_true, true_or, false_or, or_false, false_and, and_false, not_true_eq_false, not_false_eq_true] <;> omega)) (by first | omega | (simp only [Int32.lt_iff_toInt_lt, Int32.le_iff_toInt_le, Int32.reduceToInt, ← Int32.toInt_inj, true_and, and_true, or_true, true_or, false_or, or_false, false_and, and_false, not_true_eq_false, not_false_eq_true] <;> omega))
                simp only [Int32.reduceToInt] at h_393
                refine v_iinc hC dX12_is_76 (k := 1) rfl (v := v_391) h_392 (by decide) (lv' := [(3, .int v_391), (2, .int 0), (0, .ref a_0), (1, .ref (eK E a_1))]) rfl ?_
                refine v_goto hC dX12_is_79 (tgt := 39) (by decide) ?_
                refine v_pick [0, 1, 2, 3] rfl ?_
                have fe_394 : fld (f a_0) 9 = (v_29 : Int32).toInt := by rw [e_21]; rfl
                exact ih_356 v_391 (by first | omega | (simp only [Int32.lt_iff_toInt_lt, Int32.le_iff_toInt_le, Int32.reduceToInt, ← Int32.toInt_inj, true_and, and_true, or_true, true_or, false_or, or_false, false_and, and_false, not_true_eq_false, not_false_eq_true] <;> omega)) 0 (by decide) (cv_353.no (by omega) (by omega) (by omega) (fun q9 => h_390 (congrArg Int32.toInt ((bat_at (t := f (q 4)) e_378 h_382 (k := i_349) (F := fld (f a_0) 9) (by rw [fe_394]; omega) (by rw [fe_394]; omega) (by omega)).symm.trans q9)))) (by first | omega | (simp only [Int32.lt_iff_toInt_lt, Int32.le_iff_toInt_le, Int32.reduceToInt, ← Int32.toInt_inj, true_and, and_true, or_true, true_or, false_or, or_false, false_and, and_false, not_true_eq_false, not_false_eq_true] <;> omega))
              · simp only [Int32.lt_iff_toInt_lt, Int32.le_iff_toInt_le, Int32.reduceToInt, ← Int32.toInt_inj] at h_390
                refine v_iconst hC dX12_is_70 (v := 1) (by decide) ?_
                refine v_goto hC dX12_is_71 (tgt := 75) (by decide) ?_
                refine v_istore_n hC dX12_is_75 (by decide) (lv' := [(2, .int 1), (3, .int i_349), (0, .ref a_0), (1, .ref (eK E a_1))]) rfl ?_
                obtain ⟨v_395, h_396⟩ : ∃ v9 : Int32, i_349 + Int32.ofInt 1 = v9 := ⟨_, rfl⟩
                have h_397 := add_v (b := 1) h_396 (by first | omega | (simp only [Int32.lt_iff_toInt_lt, Int32.le_iff_toInt_le, Int32.reduceToInt, ← Int32.toInt_inj, true_and, and_true, or_true, true_or, false_or, or_false, false_and, and_false, not_true_eq_false, not_false_eq_true] <;> omega)) (by first | omega | (simp only [Int32.lt_iff_toInt_lt, Int32.le_iff_toInt_le, Int32.reduceToInt, ← Int32.toInt_inj, true_and, and_true, or_true, true_or, false_or, or_false, false_and, and_false, not_true_eq_false, not_false_eq_true] <;> omega))
                simp only [Int32.reduceToInt] at h_397
                refine v_iinc hC dX12_is_76 (k := 1) rfl (v := v_395) h_396 (by decide) (lv' := [(3, .int v_395), (2, .int 1), (0, .ref a_0), (1, .ref (eK E a_1))]) rfl ?_
                refine v_goto hC dX12_is_79 (tgt := 39) (by decide) ?_
                refine v_pick [0, 1, 2, 3] rfl ?_
                have fe_398 : fld (f a_0) 9 = (v_29 : Int32).toInt := by rw [e_21]; rfl
                exact ih_356 v_395 (by first | omega | (simp only [Int32.lt_iff_toInt_lt, Int32.le_iff_toInt_le, Int32.reduceToInt, ← Int32.toInt_inj, true_and, and_true, or_true, true_or, false_or, or_false, false_and, and_false, not_true_eq_false, not_false_eq_true] <;> omega)) 1 (by decide) (cv_353.yes (by omega) (by omega) (by omega) ((bat_at (t := f (q 4)) e_378 h_382 (k := i_349) (F := fld (f a_0) 9) (by rw [fe_398]; omega) (by rw [fe_398]; omega) (by omega)).trans (Int32.toInt_inj.mp (by omega)))) (by first | omega | (simp only [Int32.lt_iff_toInt_lt, Int32.le_iff_toInt_le, Int32.reduceToInt, ← Int32.toInt_inj, true_and, and_true, or_true, true_or, false_or, or_false, false_and, and_false, not_true_eq_false, not_false_eq_true] <;> omega))
      refine v_pick [0, 1, 2, 3] rfl ?_
      have fe_399 : fld (f a_0) 8 = (v_27 : Int32).toInt := by rw [e_21]; rfl
      have fe_400 : fld (f a_0) 9 = (v_29 : Int32).toInt := by rw [e_21]; rfl
      have fe_401 : fld (f a_0) 10 = (v_31 : Int32).toInt := by rw [e_21]; rfl
      have fe_402 : fld (f a_0) 12 = (v_34 : Int32).toInt := by rw [e_21]; rfl
      exact lp_354 42 0 (by decide) 0 (by decide) (IWI.s0 (by intro q9; rw [fe_399, fe_400, fe_401, fe_402] at q9; omega)) (by decide)
    · simp only [Int32.lt_iff_toInt_lt, Int32.le_iff_toInt_le, Int32.reduceToInt, ← Int32.toInt_inj] at h_226
      refine v_aload_n hC dX12_is_15 rfl ?_
      refine v_get hC fl_X12_108 m_1 e_21 rfl dX12_is_16 ?_
      refine v_aload_n hC dX12_is_19 rfl ?_
      refine v_get hC fl_X12_117 m_1 e_21 rfl dX12_is_20 ?_
      obtain ⟨v_403, h_404⟩ : ∃ v9 : Int32, v_27 - v_29 = v9 := ⟨_, rfl⟩
      refine v_isub hC dX12_is_23 h_404 ?_
      have h_405 := sub_v h_404 (by first | omega | (simp only [Int32.lt_iff_toInt_lt, Int32.le_iff_toInt_le, Int32.reduceToInt, ← Int32.toInt_inj, true_and, and_true, or_true, true_or, false_or, or_false, false_and, and_false, not_true_eq_false, not_false_eq_true] <;> omega)) (by first | omega | (simp only [Int32.lt_iff_toInt_lt, Int32.le_iff_toInt_le, Int32.reduceToInt, ← Int32.toInt_inj, true_and, and_true, or_true, true_or, false_or, or_false, false_and, and_false, not_true_eq_false, not_false_eq_true] <;> omega))
      refine v_aload_n hC dX12_is_24 rfl ?_
      refine v_viS hC (rest := [.int v_403]) ha_1 rfl mi_J0_length_8abf5 ms_J0_length_8abf5 (p_J0_length_8abf5 hW ha_1) mx_J0_length_8abf5 ml_X12_143 (by decide) rfl (cells1 := 0) (slots1 := 0) (by decide) (by decide) (Nat.le_of_ble_eq_true rfl) (Nat.le_of_ble_eq_true rfl) rfl (Nat.le_of_ble_eq_true rfl) dX12_is_25 (fun r_406 L_407 f_408 h_409 => ?_)
      obtain ⟨rfl, rfl, b_410, x_411⟩ := h_409
      try simp only [Int32.reduceToInt, Int64.reduceToInt] at x_411
      refine v_icmp_ne hC dX12_is_28 (tgt := 35) (by decide) (fun h_414 => ?_) (fun h_414 => ?_)
      · simp only [Int32.lt_iff_toInt_lt, Int32.le_iff_toInt_le, Int32.reduceToInt, ← Int32.toInt_inj] at h_414
        refine v_iconst hC dX12_is_35 (v := 0) (by decide) ?_
        refine v_istore_n hC dX12_is_36 (by decide) (lv' := [(2, .int 0), (0, .ref a_0), (1, .ref (eK E a_1))]) rfl ?_
        refine v_iconst hC dX12_is_37 (v := 0) (by decide) ?_
        refine v_istore_n hC dX12_is_38 (by decide) (lv' := [(3, .int 0), (2, .int 0), (0, .ref a_0), (1, .ref (eK E a_1))]) rfl ?_
        have lp_542 : ∀ (n_543 : Nat) (i_537 : Int32) (b_539 : (0 ≤ i_537.toInt ∧ i_537.toInt ≤ 40)) (i_538 : Int32) (b_540 : (0 ≤ i_538.toInt ∧ i_538.toInt ≤ 1)) (cv_541 : IWI (f a_0) (f (q 4)) a_1 i_538 i_537) (hm_545 : 40 - i_537.toInt < (n_543 : Int)), V z E 4 0 0 L f 39 [(3, .int i_537), (2, .int i_538), (0, .ref a_0), (1, .ref (eK E a_1))] [] := by
          intro n_543
          induction n_543 with
          | zero =>
            intro i_537 b_539 i_538 b_540 cv_541 hm_545
            have bs_546 := cv_541.bs
            have fe_547 : fld (f a_0) 8 = (v_27 : Int32).toInt := by rw [e_21]; rfl
            have fe_548 : fld (f a_0) 9 = (v_29 : Int32).toInt := by rw [e_21]; rfl
            have fe_549 : fld (f a_0) 10 = (v_31 : Int32).toInt := by rw [e_21]; rfl
            have fe_550 : fld (f a_0) 12 = (v_34 : Int32).toInt := by rw [e_21]; rfl
            rw [fe_547, fe_548, fe_549, fe_550] at bs_546
            exfalso; omega
          | succ n_543 ih_544 =>
            intro i_537 b_539 i_538 b_540 cv_541 hm_545
            have bs_546 := cv_541.bs
            have fe_547 : fld (f a_0) 8 = (v_27 : Int32).toInt := by rw [e_21]; rfl
            have fe_548 : fld (f a_0) 9 = (v_29 : Int32).toInt := by rw [e_21]; rfl
            have fe_549 : fld (f a_0) 10 = (v_31 : Int32).toInt := by rw [e_21]; rfl
            have fe_550 : fld (f a_0) 12 = (v_34 : Int32).toInt := by rw [e_21]; rfl
            rw [fe_547, fe_548, fe_549, fe_550] at bs_546
            refine v_iload_n hC dX12_is_39 rfl ?_
            refine v_aload_n hC dX12_is_40 rfl ?_
            refine v_viS hC (rest := [.int i_537]) ha_1 rfl mi_J0_length_8abf5 ms_J0_length_8abf5 (p_J0_length_8abf5 hW ha_1) mx_J0_length_8abf5 ml_X12_143 (by decide) rfl (cells1 := 0) (slots1 := 0) (by decide) (by decide) (Nat.le_of_ble_eq_true rfl) (Nat.le_of_ble_eq_true rfl) rfl (Nat.le_of_ble_eq_true rfl) dX12_is_41 (fun r_551 L_552 f_553 h_554 => ?_)
            obtain ⟨rfl, rfl, b_555, x_556⟩ := h_554
            try simp only [Int32.reduceToInt, Int64.reduceToInt] at x_556
            refine v_icmp_ge hC dX12_is_44 (tgt := 82) (by decide) (fun h_559 => ?_) (fun h_559 => ?_)
            · simp only [Int32.lt_iff_toInt_lt, Int32.le_iff_toInt_le, Int32.reduceToInt, ← Int32.toInt_inj] at h_559
              refine v_iload_n hC dX12_is_82 rfl ?_
              exact hR _ _ _ _ _ _ _ dX12_is_83 (nar01 (by first | omega | (simp only [Int32.lt_iff_toInt_lt, Int32.le_iff_toInt_le, Int32.reduceToInt, ← Int32.toInt_inj, true_and, and_true, or_true, true_or, false_or, or_false, false_and, and_false, not_true_eq_false, not_false_eq_true] <;> omega))) (Nat.le_of_ble_eq_true rfl) (Nat.le_of_ble_eq_true rfl) ⟨rfl, rfl, (cv_541.fin (by first | (left; omega) | (right; omega)))⟩
            · simp only [Int32.lt_iff_toInt_lt, Int32.le_iff_toInt_le, Int32.reduceToInt, ← Int32.toInt_inj] at h_559
              refine v_iload_n hC dX12_is_47 rfl ?_
              refine v_if_eq hC dX12_is_48 (tgt := 82) (by decide) (fun h_560 => ?_) (fun h_560 => ?_)
              · simp only [Int32.lt_iff_toInt_lt, Int32.le_iff_toInt_le, Int32.reduceToInt, ← Int32.toInt_inj] at h_560
                refine v_iload_n hC dX12_is_82 rfl ?_
                exact hR _ _ _ _ _ _ _ dX12_is_83 (nar01 (by first | omega | (simp only [Int32.lt_iff_toInt_lt, Int32.le_iff_toInt_le, Int32.reduceToInt, ← Int32.toInt_inj, true_and, and_true, or_true, true_or, false_or, or_false, false_and, and_false, not_true_eq_false, not_false_eq_true] <;> omega))) (Nat.le_of_ble_eq_true rfl) (Nat.le_of_ble_eq_true rfl) ⟨rfl, rfl, (cv_541.fin (by first | (left; omega) | (right; omega)))⟩
              · simp only [Int32.lt_iff_toInt_lt, Int32.le_iff_toInt_le, Int32.reduceToInt, ← Int32.toInt_inj] at h_560
                refine v_aload_n hC dX12_is_51 rfl ?_
                refine v_get hC fl_X12_24 m_1 e_21 rfl dX12_is_52 ?_
                refine v_aload_n hC dX12_is_55 rfl ?_
                refine v_get hC fl_X12_117 m_1 e_21 rfl dX12_is_56 ?_
                refine v_iload_n hC dX12_is_59 rfl ?_
                obtain ⟨v_561, h_562⟩ : ∃ v9 : Int32, v_29 + i_537 = v9 := ⟨_, rfl⟩
                refine v_iadd hC dX12_is_60 h_562 ?_
                have h_563 := add_v h_562 (by first | omega | (simp only [Int32.lt_iff_toInt_lt, Int32.le_iff_toInt_le, Int32.reduceToInt, ← Int32.toInt_inj, true_and, and_true, or_true, true_or, false_or, or_false, false_and, and_false, not_true_eq_false, not_false_eq_true] <;> omega)) (by first | omega | (simp only [Int32.lt_iff_toInt_lt, Int32.le_iff_toInt_le, Int32.reduceToInt, ← Int32.toInt_inj, true_and, and_true, or_true, true_or, false_or, or_false, false_and, and_false, not_true_eq_false, not_false_eq_true] <;> omega))
                obtain ⟨m_564, t_565⟩ := id k_6
                obtain ⟨g_567, e_566, fit_568⟩ := hW.at m_564 t_565
                obtain ⟨v_569, h_570⟩ : ∃ v9 : Int32, g_567 (v_561 : Int32).toNatClampNeg = v9 := ⟨_, rfl⟩
                refine v_bald hC m_564 e_566 (vp_in_iff.mpr (by first | omega | (simp only [Int32.lt_iff_toInt_lt, Int32.le_iff_toInt_le, Int32.reduceToInt, ← Int32.toInt_inj, true_and, and_true, or_true, true_or, false_or, or_false, false_and, and_false, not_true_eq_false, not_false_eq_true] <;> omega))) h_570 dX12_is_61 ?_
                refine v_aload_n hC dX12_is_62 rfl ?_
                refine v_iload_n hC dX12_is_63 rfl ?_
                refine v_viS hC (rest := [.int v_569]) ha_1 rfl mi_J0_charAt_5068e ms_J0_charAt_5068e (p_J0_charAt_5068e hW ha_1 (by first | omega | (simp only [Int32.lt_iff_toInt_lt, Int32.le_iff_toInt_le, Int32.reduceToInt, ← Int32.toInt_inj, true_and, and_true, or_true, true_or, false_or, or_false, false_and, and_false, not_true_eq_false, not_false_eq_true] <;> omega))) mx_J0_charAt_5068e ml_X12_148 (by decide) rfl (cells1 := 0) (slots1 := 0) (by decide) (by decide) (Nat.le_of_ble_eq_true rfl) (Nat.le_of_ble_eq_true rfl) rfl (Nat.le_of_ble_eq_true rfl) dX12_is_64 (fun r_571 L_572 f_573 h_574 => ?_)
                obtain ⟨rfl, rfl, rfl, nr_575⟩ := h_574
                refine v_icmp_ne hC dX12_is_67 (tgt := 74) (by decide) (fun h_578 => ?_) (fun h_578 => ?_)
                · simp only [Int32.lt_iff_toInt_lt, Int32.le_iff_toInt_le, Int32.reduceToInt, ← Int32.toInt_inj] at h_578
                  refine v_iconst hC dX12_is_74 (v := 0) (by decide) ?_
                  refine v_istore_n hC dX12_is_75 (by decide) (lv' := [(2, .int 0), (3, .int i_537), (0, .ref a_0), (1, .ref (eK E a_1))]) rfl ?_
                  obtain ⟨v_579, h_580⟩ : ∃ v9 : Int32, i_537 + Int32.ofInt 1 = v9 := ⟨_, rfl⟩
                  have h_581 := add_v (b := 1) h_580 (by first | omega | (simp only [Int32.lt_iff_toInt_lt, Int32.le_iff_toInt_le, Int32.reduceToInt, ← Int32.toInt_inj, true_and, and_true, or_true, true_or, false_or, or_false, false_and, and_false, not_true_eq_false, not_false_eq_true] <;> omega)) (by first | omega | (simp only [Int32.lt_iff_toInt_lt, Int32.le_iff_toInt_le, Int32.reduceToInt, ← Int32.toInt_inj, true_and, and_true, or_true, true_or, false_or, or_false, false_and, and_false, not_true_eq_false, not_false_eq_true] <;> omega))
                  simp only [Int32.reduceToInt] at h_581
                  refine v_iinc hC dX12_is_76 (k := 1) rfl (v := v_579) h_580 (by decide) (lv' := [(3, .int v_579), (2, .int 0), (0, .ref a_0), (1, .ref (eK E a_1))]) rfl ?_
                  refine v_goto hC dX12_is_79 (tgt := 39) (by decide) ?_
                  refine v_pick [0, 1, 2, 3] rfl ?_
                  have fe_582 : fld (f a_0) 9 = (v_29 : Int32).toInt := by rw [e_21]; rfl
                  exact ih_544 v_579 (by first | omega | (simp only [Int32.lt_iff_toInt_lt, Int32.le_iff_toInt_le, Int32.reduceToInt, ← Int32.toInt_inj, true_and, and_true, or_true, true_or, false_or, or_false, false_and, and_false, not_true_eq_false, not_false_eq_true] <;> omega)) 0 (by decide) (cv_541.no (by omega) (by omega) (by omega) (fun q9 => h_578 (congrArg Int32.toInt ((bat_at (t := f (q 4)) e_566 h_570 (k := i_537) (F := fld (f a_0) 9) (by rw [fe_582]; omega) (by rw [fe_582]; omega) (by omega)).symm.trans q9)))) (by first | omega | (simp only [Int32.lt_iff_toInt_lt, Int32.le_iff_toInt_le, Int32.reduceToInt, ← Int32.toInt_inj, true_and, and_true, or_true, true_or, false_or, or_false, false_and, and_false, not_true_eq_false, not_false_eq_true] <;> omega))
                · simp only [Int32.lt_iff_toInt_lt, Int32.le_iff_toInt_le, Int32.reduceToInt, ← Int32.toInt_inj] at h_578
                  refine v_iconst hC dX12_is_70 (v := 1) (by decide) ?_
                  refine v_goto hC dX12_is_71 (tgt := 75) (by decide) ?_
                  refine v_istore_n hC dX12_is_75 (by decide) (lv' := [(2, .int 1), (3, .int i_537), (0, .ref a_0), (1, .ref (eK E a_1))]) rfl ?_
                  obtain ⟨v_583, h_584⟩ : ∃ v9 : Int32, i_537 + Int32.ofInt 1 = v9 := ⟨_, rfl⟩
                  have h_585 := add_v (b := 1) h_584 (by first | omega | (simp only [Int32.lt_iff_toInt_lt, Int32.le_iff_toInt_le, Int32.reduceToInt, ← Int32.toInt_inj, true_and, and_true, or_true, true_or, false_or, or_false, false_and, and_false, not_true_eq_false, not_false_eq_true] <;> omega)) (by first | omega | (simp only [Int32.lt_iff_toInt_lt, Int32.le_iff_toInt_le, Int32.reduceToInt, ← Int32.toInt_inj, true_and, and_true, or_true, true_or, false_or, or_false, false_and, and_false, not_true_eq_false, not_false_eq_true] <;> omega))
                  simp only [Int32.reduceToInt] at h_585
                  refine v_iinc hC dX12_is_76 (k := 1) rfl (v := v_583) h_584 (by decide) (lv' := [(3, .int v_583), (2, .int 1), (0, .ref a_0), (1, .ref (eK E a_1))]) rfl ?_
                  refine v_goto hC dX12_is_79 (tgt := 39) (by decide) ?_
                  refine v_pick [0, 1, 2, 3] rfl ?_
                  have fe_586 : fld (f a_0) 9 = (v_29 : Int32).toInt := by rw [e_21]; rfl
                  exact ih_544 v_583 (by first | omega | (simp only [Int32.lt_iff_toInt_lt, Int32.le_iff_toInt_le, Int32.reduceToInt, ← Int32.toInt_inj, true_and, and_true, or_true, true_or, false_or, or_false, false_and, and_false, not_true_eq_false, not_false_eq_true] <;> omega)) 1 (by decide) (cv_541.yes (by omega) (by omega) (by omega) ((bat_at (t := f (q 4)) e_566 h_570 (k := i_537) (F := fld (f a_0) 9) (by rw [fe_586]; omega) (by rw [fe_586]; omega) (by omega)).trans (Int32.toInt_inj.mp (by omega)))) (by first | omega | (simp only [Int32.lt_iff_toInt_lt, Int32.le_iff_toInt_le, Int32.reduceToInt, ← Int32.toInt_inj, true_and, and_true, or_true, true_or, false_or, or_false, false_and, and_false, not_true_eq_false, not_false_eq_true] <;> omega))
        refine v_pick [0, 1, 2, 3] rfl ?_
        have fe_587 : fld (f a_0) 8 = (v_27 : Int32).toInt := by rw [e_21]; rfl
        have fe_588 : fld (f a_0) 9 = (v_29 : Int32).toInt := by rw [e_21]; rfl
        have fe_589 : fld (f a_0) 10 = (v_31 : Int32).toInt := by rw [e_21]; rfl
        have fe_590 : fld (f a_0) 12 = (v_34 : Int32).toInt := by rw [e_21]; rfl
        exact lp_542 42 0 (by decide) 0 (by decide) (IWI.s0 (by intro q9; rw [fe_587, fe_588, fe_589, fe_590] at q9; omega)) (by decide)
      · simp only [Int32.lt_iff_toInt_lt, Int32.le_iff_toInt_le, Int32.reduceToInt, ← Int32.toInt_inj] at h_414
        refine v_iconst hC dX12_is_31 (v := 1) (by decide) ?_
        refine v_goto hC dX12_is_32 (tgt := 36) (by decide) ?_
        refine v_istore_n hC dX12_is_36 (by decide) (lv' := [(2, .int 1), (0, .ref a_0), (1, .ref (eK E a_1))]) rfl ?_
        refine v_iconst hC dX12_is_37 (v := 0) (by decide) ?_
        refine v_istore_n hC dX12_is_38 (by decide) (lv' := [(3, .int 0), (2, .int 1), (0, .ref a_0), (1, .ref (eK E a_1))]) rfl ?_
        have lp_718 : ∀ (n_719 : Nat) (i_713 : Int32) (b_715 : (0 ≤ i_713.toInt ∧ i_713.toInt ≤ 40)) (i_714 : Int32) (b_716 : (0 ≤ i_714.toInt ∧ i_714.toInt ≤ 1)) (cv_717 : IWI (f a_0) (f (q 4)) a_1 i_714 i_713) (hm_721 : 40 - i_713.toInt < (n_719 : Int)), V z E 4 0 0 L f 39 [(3, .int i_713), (2, .int i_714), (0, .ref a_0), (1, .ref (eK E a_1))] [] := by
          intro n_719
          induction n_719 with
          | zero =>
            intro i_713 b_715 i_714 b_716 cv_717 hm_721
            have bs_722 := cv_717.bs
            have fe_723 : fld (f a_0) 8 = (v_27 : Int32).toInt := by rw [e_21]; rfl
            have fe_724 : fld (f a_0) 9 = (v_29 : Int32).toInt := by rw [e_21]; rfl
            have fe_725 : fld (f a_0) 10 = (v_31 : Int32).toInt := by rw [e_21]; rfl
            have fe_726 : fld (f a_0) 12 = (v_34 : Int32).toInt := by rw [e_21]; rfl
            rw [fe_723, fe_724, fe_725, fe_726] at bs_722
            exfalso; omega
          | succ n_719 ih_720 =>
            intro i_713 b_715 i_714 b_716 cv_717 hm_721
            have bs_722 := cv_717.bs
            have fe_723 : fld (f a_0) 8 = (v_27 : Int32).toInt := by rw [e_21]; rfl
            have fe_724 : fld (f a_0) 9 = (v_29 : Int32).toInt := by rw [e_21]; rfl
            have fe_725 : fld (f a_0) 10 = (v_31 : Int32).toInt := by rw [e_21]; rfl
            have fe_726 : fld (f a_0) 12 = (v_34 : Int32).toInt := by rw [e_21]; rfl
            rw [fe_723, fe_724, fe_725, fe_726] at bs_722
            refine v_iload_n hC dX12_is_39 rfl ?_
            refine v_aload_n hC dX12_is_40 rfl ?_
            refine v_viS hC (rest := [.int i_713]) ha_1 rfl mi_J0_length_8abf5 ms_J0_length_8abf5 (p_J0_length_8abf5 hW ha_1) mx_J0_length_8abf5 ml_X12_143 (by decide) rfl (cells1 := 0) (slots1 := 0) (by decide) (by decide) (Nat.le_of_ble_eq_true rfl) (Nat.le_of_ble_eq_true rfl) rfl (Nat.le_of_ble_eq_true rfl) dX12_is_41 (fun r_727 L_728 f_729 h_730 => ?_)
            obtain ⟨rfl, rfl, b_731, x_732⟩ := h_730
            try simp only [Int32.reduceToInt, Int64.reduceToInt] at x_732
            refine v_icmp_ge hC dX12_is_44 (tgt := 82) (by decide) (fun h_735 => ?_) (fun h_735 => ?_)
            · simp only [Int32.lt_iff_toInt_lt, Int32.le_iff_toInt_le, Int32.reduceToInt, ← Int32.toInt_inj] at h_735
              refine v_iload_n hC dX12_is_82 rfl ?_
              exact hR _ _ _ _ _ _ _ dX12_is_83 (nar01 (by first | omega | (simp only [Int32.lt_iff_toInt_lt, Int32.le_iff_toInt_le, Int32.reduceToInt, ← Int32.toInt_inj, true_and, and_true, or_true, true_or, false_or, or_false, false_and, and_false, not_true_eq_false, not_false_eq_true] <;> omega))) (Nat.le_of_ble_eq_true rfl) (Nat.le_of_ble_eq_true rfl) ⟨rfl, rfl, (cv_717.fin (by first | (left; omega) | (right; omega)))⟩
            · simp only [Int32.lt_iff_toInt_lt, Int32.le_iff_toInt_le, Int32.reduceToInt, ← Int32.toInt_inj] at h_735
              refine v_iload_n hC dX12_is_47 rfl ?_
              refine v_if_eq hC dX12_is_48 (tgt := 82) (by decide) (fun h_736 => ?_) (fun h_736 => ?_)
              · simp only [Int32.lt_iff_toInt_lt, Int32.le_iff_toInt_le, Int32.reduceToInt, ← Int32.toInt_inj] at h_736
                refine v_iload_n hC dX12_is_82 rfl ?_
                exact hR _ _ _ _ _ _ _ dX12_is_83 (nar01 (by first | omega | (simp only [Int32.lt_iff_toInt_lt, Int32.le_iff_toInt_le, Int32.reduceToInt, ← Int32.toInt_inj, true_and, and_true, or_true, true_or, false_or, or_false, false_and, and_false, not_true_eq_false, not_false_eq_true] <;> omega))) (Nat.le_of_ble_eq_true rfl) (Nat.le_of_ble_eq_true rfl) ⟨rfl, rfl, (cv_717.fin (by first | (left; omega) | (right; omega)))⟩
              · simp only [Int32.lt_iff_toInt_lt, Int32.le_iff_toInt_le, Int32.reduceToInt, ← Int32.toInt_inj] at h_736
                refine v_aload_n hC dX12_is_51 rfl ?_
                refine v_get hC fl_X12_24 m_1 e_21 rfl dX12_is_52 ?_
                refine v_aload_n hC dX12_is_55 rfl ?_
                refine v_get hC fl_X12_117 m_1 e_21 rfl dX12_is_56 ?_
                refine v_iload_n hC dX12_is_59 rfl ?_
                obtain ⟨v_737, h_738⟩ : ∃ v9 : Int32, v_29 + i_713 = v9 := ⟨_, rfl⟩
                refine v_iadd hC dX12_is_60 h_738 ?_
                have h_739 := add_v h_738 (by first | omega | (simp only [Int32.lt_iff_toInt_lt, Int32.le_iff_toInt_le, Int32.reduceToInt, ← Int32.toInt_inj, true_and, and_true, or_true, true_or, false_or, or_false, false_and, and_false, not_true_eq_false, not_false_eq_true] <;> omega)) (by first | omega | (simp only [Int32.lt_iff_toInt_lt, Int32.le_iff_toInt_le, Int32.reduceToInt, ← Int32.toInt_inj, true_and, and_true, or_true, true_or, false_or, or_false, false_and, and_false, not_true_eq_false, not_false_eq_true] <;> omega))
                obtain ⟨m_740, t_741⟩ := id k_6
                obtain ⟨g_743, e_742, fit_744⟩ := hW.at m_740 t_741
                obtain ⟨v_745, h_746⟩ : ∃ v9 : Int32, g_743 (v_737 : Int32).toNatClampNeg = v9 := ⟨_, rfl⟩
                refine v_bald hC m_740 e_742 (vp_in_iff.mpr (by first | omega | (simp only [Int32.lt_iff_toInt_lt, Int32.le_iff_toInt_le, Int32.reduceToInt, ← Int32.toInt_inj, true_and, and_true, or_true, true_or, false_or, or_false, false_and, and_false, not_true_eq_false, not_false_eq_true] <;> omega))) h_746 dX12_is_61 ?_
                refine v_aload_n hC dX12_is_62 rfl ?_
                refine v_iload_n hC dX12_is_63 rfl ?_
                refine v_viS hC (rest := [.int v_745]) ha_1 rfl mi_J0_charAt_5068e ms_J0_charAt_5068e (p_J0_charAt_5068e hW ha_1 (by first | omega | (simp only [Int32.lt_iff_toInt_lt, Int32.le_iff_toInt_le, Int32.reduceToInt, ← Int32.toInt_inj, true_and, and_true, or_true, true_or, false_or, or_false, false_and, and_false, not_true_eq_false, not_false_eq_true] <;> omega))) mx_J0_charAt_5068e ml_X12_148 (by decide) rfl (cells1 := 0) (slots1 := 0) (by decide) (by decide) (Nat.le_of_ble_eq_true rfl) (Nat.le_of_ble_eq_true rfl) rfl (Nat.le_of_ble_eq_true rfl) dX12_is_64 (fun r_747 L_748 f_749 h_750 => ?_)
                obtain ⟨rfl, rfl, rfl, nr_751⟩ := h_750
                refine v_icmp_ne hC dX12_is_67 (tgt := 74) (by decide) (fun h_754 => ?_) (fun h_754 => ?_)
                · simp only [Int32.lt_iff_toInt_lt, Int32.le_iff_toInt_le, Int32.reduceToInt, ← Int32.toInt_inj] at h_754
                  refine v_iconst hC dX12_is_74 (v := 0) (by decide) ?_
                  refine v_istore_n hC dX12_is_75 (by decide) (lv' := [(2, .int 0), (3, .int i_713), (0, .ref a_0), (1, .ref (eK E a_1))]) rfl ?_
                  obtain ⟨v_755, h_756⟩ : ∃ v9 : Int32, i_713 + Int32.ofInt 1 = v9 := ⟨_, rfl⟩
                  have h_757 := add_v (b := 1) h_756 (by first | omega | (simp only [Int32.lt_iff_toInt_lt, Int32.le_iff_toInt_le, Int32.reduceToInt, ← Int32.toInt_inj, true_and, and_true, or_true, true_or, false_or, or_false, false_and, and_false, not_true_eq_false, not_false_eq_true] <;> omega)) (by first | omega | (simp only [Int32.lt_iff_toInt_lt, Int32.le_iff_toInt_le, Int32.reduceToInt, ← Int32.toInt_inj, true_and, and_true, or_true, true_or, false_or, or_false, false_and, and_false, not_true_eq_false, not_false_eq_true] <;> omega))
                  simp only [Int32.reduceToInt] at h_757
                  refine v_iinc hC dX12_is_76 (k := 1) rfl (v := v_755) h_756 (by decide) (lv' := [(3, .int v_755), (2, .int 0), (0, .ref a_0), (1, .ref (eK E a_1))]) rfl ?_
                  refine v_goto hC dX12_is_79 (tgt := 39) (by decide) ?_
                  refine v_pick [0, 1, 2, 3] rfl ?_
                  have fe_758 : fld (f a_0) 9 = (v_29 : Int32).toInt := by rw [e_21]; rfl
                  exact ih_720 v_755 (by first | omega | (simp only [Int32.lt_iff_toInt_lt, Int32.le_iff_toInt_le, Int32.reduceToInt, ← Int32.toInt_inj, true_and, and_true, or_true, true_or, false_or, or_false, false_and, and_false, not_true_eq_false, not_false_eq_true] <;> omega)) 0 (by decide) (cv_717.no (by omega) (by omega) (by omega) (fun q9 => h_754 (congrArg Int32.toInt ((bat_at (t := f (q 4)) e_742 h_746 (k := i_713) (F := fld (f a_0) 9) (by rw [fe_758]; omega) (by rw [fe_758]; omega) (by omega)).symm.trans q9)))) (by first | omega | (simp only [Int32.lt_iff_toInt_lt, Int32.le_iff_toInt_le, Int32.reduceToInt, ← Int32.toInt_inj, true_and, and_true, or_true, true_or, false_or, or_false, false_and, and_false, not_true_eq_false, not_false_eq_true] <;> omega))
                · simp only [Int32.lt_iff_toInt_lt, Int32.le_iff_toInt_le, Int32.reduceToInt, ← Int32.toInt_inj] at h_754
                  refine v_iconst hC dX12_is_70 (v := 1) (by decide) ?_
                  refine v_goto hC dX12_is_71 (tgt := 75) (by decide) ?_
                  refine v_istore_n hC dX12_is_75 (by decide) (lv' := [(2, .int 1), (3, .int i_713), (0, .ref a_0), (1, .ref (eK E a_1))]) rfl ?_
                  obtain ⟨v_759, h_760⟩ : ∃ v9 : Int32, i_713 + Int32.ofInt 1 = v9 := ⟨_, rfl⟩
                  have h_761 := add_v (b := 1) h_760 (by first | omega | (simp only [Int32.lt_iff_toInt_lt, Int32.le_iff_toInt_le, Int32.reduceToInt, ← Int32.toInt_inj, true_and, and_true, or_true, true_or, false_or, or_false, false_and, and_false, not_true_eq_false, not_false_eq_true] <;> omega)) (by first | omega | (simp only [Int32.lt_iff_toInt_lt, Int32.le_iff_toInt_le, Int32.reduceToInt, ← Int32.toInt_inj, true_and, and_true, or_true, true_or, false_or, or_false, false_and, and_false, not_true_eq_false, not_false_eq_true] <;> omega))
                  simp only [Int32.reduceToInt] at h_761
                  refine v_iinc hC dX12_is_76 (k := 1) rfl (v := v_759) h_760 (by decide) (lv' := [(3, .int v_759), (2, .int 1), (0, .ref a_0), (1, .ref (eK E a_1))]) rfl ?_
                  refine v_goto hC dX12_is_79 (tgt := 39) (by decide) ?_
                  refine v_pick [0, 1, 2, 3] rfl ?_
                  have fe_762 : fld (f a_0) 9 = (v_29 : Int32).toInt := by rw [e_21]; rfl
                  exact ih_720 v_759 (by first | omega | (simp only [Int32.lt_iff_toInt_lt, Int32.le_iff_toInt_le, Int32.reduceToInt, ← Int32.toInt_inj, true_and, and_true, or_true, true_or, false_or, or_false, false_and, and_false, not_true_eq_false, not_false_eq_true] <;> omega)) 1 (by decide) (cv_717.yes (by omega) (by omega) (by omega) ((bat_at (t := f (q 4)) e_742 h_746 (k := i_713) (F := fld (f a_0) 9) (by rw [fe_762]; omega) (by rw [fe_762]; omega) (by omega)).trans (Int32.toInt_inj.mp (by omega)))) (by first | omega | (simp only [Int32.lt_iff_toInt_lt, Int32.le_iff_toInt_le, Int32.reduceToInt, ← Int32.toInt_inj, true_and, and_true, or_true, true_or, false_or, or_false, false_and, and_false, not_true_eq_false, not_false_eq_true] <;> omega))
        refine v_pick [0, 1, 2, 3] rfl ?_
        have fe_763 : fld (f a_0) 8 = (v_27 : Int32).toInt := by rw [e_21]; rfl
        have fe_764 : fld (f a_0) 9 = (v_29 : Int32).toInt := by rw [e_21]; rfl
        have fe_765 : fld (f a_0) 10 = (v_31 : Int32).toInt := by rw [e_21]; rfl
        have fe_766 : fld (f a_0) 12 = (v_34 : Int32).toInt := by rw [e_21]; rfl
        exact lp_718 42 0 (by decide) 1 (by decide) (IWI.s1 (by rw [fe_766]; omega) (by rw [fe_765]; omega) (by rw [fe_763, fe_764]; omega)) (by decide)
set_option maxRecDepth 100000 in
set_option maxHeartbeats 4000000 in
theorem p_X12_takes {l : Launch} {E : Ez} {L : List Nat} {f : Nat → va_E} {T : Nat → va_E → Prop} {a_0 : Nat} {a_1 : Nat} {q : Nat → Nat} (hW : WT T L f) (k_0 : isM T L E a_0 q) (ha_1 : a_1 < 77) : CI l yX12_takes cX12_takes 3 .boolean 5 0 0 E [.ref a_0, .ref (eK E a_1)] L f (fun r L1 f1 => L = L1 ∧ WT T L f1 ∧ FR [12] f f1 ∧ r = (iw (f a_0) (f (q 4)) a_1) ∧ ((iw (f a_0) (f (q 4)) a_1).toInt = 0 ∨ ((fld (f a_0) 8 ≤ fld (f1 a_0) 9 ∧ fld (f1 a_0) 9 ≤ fld (f1 a_0) 8) ∧ (fld (f1 a_0) 10 = 0 ∨ fld (f1 a_0) 9 < fld (f1 a_0) 8))) ∧ (¬ (iw (f a_0) (f (q 4)) a_1).toInt = 0 ∨ (fld (f1 a_0) 8 = fld (f a_0) 8 ∧ fld (f1 a_0) 9 = fld (f a_0) 9 ∧ fld (f1 a_0) 10 = fld (f a_0) 10)) ∧ fld (f1 a_0) 12 = fld (f a_0) 12 ∧ fld (f1 a_0) 20 = fld (f a_0) 20) := by
  refine ci_of (by decide) (Nat.le_of_ble_eq_true rfl) (fun z hz hnm hC hR => ?_)
  have hC : Cx z E cX12_takes RX12 3 5 0 0 := hC
  subst hz
  show V z E 3 0 0 L f 0 [(0, .ref a_0), (1, .ref (eK E a_1))] []
  obtain ⟨m_1, t_2, k_3, k_4, k_5, k_6, k_7, k_8, k_9, k_10, k_11, k_12, k_13, k_14, k_15, k_16, k_17, k_18, k_19, k_20⟩ := id k_0
  obtain ⟨v_22, v_23, v_25, v_27, v_29, v_31, v_33, v_34, v_35, v_36, v_38, e_21, b_24, b_26, b_28, b_30, b_32, b_37, b_39⟩ := hW.at m_1 t_2
  have mz_40 : fld (f a_0) 8 = v_27.toInt := by rw [e_21]; rfl
  have mz_41 : fld (f a_0) 9 = v_29.toInt := by rw [e_21]; rfl
  have mz_42 : fld (f a_0) 10 = v_31.toInt := by rw [e_21]; rfl
  have mz_43 : fld (f a_0) 12 = v_34.toInt := by rw [e_21]; rfl
  have mz_44 : fld (f a_0) 20 = v_38.toInt := by rw [e_21]; rfl
  refine v_aload_n hC dX12_takes_0 rfl ?_
  refine v_aload_n hC dX12_takes_1 rfl ?_
  refine v_vi hC (rest := []) m_1 e_21 rfl mi_X12_is ms_X12_is (p_X12_is hW k_0 ha_1) mx_X12_is ml_X12_152 (by decide) rfl (cells1 := 0) (slots1 := 0) (by decide) (by decide) (Nat.le_of_ble_eq_true rfl) (Nat.le_of_ble_eq_true rfl) rfl (Nat.le_of_ble_eq_true rfl) dX12_takes_2 (fun r_45 L_46 f_47 h_48 => ?_)
  obtain ⟨rfl, rfl, rfl⟩ := h_48
  have ib_51 := iw_b (f a_0) (f (q 4)) a_1
  have fe_52 : fld (f a_0) 8 = (v_27 : Int32).toInt := by rw [e_21]; rfl
  have fe_53 : fld (f a_0) 9 = (v_29 : Int32).toInt := by rw [e_21]; rfl
  have fe_54 : fld (f a_0) 10 = (v_31 : Int32).toInt := by rw [e_21]; rfl
  have fe_55 : fld (f a_0) 12 = (v_34 : Int32).toInt := by rw [e_21]; rfl
  rw [fe_52, fe_53, fe_54, fe_55] at ib_51
  refine v_istore_n hC dX12_takes_5 (by decide) (lv' := [(2, .int (iw (f a_0) (f (q 4)) a_1)), (0, .ref a_0), (1, .ref (eK E a_1))]) rfl ?_
  refine v_iload_n hC dX12_takes_6 rfl ?_
  refine v_if_eq hC dX12_takes_7 (tgt := 14) (by decide) (fun h_56 => ?_) (fun h_56 => ?_)
  · simp only [Int32.lt_iff_toInt_lt, Int32.le_iff_toInt_le, Int32.reduceToInt, ← Int32.toInt_inj] at h_56
    refine v_iload_n hC dX12_takes_14 rfl ?_
    have fe_57 : fld (f a_0) 8 = (v_27 : Int32).toInt := by rw [e_21]; rfl
    have fe_58 : fld (f a_0) 9 = (v_29 : Int32).toInt := by rw [e_21]; rfl
    have fe_59 : fld (f a_0) 10 = (v_31 : Int32).toInt := by rw [e_21]; rfl
    have fe_60 : fld (f a_0) 8 = (v_27 : Int32).toInt := by rw [e_21]; rfl
    have fe_61 : fld (f a_0) 9 = (v_29 : Int32).toInt := by rw [e_21]; rfl
    have fe_62 : fld (f a_0) 10 = (v_31 : Int32).toInt := by rw [e_21]; rfl
    have fe_63 : fld (f a_0) 12 = (v_34 : Int32).toInt := by rw [e_21]; rfl
    have fe_64 : fld (f a_0) 20 = (v_38 : Int32).toInt := by rw [e_21]; rfl
    exact hR _ _ _ _ _ _ _ dX12_takes_15 (nar01 (by first | omega | (simp only [Int32.lt_iff_toInt_lt, Int32.le_iff_toInt_le, Int32.reduceToInt, ← Int32.toInt_inj, true_and, and_true, or_true, true_or, false_or, or_false, false_and, and_false, not_true_eq_false, not_false_eq_true] <;> omega))) (Nat.le_of_ble_eq_true rfl) (Nat.le_of_ble_eq_true rfl) ⟨rfl, hW, FR.rf, rfl, (by simp only [fe_57, fe_58, fe_59, mz_40, true_and, and_true, or_true, true_or, false_or, or_false, false_and, and_false, not_true_eq_false, not_false_eq_true] <;> first | omega | (simp only [Int32.lt_iff_toInt_lt, Int32.le_iff_toInt_le, Int32.reduceToInt, ← Int32.toInt_inj, true_and, and_true, or_true, true_or, false_or, or_false, false_and, and_false, not_true_eq_false, not_false_eq_true] <;> omega)), (by simp only [fe_60, fe_61, fe_62, mz_40, mz_41, mz_42, true_and, and_true, or_true, true_or, false_or, or_false, false_and, and_false, not_true_eq_false, not_false_eq_true] <;> first | omega | (simp only [Int32.lt_iff_toInt_lt, Int32.le_iff_toInt_le, Int32.reduceToInt, ← Int32.toInt_inj, true_and, and_true, or_true, true_or, false_or, or_false, false_and, and_false, not_true_eq_false, not_false_eq_true] <;> omega)), (by simp only [fe_63, mz_43, true_and, and_true, or_true, true_or, false_or, or_false, false_and, and_false, not_true_eq_false, not_false_eq_true] <;> first | omega | (simp only [Int32.lt_iff_toInt_lt, Int32.le_iff_toInt_le, Int32.reduceToInt, ← Int32.toInt_inj, true_and, and_true, or_true, true_or, false_or, or_false, false_and, and_false, not_true_eq_false, not_false_eq_true] <;> omega)), (by simp only [fe_64, mz_44, true_and, and_true, or_true, true_or, false_or, or_false, false_and, and_false, not_true_eq_false, not_false_eq_true] <;> first | omega | (simp only [Int32.lt_iff_toInt_lt, Int32.le_iff_toInt_le, Int32.reduceToInt, ← Int32.toInt_inj, true_and, and_true, or_true, true_or, false_or, or_false, false_and, and_false, not_true_eq_false, not_false_eq_true] <;> omega))⟩
  · simp only [Int32.lt_iff_toInt_lt, Int32.le_iff_toInt_le, Int32.reduceToInt, ← Int32.toInt_inj] at h_56
    refine v_aload_n hC dX12_takes_10 rfl ?_
    refine v_vv hC (rest := []) m_1 e_21 rfl mi_X12_advance ms_X12_advance (p_X12_advance hW k_0) mx_X12_advance ml_X12_156 (by decide) rfl (cells1 := 0) (slots1 := 0) (by decide) (by decide) (Nat.le_of_ble_eq_true rfl) (Nat.le_of_ble_eq_true rfl) rfl (Nat.le_of_ble_eq_true rfl) dX12_takes_11 (fun L_66 f_67 h_68 => ?_)
    obtain ⟨rfl, hW_73, hF_74, x_69, x_70, x_71, x_72⟩ := h_68
    have fe_75 : fld (f a_0) 8 = (v_27 : Int32).toInt := by rw [e_21]; rfl
    have fe_76 : fld (f a_0) 12 = (v_34 : Int32).toInt := by rw [e_21]; rfl
    have fe_77 : fld (f a_0) 20 = (v_38 : Int32).toInt := by rw [e_21]; rfl
    rw [fe_75] at x_69
    obtain ⟨v_79, v_80, v_82, v_84, v_86, v_88, v_90, v_91, v_92, v_93, v_95, e_78, b_81, b_83, b_85, b_87, b_89, b_94, b_96⟩ := hW_73.at m_1 t_2
    have fe_97 : fld (f_67 a_0) 8 = (v_84 : Int32).toInt := by rw [e_78]; rfl
    have fe_98 : fld (f_67 a_0) 9 = (v_86 : Int32).toInt := by rw [e_78]; rfl
    rw [fe_97, fe_98] at x_69
    have fe_99 : fld (f_67 a_0) 8 = (v_84 : Int32).toInt := by rw [e_78]; rfl
    have fe_100 : fld (f_67 a_0) 9 = (v_86 : Int32).toInt := by rw [e_78]; rfl
    have fe_101 : fld (f_67 a_0) 10 = (v_88 : Int32).toInt := by rw [e_78]; rfl
    rw [fe_99, fe_100, fe_101] at x_70
    rw [fe_76] at x_71
    have fe_102 : fld (f_67 a_0) 12 = (v_91 : Int32).toInt := by rw [e_78]; rfl
    rw [fe_102] at x_71
    rw [fe_77] at x_72
    have fe_103 : fld (f_67 a_0) 20 = (v_95 : Int32).toInt := by rw [e_78]; rfl
    rw [fe_103] at x_72
    refine v_iload_n hC dX12_takes_14 rfl ?_
    have fe_104 : fld (f_67 a_0) 8 = (v_84 : Int32).toInt := by rw [e_78]; rfl
    have fe_105 : fld (f_67 a_0) 9 = (v_86 : Int32).toInt := by rw [e_78]; rfl
    have fe_106 : fld (f_67 a_0) 10 = (v_88 : Int32).toInt := by rw [e_78]; rfl
    have fe_107 : fld (f_67 a_0) 8 = (v_84 : Int32).toInt := by rw [e_78]; rfl
    have fe_108 : fld (f_67 a_0) 9 = (v_86 : Int32).toInt := by rw [e_78]; rfl
    have fe_109 : fld (f_67 a_0) 10 = (v_88 : Int32).toInt := by rw [e_78]; rfl
    have fe_110 : fld (f_67 a_0) 12 = (v_91 : Int32).toInt := by rw [e_78]; rfl
    have fe_111 : fld (f_67 a_0) 20 = (v_95 : Int32).toInt := by rw [e_78]; rfl
    exact hR _ _ _ _ _ _ _ dX12_takes_15 (nar01 (by first | omega | (simp only [Int32.lt_iff_toInt_lt, Int32.le_iff_toInt_le, Int32.reduceToInt, ← Int32.toInt_inj, true_and, and_true, or_true, true_or, false_or, or_false, false_and, and_false, not_true_eq_false, not_false_eq_true] <;> omega))) (Nat.le_of_ble_eq_true rfl) (Nat.le_of_ble_eq_true rfl) ⟨rfl, hW_73, (hF_74.mono rfl), rfl, (by simp only [fe_104, fe_105, fe_106, mz_40, true_and, and_true, or_true, true_or, false_or, or_false, false_and, and_false, not_true_eq_false, not_false_eq_true] <;> first | omega | (simp only [Int32.lt_iff_toInt_lt, Int32.le_iff_toInt_le, Int32.reduceToInt, ← Int32.toInt_inj, true_and, and_true, or_true, true_or, false_or, or_false, false_and, and_false, not_true_eq_false, not_false_eq_true] <;> omega)), (by simp only [fe_107, fe_108, fe_109, mz_40, mz_41, mz_42, true_and, and_true, or_true, true_or, false_or, or_false, false_and, and_false, not_true_eq_false, not_false_eq_true] <;> first | omega | (simp only [Int32.lt_iff_toInt_lt, Int32.le_iff_toInt_le, Int32.reduceToInt, ← Int32.toInt_inj, true_and, and_true, or_true, true_or, false_or, or_false, false_and, and_false, not_true_eq_false, not_false_eq_true] <;> omega)), (by simp only [fe_110, mz_43, true_and, and_true, or_true, true_or, false_or, or_false, false_and, and_false, not_true_eq_false, not_false_eq_true] <;> first | omega | (simp only [Int32.lt_iff_toInt_lt, Int32.le_iff_toInt_le, Int32.reduceToInt, ← Int32.toInt_inj, true_and, and_true, or_true, true_or, false_or, or_false, false_and, and_false, not_true_eq_false, not_false_eq_true] <;> omega)), (by simp only [fe_111, mz_44, true_and, and_true, or_true, true_or, false_or, or_false, false_and, and_false, not_true_eq_false, not_false_eq_true] <;> first | omega | (simp only [Int32.lt_iff_toInt_lt, Int32.le_iff_toInt_le, Int32.reduceToInt, ← Int32.toInt_inj, true_and, and_true, or_true, true_or, false_or, or_false, false_and, and_false, not_true_eq_false, not_false_eq_true] <;> omega))⟩
set_option maxRecDepth 100000 in
set_option maxHeartbeats 4000000 in
theorem p_X12_needs {l : Launch} {E : Ez} {L : List Nat} {f : Nat → va_E} {T : Nat → va_E → Prop} {a_0 : Nat} {a_1 : Nat} {q : Nat → Nat} (hW : WT T L f) (k_0 : isM T L E a_0 q) (ha_1 : a_1 < 77) : CV l yX12_needs cX12_needs 2 6 0 0 E [.ref a_0, .ref (eK E a_1)] L f (fun L1 f1 => L = L1 ∧ WT T L f1 ∧ FR [12] f f1 ∧ (¬ fld (f1 a_0) 12 = 0 ∨ ((iw (f a_0) (f (q 4)) a_1).toInt = 1 ∧ (fld (f a_0) 8 ≤ fld (f1 a_0) 9 ∧ fld (f1 a_0) 9 ≤ fld (f1 a_0) 8) ∧ (fld (f1 a_0) 10 = 0 ∨ fld (f1 a_0) 9 < fld (f1 a_0) 8))) ∧ (¬ fld (f1 a_0) 12 = 0 ∨ fld (f a_0) 12 = 0) ∧ fld (f1 a_0) 20 = fld (f a_0) 20) := by
  refine cv_of (by decide) (Nat.le_of_ble_eq_true rfl) (fun z hz hnm hC hR => ?_)
  have hC : Cx z E cX12_needs RX12 2 6 0 0 := hC
  subst hz
  show V z E 2 0 0 L f 0 [(0, .ref a_0), (1, .ref (eK E a_1))] []
  obtain ⟨m_1, t_2, k_3, k_4, k_5, k_6, k_7, k_8, k_9, k_10, k_11, k_12, k_13, k_14, k_15, k_16, k_17, k_18, k_19, k_20⟩ := id k_0
  obtain ⟨v_22, v_23, v_25, v_27, v_29, v_31, v_33, v_34, v_35, v_36, v_38, e_21, b_24, b_26, b_28, b_30, b_32, b_37, b_39⟩ := hW.at m_1 t_2
  have mz_40 : fld (f a_0) 8 = v_27.toInt := by rw [e_21]; rfl
  have mz_41 : fld (f a_0) 12 = v_34.toInt := by rw [e_21]; rfl
  have mz_42 : fld (f a_0) 20 = v_38.toInt := by rw [e_21]; rfl
  refine v_aload_n hC dX12_needs_0 rfl ?_
  refine v_aload_n hC dX12_needs_1 rfl ?_
  refine v_vi hC (rest := []) m_1 e_21 rfl mi_X12_takes ms_X12_takes (p_X12_takes hW k_0 ha_1) mx_X12_takes ml_X12_159 (by decide) rfl (cells1 := 0) (slots1 := 0) (by decide) (by decide) (Nat.le_of_ble_eq_true rfl) (Nat.le_of_ble_eq_true rfl) rfl (Nat.le_of_ble_eq_true rfl) dX12_needs_2 (fun r_43 L_44 f_45 h_46 => ?_)
  obtain ⟨rfl, hW_51, hF_52, rfl, x_47, x_48, x_49, x_50⟩ := h_46
  have ib_53 := iw_b (f a_0) (f (q 4)) a_1
  have fe_54 : fld (f a_0) 8 = (v_27 : Int32).toInt := by rw [e_21]; rfl
  have fe_55 : fld (f a_0) 9 = (v_29 : Int32).toInt := by rw [e_21]; rfl
  have fe_56 : fld (f a_0) 10 = (v_31 : Int32).toInt := by rw [e_21]; rfl
  have fe_57 : fld (f a_0) 12 = (v_34 : Int32).toInt := by rw [e_21]; rfl
  rw [fe_54, fe_55, fe_56, fe_57] at ib_53
  have fe_58 : fld (f a_0) 8 = (v_27 : Int32).toInt := by rw [e_21]; rfl
  have fe_59 : fld (f a_0) 8 = (v_27 : Int32).toInt := by rw [e_21]; rfl
  have fe_60 : fld (f a_0) 9 = (v_29 : Int32).toInt := by rw [e_21]; rfl
  have fe_61 : fld (f a_0) 10 = (v_31 : Int32).toInt := by rw [e_21]; rfl
  have fe_62 : fld (f a_0) 12 = (v_34 : Int32).toInt := by rw [e_21]; rfl
  have fe_63 : fld (f a_0) 20 = (v_38 : Int32).toInt := by rw [e_21]; rfl
  rw [fe_58] at x_47
  obtain ⟨v_65, v_66, v_68, v_70, v_72, v_74, v_76, v_77, v_78, v_79, v_81, e_64, b_67, b_69, b_71, b_73, b_75, b_80, b_82⟩ := hW_51.at m_1 t_2
  have fe_83 : fld (f_45 a_0) 8 = (v_70 : Int32).toInt := by rw [e_64]; rfl
  have fe_84 : fld (f_45 a_0) 9 = (v_72 : Int32).toInt := by rw [e_64]; rfl
  have fe_85 : fld (f_45 a_0) 10 = (v_74 : Int32).toInt := by rw [e_64]; rfl
  rw [fe_83, fe_84, fe_85] at x_47
  rw [fe_59, fe_60, fe_61] at x_48
  have fe_86 : fld (f_45 a_0) 8 = (v_70 : Int32).toInt := by rw [e_64]; rfl
  have fe_87 : fld (f_45 a_0) 9 = (v_72 : Int32).toInt := by rw [e_64]; rfl
  have fe_88 : fld (f_45 a_0) 10 = (v_74 : Int32).toInt := by rw [e_64]; rfl
  rw [fe_86, fe_87, fe_88] at x_48
  rw [fe_62] at x_49
  have fe_89 : fld (f_45 a_0) 12 = (v_77 : Int32).toInt := by rw [e_64]; rfl
  rw [fe_89] at x_49
  rw [fe_63] at x_50
  have fe_90 : fld (f_45 a_0) 20 = (v_81 : Int32).toInt := by rw [e_64]; rfl
  rw [fe_90] at x_50
  try simp only [Int32.reduceToInt, Int64.reduceToInt] at x_47
  try simp only [Int32.reduceToInt, Int64.reduceToInt] at x_48
  try simp only [Int32.reduceToInt, Int64.reduceToInt] at x_49
  try simp only [Int32.reduceToInt, Int64.reduceToInt] at x_50
  refine v_if_ne hC dX12_needs_5 (tgt := 13) (by decide) (fun h_91 => ?_) (fun h_91 => ?_)
  · simp only [Int32.lt_iff_toInt_lt, Int32.le_iff_toInt_le, Int32.reduceToInt, ← Int32.toInt_inj] at h_91
    have fe_92 : fld (f_45 a_0) 8 = (v_70 : Int32).toInt := by rw [e_64]; rfl
    have fe_93 : fld (f_45 a_0) 9 = (v_72 : Int32).toInt := by rw [e_64]; rfl
    have fe_94 : fld (f_45 a_0) 10 = (v_74 : Int32).toInt := by rw [e_64]; rfl
    have fe_95 : fld (f_45 a_0) 12 = (v_77 : Int32).toInt := by rw [e_64]; rfl
    have fe_96 : fld (f_45 a_0) 12 = (v_77 : Int32).toInt := by rw [e_64]; rfl
    have fe_97 : fld (f_45 a_0) 20 = (v_81 : Int32).toInt := by rw [e_64]; rfl
    exact hR _ _ _ _ _ _ dX12_needs_13 (Nat.le_of_ble_eq_true rfl) (Nat.le_of_ble_eq_true rfl) ⟨rfl, hW_51, (hF_52.mono rfl), (by simp only [fe_92, fe_93, fe_94, fe_95, mz_40, true_and, and_true, or_true, true_or, false_or, or_false, false_and, and_false, not_true_eq_false, not_false_eq_true] <;> first | omega | (simp only [Int32.lt_iff_toInt_lt, Int32.le_iff_toInt_le, Int32.reduceToInt, ← Int32.toInt_inj, true_and, and_true, or_true, true_or, false_or, or_false, false_and, and_false, not_true_eq_false, not_false_eq_true] <;> omega)), (by simp only [fe_96, mz_41, true_and, and_true, or_true, true_or, false_or, or_false, false_and, and_false, not_true_eq_false, not_false_eq_true] <;> first | omega | (simp only [Int32.lt_iff_toInt_lt, Int32.le_iff_toInt_le, Int32.reduceToInt, ← Int32.toInt_inj, true_and, and_true, or_true, true_or, false_or, or_false, false_and, and_false, not_true_eq_false, not_false_eq_true] <;> omega)), (by simp only [fe_97, mz_42, true_and, and_true, or_true, true_or, false_or, or_false, false_and, and_false, not_true_eq_false, not_false_eq_true] <;> first | omega | (simp only [Int32.lt_iff_toInt_lt, Int32.le_iff_toInt_le, Int32.reduceToInt, ← Int32.toInt_inj, true_and, and_true, or_true, true_or, false_or, or_false, false_and, and_false, not_true_eq_false, not_false_eq_true] <;> omega))⟩
  · simp only [Int32.lt_iff_toInt_lt, Int32.le_iff_toInt_le, Int32.reduceToInt, ← Int32.toInt_inj] at h_91
    refine v_aload_n hC dX12_needs_8 rfl ?_
    refine v_iconst hC dX12_needs_9 (v := 1) (by decide) ?_
    refine v_vv hC (rest := []) m_1 e_64 rfl mi_X12_errs ms_X12_errs (p_X12_errs hW_51 k_0 (by decide)) mx_X12_errs ml_X12_162 (by decide) rfl (cells1 := 0) (slots1 := 0) (by decide) (by decide) (Nat.le_of_ble_eq_true rfl) (Nat.le_of_ble_eq_true rfl) rfl (Nat.le_of_ble_eq_true rfl) dX12_needs_10 (fun L_99 f_100 h_101 => ?_)
    obtain ⟨rfl, hW_107, hF_108, x_102, x_103, x_104, x_105, x_106⟩ := h_101
    have fe_109 : fld (f_45 a_0) 8 = (v_70 : Int32).toInt := by rw [e_64]; rfl
    have fe_110 : fld (f_45 a_0) 9 = (v_72 : Int32).toInt := by rw [e_64]; rfl
    have fe_111 : fld (f_45 a_0) 10 = (v_74 : Int32).toInt := by rw [e_64]; rfl
    have fe_112 : fld (f_45 a_0) 20 = (v_81 : Int32).toInt := by rw [e_64]; rfl
    obtain ⟨v_114, v_115, v_117, v_119, v_121, v_123, v_125, v_126, v_127, v_128, v_130, e_113, b_116, b_118, b_120, b_122, b_124, b_129, b_131⟩ := hW_107.at m_1 t_2
    have fe_132 : fld (f_100 a_0) 12 = (v_126 : Int32).toInt := by rw [e_113]; rfl
    rw [fe_132] at x_102
    rw [fe_109] at x_103
    have fe_133 : fld (f_100 a_0) 8 = (v_119 : Int32).toInt := by rw [e_113]; rfl
    rw [fe_133] at x_103
    rw [fe_110] at x_104
    have fe_134 : fld (f_100 a_0) 9 = (v_121 : Int32).toInt := by rw [e_113]; rfl
    rw [fe_134] at x_104
    rw [fe_111] at x_105
    have fe_135 : fld (f_100 a_0) 10 = (v_123 : Int32).toInt := by rw [e_113]; rfl
    rw [fe_135] at x_105
    rw [fe_112] at x_106
    have fe_136 : fld (f_100 a_0) 20 = (v_130 : Int32).toInt := by rw [e_113]; rfl
    rw [fe_136] at x_106
    have fe_137 : fld (f_100 a_0) 8 = (v_119 : Int32).toInt := by rw [e_113]; rfl
    have fe_138 : fld (f_100 a_0) 9 = (v_121 : Int32).toInt := by rw [e_113]; rfl
    have fe_139 : fld (f_100 a_0) 10 = (v_123 : Int32).toInt := by rw [e_113]; rfl
    have fe_140 : fld (f_100 a_0) 12 = (v_126 : Int32).toInt := by rw [e_113]; rfl
    have fe_141 : fld (f_100 a_0) 12 = (v_126 : Int32).toInt := by rw [e_113]; rfl
    have fe_142 : fld (f_100 a_0) 20 = (v_130 : Int32).toInt := by rw [e_113]; rfl
    exact hR _ _ _ _ _ _ dX12_needs_13 (Nat.le_of_ble_eq_true rfl) (Nat.le_of_ble_eq_true rfl) ⟨rfl, hW_107, ((hF_52.tr hF_108).mono rfl), (by simp only [fe_137, fe_138, fe_139, fe_140, mz_40, true_and, and_true, or_true, true_or, false_or, or_false, false_and, and_false, not_true_eq_false, not_false_eq_true] <;> first | omega | (simp only [Int32.lt_iff_toInt_lt, Int32.le_iff_toInt_le, Int32.reduceToInt, ← Int32.toInt_inj, true_and, and_true, or_true, true_or, false_or, or_false, false_and, and_false, not_true_eq_false, not_false_eq_true] <;> omega)), (by simp only [fe_141, mz_41, true_and, and_true, or_true, true_or, false_or, or_false, false_and, and_false, not_true_eq_false, not_false_eq_true] <;> first | omega | (simp only [Int32.lt_iff_toInt_lt, Int32.le_iff_toInt_le, Int32.reduceToInt, ← Int32.toInt_inj, true_and, and_true, or_true, true_or, false_or, or_false, false_and, and_false, not_true_eq_false, not_false_eq_true] <;> omega)), (by simp only [fe_142, mz_42, true_and, and_true, or_true, true_or, false_or, or_false, false_and, and_false, not_true_eq_false, not_false_eq_true] <;> first | omega | (simp only [Int32.lt_iff_toInt_lt, Int32.le_iff_toInt_le, Int32.reduceToInt, ← Int32.toInt_inj, true_and, and_true, or_true, true_or, false_or, or_false, false_and, and_false, not_true_eq_false, not_false_eq_true] <;> omega))⟩
set_option maxRecDepth 100000 in
set_option maxHeartbeats 4000000 in
theorem p_X12_number {l : Launch} {E : Ez} {L : List Nat} {f : Nat → va_E} {T : Nat → va_E → Prop} {a_0 : Nat} {a_1 : Int32} {a_2 : Int32} {q : Nat → Nat} (hW : WT T L f) (k_0 : isM T L E a_0 q) : CI l yX12_number cX12_number 4 .int 2 0 0 E [.ref a_0, .int a_1, .int a_2] L f (fun r L1 f1 => L = L1 ∧ WT T L f1 ∧ FR [12] f f1 ∧ (¬ fld (f1 a_0) 12 = 0 ∨ (fld (f a_0) 12 = 0 ∧ fld (f a_0) 10 = 2 ∧ (a_1.toInt ≤ r.toInt ∧ r.toInt ≤ a_2.toInt) ∧ (fld (f a_0) 8 ≤ fld (f1 a_0) 9 ∧ fld (f1 a_0) 9 ≤ fld (f1 a_0) 8) ∧ (fld (f1 a_0) 10 = 0 ∨ fld (f1 a_0) 9 < fld (f1 a_0) 8))) ∧ (fld (f1 a_0) 12 = 0 ∨ r.toInt = 0) ∧ fld (f1 a_0) 20 = fld (f a_0) 20) := by
  refine ci_of (by decide) (Nat.le_of_ble_eq_true rfl) (fun z hz hnm hC hR => ?_)
  have hC : Cx z E cX12_number RX12 4 2 0 0 := hC
  subst hz
  show V z E 4 0 0 L f 0 [(0, .ref a_0), (1, .int a_1), (2, .int a_2)] []
  obtain ⟨m_1, t_2, k_3, k_4, k_5, k_6, k_7, k_8, k_9, k_10, k_11, k_12, k_13, k_14, k_15, k_16, k_17, k_18, k_19, k_20⟩ := id k_0
  obtain ⟨v_22, v_23, v_25, v_27, v_29, v_31, v_33, v_34, v_35, v_36, v_38, e_21, b_24, b_26, b_28, b_30, b_32, b_37, b_39⟩ := hW.at m_1 t_2
  have mz_40 : fld (f a_0) 8 = v_27.toInt := by rw [e_21]; rfl
  have mz_41 : fld (f a_0) 10 = v_31.toInt := by rw [e_21]; rfl
  have mz_42 : fld (f a_0) 12 = v_34.toInt := by rw [e_21]; rfl
  have mz_43 : fld (f a_0) 20 = v_38.toInt := by rw [e_21]; rfl
  refine v_aload_n hC dX12_number_0 rfl ?_
  refine v_vi hC (rest := []) m_1 e_21 rfl mi_X12_good ms_X12_good (p_X12_good hW k_0) mx_X12_good ml_X12_139 (by decide) rfl (cells1 := 0) (slots1 := 0) (by decide) (by decide) (Nat.le_of_ble_eq_true rfl) (Nat.le_of_ble_eq_true rfl) rfl (Nat.le_of_ble_eq_true rfl) dX12_number_1 (fun r_44 L_45 f_46 h_47 => ?_)
  obtain ⟨rfl, rfl, b_48, x_49⟩ := h_47
  have fe_52 : fld (f a_0) 12 = (v_34 : Int32).toInt := by rw [e_21]; rfl
  rw [fe_52] at x_49
  try simp only [Int32.reduceToInt, Int64.reduceToInt] at x_49
  refine v_if_eq hC dX12_number_4 (tgt := 20) (by decide) (fun h_53 => ?_) (fun h_53 => ?_)
  · simp only [Int32.lt_iff_toInt_lt, Int32.le_iff_toInt_le, Int32.reduceToInt, ← Int32.toInt_inj] at h_53
    refine v_aload_n hC dX12_number_20 rfl ?_
    refine v_vi hC (rest := []) m_1 e_21 rfl mi_X12_good ms_X12_good (p_X12_good hW k_0) mx_X12_good ml_X12_139 (by decide) rfl (cells1 := 0) (slots1 := 0) (by decide) (by decide) (Nat.le_of_ble_eq_true rfl) (Nat.le_of_ble_eq_true rfl) rfl (Nat.le_of_ble_eq_true rfl) dX12_number_21 (fun r_54 L_55 f_56 h_57 => ?_)
    obtain ⟨rfl, rfl, b_58, x_59⟩ := h_57
    have fe_62 : fld (f a_0) 12 = (v_34 : Int32).toInt := by rw [e_21]; rfl
    rw [fe_62] at x_59
    try simp only [Int32.reduceToInt, Int64.reduceToInt] at x_59
    refine v_if_eq hC dX12_number_24 (tgt := 47) (by decide) (fun h_63 => ?_) (fun h_63 => ?_)
    · simp only [Int32.lt_iff_toInt_lt, Int32.le_iff_toInt_le, Int32.reduceToInt, ← Int32.toInt_inj] at h_63
      refine v_aload_n hC dX12_number_47 rfl ?_
      refine v_vi hC (rest := []) m_1 e_21 rfl mi_X12_good ms_X12_good (p_X12_good hW k_0) mx_X12_good ml_X12_139 (by decide) rfl (cells1 := 0) (slots1 := 0) (by decide) (by decide) (Nat.le_of_ble_eq_true rfl) (Nat.le_of_ble_eq_true rfl) rfl (Nat.le_of_ble_eq_true rfl) dX12_number_48 (fun r_64 L_65 f_66 h_67 => ?_)
      obtain ⟨rfl, rfl, b_68, x_69⟩ := h_67
      have fe_72 : fld (f a_0) 12 = (v_34 : Int32).toInt := by rw [e_21]; rfl
      rw [fe_72] at x_69
      try simp only [Int32.reduceToInt, Int64.reduceToInt] at x_69
      refine v_if_ne hC dX12_number_51 (tgt := 56) (by decide) (fun h_73 => ?_) (fun h_73 => ?_)
      · simp only [Int32.lt_iff_toInt_lt, Int32.le_iff_toInt_le, Int32.reduceToInt, ← Int32.toInt_inj] at h_73
        refine v_aload_n hC dX12_number_56 rfl ?_
        refine v_get hC fl_X12_131 m_1 e_21 rfl dX12_number_57 ?_
        refine v_istore_n hC dX12_number_60 (by decide) (lv' := [(3, .int v_33), (0, .ref a_0), (1, .int a_1), (2, .int a_2)]) rfl ?_
        refine v_aload_n hC dX12_number_61 rfl ?_
        refine v_vv hC (rest := []) m_1 e_21 rfl mi_X12_advance ms_X12_advance (p_X12_advance hW k_0) mx_X12_advance ml_X12_156 (by decide) rfl (cells1 := 0) (slots1 := 0) (by decide) (by decide) (Nat.le_of_ble_eq_true rfl) (Nat.le_of_ble_eq_true rfl) rfl (Nat.le_of_ble_eq_true rfl) dX12_number_62 (fun L_75 f_76 h_77 => ?_)
        obtain ⟨rfl, hW_82, hF_83, x_78, x_79, x_80, x_81⟩ := h_77
        have fe_84 : fld (f a_0) 8 = (v_27 : Int32).toInt := by rw [e_21]; rfl
        have fe_85 : fld (f a_0) 12 = (v_34 : Int32).toInt := by rw [e_21]; rfl
        have fe_86 : fld (f a_0) 20 = (v_38 : Int32).toInt := by rw [e_21]; rfl
        rw [fe_84] at x_78
        obtain ⟨v_88, v_89, v_91, v_93, v_95, v_97, v_99, v_100, v_101, v_102, v_104, e_87, b_90, b_92, b_94, b_96, b_98, b_103, b_105⟩ := hW_82.at m_1 t_2
        have fe_106 : fld (f_76 a_0) 8 = (v_93 : Int32).toInt := by rw [e_87]; rfl
        have fe_107 : fld (f_76 a_0) 9 = (v_95 : Int32).toInt := by rw [e_87]; rfl
        rw [fe_106, fe_107] at x_78
        have fe_108 : fld (f_76 a_0) 8 = (v_93 : Int32).toInt := by rw [e_87]; rfl
        have fe_109 : fld (f_76 a_0) 9 = (v_95 : Int32).toInt := by rw [e_87]; rfl
        have fe_110 : fld (f_76 a_0) 10 = (v_97 : Int32).toInt := by rw [e_87]; rfl
        rw [fe_108, fe_109, fe_110] at x_79
        rw [fe_85] at x_80
        have fe_111 : fld (f_76 a_0) 12 = (v_100 : Int32).toInt := by rw [e_87]; rfl
        rw [fe_111] at x_80
        rw [fe_86] at x_81
        have fe_112 : fld (f_76 a_0) 20 = (v_104 : Int32).toInt := by rw [e_87]; rfl
        rw [fe_112] at x_81
        refine v_iload_n hC dX12_number_65 rfl ?_
        have fe_113 : fld (f_76 a_0) 8 = (v_93 : Int32).toInt := by rw [e_87]; rfl
        have fe_114 : fld (f_76 a_0) 9 = (v_95 : Int32).toInt := by rw [e_87]; rfl
        have fe_115 : fld (f_76 a_0) 10 = (v_97 : Int32).toInt := by rw [e_87]; rfl
        have fe_116 : fld (f_76 a_0) 12 = (v_100 : Int32).toInt := by rw [e_87]; rfl
        have fe_117 : fld (f_76 a_0) 12 = (v_100 : Int32).toInt := by rw [e_87]; rfl
        have fe_118 : fld (f_76 a_0) 20 = (v_104 : Int32).toInt := by rw [e_87]; rfl
        exact hR _ _ _ _ _ _ _ dX12_number_66 rfl (Nat.le_of_ble_eq_true rfl) (Nat.le_of_ble_eq_true rfl) ⟨rfl, hW_82, (hF_83.mono rfl), (by simp only [fe_113, fe_114, fe_115, fe_116, mz_40, mz_41, mz_42, true_and, and_true, or_true, true_or, false_or, or_false, false_and, and_false, not_true_eq_false, not_false_eq_true] <;> first | omega | (simp only [Int32.lt_iff_toInt_lt, Int32.le_iff_toInt_le, Int32.reduceToInt, ← Int32.toInt_inj, true_and, and_true, or_true, true_or, false_or, or_false, false_and, and_false, not_true_eq_false, not_false_eq_true] <;> omega)), (by simp only [fe_117, true_and, and_true, or_true, true_or, false_or, or_false, false_and, and_false, not_true_eq_false, not_false_eq_true] <;> first | omega | (simp only [Int32.lt_iff_toInt_lt, Int32.le_iff_toInt_le, Int32.reduceToInt, ← Int32.toInt_inj, true_and, and_true, or_true, true_or, false_or, or_false, false_and, and_false, not_true_eq_false, not_false_eq_true] <;> omega)), (by simp only [fe_118, mz_43, true_and, and_true, or_true, true_or, false_or, or_false, false_and, and_false, not_true_eq_false, not_false_eq_true] <;> first | omega | (simp only [Int32.lt_iff_toInt_lt, Int32.le_iff_toInt_le, Int32.reduceToInt, ← Int32.toInt_inj, true_and, and_true, or_true, true_or, false_or, or_false, false_and, and_false, not_true_eq_false, not_false_eq_true] <;> omega))⟩
      · simp only [Int32.lt_iff_toInt_lt, Int32.le_iff_toInt_le, Int32.reduceToInt, ← Int32.toInt_inj] at h_73
        refine v_iconst hC dX12_number_54 (v := 0) (by decide) ?_
        have fe_119 : fld (f a_0) 8 = (v_27 : Int32).toInt := by rw [e_21]; rfl
        have fe_120 : fld (f a_0) 9 = (v_29 : Int32).toInt := by rw [e_21]; rfl
        have fe_121 : fld (f a_0) 10 = (v_31 : Int32).toInt := by rw [e_21]; rfl
        have fe_122 : fld (f a_0) 12 = (v_34 : Int32).toInt := by rw [e_21]; rfl
        have fe_123 : fld (f a_0) 12 = (v_34 : Int32).toInt := by rw [e_21]; rfl
        have fe_124 : fld (f a_0) 20 = (v_38 : Int32).toInt := by rw [e_21]; rfl
        exact hR _ _ _ _ _ _ _ dX12_number_55 rfl (Nat.le_of_ble_eq_true rfl) (Nat.le_of_ble_eq_true rfl) ⟨rfl, hW, FR.rf, (by simp only [fe_119, fe_120, fe_121, fe_122, mz_40, mz_41, mz_42, true_and, and_true, or_true, true_or, false_or, or_false, false_and, and_false, not_true_eq_false, not_false_eq_true] <;> first | omega | (simp only [Int32.lt_iff_toInt_lt, Int32.le_iff_toInt_le, Int32.reduceToInt, ← Int32.toInt_inj, true_and, and_true, or_true, true_or, false_or, or_false, false_and, and_false, not_true_eq_false, not_false_eq_true] <;> omega)), (by simp only [fe_123, true_and, and_true, or_true, true_or, false_or, or_false, false_and, and_false, not_true_eq_false, not_false_eq_true] <;> first | omega | (simp only [Int32.lt_iff_toInt_lt, Int32.le_iff_toInt_le, Int32.reduceToInt, ← Int32.toInt_inj, true_and, and_true, or_true, true_or, false_or, or_false, false_and, and_false, not_true_eq_false, not_false_eq_true] <;> omega)), (by simp only [fe_124, mz_43, true_and, and_true, or_true, true_or, false_or, or_false, false_and, and_false, not_true_eq_false, not_false_eq_true] <;> first | omega | (simp only [Int32.lt_iff_toInt_lt, Int32.le_iff_toInt_le, Int32.reduceToInt, ← Int32.toInt_inj, true_and, and_true, or_true, true_or, false_or, or_false, false_and, and_false, not_true_eq_false, not_false_eq_true] <;> omega))⟩
    · simp only [Int32.lt_iff_toInt_lt, Int32.le_iff_toInt_le, Int32.reduceToInt, ← Int32.toInt_inj] at h_63
      refine v_aload_n hC dX12_number_27 rfl ?_
      refine v_get hC fl_X12_131 m_1 e_21 rfl dX12_number_28 ?_
      obtain ⟨v_125, h_126⟩ : ∃ v9 : Int64, v_33.toInt64 = v9 := ⟨_, rfl⟩
      refine v_i2l hC dX12_number_31 h_126 ?_
      have h_127 : v_125.toInt = v_33.toInt := by rw [← h_126]; exact Int32.toInt_toInt64 _
      refine v_iload_n hC dX12_number_32 rfl ?_
      obtain ⟨v_128, h_129⟩ : ∃ v9 : Int64, a_1.toInt64 = v9 := ⟨_, rfl⟩
      refine v_i2l hC dX12_number_33 h_129 ?_
      have h_130 : v_128.toInt = a_1.toInt := by rw [← h_129]; exact Int32.toInt_toInt64 _
      refine v_iload_n hC dX12_number_34 rfl ?_
      obtain ⟨v_131, h_132⟩ : ∃ v9 : Int64, a_2.toInt64 = v9 := ⟨_, rfl⟩
      refine v_i2l hC dX12_number_35 h_132 ?_
      have h_133 : v_131.toInt = a_2.toInt := by rw [← h_132]; exact Int32.toInt_toInt64 _
      refine v_si hC (rest := []) mt_X12_in (p_X12_in hW) mx_X12_in ml_X12_79 (by decide) rfl (cells1 := 0) (slots1 := 0) (by decide) (by decide) (Nat.le_of_ble_eq_true rfl) (Nat.le_of_ble_eq_true rfl) rfl (Nat.le_of_ble_eq_true rfl) dX12_number_36 (fun r_134 L_135 f_136 h_137 => ?_)
      obtain ⟨rfl, rfl, b_138, x_139⟩ := h_137
      try simp only [Int32.reduceToInt, Int64.reduceToInt] at x_139
      refine v_if_ne hC dX12_number_39 (tgt := 47) (by decide) (fun h_142 => ?_) (fun h_142 => ?_)
      · simp only [Int32.lt_iff_toInt_lt, Int32.le_iff_toInt_le, Int32.reduceToInt, ← Int32.toInt_inj] at h_142
        refine v_aload_n hC dX12_number_47 rfl ?_
        refine v_vi hC (rest := []) m_1 e_21 rfl mi_X12_good ms_X12_good (p_X12_good hW k_0) mx_X12_good ml_X12_139 (by decide) rfl (cells1 := 0) (slots1 := 0) (by decide) (by decide) (Nat.le_of_ble_eq_true rfl) (Nat.le_of_ble_eq_true rfl) rfl (Nat.le_of_ble_eq_true rfl) dX12_number_48 (fun r_143 L_144 f_145 h_146 => ?_)
        obtain ⟨rfl, rfl, b_147, x_148⟩ := h_146
        have fe_151 : fld (f a_0) 12 = (v_34 : Int32).toInt := by rw [e_21]; rfl
        rw [fe_151] at x_148
        try simp only [Int32.reduceToInt, Int64.reduceToInt] at x_148
        refine v_if_ne hC dX12_number_51 (tgt := 56) (by decide) (fun h_152 => ?_) (fun h_152 => ?_)
        · simp only [Int32.lt_iff_toInt_lt, Int32.le_iff_toInt_le, Int32.reduceToInt, ← Int32.toInt_inj] at h_152
          refine v_aload_n hC dX12_number_56 rfl ?_
          refine v_get hC fl_X12_131 m_1 e_21 rfl dX12_number_57 ?_
          refine v_istore_n hC dX12_number_60 (by decide) (lv' := [(3, .int v_33), (0, .ref a_0), (1, .int a_1), (2, .int a_2)]) rfl ?_
          refine v_aload_n hC dX12_number_61 rfl ?_
          refine v_vv hC (rest := []) m_1 e_21 rfl mi_X12_advance ms_X12_advance (p_X12_advance hW k_0) mx_X12_advance ml_X12_156 (by decide) rfl (cells1 := 0) (slots1 := 0) (by decide) (by decide) (Nat.le_of_ble_eq_true rfl) (Nat.le_of_ble_eq_true rfl) rfl (Nat.le_of_ble_eq_true rfl) dX12_number_62 (fun L_154 f_155 h_156 => ?_)
          obtain ⟨rfl, hW_161, hF_162, x_157, x_158, x_159, x_160⟩ := h_156
          have fe_163 : fld (f a_0) 8 = (v_27 : Int32).toInt := by rw [e_21]; rfl
          have fe_164 : fld (f a_0) 12 = (v_34 : Int32).toInt := by rw [e_21]; rfl
          have fe_165 : fld (f a_0) 20 = (v_38 : Int32).toInt := by rw [e_21]; rfl
          rw [fe_163] at x_157
          obtain ⟨v_167, v_168, v_170, v_172, v_174, v_176, v_178, v_179, v_180, v_181, v_183, e_166, b_169, b_171, b_173, b_175, b_177, b_182, b_184⟩ := hW_161.at m_1 t_2
          have fe_185 : fld (f_155 a_0) 8 = (v_172 : Int32).toInt := by rw [e_166]; rfl
          have fe_186 : fld (f_155 a_0) 9 = (v_174 : Int32).toInt := by rw [e_166]; rfl
          rw [fe_185, fe_186] at x_157
          have fe_187 : fld (f_155 a_0) 8 = (v_172 : Int32).toInt := by rw [e_166]; rfl
          have fe_188 : fld (f_155 a_0) 9 = (v_174 : Int32).toInt := by rw [e_166]; rfl
          have fe_189 : fld (f_155 a_0) 10 = (v_176 : Int32).toInt := by rw [e_166]; rfl
          rw [fe_187, fe_188, fe_189] at x_158
          rw [fe_164] at x_159
          have fe_190 : fld (f_155 a_0) 12 = (v_179 : Int32).toInt := by rw [e_166]; rfl
          rw [fe_190] at x_159
          rw [fe_165] at x_160
          have fe_191 : fld (f_155 a_0) 20 = (v_183 : Int32).toInt := by rw [e_166]; rfl
          rw [fe_191] at x_160
          refine v_iload_n hC dX12_number_65 rfl ?_
          have fe_192 : fld (f_155 a_0) 8 = (v_172 : Int32).toInt := by rw [e_166]; rfl
          have fe_193 : fld (f_155 a_0) 9 = (v_174 : Int32).toInt := by rw [e_166]; rfl
          have fe_194 : fld (f_155 a_0) 10 = (v_176 : Int32).toInt := by rw [e_166]; rfl
          have fe_195 : fld (f_155 a_0) 12 = (v_179 : Int32).toInt := by rw [e_166]; rfl
          have fe_196 : fld (f_155 a_0) 12 = (v_179 : Int32).toInt := by rw [e_166]; rfl
          have fe_197 : fld (f_155 a_0) 20 = (v_183 : Int32).toInt := by rw [e_166]; rfl
          exact hR _ _ _ _ _ _ _ dX12_number_66 rfl (Nat.le_of_ble_eq_true rfl) (Nat.le_of_ble_eq_true rfl) ⟨rfl, hW_161, (hF_162.mono rfl), (by simp only [fe_192, fe_193, fe_194, fe_195, mz_40, mz_41, mz_42, true_and, and_true, or_true, true_or, false_or, or_false, false_and, and_false, not_true_eq_false, not_false_eq_true] <;> first | omega | (simp only [Int32.lt_iff_toInt_lt, Int32.le_iff_toInt_le, Int32.reduceToInt, ← Int32.toInt_inj, true_and, and_true, or_true, true_or, false_or, or_false, false_and, and_false, not_true_eq_false, not_false_eq_true] <;> omega)), (by simp only [fe_196, true_and, and_true, or_true, true_or, false_or, or_false, false_and, and_false, not_true_eq_false, not_false_eq_true] <;> first | omega | (simp only [Int32.lt_iff_toInt_lt, Int32.le_iff_toInt_le, Int32.reduceToInt, ← Int32.toInt_inj, true_and, and_true, or_true, true_or, false_or, or_false, false_and, and_false, not_true_eq_false, not_false_eq_true] <;> omega)), (by simp only [fe_197, mz_43, true_and, and_true, or_true, true_or, false_or, or_false, false_and, and_false, not_true_eq_false, not_false_eq_true] <;> first | omega | (simp only [Int32.lt_iff_toInt_lt, Int32.le_iff_toInt_le, Int32.reduceToInt, ← Int32.toInt_inj, true_and, and_true, or_true, true_or, false_or, or_false, false_and, and_false, not_true_eq_false, not_false_eq_true] <;> omega))⟩
        · simp only [Int32.lt_iff_toInt_lt, Int32.le_iff_toInt_le, Int32.reduceToInt, ← Int32.toInt_inj] at h_152
          refine v_iconst hC dX12_number_54 (v := 0) (by decide) ?_
          have fe_198 : fld (f a_0) 8 = (v_27 : Int32).toInt := by rw [e_21]; rfl
          have fe_199 : fld (f a_0) 9 = (v_29 : Int32).toInt := by rw [e_21]; rfl
          have fe_200 : fld (f a_0) 10 = (v_31 : Int32).toInt := by rw [e_21]; rfl
          have fe_201 : fld (f a_0) 12 = (v_34 : Int32).toInt := by rw [e_21]; rfl
          have fe_202 : fld (f a_0) 12 = (v_34 : Int32).toInt := by rw [e_21]; rfl
          have fe_203 : fld (f a_0) 20 = (v_38 : Int32).toInt := by rw [e_21]; rfl
          exact hR _ _ _ _ _ _ _ dX12_number_55 rfl (Nat.le_of_ble_eq_true rfl) (Nat.le_of_ble_eq_true rfl) ⟨rfl, hW, FR.rf, (by simp only [fe_198, fe_199, fe_200, fe_201, mz_40, mz_41, mz_42, true_and, and_true, or_true, true_or, false_or, or_false, false_and, and_false, not_true_eq_false, not_false_eq_true] <;> first | omega | (simp only [Int32.lt_iff_toInt_lt, Int32.le_iff_toInt_le, Int32.reduceToInt, ← Int32.toInt_inj, true_and, and_true, or_true, true_or, false_or, or_false, false_and, and_false, not_true_eq_false, not_false_eq_true] <;> omega)), (by simp only [fe_202, true_and, and_true, or_true, true_or, false_or, or_false, false_and, and_false, not_true_eq_false, not_false_eq_true] <;> first | omega | (simp only [Int32.lt_iff_toInt_lt, Int32.le_iff_toInt_le, Int32.reduceToInt, ← Int32.toInt_inj, true_and, and_true, or_true, true_or, false_or, or_false, false_and, and_false, not_true_eq_false, not_false_eq_true] <;> omega)), (by simp only [fe_203, mz_43, true_and, and_true, or_true, true_or, false_or, or_false, false_and, and_false, not_true_eq_false, not_false_eq_true] <;> first | omega | (simp only [Int32.lt_iff_toInt_lt, Int32.le_iff_toInt_le, Int32.reduceToInt, ← Int32.toInt_inj, true_and, and_true, or_true, true_or, false_or, or_false, false_and, and_false, not_true_eq_false, not_false_eq_true] <;> omega))⟩
      · simp only [Int32.lt_iff_toInt_lt, Int32.le_iff_toInt_le, Int32.reduceToInt, ← Int32.toInt_inj] at h_142
        refine v_aload_n hC dX12_number_42 rfl ?_
        refine v_iconst hC dX12_number_43 (v := 2) (by decide) ?_
        refine v_vv hC (rest := []) m_1 e_21 rfl mi_X12_errs ms_X12_errs (p_X12_errs hW k_0 (by decide)) mx_X12_errs ml_X12_162 (by decide) rfl (cells1 := 0) (slots1 := 0) (by decide) (by decide) (Nat.le_of_ble_eq_true rfl) (Nat.le_of_ble_eq_true rfl) rfl (Nat.le_of_ble_eq_true rfl) dX12_number_44 (fun L_205 f_206 h_207 => ?_)
        obtain ⟨rfl, hW_213, hF_214, x_208, x_209, x_210, x_211, x_212⟩ := h_207
        have fe_215 : fld (f a_0) 8 = (v_27 : Int32).toInt := by rw [e_21]; rfl
        have fe_216 : fld (f a_0) 9 = (v_29 : Int32).toInt := by rw [e_21]; rfl
        have fe_217 : fld (f a_0) 10 = (v_31 : Int32).toInt := by rw [e_21]; rfl
        have fe_218 : fld (f a_0) 20 = (v_38 : Int32).toInt := by rw [e_21]; rfl
        obtain ⟨v_220, v_221, v_223, v_225, v_227, v_229, v_231, v_232, v_233, v_234, v_236, e_219, b_222, b_224, b_226, b_228, b_230, b_235, b_237⟩ := hW_213.at m_1 t_2
        have fe_238 : fld (f_206 a_0) 12 = (v_232 : Int32).toInt := by rw [e_219]; rfl
        rw [fe_238] at x_208
        rw [fe_215] at x_209
        have fe_239 : fld (f_206 a_0) 8 = (v_225 : Int32).toInt := by rw [e_219]; rfl
        rw [fe_239] at x_209
        rw [fe_216] at x_210
        have fe_240 : fld (f_206 a_0) 9 = (v_227 : Int32).toInt := by rw [e_219]; rfl
        rw [fe_240] at x_210
        rw [fe_217] at x_211
        have fe_241 : fld (f_206 a_0) 10 = (v_229 : Int32).toInt := by rw [e_219]; rfl
        rw [fe_241] at x_211
        rw [fe_218] at x_212
        have fe_242 : fld (f_206 a_0) 20 = (v_236 : Int32).toInt := by rw [e_219]; rfl
        rw [fe_242] at x_212
        refine v_aload_n hC dX12_number_47 rfl ?_
        refine v_vi hC (rest := []) m_1 e_219 rfl mi_X12_good ms_X12_good (p_X12_good hW_213 k_0) mx_X12_good ml_X12_139 (by decide) rfl (cells1 := 0) (slots1 := 0) (by decide) (by decide) (Nat.le_of_ble_eq_true rfl) (Nat.le_of_ble_eq_true rfl) rfl (Nat.le_of_ble_eq_true rfl) dX12_number_48 (fun r_243 L_244 f_245 h_246 => ?_)
        obtain ⟨rfl, rfl, b_247, x_248⟩ := h_246
        have fe_251 : fld (f_206 a_0) 12 = (v_232 : Int32).toInt := by rw [e_219]; rfl
        rw [fe_251] at x_248
        try simp only [Int32.reduceToInt, Int64.reduceToInt] at x_248
        refine v_if_ne hC dX12_number_51 (tgt := 56) (by decide) (fun h_252 => ?_) (fun h_252 => ?_)
        · simp only [Int32.lt_iff_toInt_lt, Int32.le_iff_toInt_le, Int32.reduceToInt, ← Int32.toInt_inj] at h_252
          refine v_aload_n hC dX12_number_56 rfl ?_
          refine v_get hC fl_X12_131 m_1 e_219 rfl dX12_number_57 ?_
          refine v_istore_n hC dX12_number_60 (by decide) (lv' := [(3, .int v_231), (0, .ref a_0), (1, .int a_1), (2, .int a_2)]) rfl ?_
          refine v_aload_n hC dX12_number_61 rfl ?_
          refine v_vv hC (rest := []) m_1 e_219 rfl mi_X12_advance ms_X12_advance (p_X12_advance hW_213 k_0) mx_X12_advance ml_X12_156 (by decide) rfl (cells1 := 0) (slots1 := 0) (by decide) (by decide) (Nat.le_of_ble_eq_true rfl) (Nat.le_of_ble_eq_true rfl) rfl (Nat.le_of_ble_eq_true rfl) dX12_number_62 (fun L_254 f_255 h_256 => ?_)
          obtain ⟨rfl, hW_261, hF_262, x_257, x_258, x_259, x_260⟩ := h_256
          have fe_263 : fld (f_206 a_0) 8 = (v_225 : Int32).toInt := by rw [e_219]; rfl
          have fe_264 : fld (f_206 a_0) 12 = (v_232 : Int32).toInt := by rw [e_219]; rfl
          have fe_265 : fld (f_206 a_0) 20 = (v_236 : Int32).toInt := by rw [e_219]; rfl
          rw [fe_263] at x_257
          obtain ⟨v_267, v_268, v_270, v_272, v_274, v_276, v_278, v_279, v_280, v_281, v_283, e_266, b_269, b_271, b_273, b_275, b_277, b_282, b_284⟩ := hW_261.at m_1 t_2
          have fe_285 : fld (f_255 a_0) 8 = (v_272 : Int32).toInt := by rw [e_266]; rfl
          have fe_286 : fld (f_255 a_0) 9 = (v_274 : Int32).toInt := by rw [e_266]; rfl
          rw [fe_285, fe_286] at x_257
          have fe_287 : fld (f_255 a_0) 8 = (v_272 : Int32).toInt := by rw [e_266]; rfl
          have fe_288 : fld (f_255 a_0) 9 = (v_274 : Int32).toInt := by rw [e_266]; rfl
          have fe_289 : fld (f_255 a_0) 10 = (v_276 : Int32).toInt := by rw [e_266]; rfl
          rw [fe_287, fe_288, fe_289] at x_258
          rw [fe_264] at x_259
          have fe_290 : fld (f_255 a_0) 12 = (v_279 : Int32).toInt := by rw [e_266]; rfl
          rw [fe_290] at x_259
          rw [fe_265] at x_260
          have fe_291 : fld (f_255 a_0) 20 = (v_283 : Int32).toInt := by rw [e_266]; rfl
          rw [fe_291] at x_260
          refine v_iload_n hC dX12_number_65 rfl ?_
          have fe_292 : fld (f_255 a_0) 8 = (v_272 : Int32).toInt := by rw [e_266]; rfl
          have fe_293 : fld (f_255 a_0) 9 = (v_274 : Int32).toInt := by rw [e_266]; rfl
          have fe_294 : fld (f_255 a_0) 10 = (v_276 : Int32).toInt := by rw [e_266]; rfl
          have fe_295 : fld (f_255 a_0) 12 = (v_279 : Int32).toInt := by rw [e_266]; rfl
          have fe_296 : fld (f_255 a_0) 12 = (v_279 : Int32).toInt := by rw [e_266]; rfl
          have fe_297 : fld (f_255 a_0) 20 = (v_283 : Int32).toInt := by rw [e_266]; rfl
          exact hR _ _ _ _ _ _ _ dX12_number_66 rfl (Nat.le_of_ble_eq_true rfl) (Nat.le_of_ble_eq_true rfl) ⟨rfl, hW_261, ((hF_214.tr hF_262).mono rfl), (by simp only [fe_292, fe_293, fe_294, fe_295, mz_40, mz_41, mz_42, true_and, and_true, or_true, true_or, false_or, or_false, false_and, and_false, not_true_eq_false, not_false_eq_true] <;> first | omega | (simp only [Int32.lt_iff_toInt_lt, Int32.le_iff_toInt_le, Int32.reduceToInt, ← Int32.toInt_inj, true_and, and_true, or_true, true_or, false_or, or_false, false_and, and_false, not_true_eq_false, not_false_eq_true] <;> omega)), (by simp only [fe_296, true_and, and_true, or_true, true_or, false_or, or_false, false_and, and_false, not_true_eq_false, not_false_eq_true] <;> first | omega | (simp only [Int32.lt_iff_toInt_lt, Int32.le_iff_toInt_le, Int32.reduceToInt, ← Int32.toInt_inj, true_and, and_true, or_true, true_or, false_or, or_false, false_and, and_false, not_true_eq_false, not_false_eq_true] <;> omega)), (by simp only [fe_297, mz_43, true_and, and_true, or_true, true_or, false_or, or_false, false_and, and_false, not_true_eq_false, not_false_eq_true] <;> first | omega | (simp only [Int32.lt_iff_toInt_lt, Int32.le_iff_toInt_le, Int32.reduceToInt, ← Int32.toInt_inj, true_and, and_true, or_true, true_or, false_or, or_false, false_and, and_false, not_true_eq_false, not_false_eq_true] <;> omega))⟩
        · simp only [Int32.lt_iff_toInt_lt, Int32.le_iff_toInt_le, Int32.reduceToInt, ← Int32.toInt_inj] at h_252
          refine v_iconst hC dX12_number_54 (v := 0) (by decide) ?_
          have fe_298 : fld (f_206 a_0) 8 = (v_225 : Int32).toInt := by rw [e_219]; rfl
          have fe_299 : fld (f_206 a_0) 9 = (v_227 : Int32).toInt := by rw [e_219]; rfl
          have fe_300 : fld (f_206 a_0) 10 = (v_229 : Int32).toInt := by rw [e_219]; rfl
          have fe_301 : fld (f_206 a_0) 12 = (v_232 : Int32).toInt := by rw [e_219]; rfl
          have fe_302 : fld (f_206 a_0) 12 = (v_232 : Int32).toInt := by rw [e_219]; rfl
          have fe_303 : fld (f_206 a_0) 20 = (v_236 : Int32).toInt := by rw [e_219]; rfl
          exact hR _ _ _ _ _ _ _ dX12_number_55 rfl (Nat.le_of_ble_eq_true rfl) (Nat.le_of_ble_eq_true rfl) ⟨rfl, hW_213, (hF_214.mono rfl), (by simp only [fe_298, fe_299, fe_300, fe_301, mz_40, mz_41, mz_42, true_and, and_true, or_true, true_or, false_or, or_false, false_and, and_false, not_true_eq_false, not_false_eq_true] <;> first | omega | (simp only [Int32.lt_iff_toInt_lt, Int32.le_iff_toInt_le, Int32.reduceToInt, ← Int32.toInt_inj, true_and, and_true, or_true, true_or, false_or, or_false, false_and, and_false, not_true_eq_false, not_false_eq_true] <;> omega)), (by simp only [fe_302, true_and, and_true, or_true, true_or, false_or, or_false, false_and, and_false, not_true_eq_false, not_false_eq_true] <;> first | omega | (simp only [Int32.lt_iff_toInt_lt, Int32.le_iff_toInt_le, Int32.reduceToInt, ← Int32.toInt_inj, true_and, and_true, or_true, true_or, false_or, or_false, false_and, and_false, not_true_eq_false, not_false_eq_true] <;> omega)), (by simp only [fe_303, mz_43, true_and, and_true, or_true, true_or, false_or, or_false, false_and, and_false, not_true_eq_false, not_false_eq_true] <;> first | omega | (simp only [Int32.lt_iff_toInt_lt, Int32.le_iff_toInt_le, Int32.reduceToInt, ← Int32.toInt_inj, true_and, and_true, or_true, true_or, false_or, or_false, false_and, and_false, not_true_eq_false, not_false_eq_true] <;> omega))⟩
  · simp only [Int32.lt_iff_toInt_lt, Int32.le_iff_toInt_le, Int32.reduceToInt, ← Int32.toInt_inj] at h_53
    refine v_aload_n hC dX12_number_7 rfl ?_
    refine v_get hC fl_X12_120 m_1 e_21 rfl dX12_number_8 ?_
    refine v_iconst hC dX12_number_11 (v := 2) (by decide) ?_
    refine v_icmp_eq hC dX12_number_12 (tgt := 20) (by decide) (fun h_304 => ?_) (fun h_304 => ?_)
    · simp only [Int32.lt_iff_toInt_lt, Int32.le_iff_toInt_le, Int32.reduceToInt, ← Int32.toInt_inj] at h_304
      refine v_aload_n hC dX12_number_20 rfl ?_
      refine v_vi hC (rest := []) m_1 e_21 rfl mi_X12_good ms_X12_good (p_X12_good hW k_0) mx_X12_good ml_X12_139 (by decide) rfl (cells1 := 0) (slots1 := 0) (by decide) (by decide) (Nat.le_of_ble_eq_true rfl) (Nat.le_of_ble_eq_true rfl) rfl (Nat.le_of_ble_eq_true rfl) dX12_number_21 (fun r_305 L_306 f_307 h_308 => ?_)
      obtain ⟨rfl, rfl, b_309, x_310⟩ := h_308
      have fe_313 : fld (f a_0) 12 = (v_34 : Int32).toInt := by rw [e_21]; rfl
      rw [fe_313] at x_310
      try simp only [Int32.reduceToInt, Int64.reduceToInt] at x_310
      refine v_if_eq hC dX12_number_24 (tgt := 47) (by decide) (fun h_314 => ?_) (fun h_314 => ?_)
      · simp only [Int32.lt_iff_toInt_lt, Int32.le_iff_toInt_le, Int32.reduceToInt, ← Int32.toInt_inj] at h_314
        refine v_aload_n hC dX12_number_47 rfl ?_
        refine v_vi hC (rest := []) m_1 e_21 rfl mi_X12_good ms_X12_good (p_X12_good hW k_0) mx_X12_good ml_X12_139 (by decide) rfl (cells1 := 0) (slots1 := 0) (by decide) (by decide) (Nat.le_of_ble_eq_true rfl) (Nat.le_of_ble_eq_true rfl) rfl (Nat.le_of_ble_eq_true rfl) dX12_number_48 (fun r_315 L_316 f_317 h_318 => ?_)
        obtain ⟨rfl, rfl, b_319, x_320⟩ := h_318
        have fe_323 : fld (f a_0) 12 = (v_34 : Int32).toInt := by rw [e_21]; rfl
        rw [fe_323] at x_320
        try simp only [Int32.reduceToInt, Int64.reduceToInt] at x_320
        refine v_if_ne hC dX12_number_51 (tgt := 56) (by decide) (fun h_324 => ?_) (fun h_324 => ?_)
        · simp only [Int32.lt_iff_toInt_lt, Int32.le_iff_toInt_le, Int32.reduceToInt, ← Int32.toInt_inj] at h_324
          refine v_aload_n hC dX12_number_56 rfl ?_
          refine v_get hC fl_X12_131 m_1 e_21 rfl dX12_number_57 ?_
          refine v_istore_n hC dX12_number_60 (by decide) (lv' := [(3, .int v_33), (0, .ref a_0), (1, .int a_1), (2, .int a_2)]) rfl ?_
          refine v_aload_n hC dX12_number_61 rfl ?_
          refine v_vv hC (rest := []) m_1 e_21 rfl mi_X12_advance ms_X12_advance (p_X12_advance hW k_0) mx_X12_advance ml_X12_156 (by decide) rfl (cells1 := 0) (slots1 := 0) (by decide) (by decide) (Nat.le_of_ble_eq_true rfl) (Nat.le_of_ble_eq_true rfl) rfl (Nat.le_of_ble_eq_true rfl) dX12_number_62 (fun L_326 f_327 h_328 => ?_)
          obtain ⟨rfl, hW_333, hF_334, x_329, x_330, x_331, x_332⟩ := h_328
          have fe_335 : fld (f a_0) 8 = (v_27 : Int32).toInt := by rw [e_21]; rfl
          have fe_336 : fld (f a_0) 12 = (v_34 : Int32).toInt := by rw [e_21]; rfl
          have fe_337 : fld (f a_0) 20 = (v_38 : Int32).toInt := by rw [e_21]; rfl
          rw [fe_335] at x_329
          obtain ⟨v_339, v_340, v_342, v_344, v_346, v_348, v_350, v_351, v_352, v_353, v_355, e_338, b_341, b_343, b_345, b_347, b_349, b_354, b_356⟩ := hW_333.at m_1 t_2
          have fe_357 : fld (f_327 a_0) 8 = (v_344 : Int32).toInt := by rw [e_338]; rfl
          have fe_358 : fld (f_327 a_0) 9 = (v_346 : Int32).toInt := by rw [e_338]; rfl
          rw [fe_357, fe_358] at x_329
          have fe_359 : fld (f_327 a_0) 8 = (v_344 : Int32).toInt := by rw [e_338]; rfl
          have fe_360 : fld (f_327 a_0) 9 = (v_346 : Int32).toInt := by rw [e_338]; rfl
          have fe_361 : fld (f_327 a_0) 10 = (v_348 : Int32).toInt := by rw [e_338]; rfl
          rw [fe_359, fe_360, fe_361] at x_330
          rw [fe_336] at x_331
          have fe_362 : fld (f_327 a_0) 12 = (v_351 : Int32).toInt := by rw [e_338]; rfl
          rw [fe_362] at x_331
          rw [fe_337] at x_332
          have fe_363 : fld (f_327 a_0) 20 = (v_355 : Int32).toInt := by rw [e_338]; rfl
          rw [fe_363] at x_332
          refine v_iload_n hC dX12_number_65 rfl ?_
          have fe_364 : fld (f_327 a_0) 8 = (v_344 : Int32).toInt := by rw [e_338]; rfl
          have fe_365 : fld (f_327 a_0) 9 = (v_346 : Int32).toInt := by rw [e_338]; rfl
          have fe_366 : fld (f_327 a_0) 10 = (v_348 : Int32).toInt := by rw [e_338]; rfl
          have fe_367 : fld (f_327 a_0) 12 = (v_351 : Int32).toInt := by rw [e_338]; rfl
          have fe_368 : fld (f_327 a_0) 12 = (v_351 : Int32).toInt := by rw [e_338]; rfl
          have fe_369 : fld (f_327 a_0) 20 = (v_355 : Int32).toInt := by rw [e_338]; rfl
          exact hR _ _ _ _ _ _ _ dX12_number_66 rfl (Nat.le_of_ble_eq_true rfl) (Nat.le_of_ble_eq_true rfl) ⟨rfl, hW_333, (hF_334.mono rfl), (by simp only [fe_364, fe_365, fe_366, fe_367, mz_40, mz_41, mz_42, true_and, and_true, or_true, true_or, false_or, or_false, false_and, and_false, not_true_eq_false, not_false_eq_true] <;> first | omega | (simp only [Int32.lt_iff_toInt_lt, Int32.le_iff_toInt_le, Int32.reduceToInt, ← Int32.toInt_inj, true_and, and_true, or_true, true_or, false_or, or_false, false_and, and_false, not_true_eq_false, not_false_eq_true] <;> omega)), (by simp only [fe_368, true_and, and_true, or_true, true_or, false_or, or_false, false_and, and_false, not_true_eq_false, not_false_eq_true] <;> first | omega | (simp only [Int32.lt_iff_toInt_lt, Int32.le_iff_toInt_le, Int32.reduceToInt, ← Int32.toInt_inj, true_and, and_true, or_true, true_or, false_or, or_false, false_and, and_false, not_true_eq_false, not_false_eq_true] <;> omega)), (by simp only [fe_369, mz_43, true_and, and_true, or_true, true_or, false_or, or_false, false_and, and_false, not_true_eq_false, not_false_eq_true] <;> first | omega | (simp only [Int32.lt_iff_toInt_lt, Int32.le_iff_toInt_le, Int32.reduceToInt, ← Int32.toInt_inj, true_and, and_true, or_true, true_or, false_or, or_false, false_and, and_false, not_true_eq_false, not_false_eq_true] <;> omega))⟩
        · simp only [Int32.lt_iff_toInt_lt, Int32.le_iff_toInt_le, Int32.reduceToInt, ← Int32.toInt_inj] at h_324
          refine v_iconst hC dX12_number_54 (v := 0) (by decide) ?_
          have fe_370 : fld (f a_0) 8 = (v_27 : Int32).toInt := by rw [e_21]; rfl
          have fe_371 : fld (f a_0) 9 = (v_29 : Int32).toInt := by rw [e_21]; rfl
          have fe_372 : fld (f a_0) 10 = (v_31 : Int32).toInt := by rw [e_21]; rfl
          have fe_373 : fld (f a_0) 12 = (v_34 : Int32).toInt := by rw [e_21]; rfl
          have fe_374 : fld (f a_0) 12 = (v_34 : Int32).toInt := by rw [e_21]; rfl
          have fe_375 : fld (f a_0) 20 = (v_38 : Int32).toInt := by rw [e_21]; rfl
          exact hR _ _ _ _ _ _ _ dX12_number_55 rfl (Nat.le_of_ble_eq_true rfl) (Nat.le_of_ble_eq_true rfl) ⟨rfl, hW, FR.rf, (by simp only [fe_370, fe_371, fe_372, fe_373, mz_40, mz_41, mz_42, true_and, and_true, or_true, true_or, false_or, or_false, false_and, and_false, not_true_eq_false, not_false_eq_true] <;> first | omega | (simp only [Int32.lt_iff_toInt_lt, Int32.le_iff_toInt_le, Int32.reduceToInt, ← Int32.toInt_inj, true_and, and_true, or_true, true_or, false_or, or_false, false_and, and_false, not_true_eq_false, not_false_eq_true] <;> omega)), (by simp only [fe_374, true_and, and_true, or_true, true_or, false_or, or_false, false_and, and_false, not_true_eq_false, not_false_eq_true] <;> first | omega | (simp only [Int32.lt_iff_toInt_lt, Int32.le_iff_toInt_le, Int32.reduceToInt, ← Int32.toInt_inj, true_and, and_true, or_true, true_or, false_or, or_false, false_and, and_false, not_true_eq_false, not_false_eq_true] <;> omega)), (by simp only [fe_375, mz_43, true_and, and_true, or_true, true_or, false_or, or_false, false_and, and_false, not_true_eq_false, not_false_eq_true] <;> first | omega | (simp only [Int32.lt_iff_toInt_lt, Int32.le_iff_toInt_le, Int32.reduceToInt, ← Int32.toInt_inj, true_and, and_true, or_true, true_or, false_or, or_false, false_and, and_false, not_true_eq_false, not_false_eq_true] <;> omega))⟩
      · simp only [Int32.lt_iff_toInt_lt, Int32.le_iff_toInt_le, Int32.reduceToInt, ← Int32.toInt_inj] at h_314
        refine v_aload_n hC dX12_number_27 rfl ?_
        refine v_get hC fl_X12_131 m_1 e_21 rfl dX12_number_28 ?_
        obtain ⟨v_376, h_377⟩ : ∃ v9 : Int64, v_33.toInt64 = v9 := ⟨_, rfl⟩
        refine v_i2l hC dX12_number_31 h_377 ?_
        have h_378 : v_376.toInt = v_33.toInt := by rw [← h_377]; exact Int32.toInt_toInt64 _
        refine v_iload_n hC dX12_number_32 rfl ?_
        obtain ⟨v_379, h_380⟩ : ∃ v9 : Int64, a_1.toInt64 = v9 := ⟨_, rfl⟩
        refine v_i2l hC dX12_number_33 h_380 ?_
        have h_381 : v_379.toInt = a_1.toInt := by rw [← h_380]; exact Int32.toInt_toInt64 _
        refine v_iload_n hC dX12_number_34 rfl ?_
        obtain ⟨v_382, h_383⟩ : ∃ v9 : Int64, a_2.toInt64 = v9 := ⟨_, rfl⟩
        refine v_i2l hC dX12_number_35 h_383 ?_
        have h_384 : v_382.toInt = a_2.toInt := by rw [← h_383]; exact Int32.toInt_toInt64 _
        refine v_si hC (rest := []) mt_X12_in (p_X12_in hW) mx_X12_in ml_X12_79 (by decide) rfl (cells1 := 0) (slots1 := 0) (by decide) (by decide) (Nat.le_of_ble_eq_true rfl) (Nat.le_of_ble_eq_true rfl) rfl (Nat.le_of_ble_eq_true rfl) dX12_number_36 (fun r_385 L_386 f_387 h_388 => ?_)
        obtain ⟨rfl, rfl, b_389, x_390⟩ := h_388
        try simp only [Int32.reduceToInt, Int64.reduceToInt] at x_390
        refine v_if_ne hC dX12_number_39 (tgt := 47) (by decide) (fun h_393 => ?_) (fun h_393 => ?_)
        · simp only [Int32.lt_iff_toInt_lt, Int32.le_iff_toInt_le, Int32.reduceToInt, ← Int32.toInt_inj] at h_393
          refine v_aload_n hC dX12_number_47 rfl ?_
          refine v_vi hC (rest := []) m_1 e_21 rfl mi_X12_good ms_X12_good (p_X12_good hW k_0) mx_X12_good ml_X12_139 (by decide) rfl (cells1 := 0) (slots1 := 0) (by decide) (by decide) (Nat.le_of_ble_eq_true rfl) (Nat.le_of_ble_eq_true rfl) rfl (Nat.le_of_ble_eq_true rfl) dX12_number_48 (fun r_394 L_395 f_396 h_397 => ?_)
          obtain ⟨rfl, rfl, b_398, x_399⟩ := h_397
          have fe_402 : fld (f a_0) 12 = (v_34 : Int32).toInt := by rw [e_21]; rfl
          rw [fe_402] at x_399
          try simp only [Int32.reduceToInt, Int64.reduceToInt] at x_399
          refine v_if_ne hC dX12_number_51 (tgt := 56) (by decide) (fun h_403 => ?_) (fun h_403 => ?_)
          · simp only [Int32.lt_iff_toInt_lt, Int32.le_iff_toInt_le, Int32.reduceToInt, ← Int32.toInt_inj] at h_403
            refine v_aload_n hC dX12_number_56 rfl ?_
            refine v_get hC fl_X12_131 m_1 e_21 rfl dX12_number_57 ?_
            refine v_istore_n hC dX12_number_60 (by decide) (lv' := [(3, .int v_33), (0, .ref a_0), (1, .int a_1), (2, .int a_2)]) rfl ?_
            refine v_aload_n hC dX12_number_61 rfl ?_
            refine v_vv hC (rest := []) m_1 e_21 rfl mi_X12_advance ms_X12_advance (p_X12_advance hW k_0) mx_X12_advance ml_X12_156 (by decide) rfl (cells1 := 0) (slots1 := 0) (by decide) (by decide) (Nat.le_of_ble_eq_true rfl) (Nat.le_of_ble_eq_true rfl) rfl (Nat.le_of_ble_eq_true rfl) dX12_number_62 (fun L_405 f_406 h_407 => ?_)
            obtain ⟨rfl, hW_412, hF_413, x_408, x_409, x_410, x_411⟩ := h_407
            have fe_414 : fld (f a_0) 8 = (v_27 : Int32).toInt := by rw [e_21]; rfl
            have fe_415 : fld (f a_0) 12 = (v_34 : Int32).toInt := by rw [e_21]; rfl
            have fe_416 : fld (f a_0) 20 = (v_38 : Int32).toInt := by rw [e_21]; rfl
            rw [fe_414] at x_408
            obtain ⟨v_418, v_419, v_421, v_423, v_425, v_427, v_429, v_430, v_431, v_432, v_434, e_417, b_420, b_422, b_424, b_426, b_428, b_433, b_435⟩ := hW_412.at m_1 t_2
            have fe_436 : fld (f_406 a_0) 8 = (v_423 : Int32).toInt := by rw [e_417]; rfl
            have fe_437 : fld (f_406 a_0) 9 = (v_425 : Int32).toInt := by rw [e_417]; rfl
            rw [fe_436, fe_437] at x_408
            have fe_438 : fld (f_406 a_0) 8 = (v_423 : Int32).toInt := by rw [e_417]; rfl
            have fe_439 : fld (f_406 a_0) 9 = (v_425 : Int32).toInt := by rw [e_417]; rfl
            have fe_440 : fld (f_406 a_0) 10 = (v_427 : Int32).toInt := by rw [e_417]; rfl
            rw [fe_438, fe_439, fe_440] at x_409
            rw [fe_415] at x_410
            have fe_441 : fld (f_406 a_0) 12 = (v_430 : Int32).toInt := by rw [e_417]; rfl
            rw [fe_441] at x_410
            rw [fe_416] at x_411
            have fe_442 : fld (f_406 a_0) 20 = (v_434 : Int32).toInt := by rw [e_417]; rfl
            rw [fe_442] at x_411
            refine v_iload_n hC dX12_number_65 rfl ?_
            have fe_443 : fld (f_406 a_0) 8 = (v_423 : Int32).toInt := by rw [e_417]; rfl
            have fe_444 : fld (f_406 a_0) 9 = (v_425 : Int32).toInt := by rw [e_417]; rfl
            have fe_445 : fld (f_406 a_0) 10 = (v_427 : Int32).toInt := by rw [e_417]; rfl
            have fe_446 : fld (f_406 a_0) 12 = (v_430 : Int32).toInt := by rw [e_417]; rfl
            have fe_447 : fld (f_406 a_0) 12 = (v_430 : Int32).toInt := by rw [e_417]; rfl
            have fe_448 : fld (f_406 a_0) 20 = (v_434 : Int32).toInt := by rw [e_417]; rfl
            exact hR _ _ _ _ _ _ _ dX12_number_66 rfl (Nat.le_of_ble_eq_true rfl) (Nat.le_of_ble_eq_true rfl) ⟨rfl, hW_412, (hF_413.mono rfl), (by simp only [fe_443, fe_444, fe_445, fe_446, mz_40, mz_41, mz_42, true_and, and_true, or_true, true_or, false_or, or_false, false_and, and_false, not_true_eq_false, not_false_eq_true] <;> first | omega | (simp only [Int32.lt_iff_toInt_lt, Int32.le_iff_toInt_le, Int32.reduceToInt, ← Int32.toInt_inj, true_and, and_true, or_true, true_or, false_or, or_false, false_and, and_false, not_true_eq_false, not_false_eq_true] <;> omega)), (by simp only [fe_447, true_and, and_true, or_true, true_or, false_or, or_false, false_and, and_false, not_true_eq_false, not_false_eq_true] <;> first | omega | (simp only [Int32.lt_iff_toInt_lt, Int32.le_iff_toInt_le, Int32.reduceToInt, ← Int32.toInt_inj, true_and, and_true, or_true, true_or, false_or, or_false, false_and, and_false, not_true_eq_false, not_false_eq_true] <;> omega)), (by simp only [fe_448, mz_43, true_and, and_true, or_true, true_or, false_or, or_false, false_and, and_false, not_true_eq_false, not_false_eq_true] <;> first | omega | (simp only [Int32.lt_iff_toInt_lt, Int32.le_iff_toInt_le, Int32.reduceToInt, ← Int32.toInt_inj, true_and, and_true, or_true, true_or, false_or, or_false, false_and, and_false, not_true_eq_false, not_false_eq_true] <;> omega))⟩
          · simp only [Int32.lt_iff_toInt_lt, Int32.le_iff_toInt_le, Int32.reduceToInt, ← Int32.toInt_inj] at h_403
            refine v_iconst hC dX12_number_54 (v := 0) (by decide) ?_
            have fe_449 : fld (f a_0) 8 = (v_27 : Int32).toInt := by rw [e_21]; rfl
            have fe_450 : fld (f a_0) 9 = (v_29 : Int32).toInt := by rw [e_21]; rfl
            have fe_451 : fld (f a_0) 10 = (v_31 : Int32).toInt := by rw [e_21]; rfl
            have fe_452 : fld (f a_0) 12 = (v_34 : Int32).toInt := by rw [e_21]; rfl
            have fe_453 : fld (f a_0) 12 = (v_34 : Int32).toInt := by rw [e_21]; rfl
            have fe_454 : fld (f a_0) 20 = (v_38 : Int32).toInt := by rw [e_21]; rfl
            exact hR _ _ _ _ _ _ _ dX12_number_55 rfl (Nat.le_of_ble_eq_true rfl) (Nat.le_of_ble_eq_true rfl) ⟨rfl, hW, FR.rf, (by simp only [fe_449, fe_450, fe_451, fe_452, mz_40, mz_41, mz_42, true_and, and_true, or_true, true_or, false_or, or_false, false_and, and_false, not_true_eq_false, not_false_eq_true] <;> first | omega | (simp only [Int32.lt_iff_toInt_lt, Int32.le_iff_toInt_le, Int32.reduceToInt, ← Int32.toInt_inj, true_and, and_true, or_true, true_or, false_or, or_false, false_and, and_false, not_true_eq_false, not_false_eq_true] <;> omega)), (by simp only [fe_453, true_and, and_true, or_true, true_or, false_or, or_false, false_and, and_false, not_true_eq_false, not_false_eq_true] <;> first | omega | (simp only [Int32.lt_iff_toInt_lt, Int32.le_iff_toInt_le, Int32.reduceToInt, ← Int32.toInt_inj, true_and, and_true, or_true, true_or, false_or, or_false, false_and, and_false, not_true_eq_false, not_false_eq_true] <;> omega)), (by simp only [fe_454, mz_43, true_and, and_true, or_true, true_or, false_or, or_false, false_and, and_false, not_true_eq_false, not_false_eq_true] <;> first | omega | (simp only [Int32.lt_iff_toInt_lt, Int32.le_iff_toInt_le, Int32.reduceToInt, ← Int32.toInt_inj, true_and, and_true, or_true, true_or, false_or, or_false, false_and, and_false, not_true_eq_false, not_false_eq_true] <;> omega))⟩
        · simp only [Int32.lt_iff_toInt_lt, Int32.le_iff_toInt_le, Int32.reduceToInt, ← Int32.toInt_inj] at h_393
          refine v_aload_n hC dX12_number_42 rfl ?_
          refine v_iconst hC dX12_number_43 (v := 2) (by decide) ?_
          refine v_vv hC (rest := []) m_1 e_21 rfl mi_X12_errs ms_X12_errs (p_X12_errs hW k_0 (by decide)) mx_X12_errs ml_X12_162 (by decide) rfl (cells1 := 0) (slots1 := 0) (by decide) (by decide) (Nat.le_of_ble_eq_true rfl) (Nat.le_of_ble_eq_true rfl) rfl (Nat.le_of_ble_eq_true rfl) dX12_number_44 (fun L_456 f_457 h_458 => ?_)
          obtain ⟨rfl, hW_464, hF_465, x_459, x_460, x_461, x_462, x_463⟩ := h_458
          have fe_466 : fld (f a_0) 8 = (v_27 : Int32).toInt := by rw [e_21]; rfl
          have fe_467 : fld (f a_0) 9 = (v_29 : Int32).toInt := by rw [e_21]; rfl
          have fe_468 : fld (f a_0) 10 = (v_31 : Int32).toInt := by rw [e_21]; rfl
          have fe_469 : fld (f a_0) 20 = (v_38 : Int32).toInt := by rw [e_21]; rfl
          obtain ⟨v_471, v_472, v_474, v_476, v_478, v_480, v_482, v_483, v_484, v_485, v_487, e_470, b_473, b_475, b_477, b_479, b_481, b_486, b_488⟩ := hW_464.at m_1 t_2
          have fe_489 : fld (f_457 a_0) 12 = (v_483 : Int32).toInt := by rw [e_470]; rfl
          rw [fe_489] at x_459
          rw [fe_466] at x_460
          have fe_490 : fld (f_457 a_0) 8 = (v_476 : Int32).toInt := by rw [e_470]; rfl
          rw [fe_490] at x_460
          rw [fe_467] at x_461
          have fe_491 : fld (f_457 a_0) 9 = (v_478 : Int32).toInt := by rw [e_470]; rfl
          rw [fe_491] at x_461
          rw [fe_468] at x_462
          have fe_492 : fld (f_457 a_0) 10 = (v_480 : Int32).toInt := by rw [e_470]; rfl
          rw [fe_492] at x_462
          rw [fe_469] at x_463
          have fe_493 : fld (f_457 a_0) 20 = (v_487 : Int32).toInt := by rw [e_470]; rfl
          rw [fe_493] at x_463
          refine v_aload_n hC dX12_number_47 rfl ?_
          refine v_vi hC (rest := []) m_1 e_470 rfl mi_X12_good ms_X12_good (p_X12_good hW_464 k_0) mx_X12_good ml_X12_139 (by decide) rfl (cells1 := 0) (slots1 := 0) (by decide) (by decide) (Nat.le_of_ble_eq_true rfl) (Nat.le_of_ble_eq_true rfl) rfl (Nat.le_of_ble_eq_true rfl) dX12_number_48 (fun r_494 L_495 f_496 h_497 => ?_)
          obtain ⟨rfl, rfl, b_498, x_499⟩ := h_497
          have fe_502 : fld (f_457 a_0) 12 = (v_483 : Int32).toInt := by rw [e_470]; rfl
          rw [fe_502] at x_499
          try simp only [Int32.reduceToInt, Int64.reduceToInt] at x_499
          refine v_if_ne hC dX12_number_51 (tgt := 56) (by decide) (fun h_503 => ?_) (fun h_503 => ?_)
          · simp only [Int32.lt_iff_toInt_lt, Int32.le_iff_toInt_le, Int32.reduceToInt, ← Int32.toInt_inj] at h_503
            refine v_aload_n hC dX12_number_56 rfl ?_
            refine v_get hC fl_X12_131 m_1 e_470 rfl dX12_number_57 ?_
            refine v_istore_n hC dX12_number_60 (by decide) (lv' := [(3, .int v_482), (0, .ref a_0), (1, .int a_1), (2, .int a_2)]) rfl ?_
            refine v_aload_n hC dX12_number_61 rfl ?_
            refine v_vv hC (rest := []) m_1 e_470 rfl mi_X12_advance ms_X12_advance (p_X12_advance hW_464 k_0) mx_X12_advance ml_X12_156 (by decide) rfl (cells1 := 0) (slots1 := 0) (by decide) (by decide) (Nat.le_of_ble_eq_true rfl) (Nat.le_of_ble_eq_true rfl) rfl (Nat.le_of_ble_eq_true rfl) dX12_number_62 (fun L_505 f_506 h_507 => ?_)
            obtain ⟨rfl, hW_512, hF_513, x_508, x_509, x_510, x_511⟩ := h_507
            have fe_514 : fld (f_457 a_0) 8 = (v_476 : Int32).toInt := by rw [e_470]; rfl
            have fe_515 : fld (f_457 a_0) 12 = (v_483 : Int32).toInt := by rw [e_470]; rfl
            have fe_516 : fld (f_457 a_0) 20 = (v_487 : Int32).toInt := by rw [e_470]; rfl
            rw [fe_514] at x_508
            obtain ⟨v_518, v_519, v_521, v_523, v_525, v_527, v_529, v_530, v_531, v_532, v_534, e_517, b_520, b_522, b_524, b_526, b_528, b_533, b_535⟩ := hW_512.at m_1 t_2
            have fe_536 : fld (f_506 a_0) 8 = (v_523 : Int32).toInt := by rw [e_517]; rfl
            have fe_537 : fld (f_506 a_0) 9 = (v_525 : Int32).toInt := by rw [e_517]; rfl
            rw [fe_536, fe_537] at x_508
            have fe_538 : fld (f_506 a_0) 8 = (v_523 : Int32).toInt := by rw [e_517]; rfl
            have fe_539 : fld (f_506 a_0) 9 = (v_525 : Int32).toInt := by rw [e_517]; rfl
            have fe_540 : fld (f_506 a_0) 10 = (v_527 : Int32).toInt := by rw [e_517]; rfl
            rw [fe_538, fe_539, fe_540] at x_509
            rw [fe_515] at x_510
            have fe_541 : fld (f_506 a_0) 12 = (v_530 : Int32).toInt := by rw [e_517]; rfl
            rw [fe_541] at x_510
            rw [fe_516] at x_511
            have fe_542 : fld (f_506 a_0) 20 = (v_534 : Int32).toInt := by rw [e_517]; rfl
            rw [fe_542] at x_511
            refine v_iload_n hC dX12_number_65 rfl ?_
            have fe_543 : fld (f_506 a_0) 8 = (v_523 : Int32).toInt := by rw [e_517]; rfl
            have fe_544 : fld (f_506 a_0) 9 = (v_525 : Int32).toInt := by rw [e_517]; rfl
            have fe_545 : fld (f_506 a_0) 10 = (v_527 : Int32).toInt := by rw [e_517]; rfl
            have fe_546 : fld (f_506 a_0) 12 = (v_530 : Int32).toInt := by rw [e_517]; rfl
            have fe_547 : fld (f_506 a_0) 12 = (v_530 : Int32).toInt := by rw [e_517]; rfl
            have fe_548 : fld (f_506 a_0) 20 = (v_534 : Int32).toInt := by rw [e_517]; rfl
            exact hR _ _ _ _ _ _ _ dX12_number_66 rfl (Nat.le_of_ble_eq_true rfl) (Nat.le_of_ble_eq_true rfl) ⟨rfl, hW_512, ((hF_465.tr hF_513).mono rfl), (by simp only [fe_543, fe_544, fe_545, fe_546, mz_40, mz_41, mz_42, true_and, and_true, or_true, true_or, false_or, or_false, false_and, and_false, not_true_eq_false, not_false_eq_true] <;> first | omega | (simp only [Int32.lt_iff_toInt_lt, Int32.le_iff_toInt_le, Int32.reduceToInt, ← Int32.toInt_inj, true_and, and_true, or_true, true_or, false_or, or_false, false_and, and_false, not_true_eq_false, not_false_eq_true] <;> omega)), (by simp only [fe_547, true_and, and_true, or_true, true_or, false_or, or_false, false_and, and_false, not_true_eq_false, not_false_eq_true] <;> first | omega | (simp only [Int32.lt_iff_toInt_lt, Int32.le_iff_toInt_le, Int32.reduceToInt, ← Int32.toInt_inj, true_and, and_true, or_true, true_or, false_or, or_false, false_and, and_false, not_true_eq_false, not_false_eq_true] <;> omega)), (by simp only [fe_548, mz_43, true_and, and_true, or_true, true_or, false_or, or_false, false_and, and_false, not_true_eq_false, not_false_eq_true] <;> first | omega | (simp only [Int32.lt_iff_toInt_lt, Int32.le_iff_toInt_le, Int32.reduceToInt, ← Int32.toInt_inj, true_and, and_true, or_true, true_or, false_or, or_false, false_and, and_false, not_true_eq_false, not_false_eq_true] <;> omega))⟩
          · simp only [Int32.lt_iff_toInt_lt, Int32.le_iff_toInt_le, Int32.reduceToInt, ← Int32.toInt_inj] at h_503
            refine v_iconst hC dX12_number_54 (v := 0) (by decide) ?_
            have fe_549 : fld (f_457 a_0) 8 = (v_476 : Int32).toInt := by rw [e_470]; rfl
            have fe_550 : fld (f_457 a_0) 9 = (v_478 : Int32).toInt := by rw [e_470]; rfl
            have fe_551 : fld (f_457 a_0) 10 = (v_480 : Int32).toInt := by rw [e_470]; rfl
            have fe_552 : fld (f_457 a_0) 12 = (v_483 : Int32).toInt := by rw [e_470]; rfl
            have fe_553 : fld (f_457 a_0) 12 = (v_483 : Int32).toInt := by rw [e_470]; rfl
            have fe_554 : fld (f_457 a_0) 20 = (v_487 : Int32).toInt := by rw [e_470]; rfl
            exact hR _ _ _ _ _ _ _ dX12_number_55 rfl (Nat.le_of_ble_eq_true rfl) (Nat.le_of_ble_eq_true rfl) ⟨rfl, hW_464, (hF_465.mono rfl), (by simp only [fe_549, fe_550, fe_551, fe_552, mz_40, mz_41, mz_42, true_and, and_true, or_true, true_or, false_or, or_false, false_and, and_false, not_true_eq_false, not_false_eq_true] <;> first | omega | (simp only [Int32.lt_iff_toInt_lt, Int32.le_iff_toInt_le, Int32.reduceToInt, ← Int32.toInt_inj, true_and, and_true, or_true, true_or, false_or, or_false, false_and, and_false, not_true_eq_false, not_false_eq_true] <;> omega)), (by simp only [fe_553, true_and, and_true, or_true, true_or, false_or, or_false, false_and, and_false, not_true_eq_false, not_false_eq_true] <;> first | omega | (simp only [Int32.lt_iff_toInt_lt, Int32.le_iff_toInt_le, Int32.reduceToInt, ← Int32.toInt_inj, true_and, and_true, or_true, true_or, false_or, or_false, false_and, and_false, not_true_eq_false, not_false_eq_true] <;> omega)), (by simp only [fe_554, mz_43, true_and, and_true, or_true, true_or, false_or, or_false, false_and, and_false, not_true_eq_false, not_false_eq_true] <;> first | omega | (simp only [Int32.lt_iff_toInt_lt, Int32.le_iff_toInt_le, Int32.reduceToInt, ← Int32.toInt_inj, true_and, and_true, or_true, true_or, false_or, or_false, false_and, and_false, not_true_eq_false, not_false_eq_true] <;> omega))⟩
    · simp only [Int32.lt_iff_toInt_lt, Int32.le_iff_toInt_le, Int32.reduceToInt, ← Int32.toInt_inj] at h_304
      refine v_aload_n hC dX12_number_15 rfl ?_
      refine v_iconst hC dX12_number_16 (v := 1) (by decide) ?_
      refine v_vv hC (rest := []) m_1 e_21 rfl mi_X12_errs ms_X12_errs (p_X12_errs hW k_0 (by decide)) mx_X12_errs ml_X12_162 (by decide) rfl (cells1 := 0) (slots1 := 0) (by decide) (by decide) (Nat.le_of_ble_eq_true rfl) (Nat.le_of_ble_eq_true rfl) rfl (Nat.le_of_ble_eq_true rfl) dX12_number_17 (fun L_556 f_557 h_558 => ?_)
      obtain ⟨rfl, hW_564, hF_565, x_559, x_560, x_561, x_562, x_563⟩ := h_558
      have fe_566 : fld (f a_0) 8 = (v_27 : Int32).toInt := by rw [e_21]; rfl
      have fe_567 : fld (f a_0) 9 = (v_29 : Int32).toInt := by rw [e_21]; rfl
      have fe_568 : fld (f a_0) 10 = (v_31 : Int32).toInt := by rw [e_21]; rfl
      have fe_569 : fld (f a_0) 20 = (v_38 : Int32).toInt := by rw [e_21]; rfl
      obtain ⟨v_571, v_572, v_574, v_576, v_578, v_580, v_582, v_583, v_584, v_585, v_587, e_570, b_573, b_575, b_577, b_579, b_581, b_586, b_588⟩ := hW_564.at m_1 t_2
      have fe_589 : fld (f_557 a_0) 12 = (v_583 : Int32).toInt := by rw [e_570]; rfl
      rw [fe_589] at x_559
      rw [fe_566] at x_560
      have fe_590 : fld (f_557 a_0) 8 = (v_576 : Int32).toInt := by rw [e_570]; rfl
      rw [fe_590] at x_560
      rw [fe_567] at x_561
      have fe_591 : fld (f_557 a_0) 9 = (v_578 : Int32).toInt := by rw [e_570]; rfl
      rw [fe_591] at x_561
      rw [fe_568] at x_562
      have fe_592 : fld (f_557 a_0) 10 = (v_580 : Int32).toInt := by rw [e_570]; rfl
      rw [fe_592] at x_562
      rw [fe_569] at x_563
      have fe_593 : fld (f_557 a_0) 20 = (v_587 : Int32).toInt := by rw [e_570]; rfl
      rw [fe_593] at x_563
      refine v_aload_n hC dX12_number_20 rfl ?_
      refine v_vi hC (rest := []) m_1 e_570 rfl mi_X12_good ms_X12_good (p_X12_good hW_564 k_0) mx_X12_good ml_X12_139 (by decide) rfl (cells1 := 0) (slots1 := 0) (by decide) (by decide) (Nat.le_of_ble_eq_true rfl) (Nat.le_of_ble_eq_true rfl) rfl (Nat.le_of_ble_eq_true rfl) dX12_number_21 (fun r_594 L_595 f_596 h_597 => ?_)
      obtain ⟨rfl, rfl, b_598, x_599⟩ := h_597
      have fe_602 : fld (f_557 a_0) 12 = (v_583 : Int32).toInt := by rw [e_570]; rfl
      rw [fe_602] at x_599
      try simp only [Int32.reduceToInt, Int64.reduceToInt] at x_599
      refine v_if_eq hC dX12_number_24 (tgt := 47) (by decide) (fun h_603 => ?_) (fun h_603 => ?_)
      · simp only [Int32.lt_iff_toInt_lt, Int32.le_iff_toInt_le, Int32.reduceToInt, ← Int32.toInt_inj] at h_603
        refine v_aload_n hC dX12_number_47 rfl ?_
        refine v_vi hC (rest := []) m_1 e_570 rfl mi_X12_good ms_X12_good (p_X12_good hW_564 k_0) mx_X12_good ml_X12_139 (by decide) rfl (cells1 := 0) (slots1 := 0) (by decide) (by decide) (Nat.le_of_ble_eq_true rfl) (Nat.le_of_ble_eq_true rfl) rfl (Nat.le_of_ble_eq_true rfl) dX12_number_48 (fun r_604 L_605 f_606 h_607 => ?_)
        obtain ⟨rfl, rfl, b_608, x_609⟩ := h_607
        have fe_612 : fld (f_557 a_0) 12 = (v_583 : Int32).toInt := by rw [e_570]; rfl
        rw [fe_612] at x_609
        try simp only [Int32.reduceToInt, Int64.reduceToInt] at x_609
        refine v_if_ne hC dX12_number_51 (tgt := 56) (by decide) (fun h_613 => ?_) (fun h_613 => ?_)
        · simp only [Int32.lt_iff_toInt_lt, Int32.le_iff_toInt_le, Int32.reduceToInt, ← Int32.toInt_inj] at h_613
          refine v_aload_n hC dX12_number_56 rfl ?_
          refine v_get hC fl_X12_131 m_1 e_570 rfl dX12_number_57 ?_
          refine v_istore_n hC dX12_number_60 (by decide) (lv' := [(3, .int v_582), (0, .ref a_0), (1, .int a_1), (2, .int a_2)]) rfl ?_
          refine v_aload_n hC dX12_number_61 rfl ?_
          refine v_vv hC (rest := []) m_1 e_570 rfl mi_X12_advance ms_X12_advance (p_X12_advance hW_564 k_0) mx_X12_advance ml_X12_156 (by decide) rfl (cells1 := 0) (slots1 := 0) (by decide) (by decide) (Nat.le_of_ble_eq_true rfl) (Nat.le_of_ble_eq_true rfl) rfl (Nat.le_of_ble_eq_true rfl) dX12_number_62 (fun L_615 f_616 h_617 => ?_)
          obtain ⟨rfl, hW_622, hF_623, x_618, x_619, x_620, x_621⟩ := h_617
          have fe_624 : fld (f_557 a_0) 8 = (v_576 : Int32).toInt := by rw [e_570]; rfl
          have fe_625 : fld (f_557 a_0) 12 = (v_583 : Int32).toInt := by rw [e_570]; rfl
          have fe_626 : fld (f_557 a_0) 20 = (v_587 : Int32).toInt := by rw [e_570]; rfl
          rw [fe_624] at x_618
          obtain ⟨v_628, v_629, v_631, v_633, v_635, v_637, v_639, v_640, v_641, v_642, v_644, e_627, b_630, b_632, b_634, b_636, b_638, b_643, b_645⟩ := hW_622.at m_1 t_2
          have fe_646 : fld (f_616 a_0) 8 = (v_633 : Int32).toInt := by rw [e_627]; rfl
          have fe_647 : fld (f_616 a_0) 9 = (v_635 : Int32).toInt := by rw [e_627]; rfl
          rw [fe_646, fe_647] at x_618
          have fe_648 : fld (f_616 a_0) 8 = (v_633 : Int32).toInt := by rw [e_627]; rfl
          have fe_649 : fld (f_616 a_0) 9 = (v_635 : Int32).toInt := by rw [e_627]; rfl
          have fe_650 : fld (f_616 a_0) 10 = (v_637 : Int32).toInt := by rw [e_627]; rfl
          rw [fe_648, fe_649, fe_650] at x_619
          rw [fe_625] at x_620
          have fe_651 : fld (f_616 a_0) 12 = (v_640 : Int32).toInt := by rw [e_627]; rfl
          rw [fe_651] at x_620
          rw [fe_626] at x_621
          have fe_652 : fld (f_616 a_0) 20 = (v_644 : Int32).toInt := by rw [e_627]; rfl
          rw [fe_652] at x_621
          refine v_iload_n hC dX12_number_65 rfl ?_
          have fe_653 : fld (f_616 a_0) 8 = (v_633 : Int32).toInt := by rw [e_627]; rfl
          have fe_654 : fld (f_616 a_0) 9 = (v_635 : Int32).toInt := by rw [e_627]; rfl
          have fe_655 : fld (f_616 a_0) 10 = (v_637 : Int32).toInt := by rw [e_627]; rfl
          have fe_656 : fld (f_616 a_0) 12 = (v_640 : Int32).toInt := by rw [e_627]; rfl
          have fe_657 : fld (f_616 a_0) 12 = (v_640 : Int32).toInt := by rw [e_627]; rfl
          have fe_658 : fld (f_616 a_0) 20 = (v_644 : Int32).toInt := by rw [e_627]; rfl
          exact hR _ _ _ _ _ _ _ dX12_number_66 rfl (Nat.le_of_ble_eq_true rfl) (Nat.le_of_ble_eq_true rfl) ⟨rfl, hW_622, ((hF_565.tr hF_623).mono rfl), (by simp only [fe_653, fe_654, fe_655, fe_656, mz_40, mz_41, mz_42, true_and, and_true, or_true, true_or, false_or, or_false, false_and, and_false, not_true_eq_false, not_false_eq_true] <;> first | omega | (simp only [Int32.lt_iff_toInt_lt, Int32.le_iff_toInt_le, Int32.reduceToInt, ← Int32.toInt_inj, true_and, and_true, or_true, true_or, false_or, or_false, false_and, and_false, not_true_eq_false, not_false_eq_true] <;> omega)), (by simp only [fe_657, true_and, and_true, or_true, true_or, false_or, or_false, false_and, and_false, not_true_eq_false, not_false_eq_true] <;> first | omega | (simp only [Int32.lt_iff_toInt_lt, Int32.le_iff_toInt_le, Int32.reduceToInt, ← Int32.toInt_inj, true_and, and_true, or_true, true_or, false_or, or_false, false_and, and_false, not_true_eq_false, not_false_eq_true] <;> omega)), (by simp only [fe_658, mz_43, true_and, and_true, or_true, true_or, false_or, or_false, false_and, and_false, not_true_eq_false, not_false_eq_true] <;> first | omega | (simp only [Int32.lt_iff_toInt_lt, Int32.le_iff_toInt_le, Int32.reduceToInt, ← Int32.toInt_inj, true_and, and_true, or_true, true_or, false_or, or_false, false_and, and_false, not_true_eq_false, not_false_eq_true] <;> omega))⟩
        · simp only [Int32.lt_iff_toInt_lt, Int32.le_iff_toInt_le, Int32.reduceToInt, ← Int32.toInt_inj] at h_613
          refine v_iconst hC dX12_number_54 (v := 0) (by decide) ?_
          have fe_659 : fld (f_557 a_0) 8 = (v_576 : Int32).toInt := by rw [e_570]; rfl
          have fe_660 : fld (f_557 a_0) 9 = (v_578 : Int32).toInt := by rw [e_570]; rfl
          have fe_661 : fld (f_557 a_0) 10 = (v_580 : Int32).toInt := by rw [e_570]; rfl
          have fe_662 : fld (f_557 a_0) 12 = (v_583 : Int32).toInt := by rw [e_570]; rfl
          have fe_663 : fld (f_557 a_0) 12 = (v_583 : Int32).toInt := by rw [e_570]; rfl
          have fe_664 : fld (f_557 a_0) 20 = (v_587 : Int32).toInt := by rw [e_570]; rfl
          exact hR _ _ _ _ _ _ _ dX12_number_55 rfl (Nat.le_of_ble_eq_true rfl) (Nat.le_of_ble_eq_true rfl) ⟨rfl, hW_564, (hF_565.mono rfl), (by simp only [fe_659, fe_660, fe_661, fe_662, mz_40, mz_41, mz_42, true_and, and_true, or_true, true_or, false_or, or_false, false_and, and_false, not_true_eq_false, not_false_eq_true] <;> first | omega | (simp only [Int32.lt_iff_toInt_lt, Int32.le_iff_toInt_le, Int32.reduceToInt, ← Int32.toInt_inj, true_and, and_true, or_true, true_or, false_or, or_false, false_and, and_false, not_true_eq_false, not_false_eq_true] <;> omega)), (by simp only [fe_663, true_and, and_true, or_true, true_or, false_or, or_false, false_and, and_false, not_true_eq_false, not_false_eq_true] <;> first | omega | (simp only [Int32.lt_iff_toInt_lt, Int32.le_iff_toInt_le, Int32.reduceToInt, ← Int32.toInt_inj, true_and, and_true, or_true, true_or, false_or, or_false, false_and, and_false, not_true_eq_false, not_false_eq_true] <;> omega)), (by simp only [fe_664, mz_43, true_and, and_true, or_true, true_or, false_or, or_false, false_and, and_false, not_true_eq_false, not_false_eq_true] <;> first | omega | (simp only [Int32.lt_iff_toInt_lt, Int32.le_iff_toInt_le, Int32.reduceToInt, ← Int32.toInt_inj, true_and, and_true, or_true, true_or, false_or, or_false, false_and, and_false, not_true_eq_false, not_false_eq_true] <;> omega))⟩
      · simp only [Int32.lt_iff_toInt_lt, Int32.le_iff_toInt_le, Int32.reduceToInt, ← Int32.toInt_inj] at h_603
        refine v_aload_n hC dX12_number_27 rfl ?_
        refine v_get hC fl_X12_131 m_1 e_570 rfl dX12_number_28 ?_
        obtain ⟨v_665, h_666⟩ : ∃ v9 : Int64, v_582.toInt64 = v9 := ⟨_, rfl⟩
        refine v_i2l hC dX12_number_31 h_666 ?_
        have h_667 : v_665.toInt = v_582.toInt := by rw [← h_666]; exact Int32.toInt_toInt64 _
        refine v_iload_n hC dX12_number_32 rfl ?_
        obtain ⟨v_668, h_669⟩ : ∃ v9 : Int64, a_1.toInt64 = v9 := ⟨_, rfl⟩
        refine v_i2l hC dX12_number_33 h_669 ?_
        have h_670 : v_668.toInt = a_1.toInt := by rw [← h_669]; exact Int32.toInt_toInt64 _
        refine v_iload_n hC dX12_number_34 rfl ?_
        obtain ⟨v_671, h_672⟩ : ∃ v9 : Int64, a_2.toInt64 = v9 := ⟨_, rfl⟩
        refine v_i2l hC dX12_number_35 h_672 ?_
        have h_673 : v_671.toInt = a_2.toInt := by rw [← h_672]; exact Int32.toInt_toInt64 _
        refine v_si hC (rest := []) mt_X12_in (p_X12_in hW_564) mx_X12_in ml_X12_79 (by decide) rfl (cells1 := 0) (slots1 := 0) (by decide) (by decide) (Nat.le_of_ble_eq_true rfl) (Nat.le_of_ble_eq_true rfl) rfl (Nat.le_of_ble_eq_true rfl) dX12_number_36 (fun r_674 L_675 f_676 h_677 => ?_)
        obtain ⟨rfl, rfl, b_678, x_679⟩ := h_677
        try simp only [Int32.reduceToInt, Int64.reduceToInt] at x_679
        refine v_if_ne hC dX12_number_39 (tgt := 47) (by decide) (fun h_682 => ?_) (fun h_682 => ?_)
        · simp only [Int32.lt_iff_toInt_lt, Int32.le_iff_toInt_le, Int32.reduceToInt, ← Int32.toInt_inj] at h_682
          refine v_aload_n hC dX12_number_47 rfl ?_
          refine v_vi hC (rest := []) m_1 e_570 rfl mi_X12_good ms_X12_good (p_X12_good hW_564 k_0) mx_X12_good ml_X12_139 (by decide) rfl (cells1 := 0) (slots1 := 0) (by decide) (by decide) (Nat.le_of_ble_eq_true rfl) (Nat.le_of_ble_eq_true rfl) rfl (Nat.le_of_ble_eq_true rfl) dX12_number_48 (fun r_683 L_684 f_685 h_686 => ?_)
          obtain ⟨rfl, rfl, b_687, x_688⟩ := h_686
          have fe_691 : fld (f_557 a_0) 12 = (v_583 : Int32).toInt := by rw [e_570]; rfl
          rw [fe_691] at x_688
          try simp only [Int32.reduceToInt, Int64.reduceToInt] at x_688
          refine v_if_ne hC dX12_number_51 (tgt := 56) (by decide) (fun h_692 => ?_) (fun h_692 => ?_)
          · simp only [Int32.lt_iff_toInt_lt, Int32.le_iff_toInt_le, Int32.reduceToInt, ← Int32.toInt_inj] at h_692
            refine v_aload_n hC dX12_number_56 rfl ?_
            refine v_get hC fl_X12_131 m_1 e_570 rfl dX12_number_57 ?_
            refine v_istore_n hC dX12_number_60 (by decide) (lv' := [(3, .int v_582), (0, .ref a_0), (1, .int a_1), (2, .int a_2)]) rfl ?_
            refine v_aload_n hC dX12_number_61 rfl ?_
            refine v_vv hC (rest := []) m_1 e_570 rfl mi_X12_advance ms_X12_advance (p_X12_advance hW_564 k_0) mx_X12_advance ml_X12_156 (by decide) rfl (cells1 := 0) (slots1 := 0) (by decide) (by decide) (Nat.le_of_ble_eq_true rfl) (Nat.le_of_ble_eq_true rfl) rfl (Nat.le_of_ble_eq_true rfl) dX12_number_62 (fun L_694 f_695 h_696 => ?_)
            obtain ⟨rfl, hW_701, hF_702, x_697, x_698, x_699, x_700⟩ := h_696
            have fe_703 : fld (f_557 a_0) 8 = (v_576 : Int32).toInt := by rw [e_570]; rfl
            have fe_704 : fld (f_557 a_0) 12 = (v_583 : Int32).toInt := by rw [e_570]; rfl
            have fe_705 : fld (f_557 a_0) 20 = (v_587 : Int32).toInt := by rw [e_570]; rfl
            rw [fe_703] at x_697
            obtain ⟨v_707, v_708, v_710, v_712, v_714, v_716, v_718, v_719, v_720, v_721, v_723, e_706, b_709, b_711, b_713, b_715, b_717, b_722, b_724⟩ := hW_701.at m_1 t_2
            have fe_725 : fld (f_695 a_0) 8 = (v_712 : Int32).toInt := by rw [e_706]; rfl
            have fe_726 : fld (f_695 a_0) 9 = (v_714 : Int32).toInt := by rw [e_706]; rfl
            rw [fe_725, fe_726] at x_697
            have fe_727 : fld (f_695 a_0) 8 = (v_712 : Int32).toInt := by rw [e_706]; rfl
            have fe_728 : fld (f_695 a_0) 9 = (v_714 : Int32).toInt := by rw [e_706]; rfl
            have fe_729 : fld (f_695 a_0) 10 = (v_716 : Int32).toInt := by rw [e_706]; rfl
            rw [fe_727, fe_728, fe_729] at x_698
            rw [fe_704] at x_699
            have fe_730 : fld (f_695 a_0) 12 = (v_719 : Int32).toInt := by rw [e_706]; rfl
            rw [fe_730] at x_699
            rw [fe_705] at x_700
            have fe_731 : fld (f_695 a_0) 20 = (v_723 : Int32).toInt := by rw [e_706]; rfl
            rw [fe_731] at x_700
            refine v_iload_n hC dX12_number_65 rfl ?_
            have fe_732 : fld (f_695 a_0) 8 = (v_712 : Int32).toInt := by rw [e_706]; rfl
            have fe_733 : fld (f_695 a_0) 9 = (v_714 : Int32).toInt := by rw [e_706]; rfl
            have fe_734 : fld (f_695 a_0) 10 = (v_716 : Int32).toInt := by rw [e_706]; rfl
            have fe_735 : fld (f_695 a_0) 12 = (v_719 : Int32).toInt := by rw [e_706]; rfl
            have fe_736 : fld (f_695 a_0) 12 = (v_719 : Int32).toInt := by rw [e_706]; rfl
            have fe_737 : fld (f_695 a_0) 20 = (v_723 : Int32).toInt := by rw [e_706]; rfl
            exact hR _ _ _ _ _ _ _ dX12_number_66 rfl (Nat.le_of_ble_eq_true rfl) (Nat.le_of_ble_eq_true rfl) ⟨rfl, hW_701, ((hF_565.tr hF_702).mono rfl), (by simp only [fe_732, fe_733, fe_734, fe_735, mz_40, mz_41, mz_42, true_and, and_true, or_true, true_or, false_or, or_false, false_and, and_false, not_true_eq_false, not_false_eq_true] <;> first | omega | (simp only [Int32.lt_iff_toInt_lt, Int32.le_iff_toInt_le, Int32.reduceToInt, ← Int32.toInt_inj, true_and, and_true, or_true, true_or, false_or, or_false, false_and, and_false, not_true_eq_false, not_false_eq_true] <;> omega)), (by simp only [fe_736, true_and, and_true, or_true, true_or, false_or, or_false, false_and, and_false, not_true_eq_false, not_false_eq_true] <;> first | omega | (simp only [Int32.lt_iff_toInt_lt, Int32.le_iff_toInt_le, Int32.reduceToInt, ← Int32.toInt_inj, true_and, and_true, or_true, true_or, false_or, or_false, false_and, and_false, not_true_eq_false, not_false_eq_true] <;> omega)), (by simp only [fe_737, mz_43, true_and, and_true, or_true, true_or, false_or, or_false, false_and, and_false, not_true_eq_false, not_false_eq_true] <;> first | omega | (simp only [Int32.lt_iff_toInt_lt, Int32.le_iff_toInt_le, Int32.reduceToInt, ← Int32.toInt_inj, true_and, and_true, or_true, true_or, false_or, or_false, false_and, and_false, not_true_eq_false, not_false_eq_true] <;> omega))⟩
          · simp only [Int32.lt_iff_toInt_lt, Int32.le_iff_toInt_le, Int32.reduceToInt, ← Int32.toInt_inj] at h_692
            refine v_iconst hC dX12_number_54 (v := 0) (by decide) ?_
            have fe_738 : fld (f_557 a_0) 8 = (v_576 : Int32).toInt := by rw [e_570]; rfl
            have fe_739 : fld (f_557 a_0) 9 = (v_578 : Int32).toInt := by rw [e_570]; rfl
            have fe_740 : fld (f_557 a_0) 10 = (v_580 : Int32).toInt := by rw [e_570]; rfl
            have fe_741 : fld (f_557 a_0) 12 = (v_583 : Int32).toInt := by rw [e_570]; rfl
            have fe_742 : fld (f_557 a_0) 12 = (v_583 : Int32).toInt := by rw [e_570]; rfl
            have fe_743 : fld (f_557 a_0) 20 = (v_587 : Int32).toInt := by rw [e_570]; rfl
            exact hR _ _ _ _ _ _ _ dX12_number_55 rfl (Nat.le_of_ble_eq_true rfl) (Nat.le_of_ble_eq_true rfl) ⟨rfl, hW_564, (hF_565.mono rfl), (by simp only [fe_738, fe_739, fe_740, fe_741, mz_40, mz_41, mz_42, true_and, and_true, or_true, true_or, false_or, or_false, false_and, and_false, not_true_eq_false, not_false_eq_true] <;> first | omega | (simp only [Int32.lt_iff_toInt_lt, Int32.le_iff_toInt_le, Int32.reduceToInt, ← Int32.toInt_inj, true_and, and_true, or_true, true_or, false_or, or_false, false_and, and_false, not_true_eq_false, not_false_eq_true] <;> omega)), (by simp only [fe_742, true_and, and_true, or_true, true_or, false_or, or_false, false_and, and_false, not_true_eq_false, not_false_eq_true] <;> first | omega | (simp only [Int32.lt_iff_toInt_lt, Int32.le_iff_toInt_le, Int32.reduceToInt, ← Int32.toInt_inj, true_and, and_true, or_true, true_or, false_or, or_false, false_and, and_false, not_true_eq_false, not_false_eq_true] <;> omega)), (by simp only [fe_743, mz_43, true_and, and_true, or_true, true_or, false_or, or_false, false_and, and_false, not_true_eq_false, not_false_eq_true] <;> first | omega | (simp only [Int32.lt_iff_toInt_lt, Int32.le_iff_toInt_le, Int32.reduceToInt, ← Int32.toInt_inj, true_and, and_true, or_true, true_or, false_or, or_false, false_and, and_false, not_true_eq_false, not_false_eq_true] <;> omega))⟩
        · simp only [Int32.lt_iff_toInt_lt, Int32.le_iff_toInt_le, Int32.reduceToInt, ← Int32.toInt_inj] at h_682
          refine v_aload_n hC dX12_number_42 rfl ?_
          refine v_iconst hC dX12_number_43 (v := 2) (by decide) ?_
          refine v_vv hC (rest := []) m_1 e_570 rfl mi_X12_errs ms_X12_errs (p_X12_errs hW_564 k_0 (by decide)) mx_X12_errs ml_X12_162 (by decide) rfl (cells1 := 0) (slots1 := 0) (by decide) (by decide) (Nat.le_of_ble_eq_true rfl) (Nat.le_of_ble_eq_true rfl) rfl (Nat.le_of_ble_eq_true rfl) dX12_number_44 (fun L_745 f_746 h_747 => ?_)
          obtain ⟨rfl, hW_753, hF_754, x_748, x_749, x_750, x_751, x_752⟩ := h_747
          have fe_755 : fld (f_557 a_0) 8 = (v_576 : Int32).toInt := by rw [e_570]; rfl
          have fe_756 : fld (f_557 a_0) 9 = (v_578 : Int32).toInt := by rw [e_570]; rfl
          have fe_757 : fld (f_557 a_0) 10 = (v_580 : Int32).toInt := by rw [e_570]; rfl
          have fe_758 : fld (f_557 a_0) 20 = (v_587 : Int32).toInt := by rw [e_570]; rfl
          obtain ⟨v_760, v_761, v_763, v_765, v_767, v_769, v_771, v_772, v_773, v_774, v_776, e_759, b_762, b_764, b_766, b_768, b_770, b_775, b_777⟩ := hW_753.at m_1 t_2
          have fe_778 : fld (f_746 a_0) 12 = (v_772 : Int32).toInt := by rw [e_759]; rfl
          rw [fe_778] at x_748
          rw [fe_755] at x_749
          have fe_779 : fld (f_746 a_0) 8 = (v_765 : Int32).toInt := by rw [e_759]; rfl
          rw [fe_779] at x_749
          rw [fe_756] at x_750
          have fe_780 : fld (f_746 a_0) 9 = (v_767 : Int32).toInt := by rw [e_759]; rfl
          rw [fe_780] at x_750
          rw [fe_757] at x_751
          have fe_781 : fld (f_746 a_0) 10 = (v_769 : Int32).toInt := by rw [e_759]; rfl
          rw [fe_781] at x_751
          rw [fe_758] at x_752
          have fe_782 : fld (f_746 a_0) 20 = (v_776 : Int32).toInt := by rw [e_759]; rfl
          rw [fe_782] at x_752
          refine v_aload_n hC dX12_number_47 rfl ?_
          refine v_vi hC (rest := []) m_1 e_759 rfl mi_X12_good ms_X12_good (p_X12_good hW_753 k_0) mx_X12_good ml_X12_139 (by decide) rfl (cells1 := 0) (slots1 := 0) (by decide) (by decide) (Nat.le_of_ble_eq_true rfl) (Nat.le_of_ble_eq_true rfl) rfl (Nat.le_of_ble_eq_true rfl) dX12_number_48 (fun r_783 L_784 f_785 h_786 => ?_)
          obtain ⟨rfl, rfl, b_787, x_788⟩ := h_786
          have fe_791 : fld (f_746 a_0) 12 = (v_772 : Int32).toInt := by rw [e_759]; rfl
          rw [fe_791] at x_788
          try simp only [Int32.reduceToInt, Int64.reduceToInt] at x_788
          refine v_if_ne hC dX12_number_51 (tgt := 56) (by decide) (fun h_792 => ?_) (fun h_792 => ?_)
          · simp only [Int32.lt_iff_toInt_lt, Int32.le_iff_toInt_le, Int32.reduceToInt, ← Int32.toInt_inj] at h_792
            refine v_aload_n hC dX12_number_56 rfl ?_
            refine v_get hC fl_X12_131 m_1 e_759 rfl dX12_number_57 ?_
            refine v_istore_n hC dX12_number_60 (by decide) (lv' := [(3, .int v_771), (0, .ref a_0), (1, .int a_1), (2, .int a_2)]) rfl ?_
            refine v_aload_n hC dX12_number_61 rfl ?_
            refine v_vv hC (rest := []) m_1 e_759 rfl mi_X12_advance ms_X12_advance (p_X12_advance hW_753 k_0) mx_X12_advance ml_X12_156 (by decide) rfl (cells1 := 0) (slots1 := 0) (by decide) (by decide) (Nat.le_of_ble_eq_true rfl) (Nat.le_of_ble_eq_true rfl) rfl (Nat.le_of_ble_eq_true rfl) dX12_number_62 (fun L_794 f_795 h_796 => ?_)
            obtain ⟨rfl, hW_801, hF_802, x_797, x_798, x_799, x_800⟩ := h_796
            have fe_803 : fld (f_746 a_0) 8 = (v_765 : Int32).toInt := by rw [e_759]; rfl
            have fe_804 : fld (f_746 a_0) 12 = (v_772 : Int32).toInt := by rw [e_759]; rfl
            have fe_805 : fld (f_746 a_0) 20 = (v_776 : Int32).toInt := by rw [e_759]; rfl
            rw [fe_803] at x_797
            obtain ⟨v_807, v_808, v_810, v_812, v_814, v_816, v_818, v_819, v_820, v_821, v_823, e_806, b_809, b_811, b_813, b_815, b_817, b_822, b_824⟩ := hW_801.at m_1 t_2
            have fe_825 : fld (f_795 a_0) 8 = (v_812 : Int32).toInt := by rw [e_806]; rfl
            have fe_826 : fld (f_795 a_0) 9 = (v_814 : Int32).toInt := by rw [e_806]; rfl
            rw [fe_825, fe_826] at x_797
            have fe_827 : fld (f_795 a_0) 8 = (v_812 : Int32).toInt := by rw [e_806]; rfl
            have fe_828 : fld (f_795 a_0) 9 = (v_814 : Int32).toInt := by rw [e_806]; rfl
            have fe_829 : fld (f_795 a_0) 10 = (v_816 : Int32).toInt := by rw [e_806]; rfl
            rw [fe_827, fe_828, fe_829] at x_798
            rw [fe_804] at x_799
            have fe_830 : fld (f_795 a_0) 12 = (v_819 : Int32).toInt := by rw [e_806]; rfl
            rw [fe_830] at x_799
            rw [fe_805] at x_800
            have fe_831 : fld (f_795 a_0) 20 = (v_823 : Int32).toInt := by rw [e_806]; rfl
            rw [fe_831] at x_800
            refine v_iload_n hC dX12_number_65 rfl ?_
            have fe_832 : fld (f_795 a_0) 8 = (v_812 : Int32).toInt := by rw [e_806]; rfl
            have fe_833 : fld (f_795 a_0) 9 = (v_814 : Int32).toInt := by rw [e_806]; rfl
            have fe_834 : fld (f_795 a_0) 10 = (v_816 : Int32).toInt := by rw [e_806]; rfl
            have fe_835 : fld (f_795 a_0) 12 = (v_819 : Int32).toInt := by rw [e_806]; rfl
            have fe_836 : fld (f_795 a_0) 12 = (v_819 : Int32).toInt := by rw [e_806]; rfl
            have fe_837 : fld (f_795 a_0) 20 = (v_823 : Int32).toInt := by rw [e_806]; rfl
            exact hR _ _ _ _ _ _ _ dX12_number_66 rfl (Nat.le_of_ble_eq_true rfl) (Nat.le_of_ble_eq_true rfl) ⟨rfl, hW_801, (((hF_565.tr hF_754).tr hF_802).mono rfl), (by simp only [fe_832, fe_833, fe_834, fe_835, mz_40, mz_41, mz_42, true_and, and_true, or_true, true_or, false_or, or_false, false_and, and_false, not_true_eq_false, not_false_eq_true] <;> first | omega | (simp only [Int32.lt_iff_toInt_lt, Int32.le_iff_toInt_le, Int32.reduceToInt, ← Int32.toInt_inj, true_and, and_true, or_true, true_or, false_or, or_false, false_and, and_false, not_true_eq_false, not_false_eq_true] <;> omega)), (by simp only [fe_836, true_and, and_true, or_true, true_or, false_or, or_false, false_and, and_false, not_true_eq_false, not_false_eq_true] <;> first | omega | (simp only [Int32.lt_iff_toInt_lt, Int32.le_iff_toInt_le, Int32.reduceToInt, ← Int32.toInt_inj, true_and, and_true, or_true, true_or, false_or, or_false, false_and, and_false, not_true_eq_false, not_false_eq_true] <;> omega)), (by simp only [fe_837, mz_43, true_and, and_true, or_true, true_or, false_or, or_false, false_and, and_false, not_true_eq_false, not_false_eq_true] <;> first | omega | (simp only [Int32.lt_iff_toInt_lt, Int32.le_iff_toInt_le, Int32.reduceToInt, ← Int32.toInt_inj, true_and, and_true, or_true, true_or, false_or, or_false, false_and, and_false, not_true_eq_false, not_false_eq_true] <;> omega))⟩
          · simp only [Int32.lt_iff_toInt_lt, Int32.le_iff_toInt_le, Int32.reduceToInt, ← Int32.toInt_inj] at h_792
            refine v_iconst hC dX12_number_54 (v := 0) (by decide) ?_
            have fe_838 : fld (f_746 a_0) 8 = (v_765 : Int32).toInt := by rw [e_759]; rfl
            have fe_839 : fld (f_746 a_0) 9 = (v_767 : Int32).toInt := by rw [e_759]; rfl
            have fe_840 : fld (f_746 a_0) 10 = (v_769 : Int32).toInt := by rw [e_759]; rfl
            have fe_841 : fld (f_746 a_0) 12 = (v_772 : Int32).toInt := by rw [e_759]; rfl
            have fe_842 : fld (f_746 a_0) 12 = (v_772 : Int32).toInt := by rw [e_759]; rfl
            have fe_843 : fld (f_746 a_0) 20 = (v_776 : Int32).toInt := by rw [e_759]; rfl
            exact hR _ _ _ _ _ _ _ dX12_number_55 rfl (Nat.le_of_ble_eq_true rfl) (Nat.le_of_ble_eq_true rfl) ⟨rfl, hW_753, ((hF_565.tr hF_754).mono rfl), (by simp only [fe_838, fe_839, fe_840, fe_841, mz_40, mz_41, mz_42, true_and, and_true, or_true, true_or, false_or, or_false, false_and, and_false, not_true_eq_false, not_false_eq_true] <;> first | omega | (simp only [Int32.lt_iff_toInt_lt, Int32.le_iff_toInt_le, Int32.reduceToInt, ← Int32.toInt_inj, true_and, and_true, or_true, true_or, false_or, or_false, false_and, and_false, not_true_eq_false, not_false_eq_true] <;> omega)), (by simp only [fe_842, true_and, and_true, or_true, true_or, false_or, or_false, false_and, and_false, not_true_eq_false, not_false_eq_true] <;> first | omega | (simp only [Int32.lt_iff_toInt_lt, Int32.le_iff_toInt_le, Int32.reduceToInt, ← Int32.toInt_inj, true_and, and_true, or_true, true_or, false_or, or_false, false_and, and_false, not_true_eq_false, not_false_eq_true] <;> omega)), (by simp only [fe_843, mz_43, true_and, and_true, or_true, true_or, false_or, or_false, false_and, and_false, not_true_eq_false, not_false_eq_true] <;> first | omega | (simp only [Int32.lt_iff_toInt_lt, Int32.le_iff_toInt_le, Int32.reduceToInt, ← Int32.toInt_inj, true_and, and_true, or_true, true_or, false_or, or_false, false_and, and_false, not_true_eq_false, not_false_eq_true] <;> omega))⟩
set_option maxRecDepth 100000 in
set_option maxHeartbeats 4000000 in
theorem p_X12_told {l : Launch} {E : Ez} {L : List Nat} {f : Nat → va_E} {T : Nat → va_E → Prop} {a_0 : Nat} {a_1 : Nat} {a_2 : Int32} {a_3 : Int32} {q : Nat → Nat} (hW : WT T L f) (k_0 : isM T L E a_0 q) (ha_1 : a_1 < 77) : CI l yX12_told cX12_told 4 .int 7 0 0 E [.ref a_0, .ref (eK E a_1), .int a_2, .int a_3] L f (fun r L1 f1 => L = L1 ∧ WT T L f1 ∧ FR [12] f f1 ∧ (¬ fld (f1 a_0) 12 = 0 ∨ (fld (f a_0) 12 = 0 ∧ (a_2.toInt ≤ r.toInt ∧ r.toInt ≤ a_3.toInt) ∧ (fld (f a_0) 8 ≤ fld (f1 a_0) 9 ∧ fld (f1 a_0) 9 ≤ fld (f1 a_0) 8) ∧ (fld (f1 a_0) 10 = 0 ∨ fld (f1 a_0) 9 < fld (f1 a_0) 8))) ∧ (fld (f1 a_0) 12 = 0 ∨ r.toInt = 0) ∧ fld (f1 a_0) 20 = fld (f a_0) 20) := by
  refine ci_of (by decide) (Nat.le_of_ble_eq_true rfl) (fun z hz hnm hC hR => ?_)
  have hC : Cx z E cX12_told RX12 4 7 0 0 := hC
  subst hz
  show V z E 4 0 0 L f 0 [(0, .ref a_0), (1, .ref (eK E a_1)), (2, .int a_2), (3, .int a_3)] []
  obtain ⟨m_1, t_2, k_3, k_4, k_5, k_6, k_7, k_8, k_9, k_10, k_11, k_12, k_13, k_14, k_15, k_16, k_17, k_18, k_19, k_20⟩ := id k_0
  obtain ⟨v_22, v_23, v_25, v_27, v_29, v_31, v_33, v_34, v_35, v_36, v_38, e_21, b_24, b_26, b_28, b_30, b_32, b_37, b_39⟩ := hW.at m_1 t_2
  have mz_40 : fld (f a_0) 8 = v_27.toInt := by rw [e_21]; rfl
  have mz_41 : fld (f a_0) 12 = v_34.toInt := by rw [e_21]; rfl
  have mz_42 : fld (f a_0) 20 = v_38.toInt := by rw [e_21]; rfl
  refine v_aload_n hC dX12_told_0 rfl ?_
  refine v_aload_n hC dX12_told_1 rfl ?_
  refine v_vv hC (rest := []) m_1 e_21 rfl mi_X12_needs ms_X12_needs (p_X12_needs hW k_0 ha_1) mx_X12_needs ml_X12_166 (by decide) rfl (cells1 := 0) (slots1 := 0) (by decide) (by decide) (Nat.le_of_ble_eq_true rfl) (Nat.le_of_ble_eq_true rfl) rfl (Nat.le_of_ble_eq_true rfl) dX12_told_2 (fun L_44 f_45 h_46 => ?_)
  obtain ⟨rfl, hW_50, hF_51, x_47, x_48, x_49⟩ := h_46
  have ib_52 := iw_b (f a_0) (f (q 4)) a_1
  have fe_53 : fld (f a_0) 8 = (v_27 : Int32).toInt := by rw [e_21]; rfl
  have fe_54 : fld (f a_0) 9 = (v_29 : Int32).toInt := by rw [e_21]; rfl
  have fe_55 : fld (f a_0) 10 = (v_31 : Int32).toInt := by rw [e_21]; rfl
  have fe_56 : fld (f a_0) 12 = (v_34 : Int32).toInt := by rw [e_21]; rfl
  rw [fe_53, fe_54, fe_55, fe_56] at ib_52
  have fe_57 : fld (f a_0) 8 = (v_27 : Int32).toInt := by rw [e_21]; rfl
  have fe_58 : fld (f a_0) 12 = (v_34 : Int32).toInt := by rw [e_21]; rfl
  have fe_59 : fld (f a_0) 20 = (v_38 : Int32).toInt := by rw [e_21]; rfl
  rw [fe_57] at x_47
  obtain ⟨v_61, v_62, v_64, v_66, v_68, v_70, v_72, v_73, v_74, v_75, v_77, e_60, b_63, b_65, b_67, b_69, b_71, b_76, b_78⟩ := hW_50.at m_1 t_2
  have fe_79 : fld (f_45 a_0) 8 = (v_66 : Int32).toInt := by rw [e_60]; rfl
  have fe_80 : fld (f_45 a_0) 9 = (v_68 : Int32).toInt := by rw [e_60]; rfl
  have fe_81 : fld (f_45 a_0) 10 = (v_70 : Int32).toInt := by rw [e_60]; rfl
  have fe_82 : fld (f_45 a_0) 12 = (v_73 : Int32).toInt := by rw [e_60]; rfl
  rw [fe_79, fe_80, fe_81, fe_82] at x_47
  rw [fe_58] at x_48
  have fe_83 : fld (f_45 a_0) 12 = (v_73 : Int32).toInt := by rw [e_60]; rfl
  rw [fe_83] at x_48
  rw [fe_59] at x_49
  have fe_84 : fld (f_45 a_0) 20 = (v_77 : Int32).toInt := by rw [e_60]; rfl
  rw [fe_84] at x_49
  refine v_aload_n hC dX12_told_5 rfl ?_
  refine v_iload_n hC dX12_told_6 rfl ?_
  refine v_iload_n hC dX12_told_7 rfl ?_
  refine v_vi hC (rest := []) m_1 e_60 rfl mi_X12_number ms_X12_number (p_X12_number hW_50 k_0) mx_X12_number ml_X12_170 (by decide) rfl (cells1 := 0) (slots1 := 0) (by decide) (by decide) (Nat.le_of_ble_eq_true rfl) (Nat.le_of_ble_eq_true rfl) rfl (Nat.le_of_ble_eq_true rfl) dX12_told_8 (fun r_85 L_86 f_87 h_88 => ?_)
  obtain ⟨rfl, hW_92, hF_93, x_89, x_90, x_91⟩ := h_88
  have fe_94 : fld (f_45 a_0) 8 = (v_66 : Int32).toInt := by rw [e_60]; rfl
  have fe_95 : fld (f_45 a_0) 10 = (v_70 : Int32).toInt := by rw [e_60]; rfl
  have fe_96 : fld (f_45 a_0) 12 = (v_73 : Int32).toInt := by rw [e_60]; rfl
  have fe_97 : fld (f_45 a_0) 20 = (v_77 : Int32).toInt := by rw [e_60]; rfl
  rw [fe_94, fe_95, fe_96] at x_89
  obtain ⟨v_99, v_100, v_102, v_104, v_106, v_108, v_110, v_111, v_112, v_113, v_115, e_98, b_101, b_103, b_105, b_107, b_109, b_114, b_116⟩ := hW_92.at m_1 t_2
  have fe_117 : fld (f_87 a_0) 8 = (v_104 : Int32).toInt := by rw [e_98]; rfl
  have fe_118 : fld (f_87 a_0) 9 = (v_106 : Int32).toInt := by rw [e_98]; rfl
  have fe_119 : fld (f_87 a_0) 10 = (v_108 : Int32).toInt := by rw [e_98]; rfl
  have fe_120 : fld (f_87 a_0) 12 = (v_111 : Int32).toInt := by rw [e_98]; rfl
  rw [fe_117, fe_118, fe_119, fe_120] at x_89
  have fe_121 : fld (f_87 a_0) 12 = (v_111 : Int32).toInt := by rw [e_98]; rfl
  rw [fe_121] at x_90
  rw [fe_97] at x_91
  have fe_122 : fld (f_87 a_0) 20 = (v_115 : Int32).toInt := by rw [e_98]; rfl
  rw [fe_122] at x_91
  try simp only [Int32.reduceToInt, Int64.reduceToInt] at x_89
  try simp only [Int32.reduceToInt, Int64.reduceToInt] at x_90
  try simp only [Int32.reduceToInt, Int64.reduceToInt] at x_91
  have fe_123 : fld (f_87 a_0) 8 = (v_104 : Int32).toInt := by rw [e_98]; rfl
  have fe_124 : fld (f_87 a_0) 9 = (v_106 : Int32).toInt := by rw [e_98]; rfl
  have fe_125 : fld (f_87 a_0) 10 = (v_108 : Int32).toInt := by rw [e_98]; rfl
  have fe_126 : fld (f_87 a_0) 12 = (v_111 : Int32).toInt := by rw [e_98]; rfl
  have fe_127 : fld (f_87 a_0) 12 = (v_111 : Int32).toInt := by rw [e_98]; rfl
  have fe_128 : fld (f_87 a_0) 20 = (v_115 : Int32).toInt := by rw [e_98]; rfl
  exact hR _ _ _ _ _ _ _ dX12_told_11 rfl (Nat.le_of_ble_eq_true rfl) (Nat.le_of_ble_eq_true rfl) ⟨rfl, hW_92, ((hF_51.tr hF_93).mono rfl), (by simp only [fe_123, fe_124, fe_125, fe_126, mz_40, mz_41, true_and, and_true, or_true, true_or, false_or, or_false, false_and, and_false, not_true_eq_false, not_false_eq_true] <;> first | omega | (simp only [Int32.lt_iff_toInt_lt, Int32.le_iff_toInt_le, Int32.reduceToInt, ← Int32.toInt_inj, true_and, and_true, or_true, true_or, false_or, or_false, false_and, and_false, not_true_eq_false, not_false_eq_true] <;> omega)), (by simp only [fe_127, true_and, and_true, or_true, true_or, false_or, or_false, false_and, and_false, not_true_eq_false, not_false_eq_true] <;> first | omega | (simp only [Int32.lt_iff_toInt_lt, Int32.le_iff_toInt_le, Int32.reduceToInt, ← Int32.toInt_inj, true_and, and_true, or_true, true_or, false_or, or_false, false_and, and_false, not_true_eq_false, not_false_eq_true] <;> omega)), (by simp only [fe_128, mz_42, true_and, and_true, or_true, true_or, false_or, or_false, false_and, and_false, not_true_eq_false, not_false_eq_true] <;> first | omega | (simp only [Int32.lt_iff_toInt_lt, Int32.le_iff_toInt_le, Int32.reduceToInt, ← Int32.toInt_inj, true_and, and_true, or_true, true_or, false_or, or_false, false_and, and_false, not_true_eq_false, not_false_eq_true] <;> omega))⟩
set_option maxRecDepth 100000 in
set_option maxHeartbeats 4000000 in
theorem p_X12_ends {l : Launch} {E : Ez} {L : List Nat} {f : Nat → va_E} {T : Nat → va_E → Prop} {a_0 : Nat} {q : Nat → Nat} (hW : WT T L f) (k_0 : isM T L E a_0 q) : CV l yX12_ends cX12_ends 1 2 0 0 E [.ref a_0] L f (fun L1 f1 => L = L1 ∧ WT T L f1 ∧ FR [12] f f1 ∧ (¬ fld (f1 a_0) 12 = 0 ∨ (fld (f a_0) 12 = 0 ∧ fld (f a_0) 10 = 3 ∧ (fld (f a_0) 8 ≤ fld (f1 a_0) 9 ∧ fld (f1 a_0) 9 ≤ fld (f1 a_0) 8) ∧ (fld (f1 a_0) 10 = 0 ∨ fld (f1 a_0) 9 < fld (f1 a_0) 8))) ∧ fld (f1 a_0) 20 = fld (f a_0) 20) := by
  refine cv_of (by decide) (Nat.le_of_ble_eq_true rfl) (fun z hz hnm hC hR => ?_)
  have hC : Cx z E cX12_ends RX12 1 2 0 0 := hC
  subst hz
  show V z E 1 0 0 L f 0 [(0, .ref a_0)] []
  obtain ⟨m_1, t_2, k_3, k_4, k_5, k_6, k_7, k_8, k_9, k_10, k_11, k_12, k_13, k_14, k_15, k_16, k_17, k_18, k_19, k_20⟩ := id k_0
  obtain ⟨v_22, v_23, v_25, v_27, v_29, v_31, v_33, v_34, v_35, v_36, v_38, e_21, b_24, b_26, b_28, b_30, b_32, b_37, b_39⟩ := hW.at m_1 t_2
  have mz_40 : fld (f a_0) 8 = v_27.toInt := by rw [e_21]; rfl
  have mz_41 : fld (f a_0) 10 = v_31.toInt := by rw [e_21]; rfl
  have mz_42 : fld (f a_0) 12 = v_34.toInt := by rw [e_21]; rfl
  have mz_43 : fld (f a_0) 20 = v_38.toInt := by rw [e_21]; rfl
  refine v_aload_n hC dX12_ends_0 rfl ?_
  refine v_vi hC (rest := []) m_1 e_21 rfl mi_X12_good ms_X12_good (p_X12_good hW k_0) mx_X12_good ml_X12_139 (by decide) rfl (cells1 := 0) (slots1 := 0) (by decide) (by decide) (Nat.le_of_ble_eq_true rfl) (Nat.le_of_ble_eq_true rfl) rfl (Nat.le_of_ble_eq_true rfl) dX12_ends_1 (fun r_44 L_45 f_46 h_47 => ?_)
  obtain ⟨rfl, rfl, b_48, x_49⟩ := h_47
  have fe_52 : fld (f a_0) 12 = (v_34 : Int32).toInt := by rw [e_21]; rfl
  rw [fe_52] at x_49
  try simp only [Int32.reduceToInt, Int64.reduceToInt] at x_49
  refine v_if_eq hC dX12_ends_4 (tgt := 20) (by decide) (fun h_53 => ?_) (fun h_53 => ?_)
  · simp only [Int32.lt_iff_toInt_lt, Int32.le_iff_toInt_le, Int32.reduceToInt, ← Int32.toInt_inj] at h_53
    refine v_aload_n hC dX12_ends_20 rfl ?_
    refine v_vi hC (rest := []) m_1 e_21 rfl mi_X12_good ms_X12_good (p_X12_good hW k_0) mx_X12_good ml_X12_139 (by decide) rfl (cells1 := 0) (slots1 := 0) (by decide) (by decide) (Nat.le_of_ble_eq_true rfl) (Nat.le_of_ble_eq_true rfl) rfl (Nat.le_of_ble_eq_true rfl) dX12_ends_21 (fun r_54 L_55 f_56 h_57 => ?_)
    obtain ⟨rfl, rfl, b_58, x_59⟩ := h_57
    have fe_62 : fld (f a_0) 12 = (v_34 : Int32).toInt := by rw [e_21]; rfl
    rw [fe_62] at x_59
    try simp only [Int32.reduceToInt, Int64.reduceToInt] at x_59
    refine v_if_eq hC dX12_ends_24 (tgt := 31) (by decide) (fun h_63 => ?_) (fun h_63 => ?_)
    · simp only [Int32.lt_iff_toInt_lt, Int32.le_iff_toInt_le, Int32.reduceToInt, ← Int32.toInt_inj] at h_63
      have fe_64 : fld (f a_0) 8 = (v_27 : Int32).toInt := by rw [e_21]; rfl
      have fe_65 : fld (f a_0) 9 = (v_29 : Int32).toInt := by rw [e_21]; rfl
      have fe_66 : fld (f a_0) 10 = (v_31 : Int32).toInt := by rw [e_21]; rfl
      have fe_67 : fld (f a_0) 12 = (v_34 : Int32).toInt := by rw [e_21]; rfl
      have fe_68 : fld (f a_0) 20 = (v_38 : Int32).toInt := by rw [e_21]; rfl
      exact hR _ _ _ _ _ _ dX12_ends_31 (Nat.le_of_ble_eq_true rfl) (Nat.le_of_ble_eq_true rfl) ⟨rfl, hW, FR.rf, (by simp only [fe_64, fe_65, fe_66, fe_67, mz_40, mz_41, mz_42, true_and, and_true, or_true, true_or, false_or, or_false, false_and, and_false, not_true_eq_false, not_false_eq_true] <;> first | omega | (simp only [Int32.lt_iff_toInt_lt, Int32.le_iff_toInt_le, Int32.reduceToInt, ← Int32.toInt_inj, true_and, and_true, or_true, true_or, false_or, or_false, false_and, and_false, not_true_eq_false, not_false_eq_true] <;> omega)), (by simp only [fe_68, mz_43, true_and, and_true, or_true, true_or, false_or, or_false, false_and, and_false, not_true_eq_false, not_false_eq_true] <;> first | omega | (simp only [Int32.lt_iff_toInt_lt, Int32.le_iff_toInt_le, Int32.reduceToInt, ← Int32.toInt_inj, true_and, and_true, or_true, true_or, false_or, or_false, false_and, and_false, not_true_eq_false, not_false_eq_true] <;> omega))⟩
    · simp only [Int32.lt_iff_toInt_lt, Int32.le_iff_toInt_le, Int32.reduceToInt, ← Int32.toInt_inj] at h_63
      refine v_aload_n hC dX12_ends_27 rfl ?_
      refine v_vv hC (rest := []) m_1 e_21 rfl mi_X12_advance ms_X12_advance (p_X12_advance hW k_0) mx_X12_advance ml_X12_156 (by decide) rfl (cells1 := 0) (slots1 := 0) (by decide) (by decide) (Nat.le_of_ble_eq_true rfl) (Nat.le_of_ble_eq_true rfl) rfl (Nat.le_of_ble_eq_true rfl) dX12_ends_28 (fun L_70 f_71 h_72 => ?_)
      obtain ⟨rfl, hW_77, hF_78, x_73, x_74, x_75, x_76⟩ := h_72
      have fe_79 : fld (f a_0) 8 = (v_27 : Int32).toInt := by rw [e_21]; rfl
      have fe_80 : fld (f a_0) 12 = (v_34 : Int32).toInt := by rw [e_21]; rfl
      have fe_81 : fld (f a_0) 20 = (v_38 : Int32).toInt := by rw [e_21]; rfl
      rw [fe_79] at x_73
      obtain ⟨v_83, v_84, v_86, v_88, v_90, v_92, v_94, v_95, v_96, v_97, v_99, e_82, b_85, b_87, b_89, b_91, b_93, b_98, b_100⟩ := hW_77.at m_1 t_2
      have fe_101 : fld (f_71 a_0) 8 = (v_88 : Int32).toInt := by rw [e_82]; rfl
      have fe_102 : fld (f_71 a_0) 9 = (v_90 : Int32).toInt := by rw [e_82]; rfl
      rw [fe_101, fe_102] at x_73
      have fe_103 : fld (f_71 a_0) 8 = (v_88 : Int32).toInt := by rw [e_82]; rfl
      have fe_104 : fld (f_71 a_0) 9 = (v_90 : Int32).toInt := by rw [e_82]; rfl
      have fe_105 : fld (f_71 a_0) 10 = (v_92 : Int32).toInt := by rw [e_82]; rfl
      rw [fe_103, fe_104, fe_105] at x_74
      rw [fe_80] at x_75
      have fe_106 : fld (f_71 a_0) 12 = (v_95 : Int32).toInt := by rw [e_82]; rfl
      rw [fe_106] at x_75
      rw [fe_81] at x_76
      have fe_107 : fld (f_71 a_0) 20 = (v_99 : Int32).toInt := by rw [e_82]; rfl
      rw [fe_107] at x_76
      have fe_108 : fld (f_71 a_0) 8 = (v_88 : Int32).toInt := by rw [e_82]; rfl
      have fe_109 : fld (f_71 a_0) 9 = (v_90 : Int32).toInt := by rw [e_82]; rfl
      have fe_110 : fld (f_71 a_0) 10 = (v_92 : Int32).toInt := by rw [e_82]; rfl
      have fe_111 : fld (f_71 a_0) 12 = (v_95 : Int32).toInt := by rw [e_82]; rfl
      have fe_112 : fld (f_71 a_0) 20 = (v_99 : Int32).toInt := by rw [e_82]; rfl
      exact hR _ _ _ _ _ _ dX12_ends_31 (Nat.le_of_ble_eq_true rfl) (Nat.le_of_ble_eq_true rfl) ⟨rfl, hW_77, (hF_78.mono rfl), (by simp only [fe_108, fe_109, fe_110, fe_111, mz_40, mz_41, mz_42, true_and, and_true, or_true, true_or, false_or, or_false, false_and, and_false, not_true_eq_false, not_false_eq_true] <;> first | omega | (simp only [Int32.lt_iff_toInt_lt, Int32.le_iff_toInt_le, Int32.reduceToInt, ← Int32.toInt_inj, true_and, and_true, or_true, true_or, false_or, or_false, false_and, and_false, not_true_eq_false, not_false_eq_true] <;> omega)), (by simp only [fe_112, mz_43, true_and, and_true, or_true, true_or, false_or, or_false, false_and, and_false, not_true_eq_false, not_false_eq_true] <;> first | omega | (simp only [Int32.lt_iff_toInt_lt, Int32.le_iff_toInt_le, Int32.reduceToInt, ← Int32.toInt_inj, true_and, and_true, or_true, true_or, false_or, or_false, false_and, and_false, not_true_eq_false, not_false_eq_true] <;> omega))⟩
  · simp only [Int32.lt_iff_toInt_lt, Int32.le_iff_toInt_le, Int32.reduceToInt, ← Int32.toInt_inj] at h_53
    refine v_aload_n hC dX12_ends_7 rfl ?_
    refine v_get hC fl_X12_120 m_1 e_21 rfl dX12_ends_8 ?_
    refine v_iconst hC dX12_ends_11 (v := 3) (by decide) ?_
    refine v_icmp_eq hC dX12_ends_12 (tgt := 20) (by decide) (fun h_113 => ?_) (fun h_113 => ?_)
    · simp only [Int32.lt_iff_toInt_lt, Int32.le_iff_toInt_le, Int32.reduceToInt, ← Int32.toInt_inj] at h_113
      refine v_aload_n hC dX12_ends_20 rfl ?_
      refine v_vi hC (rest := []) m_1 e_21 rfl mi_X12_good ms_X12_good (p_X12_good hW k_0) mx_X12_good ml_X12_139 (by decide) rfl (cells1 := 0) (slots1 := 0) (by decide) (by decide) (Nat.le_of_ble_eq_true rfl) (Nat.le_of_ble_eq_true rfl) rfl (Nat.le_of_ble_eq_true rfl) dX12_ends_21 (fun r_114 L_115 f_116 h_117 => ?_)
      obtain ⟨rfl, rfl, b_118, x_119⟩ := h_117
      have fe_122 : fld (f a_0) 12 = (v_34 : Int32).toInt := by rw [e_21]; rfl
      rw [fe_122] at x_119
      try simp only [Int32.reduceToInt, Int64.reduceToInt] at x_119
      refine v_if_eq hC dX12_ends_24 (tgt := 31) (by decide) (fun h_123 => ?_) (fun h_123 => ?_)
      · simp only [Int32.lt_iff_toInt_lt, Int32.le_iff_toInt_le, Int32.reduceToInt, ← Int32.toInt_inj] at h_123
        have fe_124 : fld (f a_0) 8 = (v_27 : Int32).toInt := by rw [e_21]; rfl
        have fe_125 : fld (f a_0) 9 = (v_29 : Int32).toInt := by rw [e_21]; rfl
        have fe_126 : fld (f a_0) 10 = (v_31 : Int32).toInt := by rw [e_21]; rfl
        have fe_127 : fld (f a_0) 12 = (v_34 : Int32).toInt := by rw [e_21]; rfl
        have fe_128 : fld (f a_0) 20 = (v_38 : Int32).toInt := by rw [e_21]; rfl
        exact hR _ _ _ _ _ _ dX12_ends_31 (Nat.le_of_ble_eq_true rfl) (Nat.le_of_ble_eq_true rfl) ⟨rfl, hW, FR.rf, (by simp only [fe_124, fe_125, fe_126, fe_127, mz_40, mz_41, mz_42, true_and, and_true, or_true, true_or, false_or, or_false, false_and, and_false, not_true_eq_false, not_false_eq_true] <;> first | omega | (simp only [Int32.lt_iff_toInt_lt, Int32.le_iff_toInt_le, Int32.reduceToInt, ← Int32.toInt_inj, true_and, and_true, or_true, true_or, false_or, or_false, false_and, and_false, not_true_eq_false, not_false_eq_true] <;> omega)), (by simp only [fe_128, mz_43, true_and, and_true, or_true, true_or, false_or, or_false, false_and, and_false, not_true_eq_false, not_false_eq_true] <;> first | omega | (simp only [Int32.lt_iff_toInt_lt, Int32.le_iff_toInt_le, Int32.reduceToInt, ← Int32.toInt_inj, true_and, and_true, or_true, true_or, false_or, or_false, false_and, and_false, not_true_eq_false, not_false_eq_true] <;> omega))⟩
      · simp only [Int32.lt_iff_toInt_lt, Int32.le_iff_toInt_le, Int32.reduceToInt, ← Int32.toInt_inj] at h_123
        refine v_aload_n hC dX12_ends_27 rfl ?_
        refine v_vv hC (rest := []) m_1 e_21 rfl mi_X12_advance ms_X12_advance (p_X12_advance hW k_0) mx_X12_advance ml_X12_156 (by decide) rfl (cells1 := 0) (slots1 := 0) (by decide) (by decide) (Nat.le_of_ble_eq_true rfl) (Nat.le_of_ble_eq_true rfl) rfl (Nat.le_of_ble_eq_true rfl) dX12_ends_28 (fun L_130 f_131 h_132 => ?_)
        obtain ⟨rfl, hW_137, hF_138, x_133, x_134, x_135, x_136⟩ := h_132
        have fe_139 : fld (f a_0) 8 = (v_27 : Int32).toInt := by rw [e_21]; rfl
        have fe_140 : fld (f a_0) 12 = (v_34 : Int32).toInt := by rw [e_21]; rfl
        have fe_141 : fld (f a_0) 20 = (v_38 : Int32).toInt := by rw [e_21]; rfl
        rw [fe_139] at x_133
        obtain ⟨v_143, v_144, v_146, v_148, v_150, v_152, v_154, v_155, v_156, v_157, v_159, e_142, b_145, b_147, b_149, b_151, b_153, b_158, b_160⟩ := hW_137.at m_1 t_2
        have fe_161 : fld (f_131 a_0) 8 = (v_148 : Int32).toInt := by rw [e_142]; rfl
        have fe_162 : fld (f_131 a_0) 9 = (v_150 : Int32).toInt := by rw [e_142]; rfl
        rw [fe_161, fe_162] at x_133
        have fe_163 : fld (f_131 a_0) 8 = (v_148 : Int32).toInt := by rw [e_142]; rfl
        have fe_164 : fld (f_131 a_0) 9 = (v_150 : Int32).toInt := by rw [e_142]; rfl
        have fe_165 : fld (f_131 a_0) 10 = (v_152 : Int32).toInt := by rw [e_142]; rfl
        rw [fe_163, fe_164, fe_165] at x_134
        rw [fe_140] at x_135
        have fe_166 : fld (f_131 a_0) 12 = (v_155 : Int32).toInt := by rw [e_142]; rfl
        rw [fe_166] at x_135
        rw [fe_141] at x_136
        have fe_167 : fld (f_131 a_0) 20 = (v_159 : Int32).toInt := by rw [e_142]; rfl
        rw [fe_167] at x_136
        have fe_168 : fld (f_131 a_0) 8 = (v_148 : Int32).toInt := by rw [e_142]; rfl
        have fe_169 : fld (f_131 a_0) 9 = (v_150 : Int32).toInt := by rw [e_142]; rfl
        have fe_170 : fld (f_131 a_0) 10 = (v_152 : Int32).toInt := by rw [e_142]; rfl
        have fe_171 : fld (f_131 a_0) 12 = (v_155 : Int32).toInt := by rw [e_142]; rfl
        have fe_172 : fld (f_131 a_0) 20 = (v_159 : Int32).toInt := by rw [e_142]; rfl
        exact hR _ _ _ _ _ _ dX12_ends_31 (Nat.le_of_ble_eq_true rfl) (Nat.le_of_ble_eq_true rfl) ⟨rfl, hW_137, (hF_138.mono rfl), (by simp only [fe_168, fe_169, fe_170, fe_171, mz_40, mz_41, mz_42, true_and, and_true, or_true, true_or, false_or, or_false, false_and, and_false, not_true_eq_false, not_false_eq_true] <;> first | omega | (simp only [Int32.lt_iff_toInt_lt, Int32.le_iff_toInt_le, Int32.reduceToInt, ← Int32.toInt_inj, true_and, and_true, or_true, true_or, false_or, or_false, false_and, and_false, not_true_eq_false, not_false_eq_true] <;> omega)), (by simp only [fe_172, mz_43, true_and, and_true, or_true, true_or, false_or, or_false, false_and, and_false, not_true_eq_false, not_false_eq_true] <;> first | omega | (simp only [Int32.lt_iff_toInt_lt, Int32.le_iff_toInt_le, Int32.reduceToInt, ← Int32.toInt_inj, true_and, and_true, or_true, true_or, false_or, or_false, false_and, and_false, not_true_eq_false, not_false_eq_true] <;> omega))⟩
    · simp only [Int32.lt_iff_toInt_lt, Int32.le_iff_toInt_le, Int32.reduceToInt, ← Int32.toInt_inj] at h_113
      refine v_aload_n hC dX12_ends_15 rfl ?_
      refine v_iconst hC dX12_ends_16 (v := 1) (by decide) ?_
      refine v_vv hC (rest := []) m_1 e_21 rfl mi_X12_errs ms_X12_errs (p_X12_errs hW k_0 (by decide)) mx_X12_errs ml_X12_162 (by decide) rfl (cells1 := 0) (slots1 := 0) (by decide) (by decide) (Nat.le_of_ble_eq_true rfl) (Nat.le_of_ble_eq_true rfl) rfl (Nat.le_of_ble_eq_true rfl) dX12_ends_17 (fun L_174 f_175 h_176 => ?_)
      obtain ⟨rfl, hW_182, hF_183, x_177, x_178, x_179, x_180, x_181⟩ := h_176
      have fe_184 : fld (f a_0) 8 = (v_27 : Int32).toInt := by rw [e_21]; rfl
      have fe_185 : fld (f a_0) 9 = (v_29 : Int32).toInt := by rw [e_21]; rfl
      have fe_186 : fld (f a_0) 10 = (v_31 : Int32).toInt := by rw [e_21]; rfl
      have fe_187 : fld (f a_0) 20 = (v_38 : Int32).toInt := by rw [e_21]; rfl
      obtain ⟨v_189, v_190, v_192, v_194, v_196, v_198, v_200, v_201, v_202, v_203, v_205, e_188, b_191, b_193, b_195, b_197, b_199, b_204, b_206⟩ := hW_182.at m_1 t_2
      have fe_207 : fld (f_175 a_0) 12 = (v_201 : Int32).toInt := by rw [e_188]; rfl
      rw [fe_207] at x_177
      rw [fe_184] at x_178
      have fe_208 : fld (f_175 a_0) 8 = (v_194 : Int32).toInt := by rw [e_188]; rfl
      rw [fe_208] at x_178
      rw [fe_185] at x_179
      have fe_209 : fld (f_175 a_0) 9 = (v_196 : Int32).toInt := by rw [e_188]; rfl
      rw [fe_209] at x_179
      rw [fe_186] at x_180
      have fe_210 : fld (f_175 a_0) 10 = (v_198 : Int32).toInt := by rw [e_188]; rfl
      rw [fe_210] at x_180
      rw [fe_187] at x_181
      have fe_211 : fld (f_175 a_0) 20 = (v_205 : Int32).toInt := by rw [e_188]; rfl
      rw [fe_211] at x_181
      refine v_aload_n hC dX12_ends_20 rfl ?_
      refine v_vi hC (rest := []) m_1 e_188 rfl mi_X12_good ms_X12_good (p_X12_good hW_182 k_0) mx_X12_good ml_X12_139 (by decide) rfl (cells1 := 0) (slots1 := 0) (by decide) (by decide) (Nat.le_of_ble_eq_true rfl) (Nat.le_of_ble_eq_true rfl) rfl (Nat.le_of_ble_eq_true rfl) dX12_ends_21 (fun r_212 L_213 f_214 h_215 => ?_)
      obtain ⟨rfl, rfl, b_216, x_217⟩ := h_215
      have fe_220 : fld (f_175 a_0) 12 = (v_201 : Int32).toInt := by rw [e_188]; rfl
      rw [fe_220] at x_217
      try simp only [Int32.reduceToInt, Int64.reduceToInt] at x_217
      refine v_if_eq hC dX12_ends_24 (tgt := 31) (by decide) (fun h_221 => ?_) (fun h_221 => ?_)
      · simp only [Int32.lt_iff_toInt_lt, Int32.le_iff_toInt_le, Int32.reduceToInt, ← Int32.toInt_inj] at h_221
        have fe_222 : fld (f_175 a_0) 8 = (v_194 : Int32).toInt := by rw [e_188]; rfl
        have fe_223 : fld (f_175 a_0) 9 = (v_196 : Int32).toInt := by rw [e_188]; rfl
        have fe_224 : fld (f_175 a_0) 10 = (v_198 : Int32).toInt := by rw [e_188]; rfl
        have fe_225 : fld (f_175 a_0) 12 = (v_201 : Int32).toInt := by rw [e_188]; rfl
        have fe_226 : fld (f_175 a_0) 20 = (v_205 : Int32).toInt := by rw [e_188]; rfl
        exact hR _ _ _ _ _ _ dX12_ends_31 (Nat.le_of_ble_eq_true rfl) (Nat.le_of_ble_eq_true rfl) ⟨rfl, hW_182, (hF_183.mono rfl), (by simp only [fe_222, fe_223, fe_224, fe_225, mz_40, mz_41, mz_42, true_and, and_true, or_true, true_or, false_or, or_false, false_and, and_false, not_true_eq_false, not_false_eq_true] <;> first | omega | (simp only [Int32.lt_iff_toInt_lt, Int32.le_iff_toInt_le, Int32.reduceToInt, ← Int32.toInt_inj, true_and, and_true, or_true, true_or, false_or, or_false, false_and, and_false, not_true_eq_false, not_false_eq_true] <;> omega)), (by simp only [fe_226, mz_43, true_and, and_true, or_true, true_or, false_or, or_false, false_and, and_false, not_true_eq_false, not_false_eq_true] <;> first | omega | (simp only [Int32.lt_iff_toInt_lt, Int32.le_iff_toInt_le, Int32.reduceToInt, ← Int32.toInt_inj, true_and, and_true, or_true, true_or, false_or, or_false, false_and, and_false, not_true_eq_false, not_false_eq_true] <;> omega))⟩
      · simp only [Int32.lt_iff_toInt_lt, Int32.le_iff_toInt_le, Int32.reduceToInt, ← Int32.toInt_inj] at h_221
        refine v_aload_n hC dX12_ends_27 rfl ?_
        refine v_vv hC (rest := []) m_1 e_188 rfl mi_X12_advance ms_X12_advance (p_X12_advance hW_182 k_0) mx_X12_advance ml_X12_156 (by decide) rfl (cells1 := 0) (slots1 := 0) (by decide) (by decide) (Nat.le_of_ble_eq_true rfl) (Nat.le_of_ble_eq_true rfl) rfl (Nat.le_of_ble_eq_true rfl) dX12_ends_28 (fun L_228 f_229 h_230 => ?_)
        obtain ⟨rfl, hW_235, hF_236, x_231, x_232, x_233, x_234⟩ := h_230
        have fe_237 : fld (f_175 a_0) 8 = (v_194 : Int32).toInt := by rw [e_188]; rfl
        have fe_238 : fld (f_175 a_0) 12 = (v_201 : Int32).toInt := by rw [e_188]; rfl
        have fe_239 : fld (f_175 a_0) 20 = (v_205 : Int32).toInt := by rw [e_188]; rfl
        rw [fe_237] at x_231
        obtain ⟨v_241, v_242, v_244, v_246, v_248, v_250, v_252, v_253, v_254, v_255, v_257, e_240, b_243, b_245, b_247, b_249, b_251, b_256, b_258⟩ := hW_235.at m_1 t_2
        have fe_259 : fld (f_229 a_0) 8 = (v_246 : Int32).toInt := by rw [e_240]; rfl
        have fe_260 : fld (f_229 a_0) 9 = (v_248 : Int32).toInt := by rw [e_240]; rfl
        rw [fe_259, fe_260] at x_231
        have fe_261 : fld (f_229 a_0) 8 = (v_246 : Int32).toInt := by rw [e_240]; rfl
        have fe_262 : fld (f_229 a_0) 9 = (v_248 : Int32).toInt := by rw [e_240]; rfl
        have fe_263 : fld (f_229 a_0) 10 = (v_250 : Int32).toInt := by rw [e_240]; rfl
        rw [fe_261, fe_262, fe_263] at x_232
        rw [fe_238] at x_233
        have fe_264 : fld (f_229 a_0) 12 = (v_253 : Int32).toInt := by rw [e_240]; rfl
        rw [fe_264] at x_233
        rw [fe_239] at x_234
        have fe_265 : fld (f_229 a_0) 20 = (v_257 : Int32).toInt := by rw [e_240]; rfl
        rw [fe_265] at x_234
        have fe_266 : fld (f_229 a_0) 8 = (v_246 : Int32).toInt := by rw [e_240]; rfl
        have fe_267 : fld (f_229 a_0) 9 = (v_248 : Int32).toInt := by rw [e_240]; rfl
        have fe_268 : fld (f_229 a_0) 10 = (v_250 : Int32).toInt := by rw [e_240]; rfl
        have fe_269 : fld (f_229 a_0) 12 = (v_253 : Int32).toInt := by rw [e_240]; rfl
        have fe_270 : fld (f_229 a_0) 20 = (v_257 : Int32).toInt := by rw [e_240]; rfl
        exact hR _ _ _ _ _ _ dX12_ends_31 (Nat.le_of_ble_eq_true rfl) (Nat.le_of_ble_eq_true rfl) ⟨rfl, hW_235, ((hF_183.tr hF_236).mono rfl), (by simp only [fe_266, fe_267, fe_268, fe_269, mz_40, mz_41, mz_42, true_and, and_true, or_true, true_or, false_or, or_false, false_and, and_false, not_true_eq_false, not_false_eq_true] <;> first | omega | (simp only [Int32.lt_iff_toInt_lt, Int32.le_iff_toInt_le, Int32.reduceToInt, ← Int32.toInt_inj, true_and, and_true, or_true, true_or, false_or, or_false, false_and, and_false, not_true_eq_false, not_false_eq_true] <;> omega)), (by simp only [fe_270, mz_43, true_and, and_true, or_true, true_or, false_or, or_false, false_and, and_false, not_true_eq_false, not_false_eq_true] <;> first | omega | (simp only [Int32.lt_iff_toInt_lt, Int32.le_iff_toInt_le, Int32.reduceToInt, ← Int32.toInt_inj, true_and, and_true, or_true, true_or, false_or, or_false, false_and, and_false, not_true_eq_false, not_false_eq_true] <;> omega))⟩
set_option maxRecDepth 100000 in
set_option maxHeartbeats 4000000 in
theorem p_X12_endsAll {l : Launch} {E : Ez} {L : List Nat} {f : Nat → va_E} {T : Nat → va_E → Prop} {a_0 : Nat} {q : Nat → Nat} (hW : WT T L f) (k_0 : isM T L E a_0 q) : CV l yX12_endsAll cX12_endsAll 1 2 0 0 E [.ref a_0] L f (fun L1 f1 => L = L1 ∧ WT T L f1 ∧ FR [12] f f1 ∧ (¬ fld (f1 a_0) 12 = 0 ∨ fld (f a_0) 12 = 0) ∧ fld (f1 a_0) 20 = fld (f a_0) 20) := by
  refine cv_of (by decide) (Nat.le_of_ble_eq_true rfl) (fun z hz hnm hC hR => ?_)
  have hC : Cx z E cX12_endsAll RX12 1 2 0 0 := hC
  subst hz
  show V z E 1 0 0 L f 0 [(0, .ref a_0)] []
  obtain ⟨m_1, t_2, k_3, k_4, k_5, k_6, k_7, k_8, k_9, k_10, k_11, k_12, k_13, k_14, k_15, k_16, k_17, k_18, k_19, k_20⟩ := id k_0
  obtain ⟨v_22, v_23, v_25, v_27, v_29, v_31, v_33, v_34, v_35, v_36, v_38, e_21, b_24, b_26, b_28, b_30, b_32, b_37, b_39⟩ := hW.at m_1 t_2
  have mz_40 : fld (f a_0) 12 = v_34.toInt := by rw [e_21]; rfl
  have mz_41 : fld (f a_0) 20 = v_38.toInt := by rw [e_21]; rfl
  refine v_aload_n hC dX12_endsAll_0 rfl ?_
  refine v_vi hC (rest := []) m_1 e_21 rfl mi_X12_good ms_X12_good (p_X12_good hW k_0) mx_X12_good ml_X12_139 (by decide) rfl (cells1 := 0) (slots1 := 0) (by decide) (by decide) (Nat.le_of_ble_eq_true rfl) (Nat.le_of_ble_eq_true rfl) rfl (Nat.le_of_ble_eq_true rfl) dX12_endsAll_1 (fun r_42 L_43 f_44 h_45 => ?_)
  obtain ⟨rfl, rfl, b_46, x_47⟩ := h_45
  have fe_50 : fld (f a_0) 12 = (v_34 : Int32).toInt := by rw [e_21]; rfl
  rw [fe_50] at x_47
  try simp only [Int32.reduceToInt, Int64.reduceToInt] at x_47
  refine v_if_eq hC dX12_endsAll_4 (tgt := 19) (by decide) (fun h_51 => ?_) (fun h_51 => ?_)
  · simp only [Int32.lt_iff_toInt_lt, Int32.le_iff_toInt_le, Int32.reduceToInt, ← Int32.toInt_inj] at h_51
    have fe_52 : fld (f a_0) 12 = (v_34 : Int32).toInt := by rw [e_21]; rfl
    have fe_53 : fld (f a_0) 20 = (v_38 : Int32).toInt := by rw [e_21]; rfl
    exact hR _ _ _ _ _ _ dX12_endsAll_19 (Nat.le_of_ble_eq_true rfl) (Nat.le_of_ble_eq_true rfl) ⟨rfl, hW, FR.rf, (by simp only [fe_52, mz_40, true_and, and_true, or_true, true_or, false_or, or_false, false_and, and_false, not_true_eq_false, not_false_eq_true] <;> first | omega | (simp only [Int32.lt_iff_toInt_lt, Int32.le_iff_toInt_le, Int32.reduceToInt, ← Int32.toInt_inj, true_and, and_true, or_true, true_or, false_or, or_false, false_and, and_false, not_true_eq_false, not_false_eq_true] <;> omega)), (by simp only [fe_53, mz_41, true_and, and_true, or_true, true_or, false_or, or_false, false_and, and_false, not_true_eq_false, not_false_eq_true] <;> first | omega | (simp only [Int32.lt_iff_toInt_lt, Int32.le_iff_toInt_le, Int32.reduceToInt, ← Int32.toInt_inj, true_and, and_true, or_true, true_or, false_or, or_false, false_and, and_false, not_true_eq_false, not_false_eq_true] <;> omega))⟩
  · simp only [Int32.lt_iff_toInt_lt, Int32.le_iff_toInt_le, Int32.reduceToInt, ← Int32.toInt_inj] at h_51
    refine v_aload_n hC dX12_endsAll_7 rfl ?_
    refine v_get hC fl_X12_120 m_1 e_21 rfl dX12_endsAll_8 ?_
    refine v_if_eq hC dX12_endsAll_11 (tgt := 19) (by decide) (fun h_54 => ?_) (fun h_54 => ?_)
    · simp only [Int32.lt_iff_toInt_lt, Int32.le_iff_toInt_le, Int32.reduceToInt, ← Int32.toInt_inj] at h_54
      have fe_55 : fld (f a_0) 12 = (v_34 : Int32).toInt := by rw [e_21]; rfl
      have fe_56 : fld (f a_0) 20 = (v_38 : Int32).toInt := by rw [e_21]; rfl
      exact hR _ _ _ _ _ _ dX12_endsAll_19 (Nat.le_of_ble_eq_true rfl) (Nat.le_of_ble_eq_true rfl) ⟨rfl, hW, FR.rf, (by simp only [fe_55, mz_40, true_and, and_true, or_true, true_or, false_or, or_false, false_and, and_false, not_true_eq_false, not_false_eq_true] <;> first | omega | (simp only [Int32.lt_iff_toInt_lt, Int32.le_iff_toInt_le, Int32.reduceToInt, ← Int32.toInt_inj, true_and, and_true, or_true, true_or, false_or, or_false, false_and, and_false, not_true_eq_false, not_false_eq_true] <;> omega)), (by simp only [fe_56, mz_41, true_and, and_true, or_true, true_or, false_or, or_false, false_and, and_false, not_true_eq_false, not_false_eq_true] <;> first | omega | (simp only [Int32.lt_iff_toInt_lt, Int32.le_iff_toInt_le, Int32.reduceToInt, ← Int32.toInt_inj, true_and, and_true, or_true, true_or, false_or, or_false, false_and, and_false, not_true_eq_false, not_false_eq_true] <;> omega))⟩
    · simp only [Int32.lt_iff_toInt_lt, Int32.le_iff_toInt_le, Int32.reduceToInt, ← Int32.toInt_inj] at h_54
      refine v_aload_n hC dX12_endsAll_14 rfl ?_
      refine v_iconst hC dX12_endsAll_15 (v := 1) (by decide) ?_
      refine v_vv hC (rest := []) m_1 e_21 rfl mi_X12_errs ms_X12_errs (p_X12_errs hW k_0 (by decide)) mx_X12_errs ml_X12_162 (by decide) rfl (cells1 := 0) (slots1 := 0) (by decide) (by decide) (Nat.le_of_ble_eq_true rfl) (Nat.le_of_ble_eq_true rfl) rfl (Nat.le_of_ble_eq_true rfl) dX12_endsAll_16 (fun L_58 f_59 h_60 => ?_)
      obtain ⟨rfl, hW_66, hF_67, x_61, x_62, x_63, x_64, x_65⟩ := h_60
      have fe_68 : fld (f a_0) 8 = (v_27 : Int32).toInt := by rw [e_21]; rfl
      have fe_69 : fld (f a_0) 9 = (v_29 : Int32).toInt := by rw [e_21]; rfl
      have fe_70 : fld (f a_0) 10 = (v_31 : Int32).toInt := by rw [e_21]; rfl
      have fe_71 : fld (f a_0) 20 = (v_38 : Int32).toInt := by rw [e_21]; rfl
      obtain ⟨v_73, v_74, v_76, v_78, v_80, v_82, v_84, v_85, v_86, v_87, v_89, e_72, b_75, b_77, b_79, b_81, b_83, b_88, b_90⟩ := hW_66.at m_1 t_2
      have fe_91 : fld (f_59 a_0) 12 = (v_85 : Int32).toInt := by rw [e_72]; rfl
      rw [fe_91] at x_61
      rw [fe_68] at x_62
      have fe_92 : fld (f_59 a_0) 8 = (v_78 : Int32).toInt := by rw [e_72]; rfl
      rw [fe_92] at x_62
      rw [fe_69] at x_63
      have fe_93 : fld (f_59 a_0) 9 = (v_80 : Int32).toInt := by rw [e_72]; rfl
      rw [fe_93] at x_63
      rw [fe_70] at x_64
      have fe_94 : fld (f_59 a_0) 10 = (v_82 : Int32).toInt := by rw [e_72]; rfl
      rw [fe_94] at x_64
      rw [fe_71] at x_65
      have fe_95 : fld (f_59 a_0) 20 = (v_89 : Int32).toInt := by rw [e_72]; rfl
      rw [fe_95] at x_65
      have fe_96 : fld (f_59 a_0) 12 = (v_85 : Int32).toInt := by rw [e_72]; rfl
      have fe_97 : fld (f_59 a_0) 20 = (v_89 : Int32).toInt := by rw [e_72]; rfl
      exact hR _ _ _ _ _ _ dX12_endsAll_19 (Nat.le_of_ble_eq_true rfl) (Nat.le_of_ble_eq_true rfl) ⟨rfl, hW_66, (hF_67.mono rfl), (by simp only [fe_96, mz_40, true_and, and_true, or_true, true_or, false_or, or_false, false_and, and_false, not_true_eq_false, not_false_eq_true] <;> first | omega | (simp only [Int32.lt_iff_toInt_lt, Int32.le_iff_toInt_le, Int32.reduceToInt, ← Int32.toInt_inj, true_and, and_true, or_true, true_or, false_or, or_false, false_and, and_false, not_true_eq_false, not_false_eq_true] <;> omega)), (by simp only [fe_97, mz_41, true_and, and_true, or_true, true_or, false_or, or_false, false_and, and_false, not_true_eq_false, not_false_eq_true] <;> first | omega | (simp only [Int32.lt_iff_toInt_lt, Int32.le_iff_toInt_le, Int32.reduceToInt, ← Int32.toInt_inj, true_and, and_true, or_true, true_or, false_or, or_false, false_and, and_false, not_true_eq_false, not_false_eq_true] <;> omega))⟩
set_option maxRecDepth 100000 in
set_option maxHeartbeats 4000000 in
theorem p_X12_feed {l : Launch} {E : Ez} {L : List Nat} {f : Nat → va_E} {T : Nat → va_E → Prop} {a_0 : Nat} {a_1 : Int32} {a_2 : Int32} {a_3 : Int32} {a_4 : Int32} {a_5 : Int32} {q : Nat → Nat} {g_w : Nat → Int32} (hW : WT T L f) (k_0 : isM T L E a_0 q) (e_w : f (q 1) = aI E 2076 g_w) (o_w : WOK g_w) : CI l yX12_feed cX12_feed 7 .int 0 0 0 E [.ref a_0, .int a_1, .int a_2, .int a_3, .int a_4, .int a_5] L f (fun r L1 f1 => L = L1 ∧ WT T L f1 ∧ FR [12, 105, 700] f f1 ∧ ((-1) ≤ r.toInt ∧ r.toInt ≤ 620)) := by
  refine ci_of (by decide) (Nat.le_of_ble_eq_true rfl) (fun z hz hnm hC hR => ?_)
  have hC : Cx z E cX12_feed RX12 7 0 0 0 := hC
  subst hz
  show V z E 7 0 0 L f 0 [(0, .ref a_0), (1, .int a_1), (2, .int a_2), (3, .int a_3), (4, .int a_4), (5, .int a_5)] []
  obtain ⟨m_1, t_2, k_3, k_4, k_5, k_6, k_7, k_8, k_9, k_10, k_11, k_12, k_13, k_14, k_15, k_16, k_17, k_18, k_19, k_20⟩ := id k_0
  obtain ⟨m_21, t_22⟩ := id k_3
  have b_23 := o_w.r0
  have b_24 := o_w.w0
  refine v_aload_n hC dX12_feed_0 rfl ?_
  obtain ⟨v_26, v_27, v_29, v_31, v_33, v_35, v_37, v_38, v_39, v_40, v_42, e_25, b_28, b_30, b_32, b_34, b_36, b_41, b_43⟩ := hW.at m_1 t_2
  refine v_get hC fl_X12_102 m_1 e_25 rfl dX12_feed_1 ?_
  refine v_bipush hC dX12_feed_4 (v := 20) (by decide) ?_
  obtain ⟨v_44, h_45⟩ : ∃ v9 : Int32, v_27 + 20 = v9 := ⟨_, rfl⟩
  refine v_iadd hC dX12_feed_6 h_45 ?_
  have h_46 := add_v h_45 (by first | omega | (simp only [Int32.lt_iff_toInt_lt, Int32.le_iff_toInt_le, Int32.reduceToInt, ← Int32.toInt_inj, true_and, and_true, or_true, true_or, false_or, or_false, false_and, and_false, not_true_eq_false, not_false_eq_true] <;> omega)) (by first | omega | (simp only [Int32.lt_iff_toInt_lt, Int32.le_iff_toInt_le, Int32.reduceToInt, ← Int32.toInt_inj, true_and, and_true, or_true, true_or, false_or, or_false, false_and, and_false, not_true_eq_false, not_false_eq_true] <;> omega))
  try simp only [Int32.reduceToInt] at h_46
  refine v_sipush hC dX12_feed_7 (v := 600) (by decide) ?_
  refine v_icmp_le hC dX12_feed_10 (tgt := 15) (by decide) (fun h_47 => ?_) (fun h_47 => ?_)
  · simp only [Int32.lt_iff_toInt_lt, Int32.le_iff_toInt_le, Int32.reduceToInt, ← Int32.toInt_inj] at h_47
    refine v_aload_n hC dX12_feed_15 rfl ?_
    refine v_get hC fl_X12_28 m_1 e_25 rfl dX12_feed_16 ?_
    refine v_iconst hC dX12_feed_19 (v := 0) (by decide) ?_
    refine v_iload_n hC dX12_feed_20 rfl ?_
    obtain ⟨m_48, t_49⟩ := id k_7
    obtain ⟨g_51, e_50⟩ := hW.at m_48 t_49
    refine v_iast hC m_48 e_50 (vp_in_iff.mpr (by decide)) dX12_feed_21 (fun f_52 hf_53 hk_54 => ?_)
    have hW_56 := hW.up hf_53 hk_54 t_49 ⟨_, rfl⟩
    obtain ⟨g_55, hf_53⟩ : ∃ g9, f_52 (q 6) = aI E 5 g9 := ⟨_, hf_53⟩
    have hf_57 := (hk_54 (q 1) (ne_kd e_w e_50 rfl)).trans e_w
    have hf_58 := (hk_54 a_0 (ne_kd e_25 e_50 rfl)).trans e_25
    have fr_59 := FR.w hk_54 e_50 (k := 105) rfl
    refine v_aload_n hC dX12_feed_22 rfl ?_
    refine v_get hC fl_X12_28 m_1 hf_58 rfl dX12_feed_23 ?_
    refine v_iconst hC dX12_feed_26 (v := 1) (by decide) ?_
    refine v_iload_n hC dX12_feed_27 rfl ?_
    refine v_iast hC m_48 hf_53 (vp_in_iff.mpr (by decide)) dX12_feed_28 (fun f_60 hf_61 hk_62 => ?_)
    have hW_64 := hW_56.up hf_61 hk_62 t_49 ⟨_, rfl⟩
    obtain ⟨g_63, hf_61⟩ : ∃ g9, f_60 (q 6) = aI E 5 g9 := ⟨_, hf_61⟩
    have hf_65 := (hk_62 (q 1) (ne_kd hf_57 hf_53 rfl)).trans hf_57
    have hf_66 := (hk_62 a_0 (ne_kd hf_58 hf_53 rfl)).trans hf_58
    have fr_67 := FR.w hk_62 hf_53 (k := 105) rfl
    refine v_aload_n hC dX12_feed_29 rfl ?_
    refine v_get hC fl_X12_28 m_1 hf_66 rfl dX12_feed_30 ?_
    refine v_iconst hC dX12_feed_33 (v := 2) (by decide) ?_
    refine v_iload_n hC dX12_feed_34 rfl ?_
    refine v_iast hC m_48 hf_61 (vp_in_iff.mpr (by decide)) dX12_feed_35 (fun f_68 hf_69 hk_70 => ?_)
    have hW_72 := hW_64.up hf_69 hk_70 t_49 ⟨_, rfl⟩
    obtain ⟨g_71, hf_69⟩ : ∃ g9, f_68 (q 6) = aI E 5 g9 := ⟨_, hf_69⟩
    have hf_73 := (hk_70 (q 1) (ne_kd hf_65 hf_61 rfl)).trans hf_65
    have hf_74 := (hk_70 a_0 (ne_kd hf_66 hf_61 rfl)).trans hf_66
    have fr_75 := FR.w hk_70 hf_61 (k := 105) rfl
    refine v_aload_n hC dX12_feed_36 rfl ?_
    refine v_get hC fl_X12_28 m_1 hf_74 rfl dX12_feed_37 ?_
    refine v_iconst hC dX12_feed_40 (v := 3) (by decide) ?_
    refine v_iload hC dX12_feed_41 rfl ?_
    refine v_iast hC m_48 hf_69 (vp_in_iff.mpr (by decide)) dX12_feed_43 (fun f_76 hf_77 hk_78 => ?_)
    have hW_80 := hW_72.up hf_77 hk_78 t_49 ⟨_, rfl⟩
    obtain ⟨g_79, hf_77⟩ : ∃ g9, f_76 (q 6) = aI E 5 g9 := ⟨_, hf_77⟩
    have hf_81 := (hk_78 (q 1) (ne_kd hf_73 hf_69 rfl)).trans hf_73
    have hf_82 := (hk_78 a_0 (ne_kd hf_74 hf_69 rfl)).trans hf_74
    have fr_83 := FR.w hk_78 hf_69 (k := 105) rfl
    refine v_aload_n hC dX12_feed_44 rfl ?_
    refine v_get hC fl_X12_28 m_1 hf_82 rfl dX12_feed_45 ?_
    refine v_iconst hC dX12_feed_48 (v := 4) (by decide) ?_
    refine v_iload hC dX12_feed_49 rfl ?_
    refine v_iast hC m_48 hf_77 (vp_in_iff.mpr (by decide)) dX12_feed_51 (fun f_84 hf_85 hk_86 => ?_)
    have hW_88 := hW_80.up hf_85 hk_86 t_49 ⟨_, rfl⟩
    obtain ⟨g_87, hf_85⟩ : ∃ g9, f_84 (q 6) = aI E 5 g9 := ⟨_, hf_85⟩
    have hf_89 := (hk_86 (q 1) (ne_kd hf_81 hf_77 rfl)).trans hf_81
    have hf_90 := (hk_86 a_0 (ne_kd hf_82 hf_77 rfl)).trans hf_82
    have fr_91 := FR.w hk_86 hf_77 (k := 105) rfl
    refine v_iconst hC dX12_feed_52 (v := 0) (by decide) ?_
    refine v_istore hC dX12_feed_53 (by decide) (lv' := [(6, .int 0), (0, .ref a_0), (1, .int a_1), (2, .int a_2), (3, .int a_3), (4, .int a_4), (5, .int a_5)]) rfl ?_
    have lp_338 : ∀ (n_339 : Nat) (f_331 : Nat → va_E) (hW_332 : WT T L f_331) (hF_333 : FR [700] f_84 f_331) (i_330 : Int32) (b_337 : (0 ≤ i_330.toInt ∧ i_330.toInt ≤ 20)) (hm_341 : 20 - i_330.toInt < (n_339 : Int)), V z E 7 0 0 L f_331 55 [(6, .int i_330), (0, .ref a_0)] [] := by
      intro n_339
      induction n_339 with
      | zero =>
        intro f_331 hW_332 hF_333 i_330 b_337 hm_341
        have hf_334 := hF_333.at hf_89 rfl
        have hf_335 := hF_333.at hf_90 rfl
        have hf_336 := hF_333.at hf_85 rfl
        exfalso; omega
      | succ n_339 ih_340 =>
        intro f_331 hW_332 hF_333 i_330 b_337 hm_341
        have hf_334 := hF_333.at hf_89 rfl
        have hf_335 := hF_333.at hf_90 rfl
        have hf_336 := hF_333.at hf_85 rfl
        refine v_iload hC dX12_feed_55 rfl ?_
        refine v_bipush hC dX12_feed_57 (v := 20) (by decide) ?_
        refine v_icmp_ge hC dX12_feed_59 (tgt := 101) (by decide) (fun h_342 => ?_) (fun h_342 => ?_)
        · simp only [Int32.lt_iff_toInt_lt, Int32.le_iff_toInt_le, Int32.reduceToInt, ← Int32.toInt_inj] at h_342
          refine v_aload_n hC dX12_feed_101 rfl ?_
          refine v_dup hC dX12_feed_102 rfl ?_
          refine v_get hC fl_X12_102 m_1 hf_335 rfl dX12_feed_103 ?_
          refine v_bipush hC dX12_feed_106 (v := 20) (by decide) ?_
          obtain ⟨v_343, h_344⟩ : ∃ v9 : Int32, v_27 + 20 = v9 := ⟨_, rfl⟩
          refine v_iadd hC dX12_feed_108 h_344 ?_
          have h_345 := add_v h_344 (by first | omega | (simp only [Int32.lt_iff_toInt_lt, Int32.le_iff_toInt_le, Int32.reduceToInt, ← Int32.toInt_inj, true_and, and_true, or_true, true_or, false_or, or_false, false_and, and_false, not_true_eq_false, not_false_eq_true] <;> omega)) (by first | omega | (simp only [Int32.lt_iff_toInt_lt, Int32.le_iff_toInt_le, Int32.reduceToInt, ← Int32.toInt_inj, true_and, and_true, or_true, true_or, false_or, or_false, false_and, and_false, not_true_eq_false, not_false_eq_true] <;> omega))
          try simp only [Int32.reduceToInt] at h_345
          refine v_put hC fl_X12_102 m_1 hf_335 rfl rfl (Nat.le_of_ble_eq_true rfl) (fs' := [.int v_26, .ref (q 1), .ref (q 2), .ref (q 3), .ref (q 4), .int v_343, .ref (q 6), .int v_29, .int v_31, .int v_33, .int v_35, .int v_37, .int v_38, .int v_39, .ref (q 14), .ref (q 15), .ref (q 16), .int v_40, .ref (q 18), .ref (q 19), .int v_42, .ref (q 21), .ref (q 22), .ref (q 23), .ref (q 24), .ref (q 25), .ref (q 26), .ref (q 27), .ref (q 28)]) rfl dX12_feed_109 (fun f_346 hf_347 hk_348 => ?_)
          have hW_349 := hW_332.up hf_347 hk_348 t_2 ⟨v_26, v_343, v_29, v_31, v_33, v_35, v_37, v_38, v_39, v_40, v_42, rfl, (by first | omega | (simp only [Int32.lt_iff_toInt_lt, Int32.le_iff_toInt_le, Int32.reduceToInt, ← Int32.toInt_inj, true_and, and_true, or_true, true_or, false_or, or_false, false_and, and_false, not_true_eq_false, not_false_eq_true] <;> omega)), (by first | omega | (simp only [Int32.lt_iff_toInt_lt, Int32.le_iff_toInt_le, Int32.reduceToInt, ← Int32.toInt_inj, true_and, and_true, or_true, true_or, false_or, or_false, false_and, and_false, not_true_eq_false, not_false_eq_true] <;> omega)), (by first | omega | (simp only [Int32.lt_iff_toInt_lt, Int32.le_iff_toInt_le, Int32.reduceToInt, ← Int32.toInt_inj, true_and, and_true, or_true, true_or, false_or, or_false, false_and, and_false, not_true_eq_false, not_false_eq_true] <;> omega)), (by first | omega | (simp only [Int32.lt_iff_toInt_lt, Int32.le_iff_toInt_le, Int32.reduceToInt, ← Int32.toInt_inj, true_and, and_true, or_true, true_or, false_or, or_false, false_and, and_false, not_true_eq_false, not_false_eq_true] <;> omega)), (by first | omega | (simp only [Int32.lt_iff_toInt_lt, Int32.le_iff_toInt_le, Int32.reduceToInt, ← Int32.toInt_inj, true_and, and_true, or_true, true_or, false_or, or_false, false_and, and_false, not_true_eq_false, not_false_eq_true] <;> omega)), (by first | omega | (simp only [Int32.lt_iff_toInt_lt, Int32.le_iff_toInt_le, Int32.reduceToInt, ← Int32.toInt_inj, true_and, and_true, or_true, true_or, false_or, or_false, false_and, and_false, not_true_eq_false, not_false_eq_true] <;> omega)), (by first | omega | (simp only [Int32.lt_iff_toInt_lt, Int32.le_iff_toInt_le, Int32.reduceToInt, ← Int32.toInt_inj, true_and, and_true, or_true, true_or, false_or, or_false, false_and, and_false, not_true_eq_false, not_false_eq_true] <;> omega))⟩
          have hf_350 := (hk_348 (q 1) (ne_kd hf_334 hf_335 rfl)).trans hf_334
          have hf_351 := (hk_348 (q 6) (ne_kd hf_336 hf_335 rfl)).trans hf_336
          have fr_352 := FR.w hk_348 hf_335 (k := 12) rfl
          refine v_aload_n hC dX12_feed_112 rfl ?_
          refine v_get hC fl_X12_102 m_1 hf_347 rfl dX12_feed_113 ?_
          exact hR _ _ _ _ _ _ _ dX12_feed_116 rfl (Nat.le_of_ble_eq_true rfl) (Nat.le_of_ble_eq_true rfl) ⟨rfl, hW_349, (((((((fr_59.tr fr_67).tr fr_75).tr fr_83).tr fr_91).tr hF_333).tr fr_352).mono rfl), (by first | omega | (simp only [Int32.lt_iff_toInt_lt, Int32.le_iff_toInt_le, Int32.reduceToInt, ← Int32.toInt_inj, true_and, and_true, or_true, true_or, false_or, or_false, false_and, and_false, not_true_eq_false, not_false_eq_true] <;> omega))⟩
        · simp only [Int32.lt_iff_toInt_lt, Int32.le_iff_toInt_le, Int32.reduceToInt, ← Int32.toInt_inj] at h_342
          refine v_aload_n hC dX12_feed_62 rfl ?_
          refine v_get hC fl_X12_24 m_1 hf_335 rfl dX12_feed_63 ?_
          refine v_aload_n hC dX12_feed_66 rfl ?_
          refine v_get hC fl_X12_102 m_1 hf_335 rfl dX12_feed_67 ?_
          refine v_iload hC dX12_feed_70 rfl ?_
          obtain ⟨v_353, h_354⟩ : ∃ v9 : Int32, v_27 + i_330 = v9 := ⟨_, rfl⟩
          refine v_iadd hC dX12_feed_72 h_354 ?_
          have h_355 := add_v h_354 (by first | omega | (simp only [Int32.lt_iff_toInt_lt, Int32.le_iff_toInt_le, Int32.reduceToInt, ← Int32.toInt_inj, true_and, and_true, or_true, true_or, false_or, or_false, false_and, and_false, not_true_eq_false, not_false_eq_true] <;> omega)) (by first | omega | (simp only [Int32.lt_iff_toInt_lt, Int32.le_iff_toInt_le, Int32.reduceToInt, ← Int32.toInt_inj, true_and, and_true, or_true, true_or, false_or, or_false, false_and, and_false, not_true_eq_false, not_false_eq_true] <;> omega))
          refine v_aload_n hC dX12_feed_73 rfl ?_
          refine v_get hC fl_X12_28 m_1 hf_335 rfl dX12_feed_74 ?_
          refine v_iload hC dX12_feed_77 rfl ?_
          refine v_iconst hC dX12_feed_79 (v := 4) (by decide) ?_
          obtain ⟨v_356, h_357⟩ : ∃ v9 : Int32, i_330 / 4 = v9 := ⟨_, rfl⟩
          refine v_idiv hC dX12_feed_80 (by decide) h_357 ?_
          have h_358 := div_v h_357 (by first | omega | (simp only [Int32.lt_iff_toInt_lt, Int32.le_iff_toInt_le, Int32.reduceToInt, ← Int32.toInt_inj, true_and, and_true, or_true, true_or, false_or, or_false, false_and, and_false, not_true_eq_false, not_false_eq_true] <;> omega)) (by decide)
          try simp only [Int32.reduceToInt] at h_358
          obtain ⟨v_359, h_360⟩ : ∃ v9 : Int32, g_87 (v_356 : Int32).toNatClampNeg = v9 := ⟨_, rfl⟩
          refine v_iald hC m_48 hf_336 (vp_in_iff.mpr (by first | omega | (simp only [Int32.lt_iff_toInt_lt, Int32.le_iff_toInt_le, Int32.reduceToInt, ← Int32.toInt_inj, true_and, and_true, or_true, true_or, false_or, or_false, false_and, and_false, not_true_eq_false, not_false_eq_true] <;> omega))) h_360 dX12_feed_81 ?_
          refine v_bipush hC dX12_feed_82 (v := 24) (by decide) ?_
          refine v_bipush hC dX12_feed_84 (v := 8) (by decide) ?_
          refine v_iload hC dX12_feed_86 rfl ?_
          refine v_iconst hC dX12_feed_88 (v := 4) (by decide) ?_
          obtain ⟨v_361, h_362⟩ : ∃ v9 : Int32, i_330 - i_330 / 4 * 4 = v9 := ⟨_, rfl⟩
          refine v_irem hC dX12_feed_89 (by decide) h_362 ?_
          have h_363 := rem_v h_362 (by first | omega | (simp only [Int32.lt_iff_toInt_lt, Int32.le_iff_toInt_le, Int32.reduceToInt, ← Int32.toInt_inj, true_and, and_true, or_true, true_or, false_or, or_false, false_and, and_false, not_true_eq_false, not_false_eq_true] <;> omega)) (by decide)
          try simp only [Int32.reduceToInt] at h_363
          obtain ⟨v_364, h_365⟩ : ∃ v9 : Int32, (8 : Int32) * v_361 = v9 := ⟨_, rfl⟩
          refine v_imul hC dX12_feed_90 h_365 ?_
          have h_366 := mul_v 8 3 24 h_365 (by decide) (by first | omega | (simp only [Int32.lt_iff_toInt_lt, Int32.le_iff_toInt_le, Int32.reduceToInt, ← Int32.toInt_inj, true_and, and_true, or_true, true_or, false_or, or_false, false_and, and_false, not_true_eq_false, not_false_eq_true] <;> omega)) (by decide) (by decide)
          try simp only [Int32.reduceToInt] at h_366
          obtain ⟨v_367, h_368⟩ : ∃ v9 : Int32, (24 : Int32) - v_364 = v9 := ⟨_, rfl⟩
          refine v_isub hC dX12_feed_91 h_368 ?_
          have h_369 := sub_v h_368 (by first | omega | (simp only [Int32.lt_iff_toInt_lt, Int32.le_iff_toInt_le, Int32.reduceToInt, ← Int32.toInt_inj, true_and, and_true, or_true, true_or, false_or, or_false, false_and, and_false, not_true_eq_false, not_false_eq_true] <;> omega)) (by first | omega | (simp only [Int32.lt_iff_toInt_lt, Int32.le_iff_toInt_le, Int32.reduceToInt, ← Int32.toInt_inj, true_and, and_true, or_true, true_or, false_or, or_false, false_and, and_false, not_true_eq_false, not_false_eq_true] <;> omega))
          try simp only [Int32.reduceToInt] at h_369
          obtain ⟨v_370, h_371⟩ : ∃ v9 : Int32, v_359 >>> (v_367 &&& 31) = v9 := ⟨_, rfl⟩
          refine v_ishr hC dX12_feed_92 h_371 ?_
          obtain ⟨v_373, h_374⟩ : ∃ v9 : Int32, v_370.toInt8.toInt32 = v9 := ⟨_, rfl⟩
          refine v_i2b hC dX12_feed_93 h_374 ?_
          obtain ⟨m_375, t_376⟩ := id k_6
          obtain ⟨g_378, e_377, fit_379⟩ := hW_332.at m_375 t_376
          refine v_bast hC m_375 e_377 (vp_in_iff.mpr (by first | omega | (simp only [Int32.lt_iff_toInt_lt, Int32.le_iff_toInt_le, Int32.reduceToInt, ← Int32.toInt_inj, true_and, and_true, or_true, true_or, false_or, or_false, false_and, and_false, not_true_eq_false, not_false_eq_true] <;> omega))) dX12_feed_94 (fun f_380 hf_381 hk_382 => ?_)
          have hW_384 := hW_332.up hf_381 hk_382 t_376 ⟨_, rfl, (fit_upd fit_379)⟩
          obtain ⟨g_383, hf_381, fit_385⟩ : ∃ g9, f_380 (q 4) = aB E 600 g9 ∧ ∀ j, fits .byte (.int (g9 j)) = true := ⟨_, hf_381, (fit_upd fit_379)⟩
          have hf_386 := (hk_382 (q 1) (ne_kd hf_334 e_377 rfl)).trans hf_334
          have hf_387 := (hk_382 a_0 (ne_kd hf_335 e_377 rfl)).trans hf_335
          have hf_388 := (hk_382 (q 6) (ne_kd hf_336 e_377 rfl)).trans hf_336
          have fr_389 := FR.w hk_382 e_377 (k := 700) rfl
          obtain ⟨v_390, h_391⟩ : ∃ v9 : Int32, i_330 + Int32.ofInt 1 = v9 := ⟨_, rfl⟩
          have h_392 := add_v (b := 1) h_391 (by first | omega | (simp only [Int32.lt_iff_toInt_lt, Int32.le_iff_toInt_le, Int32.reduceToInt, ← Int32.toInt_inj, true_and, and_true, or_true, true_or, false_or, or_false, false_and, and_false, not_true_eq_false, not_false_eq_true] <;> omega)) (by first | omega | (simp only [Int32.lt_iff_toInt_lt, Int32.le_iff_toInt_le, Int32.reduceToInt, ← Int32.toInt_inj, true_and, and_true, or_true, true_or, false_or, or_false, false_and, and_false, not_true_eq_false, not_false_eq_true] <;> omega))
          simp only [Int32.reduceToInt] at h_392
          refine v_iinc hC dX12_feed_95 (k := 0) rfl (v := v_390) h_391 (by decide) (lv' := [(6, .int v_390), (0, .ref a_0)]) rfl ?_
          refine v_goto hC dX12_feed_98 (tgt := 55) (by decide) ?_
          refine v_pick [0, 1] rfl ?_
          exact ih_340 f_380 hW_384 ((hF_333.tr fr_389).mono rfl) v_390 (by first | omega | (simp only [Int32.lt_iff_toInt_lt, Int32.le_iff_toInt_le, Int32.reduceToInt, ← Int32.toInt_inj, true_and, and_true, or_true, true_or, false_or, or_false, false_and, and_false, not_true_eq_false, not_false_eq_true] <;> omega)) (by first | omega | (simp only [Int32.lt_iff_toInt_lt, Int32.le_iff_toInt_le, Int32.reduceToInt, ← Int32.toInt_inj, true_and, and_true, or_true, true_or, false_or, or_false, false_and, and_false, not_true_eq_false, not_false_eq_true] <;> omega))
    refine v_pick [0, 1] rfl ?_
    exact lp_338 22 f_84 hW_88 FR.rf 0 (by decide) (by decide)
  · simp only [Int32.lt_iff_toInt_lt, Int32.le_iff_toInt_le, Int32.reduceToInt, ← Int32.toInt_inj] at h_47
    refine v_iconst hC dX12_feed_13 (v := (-1)) (by decide) ?_
    exact hR _ _ _ _ _ _ _ dX12_feed_14 rfl (Nat.le_of_ble_eq_true rfl) (Nat.le_of_ble_eq_true rfl) ⟨rfl, hW, FR.rf, (by decide)⟩
set_option maxRecDepth 100000 in
set_option maxHeartbeats 4000000 in
theorem p_X12_end {l : Launch} {E : Ez} {L : List Nat} {f : Nat → va_E} {T : Nat → va_E → Prop} {a_0 : Nat} {a_1 : Int32} {q : Nat → Nat} {g_w : Nat → Int32} (hW : WT T L f) (k_0 : isM T L E a_0 q) (e_w : f (q 1) = aI E 2076 g_w) (o_w : WOK g_w) : CI l yX12_end cX12_end 2 .int 1 0 0 E [.ref a_0, .int a_1] L f (fun r L1 f1 => L = L1 ∧ WT T L f1 ∧ FR [12] f f1 ∧ ((-1) ≤ r.toInt ∧ r.toInt ≤ 600) ∧ (¬ r.toInt = 0 ∨ (0 ≤ a_1.toInt ∧ a_1.toInt ≤ 600))) := by
  refine ci_of (by decide) (Nat.le_of_ble_eq_true rfl) (fun z hz hnm hC hR => ?_)
  have hC : Cx z E cX12_end RX12 2 1 0 0 := hC
  subst hz
  show V z E 2 0 0 L f 0 [(0, .ref a_0), (1, .int a_1)] []
  obtain ⟨m_1, t_2, k_3, k_4, k_5, k_6, k_7, k_8, k_9, k_10, k_11, k_12, k_13, k_14, k_15, k_16, k_17, k_18, k_19, k_20⟩ := id k_0
  obtain ⟨m_21, t_22⟩ := id k_3
  have b_23 := o_w.r0
  have b_24 := o_w.w0
  refine v_iload_n hC dX12_end_0 rfl ?_
  obtain ⟨v_25, h_26⟩ : ∃ v9 : Int64, a_1.toInt64 = v9 := ⟨_, rfl⟩
  refine v_i2l hC dX12_end_1 h_26 ?_
  have h_27 : v_25.toInt = a_1.toInt := by rw [← h_26]; exact Int32.toInt_toInt64 _
  refine v_lconst hC dX12_end_2 (v := 0) (by decide) ?_
  refine v_aload_n hC dX12_end_3 rfl ?_
  obtain ⟨v_29, v_30, v_32, v_34, v_36, v_38, v_40, v_41, v_42, v_43, v_45, e_28, b_31, b_33, b_35, b_37, b_39, b_44, b_46⟩ := hW.at m_1 t_2
  refine v_get hC fl_X12_102 m_1 e_28 rfl dX12_end_4 ?_
  obtain ⟨v_47, h_48⟩ : ∃ v9 : Int64, v_30.toInt64 = v9 := ⟨_, rfl⟩
  refine v_i2l hC dX12_end_7 h_48 ?_
  have h_49 : v_47.toInt = v_30.toInt := by rw [← h_48]; exact Int32.toInt_toInt64 _
  refine v_si hC (rest := []) mt_X12_in (p_X12_in hW) mx_X12_in ml_X12_79 (by decide) rfl (cells1 := 0) (slots1 := 0) (by decide) (by decide) (Nat.le_of_ble_eq_true rfl) (Nat.le_of_ble_eq_true rfl) rfl (Nat.le_of_ble_eq_true rfl) dX12_end_8 (fun r_50 L_51 f_52 h_53 => ?_)
  obtain ⟨rfl, rfl, b_54, x_55⟩ := h_53
  try simp only [Int32.reduceToInt, Int64.reduceToInt] at x_55
  refine v_if_ne hC dX12_end_11 (tgt := 16) (by decide) (fun h_58 => ?_) (fun h_58 => ?_)
  · simp only [Int32.lt_iff_toInt_lt, Int32.le_iff_toInt_le, Int32.reduceToInt, ← Int32.toInt_inj] at h_58
    refine v_aload_n hC dX12_end_16 rfl ?_
    refine v_iload_n hC dX12_end_17 rfl ?_
    refine v_put hC fl_X12_102 m_1 e_28 rfl rfl (Nat.le_of_ble_eq_true rfl) (fs' := [.int v_29, .ref (q 1), .ref (q 2), .ref (q 3), .ref (q 4), .int a_1, .ref (q 6), .int v_32, .int v_34, .int v_36, .int v_38, .int v_40, .int v_41, .int v_42, .ref (q 14), .ref (q 15), .ref (q 16), .int v_43, .ref (q 18), .ref (q 19), .int v_45, .ref (q 21), .ref (q 22), .ref (q 23), .ref (q 24), .ref (q 25), .ref (q 26), .ref (q 27), .ref (q 28)]) rfl dX12_end_18 (fun f_59 hf_60 hk_61 => ?_)
    have hW_62 := hW.up hf_60 hk_61 t_2 ⟨v_29, a_1, v_32, v_34, v_36, v_38, v_40, v_41, v_42, v_43, v_45, rfl, (by first | omega | (simp only [Int32.lt_iff_toInt_lt, Int32.le_iff_toInt_le, Int32.reduceToInt, ← Int32.toInt_inj, true_and, and_true, or_true, true_or, false_or, or_false, false_and, and_false, not_true_eq_false, not_false_eq_true] <;> omega)), (by first | omega | (simp only [Int32.lt_iff_toInt_lt, Int32.le_iff_toInt_le, Int32.reduceToInt, ← Int32.toInt_inj, true_and, and_true, or_true, true_or, false_or, or_false, false_and, and_false, not_true_eq_false, not_false_eq_true] <;> omega)), (by first | omega | (simp only [Int32.lt_iff_toInt_lt, Int32.le_iff_toInt_le, Int32.reduceToInt, ← Int32.toInt_inj, true_and, and_true, or_true, true_or, false_or, or_false, false_and, and_false, not_true_eq_false, not_false_eq_true] <;> omega)), (by first | omega | (simp only [Int32.lt_iff_toInt_lt, Int32.le_iff_toInt_le, Int32.reduceToInt, ← Int32.toInt_inj, true_and, and_true, or_true, true_or, false_or, or_false, false_and, and_false, not_true_eq_false, not_false_eq_true] <;> omega)), (by first | omega | (simp only [Int32.lt_iff_toInt_lt, Int32.le_iff_toInt_le, Int32.reduceToInt, ← Int32.toInt_inj, true_and, and_true, or_true, true_or, false_or, or_false, false_and, and_false, not_true_eq_false, not_false_eq_true] <;> omega)), (by first | omega | (simp only [Int32.lt_iff_toInt_lt, Int32.le_iff_toInt_le, Int32.reduceToInt, ← Int32.toInt_inj, true_and, and_true, or_true, true_or, false_or, or_false, false_and, and_false, not_true_eq_false, not_false_eq_true] <;> omega)), (by first | omega | (simp only [Int32.lt_iff_toInt_lt, Int32.le_iff_toInt_le, Int32.reduceToInt, ← Int32.toInt_inj, true_and, and_true, or_true, true_or, false_or, or_false, false_and, and_false, not_true_eq_false, not_false_eq_true] <;> omega))⟩
    have hf_63 := (hk_61 (q 1) (ne_kd e_w e_28 rfl)).trans e_w
    have fr_64 := FR.w hk_61 e_28 (k := 12) rfl
    refine v_iload_n hC dX12_end_21 rfl ?_
    exact hR _ _ _ _ _ _ _ dX12_end_22 rfl (Nat.le_of_ble_eq_true rfl) (Nat.le_of_ble_eq_true rfl) ⟨rfl, hW_62, (fr_64.mono rfl), (by first | omega | (simp only [Int32.lt_iff_toInt_lt, Int32.le_iff_toInt_le, Int32.reduceToInt, ← Int32.toInt_inj, true_and, and_true, or_true, true_or, false_or, or_false, false_and, and_false, not_true_eq_false, not_false_eq_true] <;> omega)), (.inr (by first | omega | (simp only [Int32.lt_iff_toInt_lt, Int32.le_iff_toInt_le, Int32.reduceToInt, ← Int32.toInt_inj, true_and, and_true, or_true, true_or, false_or, or_false, false_and, and_false, not_true_eq_false, not_false_eq_true] <;> omega)))⟩
  · simp only [Int32.lt_iff_toInt_lt, Int32.le_iff_toInt_le, Int32.reduceToInt, ← Int32.toInt_inj] at h_58
    refine v_iconst hC dX12_end_14 (v := (-1)) (by decide) ?_
    exact hR _ _ _ _ _ _ _ dX12_end_15 rfl (Nat.le_of_ble_eq_true rfl) (Nat.le_of_ble_eq_true rfl) ⟨rfl, hW, FR.rf, (by decide), (.inl (by decide))⟩
set_option maxRecDepth 100000 in
set_option maxHeartbeats 4000000 in
theorem p_X12_fault {l : Launch} {E : Ez} {L : List Nat} {f : Nat → va_E} {T : Nat → va_E → Prop} {a_0 : Nat} {a_1 : Int32} {q : Nat → Nat} {g_w : Nat → Int32} (hW : WT T L f) (k_0 : isM T L E a_0 q) (e_w : f (q 1) = aI E 2076 g_w) (o_w : WOK g_w) : CI l yX12_fault cX12_fault 2 .int 0 0 0 E [.ref a_0, .int a_1] L f (fun r L1 f1 => L = L1 ∧ f = f1 ∧ (¬ r.toInt = 0 ∨ (0 ≤ a_1.toInt ∧ a_1.toInt ≤ 1))) := by
  refine ci_of (by decide) (Nat.le_of_ble_eq_true rfl) (fun z hz hnm hC hR => ?_)
  have hC : Cx z E cX12_fault RX12 2 0 0 0 := hC
  subst hz
  show V z E 2 0 0 L f 0 [(0, .ref a_0), (1, .int a_1)] []
  obtain ⟨m_1, t_2, k_3, k_4, k_5, k_6, k_7, k_8, k_9, k_10, k_11, k_12, k_13, k_14, k_15, k_16, k_17, k_18, k_19, k_20⟩ := id k_0
  obtain ⟨m_21, t_22⟩ := id k_3
  have b_23 := o_w.r0
  have b_24 := o_w.w0
  refine v_iload_n hC dX12_fault_0 rfl ?_
  refine v_if_ne hC dX12_fault_1 (tgt := 11) (by decide) (fun h_25 => ?_) (fun h_25 => ?_)
  · simp only [Int32.lt_iff_toInt_lt, Int32.le_iff_toInt_le, Int32.reduceToInt, ← Int32.toInt_inj] at h_25
    refine v_iload_n hC dX12_fault_11 rfl ?_
    refine v_iconst hC dX12_fault_12 (v := 1) (by decide) ?_
    refine v_icmp_ne hC dX12_fault_13 (tgt := 23) (by decide) (fun h_26 => ?_) (fun h_26 => ?_)
    · simp only [Int32.lt_iff_toInt_lt, Int32.le_iff_toInt_le, Int32.reduceToInt, ← Int32.toInt_inj] at h_26
      refine v_iconst hC dX12_fault_23 (v := (-1)) (by decide) ?_
      exact hR _ _ _ _ _ _ _ dX12_fault_24 rfl (Nat.le_of_ble_eq_true rfl) (Nat.le_of_ble_eq_true rfl) ⟨rfl, rfl, (.inl (by decide))⟩
    · simp only [Int32.lt_iff_toInt_lt, Int32.le_iff_toInt_le, Int32.reduceToInt, ← Int32.toInt_inj] at h_26
      refine v_aload_n hC dX12_fault_16 rfl ?_
      obtain ⟨v_28, v_29, v_31, v_33, v_35, v_37, v_39, v_40, v_41, v_42, v_44, e_27, b_30, b_32, b_34, b_36, b_38, b_43, b_45⟩ := hW.at m_1 t_2
      refine v_get hC fl_X12_31 m_1 e_27 rfl dX12_fault_17 ?_
      refine v_goto hC dX12_fault_20 (tgt := 24) (by decide) ?_
      exact hR _ _ _ _ _ _ _ dX12_fault_24 rfl (Nat.le_of_ble_eq_true rfl) (Nat.le_of_ble_eq_true rfl) ⟨rfl, rfl, (.inr (by first | omega | (simp only [Int32.lt_iff_toInt_lt, Int32.le_iff_toInt_le, Int32.reduceToInt, ← Int32.toInt_inj, true_and, and_true, or_true, true_or, false_or, or_false, false_and, and_false, not_true_eq_false, not_false_eq_true] <;> omega)))⟩
  · simp only [Int32.lt_iff_toInt_lt, Int32.le_iff_toInt_le, Int32.reduceToInt, ← Int32.toInt_inj] at h_25
    refine v_aload_n hC dX12_fault_4 rfl ?_
    obtain ⟨v_47, v_48, v_50, v_52, v_54, v_56, v_58, v_59, v_60, v_61, v_63, e_46, b_49, b_51, b_53, b_55, b_57, b_62, b_64⟩ := hW.at m_1 t_2
    refine v_get hC fl_X12_111 m_1 e_46 rfl dX12_fault_5 ?_
    refine v_goto hC dX12_fault_8 (tgt := 24) (by decide) ?_
    exact hR _ _ _ _ _ _ _ dX12_fault_24 rfl (Nat.le_of_ble_eq_true rfl) (Nat.le_of_ble_eq_true rfl) ⟨rfl, rfl, (.inr (by first | omega | (simp only [Int32.lt_iff_toInt_lt, Int32.le_iff_toInt_le, Int32.reduceToInt, ← Int32.toInt_inj, true_and, and_true, or_true, true_or, false_or, or_false, false_and, and_false, not_true_eq_false, not_false_eq_true] <;> omega)))⟩
set_option maxRecDepth 100000 in
set_option maxHeartbeats 4000000 in
theorem p_X12_signOf {l : Launch} {E : Ez} {L : List Nat} {f : Nat → va_E} {T : Nat → va_E → Prop} {a_0 : Int32} (hW : WT T L f) : CI l yX12_signOf cX12_signOf 1 .int 0 0 0 E [.int a_0] L f (fun r L1 f1 => L = L1 ∧ f = f1 ∧ ((-1) ≤ r.toInt ∧ r.toInt ≤ 4) ∧ (¬ r.toInt = 0 ∨ (107 ≤ a_0.toInt ∧ a_0.toInt ≤ 107))) := by
  refine ci_of (by decide) (Nat.le_of_ble_eq_true rfl) (fun z hz hnm hC hR => ?_)
  have hC : Cx z E cX12_signOf RX12 1 0 0 0 := hC
  subst hz
  show V z E 1 0 0 L f 0 [(0, .int a_0)] []
  refine v_iload_n hC dX12_signOf_0 rfl ?_
  refine v_bipush hC dX12_signOf_1 (v := 107) (by decide) ?_
  refine v_icmp_ne hC dX12_signOf_3 (tgt := 10) (by decide) (fun h_1 => ?_) (fun h_1 => ?_)
  · simp only [Int32.lt_iff_toInt_lt, Int32.le_iff_toInt_le, Int32.reduceToInt, ← Int32.toInt_inj] at h_1
    refine v_iload_n hC dX12_signOf_10 rfl ?_
    refine v_bipush hC dX12_signOf_11 (v := 112) (by decide) ?_
    refine v_icmp_ne hC dX12_signOf_13 (tgt := 20) (by decide) (fun h_2 => ?_) (fun h_2 => ?_)
    · simp only [Int32.lt_iff_toInt_lt, Int32.le_iff_toInt_le, Int32.reduceToInt, ← Int32.toInt_inj] at h_2
      refine v_iload_n hC dX12_signOf_20 rfl ?_
      refine v_bipush hC dX12_signOf_21 (v := 102) (by decide) ?_
      refine v_icmp_ne hC dX12_signOf_23 (tgt := 30) (by decide) (fun h_3 => ?_) (fun h_3 => ?_)
      · simp only [Int32.lt_iff_toInt_lt, Int32.le_iff_toInt_le, Int32.reduceToInt, ← Int32.toInt_inj] at h_3
        refine v_iload_n hC dX12_signOf_30 rfl ?_
        refine v_bipush hC dX12_signOf_31 (v := 104) (by decide) ?_
        refine v_icmp_ne hC dX12_signOf_33 (tgt := 40) (by decide) (fun h_4 => ?_) (fun h_4 => ?_)
        · simp only [Int32.lt_iff_toInt_lt, Int32.le_iff_toInt_le, Int32.reduceToInt, ← Int32.toInt_inj] at h_4
          refine v_iload_n hC dX12_signOf_40 rfl ?_
          refine v_bipush hC dX12_signOf_41 (v := 109) (by decide) ?_
          refine v_icmp_ne hC dX12_signOf_43 (tgt := 50) (by decide) (fun h_5 => ?_) (fun h_5 => ?_)
          · simp only [Int32.lt_iff_toInt_lt, Int32.le_iff_toInt_le, Int32.reduceToInt, ← Int32.toInt_inj] at h_5
            refine v_iconst hC dX12_signOf_50 (v := (-1)) (by decide) ?_
            exact hR _ _ _ _ _ _ _ dX12_signOf_51 rfl (Nat.le_of_ble_eq_true rfl) (Nat.le_of_ble_eq_true rfl) ⟨rfl, rfl, (by decide), (.inl (by decide))⟩
          · simp only [Int32.lt_iff_toInt_lt, Int32.le_iff_toInt_le, Int32.reduceToInt, ← Int32.toInt_inj] at h_5
            refine v_iconst hC dX12_signOf_46 (v := 4) (by decide) ?_
            refine v_goto hC dX12_signOf_47 (tgt := 51) (by decide) ?_
            exact hR _ _ _ _ _ _ _ dX12_signOf_51 rfl (Nat.le_of_ble_eq_true rfl) (Nat.le_of_ble_eq_true rfl) ⟨rfl, rfl, (by decide), (.inl (by decide))⟩
        · simp only [Int32.lt_iff_toInt_lt, Int32.le_iff_toInt_le, Int32.reduceToInt, ← Int32.toInt_inj] at h_4
          refine v_iconst hC dX12_signOf_36 (v := 3) (by decide) ?_
          refine v_goto hC dX12_signOf_37 (tgt := 51) (by decide) ?_
          exact hR _ _ _ _ _ _ _ dX12_signOf_51 rfl (Nat.le_of_ble_eq_true rfl) (Nat.le_of_ble_eq_true rfl) ⟨rfl, rfl, (by decide), (.inl (by decide))⟩
      · simp only [Int32.lt_iff_toInt_lt, Int32.le_iff_toInt_le, Int32.reduceToInt, ← Int32.toInt_inj] at h_3
        refine v_iconst hC dX12_signOf_26 (v := 2) (by decide) ?_
        refine v_goto hC dX12_signOf_27 (tgt := 51) (by decide) ?_
        exact hR _ _ _ _ _ _ _ dX12_signOf_51 rfl (Nat.le_of_ble_eq_true rfl) (Nat.le_of_ble_eq_true rfl) ⟨rfl, rfl, (by decide), (.inl (by decide))⟩
    · simp only [Int32.lt_iff_toInt_lt, Int32.le_iff_toInt_le, Int32.reduceToInt, ← Int32.toInt_inj] at h_2
      refine v_iconst hC dX12_signOf_16 (v := 1) (by decide) ?_
      refine v_goto hC dX12_signOf_17 (tgt := 51) (by decide) ?_
      exact hR _ _ _ _ _ _ _ dX12_signOf_51 rfl (Nat.le_of_ble_eq_true rfl) (Nat.le_of_ble_eq_true rfl) ⟨rfl, rfl, (by decide), (.inl (by decide))⟩
  · simp only [Int32.lt_iff_toInt_lt, Int32.le_iff_toInt_le, Int32.reduceToInt, ← Int32.toInt_inj] at h_1
    refine v_iconst hC dX12_signOf_6 (v := 0) (by decide) ?_
    refine v_goto hC dX12_signOf_7 (tgt := 51) (by decide) ?_
    exact hR _ _ _ _ _ _ _ dX12_signOf_51 rfl (Nat.le_of_ble_eq_true rfl) (Nat.le_of_ble_eq_true rfl) ⟨rfl, rfl, (by decide), (.inr (by first | omega | (simp only [Int32.lt_iff_toInt_lt, Int32.le_iff_toInt_le, Int32.reduceToInt, ← Int32.toInt_inj, true_and, and_true, or_true, true_or, false_or, or_false, false_and, and_false, not_true_eq_false, not_false_eq_true] <;> omega)))⟩
set_option maxRecDepth 100000 in
set_option maxHeartbeats 4000000 in
theorem p_X12_sortsHere {l : Launch} {E : Ez} {L : List Nat} {f : Nat → va_E} {T : Nat → va_E → Prop} {a_0 : Nat} {q : Nat → Nat} {g_w : Nat → Int32} (hW : WT T L f) (k_0 : isM T L E a_0 q) (e_w : f (q 1) = aI E 2076 g_w) (o_w : WOK g_w) : CI l yX12_sortsHere cX12_sortsHere 4 .int 1 0 0 E [.ref a_0] L f (fun r L1 f1 => L = L1 ∧ f = f1) := by
  refine ci_of (by decide) (Nat.le_of_ble_eq_true rfl) (fun z hz hnm hC hR => ?_)
  have hC : Cx z E cX12_sortsHere RX12 4 1 0 0 := hC
  subst hz
  show V z E 4 0 0 L f 0 [(0, .ref a_0)] []
  obtain ⟨m_1, t_2, k_3, k_4, k_5, k_6, k_7, k_8, k_9, k_10, k_11, k_12, k_13, k_14, k_15, k_16, k_17, k_18, k_19, k_20⟩ := id k_0
  obtain ⟨m_21, t_22⟩ := id k_3
  have b_23 := o_w.r0
  have b_24 := o_w.w0
  refine v_iconst hC dX12_sortsHere_0 (v := 0) (by decide) ?_
  refine v_istore_n hC dX12_sortsHere_1 (by decide) (lv' := [(1, .int 0), (0, .ref a_0)]) rfl ?_
  refine v_aload_n hC dX12_sortsHere_2 rfl ?_
  obtain ⟨v_26, v_27, v_29, v_31, v_33, v_35, v_37, v_38, v_39, v_40, v_42, e_25, b_28, b_30, b_32, b_34, b_36, b_41, b_43⟩ := hW.at m_1 t_2
  refine v_get hC fl_X12_120 m_1 e_25 rfl dX12_sortsHere_3 ?_
  refine v_iconst hC dX12_sortsHere_6 (v := 1) (by decide) ?_
  refine v_icmp_eq hC dX12_sortsHere_7 (tgt := 12) (by decide) (fun h_44 => ?_) (fun h_44 => ?_)
  · simp only [Int32.lt_iff_toInt_lt, Int32.le_iff_toInt_le, Int32.reduceToInt, ← Int32.toInt_inj] at h_44
    refine v_aload_n hC dX12_sortsHere_12 rfl ?_
    refine v_get hC fl_X12_117 m_1 e_25 rfl dX12_sortsHere_13 ?_
    refine v_istore_n hC dX12_sortsHere_16 (by decide) (lv' := [(2, .int v_33), (1, .int 0), (0, .ref a_0)]) rfl ?_
    have lp_271 : ∀ (n_272 : Nat) (i_268 : Int32) (b_270 : (0 ≤ i_268.toInt ∧ i_268.toInt ≤ 600)) (i_269 : Int32) (hm_274 : 600 - i_268.toInt < (n_272 : Int)), V z E 4 0 0 L f 17 [(2, .int i_268), (1, .int i_269), (0, .ref a_0)] [] := by
      intro n_272
      induction n_272 with
      | zero =>
        intro i_268 b_270 i_269 hm_274
        exfalso; omega
      | succ n_272 ih_273 =>
        intro i_268 b_270 i_269 hm_274
        refine v_iload_n hC dX12_sortsHere_17 rfl ?_
        refine v_aload_n hC dX12_sortsHere_18 rfl ?_
        refine v_get hC fl_X12_108 m_1 e_25 rfl dX12_sortsHere_19 ?_
        refine v_icmp_ge hC dX12_sortsHere_22 (tgt := 63) (by decide) (fun h_275 => ?_) (fun h_275 => ?_)
        · simp only [Int32.lt_iff_toInt_lt, Int32.le_iff_toInt_le, Int32.reduceToInt, ← Int32.toInt_inj] at h_275
          refine v_iload_n hC dX12_sortsHere_63 rfl ?_
          exact hR _ _ _ _ _ _ _ dX12_sortsHere_64 rfl (Nat.le_of_ble_eq_true rfl) (Nat.le_of_ble_eq_true rfl) ⟨rfl, rfl⟩
        · simp only [Int32.lt_iff_toInt_lt, Int32.le_iff_toInt_le, Int32.reduceToInt, ← Int32.toInt_inj] at h_275
          refine v_aload_n hC dX12_sortsHere_25 rfl ?_
          refine v_get hC fl_X12_24 m_1 e_25 rfl dX12_sortsHere_26 ?_
          refine v_iload_n hC dX12_sortsHere_29 rfl ?_
          obtain ⟨m_276, t_277⟩ := id k_6
          obtain ⟨g_279, e_278, fit_280⟩ := hW.at m_276 t_277
          obtain ⟨v_281, h_282⟩ : ∃ v9 : Int32, g_279 (i_268 : Int32).toNatClampNeg = v9 := ⟨_, rfl⟩
          refine v_bald hC m_276 e_278 (vp_in_iff.mpr (by first | omega | (simp only [Int32.lt_iff_toInt_lt, Int32.le_iff_toInt_le, Int32.reduceToInt, ← Int32.toInt_inj, true_and, and_true, or_true, true_or, false_or, or_false, false_and, and_false, not_true_eq_false, not_false_eq_true] <;> omega))) h_282 dX12_sortsHere_30 ?_
          refine v_si hC (rest := []) mt_X12_signOf (p_X12_signOf hW) mx_X12_signOf ml_X12_175 (by decide) rfl (cells1 := 0) (slots1 := 0) (by decide) (by decide) (Nat.le_of_ble_eq_true rfl) (Nat.le_of_ble_eq_true rfl) rfl (Nat.le_of_ble_eq_true rfl) dX12_sortsHere_31 (fun r_283 L_284 f_285 h_286 => ?_)
          obtain ⟨rfl, rfl, b_287, h_288⟩ := h_286
          refine v_istore_n hC dX12_sortsHere_34 (by decide) (lv' := [(3, .int r_283), (2, .int i_268), (1, .int i_269), (0, .ref a_0)]) rfl ?_
          refine v_iload_n hC dX12_sortsHere_35 rfl ?_
          refine v_iconst hC dX12_sortsHere_36 (v := 2) (by decide) ?_
          refine v_icmp_lt hC dX12_sortsHere_37 (tgt := 49) (by decide) (fun h_291 => ?_) (fun h_291 => ?_)
          · simp only [Int32.lt_iff_toInt_lt, Int32.le_iff_toInt_le, Int32.reduceToInt, ← Int32.toInt_inj] at h_291
            refine v_iconst hC dX12_sortsHere_49 (v := (-1)) (by decide) ?_
            exact hR _ _ _ _ _ _ _ dX12_sortsHere_50 rfl (Nat.le_of_ble_eq_true rfl) (Nat.le_of_ble_eq_true rfl) ⟨rfl, rfl⟩
          · simp only [Int32.lt_iff_toInt_lt, Int32.le_iff_toInt_le, Int32.reduceToInt, ← Int32.toInt_inj] at h_291
            refine v_iload_n hC dX12_sortsHere_40 rfl ?_
            refine v_iload_n hC dX12_sortsHere_41 rfl ?_
            obtain ⟨v_292, h_293⟩ : ∃ v9 : Int32, i_269 >>> (r_283 &&& 31) = v9 := ⟨_, rfl⟩
            refine v_ishr hC dX12_sortsHere_42 h_293 ?_
            refine v_iconst hC dX12_sortsHere_43 (v := 1) (by decide) ?_
            obtain ⟨v_295, h_296⟩ : ∃ v9 : Int32, v_292 &&& 1 = v9 := ⟨_, rfl⟩
            refine v_iand hC dX12_sortsHere_44 h_296 ?_
            have h_297 := and_v h_296 (by decide)
            try simp only [Int32.reduceToInt] at h_297
            refine v_iconst hC dX12_sortsHere_45 (v := 1) (by decide) ?_
            refine v_icmp_ne hC dX12_sortsHere_46 (tgt := 51) (by decide) (fun h_298 => ?_) (fun h_298 => ?_)
            · simp only [Int32.lt_iff_toInt_lt, Int32.le_iff_toInt_le, Int32.reduceToInt, ← Int32.toInt_inj] at h_298
              refine v_iload_n hC dX12_sortsHere_51 rfl ?_
              refine v_iconst hC dX12_sortsHere_52 (v := 1) (by decide) ?_
              refine v_iload_n hC dX12_sortsHere_53 rfl ?_
              obtain ⟨v_299, h_300⟩ : ∃ v9 : Int32, (1 : Int32) <<< (r_283 &&& 31) = v9 := ⟨_, rfl⟩
              refine v_ishl hC dX12_sortsHere_54 h_300 ?_
              obtain ⟨v_302, h_303⟩ : ∃ v9 : Int32, i_269 ||| v_299 = v9 := ⟨_, rfl⟩
              refine v_ior hC dX12_sortsHere_55 h_303 ?_
              refine v_istore_n hC dX12_sortsHere_56 (by decide) (lv' := [(1, .int v_302), (3, .int r_283), (2, .int i_268), (0, .ref a_0)]) rfl ?_
              obtain ⟨v_305, h_306⟩ : ∃ v9 : Int32, i_268 + Int32.ofInt 1 = v9 := ⟨_, rfl⟩
              have h_307 := add_v (b := 1) h_306 (by first | omega | (simp only [Int32.lt_iff_toInt_lt, Int32.le_iff_toInt_le, Int32.reduceToInt, ← Int32.toInt_inj, true_and, and_true, or_true, true_or, false_or, or_false, false_and, and_false, not_true_eq_false, not_false_eq_true] <;> omega)) (by first | omega | (simp only [Int32.lt_iff_toInt_lt, Int32.le_iff_toInt_le, Int32.reduceToInt, ← Int32.toInt_inj, true_and, and_true, or_true, true_or, false_or, or_false, false_and, and_false, not_true_eq_false, not_false_eq_true] <;> omega))
              simp only [Int32.reduceToInt] at h_307
              refine v_iinc hC dX12_sortsHere_57 (k := 2) rfl (v := v_305) h_306 (by decide) (lv' := [(2, .int v_305), (1, .int v_302), (3, .int r_283), (0, .ref a_0)]) rfl ?_
              refine v_goto hC dX12_sortsHere_60 (tgt := 17) (by decide) ?_
              refine v_pick [0, 1, 3] rfl ?_
              exact ih_273 v_305 (by first | omega | (simp only [Int32.lt_iff_toInt_lt, Int32.le_iff_toInt_le, Int32.reduceToInt, ← Int32.toInt_inj, true_and, and_true, or_true, true_or, false_or, or_false, false_and, and_false, not_true_eq_false, not_false_eq_true] <;> omega)) v_302 (by first | omega | (simp only [Int32.lt_iff_toInt_lt, Int32.le_iff_toInt_le, Int32.reduceToInt, ← Int32.toInt_inj, true_and, and_true, or_true, true_or, false_or, or_false, false_and, and_false, not_true_eq_false, not_false_eq_true] <;> omega))
            · simp only [Int32.lt_iff_toInt_lt, Int32.le_iff_toInt_le, Int32.reduceToInt, ← Int32.toInt_inj] at h_298
              refine v_iconst hC dX12_sortsHere_49 (v := (-1)) (by decide) ?_
              exact hR _ _ _ _ _ _ _ dX12_sortsHere_50 rfl (Nat.le_of_ble_eq_true rfl) (Nat.le_of_ble_eq_true rfl) ⟨rfl, rfl⟩
    refine v_pick [0, 1, 2] rfl ?_
    exact lp_271 602 v_33 (by first | omega | (simp only [Int32.lt_iff_toInt_lt, Int32.le_iff_toInt_le, Int32.reduceToInt, ← Int32.toInt_inj, true_and, and_true, or_true, true_or, false_or, or_false, false_and, and_false, not_true_eq_false, not_false_eq_true] <;> omega)) 0 (by first | omega | (simp only [Int32.lt_iff_toInt_lt, Int32.le_iff_toInt_le, Int32.reduceToInt, ← Int32.toInt_inj, true_and, and_true, or_true, true_or, false_or, or_false, false_and, and_false, not_true_eq_false, not_false_eq_true] <;> omega))
  · simp only [Int32.lt_iff_toInt_lt, Int32.le_iff_toInt_le, Int32.reduceToInt, ← Int32.toInt_inj] at h_44
    refine v_iconst hC dX12_sortsHere_10 (v := (-1)) (by decide) ?_
    exact hR _ _ _ _ _ _ _ dX12_sortsHere_11 rfl (Nat.le_of_ble_eq_true rfl) (Nat.le_of_ble_eq_true rfl) ⟨rfl, rfl⟩
set_option maxRecDepth 100000 in
set_option maxHeartbeats 4000000 in
theorem p_X12_readWords {l : Launch} {E : Ez} {L : List Nat} {f : Nat → va_E} {T : Nat → va_E → Prop} {a_0 : Nat} {q : Nat → Nat} (hW : WT T L f) (k_0 : isM T L E a_0 q) : CI l yX12_readWords cX12_readWords 2 .int 2 0 0 E [.ref a_0] L f (fun r L1 f1 => L = L1 ∧ WT T L f1 ∧ FR [12, 700] f f1 ∧ ((-1) ≤ r.toInt ∧ r.toInt ≤ 600)) := by
  refine ci_of (by decide) (Nat.le_of_ble_eq_true rfl) (fun z hz hnm hC hR => ?_)
  have hC : Cx z E cX12_readWords RX12 2 2 0 0 := hC
  subst hz
  show V z E 2 0 0 L f 0 [(0, .ref a_0)] []
  obtain ⟨m_1, t_2, k_3, k_4, k_5, k_6, k_7, k_8, k_9, k_10, k_11, k_12, k_13, k_14, k_15, k_16, k_17, k_18, k_19, k_20⟩ := id k_0
  refine v_aload_n hC dX12_readWords_0 rfl ?_
  obtain ⟨v_22, v_23, v_25, v_27, v_29, v_31, v_33, v_34, v_35, v_36, v_38, e_21, b_24, b_26, b_28, b_30, b_32, b_37, b_39⟩ := hW.at m_1 t_2
  refine v_vv hC (rest := []) m_1 e_21 rfl mi_X12_begin ms_X12_begin (p_X12_begin hW k_0) mx_X12_begin ml_X12_181 (by decide) rfl (cells1 := 0) (slots1 := 0) (by decide) (by decide) (Nat.le_of_ble_eq_true rfl) (Nat.le_of_ble_eq_true rfl) rfl (Nat.le_of_ble_eq_true rfl) dX12_readWords_1 (fun L_41 f_42 h_43 => ?_)
  obtain ⟨rfl, hW_47, hF_48, x_44, x_45, x_46⟩ := h_43
  have fe_49 : fld (f a_0) 20 = (v_38 : Int32).toInt := by rw [e_21]; rfl
  obtain ⟨v_51, v_52, v_54, v_56, v_58, v_60, v_62, v_63, v_64, v_65, v_67, e_50, b_53, b_55, b_57, b_59, b_61, b_66, b_68⟩ := hW_47.at m_1 t_2
  have fe_69 : fld (f_42 a_0) 12 = (v_63 : Int32).toInt := by rw [e_50]; rfl
  rw [fe_69] at x_44
  have fe_70 : fld (f_42 a_0) 8 = (v_56 : Int32).toInt := by rw [e_50]; rfl
  rw [fe_70] at x_45
  rw [fe_49] at x_46
  have fe_71 : fld (f_42 a_0) 20 = (v_67 : Int32).toInt := by rw [e_50]; rfl
  rw [fe_71] at x_46
  refine v_aload_n hC dX12_readWords_4 rfl ?_
  refine v_iconst hC dX12_readWords_5 (v := 0) (by decide) ?_
  refine v_put hC fl_X12_117 m_1 e_50 rfl rfl (Nat.le_of_ble_eq_true rfl) (fs' := [.int v_51, .ref (q 1), .ref (q 2), .ref (q 3), .ref (q 4), .int v_52, .ref (q 6), .int v_54, .int v_56, .int 0, .int v_60, .int v_62, .int v_63, .int v_64, .ref (q 14), .ref (q 15), .ref (q 16), .int v_65, .ref (q 18), .ref (q 19), .int v_67, .ref (q 21), .ref (q 22), .ref (q 23), .ref (q 24), .ref (q 25), .ref (q 26), .ref (q 27), .ref (q 28)]) rfl dX12_readWords_6 (fun f_72 hf_73 hk_74 => ?_)
  have hW_75 := hW_47.up hf_73 hk_74 t_2 ⟨v_51, v_52, v_54, v_56, 0, v_60, v_62, v_63, v_64, v_65, v_67, rfl, (by first | omega | (simp only [Int32.lt_iff_toInt_lt, Int32.le_iff_toInt_le, Int32.reduceToInt, ← Int32.toInt_inj, true_and, and_true, or_true, true_or, false_or, or_false, false_and, and_false, not_true_eq_false, not_false_eq_true] <;> omega)), (by first | omega | (simp only [Int32.lt_iff_toInt_lt, Int32.le_iff_toInt_le, Int32.reduceToInt, ← Int32.toInt_inj, true_and, and_true, or_true, true_or, false_or, or_false, false_and, and_false, not_true_eq_false, not_false_eq_true] <;> omega)), (by first | omega | (simp only [Int32.lt_iff_toInt_lt, Int32.le_iff_toInt_le, Int32.reduceToInt, ← Int32.toInt_inj, true_and, and_true, or_true, true_or, false_or, or_false, false_and, and_false, not_true_eq_false, not_false_eq_true] <;> omega)), (by decide), (by first | omega | (simp only [Int32.lt_iff_toInt_lt, Int32.le_iff_toInt_le, Int32.reduceToInt, ← Int32.toInt_inj, true_and, and_true, or_true, true_or, false_or, or_false, false_and, and_false, not_true_eq_false, not_false_eq_true] <;> omega)), (by first | omega | (simp only [Int32.lt_iff_toInt_lt, Int32.le_iff_toInt_le, Int32.reduceToInt, ← Int32.toInt_inj, true_and, and_true, or_true, true_or, false_or, or_false, false_and, and_false, not_true_eq_false, not_false_eq_true] <;> omega)), (by first | omega | (simp only [Int32.lt_iff_toInt_lt, Int32.le_iff_toInt_le, Int32.reduceToInt, ← Int32.toInt_inj, true_and, and_true, or_true, true_or, false_or, or_false, false_and, and_false, not_true_eq_false, not_false_eq_true] <;> omega))⟩
  have fr_76 := FR.w hk_74 e_50 (k := 12) rfl
  have lp_1066 : ∀ (n_1067 : Nat) (f_1063 : Nat → va_E) (hW_1064 : WT T L f_1063) (hF_1065 : FR [12, 700] f_72 f_1063)  (hm_1069 : 600 - fld (f_1063 a_0) 9 < (n_1067 : Int)), V z E 2 0 0 L f_1063 9 [(0, .ref a_0)] [] := by
    intro n_1067
    induction n_1067 with
    | zero =>
      intro f_1063 hW_1064 hF_1065 hm_1069
      obtain ⟨v_1071, v_1072, v_1074, v_1076, v_1078, v_1080, v_1082, v_1083, v_1084, v_1085, v_1087, e_1070, b_1073, b_1075, b_1077, b_1079, b_1081, b_1086, b_1088⟩ := hW_1064.at m_1 t_2
      have h_1089 : fld (f_1063 a_0) 9 = (v_1078 : Int32).toInt := by rw [e_1070]; rfl
      rw [h_1089] at hm_1069
      exfalso; omega
    | succ n_1067 ih_1068 =>
      intro f_1063 hW_1064 hF_1065 hm_1069
      obtain ⟨v_1071, v_1072, v_1074, v_1076, v_1078, v_1080, v_1082, v_1083, v_1084, v_1085, v_1087, e_1070, b_1073, b_1075, b_1077, b_1079, b_1081, b_1086, b_1088⟩ := hW_1064.at m_1 t_2
      have h_1089 : fld (f_1063 a_0) 9 = (v_1078 : Int32).toInt := by rw [e_1070]; rfl
      rw [h_1089] at hm_1069
      refine v_aload_n hC dX12_readWords_9 rfl ?_
      refine v_vi hC (rest := []) m_1 e_1070 rfl mi_X12_good ms_X12_good (p_X12_good hW_1064 k_0) mx_X12_good ml_X12_139 (by decide) rfl (cells1 := 0) (slots1 := 0) (by decide) (by decide) (Nat.le_of_ble_eq_true rfl) (Nat.le_of_ble_eq_true rfl) rfl (Nat.le_of_ble_eq_true rfl) dX12_readWords_10 (fun r_1090 L_1091 f_1092 h_1093 => ?_)
      obtain ⟨rfl, rfl, b_1094, x_1095⟩ := h_1093
      have fe_1098 : fld (f_1063 a_0) 12 = (v_1083 : Int32).toInt := by rw [e_1070]; rfl
      rw [fe_1098] at x_1095
      try simp only [Int32.reduceToInt, Int64.reduceToInt] at x_1095
      refine v_if_eq hC dX12_readWords_13 (tgt := 109) (by decide) (fun h_1099 => ?_) (fun h_1099 => ?_)
      · simp only [Int32.lt_iff_toInt_lt, Int32.le_iff_toInt_le, Int32.reduceToInt, ← Int32.toInt_inj] at h_1099
        refine v_aload_n hC dX12_readWords_109 rfl ?_
        refine v_get hC fl_X12_117 m_1 e_1070 rfl dX12_readWords_110 ?_
        refine v_if_ne hC dX12_readWords_113 (tgt := 121) (by decide) (fun h_1100 => ?_) (fun h_1100 => ?_)
        · simp only [Int32.lt_iff_toInt_lt, Int32.le_iff_toInt_le, Int32.reduceToInt, ← Int32.toInt_inj] at h_1100
          refine v_aload_n hC dX12_readWords_121 rfl ?_
          refine v_vi hC (rest := []) m_1 e_1070 rfl mi_X12_good ms_X12_good (p_X12_good hW_1064 k_0) mx_X12_good ml_X12_139 (by decide) rfl (cells1 := 0) (slots1 := 0) (by decide) (by decide) (Nat.le_of_ble_eq_true rfl) (Nat.le_of_ble_eq_true rfl) rfl (Nat.le_of_ble_eq_true rfl) dX12_readWords_122 (fun r_1101 L_1102 f_1103 h_1104 => ?_)
          obtain ⟨rfl, rfl, b_1105, x_1106⟩ := h_1104
          have fe_1109 : fld (f_1063 a_0) 12 = (v_1083 : Int32).toInt := by rw [e_1070]; rfl
          rw [fe_1109] at x_1106
          try simp only [Int32.reduceToInt, Int64.reduceToInt] at x_1106
          refine v_if_eq hC dX12_readWords_125 (tgt := 135) (by decide) (fun h_1110 => ?_) (fun h_1110 => ?_)
          · simp only [Int32.lt_iff_toInt_lt, Int32.le_iff_toInt_le, Int32.reduceToInt, ← Int32.toInt_inj] at h_1110
            refine v_iconst hC dX12_readWords_135 (v := (-1)) (by decide) ?_
            exact hR _ _ _ _ _ _ _ dX12_readWords_136 rfl (Nat.le_of_ble_eq_true rfl) (Nat.le_of_ble_eq_true rfl) ⟨rfl, hW_1064, (((hF_48.tr fr_76).tr hF_1065).mono rfl), (by decide)⟩
          · simp only [Int32.lt_iff_toInt_lt, Int32.le_iff_toInt_le, Int32.reduceToInt, ← Int32.toInt_inj] at h_1110
            refine v_aload_n hC dX12_readWords_128 rfl ?_
            refine v_get hC fl_X12_117 m_1 e_1070 rfl dX12_readWords_129 ?_
            refine v_goto hC dX12_readWords_132 (tgt := 136) (by decide) ?_
            exact hR _ _ _ _ _ _ _ dX12_readWords_136 rfl (Nat.le_of_ble_eq_true rfl) (Nat.le_of_ble_eq_true rfl) ⟨rfl, hW_1064, (((hF_48.tr fr_76).tr hF_1065).mono rfl), (by first | omega | (simp only [Int32.lt_iff_toInt_lt, Int32.le_iff_toInt_le, Int32.reduceToInt, ← Int32.toInt_inj, true_and, and_true, or_true, true_or, false_or, or_false, false_and, and_false, not_true_eq_false, not_false_eq_true] <;> omega))⟩
        · simp only [Int32.lt_iff_toInt_lt, Int32.le_iff_toInt_le, Int32.reduceToInt, ← Int32.toInt_inj] at h_1100
          refine v_aload_n hC dX12_readWords_116 rfl ?_
          refine v_iconst hC dX12_readWords_117 (v := 1) (by decide) ?_
          refine v_vv hC (rest := []) m_1 e_1070 rfl mi_X12_errs ms_X12_errs (p_X12_errs hW_1064 k_0 (by decide)) mx_X12_errs ml_X12_162 (by decide) rfl (cells1 := 0) (slots1 := 0) (by decide) (by decide) (Nat.le_of_ble_eq_true rfl) (Nat.le_of_ble_eq_true rfl) rfl (Nat.le_of_ble_eq_true rfl) dX12_readWords_118 (fun L_1112 f_1113 h_1114 => ?_)
          obtain ⟨rfl, hW_1120, hF_1121, x_1115, x_1116, x_1117, x_1118, x_1119⟩ := h_1114
          have fe_1122 : fld (f_1063 a_0) 8 = (v_1076 : Int32).toInt := by rw [e_1070]; rfl
          have fe_1123 : fld (f_1063 a_0) 9 = (v_1078 : Int32).toInt := by rw [e_1070]; rfl
          have fe_1124 : fld (f_1063 a_0) 10 = (v_1080 : Int32).toInt := by rw [e_1070]; rfl
          have fe_1125 : fld (f_1063 a_0) 20 = (v_1087 : Int32).toInt := by rw [e_1070]; rfl
          obtain ⟨v_1127, v_1128, v_1130, v_1132, v_1134, v_1136, v_1138, v_1139, v_1140, v_1141, v_1143, e_1126, b_1129, b_1131, b_1133, b_1135, b_1137, b_1142, b_1144⟩ := hW_1120.at m_1 t_2
          have fe_1145 : fld (f_1113 a_0) 12 = (v_1139 : Int32).toInt := by rw [e_1126]; rfl
          rw [fe_1145] at x_1115
          rw [fe_1122] at x_1116
          have fe_1146 : fld (f_1113 a_0) 8 = (v_1132 : Int32).toInt := by rw [e_1126]; rfl
          rw [fe_1146] at x_1116
          rw [fe_1123] at x_1117
          have fe_1147 : fld (f_1113 a_0) 9 = (v_1134 : Int32).toInt := by rw [e_1126]; rfl
          rw [fe_1147] at x_1117
          rw [fe_1124] at x_1118
          have fe_1148 : fld (f_1113 a_0) 10 = (v_1136 : Int32).toInt := by rw [e_1126]; rfl
          rw [fe_1148] at x_1118
          rw [fe_1125] at x_1119
          have fe_1149 : fld (f_1113 a_0) 20 = (v_1143 : Int32).toInt := by rw [e_1126]; rfl
          rw [fe_1149] at x_1119
          refine v_aload_n hC dX12_readWords_121 rfl ?_
          refine v_vi hC (rest := []) m_1 e_1126 rfl mi_X12_good ms_X12_good (p_X12_good hW_1120 k_0) mx_X12_good ml_X12_139 (by decide) rfl (cells1 := 0) (slots1 := 0) (by decide) (by decide) (Nat.le_of_ble_eq_true rfl) (Nat.le_of_ble_eq_true rfl) rfl (Nat.le_of_ble_eq_true rfl) dX12_readWords_122 (fun r_1150 L_1151 f_1152 h_1153 => ?_)
          obtain ⟨rfl, rfl, b_1154, x_1155⟩ := h_1153
          have fe_1158 : fld (f_1113 a_0) 12 = (v_1139 : Int32).toInt := by rw [e_1126]; rfl
          rw [fe_1158] at x_1155
          try simp only [Int32.reduceToInt, Int64.reduceToInt] at x_1155
          refine v_if_eq hC dX12_readWords_125 (tgt := 135) (by decide) (fun h_1159 => ?_) (fun h_1159 => ?_)
          · simp only [Int32.lt_iff_toInt_lt, Int32.le_iff_toInt_le, Int32.reduceToInt, ← Int32.toInt_inj] at h_1159
            refine v_iconst hC dX12_readWords_135 (v := (-1)) (by decide) ?_
            exact hR _ _ _ _ _ _ _ dX12_readWords_136 rfl (Nat.le_of_ble_eq_true rfl) (Nat.le_of_ble_eq_true rfl) ⟨rfl, hW_1120, ((((hF_48.tr fr_76).tr hF_1065).tr hF_1121).mono rfl), (by decide)⟩
          · simp only [Int32.lt_iff_toInt_lt, Int32.le_iff_toInt_le, Int32.reduceToInt, ← Int32.toInt_inj] at h_1159
            refine v_aload_n hC dX12_readWords_128 rfl ?_
            refine v_get hC fl_X12_117 m_1 e_1126 rfl dX12_readWords_129 ?_
            refine v_goto hC dX12_readWords_132 (tgt := 136) (by decide) ?_
            exact hR _ _ _ _ _ _ _ dX12_readWords_136 rfl (Nat.le_of_ble_eq_true rfl) (Nat.le_of_ble_eq_true rfl) ⟨rfl, hW_1120, ((((hF_48.tr fr_76).tr hF_1065).tr hF_1121).mono rfl), (by first | omega | (simp only [Int32.lt_iff_toInt_lt, Int32.le_iff_toInt_le, Int32.reduceToInt, ← Int32.toInt_inj, true_and, and_true, or_true, true_or, false_or, or_false, false_and, and_false, not_true_eq_false, not_false_eq_true] <;> omega))⟩
      · simp only [Int32.lt_iff_toInt_lt, Int32.le_iff_toInt_le, Int32.reduceToInt, ← Int32.toInt_inj] at h_1099
        refine v_aload_n hC dX12_readWords_16 rfl ?_
        refine v_aload_n hC dX12_readWords_17 rfl ?_
        refine v_get hC fl_X12_117 m_1 e_1070 rfl dX12_readWords_18 ?_
        refine v_vi hC (rest := []) m_1 e_1070 rfl mi_X12_see ms_X12_see (p_X12_see hW_1064 k_0 (by first | omega | (simp only [Int32.lt_iff_toInt_lt, Int32.le_iff_toInt_le, Int32.reduceToInt, ← Int32.toInt_inj, true_and, and_true, or_true, true_or, false_or, or_false, false_and, and_false, not_true_eq_false, not_false_eq_true] <;> omega))) mx_X12_see ml_X12_114 (by decide) rfl (cells1 := 0) (slots1 := 0) (by decide) (by decide) (Nat.le_of_ble_eq_true rfl) (Nat.le_of_ble_eq_true rfl) rfl (Nat.le_of_ble_eq_true rfl) dX12_readWords_21 (fun r_1160 L_1161 f_1162 h_1163 => ?_)
        obtain ⟨rfl, rfl, rfl⟩ := h_1163
        have sb_1166 := sv_b (f_1063 a_0) (f_1063 (q 4)) v_1078
        have fe_1167 : fld (f_1063 a_0) 7 = (v_1074 : Int32).toInt := by rw [e_1070]; rfl
        rw [fe_1167] at sb_1166
        refine v_iconst hC dX12_readWords_24 (v := (-1)) (by decide) ?_
        refine v_icmp_eq hC dX12_readWords_25 (tgt := 109) (by decide) (fun h_1168 => ?_) (fun h_1168 => ?_)
        · simp only [Int32.lt_iff_toInt_lt, Int32.le_iff_toInt_le, Int32.reduceToInt, ← Int32.toInt_inj] at h_1168
          refine v_aload_n hC dX12_readWords_109 rfl ?_
          refine v_get hC fl_X12_117 m_1 e_1070 rfl dX12_readWords_110 ?_
          refine v_if_ne hC dX12_readWords_113 (tgt := 121) (by decide) (fun h_1169 => ?_) (fun h_1169 => ?_)
          · simp only [Int32.lt_iff_toInt_lt, Int32.le_iff_toInt_le, Int32.reduceToInt, ← Int32.toInt_inj] at h_1169
            refine v_aload_n hC dX12_readWords_121 rfl ?_
            refine v_vi hC (rest := []) m_1 e_1070 rfl mi_X12_good ms_X12_good (p_X12_good hW_1064 k_0) mx_X12_good ml_X12_139 (by decide) rfl (cells1 := 0) (slots1 := 0) (by decide) (by decide) (Nat.le_of_ble_eq_true rfl) (Nat.le_of_ble_eq_true rfl) rfl (Nat.le_of_ble_eq_true rfl) dX12_readWords_122 (fun r_1170 L_1171 f_1172 h_1173 => ?_)
            obtain ⟨rfl, rfl, b_1174, x_1175⟩ := h_1173
            have fe_1178 : fld (f_1063 a_0) 12 = (v_1083 : Int32).toInt := by rw [e_1070]; rfl
            rw [fe_1178] at x_1175
            try simp only [Int32.reduceToInt, Int64.reduceToInt] at x_1175
            refine v_if_eq hC dX12_readWords_125 (tgt := 135) (by decide) (fun h_1179 => ?_) (fun h_1179 => ?_)
            · simp only [Int32.lt_iff_toInt_lt, Int32.le_iff_toInt_le, Int32.reduceToInt, ← Int32.toInt_inj] at h_1179
              refine v_iconst hC dX12_readWords_135 (v := (-1)) (by decide) ?_
              exact hR _ _ _ _ _ _ _ dX12_readWords_136 rfl (Nat.le_of_ble_eq_true rfl) (Nat.le_of_ble_eq_true rfl) ⟨rfl, hW_1064, (((hF_48.tr fr_76).tr hF_1065).mono rfl), (by decide)⟩
            · simp only [Int32.lt_iff_toInt_lt, Int32.le_iff_toInt_le, Int32.reduceToInt, ← Int32.toInt_inj] at h_1179
              refine v_aload_n hC dX12_readWords_128 rfl ?_
              refine v_get hC fl_X12_117 m_1 e_1070 rfl dX12_readWords_129 ?_
              refine v_goto hC dX12_readWords_132 (tgt := 136) (by decide) ?_
              exact hR _ _ _ _ _ _ _ dX12_readWords_136 rfl (Nat.le_of_ble_eq_true rfl) (Nat.le_of_ble_eq_true rfl) ⟨rfl, hW_1064, (((hF_48.tr fr_76).tr hF_1065).mono rfl), (by first | omega | (simp only [Int32.lt_iff_toInt_lt, Int32.le_iff_toInt_le, Int32.reduceToInt, ← Int32.toInt_inj, true_and, and_true, or_true, true_or, false_or, or_false, false_and, and_false, not_true_eq_false, not_false_eq_true] <;> omega))⟩
          · simp only [Int32.lt_iff_toInt_lt, Int32.le_iff_toInt_le, Int32.reduceToInt, ← Int32.toInt_inj] at h_1169
            refine v_aload_n hC dX12_readWords_116 rfl ?_
            refine v_iconst hC dX12_readWords_117 (v := 1) (by decide) ?_
            refine v_vv hC (rest := []) m_1 e_1070 rfl mi_X12_errs ms_X12_errs (p_X12_errs hW_1064 k_0 (by decide)) mx_X12_errs ml_X12_162 (by decide) rfl (cells1 := 0) (slots1 := 0) (by decide) (by decide) (Nat.le_of_ble_eq_true rfl) (Nat.le_of_ble_eq_true rfl) rfl (Nat.le_of_ble_eq_true rfl) dX12_readWords_118 (fun L_1181 f_1182 h_1183 => ?_)
            obtain ⟨rfl, hW_1189, hF_1190, x_1184, x_1185, x_1186, x_1187, x_1188⟩ := h_1183
            have fe_1191 : fld (f_1063 a_0) 8 = (v_1076 : Int32).toInt := by rw [e_1070]; rfl
            have fe_1192 : fld (f_1063 a_0) 9 = (v_1078 : Int32).toInt := by rw [e_1070]; rfl
            have fe_1193 : fld (f_1063 a_0) 10 = (v_1080 : Int32).toInt := by rw [e_1070]; rfl
            have fe_1194 : fld (f_1063 a_0) 20 = (v_1087 : Int32).toInt := by rw [e_1070]; rfl
            obtain ⟨v_1196, v_1197, v_1199, v_1201, v_1203, v_1205, v_1207, v_1208, v_1209, v_1210, v_1212, e_1195, b_1198, b_1200, b_1202, b_1204, b_1206, b_1211, b_1213⟩ := hW_1189.at m_1 t_2
            have fe_1214 : fld (f_1182 a_0) 12 = (v_1208 : Int32).toInt := by rw [e_1195]; rfl
            rw [fe_1214] at x_1184
            rw [fe_1191] at x_1185
            have fe_1215 : fld (f_1182 a_0) 8 = (v_1201 : Int32).toInt := by rw [e_1195]; rfl
            rw [fe_1215] at x_1185
            rw [fe_1192] at x_1186
            have fe_1216 : fld (f_1182 a_0) 9 = (v_1203 : Int32).toInt := by rw [e_1195]; rfl
            rw [fe_1216] at x_1186
            rw [fe_1193] at x_1187
            have fe_1217 : fld (f_1182 a_0) 10 = (v_1205 : Int32).toInt := by rw [e_1195]; rfl
            rw [fe_1217] at x_1187
            rw [fe_1194] at x_1188
            have fe_1218 : fld (f_1182 a_0) 20 = (v_1212 : Int32).toInt := by rw [e_1195]; rfl
            rw [fe_1218] at x_1188
            refine v_aload_n hC dX12_readWords_121 rfl ?_
            refine v_vi hC (rest := []) m_1 e_1195 rfl mi_X12_good ms_X12_good (p_X12_good hW_1189 k_0) mx_X12_good ml_X12_139 (by decide) rfl (cells1 := 0) (slots1 := 0) (by decide) (by decide) (Nat.le_of_ble_eq_true rfl) (Nat.le_of_ble_eq_true rfl) rfl (Nat.le_of_ble_eq_true rfl) dX12_readWords_122 (fun r_1219 L_1220 f_1221 h_1222 => ?_)
            obtain ⟨rfl, rfl, b_1223, x_1224⟩ := h_1222
            have fe_1227 : fld (f_1182 a_0) 12 = (v_1208 : Int32).toInt := by rw [e_1195]; rfl
            rw [fe_1227] at x_1224
            try simp only [Int32.reduceToInt, Int64.reduceToInt] at x_1224
            refine v_if_eq hC dX12_readWords_125 (tgt := 135) (by decide) (fun h_1228 => ?_) (fun h_1228 => ?_)
            · simp only [Int32.lt_iff_toInt_lt, Int32.le_iff_toInt_le, Int32.reduceToInt, ← Int32.toInt_inj] at h_1228
              refine v_iconst hC dX12_readWords_135 (v := (-1)) (by decide) ?_
              exact hR _ _ _ _ _ _ _ dX12_readWords_136 rfl (Nat.le_of_ble_eq_true rfl) (Nat.le_of_ble_eq_true rfl) ⟨rfl, hW_1189, ((((hF_48.tr fr_76).tr hF_1065).tr hF_1190).mono rfl), (by decide)⟩
            · simp only [Int32.lt_iff_toInt_lt, Int32.le_iff_toInt_le, Int32.reduceToInt, ← Int32.toInt_inj] at h_1228
              refine v_aload_n hC dX12_readWords_128 rfl ?_
              refine v_get hC fl_X12_117 m_1 e_1195 rfl dX12_readWords_129 ?_
              refine v_goto hC dX12_readWords_132 (tgt := 136) (by decide) ?_
              exact hR _ _ _ _ _ _ _ dX12_readWords_136 rfl (Nat.le_of_ble_eq_true rfl) (Nat.le_of_ble_eq_true rfl) ⟨rfl, hW_1189, ((((hF_48.tr fr_76).tr hF_1065).tr hF_1190).mono rfl), (by first | omega | (simp only [Int32.lt_iff_toInt_lt, Int32.le_iff_toInt_le, Int32.reduceToInt, ← Int32.toInt_inj, true_and, and_true, or_true, true_or, false_or, or_false, false_and, and_false, not_true_eq_false, not_false_eq_true] <;> omega))⟩
        · simp only [Int32.lt_iff_toInt_lt, Int32.le_iff_toInt_le, Int32.reduceToInt, ← Int32.toInt_inj] at h_1168
          refine v_aload_n hC dX12_readWords_28 rfl ?_
          refine v_aload_n hC dX12_readWords_29 rfl ?_
          refine v_get hC fl_X12_117 m_1 e_1070 rfl dX12_readWords_30 ?_
          refine v_vi hC (rest := []) m_1 e_1070 rfl mi_X12_see ms_X12_see (p_X12_see hW_1064 k_0 (by first | omega | (simp only [Int32.lt_iff_toInt_lt, Int32.le_iff_toInt_le, Int32.reduceToInt, ← Int32.toInt_inj, true_and, and_true, or_true, true_or, false_or, or_false, false_and, and_false, not_true_eq_false, not_false_eq_true] <;> omega))) mx_X12_see ml_X12_114 (by decide) rfl (cells1 := 0) (slots1 := 0) (by decide) (by decide) (Nat.le_of_ble_eq_true rfl) (Nat.le_of_ble_eq_true rfl) rfl (Nat.le_of_ble_eq_true rfl) dX12_readWords_33 (fun r_1229 L_1230 f_1231 h_1232 => ?_)
          obtain ⟨rfl, rfl, rfl⟩ := h_1232
          have sb_1235 := sv_b (f_1063 a_0) (f_1063 (q 4)) v_1078
          have fe_1236 : fld (f_1063 a_0) 7 = (v_1074 : Int32).toInt := by rw [e_1070]; rfl
          rw [fe_1236] at sb_1235
          refine v_istore_n hC dX12_readWords_36 (by decide) (lv' := [(1, .int (sv (f_1063 a_0) (f_1063 (q 4)) v_1078)), (0, .ref a_0)]) rfl ?_
          refine v_iload_n hC dX12_readWords_37 rfl ?_
          refine v_bipush hC dX12_readWords_38 (v := 32) (by decide) ?_
          refine v_icmp_eq hC dX12_readWords_40 (tgt := 62) (by decide) (fun h_1237 => ?_) (fun h_1237 => ?_)
          · simp only [Int32.lt_iff_toInt_lt, Int32.le_iff_toInt_le, Int32.reduceToInt, ← Int32.toInt_inj] at h_1237
            refine v_aload_n hC dX12_readWords_62 rfl ?_
            refine v_vi hC (rest := []) m_1 e_1070 rfl mi_X12_good ms_X12_good (p_X12_good hW_1064 k_0) mx_X12_good ml_X12_139 (by decide) rfl (cells1 := 0) (slots1 := 0) (by decide) (by decide) (Nat.le_of_ble_eq_true rfl) (Nat.le_of_ble_eq_true rfl) rfl (Nat.le_of_ble_eq_true rfl) dX12_readWords_63 (fun r_1238 L_1239 f_1240 h_1241 => ?_)
            obtain ⟨rfl, rfl, b_1242, x_1243⟩ := h_1241
            have fe_1246 : fld (f_1063 a_0) 12 = (v_1083 : Int32).toInt := by rw [e_1070]; rfl
            rw [fe_1246] at x_1243
            try simp only [Int32.reduceToInt, Int64.reduceToInt] at x_1243
            refine v_if_ne hC dX12_readWords_66 (tgt := 71) (by decide) (fun h_1247 => ?_) (fun h_1247 => ?_)
            · simp only [Int32.lt_iff_toInt_lt, Int32.le_iff_toInt_le, Int32.reduceToInt, ← Int32.toInt_inj] at h_1247
              refine v_aload_n hC dX12_readWords_71 rfl ?_
              refine v_get hC fl_X12_43 m_1 e_1070 rfl dX12_readWords_72 ?_
              refine v_aload_n hC dX12_readWords_75 rfl ?_
              refine v_get hC fl_X12_117 m_1 e_1070 rfl dX12_readWords_76 ?_
              refine v_iload_n hC dX12_readWords_79 rfl ?_
              refine v_bipush hC dX12_readWords_80 (v := 32) (by decide) ?_
              refine v_icmp_ne_f hC dX12_readWords_82 (tgt := 89) (by decide) (by first | omega | (simp only [Int32.lt_iff_toInt_lt, Int32.le_iff_toInt_le, Int32.reduceToInt, ← Int32.toInt_inj, true_and, and_true, or_true, true_or, false_or, or_false, false_and, and_false, not_true_eq_false, not_false_eq_true] <;> omega)) ?_
              refine v_iconst hC dX12_readWords_85 (v := 0) (by decide) ?_
              refine v_goto hC dX12_readWords_86 (tgt := 95) (by decide) ?_
              obtain ⟨m_1248, t_1249⟩ := id k_11
              obtain ⟨g_1251, e_1250⟩ := hW_1064.at m_1248 t_1249
              refine v_iast hC m_1248 e_1250 (vp_in_iff.mpr (by first | omega | (simp only [Int32.lt_iff_toInt_lt, Int32.le_iff_toInt_le, Int32.reduceToInt, ← Int32.toInt_inj, true_and, and_true, or_true, true_or, false_or, or_false, false_and, and_false, not_true_eq_false, not_false_eq_true] <;> omega))) dX12_readWords_95 (fun f_1252 hf_1253 hk_1254 => ?_)
              have hW_1256 := hW_1064.up hf_1253 hk_1254 t_1249 ⟨_, rfl⟩
              obtain ⟨g_1255, hf_1253⟩ : ∃ g9, f_1252 (q 18) = aI E 600 g9 := ⟨_, hf_1253⟩
              have hf_1257 := (hk_1254 a_0 (ne_kd e_1070 e_1250 rfl)).trans e_1070
              have fr_1258 := FR.w hk_1254 e_1250 (k := 700) rfl
              refine v_aload_n hC dX12_readWords_96 rfl ?_
              refine v_dup hC dX12_readWords_97 rfl ?_
              refine v_get hC fl_X12_117 m_1 hf_1257 rfl dX12_readWords_98 ?_
              refine v_iconst hC dX12_readWords_101 (v := 1) (by decide) ?_
              obtain ⟨v_1259, h_1260⟩ : ∃ v9 : Int32, v_1078 + 1 = v9 := ⟨_, rfl⟩
              refine v_iadd hC dX12_readWords_102 h_1260 ?_
              have h_1261 := add_v h_1260 (by first | omega | (simp only [Int32.lt_iff_toInt_lt, Int32.le_iff_toInt_le, Int32.reduceToInt, ← Int32.toInt_inj, true_and, and_true, or_true, true_or, false_or, or_false, false_and, and_false, not_true_eq_false, not_false_eq_true] <;> omega)) (by first | omega | (simp only [Int32.lt_iff_toInt_lt, Int32.le_iff_toInt_le, Int32.reduceToInt, ← Int32.toInt_inj, true_and, and_true, or_true, true_or, false_or, or_false, false_and, and_false, not_true_eq_false, not_false_eq_true] <;> omega))
              try simp only [Int32.reduceToInt] at h_1261
              refine v_put hC fl_X12_117 m_1 hf_1257 rfl rfl (Nat.le_of_ble_eq_true rfl) (fs' := [.int v_1071, .ref (q 1), .ref (q 2), .ref (q 3), .ref (q 4), .int v_1072, .ref (q 6), .int v_1074, .int v_1076, .int v_1259, .int v_1080, .int v_1082, .int v_1083, .int v_1084, .ref (q 14), .ref (q 15), .ref (q 16), .int v_1085, .ref (q 18), .ref (q 19), .int v_1087, .ref (q 21), .ref (q 22), .ref (q 23), .ref (q 24), .ref (q 25), .ref (q 26), .ref (q 27), .ref (q 28)]) rfl dX12_readWords_103 (fun f_1262 hf_1263 hk_1264 => ?_)
              have hW_1265 := hW_1256.up hf_1263 hk_1264 t_2 ⟨v_1071, v_1072, v_1074, v_1076, v_1259, v_1080, v_1082, v_1083, v_1084, v_1085, v_1087, rfl, (by first | omega | (simp only [Int32.lt_iff_toInt_lt, Int32.le_iff_toInt_le, Int32.reduceToInt, ← Int32.toInt_inj, true_and, and_true, or_true, true_or, false_or, or_false, false_and, and_false, not_true_eq_false, not_false_eq_true] <;> omega)), (by first | omega | (simp only [Int32.lt_iff_toInt_lt, Int32.le_iff_toInt_le, Int32.reduceToInt, ← Int32.toInt_inj, true_and, and_true, or_true, true_or, false_or, or_false, false_and, and_false, not_true_eq_false, not_false_eq_true] <;> omega)), (by first | omega | (simp only [Int32.lt_iff_toInt_lt, Int32.le_iff_toInt_le, Int32.reduceToInt, ← Int32.toInt_inj, true_and, and_true, or_true, true_or, false_or, or_false, false_and, and_false, not_true_eq_false, not_false_eq_true] <;> omega)), (by first | omega | (simp only [Int32.lt_iff_toInt_lt, Int32.le_iff_toInt_le, Int32.reduceToInt, ← Int32.toInt_inj, true_and, and_true, or_true, true_or, false_or, or_false, false_and, and_false, not_true_eq_false, not_false_eq_true] <;> omega)), (by first | omega | (simp only [Int32.lt_iff_toInt_lt, Int32.le_iff_toInt_le, Int32.reduceToInt, ← Int32.toInt_inj, true_and, and_true, or_true, true_or, false_or, or_false, false_and, and_false, not_true_eq_false, not_false_eq_true] <;> omega)), (by first | omega | (simp only [Int32.lt_iff_toInt_lt, Int32.le_iff_toInt_le, Int32.reduceToInt, ← Int32.toInt_inj, true_and, and_true, or_true, true_or, false_or, or_false, false_and, and_false, not_true_eq_false, not_false_eq_true] <;> omega)), (by first | omega | (simp only [Int32.lt_iff_toInt_lt, Int32.le_iff_toInt_le, Int32.reduceToInt, ← Int32.toInt_inj, true_and, and_true, or_true, true_or, false_or, or_false, false_and, and_false, not_true_eq_false, not_false_eq_true] <;> omega))⟩
              have hf_1266 := (hk_1264 (q 18) (ne_kd hf_1253 hf_1257 rfl)).trans hf_1253
              have fr_1267 := FR.w hk_1264 hf_1257 (k := 12) rfl
              refine v_goto hC dX12_readWords_106 (tgt := 9) (by decide) ?_
              refine v_pick [1] rfl ?_
              have h_1268 : fld (f_1262 a_0) 9 = (v_1259 : Int32).toInt := by rw [hf_1263]; rfl
              exact ih_1068 f_1262 hW_1265 (((hF_1065.tr fr_1258).tr fr_1267).mono rfl) (by rw [h_1268]; omega)
            · simp only [Int32.lt_iff_toInt_lt, Int32.le_iff_toInt_le, Int32.reduceToInt, ← Int32.toInt_inj] at h_1247
              refine v_iconst hC dX12_readWords_69 (v := (-1)) (by decide) ?_
              exact hR _ _ _ _ _ _ _ dX12_readWords_70 rfl (Nat.le_of_ble_eq_true rfl) (Nat.le_of_ble_eq_true rfl) ⟨rfl, hW_1064, (((hF_48.tr fr_76).tr hF_1065).mono rfl), (by decide)⟩
          · simp only [Int32.lt_iff_toInt_lt, Int32.le_iff_toInt_le, Int32.reduceToInt, ← Int32.toInt_inj] at h_1237
            refine v_iload_n hC dX12_readWords_43 rfl ?_
            obtain ⟨v_1269, h_1270⟩ : ∃ v9 : Int64, (sv (f_1063 a_0) (f_1063 (q 4)) v_1078).toInt64 = v9 := ⟨_, rfl⟩
            refine v_i2l hC dX12_readWords_44 h_1270 ?_
            have h_1271 : v_1269.toInt = (sv (f_1063 a_0) (f_1063 (q 4)) v_1078).toInt := by rw [← h_1270]; exact Int32.toInt_toInt64 _
            refine v_ldc2 hC kl_X12_123 dX12_readWords_45 ?_
            refine v_ldc2 hC kl_X12_125 dX12_readWords_48 ?_
            refine v_si hC (rest := []) mt_X12_in (p_X12_in hW_1064) mx_X12_in ml_X12_79 (by decide) rfl (cells1 := 0) (slots1 := 0) (by decide) (by decide) (Nat.le_of_ble_eq_true rfl) (Nat.le_of_ble_eq_true rfl) rfl (Nat.le_of_ble_eq_true rfl) dX12_readWords_51 (fun r_1272 L_1273 f_1274 h_1275 => ?_)
            obtain ⟨rfl, rfl, b_1276, x_1277⟩ := h_1275
            try simp only [Int32.reduceToInt, Int64.reduceToInt] at x_1277
            refine v_if_ne hC dX12_readWords_54 (tgt := 62) (by decide) (fun h_1280 => ?_) (fun h_1280 => ?_)
            · simp only [Int32.lt_iff_toInt_lt, Int32.le_iff_toInt_le, Int32.reduceToInt, ← Int32.toInt_inj] at h_1280
              refine v_aload_n hC dX12_readWords_62 rfl ?_
              refine v_vi hC (rest := []) m_1 e_1070 rfl mi_X12_good ms_X12_good (p_X12_good hW_1064 k_0) mx_X12_good ml_X12_139 (by decide) rfl (cells1 := 0) (slots1 := 0) (by decide) (by decide) (Nat.le_of_ble_eq_true rfl) (Nat.le_of_ble_eq_true rfl) rfl (Nat.le_of_ble_eq_true rfl) dX12_readWords_63 (fun r_1281 L_1282 f_1283 h_1284 => ?_)
              obtain ⟨rfl, rfl, b_1285, x_1286⟩ := h_1284
              have fe_1289 : fld (f_1063 a_0) 12 = (v_1083 : Int32).toInt := by rw [e_1070]; rfl
              rw [fe_1289] at x_1286
              try simp only [Int32.reduceToInt, Int64.reduceToInt] at x_1286
              refine v_if_ne hC dX12_readWords_66 (tgt := 71) (by decide) (fun h_1290 => ?_) (fun h_1290 => ?_)
              · simp only [Int32.lt_iff_toInt_lt, Int32.le_iff_toInt_le, Int32.reduceToInt, ← Int32.toInt_inj] at h_1290
                refine v_aload_n hC dX12_readWords_71 rfl ?_
                refine v_get hC fl_X12_43 m_1 e_1070 rfl dX12_readWords_72 ?_
                refine v_aload_n hC dX12_readWords_75 rfl ?_
                refine v_get hC fl_X12_117 m_1 e_1070 rfl dX12_readWords_76 ?_
                refine v_iload_n hC dX12_readWords_79 rfl ?_
                refine v_bipush hC dX12_readWords_80 (v := 32) (by decide) ?_
                refine v_icmp_ne_t hC dX12_readWords_82 (tgt := 89) (by decide) (by first | omega | (simp only [Int32.lt_iff_toInt_lt, Int32.le_iff_toInt_le, Int32.reduceToInt, ← Int32.toInt_inj, true_and, and_true, or_true, true_or, false_or, or_false, false_and, and_false, not_true_eq_false, not_false_eq_true] <;> omega)) ?_
                refine v_iload_n hC dX12_readWords_89 rfl ?_
                refine v_bipush hC dX12_readWords_90 (v := 97) (by decide) ?_
                obtain ⟨v_1291, h_1292⟩ : ∃ v9 : Int32, (sv (f_1063 a_0) (f_1063 (q 4)) v_1078) - 97 = v9 := ⟨_, rfl⟩
                refine v_isub hC dX12_readWords_92 h_1292 ?_
                have h_1293 := sub_v h_1292 (by first | omega | (simp only [Int32.lt_iff_toInt_lt, Int32.le_iff_toInt_le, Int32.reduceToInt, ← Int32.toInt_inj, true_and, and_true, or_true, true_or, false_or, or_false, false_and, and_false, not_true_eq_false, not_false_eq_true] <;> omega)) (by first | omega | (simp only [Int32.lt_iff_toInt_lt, Int32.le_iff_toInt_le, Int32.reduceToInt, ← Int32.toInt_inj, true_and, and_true, or_true, true_or, false_or, or_false, false_and, and_false, not_true_eq_false, not_false_eq_true] <;> omega))
                try simp only [Int32.reduceToInt] at h_1293
                refine v_iconst hC dX12_readWords_93 (v := 1) (by decide) ?_
                obtain ⟨v_1294, h_1295⟩ : ∃ v9 : Int32, v_1291 + 1 = v9 := ⟨_, rfl⟩
                refine v_iadd hC dX12_readWords_94 h_1295 ?_
                have h_1296 := add_v h_1295 (by first | omega | (simp only [Int32.lt_iff_toInt_lt, Int32.le_iff_toInt_le, Int32.reduceToInt, ← Int32.toInt_inj, true_and, and_true, or_true, true_or, false_or, or_false, false_and, and_false, not_true_eq_false, not_false_eq_true] <;> omega)) (by first | omega | (simp only [Int32.lt_iff_toInt_lt, Int32.le_iff_toInt_le, Int32.reduceToInt, ← Int32.toInt_inj, true_and, and_true, or_true, true_or, false_or, or_false, false_and, and_false, not_true_eq_false, not_false_eq_true] <;> omega))
                try simp only [Int32.reduceToInt] at h_1296
                obtain ⟨m_1297, t_1298⟩ := id k_11
                obtain ⟨g_1300, e_1299⟩ := hW_1064.at m_1297 t_1298
                refine v_iast hC m_1297 e_1299 (vp_in_iff.mpr (by first | omega | (simp only [Int32.lt_iff_toInt_lt, Int32.le_iff_toInt_le, Int32.reduceToInt, ← Int32.toInt_inj, true_and, and_true, or_true, true_or, false_or, or_false, false_and, and_false, not_true_eq_false, not_false_eq_true] <;> omega))) dX12_readWords_95 (fun f_1301 hf_1302 hk_1303 => ?_)
                have hW_1305 := hW_1064.up hf_1302 hk_1303 t_1298 ⟨_, rfl⟩
                obtain ⟨g_1304, hf_1302⟩ : ∃ g9, f_1301 (q 18) = aI E 600 g9 := ⟨_, hf_1302⟩
                have hf_1306 := (hk_1303 a_0 (ne_kd e_1070 e_1299 rfl)).trans e_1070
                have fr_1307 := FR.w hk_1303 e_1299 (k := 700) rfl
                refine v_aload_n hC dX12_readWords_96 rfl ?_
                refine v_dup hC dX12_readWords_97 rfl ?_
                refine v_get hC fl_X12_117 m_1 hf_1306 rfl dX12_readWords_98 ?_
                refine v_iconst hC dX12_readWords_101 (v := 1) (by decide) ?_
                obtain ⟨v_1308, h_1309⟩ : ∃ v9 : Int32, v_1078 + 1 = v9 := ⟨_, rfl⟩
                refine v_iadd hC dX12_readWords_102 h_1309 ?_
                have h_1310 := add_v h_1309 (by first | omega | (simp only [Int32.lt_iff_toInt_lt, Int32.le_iff_toInt_le, Int32.reduceToInt, ← Int32.toInt_inj, true_and, and_true, or_true, true_or, false_or, or_false, false_and, and_false, not_true_eq_false, not_false_eq_true] <;> omega)) (by first | omega | (simp only [Int32.lt_iff_toInt_lt, Int32.le_iff_toInt_le, Int32.reduceToInt, ← Int32.toInt_inj, true_and, and_true, or_true, true_or, false_or, or_false, false_and, and_false, not_true_eq_false, not_false_eq_true] <;> omega))
                try simp only [Int32.reduceToInt] at h_1310
                refine v_put hC fl_X12_117 m_1 hf_1306 rfl rfl (Nat.le_of_ble_eq_true rfl) (fs' := [.int v_1071, .ref (q 1), .ref (q 2), .ref (q 3), .ref (q 4), .int v_1072, .ref (q 6), .int v_1074, .int v_1076, .int v_1308, .int v_1080, .int v_1082, .int v_1083, .int v_1084, .ref (q 14), .ref (q 15), .ref (q 16), .int v_1085, .ref (q 18), .ref (q 19), .int v_1087, .ref (q 21), .ref (q 22), .ref (q 23), .ref (q 24), .ref (q 25), .ref (q 26), .ref (q 27), .ref (q 28)]) rfl dX12_readWords_103 (fun f_1311 hf_1312 hk_1313 => ?_)
                have hW_1314 := hW_1305.up hf_1312 hk_1313 t_2 ⟨v_1071, v_1072, v_1074, v_1076, v_1308, v_1080, v_1082, v_1083, v_1084, v_1085, v_1087, rfl, (by first | omega | (simp only [Int32.lt_iff_toInt_lt, Int32.le_iff_toInt_le, Int32.reduceToInt, ← Int32.toInt_inj, true_and, and_true, or_true, true_or, false_or, or_false, false_and, and_false, not_true_eq_false, not_false_eq_true] <;> omega)), (by first | omega | (simp only [Int32.lt_iff_toInt_lt, Int32.le_iff_toInt_le, Int32.reduceToInt, ← Int32.toInt_inj, true_and, and_true, or_true, true_or, false_or, or_false, false_and, and_false, not_true_eq_false, not_false_eq_true] <;> omega)), (by first | omega | (simp only [Int32.lt_iff_toInt_lt, Int32.le_iff_toInt_le, Int32.reduceToInt, ← Int32.toInt_inj, true_and, and_true, or_true, true_or, false_or, or_false, false_and, and_false, not_true_eq_false, not_false_eq_true] <;> omega)), (by first | omega | (simp only [Int32.lt_iff_toInt_lt, Int32.le_iff_toInt_le, Int32.reduceToInt, ← Int32.toInt_inj, true_and, and_true, or_true, true_or, false_or, or_false, false_and, and_false, not_true_eq_false, not_false_eq_true] <;> omega)), (by first | omega | (simp only [Int32.lt_iff_toInt_lt, Int32.le_iff_toInt_le, Int32.reduceToInt, ← Int32.toInt_inj, true_and, and_true, or_true, true_or, false_or, or_false, false_and, and_false, not_true_eq_false, not_false_eq_true] <;> omega)), (by first | omega | (simp only [Int32.lt_iff_toInt_lt, Int32.le_iff_toInt_le, Int32.reduceToInt, ← Int32.toInt_inj, true_and, and_true, or_true, true_or, false_or, or_false, false_and, and_false, not_true_eq_false, not_false_eq_true] <;> omega)), (by first | omega | (simp only [Int32.lt_iff_toInt_lt, Int32.le_iff_toInt_le, Int32.reduceToInt, ← Int32.toInt_inj, true_and, and_true, or_true, true_or, false_or, or_false, false_and, and_false, not_true_eq_false, not_false_eq_true] <;> omega))⟩
                have hf_1315 := (hk_1313 (q 18) (ne_kd hf_1302 hf_1306 rfl)).trans hf_1302
                have fr_1316 := FR.w hk_1313 hf_1306 (k := 12) rfl
                refine v_goto hC dX12_readWords_106 (tgt := 9) (by decide) ?_
                refine v_pick [1] rfl ?_
                have h_1317 : fld (f_1311 a_0) 9 = (v_1308 : Int32).toInt := by rw [hf_1312]; rfl
                exact ih_1068 f_1311 hW_1314 (((hF_1065.tr fr_1307).tr fr_1316).mono rfl) (by rw [h_1317]; omega)
              · simp only [Int32.lt_iff_toInt_lt, Int32.le_iff_toInt_le, Int32.reduceToInt, ← Int32.toInt_inj] at h_1290
                refine v_iconst hC dX12_readWords_69 (v := (-1)) (by decide) ?_
                exact hR _ _ _ _ _ _ _ dX12_readWords_70 rfl (Nat.le_of_ble_eq_true rfl) (Nat.le_of_ble_eq_true rfl) ⟨rfl, hW_1064, (((hF_48.tr fr_76).tr hF_1065).mono rfl), (by decide)⟩
            · simp only [Int32.lt_iff_toInt_lt, Int32.le_iff_toInt_le, Int32.reduceToInt, ← Int32.toInt_inj] at h_1280
              refine v_aload_n hC dX12_readWords_57 rfl ?_
              refine v_iconst hC dX12_readWords_58 (v := 1) (by decide) ?_
              refine v_vv hC (rest := []) m_1 e_1070 rfl mi_X12_errs ms_X12_errs (p_X12_errs hW_1064 k_0 (by decide)) mx_X12_errs ml_X12_162 (by decide) rfl (cells1 := 0) (slots1 := 0) (by decide) (by decide) (Nat.le_of_ble_eq_true rfl) (Nat.le_of_ble_eq_true rfl) rfl (Nat.le_of_ble_eq_true rfl) dX12_readWords_59 (fun L_1319 f_1320 h_1321 => ?_)
              obtain ⟨rfl, hW_1327, hF_1328, x_1322, x_1323, x_1324, x_1325, x_1326⟩ := h_1321
              have fe_1329 : fld (f_1063 a_0) 8 = (v_1076 : Int32).toInt := by rw [e_1070]; rfl
              have fe_1330 : fld (f_1063 a_0) 9 = (v_1078 : Int32).toInt := by rw [e_1070]; rfl
              have fe_1331 : fld (f_1063 a_0) 10 = (v_1080 : Int32).toInt := by rw [e_1070]; rfl
              have fe_1332 : fld (f_1063 a_0) 20 = (v_1087 : Int32).toInt := by rw [e_1070]; rfl
              obtain ⟨v_1334, v_1335, v_1337, v_1339, v_1341, v_1343, v_1345, v_1346, v_1347, v_1348, v_1350, e_1333, b_1336, b_1338, b_1340, b_1342, b_1344, b_1349, b_1351⟩ := hW_1327.at m_1 t_2
              have fe_1352 : fld (f_1320 a_0) 12 = (v_1346 : Int32).toInt := by rw [e_1333]; rfl
              rw [fe_1352] at x_1322
              rw [fe_1329] at x_1323
              have fe_1353 : fld (f_1320 a_0) 8 = (v_1339 : Int32).toInt := by rw [e_1333]; rfl
              rw [fe_1353] at x_1323
              rw [fe_1330] at x_1324
              have fe_1354 : fld (f_1320 a_0) 9 = (v_1341 : Int32).toInt := by rw [e_1333]; rfl
              rw [fe_1354] at x_1324
              rw [fe_1331] at x_1325
              have fe_1355 : fld (f_1320 a_0) 10 = (v_1343 : Int32).toInt := by rw [e_1333]; rfl
              rw [fe_1355] at x_1325
              rw [fe_1332] at x_1326
              have fe_1356 : fld (f_1320 a_0) 20 = (v_1350 : Int32).toInt := by rw [e_1333]; rfl
              rw [fe_1356] at x_1326
              refine v_aload_n hC dX12_readWords_62 rfl ?_
              refine v_vi hC (rest := []) m_1 e_1333 rfl mi_X12_good ms_X12_good (p_X12_good hW_1327 k_0) mx_X12_good ml_X12_139 (by decide) rfl (cells1 := 0) (slots1 := 0) (by decide) (by decide) (Nat.le_of_ble_eq_true rfl) (Nat.le_of_ble_eq_true rfl) rfl (Nat.le_of_ble_eq_true rfl) dX12_readWords_63 (fun r_1357 L_1358 f_1359 h_1360 => ?_)
              obtain ⟨rfl, rfl, b_1361, x_1362⟩ := h_1360
              have fe_1365 : fld (f_1320 a_0) 12 = (v_1346 : Int32).toInt := by rw [e_1333]; rfl
              rw [fe_1365] at x_1362
              try simp only [Int32.reduceToInt, Int64.reduceToInt] at x_1362
              refine v_if_ne hC dX12_readWords_66 (tgt := 71) (by decide) (fun h_1366 => ?_) (fun h_1366 => ?_)
              · simp only [Int32.lt_iff_toInt_lt, Int32.le_iff_toInt_le, Int32.reduceToInt, ← Int32.toInt_inj] at h_1366
                refine v_aload_n hC dX12_readWords_71 rfl ?_
                refine v_get hC fl_X12_43 m_1 e_1333 rfl dX12_readWords_72 ?_
                refine v_aload_n hC dX12_readWords_75 rfl ?_
                refine v_get hC fl_X12_117 m_1 e_1333 rfl dX12_readWords_76 ?_
                refine v_iload_n hC dX12_readWords_79 rfl ?_
                refine v_bipush hC dX12_readWords_80 (v := 32) (by decide) ?_
                refine v_icmp_ne hC dX12_readWords_82 (tgt := 89) (by decide) (fun h_1367 => ?_) (fun h_1367 => ?_)
                · simp only [Int32.lt_iff_toInt_lt, Int32.le_iff_toInt_le, Int32.reduceToInt, ← Int32.toInt_inj] at h_1367
                  refine v_iload_n hC dX12_readWords_89 rfl ?_
                  refine v_bipush hC dX12_readWords_90 (v := 97) (by decide) ?_
                  obtain ⟨v_1368, h_1369⟩ : ∃ v9 : Int32, (sv (f_1063 a_0) (f_1063 (q 4)) v_1078) - 97 = v9 := ⟨_, rfl⟩
                  refine v_isub hC dX12_readWords_92 h_1369 ?_
                  have h_1370 := sub_v h_1369 (by first | omega | (simp only [Int32.lt_iff_toInt_lt, Int32.le_iff_toInt_le, Int32.reduceToInt, ← Int32.toInt_inj, true_and, and_true, or_true, true_or, false_or, or_false, false_and, and_false, not_true_eq_false, not_false_eq_true] <;> omega)) (by first | omega | (simp only [Int32.lt_iff_toInt_lt, Int32.le_iff_toInt_le, Int32.reduceToInt, ← Int32.toInt_inj, true_and, and_true, or_true, true_or, false_or, or_false, false_and, and_false, not_true_eq_false, not_false_eq_true] <;> omega))
                  try simp only [Int32.reduceToInt] at h_1370
                  refine v_iconst hC dX12_readWords_93 (v := 1) (by decide) ?_
                  obtain ⟨v_1371, h_1372⟩ : ∃ v9 : Int32, v_1368 + 1 = v9 := ⟨_, rfl⟩
                  refine v_iadd hC dX12_readWords_94 h_1372 ?_
                  have h_1373 := add_v h_1372 (by first | omega | (simp only [Int32.lt_iff_toInt_lt, Int32.le_iff_toInt_le, Int32.reduceToInt, ← Int32.toInt_inj, true_and, and_true, or_true, true_or, false_or, or_false, false_and, and_false, not_true_eq_false, not_false_eq_true] <;> omega)) (by first | omega | (simp only [Int32.lt_iff_toInt_lt, Int32.le_iff_toInt_le, Int32.reduceToInt, ← Int32.toInt_inj, true_and, and_true, or_true, true_or, false_or, or_false, false_and, and_false, not_true_eq_false, not_false_eq_true] <;> omega))
                  try simp only [Int32.reduceToInt] at h_1373
                  obtain ⟨m_1374, t_1375⟩ := id k_11
                  obtain ⟨g_1377, e_1376⟩ := hW_1327.at m_1374 t_1375
                  refine v_iast hC m_1374 e_1376 (vp_in_iff.mpr (by first | omega | (simp only [Int32.lt_iff_toInt_lt, Int32.le_iff_toInt_le, Int32.reduceToInt, ← Int32.toInt_inj, true_and, and_true, or_true, true_or, false_or, or_false, false_and, and_false, not_true_eq_false, not_false_eq_true] <;> omega))) dX12_readWords_95 (fun f_1378 hf_1379 hk_1380 => ?_)
                  have hW_1382 := hW_1327.up hf_1379 hk_1380 t_1375 ⟨_, rfl⟩
                  obtain ⟨g_1381, hf_1379⟩ : ∃ g9, f_1378 (q 18) = aI E 600 g9 := ⟨_, hf_1379⟩
                  have hf_1383 := (hk_1380 a_0 (ne_kd e_1333 e_1376 rfl)).trans e_1333
                  have fr_1384 := FR.w hk_1380 e_1376 (k := 700) rfl
                  refine v_aload_n hC dX12_readWords_96 rfl ?_
                  refine v_dup hC dX12_readWords_97 rfl ?_
                  refine v_get hC fl_X12_117 m_1 hf_1383 rfl dX12_readWords_98 ?_
                  refine v_iconst hC dX12_readWords_101 (v := 1) (by decide) ?_
                  obtain ⟨v_1385, h_1386⟩ : ∃ v9 : Int32, v_1341 + 1 = v9 := ⟨_, rfl⟩
                  refine v_iadd hC dX12_readWords_102 h_1386 ?_
                  have h_1387 := add_v h_1386 (by first | omega | (simp only [Int32.lt_iff_toInt_lt, Int32.le_iff_toInt_le, Int32.reduceToInt, ← Int32.toInt_inj, true_and, and_true, or_true, true_or, false_or, or_false, false_and, and_false, not_true_eq_false, not_false_eq_true] <;> omega)) (by first | omega | (simp only [Int32.lt_iff_toInt_lt, Int32.le_iff_toInt_le, Int32.reduceToInt, ← Int32.toInt_inj, true_and, and_true, or_true, true_or, false_or, or_false, false_and, and_false, not_true_eq_false, not_false_eq_true] <;> omega))
                  try simp only [Int32.reduceToInt] at h_1387
                  refine v_put hC fl_X12_117 m_1 hf_1383 rfl rfl (Nat.le_of_ble_eq_true rfl) (fs' := [.int v_1334, .ref (q 1), .ref (q 2), .ref (q 3), .ref (q 4), .int v_1335, .ref (q 6), .int v_1337, .int v_1339, .int v_1385, .int v_1343, .int v_1345, .int v_1346, .int v_1347, .ref (q 14), .ref (q 15), .ref (q 16), .int v_1348, .ref (q 18), .ref (q 19), .int v_1350, .ref (q 21), .ref (q 22), .ref (q 23), .ref (q 24), .ref (q 25), .ref (q 26), .ref (q 27), .ref (q 28)]) rfl dX12_readWords_103 (fun f_1388 hf_1389 hk_1390 => ?_)
                  have hW_1391 := hW_1382.up hf_1389 hk_1390 t_2 ⟨v_1334, v_1335, v_1337, v_1339, v_1385, v_1343, v_1345, v_1346, v_1347, v_1348, v_1350, rfl, (by first | omega | (simp only [Int32.lt_iff_toInt_lt, Int32.le_iff_toInt_le, Int32.reduceToInt, ← Int32.toInt_inj, true_and, and_true, or_true, true_or, false_or, or_false, false_and, and_false, not_true_eq_false, not_false_eq_true] <;> omega)), (by first | omega | (simp only [Int32.lt_iff_toInt_lt, Int32.le_iff_toInt_le, Int32.reduceToInt, ← Int32.toInt_inj, true_and, and_true, or_true, true_or, false_or, or_false, false_and, and_false, not_true_eq_false, not_false_eq_true] <;> omega)), (by first | omega | (simp only [Int32.lt_iff_toInt_lt, Int32.le_iff_toInt_le, Int32.reduceToInt, ← Int32.toInt_inj, true_and, and_true, or_true, true_or, false_or, or_false, false_and, and_false, not_true_eq_false, not_false_eq_true] <;> omega)), (by first | omega | (simp only [Int32.lt_iff_toInt_lt, Int32.le_iff_toInt_le, Int32.reduceToInt, ← Int32.toInt_inj, true_and, and_true, or_true, true_or, false_or, or_false, false_and, and_false, not_true_eq_false, not_false_eq_true] <;> omega)), (by first | omega | (simp only [Int32.lt_iff_toInt_lt, Int32.le_iff_toInt_le, Int32.reduceToInt, ← Int32.toInt_inj, true_and, and_true, or_true, true_or, false_or, or_false, false_and, and_false, not_true_eq_false, not_false_eq_true] <;> omega)), (by first | omega | (simp only [Int32.lt_iff_toInt_lt, Int32.le_iff_toInt_le, Int32.reduceToInt, ← Int32.toInt_inj, true_and, and_true, or_true, true_or, false_or, or_false, false_and, and_false, not_true_eq_false, not_false_eq_true] <;> omega)), (by first | omega | (simp only [Int32.lt_iff_toInt_lt, Int32.le_iff_toInt_le, Int32.reduceToInt, ← Int32.toInt_inj, true_and, and_true, or_true, true_or, false_or, or_false, false_and, and_false, not_true_eq_false, not_false_eq_true] <;> omega))⟩
                  have hf_1392 := (hk_1390 (q 18) (ne_kd hf_1379 hf_1383 rfl)).trans hf_1379
                  have fr_1393 := FR.w hk_1390 hf_1383 (k := 12) rfl
                  refine v_goto hC dX12_readWords_106 (tgt := 9) (by decide) ?_
                  refine v_pick [1] rfl ?_
                  have h_1394 : fld (f_1388 a_0) 9 = (v_1385 : Int32).toInt := by rw [hf_1389]; rfl
                  exact ih_1068 f_1388 hW_1391 ((((hF_1065.tr hF_1328).tr fr_1384).tr fr_1393).mono rfl) (by rw [h_1394]; omega)
                · simp only [Int32.lt_iff_toInt_lt, Int32.le_iff_toInt_le, Int32.reduceToInt, ← Int32.toInt_inj] at h_1367
                  refine v_iconst hC dX12_readWords_85 (v := 0) (by decide) ?_
                  refine v_goto hC dX12_readWords_86 (tgt := 95) (by decide) ?_
                  obtain ⟨m_1395, t_1396⟩ := id k_11
                  obtain ⟨g_1398, e_1397⟩ := hW_1327.at m_1395 t_1396
                  refine v_iast hC m_1395 e_1397 (vp_in_iff.mpr (by first | omega | (simp only [Int32.lt_iff_toInt_lt, Int32.le_iff_toInt_le, Int32.reduceToInt, ← Int32.toInt_inj, true_and, and_true, or_true, true_or, false_or, or_false, false_and, and_false, not_true_eq_false, not_false_eq_true] <;> omega))) dX12_readWords_95 (fun f_1399 hf_1400 hk_1401 => ?_)
                  have hW_1403 := hW_1327.up hf_1400 hk_1401 t_1396 ⟨_, rfl⟩
                  obtain ⟨g_1402, hf_1400⟩ : ∃ g9, f_1399 (q 18) = aI E 600 g9 := ⟨_, hf_1400⟩
                  have hf_1404 := (hk_1401 a_0 (ne_kd e_1333 e_1397 rfl)).trans e_1333
                  have fr_1405 := FR.w hk_1401 e_1397 (k := 700) rfl
                  refine v_aload_n hC dX12_readWords_96 rfl ?_
                  refine v_dup hC dX12_readWords_97 rfl ?_
                  refine v_get hC fl_X12_117 m_1 hf_1404 rfl dX12_readWords_98 ?_
                  refine v_iconst hC dX12_readWords_101 (v := 1) (by decide) ?_
                  obtain ⟨v_1406, h_1407⟩ : ∃ v9 : Int32, v_1341 + 1 = v9 := ⟨_, rfl⟩
                  refine v_iadd hC dX12_readWords_102 h_1407 ?_
                  have h_1408 := add_v h_1407 (by first | omega | (simp only [Int32.lt_iff_toInt_lt, Int32.le_iff_toInt_le, Int32.reduceToInt, ← Int32.toInt_inj, true_and, and_true, or_true, true_or, false_or, or_false, false_and, and_false, not_true_eq_false, not_false_eq_true] <;> omega)) (by first | omega | (simp only [Int32.lt_iff_toInt_lt, Int32.le_iff_toInt_le, Int32.reduceToInt, ← Int32.toInt_inj, true_and, and_true, or_true, true_or, false_or, or_false, false_and, and_false, not_true_eq_false, not_false_eq_true] <;> omega))
                  try simp only [Int32.reduceToInt] at h_1408
                  refine v_put hC fl_X12_117 m_1 hf_1404 rfl rfl (Nat.le_of_ble_eq_true rfl) (fs' := [.int v_1334, .ref (q 1), .ref (q 2), .ref (q 3), .ref (q 4), .int v_1335, .ref (q 6), .int v_1337, .int v_1339, .int v_1406, .int v_1343, .int v_1345, .int v_1346, .int v_1347, .ref (q 14), .ref (q 15), .ref (q 16), .int v_1348, .ref (q 18), .ref (q 19), .int v_1350, .ref (q 21), .ref (q 22), .ref (q 23), .ref (q 24), .ref (q 25), .ref (q 26), .ref (q 27), .ref (q 28)]) rfl dX12_readWords_103 (fun f_1409 hf_1410 hk_1411 => ?_)
                  have hW_1412 := hW_1403.up hf_1410 hk_1411 t_2 ⟨v_1334, v_1335, v_1337, v_1339, v_1406, v_1343, v_1345, v_1346, v_1347, v_1348, v_1350, rfl, (by first | omega | (simp only [Int32.lt_iff_toInt_lt, Int32.le_iff_toInt_le, Int32.reduceToInt, ← Int32.toInt_inj, true_and, and_true, or_true, true_or, false_or, or_false, false_and, and_false, not_true_eq_false, not_false_eq_true] <;> omega)), (by first | omega | (simp only [Int32.lt_iff_toInt_lt, Int32.le_iff_toInt_le, Int32.reduceToInt, ← Int32.toInt_inj, true_and, and_true, or_true, true_or, false_or, or_false, false_and, and_false, not_true_eq_false, not_false_eq_true] <;> omega)), (by first | omega | (simp only [Int32.lt_iff_toInt_lt, Int32.le_iff_toInt_le, Int32.reduceToInt, ← Int32.toInt_inj, true_and, and_true, or_true, true_or, false_or, or_false, false_and, and_false, not_true_eq_false, not_false_eq_true] <;> omega)), (by first | omega | (simp only [Int32.lt_iff_toInt_lt, Int32.le_iff_toInt_le, Int32.reduceToInt, ← Int32.toInt_inj, true_and, and_true, or_true, true_or, false_or, or_false, false_and, and_false, not_true_eq_false, not_false_eq_true] <;> omega)), (by first | omega | (simp only [Int32.lt_iff_toInt_lt, Int32.le_iff_toInt_le, Int32.reduceToInt, ← Int32.toInt_inj, true_and, and_true, or_true, true_or, false_or, or_false, false_and, and_false, not_true_eq_false, not_false_eq_true] <;> omega)), (by first | omega | (simp only [Int32.lt_iff_toInt_lt, Int32.le_iff_toInt_le, Int32.reduceToInt, ← Int32.toInt_inj, true_and, and_true, or_true, true_or, false_or, or_false, false_and, and_false, not_true_eq_false, not_false_eq_true] <;> omega)), (by first | omega | (simp only [Int32.lt_iff_toInt_lt, Int32.le_iff_toInt_le, Int32.reduceToInt, ← Int32.toInt_inj, true_and, and_true, or_true, true_or, false_or, or_false, false_and, and_false, not_true_eq_false, not_false_eq_true] <;> omega))⟩
                  have hf_1413 := (hk_1411 (q 18) (ne_kd hf_1400 hf_1404 rfl)).trans hf_1400
                  have fr_1414 := FR.w hk_1411 hf_1404 (k := 12) rfl
                  refine v_goto hC dX12_readWords_106 (tgt := 9) (by decide) ?_
                  refine v_pick [1] rfl ?_
                  have h_1415 : fld (f_1409 a_0) 9 = (v_1406 : Int32).toInt := by rw [hf_1410]; rfl
                  exact ih_1068 f_1409 hW_1412 ((((hF_1065.tr hF_1328).tr fr_1405).tr fr_1414).mono rfl) (by rw [h_1415]; omega)
              · simp only [Int32.lt_iff_toInt_lt, Int32.le_iff_toInt_le, Int32.reduceToInt, ← Int32.toInt_inj] at h_1366
                refine v_iconst hC dX12_readWords_69 (v := (-1)) (by decide) ?_
                exact hR _ _ _ _ _ _ _ dX12_readWords_70 rfl (Nat.le_of_ble_eq_true rfl) (Nat.le_of_ble_eq_true rfl) ⟨rfl, hW_1327, ((((hF_48.tr fr_76).tr hF_1065).tr hF_1328).mono rfl), (by decide)⟩
  refine v_pick [0] rfl ?_
  have h_1416 : fld (f_72 a_0) 9 = (0 : Int32).toInt := by rw [hf_73]; rfl
  exact lp_1066 602 f_72 hW_75 FR.rf (by rw [h_1416]; decide)
set_option maxRecDepth 100000 in
set_option maxHeartbeats 4000000 in
theorem p_X12_isCloth {l : Launch} {E : Ez} {L : List Nat} {f : Nat → va_E} {T : Nat → va_E → Prop} {a_0 : Int32} (hW : WT T L f) : CI l yX12_isCloth cX12_isCloth 1 .boolean 1 0 0 E [.int a_0] L f (fun r L1 f1 => L = L1 ∧ f = f1 ∧ (0 ≤ r.toInt ∧ r.toInt ≤ 1) ∧ (r.toInt = 0 ∨ (0 ≤ a_0.toInt ∧ a_0.toInt ≤ 3))) := by
  refine ci_of (by decide) (Nat.le_of_ble_eq_true rfl) (fun z hz hnm hC hR => ?_)
  have hC : Cx z E cX12_isCloth RX12 1 1 0 0 := hC
  subst hz
  show V z E 1 0 0 L f 0 [(0, .int a_0)] []
  refine v_iload_n hC dX12_isCloth_0 rfl ?_
  obtain ⟨v_1, h_2⟩ : ∃ v9 : Int64, a_0.toInt64 = v9 := ⟨_, rfl⟩
  refine v_i2l hC dX12_isCloth_1 h_2 ?_
  have h_3 : v_1.toInt = a_0.toInt := by rw [← h_2]; exact Int32.toInt_toInt64 _
  refine v_lconst hC dX12_isCloth_2 (v := 0) (by decide) ?_
  refine v_ldc2 hC kl_X12_90 dX12_isCloth_3 ?_
  refine v_si hC (rest := []) mt_X12_in (p_X12_in hW) mx_X12_in ml_X12_79 (by decide) rfl (cells1 := 0) (slots1 := 0) (by decide) (by decide) (Nat.le_of_ble_eq_true rfl) (Nat.le_of_ble_eq_true rfl) rfl (Nat.le_of_ble_eq_true rfl) dX12_isCloth_6 (fun r_4 L_5 f_6 h_7 => ?_)
  obtain ⟨rfl, rfl, b_8, x_9⟩ := h_7
  try simp only [Int32.reduceToInt, Int64.reduceToInt] at x_9
  exact hR _ _ _ _ _ _ _ dX12_isCloth_9 (nar01 (by first | omega | (simp only [Int32.lt_iff_toInt_lt, Int32.le_iff_toInt_le, Int32.reduceToInt, ← Int32.toInt_inj, true_and, and_true, or_true, true_or, false_or, or_false, false_and, and_false, not_true_eq_false, not_false_eq_true] <;> omega))) (Nat.le_of_ble_eq_true rfl) (Nat.le_of_ble_eq_true rfl) ⟨rfl, rfl, (by first | omega | (simp only [Int32.lt_iff_toInt_lt, Int32.le_iff_toInt_le, Int32.reduceToInt, ← Int32.toInt_inj, true_and, and_true, or_true, true_or, false_or, or_false, false_and, and_false, not_true_eq_false, not_false_eq_true] <;> omega)), (by first | omega | (simp only [Int32.lt_iff_toInt_lt, Int32.le_iff_toInt_le, Int32.reduceToInt, ← Int32.toInt_inj, true_and, and_true, or_true, true_or, false_or, or_false, false_and, and_false, not_true_eq_false, not_false_eq_true] <;> omega))⟩
set_option maxRecDepth 100000 in
set_option maxHeartbeats 4000000 in
theorem p_X12_isWay {l : Launch} {E : Ez} {L : List Nat} {f : Nat → va_E} {T : Nat → va_E → Prop} {a_0 : Int32} (hW : WT T L f) : CI l yX12_isWay cX12_isWay 1 .boolean 1 0 0 E [.int a_0] L f (fun r L1 f1 => L = L1 ∧ f = f1 ∧ (0 ≤ r.toInt ∧ r.toInt ≤ 1) ∧ (r.toInt = 0 ∨ (0 ≤ a_0.toInt ∧ a_0.toInt ≤ 5))) := by
  refine ci_of (by decide) (Nat.le_of_ble_eq_true rfl) (fun z hz hnm hC hR => ?_)
  have hC : Cx z E cX12_isWay RX12 1 1 0 0 := hC
  subst hz
  show V z E 1 0 0 L f 0 [(0, .int a_0)] []
  refine v_iload_n hC dX12_isWay_0 rfl ?_
  obtain ⟨v_1, h_2⟩ : ∃ v9 : Int64, a_0.toInt64 = v9 := ⟨_, rfl⟩
  refine v_i2l hC dX12_isWay_1 h_2 ?_
  have h_3 : v_1.toInt = a_0.toInt := by rw [← h_2]; exact Int32.toInt_toInt64 _
  refine v_lconst hC dX12_isWay_2 (v := 0) (by decide) ?_
  refine v_ldc2 hC kl_X12_92 dX12_isWay_3 ?_
  refine v_si hC (rest := []) mt_X12_in (p_X12_in hW) mx_X12_in ml_X12_79 (by decide) rfl (cells1 := 0) (slots1 := 0) (by decide) (by decide) (Nat.le_of_ble_eq_true rfl) (Nat.le_of_ble_eq_true rfl) rfl (Nat.le_of_ble_eq_true rfl) dX12_isWay_6 (fun r_4 L_5 f_6 h_7 => ?_)
  obtain ⟨rfl, rfl, b_8, x_9⟩ := h_7
  try simp only [Int32.reduceToInt, Int64.reduceToInt] at x_9
  exact hR _ _ _ _ _ _ _ dX12_isWay_9 (nar01 (by first | omega | (simp only [Int32.lt_iff_toInt_lt, Int32.le_iff_toInt_le, Int32.reduceToInt, ← Int32.toInt_inj, true_and, and_true, or_true, true_or, false_or, or_false, false_and, and_false, not_true_eq_false, not_false_eq_true] <;> omega))) (Nat.le_of_ble_eq_true rfl) (Nat.le_of_ble_eq_true rfl) ⟨rfl, rfl, (by first | omega | (simp only [Int32.lt_iff_toInt_lt, Int32.le_iff_toInt_le, Int32.reduceToInt, ← Int32.toInt_inj, true_and, and_true, or_true, true_or, false_or, or_false, false_and, and_false, not_true_eq_false, not_false_eq_true] <;> omega)), (by first | omega | (simp only [Int32.lt_iff_toInt_lt, Int32.le_iff_toInt_le, Int32.reduceToInt, ← Int32.toInt_inj, true_and, and_true, or_true, true_or, false_or, or_false, false_and, and_false, not_true_eq_false, not_false_eq_true] <;> omega))⟩
set_option maxRecDepth 100000 in
set_option maxHeartbeats 4000000 in
theorem p_X12_isThere {l : Launch} {E : Ez} {L : List Nat} {f : Nat → va_E} {T : Nat → va_E → Prop} {a_0 : Nat} {a_1 : Int32} {q : Nat → Nat} {g_w : Nat → Int32} (hW : WT T L f) (k_0 : isM T L E a_0 q) (g_1 : (0 ≤ a_1.toInt ∧ a_1.toInt ≤ 3)) (e_w : f (q 1) = aI E 2076 g_w) (o_w : WOK g_w) : CI l yX12_isThere cX12_isThere 2 .boolean 0 0 0 E [.ref a_0, .int a_1] L f (fun r L1 f1 => L = L1 ∧ f = f1 ∧ (0 ≤ r.toInt ∧ r.toInt ≤ 1)) := by
  refine ci_of (by decide) (Nat.le_of_ble_eq_true rfl) (fun z hz hnm hC hR => ?_)
  have hC : Cx z E cX12_isThere RX12 2 0 0 0 := hC
  subst hz
  show V z E 2 0 0 L f 0 [(0, .ref a_0), (1, .int a_1)] []
  obtain ⟨m_1, t_2, k_3, k_4, k_5, k_6, k_7, k_8, k_9, k_10, k_11, k_12, k_13, k_14, k_15, k_16, k_17, k_18, k_19, k_20⟩ := id k_0
  obtain ⟨m_21, t_22⟩ := id k_3
  have b_23 := o_w.r0
  have b_24 := o_w.w0
  refine v_aload_n hC dX12_isThere_0 rfl ?_
  obtain ⟨v_26, v_27, v_29, v_31, v_33, v_35, v_37, v_38, v_39, v_40, v_42, e_25, b_28, b_30, b_32, b_34, b_36, b_41, b_43⟩ := hW.at m_1 t_2
  refine v_get hC fl_X12_13 m_1 e_25 rfl dX12_isThere_1 ?_
  refine v_sipush hC dX12_isThere_4 (v := 1048) (by decide) ?_
  refine v_sipush hC dX12_isThere_7 (v := 257) (by decide) ?_
  refine v_iload_n hC dX12_isThere_10 rfl ?_
  obtain ⟨v_44, h_45⟩ : ∃ v9 : Int32, (257 : Int32) * a_1 = v9 := ⟨_, rfl⟩
  refine v_imul hC dX12_isThere_11 h_45 ?_
  have h_46 := mul_v 257 3 771 h_45 (by decide) (by first | omega | (simp only [Int32.lt_iff_toInt_lt, Int32.le_iff_toInt_le, Int32.reduceToInt, ← Int32.toInt_inj, true_and, and_true, or_true, true_or, false_or, or_false, false_and, and_false, not_true_eq_false, not_false_eq_true] <;> omega)) (by decide) (by decide)
  try simp only [Int32.reduceToInt] at h_46
  obtain ⟨v_47, h_48⟩ : ∃ v9 : Int32, (1048 : Int32) + v_44 = v9 := ⟨_, rfl⟩
  refine v_iadd hC dX12_isThere_12 h_48 ?_
  have h_49 := add_v h_48 (by first | omega | (simp only [Int32.lt_iff_toInt_lt, Int32.le_iff_toInt_le, Int32.reduceToInt, ← Int32.toInt_inj, true_and, and_true, or_true, true_or, false_or, or_false, false_and, and_false, not_true_eq_false, not_false_eq_true] <;> omega)) (by first | omega | (simp only [Int32.lt_iff_toInt_lt, Int32.le_iff_toInt_le, Int32.reduceToInt, ← Int32.toInt_inj, true_and, and_true, or_true, true_or, false_or, or_false, false_and, and_false, not_true_eq_false, not_false_eq_true] <;> omega))
  try simp only [Int32.reduceToInt] at h_49
  obtain ⟨v_50, h_51⟩ : ∃ v9 : Int32, g_w (v_47 : Int32).toNatClampNeg = v9 := ⟨_, rfl⟩
  refine v_iald hC m_21 e_w (vp_in_iff.mpr (by first | omega | (simp only [Int32.lt_iff_toInt_lt, Int32.le_iff_toInt_le, Int32.reduceToInt, ← Int32.toInt_inj, true_and, and_true, or_true, true_or, false_or, or_false, false_and, and_false, not_true_eq_false, not_false_eq_true] <;> omega))) h_51 dX12_isThere_13 ?_
  refine v_iconst hC dX12_isThere_14 (v := 1) (by decide) ?_
  refine v_icmp_ne hC dX12_isThere_15 (tgt := 22) (by decide) (fun h_52 => ?_) (fun h_52 => ?_)
  · simp only [Int32.lt_iff_toInt_lt, Int32.le_iff_toInt_le, Int32.reduceToInt, ← Int32.toInt_inj] at h_52
    refine v_iconst hC dX12_isThere_22 (v := 0) (by decide) ?_
    exact hR _ _ _ _ _ _ _ dX12_isThere_23 rfl (Nat.le_of_ble_eq_true rfl) (Nat.le_of_ble_eq_true rfl) ⟨rfl, rfl, (by decide)⟩
  · simp only [Int32.lt_iff_toInt_lt, Int32.le_iff_toInt_le, Int32.reduceToInt, ← Int32.toInt_inj] at h_52
    refine v_iconst hC dX12_isThere_18 (v := 1) (by decide) ?_
    refine v_goto hC dX12_isThere_19 (tgt := 23) (by decide) ?_
    exact hR _ _ _ _ _ _ _ dX12_isThere_23 rfl (Nat.le_of_ble_eq_true rfl) (Nat.le_of_ble_eq_true rfl) ⟨rfl, rfl, (by decide)⟩
