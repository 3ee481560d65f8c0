set_option maxRecDepth 100000 in
set_option maxHeartbeats 8000000 in
theorem p_X12_in {l : Launch} {E : Ez} {L : List Nat} {f : Nat → va_E} {T : Nat → va_E → Prop} {a_0 : Int64} {a_1 : Int64} {a_2 : Int64} (hW : WT T L f) : CI l yX12_in cX12_in 6 .boolean 0 0 0 E [.long a_0, .long a_1, .long a_2] L f (fun r L1 f1 => L = L1 ∧ f = f1 ∧ (0 ≤ r.toInt ∧ r.toInt ≤ 1) ∧ ((r.toInt = 1 ∧ a_1.toInt ≤ a_0.toInt ∧ a_0.toInt ≤ a_2.toInt) ∨ (r.toInt = 0 ∧ (a_0.toInt < a_1.toInt ∨ a_2.toInt < a_0.toInt)))) := by
  refine ci_of (by decide) (Nat.le_of_ble_eq_true rfl) (fun z hz hnm hC hR => ?_)
  have hC : Cx z E cX12_in RX12 6 0 0 0 := hC
  subst hz
  show V z E 6 0 0 L f 0 [(0, .long a_0), (2, .long a_1), (4, .long a_2)] []
  refine v_lload_n hC dX12_in_0 rfl ?_
  refine v_lload_n hC dX12_in_1 rfl ?_
  obtain ⟨v_1, h_2⟩ : ∃ v9 : Int32, lg_cmp (a_0 : Int64) a_1 = v9 := ⟨_, rfl⟩
  refine v_lcmp hC dX12_in_2 h_2 ?_
  refine v_if_lt hC dX12_in_3 (tgt := 17) (by decide) (fun h_3 => ?_) (fun h_3 => ?_)
  · rw [← h_2] at h_3
    have h_4 := (lgc_lt.mp h_3)
    simp only [Int64.lt_iff_toInt_lt, Int64.le_iff_toInt_le] at h_4
    refine v_iconst hC dX12_in_17 (v := 0) (by decide) ?_
    exact hR _ _ _ _ _ _ _ dX12_in_18 rfl (Nat.le_of_ble_eq_true rfl) (Nat.le_of_ble_eq_true rfl) ⟨rfl, rfl, (by decide), (by first | omega | (simp only [Int32.lt_iff_toInt_lt, Int32.le_iff_toInt_le, Int32.reduceToInt, ← Int32.toInt_inj, true_and, and_true, or_true, true_or, false_or, or_false, false_and, and_false, not_true_eq_false, not_false_eq_true] <;> omega))⟩
  · rw [← h_2] at h_3
    have h_5 := (mt lgc_lt.mpr h_3)
    simp only [Int64.lt_iff_toInt_lt, Int64.le_iff_toInt_le] at h_5
    refine v_lload_n hC dX12_in_6 rfl ?_
    refine v_lload hC dX12_in_7 rfl ?_
    obtain ⟨v_6, h_7⟩ : ∃ v9 : Int32, lg_cmp (a_0 : Int64) a_2 = v9 := ⟨_, rfl⟩
    refine v_lcmp hC dX12_in_9 h_7 ?_
    refine v_if_gt hC dX12_in_10 (tgt := 17) (by decide) (fun h_8 => ?_) (fun h_8 => ?_)
    · rw [← h_7] at h_8
      have h_9 := (lgc_gt.mp h_8)
      simp only [Int64.lt_iff_toInt_lt, Int64.le_iff_toInt_le] at h_9
      refine v_iconst hC dX12_in_17 (v := 0) (by decide) ?_
      exact hR _ _ _ _ _ _ _ dX12_in_18 rfl (Nat.le_of_ble_eq_true rfl) (Nat.le_of_ble_eq_true rfl) ⟨rfl, rfl, (by decide), (by first | omega | (simp only [Int32.lt_iff_toInt_lt, Int32.le_iff_toInt_le, Int32.reduceToInt, ← Int32.toInt_inj, true_and, and_true, or_true, true_or, false_or, or_false, false_and, and_false, not_true_eq_false, not_false_eq_true] <;> omega))⟩
    · rw [← h_7] at h_8
      have h_10 := (mt lgc_gt.mpr h_8)
      simp only [Int64.lt_iff_toInt_lt, Int64.le_iff_toInt_le] at h_10
      refine v_iconst hC dX12_in_13 (v := 1) (by decide) ?_
      refine v_goto hC dX12_in_14 (tgt := 18) (by decide) ?_
      exact hR _ _ _ _ _ _ _ dX12_in_18 rfl (Nat.le_of_ble_eq_true rfl) (Nat.le_of_ble_eq_true rfl) ⟨rfl, rfl, (by decide), (by first | omega | (simp only [Int32.lt_iff_toInt_lt, Int32.le_iff_toInt_le, Int32.reduceToInt, ← Int32.toInt_inj, true_and, and_true, or_true, true_or, false_or, or_false, false_and, and_false, not_true_eq_false, not_false_eq_true] <;> omega))⟩
set_option maxRecDepth 100000 in
set_option maxHeartbeats 8000000 in
theorem p_X12_see {l : Launch} {E : Ez} {L : List Nat} {f : Nat → va_E} {T : Nat → va_E → Prop} {a_0 : Nat} {a_1 : Int32} {q : Nat → Nat} (hW : WT T L f) (k_0 : isM T L E a_0 q) (g_1 : (0 ≤ a_1.toInt ∧ a_1.toInt ≤ 600)) : CI l yX12_see cX12_see 2 .int 0 0 0 E [.ref a_0, .int a_1] L f (fun r L1 f1 => L = L1 ∧ f = f1 ∧ r = (sv (f a_0) (f (q 4)) a_1)) := by
  refine ci_of (by decide) (Nat.le_of_ble_eq_true rfl) (fun z hz hnm hC hR => ?_)
  have hC : Cx z E cX12_see RX12 2 0 0 0 := hC
  subst hz
  show V z E 2 0 0 L f 0 [(0, .ref a_0), (1, .int a_1)] []
  obtain ⟨m_1, t_2, nq_21, k_3, k_4, k_5, k_6, k_7, k_8, k_9, k_10, k_11, k_12, k_13, k_14, k_15, k_16, k_17, k_18, k_19, k_20⟩ := id k_0
  refine v_iload_n hC dX12_see_0 rfl ?_
  refine v_aload_n hC dX12_see_1 rfl ?_
  obtain ⟨v_23, v_24, v_26, v_28, v_30, v_32, v_34, v_35, v_36, v_37, v_39, e_22, b_25, b_27, b_29, b_31, b_33, b_38, b_40⟩ := hW.at m_1 t_2
  refine v_get hC fl_X12_105 m_1 e_22 rfl dX12_see_2 ?_
  refine v_icmp_ge hC dX12_see_5 (tgt := 21) (by decide) (fun h_41 => ?_) (fun h_41 => ?_)
  · simp only [Int32.lt_iff_toInt_lt, Int32.le_iff_toInt_le, Int32.reduceToInt, ← Int32.toInt_inj] at h_41
    refine v_iconst hC dX12_see_21 (v := (-1)) (by decide) ?_
    have fe_42 : fld (f a_0) 7 = (v_26 : Int32).toInt := by rw [e_22]; rfl
    exact hR _ _ _ _ _ _ _ dX12_see_22 rfl (Nat.le_of_ble_eq_true rfl) (Nat.le_of_ble_eq_true rfl) ⟨rfl, rfl, (sv_out (by rw [fe_42]; omega))⟩
  · simp only [Int32.lt_iff_toInt_lt, Int32.le_iff_toInt_le, Int32.reduceToInt, ← Int32.toInt_inj] at h_41
    refine v_aload_n hC dX12_see_8 rfl ?_
    refine v_get hC fl_X12_24 m_1 e_22 rfl dX12_see_9 ?_
    refine v_iload_n hC dX12_see_12 rfl ?_
    obtain ⟨m_43, t_44⟩ := id k_6
    obtain ⟨g_46, e_45, fit_47⟩ := hW.at m_43 t_44
    obtain ⟨v_48, h_49⟩ : ∃ v9 : Int32, g_46 (a_1 : Int32).toNatClampNeg = v9 := ⟨_, rfl⟩
    refine v_bald hC m_43 e_45 (vp_in_iff.mpr (by first | omega | (simp only [Int32.lt_iff_toInt_lt, Int32.le_iff_toInt_le, Int32.reduceToInt, ← Int32.toInt_inj, true_and, and_true, or_true, true_or, false_or, or_false, false_and, and_false, not_true_eq_false, not_false_eq_true] <;> omega))) h_49 dX12_see_13 ?_
    refine v_sipush hC dX12_see_14 (v := 255) (by decide) ?_
    obtain ⟨v_50, h_51⟩ : ∃ v9 : Int32, v_48 &&& 255 = v9 := ⟨_, rfl⟩
    refine v_iand hC dX12_see_17 h_51 ?_
    have h_52 := and_v h_51 (by decide)
    try simp only [Int32.reduceToInt] at h_52
    refine v_goto hC dX12_see_18 (tgt := 22) (by decide) ?_
    have fe_53 : fld (f a_0) 7 = (v_26 : Int32).toInt := by rw [e_22]; rfl
    exact hR _ _ _ _ _ _ _ dX12_see_22 rfl (Nat.le_of_ble_eq_true rfl) (Nat.le_of_ble_eq_true rfl) ⟨rfl, rfl, (sv_in (by rw [fe_53]; omega) e_45 h_49 h_51)⟩
set_option maxRecDepth 100000 in
set_option maxHeartbeats 8000000 in
theorem p_X12_begin {l : Launch} {E : Ez} {L : List Nat} {f : Nat → va_E} {T : Nat → va_E → Prop} {a_0 : Nat} {q : Nat → Nat} (hW : WT T L f) (k_0 : isM T L E a_0 q) : CV l yX12_begin cX12_begin 1 0 0 0 E [.ref a_0] L f (fun L1 f1 => L = L1 ∧ WT T L f1 ∧ FR [12] f f1 ∧ fld (f1 a_0) 12 = 0 ∧ fld (f1 a_0) 8 = 0 ∧ fld (f1 a_0) 20 = fld (f a_0) 20) := by
  refine cv_of (by decide) (Nat.le_of_ble_eq_true rfl) (fun z hz hnm hC hR => ?_)
  have hC : Cx z E cX12_begin RX12 1 0 0 0 := hC
  subst hz
  show V z E 1 0 0 L f 0 [(0, .ref a_0)] []
  obtain ⟨m_1, t_2, nq_21, k_3, k_4, k_5, k_6, k_7, k_8, k_9, k_10, k_11, k_12, k_13, k_14, k_15, k_16, k_17, k_18, k_19, k_20⟩ := id k_0
  obtain ⟨v_23, v_24, v_26, v_28, v_30, v_32, v_34, v_35, v_36, v_37, v_39, e_22, b_25, b_27, b_29, b_31, b_33, b_38, b_40⟩ := hW.at m_1 t_2
  have mz_41 : fld (f a_0) 20 = v_39.toInt := by rw [e_22]; rfl
  refine v_aload_n hC dX12_begin_0 rfl ?_
  refine v_aload_n hC dX12_begin_1 rfl ?_
  refine v_get hC fl_X12_102 m_1 e_22 rfl dX12_begin_2 ?_
  refine v_put hC fl_X12_105 m_1 e_22 rfl rfl (Nat.le_of_ble_eq_true rfl) (fs' := [.int v_23, .ref (q 1), .ref (q 2), .ref (q 3), .ref (q 4), .int v_24, .ref (q 6), .int v_24, .int v_28, .int v_30, .int v_32, .int v_34, .int v_35, .int v_36, .ref (q 14), .ref (q 15), .ref (q 16), .int v_37, .ref (q 18), .ref (q 19), .int v_39, .ref (q 21), .ref (q 22), .ref (q 23), .ref (q 24), .ref (q 25), .ref (q 26), .ref (q 27), .ref (q 28)]) rfl dX12_begin_5 (fun f_42 hf_43 hk_44 => ?_)
  have hW_45 := hW.up hf_43 hk_44 t_2 ⟨v_23, v_24, v_24, v_28, v_30, v_32, v_34, v_35, v_36, v_37, v_39, rfl, (by first | omega | (simp only [Int32.lt_iff_toInt_lt, Int32.le_iff_toInt_le, Int32.reduceToInt, ← Int32.toInt_inj, true_and, and_true, or_true, true_or, false_or, or_false, false_and, and_false, not_true_eq_false, not_false_eq_true] <;> omega)), (by first | omega | (simp only [Int32.lt_iff_toInt_lt, Int32.le_iff_toInt_le, Int32.reduceToInt, ← Int32.toInt_inj, true_and, and_true, or_true, true_or, false_or, or_false, false_and, and_false, not_true_eq_false, not_false_eq_true] <;> omega)), (by first | omega | (simp only [Int32.lt_iff_toInt_lt, Int32.le_iff_toInt_le, Int32.reduceToInt, ← Int32.toInt_inj, true_and, and_true, or_true, true_or, false_or, or_false, false_and, and_false, not_true_eq_false, not_false_eq_true] <;> omega)), (by first | omega | (simp only [Int32.lt_iff_toInt_lt, Int32.le_iff_toInt_le, Int32.reduceToInt, ← Int32.toInt_inj, true_and, and_true, or_true, true_or, false_or, or_false, false_and, and_false, not_true_eq_false, not_false_eq_true] <;> omega)), (by first | omega | (simp only [Int32.lt_iff_toInt_lt, Int32.le_iff_toInt_le, Int32.reduceToInt, ← Int32.toInt_inj, true_and, and_true, or_true, true_or, false_or, or_false, false_and, and_false, not_true_eq_false, not_false_eq_true] <;> omega)), (by first | omega | (simp only [Int32.lt_iff_toInt_lt, Int32.le_iff_toInt_le, Int32.reduceToInt, ← Int32.toInt_inj, true_and, and_true, or_true, true_or, false_or, or_false, false_and, and_false, not_true_eq_false, not_false_eq_true] <;> omega)), (by first | omega | (simp only [Int32.lt_iff_toInt_lt, Int32.le_iff_toInt_le, Int32.reduceToInt, ← Int32.toInt_inj, true_and, and_true, or_true, true_or, false_or, or_false, false_and, and_false, not_true_eq_false, not_false_eq_true] <;> omega))⟩
  have fr_46 := FR.w hk_44 e_22 (k := 12) rfl
  refine v_aload_n hC dX12_begin_8 rfl ?_
  refine v_iconst hC dX12_begin_9 (v := 0) (by decide) ?_
  refine v_put hC fl_X12_102 m_1 hf_43 rfl rfl (Nat.le_of_ble_eq_true rfl) (fs' := [.int v_23, .ref (q 1), .ref (q 2), .ref (q 3), .ref (q 4), .int 0, .ref (q 6), .int v_24, .int v_28, .int v_30, .int v_32, .int v_34, .int v_35, .int v_36, .ref (q 14), .ref (q 15), .ref (q 16), .int v_37, .ref (q 18), .ref (q 19), .int v_39, .ref (q 21), .ref (q 22), .ref (q 23), .ref (q 24), .ref (q 25), .ref (q 26), .ref (q 27), .ref (q 28)]) rfl dX12_begin_10 (fun f_47 hf_48 hk_49 => ?_)
  have hW_50 := hW_45.up hf_48 hk_49 t_2 ⟨v_23, 0, v_24, v_28, v_30, v_32, v_34, v_35, v_36, v_37, v_39, rfl, (by decide), (by first | omega | (simp only [Int32.lt_iff_toInt_lt, Int32.le_iff_toInt_le, Int32.reduceToInt, ← Int32.toInt_inj, true_and, and_true, or_true, true_or, false_or, or_false, false_and, and_false, not_true_eq_false, not_false_eq_true] <;> omega)), (by first | omega | (simp only [Int32.lt_iff_toInt_lt, Int32.le_iff_toInt_le, Int32.reduceToInt, ← Int32.toInt_inj, true_and, and_true, or_true, true_or, false_or, or_false, false_and, and_false, not_true_eq_false, not_false_eq_true] <;> omega)), (by first | omega | (simp only [Int32.lt_iff_toInt_lt, Int32.le_iff_toInt_le, Int32.reduceToInt, ← Int32.toInt_inj, true_and, and_true, or_true, true_or, false_or, or_false, false_and, and_false, not_true_eq_false, not_false_eq_true] <;> omega)), (by first | omega | (simp only [Int32.lt_iff_toInt_lt, Int32.le_iff_toInt_le, Int32.reduceToInt, ← Int32.toInt_inj, true_and, and_true, or_true, true_or, false_or, or_false, false_and, and_false, not_true_eq_false, not_false_eq_true] <;> omega)), (by first | omega | (simp only [Int32.lt_iff_toInt_lt, Int32.le_iff_toInt_le, Int32.reduceToInt, ← Int32.toInt_inj, true_and, and_true, or_true, true_or, false_or, or_false, false_and, and_false, not_true_eq_false, not_false_eq_true] <;> omega)), (by first | omega | (simp only [Int32.lt_iff_toInt_lt, Int32.le_iff_toInt_le, Int32.reduceToInt, ← Int32.toInt_inj, true_and, and_true, or_true, true_or, false_or, or_false, false_and, and_false, not_true_eq_false, not_false_eq_true] <;> omega))⟩
  have fr_51 := FR.w hk_49 hf_43 (k := 12) rfl
  refine v_aload_n hC dX12_begin_13 rfl ?_
  refine v_iconst hC dX12_begin_14 (v := 0) (by decide) ?_
  refine v_put hC fl_X12_108 m_1 hf_48 rfl rfl (Nat.le_of_ble_eq_true rfl) (fs' := [.int v_23, .ref (q 1), .ref (q 2), .ref (q 3), .ref (q 4), .int 0, .ref (q 6), .int v_24, .int 0, .int v_30, .int v_32, .int v_34, .int v_35, .int v_36, .ref (q 14), .ref (q 15), .ref (q 16), .int v_37, .ref (q 18), .ref (q 19), .int v_39, .ref (q 21), .ref (q 22), .ref (q 23), .ref (q 24), .ref (q 25), .ref (q 26), .ref (q 27), .ref (q 28)]) rfl dX12_begin_15 (fun f_52 hf_53 hk_54 => ?_)
  have hW_55 := hW_50.up hf_53 hk_54 t_2 ⟨v_23, 0, v_24, 0, v_30, v_32, v_34, v_35, v_36, v_37, v_39, rfl, (by decide), (by first | omega | (simp only [Int32.lt_iff_toInt_lt, Int32.le_iff_toInt_le, Int32.reduceToInt, ← Int32.toInt_inj, true_and, and_true, or_true, true_or, false_or, or_false, false_and, and_false, not_true_eq_false, not_false_eq_true] <;> omega)), (by decide), (by first | omega | (simp only [Int32.lt_iff_toInt_lt, Int32.le_iff_toInt_le, Int32.reduceToInt, ← Int32.toInt_inj, true_and, and_true, or_true, true_or, false_or, or_false, false_and, and_false, not_true_eq_false, not_false_eq_true] <;> omega)), (by first | omega | (simp only [Int32.lt_iff_toInt_lt, Int32.le_iff_toInt_le, Int32.reduceToInt, ← Int32.toInt_inj, true_and, and_true, or_true, true_or, false_or, or_false, false_and, and_false, not_true_eq_false, not_false_eq_true] <;> omega)), (by first | omega | (simp only [Int32.lt_iff_toInt_lt, Int32.le_iff_toInt_le, Int32.reduceToInt, ← Int32.toInt_inj, true_and, and_true, or_true, true_or, false_or, or_false, false_and, and_false, not_true_eq_false, not_false_eq_true] <;> omega)), (by first | omega | (simp only [Int32.lt_iff_toInt_lt, Int32.le_iff_toInt_le, Int32.reduceToInt, ← Int32.toInt_inj, true_and, and_true, or_true, true_or, false_or, or_false, false_and, and_false, not_true_eq_false, not_false_eq_true] <;> omega))⟩
  have fr_56 := FR.w hk_54 hf_48 (k := 12) rfl
  refine v_aload_n hC dX12_begin_18 rfl ?_
  refine v_iconst hC dX12_begin_19 (v := 0) (by decide) ?_
  refine v_put hC fl_X12_111 m_1 hf_53 rfl rfl (Nat.le_of_ble_eq_true rfl) (fs' := [.int v_23, .ref (q 1), .ref (q 2), .ref (q 3), .ref (q 4), .int 0, .ref (q 6), .int v_24, .int 0, .int v_30, .int v_32, .int v_34, .int 0, .int v_36, .ref (q 14), .ref (q 15), .ref (q 16), .int v_37, .ref (q 18), .ref (q 19), .int v_39, .ref (q 21), .ref (q 22), .ref (q 23), .ref (q 24), .ref (q 25), .ref (q 26), .ref (q 27), .ref (q 28)]) rfl dX12_begin_20 (fun f_57 hf_58 hk_59 => ?_)
  have hW_60 := hW_55.up hf_58 hk_59 t_2 ⟨v_23, 0, v_24, 0, v_30, v_32, v_34, 0, v_36, v_37, v_39, rfl, (by decide), (by first | omega | (simp only [Int32.lt_iff_toInt_lt, Int32.le_iff_toInt_le, Int32.reduceToInt, ← Int32.toInt_inj, true_and, and_true, or_true, true_or, false_or, or_false, false_and, and_false, not_true_eq_false, not_false_eq_true] <;> omega)), (by decide), (by first | omega | (simp only [Int32.lt_iff_toInt_lt, Int32.le_iff_toInt_le, Int32.reduceToInt, ← Int32.toInt_inj, true_and, and_true, or_true, true_or, false_or, or_false, false_and, and_false, not_true_eq_false, not_false_eq_true] <;> omega)), (by first | omega | (simp only [Int32.lt_iff_toInt_lt, Int32.le_iff_toInt_le, Int32.reduceToInt, ← Int32.toInt_inj, true_and, and_true, or_true, true_or, false_or, or_false, false_and, and_false, not_true_eq_false, not_false_eq_true] <;> omega)), (by first | omega | (simp only [Int32.lt_iff_toInt_lt, Int32.le_iff_toInt_le, Int32.reduceToInt, ← Int32.toInt_inj, true_and, and_true, or_true, true_or, false_or, or_false, false_and, and_false, not_true_eq_false, not_false_eq_true] <;> omega)), (by first | omega | (simp only [Int32.lt_iff_toInt_lt, Int32.le_iff_toInt_le, Int32.reduceToInt, ← Int32.toInt_inj, true_and, and_true, or_true, true_or, false_or, or_false, false_and, and_false, not_true_eq_false, not_false_eq_true] <;> omega))⟩
  have fr_61 := FR.w hk_59 hf_53 (k := 12) rfl
  refine v_aload_n hC dX12_begin_23 rfl ?_
  refine v_iconst hC dX12_begin_24 (v := (-1)) (by decide) ?_
  refine v_put hC fl_X12_31 m_1 hf_58 rfl rfl (Nat.le_of_ble_eq_true rfl) (fs' := [.int v_23, .ref (q 1), .ref (q 2), .ref (q 3), .ref (q 4), .int 0, .ref (q 6), .int v_24, .int 0, .int v_30, .int v_32, .int v_34, .int 0, .int (-1), .ref (q 14), .ref (q 15), .ref (q 16), .int v_37, .ref (q 18), .ref (q 19), .int v_39, .ref (q 21), .ref (q 22), .ref (q 23), .ref (q 24), .ref (q 25), .ref (q 26), .ref (q 27), .ref (q 28)]) rfl dX12_begin_25 (fun f_62 hf_63 hk_64 => ?_)
  have hW_65 := hW_60.up hf_63 hk_64 t_2 ⟨v_23, 0, v_24, 0, v_30, v_32, v_34, 0, (-1), v_37, v_39, rfl, (by decide), (by first | omega | (simp only [Int32.lt_iff_toInt_lt, Int32.le_iff_toInt_le, Int32.reduceToInt, ← Int32.toInt_inj, true_and, and_true, or_true, true_or, false_or, or_false, false_and, and_false, not_true_eq_false, not_false_eq_true] <;> omega)), (by decide), (by first | omega | (simp only [Int32.lt_iff_toInt_lt, Int32.le_iff_toInt_le, Int32.reduceToInt, ← Int32.toInt_inj, true_and, and_true, or_true, true_or, false_or, or_false, false_and, and_false, not_true_eq_false, not_false_eq_true] <;> omega)), (by first | omega | (simp only [Int32.lt_iff_toInt_lt, Int32.le_iff_toInt_le, Int32.reduceToInt, ← Int32.toInt_inj, true_and, and_true, or_true, true_or, false_or, or_false, false_and, and_false, not_true_eq_false, not_false_eq_true] <;> omega)), (by first | omega | (simp only [Int32.lt_iff_toInt_lt, Int32.le_iff_toInt_le, Int32.reduceToInt, ← Int32.toInt_inj, true_and, and_true, or_true, true_or, false_or, or_false, false_and, and_false, not_true_eq_false, not_false_eq_true] <;> omega)), (by first | omega | (simp only [Int32.lt_iff_toInt_lt, Int32.le_iff_toInt_le, Int32.reduceToInt, ← Int32.toInt_inj, true_and, and_true, or_true, true_or, false_or, or_false, false_and, and_false, not_true_eq_false, not_false_eq_true] <;> omega))⟩
  have fr_66 := FR.w hk_64 hf_58 (k := 12) rfl
  have fe_67 : fld (f_62 a_0) 12 = (0 : Int32).toInt := by rw [hf_63]; rfl
  simp only [Int32.reduceToInt] at fe_67
  have fe_68 : fld (f_62 a_0) 8 = (0 : Int32).toInt := by rw [hf_63]; rfl
  simp only [Int32.reduceToInt] at fe_68
  have fe_69 : fld (f_62 a_0) 20 = (v_39 : Int32).toInt := by rw [hf_63]; rfl
  exact hR _ _ _ _ _ _ dX12_begin_28 (Nat.le_of_ble_eq_true rfl) (Nat.le_of_ble_eq_true rfl) ⟨rfl, hW_65, (((((fr_46.tr fr_51).tr fr_56).tr fr_61).tr fr_66).mono rfl), (by simp only [fe_67, true_and, and_true, or_true, true_or, false_or, or_false, false_and, and_false, not_true_eq_false, not_false_eq_true] <;> first | omega | (simp only [Int32.lt_iff_toInt_lt, Int32.le_iff_toInt_le, Int32.reduceToInt, ← Int32.toInt_inj, true_and, and_true, or_true, true_or, false_or, or_false, false_and, and_false, not_true_eq_false, not_false_eq_true] <;> omega)), (by simp only [fe_68, true_and, and_true, or_true, true_or, false_or, or_false, false_and, and_false, not_true_eq_false, not_false_eq_true] <;> first | omega | (simp only [Int32.lt_iff_toInt_lt, Int32.le_iff_toInt_le, Int32.reduceToInt, ← Int32.toInt_inj, true_and, and_true, or_true, true_or, false_or, or_false, false_and, and_false, not_true_eq_false, not_false_eq_true] <;> omega)), (by simp only [fe_69, mz_41, true_and, and_true, or_true, true_or, false_or, or_false, false_and, and_false, not_true_eq_false, not_false_eq_true] <;> first | omega | (simp only [Int32.lt_iff_toInt_lt, Int32.le_iff_toInt_le, Int32.reduceToInt, ← Int32.toInt_inj, true_and, and_true, or_true, true_or, false_or, or_false, false_and, and_false, not_true_eq_false, not_false_eq_true] <;> omega))⟩
set_option maxRecDepth 100000 in
set_option maxHeartbeats 8000000 in
theorem p_X12_advance {l : Launch} {E : Ez} {L : List Nat} {f : Nat → va_E} {T : Nat → va_E → Prop} {a_0 : Nat} {q : Nat → Nat} (hW : WT T L f) (k_0 : isM T L E a_0 q) : CV l yX12_advance cX12_advance 2 1 0 0 E [.ref a_0] L f (fun L1 f1 => L = L1 ∧ WT T L f1 ∧ FR [12] f f1 ∧ (fld (f a_0) 8 ≤ fld (f1 a_0) 9 ∧ fld (f1 a_0) 9 ≤ fld (f1 a_0) 8) ∧ (fld (f1 a_0) 10 = 0 ∨ fld (f1 a_0) 9 < fld (f1 a_0) 8) ∧ fld (f1 a_0) 12 = fld (f a_0) 12 ∧ fld (f1 a_0) 20 = fld (f a_0) 20) := by
  refine cv_of (by decide) (Nat.le_of_ble_eq_true rfl) (fun z hz hnm hC hR => ?_)
  have hC : Cx z E cX12_advance RX12 2 1 0 0 := hC
  subst hz
  show V z E 2 0 0 L f 0 [(0, .ref a_0)] []
  obtain ⟨m_1, t_2, nq_21, k_3, k_4, k_5, k_6, k_7, k_8, k_9, k_10, k_11, k_12, k_13, k_14, k_15, k_16, k_17, k_18, k_19, k_20⟩ := id k_0
  obtain ⟨v_23, v_24, v_26, v_28, v_30, v_32, v_34, v_35, v_36, v_37, v_39, e_22, b_25, b_27, b_29, b_31, b_33, b_38, b_40⟩ := hW.at m_1 t_2
  have mz_41 : fld (f a_0) 8 = v_28.toInt := by rw [e_22]; rfl
  have mz_42 : fld (f a_0) 12 = v_35.toInt := by rw [e_22]; rfl
  have mz_43 : fld (f a_0) 20 = v_39.toInt := by rw [e_22]; rfl
  have lp_2816 : ∀ (n_2817 : Nat) (f_2810 : Nat → va_E) (hW_2811 : WT T L f_2810) (hF_2812 : FR [12] f f_2810)  (nv_2813 : v_28.toInt ≤ fld (f_2810 a_0) 8) (nv_2814 : fld (f_2810 a_0) 12 = v_35.toInt) (nv_2815 : fld (f_2810 a_0) 20 = v_39.toInt) (hm_2819 : 600 - fld (f_2810 a_0) 8 < (n_2817 : Int)), V z E 2 0 0 L f_2810 0 [(0, .ref a_0)] [] := by
    intro n_2817
    induction n_2817 with
    | zero =>
      intro f_2810 hW_2811 hF_2812 nv_2813 nv_2814 nv_2815 hm_2819
      obtain ⟨v_2821, v_2822, v_2824, v_2826, v_2828, v_2830, v_2832, v_2833, v_2834, v_2835, v_2837, e_2820, b_2823, b_2825, b_2827, b_2829, b_2831, b_2836, b_2838⟩ := hW_2811.at m_1 t_2
      have fe_2839 : fld (f_2810 a_0) 8 = (v_2826 : Int32).toInt := by rw [e_2820]; rfl
      rw [fe_2839] at nv_2813
      have fe_2840 : fld (f_2810 a_0) 12 = (v_2833 : Int32).toInt := by rw [e_2820]; rfl
      rw [fe_2840] at nv_2814
      have fe_2841 : fld (f_2810 a_0) 20 = (v_2837 : Int32).toInt := by rw [e_2820]; rfl
      rw [fe_2841] at nv_2815
      have h_2842 : fld (f_2810 a_0) 8 = (v_2826 : Int32).toInt := by rw [e_2820]; rfl
      rw [h_2842] at hm_2819
      exfalso; omega
    | succ n_2817 ih_2818 =>
      intro f_2810 hW_2811 hF_2812 nv_2813 nv_2814 nv_2815 hm_2819
      obtain ⟨v_2821, v_2822, v_2824, v_2826, v_2828, v_2830, v_2832, v_2833, v_2834, v_2835, v_2837, e_2820, b_2823, b_2825, b_2827, b_2829, b_2831, b_2836, b_2838⟩ := hW_2811.at m_1 t_2
      have fe_2839 : fld (f_2810 a_0) 8 = (v_2826 : Int32).toInt := by rw [e_2820]; rfl
      rw [fe_2839] at nv_2813
      have fe_2840 : fld (f_2810 a_0) 12 = (v_2833 : Int32).toInt := by rw [e_2820]; rfl
      rw [fe_2840] at nv_2814
      have fe_2841 : fld (f_2810 a_0) 20 = (v_2837 : Int32).toInt := by rw [e_2820]; rfl
      rw [fe_2841] at nv_2815
      have h_2842 : fld (f_2810 a_0) 8 = (v_2826 : Int32).toInt := by rw [e_2820]; rfl
      rw [h_2842] at hm_2819
      refine v_aload_n hC dX12_advance_0 rfl ?_
      refine v_aload_n hC dX12_advance_1 rfl ?_
      refine v_get hC fl_X12_108 m_1 e_2820 rfl dX12_advance_2 ?_
      refine v_vi hC (rest := []) m_1 e_2820 rfl mi_X12_see ms_X12_see (p_X12_see hW_2811 k_0 (by first | omega | (simp only [Int32.lt_iff_toInt_lt, Int32.le_iff_toInt_le, Int32.reduceToInt, ← Int32.toInt_inj, true_and, and_true, or_true, true_or, false_or, or_false, false_and, and_false, not_true_eq_false, not_false_eq_true] <;> omega))) mx_X12_see ml_X12_114 (by decide) rfl (cells1 := 0) (slots1 := 0) (by decide) (by decide) (Nat.le_of_ble_eq_true rfl) (Nat.le_of_ble_eq_true rfl) rfl (Nat.le_of_ble_eq_true rfl) dX12_advance_5 (fun r_2843 L_2844 f_2845 h_2846 => ?_)
      obtain ⟨rfl, rfl, rfl⟩ := h_2846
      have sb_2849 := sv_b (f_2810 a_0) (f_2810 (q 4)) v_2826
      have fe_2850 : fld (f_2810 a_0) 7 = (v_2824 : Int32).toInt := by rw [e_2820]; rfl
      rw [fe_2850] at sb_2849
      refine v_bipush hC dX12_advance_8 (v := 32) (by decide) ?_
      refine v_icmp_eq hC dX12_advance_10 (tgt := 26) (by decide) (fun h_2851 => ?_) (fun h_2851 => ?_)
      · simp only [Int32.lt_iff_toInt_lt, Int32.le_iff_toInt_le, Int32.reduceToInt, ← Int32.toInt_inj] at h_2851
        refine v_aload_n hC dX12_advance_26 rfl ?_
        refine v_dup hC dX12_advance_27 rfl ?_
        refine v_get hC fl_X12_108 m_1 e_2820 rfl dX12_advance_28 ?_
        refine v_iconst hC dX12_advance_31 (v := 1) (by decide) ?_
        obtain ⟨v_2864, h_2865⟩ : ∃ v9 : Int32, v_2826 + 1 = v9 := ⟨_, rfl⟩
        refine v_iadd hC dX12_advance_32 h_2865 ?_
        have h_2866 := add_v h_2865 (by first | omega | (simp only [Int32.lt_iff_toInt_lt, Int32.le_iff_toInt_le, Int32.reduceToInt, ← Int32.toInt_inj, true_and, and_true, or_true, true_or, false_or, or_false, false_and, and_false, not_true_eq_false, not_false_eq_true] <;> omega)) (by first | omega | (simp only [Int32.lt_iff_toInt_lt, Int32.le_iff_toInt_le, Int32.reduceToInt, ← Int32.toInt_inj, true_and, and_true, or_true, true_or, false_or, or_false, false_and, and_false, not_true_eq_false, not_false_eq_true] <;> omega))
        try simp only [Int32.reduceToInt] at h_2866
        refine v_put hC fl_X12_108 m_1 e_2820 rfl rfl (Nat.le_of_ble_eq_true rfl) (fs' := [.int v_2821, .ref (q 1), .ref (q 2), .ref (q 3), .ref (q 4), .int v_2822, .ref (q 6), .int v_2824, .int v_2864, .int v_2828, .int v_2830, .int v_2832, .int v_2833, .int v_2834, .ref (q 14), .ref (q 15), .ref (q 16), .int v_2835, .ref (q 18), .ref (q 19), .int v_2837, .ref (q 21), .ref (q 22), .ref (q 23), .ref (q 24), .ref (q 25), .ref (q 26), .ref (q 27), .ref (q 28)]) rfl dX12_advance_33 (fun f_2867 hf_2868 hk_2869 => ?_)
        have hW_2870 := hW_2811.up hf_2868 hk_2869 t_2 ⟨v_2821, v_2822, v_2824, v_2864, v_2828, v_2830, v_2832, v_2833, v_2834, v_2835, v_2837, rfl, (by first | omega | (simp only [Int32.lt_iff_toInt_lt, Int32.le_iff_toInt_le, Int32.reduceToInt, ← Int32.toInt_inj, true_and, and_true, or_true, true_or, false_or, or_false, false_and, and_false, not_true_eq_false, not_false_eq_true] <;> omega)), (by first | omega | (simp only [Int32.lt_iff_toInt_lt, Int32.le_iff_toInt_le, Int32.reduceToInt, ← Int32.toInt_inj, true_and, and_true, or_true, true_or, false_or, or_false, false_and, and_false, not_true_eq_false, not_false_eq_true] <;> omega)), (by first | omega | (simp only [Int32.lt_iff_toInt_lt, Int32.le_iff_toInt_le, Int32.reduceToInt, ← Int32.toInt_inj, true_and, and_true, or_true, true_or, false_or, or_false, false_and, and_false, not_true_eq_false, not_false_eq_true] <;> omega)), (by first | omega | (simp only [Int32.lt_iff_toInt_lt, Int32.le_iff_toInt_le, Int32.reduceToInt, ← Int32.toInt_inj, true_and, and_true, or_true, true_or, false_or, or_false, false_and, and_false, not_true_eq_false, not_false_eq_true] <;> omega)), (by first | omega | (simp only [Int32.lt_iff_toInt_lt, Int32.le_iff_toInt_le, Int32.reduceToInt, ← Int32.toInt_inj, true_and, and_true, or_true, true_or, false_or, or_false, false_and, and_false, not_true_eq_false, not_false_eq_true] <;> omega)), (by first | omega | (simp only [Int32.lt_iff_toInt_lt, Int32.le_iff_toInt_le, Int32.reduceToInt, ← Int32.toInt_inj, true_and, and_true, or_true, true_or, false_or, or_false, false_and, and_false, not_true_eq_false, not_false_eq_true] <;> omega)), (by first | omega | (simp only [Int32.lt_iff_toInt_lt, Int32.le_iff_toInt_le, Int32.reduceToInt, ← Int32.toInt_inj, true_and, and_true, or_true, true_or, false_or, or_false, false_and, and_false, not_true_eq_false, not_false_eq_true] <;> omega))⟩
        have fr_2871 := FR.w hk_2869 e_2820 (k := 12) rfl
        refine v_goto hC dX12_advance_36 (tgt := 0) (by decide) ?_
        refine v_pick [0] rfl ?_
        have fe_2872 : fld (f_2867 a_0) 8 = (v_2864 : Int32).toInt := by rw [hf_2868]; rfl
        have fe_2873 : fld (f_2867 a_0) 12 = (v_2833 : Int32).toInt := by rw [hf_2868]; rfl
        have fe_2874 : fld (f_2867 a_0) 20 = (v_2837 : Int32).toInt := by rw [hf_2868]; rfl
        have h_2875 : fld (f_2867 a_0) 8 = (v_2864 : Int32).toInt := by rw [hf_2868]; rfl
        exact ih_2818 f_2867 hW_2870 ((hF_2812.tr fr_2871).mono rfl) (by rw [fe_2872] <;> first | omega | (simp only [Int32.lt_iff_toInt_lt, Int32.le_iff_toInt_le, Int32.reduceToInt, ← Int32.toInt_inj, true_and, and_true, or_true, true_or, false_or, or_false, false_and, and_false, not_true_eq_false, not_false_eq_true] <;> omega)) (by rw [fe_2873] <;> first | omega | (simp only [Int32.lt_iff_toInt_lt, Int32.le_iff_toInt_le, Int32.reduceToInt, ← Int32.toInt_inj, true_and, and_true, or_true, true_or, false_or, or_false, false_and, and_false, not_true_eq_false, not_false_eq_true] <;> omega)) (by rw [fe_2874] <;> first | omega | (simp only [Int32.lt_iff_toInt_lt, Int32.le_iff_toInt_le, Int32.reduceToInt, ← Int32.toInt_inj, true_and, and_true, or_true, true_or, false_or, or_false, false_and, and_false, not_true_eq_false, not_false_eq_true] <;> omega)) (by rw [h_2875]; omega)
      · simp only [Int32.lt_iff_toInt_lt, Int32.le_iff_toInt_le, Int32.reduceToInt, ← Int32.toInt_inj] at h_2851
        refine v_aload_n hC dX12_advance_13 rfl ?_
        refine v_aload_n hC dX12_advance_14 rfl ?_
        refine v_get hC fl_X12_108 m_1 e_2820 rfl dX12_advance_15 ?_
        refine v_vi hC (rest := []) m_1 e_2820 rfl mi_X12_see ms_X12_see (p_X12_see hW_2811 k_0 (by first | omega | (simp only [Int32.lt_iff_toInt_lt, Int32.le_iff_toInt_le, Int32.reduceToInt, ← Int32.toInt_inj, true_and, and_true, or_true, true_or, false_or, or_false, false_and, and_false, not_true_eq_false, not_false_eq_true] <;> omega))) mx_X12_see ml_X12_114 (by decide) rfl (cells1 := 0) (slots1 := 0) (by decide) (by decide) (Nat.le_of_ble_eq_true rfl) (Nat.le_of_ble_eq_true rfl) rfl (Nat.le_of_ble_eq_true rfl) dX12_advance_18 (fun r_2876 L_2877 f_2878 h_2879 => ?_)
        obtain ⟨rfl, rfl, rfl⟩ := h_2879
        have sb_2882 := sv_b (f_2810 a_0) (f_2810 (q 4)) v_2826
        have fe_2883 : fld (f_2810 a_0) 7 = (v_2824 : Int32).toInt := by rw [e_2820]; rfl
        rw [fe_2883] at sb_2882
        refine v_bipush hC dX12_advance_21 (v := 10) (by decide) ?_
        refine v_icmp_ne hC dX12_advance_23 (tgt := 39) (by decide) (fun h_2884 => ?_) (fun h_2884 => ?_)
        · simp only [Int32.lt_iff_toInt_lt, Int32.le_iff_toInt_le, Int32.reduceToInt, ← Int32.toInt_inj] at h_2884
          refine v_aload_n hC dX12_advance_39 rfl ?_
          refine v_aload_n hC dX12_advance_40 rfl ?_
          refine v_get hC fl_X12_108 m_1 e_2820 rfl dX12_advance_41 ?_
          refine v_put hC fl_X12_117 m_1 e_2820 rfl rfl (Nat.le_of_ble_eq_true rfl) (fs' := [.int v_2821, .ref (q 1), .ref (q 2), .ref (q 3), .ref (q 4), .int v_2822, .ref (q 6), .int v_2824, .int v_2826, .int v_2826, .int v_2830, .int v_2832, .int v_2833, .int v_2834, .ref (q 14), .ref (q 15), .ref (q 16), .int v_2835, .ref (q 18), .ref (q 19), .int v_2837, .ref (q 21), .ref (q 22), .ref (q 23), .ref (q 24), .ref (q 25), .ref (q 26), .ref (q 27), .ref (q 28)]) rfl dX12_advance_44 (fun f_2897 hf_2898 hk_2899 => ?_)
          have hW_2900 := hW_2811.up hf_2898 hk_2899 t_2 ⟨v_2821, v_2822, v_2824, v_2826, v_2826, v_2830, v_2832, v_2833, v_2834, v_2835, v_2837, rfl, (by first | omega | (simp only [Int32.lt_iff_toInt_lt, Int32.le_iff_toInt_le, Int32.reduceToInt, ← Int32.toInt_inj, true_and, and_true, or_true, true_or, false_or, or_false, false_and, and_false, not_true_eq_false, not_false_eq_true] <;> omega)), (by first | omega | (simp only [Int32.lt_iff_toInt_lt, Int32.le_iff_toInt_le, Int32.reduceToInt, ← Int32.toInt_inj, true_and, and_true, or_true, true_or, false_or, or_false, false_and, and_false, not_true_eq_false, not_false_eq_true] <;> omega)), (by first | omega | (simp only [Int32.lt_iff_toInt_lt, Int32.le_iff_toInt_le, Int32.reduceToInt, ← Int32.toInt_inj, true_and, and_true, or_true, true_or, false_or, or_false, false_and, and_false, not_true_eq_false, not_false_eq_true] <;> omega)), (by first | omega | (simp only [Int32.lt_iff_toInt_lt, Int32.le_iff_toInt_le, Int32.reduceToInt, ← Int32.toInt_inj, true_and, and_true, or_true, true_or, false_or, or_false, false_and, and_false, not_true_eq_false, not_false_eq_true] <;> omega)), (by first | omega | (simp only [Int32.lt_iff_toInt_lt, Int32.le_iff_toInt_le, Int32.reduceToInt, ← Int32.toInt_inj, true_and, and_true, or_true, true_or, false_or, or_false, false_and, and_false, not_true_eq_false, not_false_eq_true] <;> omega)), (by first | omega | (simp only [Int32.lt_iff_toInt_lt, Int32.le_iff_toInt_le, Int32.reduceToInt, ← Int32.toInt_inj, true_and, and_true, or_true, true_or, false_or, or_false, false_and, and_false, not_true_eq_false, not_false_eq_true] <;> omega)), (by first | omega | (simp only [Int32.lt_iff_toInt_lt, Int32.le_iff_toInt_le, Int32.reduceToInt, ← Int32.toInt_inj, true_and, and_true, or_true, true_or, false_or, or_false, false_and, and_false, not_true_eq_false, not_false_eq_true] <;> omega))⟩
          have fr_2901 := FR.w hk_2899 e_2820 (k := 12) rfl
          refine v_aload_n hC dX12_advance_47 rfl ?_
          refine v_aload_n hC dX12_advance_48 rfl ?_
          refine v_get hC fl_X12_108 m_1 hf_2898 rfl dX12_advance_49 ?_
          refine v_vi hC (rest := []) m_1 hf_2898 rfl mi_X12_see ms_X12_see (p_X12_see hW_2900 k_0 (by first | omega | (simp only [Int32.lt_iff_toInt_lt, Int32.le_iff_toInt_le, Int32.reduceToInt, ← Int32.toInt_inj, true_and, and_true, or_true, true_or, false_or, or_false, false_and, and_false, not_true_eq_false, not_false_eq_true] <;> omega))) mx_X12_see ml_X12_114 (by decide) rfl (cells1 := 0) (slots1 := 0) (by decide) (by decide) (Nat.le_of_ble_eq_true rfl) (Nat.le_of_ble_eq_true rfl) rfl (Nat.le_of_ble_eq_true rfl) dX12_advance_52 (fun r_2902 L_2903 f_2904 h_2905 => ?_)
          obtain ⟨rfl, rfl, rfl⟩ := h_2905
          have sb_2908 := sv_b (f_2897 a_0) (f_2897 (q 4)) v_2826
          have fe_2909 : fld (f_2897 a_0) 7 = (v_2824 : Int32).toInt := by rw [hf_2898]; rfl
          rw [fe_2909] at sb_2908
          obtain ⟨m_2910, t_2911⟩ := id k_6
          obtain ⟨g_2913, e_2912, fit_2914⟩ := hW_2900.at m_2910 t_2911
          have fe_2915 : fld (f_2897 a_0) 7 = (v_2824 : Int32).toInt := by rw [hf_2898]; rfl
          refine v_istore_n hC dX12_advance_55 (by decide) (lv' := [(1, .int (sv (f_2897 a_0) (f_2897 (q 4)) v_2826)), (0, .ref a_0)]) rfl ?_
          refine v_iload_n hC dX12_advance_56 rfl ?_
          refine v_iconst hC dX12_advance_57 (v := (-1)) (by decide) ?_
          refine v_icmp_ne hC dX12_advance_58 (tgt := 69) (by decide) (fun h_2916 => ?_) (fun h_2916 => ?_)
          · simp only [Int32.lt_iff_toInt_lt, Int32.le_iff_toInt_le, Int32.reduceToInt, ← Int32.toInt_inj] at h_2916
            refine v_iload_n hC dX12_advance_69 rfl ?_
            obtain ⟨v_2917, h_2918⟩ : ∃ v9 : Int64, (sv (f_2897 a_0) (f_2897 (q 4)) v_2826).toInt64 = v9 := ⟨_, rfl⟩
            refine v_i2l hC dX12_advance_70 h_2918 ?_
            have h_2919 : v_2917.toInt = (sv (f_2897 a_0) (f_2897 (q 4)) v_2826).toInt := by rw [← h_2918]; exact Int32.toInt_toInt64 _
            refine v_ldc2 hC kl_X12_123 dX12_advance_71 ?_
            refine v_ldc2 hC kl_X12_125 dX12_advance_74 ?_
            refine v_si hC (rest := []) mt_X12_in (p_X12_in hW_2900) mx_X12_in ml_X12_79 (by decide) rfl (cells1 := 0) (slots1 := 0) (by decide) (by decide) (Nat.le_of_ble_eq_true rfl) (Nat.le_of_ble_eq_true rfl) rfl (Nat.le_of_ble_eq_true rfl) dX12_advance_77 (fun r_2920 L_2921 f_2922 h_2923 => ?_)
            obtain ⟨rfl, rfl, b_2924, x_2925⟩ := h_2923
            try simp only [Int32.reduceToInt, Int64.reduceToInt] at x_2925
            refine v_if_eq hC dX12_advance_80 (tgt := 125) (by decide) (fun h_2928 => ?_) (fun h_2928 => ?_)
            · simp only [Int32.lt_iff_toInt_lt, Int32.le_iff_toInt_le, Int32.reduceToInt, ← Int32.toInt_inj] at h_2928
              refine v_iload_n hC dX12_advance_125 rfl ?_
              obtain ⟨v_2929, h_2930⟩ : ∃ v9 : Int64, (sv (f_2897 a_0) (f_2897 (q 4)) v_2826).toInt64 = v9 := ⟨_, rfl⟩
              refine v_i2l hC dX12_advance_126 h_2930 ?_
              have h_2931 : v_2929.toInt = (sv (f_2897 a_0) (f_2897 (q 4)) v_2826).toInt := by rw [← h_2930]; exact Int32.toInt_toInt64 _
              refine v_ldc2 hC kl_X12_127 dX12_advance_127 ?_
              refine v_ldc2 hC kl_X12_129 dX12_advance_130 ?_
              refine v_si hC (rest := []) mt_X12_in (p_X12_in hW_2900) mx_X12_in ml_X12_79 (by decide) rfl (cells1 := 0) (slots1 := 0) (by decide) (by decide) (Nat.le_of_ble_eq_true rfl) (Nat.le_of_ble_eq_true rfl) rfl (Nat.le_of_ble_eq_true rfl) dX12_advance_133 (fun r_2932 L_2933 f_2934 h_2935 => ?_)
              obtain ⟨rfl, rfl, b_2936, x_2937⟩ := h_2935
              try simp only [Int32.reduceToInt, Int64.reduceToInt] at x_2937
              refine v_if_eq hC dX12_advance_136 (tgt := 215) (by decide) (fun h_2940 => ?_) (fun h_2940 => ?_)
              · simp only [Int32.lt_iff_toInt_lt, Int32.le_iff_toInt_le, Int32.reduceToInt, ← Int32.toInt_inj] at h_2940
                refine v_aload_n hC dX12_advance_215 rfl ?_
                refine v_iload_n hC dX12_advance_216 rfl ?_
                refine v_bipush hC dX12_advance_217 (v := 59) (by decide) ?_
                refine v_icmp_ne hC dX12_advance_219 (tgt := 226) (by decide) (fun h_2941 => ?_) (fun h_2941 => ?_)
                · simp only [Int32.lt_iff_toInt_lt, Int32.le_iff_toInt_le, Int32.reduceToInt, ← Int32.toInt_inj] at h_2941
                  refine v_iconst hC dX12_advance_226 (v := 4) (by decide) ?_
                  refine v_put hC fl_X12_120 m_1 hf_2898 rfl rfl (Nat.le_of_ble_eq_true rfl) (fs' := [.int v_2821, .ref (q 1), .ref (q 2), .ref (q 3), .ref (q 4), .int v_2822, .ref (q 6), .int v_2824, .int v_2826, .int v_2826, .int 4, .int v_2832, .int v_2833, .int v_2834, .ref (q 14), .ref (q 15), .ref (q 16), .int v_2835, .ref (q 18), .ref (q 19), .int v_2837, .ref (q 21), .ref (q 22), .ref (q 23), .ref (q 24), .ref (q 25), .ref (q 26), .ref (q 27), .ref (q 28)]) rfl dX12_advance_227 (fun f_2942 hf_2943 hk_2944 => ?_)
                  have hW_2945 := hW_2900.up hf_2943 hk_2944 t_2 ⟨v_2821, v_2822, v_2824, v_2826, v_2826, 4, v_2832, v_2833, v_2834, v_2835, v_2837, rfl, (by first | omega | (simp only [Int32.lt_iff_toInt_lt, Int32.le_iff_toInt_le, Int32.reduceToInt, ← Int32.toInt_inj, true_and, and_true, or_true, true_or, false_or, or_false, false_and, and_false, not_true_eq_false, not_false_eq_true] <;> omega)), (by first | omega | (simp only [Int32.lt_iff_toInt_lt, Int32.le_iff_toInt_le, Int32.reduceToInt, ← Int32.toInt_inj, true_and, and_true, or_true, true_or, false_or, or_false, false_and, and_false, not_true_eq_false, not_false_eq_true] <;> omega)), (by first | omega | (simp only [Int32.lt_iff_toInt_lt, Int32.le_iff_toInt_le, Int32.reduceToInt, ← Int32.toInt_inj, true_and, and_true, or_true, true_or, false_or, or_false, false_and, and_false, not_true_eq_false, not_false_eq_true] <;> omega)), (by first | omega | (simp only [Int32.lt_iff_toInt_lt, Int32.le_iff_toInt_le, Int32.reduceToInt, ← Int32.toInt_inj, true_and, and_true, or_true, true_or, false_or, or_false, false_and, and_false, not_true_eq_false, not_false_eq_true] <;> omega)), (by decide), (by first | omega | (simp only [Int32.lt_iff_toInt_lt, Int32.le_iff_toInt_le, Int32.reduceToInt, ← Int32.toInt_inj, true_and, and_true, or_true, true_or, false_or, or_false, false_and, and_false, not_true_eq_false, not_false_eq_true] <;> omega)), (by first | omega | (simp only [Int32.lt_iff_toInt_lt, Int32.le_iff_toInt_le, Int32.reduceToInt, ← Int32.toInt_inj, true_and, and_true, or_true, true_or, false_or, or_false, false_and, and_false, not_true_eq_false, not_false_eq_true] <;> omega))⟩
                  have hf_2946 := (hk_2944 (q 4) (ne_kd e_2912 hf_2898 rfl)).trans e_2912
                  have fr_2947 := FR.w hk_2944 hf_2898 (k := 12) rfl
                  refine v_aload_n hC dX12_advance_230 rfl ?_
                  refine v_dup hC dX12_advance_231 rfl ?_
                  refine v_get hC fl_X12_108 m_1 hf_2943 rfl dX12_advance_232 ?_
                  refine v_iconst hC dX12_advance_235 (v := 1) (by decide) ?_
                  obtain ⟨v_2948, h_2949⟩ : ∃ v9 : Int32, v_2826 + 1 = v9 := ⟨_, rfl⟩
                  refine v_iadd hC dX12_advance_236 h_2949 ?_
                  have h_2950 := add_v h_2949 (by first | omega | (simp only [Int32.lt_iff_toInt_lt, Int32.le_iff_toInt_le, Int32.reduceToInt, ← Int32.toInt_inj, true_and, and_true, or_true, true_or, false_or, or_false, false_and, and_false, not_true_eq_false, not_false_eq_true] <;> omega)) (by first | omega | (simp only [Int32.lt_iff_toInt_lt, Int32.le_iff_toInt_le, Int32.reduceToInt, ← Int32.toInt_inj, true_and, and_true, or_true, true_or, false_or, or_false, false_and, and_false, not_true_eq_false, not_false_eq_true] <;> omega))
                  try simp only [Int32.reduceToInt] at h_2950
                  refine v_put hC fl_X12_108 m_1 hf_2943 rfl rfl (Nat.le_of_ble_eq_true rfl) (fs' := [.int v_2821, .ref (q 1), .ref (q 2), .ref (q 3), .ref (q 4), .int v_2822, .ref (q 6), .int v_2824, .int v_2948, .int v_2826, .int 4, .int v_2832, .int v_2833, .int v_2834, .ref (q 14), .ref (q 15), .ref (q 16), .int v_2835, .ref (q 18), .ref (q 19), .int v_2837, .ref (q 21), .ref (q 22), .ref (q 23), .ref (q 24), .ref (q 25), .ref (q 26), .ref (q 27), .ref (q 28)]) rfl dX12_advance_237 (fun f_2951 hf_2952 hk_2953 => ?_)
                  have hW_2954 := hW_2945.up hf_2952 hk_2953 t_2 ⟨v_2821, v_2822, v_2824, v_2948, v_2826, 4, v_2832, v_2833, v_2834, v_2835, v_2837, rfl, (by first | omega | (simp only [Int32.lt_iff_toInt_lt, Int32.le_iff_toInt_le, Int32.reduceToInt, ← Int32.toInt_inj, true_and, and_true, or_true, true_or, false_or, or_false, false_and, and_false, not_true_eq_false, not_false_eq_true] <;> omega)), (by first | omega | (simp only [Int32.lt_iff_toInt_lt, Int32.le_iff_toInt_le, Int32.reduceToInt, ← Int32.toInt_inj, true_and, and_true, or_true, true_or, false_or, or_false, false_and, and_false, not_true_eq_false, not_false_eq_true] <;> omega)), (by first | omega | (simp only [Int32.lt_iff_toInt_lt, Int32.le_iff_toInt_le, Int32.reduceToInt, ← Int32.toInt_inj, true_and, and_true, or_true, true_or, false_or, or_false, false_and, and_false, not_true_eq_false, not_false_eq_true] <;> omega)), (by first | omega | (simp only [Int32.lt_iff_toInt_lt, Int32.le_iff_toInt_le, Int32.reduceToInt, ← Int32.toInt_inj, true_and, and_true, or_true, true_or, false_or, or_false, false_and, and_false, not_true_eq_false, not_false_eq_true] <;> omega)), (by decide), (by first | omega | (simp only [Int32.lt_iff_toInt_lt, Int32.le_iff_toInt_le, Int32.reduceToInt, ← Int32.toInt_inj, true_and, and_true, or_true, true_or, false_or, or_false, false_and, and_false, not_true_eq_false, not_false_eq_true] <;> omega)), (by first | omega | (simp only [Int32.lt_iff_toInt_lt, Int32.le_iff_toInt_le, Int32.reduceToInt, ← Int32.toInt_inj, true_and, and_true, or_true, true_or, false_or, or_false, false_and, and_false, not_true_eq_false, not_false_eq_true] <;> omega))⟩
                  have hf_2955 := (hk_2953 (q 4) (ne_kd hf_2946 hf_2943 rfl)).trans hf_2946
                  have fr_2956 := FR.w hk_2953 hf_2943 (k := 12) rfl
                  have fe_2957 : fld (f_2951 a_0) 8 = (v_2948 : Int32).toInt := by rw [hf_2952]; rfl
                  have fe_2958 : fld (f_2951 a_0) 9 = (v_2826 : Int32).toInt := by rw [hf_2952]; rfl
                  have fe_2959 : fld (f_2951 a_0) 8 = (v_2948 : Int32).toInt := by rw [hf_2952]; rfl
                  have fe_2960 : fld (f_2951 a_0) 9 = (v_2826 : Int32).toInt := by rw [hf_2952]; rfl
                  have fe_2961 : fld (f_2951 a_0) 10 = (4 : Int32).toInt := by rw [hf_2952]; rfl
                  simp only [Int32.reduceToInt] at fe_2961
                  have fe_2962 : fld (f_2951 a_0) 12 = (v_2833 : Int32).toInt := by rw [hf_2952]; rfl
                  have fe_2963 : fld (f_2951 a_0) 20 = (v_2837 : Int32).toInt := by rw [hf_2952]; rfl
                  exact hR _ _ _ _ _ _ dX12_advance_240 (Nat.le_of_ble_eq_true rfl) (Nat.le_of_ble_eq_true rfl) ⟨rfl, hW_2954, ((((hF_2812.tr fr_2901).tr fr_2947).tr fr_2956).mono rfl), (by simp only [fe_2957, fe_2958, mz_41, true_and, and_true, or_true, true_or, false_or, or_false, false_and, and_false, not_true_eq_false, not_false_eq_true] <;> first | omega | (simp only [Int32.lt_iff_toInt_lt, Int32.le_iff_toInt_le, Int32.reduceToInt, ← Int32.toInt_inj, true_and, and_true, or_true, true_or, false_or, or_false, false_and, and_false, not_true_eq_false, not_false_eq_true] <;> omega)), (by simp only [fe_2959, fe_2960, fe_2961, true_and, and_true, or_true, true_or, false_or, or_false, false_and, and_false, not_true_eq_false, not_false_eq_true] <;> first | omega | (simp only [Int32.lt_iff_toInt_lt, Int32.le_iff_toInt_le, Int32.reduceToInt, ← Int32.toInt_inj, true_and, and_true, or_true, true_or, false_or, or_false, false_and, and_false, not_true_eq_false, not_false_eq_true] <;> omega)), (by simp only [fe_2962, mz_42, true_and, and_true, or_true, true_or, false_or, or_false, false_and, and_false, not_true_eq_false, not_false_eq_true] <;> first | omega | (simp only [Int32.lt_iff_toInt_lt, Int32.le_iff_toInt_le, Int32.reduceToInt, ← Int32.toInt_inj, true_and, and_true, or_true, true_or, false_or, or_false, false_and, and_false, not_true_eq_false, not_false_eq_true] <;> omega)), (by simp only [fe_2963, mz_43, true_and, and_true, or_true, true_or, false_or, or_false, false_and, and_false, not_true_eq_false, not_false_eq_true] <;> first | omega | (simp only [Int32.lt_iff_toInt_lt, Int32.le_iff_toInt_le, Int32.reduceToInt, ← Int32.toInt_inj, true_and, and_true, or_true, true_or, false_or, or_false, false_and, and_false, not_true_eq_false, not_false_eq_true] <;> omega))⟩
                · simp only [Int32.lt_iff_toInt_lt, Int32.le_iff_toInt_le, Int32.reduceToInt, ← Int32.toInt_inj] at h_2941
                  refine v_iconst hC dX12_advance_222 (v := 3) (by decide) ?_
                  refine v_goto hC dX12_advance_223 (tgt := 227) (by decide) ?_
                  refine v_put hC fl_X12_120 m_1 hf_2898 rfl rfl (Nat.le_of_ble_eq_true rfl) (fs' := [.int v_2821, .ref (q 1), .ref (q 2), .ref (q 3), .ref (q 4), .int v_2822, .ref (q 6), .int v_2824, .int v_2826, .int v_2826, .int 3, .int v_2832, .int v_2833, .int v_2834, .ref (q 14), .ref (q 15), .ref (q 16), .int v_2835, .ref (q 18), .ref (q 19), .int v_2837, .ref (q 21), .ref (q 22), .ref (q 23), .ref (q 24), .ref (q 25), .ref (q 26), .ref (q 27), .ref (q 28)]) rfl dX12_advance_227 (fun f_2964 hf_2965 hk_2966 => ?_)
                  have hW_2967 := hW_2900.up hf_2965 hk_2966 t_2 ⟨v_2821, v_2822, v_2824, v_2826, v_2826, 3, v_2832, v_2833, v_2834, v_2835, v_2837, rfl, (by first | omega | (simp only [Int32.lt_iff_toInt_lt, Int32.le_iff_toInt_le, Int32.reduceToInt, ← Int32.toInt_inj, true_and, and_true, or_true, true_or, false_or, or_false, false_and, and_false, not_true_eq_false, not_false_eq_true] <;> omega)), (by first | omega | (simp only [Int32.lt_iff_toInt_lt, Int32.le_iff_toInt_le, Int32.reduceToInt, ← Int32.toInt_inj, true_and, and_true, or_true, true_or, false_or, or_false, false_and, and_false, not_true_eq_false, not_false_eq_true] <;> omega)), (by first | omega | (simp only [Int32.lt_iff_toInt_lt, Int32.le_iff_toInt_le, Int32.reduceToInt, ← Int32.toInt_inj, true_and, and_true, or_true, true_or, false_or, or_false, false_and, and_false, not_true_eq_false, not_false_eq_true] <;> omega)), (by first | omega | (simp only [Int32.lt_iff_toInt_lt, Int32.le_iff_toInt_le, Int32.reduceToInt, ← Int32.toInt_inj, true_and, and_true, or_true, true_or, false_or, or_false, false_and, and_false, not_true_eq_false, not_false_eq_true] <;> omega)), (by decide), (by first | omega | (simp only [Int32.lt_iff_toInt_lt, Int32.le_iff_toInt_le, Int32.reduceToInt, ← Int32.toInt_inj, true_and, and_true, or_true, true_or, false_or, or_false, false_and, and_false, not_true_eq_false, not_false_eq_true] <;> omega)), (by first | omega | (simp only [Int32.lt_iff_toInt_lt, Int32.le_iff_toInt_le, Int32.reduceToInt, ← Int32.toInt_inj, true_and, and_true, or_true, true_or, false_or, or_false, false_and, and_false, not_true_eq_false, not_false_eq_true] <;> omega))⟩
                  have hf_2968 := (hk_2966 (q 4) (ne_kd e_2912 hf_2898 rfl)).trans e_2912
                  have fr_2969 := FR.w hk_2966 hf_2898 (k := 12) rfl
                  refine v_aload_n hC dX12_advance_230 rfl ?_
                  refine v_dup hC dX12_advance_231 rfl ?_
                  refine v_get hC fl_X12_108 m_1 hf_2965 rfl dX12_advance_232 ?_
                  refine v_iconst hC dX12_advance_235 (v := 1) (by decide) ?_
                  obtain ⟨v_2970, h_2971⟩ : ∃ v9 : Int32, v_2826 + 1 = v9 := ⟨_, rfl⟩
                  refine v_iadd hC dX12_advance_236 h_2971 ?_
                  have h_2972 := add_v h_2971 (by first | omega | (simp only [Int32.lt_iff_toInt_lt, Int32.le_iff_toInt_le, Int32.reduceToInt, ← Int32.toInt_inj, true_and, and_true, or_true, true_or, false_or, or_false, false_and, and_false, not_true_eq_false, not_false_eq_true] <;> omega)) (by first | omega | (simp only [Int32.lt_iff_toInt_lt, Int32.le_iff_toInt_le, Int32.reduceToInt, ← Int32.toInt_inj, true_and, and_true, or_true, true_or, false_or, or_false, false_and, and_false, not_true_eq_false, not_false_eq_true] <;> omega))
                  try simp only [Int32.reduceToInt] at h_2972
                  refine v_put hC fl_X12_108 m_1 hf_2965 rfl rfl (Nat.le_of_ble_eq_true rfl) (fs' := [.int v_2821, .ref (q 1), .ref (q 2), .ref (q 3), .ref (q 4), .int v_2822, .ref (q 6), .int v_2824, .int v_2970, .int v_2826, .int 3, .int v_2832, .int v_2833, .int v_2834, .ref (q 14), .ref (q 15), .ref (q 16), .int v_2835, .ref (q 18), .ref (q 19), .int v_2837, .ref (q 21), .ref (q 22), .ref (q 23), .ref (q 24), .ref (q 25), .ref (q 26), .ref (q 27), .ref (q 28)]) rfl dX12_advance_237 (fun f_2973 hf_2974 hk_2975 => ?_)
                  have hW_2976 := hW_2967.up hf_2974 hk_2975 t_2 ⟨v_2821, v_2822, v_2824, v_2970, v_2826, 3, v_2832, v_2833, v_2834, v_2835, v_2837, rfl, (by first | omega | (simp only [Int32.lt_iff_toInt_lt, Int32.le_iff_toInt_le, Int32.reduceToInt, ← Int32.toInt_inj, true_and, and_true, or_true, true_or, false_or, or_false, false_and, and_false, not_true_eq_false, not_false_eq_true] <;> omega)), (by first | omega | (simp only [Int32.lt_iff_toInt_lt, Int32.le_iff_toInt_le, Int32.reduceToInt, ← Int32.toInt_inj, true_and, and_true, or_true, true_or, false_or, or_false, false_and, and_false, not_true_eq_false, not_false_eq_true] <;> omega)), (by first | omega | (simp only [Int32.lt_iff_toInt_lt, Int32.le_iff_toInt_le, Int32.reduceToInt, ← Int32.toInt_inj, true_and, and_true, or_true, true_or, false_or, or_false, false_and, and_false, not_true_eq_false, not_false_eq_true] <;> omega)), (by first | omega | (simp only [Int32.lt_iff_toInt_lt, Int32.le_iff_toInt_le, Int32.reduceToInt, ← Int32.toInt_inj, true_and, and_true, or_true, true_or, false_or, or_false, false_and, and_false, not_true_eq_false, not_false_eq_true] <;> omega)), (by decide), (by first | omega | (simp only [Int32.lt_iff_toInt_lt, Int32.le_iff_toInt_le, Int32.reduceToInt, ← Int32.toInt_inj, true_and, and_true, or_true, true_or, false_or, or_false, false_and, and_false, not_true_eq_false, not_false_eq_true] <;> omega)), (by first | omega | (simp only [Int32.lt_iff_toInt_lt, Int32.le_iff_toInt_le, Int32.reduceToInt, ← Int32.toInt_inj, true_and, and_true, or_true, true_or, false_or, or_false, false_and, and_false, not_true_eq_false, not_false_eq_true] <;> omega))⟩
                  have hf_2977 := (hk_2975 (q 4) (ne_kd hf_2968 hf_2965 rfl)).trans hf_2968
                  have fr_2978 := FR.w hk_2975 hf_2965 (k := 12) rfl
                  have fe_2979 : fld (f_2973 a_0) 8 = (v_2970 : Int32).toInt := by rw [hf_2974]; rfl
                  have fe_2980 : fld (f_2973 a_0) 9 = (v_2826 : Int32).toInt := by rw [hf_2974]; rfl
                  have fe_2981 : fld (f_2973 a_0) 8 = (v_2970 : Int32).toInt := by rw [hf_2974]; rfl
                  have fe_2982 : fld (f_2973 a_0) 9 = (v_2826 : Int32).toInt := by rw [hf_2974]; rfl
                  have fe_2983 : fld (f_2973 a_0) 10 = (3 : Int32).toInt := by rw [hf_2974]; rfl
                  simp only [Int32.reduceToInt] at fe_2983
                  have fe_2984 : fld (f_2973 a_0) 12 = (v_2833 : Int32).toInt := by rw [hf_2974]; rfl
                  have fe_2985 : fld (f_2973 a_0) 20 = (v_2837 : Int32).toInt := by rw [hf_2974]; rfl
                  exact hR _ _ _ _ _ _ dX12_advance_240 (Nat.le_of_ble_eq_true rfl) (Nat.le_of_ble_eq_true rfl) ⟨rfl, hW_2976, ((((hF_2812.tr fr_2901).tr fr_2969).tr fr_2978).mono rfl), (by simp only [fe_2979, fe_2980, mz_41, true_and, and_true, or_true, true_or, false_or, or_false, false_and, and_false, not_true_eq_false, not_false_eq_true] <;> first | omega | (simp only [Int32.lt_iff_toInt_lt, Int32.le_iff_toInt_le, Int32.reduceToInt, ← Int32.toInt_inj, true_and, and_true, or_true, true_or, false_or, or_false, false_and, and_false, not_true_eq_false, not_false_eq_true] <;> omega)), (by simp only [fe_2981, fe_2982, fe_2983, true_and, and_true, or_true, true_or, false_or, or_false, false_and, and_false, not_true_eq_false, not_false_eq_true] <;> first | omega | (simp only [Int32.lt_iff_toInt_lt, Int32.le_iff_toInt_le, Int32.reduceToInt, ← Int32.toInt_inj, true_and, and_true, or_true, true_or, false_or, or_false, false_and, and_false, not_true_eq_false, not_false_eq_true] <;> omega)), (by simp only [fe_2984, mz_42, true_and, and_true, or_true, true_or, false_or, or_false, false_and, and_false, not_true_eq_false, not_false_eq_true] <;> first | omega | (simp only [Int32.lt_iff_toInt_lt, Int32.le_iff_toInt_le, Int32.reduceToInt, ← Int32.toInt_inj, true_and, and_true, or_true, true_or, false_or, or_false, false_and, and_false, not_true_eq_false, not_false_eq_true] <;> omega)), (by simp only [fe_2985, mz_43, true_and, and_true, or_true, true_or, false_or, or_false, false_and, and_false, not_true_eq_false, not_false_eq_true] <;> first | omega | (simp only [Int32.lt_iff_toInt_lt, Int32.le_iff_toInt_le, Int32.reduceToInt, ← Int32.toInt_inj, true_and, and_true, or_true, true_or, false_or, or_false, false_and, and_false, not_true_eq_false, not_false_eq_true] <;> omega))⟩
              · simp only [Int32.lt_iff_toInt_lt, Int32.le_iff_toInt_le, Int32.reduceToInt, ← Int32.toInt_inj] at h_2940
                refine v_aload_n hC dX12_advance_139 rfl ?_
                refine v_iconst hC dX12_advance_140 (v := 0) (by decide) ?_
                refine v_put hC fl_X12_131 m_1 hf_2898 rfl rfl (Nat.le_of_ble_eq_true rfl) (fs' := [.int v_2821, .ref (q 1), .ref (q 2), .ref (q 3), .ref (q 4), .int v_2822, .ref (q 6), .int v_2824, .int v_2826, .int v_2826, .int v_2830, .int 0, .int v_2833, .int v_2834, .ref (q 14), .ref (q 15), .ref (q 16), .int v_2835, .ref (q 18), .ref (q 19), .int v_2837, .ref (q 21), .ref (q 22), .ref (q 23), .ref (q 24), .ref (q 25), .ref (q 26), .ref (q 27), .ref (q 28)]) rfl dX12_advance_141 (fun f_2986 hf_2987 hk_2988 => ?_)
                have hW_2989 := hW_2900.up hf_2987 hk_2988 t_2 ⟨v_2821, v_2822, v_2824, v_2826, v_2826, v_2830, 0, v_2833, v_2834, v_2835, v_2837, rfl, (by first | omega | (simp only [Int32.lt_iff_toInt_lt, Int32.le_iff_toInt_le, Int32.reduceToInt, ← Int32.toInt_inj, true_and, and_true, or_true, true_or, false_or, or_false, false_and, and_false, not_true_eq_false, not_false_eq_true] <;> omega)), (by first | omega | (simp only [Int32.lt_iff_toInt_lt, Int32.le_iff_toInt_le, Int32.reduceToInt, ← Int32.toInt_inj, true_and, and_true, or_true, true_or, false_or, or_false, false_and, and_false, not_true_eq_false, not_false_eq_true] <;> omega)), (by first | omega | (simp only [Int32.lt_iff_toInt_lt, Int32.le_iff_toInt_le, Int32.reduceToInt, ← Int32.toInt_inj, true_and, and_true, or_true, true_or, false_or, or_false, false_and, and_false, not_true_eq_false, not_false_eq_true] <;> omega)), (by first | omega | (simp only [Int32.lt_iff_toInt_lt, Int32.le_iff_toInt_le, Int32.reduceToInt, ← Int32.toInt_inj, true_and, and_true, or_true, true_or, false_or, or_false, false_and, and_false, not_true_eq_false, not_false_eq_true] <;> omega)), (by first | omega | (simp only [Int32.lt_iff_toInt_lt, Int32.le_iff_toInt_le, Int32.reduceToInt, ← Int32.toInt_inj, true_and, and_true, or_true, true_or, false_or, or_false, false_and, and_false, not_true_eq_false, not_false_eq_true] <;> omega)), (by first | omega | (simp only [Int32.lt_iff_toInt_lt, Int32.le_iff_toInt_le, Int32.reduceToInt, ← Int32.toInt_inj, true_and, and_true, or_true, true_or, false_or, or_false, false_and, and_false, not_true_eq_false, not_false_eq_true] <;> omega)), (by first | omega | (simp only [Int32.lt_iff_toInt_lt, Int32.le_iff_toInt_le, Int32.reduceToInt, ← Int32.toInt_inj, true_and, and_true, or_true, true_or, false_or, or_false, false_and, and_false, not_true_eq_false, not_false_eq_true] <;> omega))⟩
                have hf_2990 := (hk_2988 (q 4) (ne_kd e_2912 hf_2898 rfl)).trans e_2912
                have fr_2991 := FR.w hk_2988 hf_2898 (k := 12) rfl
                refine v_aload_n hC dX12_advance_144 rfl ?_
                refine v_aload_n hC dX12_advance_145 rfl ?_
                refine v_get hC fl_X12_108 m_1 hf_2987 rfl dX12_advance_146 ?_
                refine v_vi hC (rest := []) m_1 hf_2987 rfl mi_X12_see ms_X12_see (p_X12_see hW_2989 k_0 (by first | omega | (simp only [Int32.lt_iff_toInt_lt, Int32.le_iff_toInt_le, Int32.reduceToInt, ← Int32.toInt_inj, true_and, and_true, or_true, true_or, false_or, or_false, false_and, and_false, not_true_eq_false, not_false_eq_true] <;> omega))) mx_X12_see ml_X12_114 (by decide) rfl (cells1 := 0) (slots1 := 0) (by decide) (by decide) (Nat.le_of_ble_eq_true rfl) (Nat.le_of_ble_eq_true rfl) rfl (Nat.le_of_ble_eq_true rfl) dX12_advance_149 (fun r_2992 L_2993 f_2994 h_2995 => ?_)
                obtain ⟨rfl, rfl, rfl⟩ := h_2995
                have sb_2998 := sv_b (f_2986 a_0) (f_2986 (q 4)) v_2826
                have fe_2999 : fld (f_2986 a_0) 7 = (v_2824 : Int32).toInt := by rw [hf_2987]; rfl
                rw [fe_2999] at sb_2998
                have fe_3000 : fld (f_2986 a_0) 7 = (v_2824 : Int32).toInt := by rw [hf_2987]; rfl
                have sc_3001 : ((sv (f_2986 a_0) (f_2986 (q 4)) v_2826)).toInt = ((sv (f_2897 a_0) (f_2897 (q 4)) v_2826)).toInt := congrArg Int32.toInt (sv_congr (fe_3000.trans fe_2915.symm) (hf_2990.trans e_2912.symm))
                obtain ⟨v_3002, h_3003⟩ : ∃ v9 : Int64, (sv (f_2986 a_0) (f_2986 (q 4)) v_2826).toInt64 = v9 := ⟨_, rfl⟩
                refine v_i2l hC dX12_advance_152 h_3003 ?_
                have h_3004 : v_3002.toInt = (sv (f_2986 a_0) (f_2986 (q 4)) v_2826).toInt := by rw [← h_3003]; exact Int32.toInt_toInt64 _
                refine v_ldc2 hC kl_X12_127 dX12_advance_153 ?_
                refine v_ldc2 hC kl_X12_129 dX12_advance_156 ?_
                refine v_si hC (rest := []) mt_X12_in (p_X12_in hW_2989) mx_X12_in ml_X12_79 (by decide) rfl (cells1 := 0) (slots1 := 0) (by decide) (by decide) (Nat.le_of_ble_eq_true rfl) (Nat.le_of_ble_eq_true rfl) rfl (Nat.le_of_ble_eq_true rfl) dX12_advance_159 (fun r_3005 L_3006 f_3007 h_3008 => ?_)
                obtain ⟨rfl, rfl, b_3009, x_3010⟩ := h_3008
                try simp only [Int32.reduceToInt, Int64.reduceToInt] at x_3010
                refine v_if_eq_f hC dX12_advance_162 (tgt := 207) (by decide) (by first | omega | (simp only [Int32.lt_iff_toInt_lt, Int32.le_iff_toInt_le, Int32.reduceToInt, ← Int32.toInt_inj, true_and, and_true, or_true, true_or, false_or, or_false, false_and, and_false, not_true_eq_false, not_false_eq_true] <;> omega)) ?_
                refine v_aload_n hC dX12_advance_165 rfl ?_
                refine v_sipush hC dX12_advance_166 (v := 9999) (by decide) ?_
                refine v_bipush hC dX12_advance_169 (v := 10) (by decide) ?_
                refine v_aload_n hC dX12_advance_171 rfl ?_
                refine v_get hC fl_X12_131 m_1 hf_2987 rfl dX12_advance_172 ?_
                refine v_imul hC dX12_advance_175 (v := 0) (by decide) ?_
                refine v_aload_n hC dX12_advance_176 rfl ?_
                refine v_aload_n hC dX12_advance_177 rfl ?_
                refine v_get hC fl_X12_108 m_1 hf_2987 rfl dX12_advance_178 ?_
                refine v_vi hC (rest := [.int 0, .int 9999, .ref a_0]) m_1 hf_2987 rfl mi_X12_see ms_X12_see (p_X12_see hW_2989 k_0 (by first | omega | (simp only [Int32.lt_iff_toInt_lt, Int32.le_iff_toInt_le, Int32.reduceToInt, ← Int32.toInt_inj, true_and, and_true, or_true, true_or, false_or, or_false, false_and, and_false, not_true_eq_false, not_false_eq_true] <;> omega))) mx_X12_see ml_X12_114 (by decide) rfl (cells1 := 0) (slots1 := 0) (by decide) (by decide) (Nat.le_of_ble_eq_true rfl) (Nat.le_of_ble_eq_true rfl) rfl (Nat.le_of_ble_eq_true rfl) dX12_advance_181 (fun r_3013 L_3014 f_3015 h_3016 => ?_)
                obtain ⟨rfl, rfl, rfl⟩ := h_3016
                have sb_3019 := sv_b (f_2986 a_0) (f_2986 (q 4)) v_2826
                have fe_3020 : fld (f_2986 a_0) 7 = (v_2824 : Int32).toInt := by rw [hf_2987]; rfl
                rw [fe_3020] at sb_3019
                obtain ⟨v_3021, h_3022⟩ : ∃ v9 : Int32, (0 : Int32) + (sv (f_2986 a_0) (f_2986 (q 4)) v_2826) = v9 := ⟨_, rfl⟩
                refine v_iadd hC dX12_advance_184 h_3022 ?_
                have h_3023 := add_v h_3022 (by first | omega | (simp only [Int32.lt_iff_toInt_lt, Int32.le_iff_toInt_le, Int32.reduceToInt, ← Int32.toInt_inj, true_and, and_true, or_true, true_or, false_or, or_false, false_and, and_false, not_true_eq_false, not_false_eq_true] <;> omega)) (by first | omega | (simp only [Int32.lt_iff_toInt_lt, Int32.le_iff_toInt_le, Int32.reduceToInt, ← Int32.toInt_inj, true_and, and_true, or_true, true_or, false_or, or_false, false_and, and_false, not_true_eq_false, not_false_eq_true] <;> omega))
                try simp only [Int32.reduceToInt] at h_3023
                refine v_bipush hC dX12_advance_185 (v := 48) (by decide) ?_
                obtain ⟨v_3024, h_3025⟩ : ∃ v9 : Int32, v_3021 - 48 = v9 := ⟨_, rfl⟩
                refine v_isub hC dX12_advance_187 h_3025 ?_
                have h_3026 := sub_v h_3025 (by first | omega | (simp only [Int32.lt_iff_toInt_lt, Int32.le_iff_toInt_le, Int32.reduceToInt, ← Int32.toInt_inj, true_and, and_true, or_true, true_or, false_or, or_false, false_and, and_false, not_true_eq_false, not_false_eq_true] <;> omega)) (by first | omega | (simp only [Int32.lt_iff_toInt_lt, Int32.le_iff_toInt_le, Int32.reduceToInt, ← Int32.toInt_inj, true_and, and_true, or_true, true_or, false_or, or_false, false_and, and_false, not_true_eq_false, not_false_eq_true] <;> omega))
                try simp only [Int32.reduceToInt] at h_3026
                obtain ⟨v_3027, h_3028⟩ : ∃ v9 : Int32, (if v_3024 < (9999 : Int32) then v_3024 else (9999 : Int32)) = v9 := ⟨_, rfl⟩
                refine v_mmin hC mm_X12_134 mm_smin mm_i mm_cmin (by decide) (Nat.le_of_ble_eq_true rfl) (Nat.le_of_ble_eq_true rfl) (Nat.le_of_ble_eq_true rfl) h_3028 dX12_advance_188 ?_
                have b_3029 := min_v h_3028
                try simp only [Int32.reduceToInt] at b_3029
                refine v_put hC fl_X12_131 m_1 hf_2987 rfl rfl (Nat.le_of_ble_eq_true rfl) (fs' := [.int v_2821, .ref (q 1), .ref (q 2), .ref (q 3), .ref (q 4), .int v_2822, .ref (q 6), .int v_2824, .int v_2826, .int v_2826, .int v_2830, .int v_3027, .int v_2833, .int v_2834, .ref (q 14), .ref (q 15), .ref (q 16), .int v_2835, .ref (q 18), .ref (q 19), .int v_2837, .ref (q 21), .ref (q 22), .ref (q 23), .ref (q 24), .ref (q 25), .ref (q 26), .ref (q 27), .ref (q 28)]) rfl dX12_advance_191 (fun f_3030 hf_3031 hk_3032 => ?_)
                have hW_3033 := hW_2989.up hf_3031 hk_3032 t_2 ⟨v_2821, v_2822, v_2824, v_2826, v_2826, v_2830, v_3027, v_2833, v_2834, v_2835, v_2837, rfl, (by first | omega | (simp only [Int32.lt_iff_toInt_lt, Int32.le_iff_toInt_le, Int32.reduceToInt, ← Int32.toInt_inj, true_and, and_true, or_true, true_or, false_or, or_false, false_and, and_false, not_true_eq_false, not_false_eq_true] <;> omega)), (by first | omega | (simp only [Int32.lt_iff_toInt_lt, Int32.le_iff_toInt_le, Int32.reduceToInt, ← Int32.toInt_inj, true_and, and_true, or_true, true_or, false_or, or_false, false_and, and_false, not_true_eq_false, not_false_eq_true] <;> omega)), (by first | omega | (simp only [Int32.lt_iff_toInt_lt, Int32.le_iff_toInt_le, Int32.reduceToInt, ← Int32.toInt_inj, true_and, and_true, or_true, true_or, false_or, or_false, false_and, and_false, not_true_eq_false, not_false_eq_true] <;> omega)), (by first | omega | (simp only [Int32.lt_iff_toInt_lt, Int32.le_iff_toInt_le, Int32.reduceToInt, ← Int32.toInt_inj, true_and, and_true, or_true, true_or, false_or, or_false, false_and, and_false, not_true_eq_false, not_false_eq_true] <;> omega)), (by first | omega | (simp only [Int32.lt_iff_toInt_lt, Int32.le_iff_toInt_le, Int32.reduceToInt, ← Int32.toInt_inj, true_and, and_true, or_true, true_or, false_or, or_false, false_and, and_false, not_true_eq_false, not_false_eq_true] <;> omega)), (by first | omega | (simp only [Int32.lt_iff_toInt_lt, Int32.le_iff_toInt_le, Int32.reduceToInt, ← Int32.toInt_inj, true_and, and_true, or_true, true_or, false_or, or_false, false_and, and_false, not_true_eq_false, not_false_eq_true] <;> omega)), (by first | omega | (simp only [Int32.lt_iff_toInt_lt, Int32.le_iff_toInt_le, Int32.reduceToInt, ← Int32.toInt_inj, true_and, and_true, or_true, true_or, false_or, or_false, false_and, and_false, not_true_eq_false, not_false_eq_true] <;> omega))⟩
                have hf_3034 := (hk_3032 (q 4) (ne_kd hf_2990 hf_2987 rfl)).trans hf_2990
                have fr_3035 := FR.w hk_3032 hf_2987 (k := 12) rfl
                refine v_aload_n hC dX12_advance_194 rfl ?_
                refine v_dup hC dX12_advance_195 rfl ?_
                refine v_get hC fl_X12_108 m_1 hf_3031 rfl dX12_advance_196 ?_
                refine v_iconst hC dX12_advance_199 (v := 1) (by decide) ?_
                obtain ⟨v_3036, h_3037⟩ : ∃ v9 : Int32, v_2826 + 1 = v9 := ⟨_, rfl⟩
                refine v_iadd hC dX12_advance_200 h_3037 ?_
                have h_3038 := add_v h_3037 (by first | omega | (simp only [Int32.lt_iff_toInt_lt, Int32.le_iff_toInt_le, Int32.reduceToInt, ← Int32.toInt_inj, true_and, and_true, or_true, true_or, false_or, or_false, false_and, and_false, not_true_eq_false, not_false_eq_true] <;> omega)) (by first | omega | (simp only [Int32.lt_iff_toInt_lt, Int32.le_iff_toInt_le, Int32.reduceToInt, ← Int32.toInt_inj, true_and, and_true, or_true, true_or, false_or, or_false, false_and, and_false, not_true_eq_false, not_false_eq_true] <;> omega))
                try simp only [Int32.reduceToInt] at h_3038
                refine v_put hC fl_X12_108 m_1 hf_3031 rfl rfl (Nat.le_of_ble_eq_true rfl) (fs' := [.int v_2821, .ref (q 1), .ref (q 2), .ref (q 3), .ref (q 4), .int v_2822, .ref (q 6), .int v_2824, .int v_3036, .int v_2826, .int v_2830, .int v_3027, .int v_2833, .int v_2834, .ref (q 14), .ref (q 15), .ref (q 16), .int v_2835, .ref (q 18), .ref (q 19), .int v_2837, .ref (q 21), .ref (q 22), .ref (q 23), .ref (q 24), .ref (q 25), .ref (q 26), .ref (q 27), .ref (q 28)]) rfl dX12_advance_201 (fun f_3039 hf_3040 hk_3041 => ?_)
                have hW_3042 := hW_3033.up hf_3040 hk_3041 t_2 ⟨v_2821, v_2822, v_2824, v_3036, v_2826, v_2830, v_3027, v_2833, v_2834, v_2835, v_2837, rfl, (by first | omega | (simp only [Int32.lt_iff_toInt_lt, Int32.le_iff_toInt_le, Int32.reduceToInt, ← Int32.toInt_inj, true_and, and_true, or_true, true_or, false_or, or_false, false_and, and_false, not_true_eq_false, not_false_eq_true] <;> omega)), (by first | omega | (simp only [Int32.lt_iff_toInt_lt, Int32.le_iff_toInt_le, Int32.reduceToInt, ← Int32.toInt_inj, true_and, and_true, or_true, true_or, false_or, or_false, false_and, and_false, not_true_eq_false, not_false_eq_true] <;> omega)), (by first | omega | (simp only [Int32.lt_iff_toInt_lt, Int32.le_iff_toInt_le, Int32.reduceToInt, ← Int32.toInt_inj, true_and, and_true, or_true, true_or, false_or, or_false, false_and, and_false, not_true_eq_false, not_false_eq_true] <;> omega)), (by first | omega | (simp only [Int32.lt_iff_toInt_lt, Int32.le_iff_toInt_le, Int32.reduceToInt, ← Int32.toInt_inj, true_and, and_true, or_true, true_or, false_or, or_false, false_and, and_false, not_true_eq_false, not_false_eq_true] <;> omega)), (by first | omega | (simp only [Int32.lt_iff_toInt_lt, Int32.le_iff_toInt_le, Int32.reduceToInt, ← Int32.toInt_inj, true_and, and_true, or_true, true_or, false_or, or_false, false_and, and_false, not_true_eq_false, not_false_eq_true] <;> omega)), (by first | omega | (simp only [Int32.lt_iff_toInt_lt, Int32.le_iff_toInt_le, Int32.reduceToInt, ← Int32.toInt_inj, true_and, and_true, or_true, true_or, false_or, or_false, false_and, and_false, not_true_eq_false, not_false_eq_true] <;> omega)), (by first | omega | (simp only [Int32.lt_iff_toInt_lt, Int32.le_iff_toInt_le, Int32.reduceToInt, ← Int32.toInt_inj, true_and, and_true, or_true, true_or, false_or, or_false, false_and, and_false, not_true_eq_false, not_false_eq_true] <;> omega))⟩
                have hf_3043 := (hk_3041 (q 4) (ne_kd hf_3034 hf_3031 rfl)).trans hf_3034
                have fr_3044 := FR.w hk_3041 hf_3031 (k := 12) rfl
                refine v_goto hC dX12_advance_204 (tgt := 144) (by decide) ?_
                have lp_3320 : ∀ (n_3321 : Nat) (f_3312 : Nat → va_E) (hW_3313 : WT T L f_3312) (hF_3314 : FR [12] f_3039 f_3312)  (nv_3316 : v_28.toInt ≤ fld (f_3312 a_0) 9) (nv_3317 : fld (f_3312 a_0) 9 < fld (f_3312 a_0) 8) (nv_3318 : fld (f_3312 a_0) 12 = v_35.toInt) (nv_3319 : fld (f_3312 a_0) 20 = v_39.toInt) (hm_3323 : 600 - fld (f_3312 a_0) 8 < (n_3321 : Int)), V z E 2 0 0 L f_3312 144 [(0, .ref a_0)] [] := by
                  intro n_3321
                  induction n_3321 with
                  | zero =>
                    intro f_3312 hW_3313 hF_3314 nv_3316 nv_3317 nv_3318 nv_3319 hm_3323
                    have hf_3315 := hF_3314.at hf_3043 rfl
                    obtain ⟨v_3325, v_3326, v_3328, v_3330, v_3332, v_3334, v_3336, v_3337, v_3338, v_3339, v_3341, e_3324, b_3327, b_3329, b_3331, b_3333, b_3335, b_3340, b_3342⟩ := hW_3313.at m_1 t_2
                    have fe_3343 : fld (f_3312 a_0) 9 = (v_3332 : Int32).toInt := by rw [e_3324]; rfl
                    rw [fe_3343] at nv_3316
                    have fe_3344 : fld (f_3312 a_0) 8 = (v_3330 : Int32).toInt := by rw [e_3324]; rfl
                    have fe_3345 : fld (f_3312 a_0) 9 = (v_3332 : Int32).toInt := by rw [e_3324]; rfl
                    rw [fe_3344, fe_3345] at nv_3317
                    have fe_3346 : fld (f_3312 a_0) 12 = (v_3337 : Int32).toInt := by rw [e_3324]; rfl
                    rw [fe_3346] at nv_3318
                    have fe_3347 : fld (f_3312 a_0) 20 = (v_3341 : Int32).toInt := by rw [e_3324]; rfl
                    rw [fe_3347] at nv_3319
                    have h_3348 : fld (f_3312 a_0) 8 = (v_3330 : Int32).toInt := by rw [e_3324]; rfl
                    rw [h_3348] at hm_3323
                    exfalso; omega
                  | succ n_3321 ih_3322 =>
                    intro f_3312 hW_3313 hF_3314 nv_3316 nv_3317 nv_3318 nv_3319 hm_3323
                    have hf_3315 := hF_3314.at hf_3043 rfl
                    obtain ⟨v_3325, v_3326, v_3328, v_3330, v_3332, v_3334, v_3336, v_3337, v_3338, v_3339, v_3341, e_3324, b_3327, b_3329, b_3331, b_3333, b_3335, b_3340, b_3342⟩ := hW_3313.at m_1 t_2
                    have fe_3343 : fld (f_3312 a_0) 9 = (v_3332 : Int32).toInt := by rw [e_3324]; rfl
                    rw [fe_3343] at nv_3316
                    have fe_3344 : fld (f_3312 a_0) 8 = (v_3330 : Int32).toInt := by rw [e_3324]; rfl
                    have fe_3345 : fld (f_3312 a_0) 9 = (v_3332 : Int32).toInt := by rw [e_3324]; rfl
                    rw [fe_3344, fe_3345] at nv_3317
                    have fe_3346 : fld (f_3312 a_0) 12 = (v_3337 : Int32).toInt := by rw [e_3324]; rfl
                    rw [fe_3346] at nv_3318
                    have fe_3347 : fld (f_3312 a_0) 20 = (v_3341 : Int32).toInt := by rw [e_3324]; rfl
                    rw [fe_3347] at nv_3319
                    have h_3348 : fld (f_3312 a_0) 8 = (v_3330 : Int32).toInt := by rw [e_3324]; rfl
                    rw [h_3348] at hm_3323
                    refine v_aload_n hC dX12_advance_144 rfl ?_
                    refine v_aload_n hC dX12_advance_145 rfl ?_
                    refine v_get hC fl_X12_108 m_1 e_3324 rfl dX12_advance_146 ?_
                    refine v_vi hC (rest := []) m_1 e_3324 rfl mi_X12_see ms_X12_see (p_X12_see hW_3313 k_0 (by first | omega | (simp only [Int32.lt_iff_toInt_lt, Int32.le_iff_toInt_le, Int32.reduceToInt, ← Int32.toInt_inj, true_and, and_true, or_true, true_or, false_or, or_false, false_and, and_false, not_true_eq_false, not_false_eq_true] <;> omega))) mx_X12_see ml_X12_114 (by decide) rfl (cells1 := 0) (slots1 := 0) (by decide) (by decide) (Nat.le_of_ble_eq_true rfl) (Nat.le_of_ble_eq_true rfl) rfl (Nat.le_of_ble_eq_true rfl) dX12_advance_149 (fun r_3349 L_3350 f_3351 h_3352 => ?_)
                    obtain ⟨rfl, rfl, rfl⟩ := h_3352
                    have sb_3355 := sv_b (f_3312 a_0) (f_3312 (q 4)) v_3330
                    have fe_3356 : fld (f_3312 a_0) 7 = (v_3328 : Int32).toInt := by rw [e_3324]; rfl
                    rw [fe_3356] at sb_3355
                    obtain ⟨v_3357, h_3358⟩ : ∃ v9 : Int64, (sv (f_3312 a_0) (f_3312 (q 4)) v_3330).toInt64 = v9 := ⟨_, rfl⟩
                    refine v_i2l hC dX12_advance_152 h_3358 ?_
                    have h_3359 : v_3357.toInt = (sv (f_3312 a_0) (f_3312 (q 4)) v_3330).toInt := by rw [← h_3358]; exact Int32.toInt_toInt64 _
                    refine v_ldc2 hC kl_X12_127 dX12_advance_153 ?_
                    refine v_ldc2 hC kl_X12_129 dX12_advance_156 ?_
                    refine v_si hC (rest := []) mt_X12_in (p_X12_in hW_3313) mx_X12_in ml_X12_79 (by decide) rfl (cells1 := 0) (slots1 := 0) (by decide) (by decide) (Nat.le_of_ble_eq_true rfl) (Nat.le_of_ble_eq_true rfl) rfl (Nat.le_of_ble_eq_true rfl) dX12_advance_159 (fun r_3360 L_3361 f_3362 h_3363 => ?_)
                    obtain ⟨rfl, rfl, b_3364, x_3365⟩ := h_3363
                    try simp only [Int32.reduceToInt, Int64.reduceToInt] at x_3365
                    refine v_if_eq hC dX12_advance_162 (tgt := 207) (by decide) (fun h_3368 => ?_) (fun h_3368 => ?_)
                    · simp only [Int32.lt_iff_toInt_lt, Int32.le_iff_toInt_le, Int32.reduceToInt, ← Int32.toInt_inj] at h_3368
                      refine v_aload_n hC dX12_advance_207 rfl ?_
                      refine v_iconst hC dX12_advance_208 (v := 2) (by decide) ?_
                      refine v_put hC fl_X12_120 m_1 e_3324 rfl rfl (Nat.le_of_ble_eq_true rfl) (fs' := [.int v_3325, .ref (q 1), .ref (q 2), .ref (q 3), .ref (q 4), .int v_3326, .ref (q 6), .int v_3328, .int v_3330, .int v_3332, .int 2, .int v_3336, .int v_3337, .int v_3338, .ref (q 14), .ref (q 15), .ref (q 16), .int v_3339, .ref (q 18), .ref (q 19), .int v_3341, .ref (q 21), .ref (q 22), .ref (q 23), .ref (q 24), .ref (q 25), .ref (q 26), .ref (q 27), .ref (q 28)]) rfl dX12_advance_209 (fun f_3369 hf_3370 hk_3371 => ?_)
                      have hW_3372 := hW_3313.up hf_3370 hk_3371 t_2 ⟨v_3325, v_3326, v_3328, v_3330, v_3332, 2, v_3336, v_3337, v_3338, v_3339, v_3341, rfl, (by first | omega | (simp only [Int32.lt_iff_toInt_lt, Int32.le_iff_toInt_le, Int32.reduceToInt, ← Int32.toInt_inj, true_and, and_true, or_true, true_or, false_or, or_false, false_and, and_false, not_true_eq_false, not_false_eq_true] <;> omega)), (by first | omega | (simp only [Int32.lt_iff_toInt_lt, Int32.le_iff_toInt_le, Int32.reduceToInt, ← Int32.toInt_inj, true_and, and_true, or_true, true_or, false_or, or_false, false_and, and_false, not_true_eq_false, not_false_eq_true] <;> omega)), (by first | omega | (simp only [Int32.lt_iff_toInt_lt, Int32.le_iff_toInt_le, Int32.reduceToInt, ← Int32.toInt_inj, true_and, and_true, or_true, true_or, false_or, or_false, false_and, and_false, not_true_eq_false, not_false_eq_true] <;> omega)), (by first | omega | (simp only [Int32.lt_iff_toInt_lt, Int32.le_iff_toInt_le, Int32.reduceToInt, ← Int32.toInt_inj, true_and, and_true, or_true, true_or, false_or, or_false, false_and, and_false, not_true_eq_false, not_false_eq_true] <;> omega)), (by decide), (by first | omega | (simp only [Int32.lt_iff_toInt_lt, Int32.le_iff_toInt_le, Int32.reduceToInt, ← Int32.toInt_inj, true_and, and_true, or_true, true_or, false_or, or_false, false_and, and_false, not_true_eq_false, not_false_eq_true] <;> omega)), (by first | omega | (simp only [Int32.lt_iff_toInt_lt, Int32.le_iff_toInt_le, Int32.reduceToInt, ← Int32.toInt_inj, true_and, and_true, or_true, true_or, false_or, or_false, false_and, and_false, not_true_eq_false, not_false_eq_true] <;> omega))⟩
                      have hf_3373 := (hk_3371 (q 4) (ne_kd hf_3315 e_3324 rfl)).trans hf_3315
                      have fr_3374 := FR.w hk_3371 e_3324 (k := 12) rfl
                      refine v_goto hC dX12_advance_212 (tgt := 240) (by decide) ?_
                      have fe_3375 : fld (f_3369 a_0) 8 = (v_3330 : Int32).toInt := by rw [hf_3370]; rfl
                      have fe_3376 : fld (f_3369 a_0) 9 = (v_3332 : Int32).toInt := by rw [hf_3370]; rfl
                      have fe_3377 : fld (f_3369 a_0) 8 = (v_3330 : Int32).toInt := by rw [hf_3370]; rfl
                      have fe_3378 : fld (f_3369 a_0) 9 = (v_3332 : Int32).toInt := by rw [hf_3370]; rfl
                      have fe_3379 : fld (f_3369 a_0) 10 = (2 : Int32).toInt := by rw [hf_3370]; rfl
                      simp only [Int32.reduceToInt] at fe_3379
                      have fe_3380 : fld (f_3369 a_0) 12 = (v_3337 : Int32).toInt := by rw [hf_3370]; rfl
                      have fe_3381 : fld (f_3369 a_0) 20 = (v_3341 : Int32).toInt := by rw [hf_3370]; rfl
                      exact hR _ _ _ _ _ _ dX12_advance_240 (Nat.le_of_ble_eq_true rfl) (Nat.le_of_ble_eq_true rfl) ⟨rfl, hW_3372, (((((((hF_2812.tr fr_2901).tr fr_2991).tr fr_3035).tr fr_3044).tr hF_3314).tr fr_3374).mono rfl), (by simp only [fe_3375, fe_3376, mz_41, true_and, and_true, or_true, true_or, false_or, or_false, false_and, and_false, not_true_eq_false, not_false_eq_true] <;> first | omega | (simp only [Int32.lt_iff_toInt_lt, Int32.le_iff_toInt_le, Int32.reduceToInt, ← Int32.toInt_inj, true_and, and_true, or_true, true_or, false_or, or_false, false_and, and_false, not_true_eq_false, not_false_eq_true] <;> omega)), (by simp only [fe_3377, fe_3378, fe_3379, true_and, and_true, or_true, true_or, false_or, or_false, false_and, and_false, not_true_eq_false, not_false_eq_true] <;> first | omega | (simp only [Int32.lt_iff_toInt_lt, Int32.le_iff_toInt_le, Int32.reduceToInt, ← Int32.toInt_inj, true_and, and_true, or_true, true_or, false_or, or_false, false_and, and_false, not_true_eq_false, not_false_eq_true] <;> omega)), (by simp only [fe_3380, mz_42, true_and, and_true, or_true, true_or, false_or, or_false, false_and, and_false, not_true_eq_false, not_false_eq_true] <;> first | omega | (simp only [Int32.lt_iff_toInt_lt, Int32.le_iff_toInt_le, Int32.reduceToInt, ← Int32.toInt_inj, true_and, and_true, or_true, true_or, false_or, or_false, false_and, and_false, not_true_eq_false, not_false_eq_true] <;> omega)), (by simp only [fe_3381, mz_43, true_and, and_true, or_true, true_or, false_or, or_false, false_and, and_false, not_true_eq_false, not_false_eq_true] <;> first | omega | (simp only [Int32.lt_iff_toInt_lt, Int32.le_iff_toInt_le, Int32.reduceToInt, ← Int32.toInt_inj, true_and, and_true, or_true, true_or, false_or, or_false, false_and, and_false, not_true_eq_false, not_false_eq_true] <;> omega))⟩
                    · simp only [Int32.lt_iff_toInt_lt, Int32.le_iff_toInt_le, Int32.reduceToInt, ← Int32.toInt_inj] at h_3368
                      refine v_aload_n hC dX12_advance_165 rfl ?_
                      refine v_sipush hC dX12_advance_166 (v := 9999) (by decide) ?_
                      refine v_bipush hC dX12_advance_169 (v := 10) (by decide) ?_
                      refine v_aload_n hC dX12_advance_171 rfl ?_
                      refine v_get hC fl_X12_131 m_1 e_3324 rfl dX12_advance_172 ?_
                      obtain ⟨v_3382, h_3383⟩ : ∃ v9 : Int32, (10 : Int32) * v_3336 = v9 := ⟨_, rfl⟩
                      refine v_imul hC dX12_advance_175 h_3383 ?_
                      refine v_aload_n hC dX12_advance_176 rfl ?_
                      refine v_aload_n hC dX12_advance_177 rfl ?_
                      refine v_get hC fl_X12_108 m_1 e_3324 rfl dX12_advance_178 ?_
                      refine v_vi hC (rest := [.int v_3382, .int 9999, .ref a_0]) m_1 e_3324 rfl mi_X12_see ms_X12_see (p_X12_see hW_3313 k_0 (by first | omega | (simp only [Int32.lt_iff_toInt_lt, Int32.le_iff_toInt_le, Int32.reduceToInt, ← Int32.toInt_inj, true_and, and_true, or_true, true_or, false_or, or_false, false_and, and_false, not_true_eq_false, not_false_eq_true] <;> omega))) mx_X12_see ml_X12_114 (by decide) rfl (cells1 := 0) (slots1 := 0) (by decide) (by decide) (Nat.le_of_ble_eq_true rfl) (Nat.le_of_ble_eq_true rfl) rfl (Nat.le_of_ble_eq_true rfl) dX12_advance_181 (fun r_3385 L_3386 f_3387 h_3388 => ?_)
                      obtain ⟨rfl, rfl, rfl⟩ := h_3388
                      have sb_3391 := sv_b (f_3312 a_0) (f_3312 (q 4)) v_3330
                      have fe_3392 : fld (f_3312 a_0) 7 = (v_3328 : Int32).toInt := by rw [e_3324]; rfl
                      rw [fe_3392] at sb_3391
                      obtain ⟨v_3393, h_3394⟩ : ∃ v9 : Int32, v_3382 + (sv (f_3312 a_0) (f_3312 (q 4)) v_3330) = v9 := ⟨_, rfl⟩
                      refine v_iadd hC dX12_advance_184 h_3394 ?_
                      refine v_bipush hC dX12_advance_185 (v := 48) (by decide) ?_
                      obtain ⟨v_3396, h_3397⟩ : ∃ v9 : Int32, v_3393 - 48 = v9 := ⟨_, rfl⟩
                      refine v_isub hC dX12_advance_187 h_3397 ?_
                      obtain ⟨v_3399, h_3400⟩ : ∃ v9 : Int32, (if v_3396 < (9999 : Int32) then v_3396 else (9999 : Int32)) = v9 := ⟨_, rfl⟩
                      refine v_mmin hC mm_X12_134 mm_smin mm_i mm_cmin (by decide) (Nat.le_of_ble_eq_true rfl) (Nat.le_of_ble_eq_true rfl) (Nat.le_of_ble_eq_true rfl) h_3400 dX12_advance_188 ?_
                      have b_3401 := min_v h_3400
                      try simp only [Int32.reduceToInt] at b_3401
                      refine v_put hC fl_X12_131 m_1 e_3324 rfl rfl (Nat.le_of_ble_eq_true rfl) (fs' := [.int v_3325, .ref (q 1), .ref (q 2), .ref (q 3), .ref (q 4), .int v_3326, .ref (q 6), .int v_3328, .int v_3330, .int v_3332, .int v_3334, .int v_3399, .int v_3337, .int v_3338, .ref (q 14), .ref (q 15), .ref (q 16), .int v_3339, .ref (q 18), .ref (q 19), .int v_3341, .ref (q 21), .ref (q 22), .ref (q 23), .ref (q 24), .ref (q 25), .ref (q 26), .ref (q 27), .ref (q 28)]) rfl dX12_advance_191 (fun f_3402 hf_3403 hk_3404 => ?_)
                      have hW_3405 := hW_3313.up hf_3403 hk_3404 t_2 ⟨v_3325, v_3326, v_3328, v_3330, v_3332, v_3334, v_3399, v_3337, v_3338, v_3339, v_3341, rfl, (by first | omega | (simp only [Int32.lt_iff_toInt_lt, Int32.le_iff_toInt_le, Int32.reduceToInt, ← Int32.toInt_inj, true_and, and_true, or_true, true_or, false_or, or_false, false_and, and_false, not_true_eq_false, not_false_eq_true] <;> omega)), (by first | omega | (simp only [Int32.lt_iff_toInt_lt, Int32.le_iff_toInt_le, Int32.reduceToInt, ← Int32.toInt_inj, true_and, and_true, or_true, true_or, false_or, or_false, false_and, and_false, not_true_eq_false, not_false_eq_true] <;> omega)), (by first | omega | (simp only [Int32.lt_iff_toInt_lt, Int32.le_iff_toInt_le, Int32.reduceToInt, ← Int32.toInt_inj, true_and, and_true, or_true, true_or, false_or, or_false, false_and, and_false, not_true_eq_false, not_false_eq_true] <;> omega)), (by first | omega | (simp only [Int32.lt_iff_toInt_lt, Int32.le_iff_toInt_le, Int32.reduceToInt, ← Int32.toInt_inj, true_and, and_true, or_true, true_or, false_or, or_false, false_and, and_false, not_true_eq_false, not_false_eq_true] <;> omega)), (by first | omega | (simp only [Int32.lt_iff_toInt_lt, Int32.le_iff_toInt_le, Int32.reduceToInt, ← Int32.toInt_inj, true_and, and_true, or_true, true_or, false_or, or_false, false_and, and_false, not_true_eq_false, not_false_eq_true] <;> omega)), (by first | omega | (simp only [Int32.lt_iff_toInt_lt, Int32.le_iff_toInt_le, Int32.reduceToInt, ← Int32.toInt_inj, true_and, and_true, or_true, true_or, false_or, or_false, false_and, and_false, not_true_eq_false, not_false_eq_true] <;> omega)), (by first | omega | (simp only [Int32.lt_iff_toInt_lt, Int32.le_iff_toInt_le, Int32.reduceToInt, ← Int32.toInt_inj, true_and, and_true, or_true, true_or, false_or, or_false, false_and, and_false, not_true_eq_false, not_false_eq_true] <;> omega))⟩
                      have hf_3406 := (hk_3404 (q 4) (ne_kd hf_3315 e_3324 rfl)).trans hf_3315
                      have fr_3407 := FR.w hk_3404 e_3324 (k := 12) rfl
                      refine v_aload_n hC dX12_advance_194 rfl ?_
                      refine v_dup hC dX12_advance_195 rfl ?_
                      refine v_get hC fl_X12_108 m_1 hf_3403 rfl dX12_advance_196 ?_
                      refine v_iconst hC dX12_advance_199 (v := 1) (by decide) ?_
                      obtain ⟨v_3408, h_3409⟩ : ∃ v9 : Int32, v_3330 + 1 = v9 := ⟨_, rfl⟩
                      refine v_iadd hC dX12_advance_200 h_3409 ?_
                      have h_3410 := add_v h_3409 (by first | omega | (simp only [Int32.lt_iff_toInt_lt, Int32.le_iff_toInt_le, Int32.reduceToInt, ← Int32.toInt_inj, true_and, and_true, or_true, true_or, false_or, or_false, false_and, and_false, not_true_eq_false, not_false_eq_true] <;> omega)) (by first | omega | (simp only [Int32.lt_iff_toInt_lt, Int32.le_iff_toInt_le, Int32.reduceToInt, ← Int32.toInt_inj, true_and, and_true, or_true, true_or, false_or, or_false, false_and, and_false, not_true_eq_false, not_false_eq_true] <;> omega))
                      try simp only [Int32.reduceToInt] at h_3410
                      refine v_put hC fl_X12_108 m_1 hf_3403 rfl rfl (Nat.le_of_ble_eq_true rfl) (fs' := [.int v_3325, .ref (q 1), .ref (q 2), .ref (q 3), .ref (q 4), .int v_3326, .ref (q 6), .int v_3328, .int v_3408, .int v_3332, .int v_3334, .int v_3399, .int v_3337, .int v_3338, .ref (q 14), .ref (q 15), .ref (q 16), .int v_3339, .ref (q 18), .ref (q 19), .int v_3341, .ref (q 21), .ref (q 22), .ref (q 23), .ref (q 24), .ref (q 25), .ref (q 26), .ref (q 27), .ref (q 28)]) rfl dX12_advance_201 (fun f_3411 hf_3412 hk_3413 => ?_)
                      have hW_3414 := hW_3405.up hf_3412 hk_3413 t_2 ⟨v_3325, v_3326, v_3328, v_3408, v_3332, v_3334, v_3399, v_3337, v_3338, v_3339, v_3341, rfl, (by first | omega | (simp only [Int32.lt_iff_toInt_lt, Int32.le_iff_toInt_le, Int32.reduceToInt, ← Int32.toInt_inj, true_and, and_true, or_true, true_or, false_or, or_false, false_and, and_false, not_true_eq_false, not_false_eq_true] <;> omega)), (by first | omega | (simp only [Int32.lt_iff_toInt_lt, Int32.le_iff_toInt_le, Int32.reduceToInt, ← Int32.toInt_inj, true_and, and_true, or_true, true_or, false_or, or_false, false_and, and_false, not_true_eq_false, not_false_eq_true] <;> omega)), (by first | omega | (simp only [Int32.lt_iff_toInt_lt, Int32.le_iff_toInt_le, Int32.reduceToInt, ← Int32.toInt_inj, true_and, and_true, or_true, true_or, false_or, or_false, false_and, and_false, not_true_eq_false, not_false_eq_true] <;> omega)), (by first | omega | (simp only [Int32.lt_iff_toInt_lt, Int32.le_iff_toInt_le, Int32.reduceToInt, ← Int32.toInt_inj, true_and, and_true, or_true, true_or, false_or, or_false, false_and, and_false, not_true_eq_false, not_false_eq_true] <;> omega)), (by first | omega | (simp only [Int32.lt_iff_toInt_lt, Int32.le_iff_toInt_le, Int32.reduceToInt, ← Int32.toInt_inj, true_and, and_true, or_true, true_or, false_or, or_false, false_and, and_false, not_true_eq_false, not_false_eq_true] <;> omega)), (by first | omega | (simp only [Int32.lt_iff_toInt_lt, Int32.le_iff_toInt_le, Int32.reduceToInt, ← Int32.toInt_inj, true_and, and_true, or_true, true_or, false_or, or_false, false_and, and_false, not_true_eq_false, not_false_eq_true] <;> omega)), (by first | omega | (simp only [Int32.lt_iff_toInt_lt, Int32.le_iff_toInt_le, Int32.reduceToInt, ← Int32.toInt_inj, true_and, and_true, or_true, true_or, false_or, or_false, false_and, and_false, not_true_eq_false, not_false_eq_true] <;> omega))⟩
                      have hf_3415 := (hk_3413 (q 4) (ne_kd hf_3406 hf_3403 rfl)).trans hf_3406
                      have fr_3416 := FR.w hk_3413 hf_3403 (k := 12) rfl
                      refine v_goto hC dX12_advance_204 (tgt := 144) (by decide) ?_
                      refine v_pick [0] rfl ?_
                      have fe_3417 : fld (f_3411 a_0) 9 = (v_3332 : Int32).toInt := by rw [hf_3412]; rfl
                      have fe_3418 : fld (f_3411 a_0) 8 = (v_3408 : Int32).toInt := by rw [hf_3412]; rfl
                      have fe_3419 : fld (f_3411 a_0) 9 = (v_3332 : Int32).toInt := by rw [hf_3412]; rfl
                      have fe_3420 : fld (f_3411 a_0) 12 = (v_3337 : Int32).toInt := by rw [hf_3412]; rfl
                      have fe_3421 : fld (f_3411 a_0) 20 = (v_3341 : Int32).toInt := by rw [hf_3412]; rfl
                      have h_3422 : fld (f_3411 a_0) 8 = (v_3408 : Int32).toInt := by rw [hf_3412]; rfl
                      exact ih_3322 f_3411 hW_3414 (((hF_3314.tr fr_3407).tr fr_3416).mono rfl) (by rw [fe_3417] <;> first | omega | (simp only [Int32.lt_iff_toInt_lt, Int32.le_iff_toInt_le, Int32.reduceToInt, ← Int32.toInt_inj, true_and, and_true, or_true, true_or, false_or, or_false, false_and, and_false, not_true_eq_false, not_false_eq_true] <;> omega)) (by rw [fe_3418, fe_3419] <;> first | omega | (simp only [Int32.lt_iff_toInt_lt, Int32.le_iff_toInt_le, Int32.reduceToInt, ← Int32.toInt_inj, true_and, and_true, or_true, true_or, false_or, or_false, false_and, and_false, not_true_eq_false, not_false_eq_true] <;> omega)) (by rw [fe_3420] <;> first | omega | (simp only [Int32.lt_iff_toInt_lt, Int32.le_iff_toInt_le, Int32.reduceToInt, ← Int32.toInt_inj, true_and, and_true, or_true, true_or, false_or, or_false, false_and, and_false, not_true_eq_false, not_false_eq_true] <;> omega)) (by rw [fe_3421] <;> first | omega | (simp only [Int32.lt_iff_toInt_lt, Int32.le_iff_toInt_le, Int32.reduceToInt, ← Int32.toInt_inj, true_and, and_true, or_true, true_or, false_or, or_false, false_and, and_false, not_true_eq_false, not_false_eq_true] <;> omega)) (by rw [h_3422]; omega)
                refine v_pick [1] rfl ?_
                have fe_3423 : fld (f_3039 a_0) 9 = (v_2826 : Int32).toInt := by rw [hf_3040]; rfl
                have fe_3424 : fld (f_3039 a_0) 8 = (v_3036 : Int32).toInt := by rw [hf_3040]; rfl
                have fe_3425 : fld (f_3039 a_0) 9 = (v_2826 : Int32).toInt := by rw [hf_3040]; rfl
                have fe_3426 : fld (f_3039 a_0) 12 = (v_2833 : Int32).toInt := by rw [hf_3040]; rfl
                have fe_3427 : fld (f_3039 a_0) 20 = (v_2837 : Int32).toInt := by rw [hf_3040]; rfl
                have h_3428 : fld (f_3039 a_0) 8 = (v_3036 : Int32).toInt := by rw [hf_3040]; rfl
                exact lp_3320 602 f_3039 hW_3042 FR.rf (by rw [fe_3423] <;> first | omega | (simp only [Int32.lt_iff_toInt_lt, Int32.le_iff_toInt_le, Int32.reduceToInt, ← Int32.toInt_inj, true_and, and_true, or_true, true_or, false_or, or_false, false_and, and_false, not_true_eq_false, not_false_eq_true] <;> omega)) (by rw [fe_3424, fe_3425] <;> first | omega | (simp only [Int32.lt_iff_toInt_lt, Int32.le_iff_toInt_le, Int32.reduceToInt, ← Int32.toInt_inj, true_and, and_true, or_true, true_or, false_or, or_false, false_and, and_false, not_true_eq_false, not_false_eq_true] <;> omega)) (by rw [fe_3426] <;> first | omega | (simp only [Int32.lt_iff_toInt_lt, Int32.le_iff_toInt_le, Int32.reduceToInt, ← Int32.toInt_inj, true_and, and_true, or_true, true_or, false_or, or_false, false_and, and_false, not_true_eq_false, not_false_eq_true] <;> omega)) (by rw [fe_3427] <;> first | omega | (simp only [Int32.lt_iff_toInt_lt, Int32.le_iff_toInt_le, Int32.reduceToInt, ← Int32.toInt_inj, true_and, and_true, or_true, true_or, false_or, or_false, false_and, and_false, not_true_eq_false, not_false_eq_true] <;> omega)) (by rw [h_3428]; omega)
            · simp only [Int32.lt_iff_toInt_lt, Int32.le_iff_toInt_le, Int32.reduceToInt, ← Int32.toInt_inj] at h_2928
              refine v_aload_n hC dX12_advance_83 rfl ?_
              refine v_aload_n hC dX12_advance_84 rfl ?_
              refine v_get hC fl_X12_108 m_1 hf_2898 rfl dX12_advance_85 ?_
              refine v_vi hC (rest := []) m_1 hf_2898 rfl mi_X12_see ms_X12_see (p_X12_see hW_2900 k_0 (by first | omega | (simp only [Int32.lt_iff_toInt_lt, Int32.le_iff_toInt_le, Int32.reduceToInt, ← Int32.toInt_inj, true_and, and_true, or_true, true_or, false_or, or_false, false_and, and_false, not_true_eq_false, not_false_eq_true] <;> omega))) mx_X12_see ml_X12_114 (by decide) rfl (cells1 := 0) (slots1 := 0) (by decide) (by decide) (Nat.le_of_ble_eq_true rfl) (Nat.le_of_ble_eq_true rfl) rfl (Nat.le_of_ble_eq_true rfl) dX12_advance_88 (fun r_3429 L_3430 f_3431 h_3432 => ?_)
              obtain ⟨rfl, rfl, rfl⟩ := h_3432
              have sb_3435 := sv_b (f_2897 a_0) (f_2897 (q 4)) v_2826
              have fe_3436 : fld (f_2897 a_0) 7 = (v_2824 : Int32).toInt := by rw [hf_2898]; rfl
              rw [fe_3436] at sb_3435
              obtain ⟨v_3437, h_3438⟩ : ∃ v9 : Int64, (sv (f_2897 a_0) (f_2897 (q 4)) v_2826).toInt64 = v9 := ⟨_, rfl⟩
              refine v_i2l hC dX12_advance_91 h_3438 ?_
              have h_3439 : v_3437.toInt = (sv (f_2897 a_0) (f_2897 (q 4)) v_2826).toInt := by rw [← h_3438]; exact Int32.toInt_toInt64 _
              refine v_ldc2 hC kl_X12_123 dX12_advance_92 ?_
              refine v_ldc2 hC kl_X12_125 dX12_advance_95 ?_
              refine v_si hC (rest := []) mt_X12_in (p_X12_in hW_2900) mx_X12_in ml_X12_79 (by decide) rfl (cells1 := 0) (slots1 := 0) (by decide) (by decide) (Nat.le_of_ble_eq_true rfl) (Nat.le_of_ble_eq_true rfl) rfl (Nat.le_of_ble_eq_true rfl) dX12_advance_98 (fun r_3440 L_3441 f_3442 h_3443 => ?_)
              obtain ⟨rfl, rfl, b_3444, x_3445⟩ := h_3443
              try simp only [Int32.reduceToInt, Int64.reduceToInt] at x_3445
              refine v_if_eq_f hC dX12_advance_101 (tgt := 117) (by decide) (by first | omega | (simp only [Int32.lt_iff_toInt_lt, Int32.le_iff_toInt_le, Int32.reduceToInt, ← Int32.toInt_inj, true_and, and_true, or_true, true_or, false_or, or_false, false_and, and_false, not_true_eq_false, not_false_eq_true] <;> omega)) ?_
              refine v_aload_n hC dX12_advance_104 rfl ?_
              refine v_dup hC dX12_advance_105 rfl ?_
              refine v_get hC fl_X12_108 m_1 hf_2898 rfl dX12_advance_106 ?_
              refine v_iconst hC dX12_advance_109 (v := 1) (by decide) ?_
              obtain ⟨v_3448, h_3449⟩ : ∃ v9 : Int32, v_2826 + 1 = v9 := ⟨_, rfl⟩
              refine v_iadd hC dX12_advance_110 h_3449 ?_
              have h_3450 := add_v h_3449 (by first | omega | (simp only [Int32.lt_iff_toInt_lt, Int32.le_iff_toInt_le, Int32.reduceToInt, ← Int32.toInt_inj, true_and, and_true, or_true, true_or, false_or, or_false, false_and, and_false, not_true_eq_false, not_false_eq_true] <;> omega)) (by first | omega | (simp only [Int32.lt_iff_toInt_lt, Int32.le_iff_toInt_le, Int32.reduceToInt, ← Int32.toInt_inj, true_and, and_true, or_true, true_or, false_or, or_false, false_and, and_false, not_true_eq_false, not_false_eq_true] <;> omega))
              try simp only [Int32.reduceToInt] at h_3450
              refine v_put hC fl_X12_108 m_1 hf_2898 rfl rfl (Nat.le_of_ble_eq_true rfl) (fs' := [.int v_2821, .ref (q 1), .ref (q 2), .ref (q 3), .ref (q 4), .int v_2822, .ref (q 6), .int v_2824, .int v_3448, .int v_2826, .int v_2830, .int v_2832, .int v_2833, .int v_2834, .ref (q 14), .ref (q 15), .ref (q 16), .int v_2835, .ref (q 18), .ref (q 19), .int v_2837, .ref (q 21), .ref (q 22), .ref (q 23), .ref (q 24), .ref (q 25), .ref (q 26), .ref (q 27), .ref (q 28)]) rfl dX12_advance_111 (fun f_3451 hf_3452 hk_3453 => ?_)
              have hW_3454 := hW_2900.up hf_3452 hk_3453 t_2 ⟨v_2821, v_2822, v_2824, v_3448, v_2826, v_2830, v_2832, v_2833, v_2834, v_2835, v_2837, rfl, (by first | omega | (simp only [Int32.lt_iff_toInt_lt, Int32.le_iff_toInt_le, Int32.reduceToInt, ← Int32.toInt_inj, true_and, and_true, or_true, true_or, false_or, or_false, false_and, and_false, not_true_eq_false, not_false_eq_true] <;> omega)), (by first | omega | (simp only [Int32.lt_iff_toInt_lt, Int32.le_iff_toInt_le, Int32.reduceToInt, ← Int32.toInt_inj, true_and, and_true, or_true, true_or, false_or, or_false, false_and, and_false, not_true_eq_false, not_false_eq_true] <;> omega)), (by first | omega | (simp only [Int32.lt_iff_toInt_lt, Int32.le_iff_toInt_le, Int32.reduceToInt, ← Int32.toInt_inj, true_and, and_true, or_true, true_or, false_or, or_false, false_and, and_false, not_true_eq_false, not_false_eq_true] <;> omega)), (by first | omega | (simp only [Int32.lt_iff_toInt_lt, Int32.le_iff_toInt_le, Int32.reduceToInt, ← Int32.toInt_inj, true_and, and_true, or_true, true_or, false_or, or_false, false_and, and_false, not_true_eq_false, not_false_eq_true] <;> omega)), (by first | omega | (simp only [Int32.lt_iff_toInt_lt, Int32.le_iff_toInt_le, Int32.reduceToInt, ← Int32.toInt_inj, true_and, and_true, or_true, true_or, false_or, or_false, false_and, and_false, not_true_eq_false, not_false_eq_true] <;> omega)), (by first | omega | (simp only [Int32.lt_iff_toInt_lt, Int32.le_iff_toInt_le, Int32.reduceToInt, ← Int32.toInt_inj, true_and, and_true, or_true, true_or, false_or, or_false, false_and, and_false, not_true_eq_false, not_false_eq_true] <;> omega)), (by first | omega | (simp only [Int32.lt_iff_toInt_lt, Int32.le_iff_toInt_le, Int32.reduceToInt, ← Int32.toInt_inj, true_and, and_true, or_true, true_or, false_or, or_false, false_and, and_false, not_true_eq_false, not_false_eq_true] <;> omega))⟩
              have hf_3455 := (hk_3453 (q 4) (ne_kd e_2912 hf_2898 rfl)).trans e_2912
              have fr_3456 := FR.w hk_3453 hf_2898 (k := 12) rfl
              refine v_goto hC dX12_advance_114 (tgt := 83) (by decide) ?_
              have lp_3654 : ∀ (n_3655 : Nat) (f_3646 : Nat → va_E) (hW_3647 : WT T L f_3646) (hF_3648 : FR [12] f_3451 f_3646)  (nv_3650 : v_28.toInt ≤ fld (f_3646 a_0) 9) (nv_3651 : fld (f_3646 a_0) 9 < fld (f_3646 a_0) 8) (nv_3652 : fld (f_3646 a_0) 12 = v_35.toInt) (nv_3653 : fld (f_3646 a_0) 20 = v_39.toInt) (hm_3657 : 600 - fld (f_3646 a_0) 8 < (n_3655 : Int)), V z E 2 0 0 L f_3646 83 [(0, .ref a_0)] [] := by
                intro n_3655
                induction n_3655 with
                | zero =>
                  intro f_3646 hW_3647 hF_3648 nv_3650 nv_3651 nv_3652 nv_3653 hm_3657
                  have hf_3649 := hF_3648.at hf_3455 rfl
                  obtain ⟨v_3659, v_3660, v_3662, v_3664, v_3666, v_3668, v_3670, v_3671, v_3672, v_3673, v_3675, e_3658, b_3661, b_3663, b_3665, b_3667, b_3669, b_3674, b_3676⟩ := hW_3647.at m_1 t_2
                  have fe_3677 : fld (f_3646 a_0) 9 = (v_3666 : Int32).toInt := by rw [e_3658]; rfl
                  rw [fe_3677] at nv_3650
                  have fe_3678 : fld (f_3646 a_0) 8 = (v_3664 : Int32).toInt := by rw [e_3658]; rfl
                  have fe_3679 : fld (f_3646 a_0) 9 = (v_3666 : Int32).toInt := by rw [e_3658]; rfl
                  rw [fe_3678, fe_3679] at nv_3651
                  have fe_3680 : fld (f_3646 a_0) 12 = (v_3671 : Int32).toInt := by rw [e_3658]; rfl
                  rw [fe_3680] at nv_3652
                  have fe_3681 : fld (f_3646 a_0) 20 = (v_3675 : Int32).toInt := by rw [e_3658]; rfl
                  rw [fe_3681] at nv_3653
                  have h_3682 : fld (f_3646 a_0) 8 = (v_3664 : Int32).toInt := by rw [e_3658]; rfl
                  rw [h_3682] at hm_3657
                  exfalso; omega
                | succ n_3655 ih_3656 =>
                  intro f_3646 hW_3647 hF_3648 nv_3650 nv_3651 nv_3652 nv_3653 hm_3657
                  have hf_3649 := hF_3648.at hf_3455 rfl
                  obtain ⟨v_3659, v_3660, v_3662, v_3664, v_3666, v_3668, v_3670, v_3671, v_3672, v_3673, v_3675, e_3658, b_3661, b_3663, b_3665, b_3667, b_3669, b_3674, b_3676⟩ := hW_3647.at m_1 t_2
                  have fe_3677 : fld (f_3646 a_0) 9 = (v_3666 : Int32).toInt := by rw [e_3658]; rfl
                  rw [fe_3677] at nv_3650
                  have fe_3678 : fld (f_3646 a_0) 8 = (v_3664 : Int32).toInt := by rw [e_3658]; rfl
                  have fe_3679 : fld (f_3646 a_0) 9 = (v_3666 : Int32).toInt := by rw [e_3658]; rfl
                  rw [fe_3678, fe_3679] at nv_3651
                  have fe_3680 : fld (f_3646 a_0) 12 = (v_3671 : Int32).toInt := by rw [e_3658]; rfl
                  rw [fe_3680] at nv_3652
                  have fe_3681 : fld (f_3646 a_0) 20 = (v_3675 : Int32).toInt := by rw [e_3658]; rfl
                  rw [fe_3681] at nv_3653
                  have h_3682 : fld (f_3646 a_0) 8 = (v_3664 : Int32).toInt := by rw [e_3658]; rfl
                  rw [h_3682] at hm_3657
                  refine v_aload_n hC dX12_advance_83 rfl ?_
                  refine v_aload_n hC dX12_advance_84 rfl ?_
                  refine v_get hC fl_X12_108 m_1 e_3658 rfl dX12_advance_85 ?_
                  refine v_vi hC (rest := []) m_1 e_3658 rfl mi_X12_see ms_X12_see (p_X12_see hW_3647 k_0 (by first | omega | (simp only [Int32.lt_iff_toInt_lt, Int32.le_iff_toInt_le, Int32.reduceToInt, ← Int32.toInt_inj, true_and, and_true, or_true, true_or, false_or, or_false, false_and, and_false, not_true_eq_false, not_false_eq_true] <;> omega))) mx_X12_see ml_X12_114 (by decide) rfl (cells1 := 0) (slots1 := 0) (by decide) (by decide) (Nat.le_of_ble_eq_true rfl) (Nat.le_of_ble_eq_true rfl) rfl (Nat.le_of_ble_eq_true rfl) dX12_advance_88 (fun r_3683 L_3684 f_3685 h_3686 => ?_)
                  obtain ⟨rfl, rfl, rfl⟩ := h_3686
                  have sb_3689 := sv_b (f_3646 a_0) (f_3646 (q 4)) v_3664
                  have fe_3690 : fld (f_3646 a_0) 7 = (v_3662 : Int32).toInt := by rw [e_3658]; rfl
                  rw [fe_3690] at sb_3689
                  obtain ⟨v_3691, h_3692⟩ : ∃ v9 : Int64, (sv (f_3646 a_0) (f_3646 (q 4)) v_3664).toInt64 = v9 := ⟨_, rfl⟩
                  refine v_i2l hC dX12_advance_91 h_3692 ?_
                  have h_3693 : v_3691.toInt = (sv (f_3646 a_0) (f_3646 (q 4)) v_3664).toInt := by rw [← h_3692]; exact Int32.toInt_toInt64 _
                  refine v_ldc2 hC kl_X12_123 dX12_advance_92 ?_
                  refine v_ldc2 hC kl_X12_125 dX12_advance_95 ?_
                  refine v_si hC (rest := []) mt_X12_in (p_X12_in hW_3647) mx_X12_in ml_X12_79 (by decide) rfl (cells1 := 0) (slots1 := 0) (by decide) (by decide) (Nat.le_of_ble_eq_true rfl) (Nat.le_of_ble_eq_true rfl) rfl (Nat.le_of_ble_eq_true rfl) dX12_advance_98 (fun r_3694 L_3695 f_3696 h_3697 => ?_)
                  obtain ⟨rfl, rfl, b_3698, x_3699⟩ := h_3697
                  try simp only [Int32.reduceToInt, Int64.reduceToInt] at x_3699
                  refine v_if_eq hC dX12_advance_101 (tgt := 117) (by decide) (fun h_3702 => ?_) (fun h_3702 => ?_)
                  · simp only [Int32.lt_iff_toInt_lt, Int32.le_iff_toInt_le, Int32.reduceToInt, ← Int32.toInt_inj] at h_3702
                    refine v_aload_n hC dX12_advance_117 rfl ?_
                    refine v_iconst hC dX12_advance_118 (v := 1) (by decide) ?_
                    refine v_put hC fl_X12_120 m_1 e_3658 rfl rfl (Nat.le_of_ble_eq_true rfl) (fs' := [.int v_3659, .ref (q 1), .ref (q 2), .ref (q 3), .ref (q 4), .int v_3660, .ref (q 6), .int v_3662, .int v_3664, .int v_3666, .int 1, .int v_3670, .int v_3671, .int v_3672, .ref (q 14), .ref (q 15), .ref (q 16), .int v_3673, .ref (q 18), .ref (q 19), .int v_3675, .ref (q 21), .ref (q 22), .ref (q 23), .ref (q 24), .ref (q 25), .ref (q 26), .ref (q 27), .ref (q 28)]) rfl dX12_advance_119 (fun f_3703 hf_3704 hk_3705 => ?_)
                    have hW_3706 := hW_3647.up hf_3704 hk_3705 t_2 ⟨v_3659, v_3660, v_3662, v_3664, v_3666, 1, v_3670, v_3671, v_3672, v_3673, v_3675, rfl, (by first | omega | (simp only [Int32.lt_iff_toInt_lt, Int32.le_iff_toInt_le, Int32.reduceToInt, ← Int32.toInt_inj, true_and, and_true, or_true, true_or, false_or, or_false, false_and, and_false, not_true_eq_false, not_false_eq_true] <;> omega)), (by first | omega | (simp only [Int32.lt_iff_toInt_lt, Int32.le_iff_toInt_le, Int32.reduceToInt, ← Int32.toInt_inj, true_and, and_true, or_true, true_or, false_or, or_false, false_and, and_false, not_true_eq_false, not_false_eq_true] <;> omega)), (by first | omega | (simp only [Int32.lt_iff_toInt_lt, Int32.le_iff_toInt_le, Int32.reduceToInt, ← Int32.toInt_inj, true_and, and_true, or_true, true_or, false_or, or_false, false_and, and_false, not_true_eq_false, not_false_eq_true] <;> omega)), (by first | omega | (simp only [Int32.lt_iff_toInt_lt, Int32.le_iff_toInt_le, Int32.reduceToInt, ← Int32.toInt_inj, true_and, and_true, or_true, true_or, false_or, or_false, false_and, and_false, not_true_eq_false, not_false_eq_true] <;> omega)), (by decide), (by first | omega | (simp only [Int32.lt_iff_toInt_lt, Int32.le_iff_toInt_le, Int32.reduceToInt, ← Int32.toInt_inj, true_and, and_true, or_true, true_or, false_or, or_false, false_and, and_false, not_true_eq_false, not_false_eq_true] <;> omega)), (by first | omega | (simp only [Int32.lt_iff_toInt_lt, Int32.le_iff_toInt_le, Int32.reduceToInt, ← Int32.toInt_inj, true_and, and_true, or_true, true_or, false_or, or_false, false_and, and_false, not_true_eq_false, not_false_eq_true] <;> omega))⟩
                    have hf_3707 := (hk_3705 (q 4) (ne_kd hf_3649 e_3658 rfl)).trans hf_3649
                    have fr_3708 := FR.w hk_3705 e_3658 (k := 12) rfl
                    refine v_goto hC dX12_advance_122 (tgt := 240) (by decide) ?_
                    have fe_3709 : fld (f_3703 a_0) 8 = (v_3664 : Int32).toInt := by rw [hf_3704]; rfl
                    have fe_3710 : fld (f_3703 a_0) 9 = (v_3666 : Int32).toInt := by rw [hf_3704]; rfl
                    have fe_3711 : fld (f_3703 a_0) 8 = (v_3664 : Int32).toInt := by rw [hf_3704]; rfl
                    have fe_3712 : fld (f_3703 a_0) 9 = (v_3666 : Int32).toInt := by rw [hf_3704]; rfl
                    have fe_3713 : fld (f_3703 a_0) 10 = (1 : Int32).toInt := by rw [hf_3704]; rfl
                    simp only [Int32.reduceToInt] at fe_3713
                    have fe_3714 : fld (f_3703 a_0) 12 = (v_3671 : Int32).toInt := by rw [hf_3704]; rfl
                    have fe_3715 : fld (f_3703 a_0) 20 = (v_3675 : Int32).toInt := by rw [hf_3704]; rfl
                    exact hR _ _ _ _ _ _ dX12_advance_240 (Nat.le_of_ble_eq_true rfl) (Nat.le_of_ble_eq_true rfl) ⟨rfl, hW_3706, (((((hF_2812.tr fr_2901).tr fr_3456).tr hF_3648).tr fr_3708).mono rfl), (by simp only [fe_3709, fe_3710, mz_41, true_and, and_true, or_true, true_or, false_or, or_false, false_and, and_false, not_true_eq_false, not_false_eq_true] <;> first | omega | (simp only [Int32.lt_iff_toInt_lt, Int32.le_iff_toInt_le, Int32.reduceToInt, ← Int32.toInt_inj, true_and, and_true, or_true, true_or, false_or, or_false, false_and, and_false, not_true_eq_false, not_false_eq_true] <;> omega)), (by simp only [fe_3711, fe_3712, fe_3713, true_and, and_true, or_true, true_or, false_or, or_false, false_and, and_false, not_true_eq_false, not_false_eq_true] <;> first | omega | (simp only [Int32.lt_iff_toInt_lt, Int32.le_iff_toInt_le, Int32.reduceToInt, ← Int32.toInt_inj, true_and, and_true, or_true, true_or, false_or, or_false, false_and, and_false, not_true_eq_false, not_false_eq_true] <;> omega)), (by simp only [fe_3714, mz_42, true_and, and_true, or_true, true_or, false_or, or_false, false_and, and_false, not_true_eq_false, not_false_eq_true] <;> first | omega | (simp only [Int32.lt_iff_toInt_lt, Int32.le_iff_toInt_le, Int32.reduceToInt, ← Int32.toInt_inj, true_and, and_true, or_true, true_or, false_or, or_false, false_and, and_false, not_true_eq_false, not_false_eq_true] <;> omega)), (by simp only [fe_3715, mz_43, true_and, and_true, or_true, true_or, false_or, or_false, false_and, and_false, not_true_eq_false, not_false_eq_true] <;> first | omega | (simp only [Int32.lt_iff_toInt_lt, Int32.le_iff_toInt_le, Int32.reduceToInt, ← Int32.toInt_inj, true_and, and_true, or_true, true_or, false_or, or_false, false_and, and_false, not_true_eq_false, not_false_eq_true] <;> omega))⟩
                  · simp only [Int32.lt_iff_toInt_lt, Int32.le_iff_toInt_le, Int32.reduceToInt, ← Int32.toInt_inj] at h_3702
                    refine v_aload_n hC dX12_advance_104 rfl ?_
                    refine v_dup hC dX12_advance_105 rfl ?_
                    refine v_get hC fl_X12_108 m_1 e_3658 rfl dX12_advance_106 ?_
                    refine v_iconst hC dX12_advance_109 (v := 1) (by decide) ?_
                    obtain ⟨v_3716, h_3717⟩ : ∃ v9 : Int32, v_3664 + 1 = v9 := ⟨_, rfl⟩
                    refine v_iadd hC dX12_advance_110 h_3717 ?_
                    have h_3718 := add_v h_3717 (by first | omega | (simp only [Int32.lt_iff_toInt_lt, Int32.le_iff_toInt_le, Int32.reduceToInt, ← Int32.toInt_inj, true_and, and_true, or_true, true_or, false_or, or_false, false_and, and_false, not_true_eq_false, not_false_eq_true] <;> omega)) (by first | omega | (simp only [Int32.lt_iff_toInt_lt, Int32.le_iff_toInt_le, Int32.reduceToInt, ← Int32.toInt_inj, true_and, and_true, or_true, true_or, false_or, or_false, false_and, and_false, not_true_eq_false, not_false_eq_true] <;> omega))
                    try simp only [Int32.reduceToInt] at h_3718
                    refine v_put hC fl_X12_108 m_1 e_3658 rfl rfl (Nat.le_of_ble_eq_true rfl) (fs' := [.int v_3659, .ref (q 1), .ref (q 2), .ref (q 3), .ref (q 4), .int v_3660, .ref (q 6), .int v_3662, .int v_3716, .int v_3666, .int v_3668, .int v_3670, .int v_3671, .int v_3672, .ref (q 14), .ref (q 15), .ref (q 16), .int v_3673, .ref (q 18), .ref (q 19), .int v_3675, .ref (q 21), .ref (q 22), .ref (q 23), .ref (q 24), .ref (q 25), .ref (q 26), .ref (q 27), .ref (q 28)]) rfl dX12_advance_111 (fun f_3719 hf_3720 hk_3721 => ?_)
                    have hW_3722 := hW_3647.up hf_3720 hk_3721 t_2 ⟨v_3659, v_3660, v_3662, v_3716, v_3666, v_3668, v_3670, v_3671, v_3672, v_3673, v_3675, rfl, (by first | omega | (simp only [Int32.lt_iff_toInt_lt, Int32.le_iff_toInt_le, Int32.reduceToInt, ← Int32.toInt_inj, true_and, and_true, or_true, true_or, false_or, or_false, false_and, and_false, not_true_eq_false, not_false_eq_true] <;> omega)), (by first | omega | (simp only [Int32.lt_iff_toInt_lt, Int32.le_iff_toInt_le, Int32.reduceToInt, ← Int32.toInt_inj, true_and, and_true, or_true, true_or, false_or, or_false, false_and, and_false, not_true_eq_false, not_false_eq_true] <;> omega)), (by first | omega | (simp only [Int32.lt_iff_toInt_lt, Int32.le_iff_toInt_le, Int32.reduceToInt, ← Int32.toInt_inj, true_and, and_true, or_true, true_or, false_or, or_false, false_and, and_false, not_true_eq_false, not_false_eq_true] <;> omega)), (by first | omega | (simp only [Int32.lt_iff_toInt_lt, Int32.le_iff_toInt_le, Int32.reduceToInt, ← Int32.toInt_inj, true_and, and_true, or_true, true_or, false_or, or_false, false_and, and_false, not_true_eq_false, not_false_eq_true] <;> omega)), (by first | omega | (simp only [Int32.lt_iff_toInt_lt, Int32.le_iff_toInt_le, Int32.reduceToInt, ← Int32.toInt_inj, true_and, and_true, or_true, true_or, false_or, or_false, false_and, and_false, not_true_eq_false, not_false_eq_true] <;> omega)), (by first | omega | (simp only [Int32.lt_iff_toInt_lt, Int32.le_iff_toInt_le, Int32.reduceToInt, ← Int32.toInt_inj, true_and, and_true, or_true, true_or, false_or, or_false, false_and, and_false, not_true_eq_false, not_false_eq_true] <;> omega)), (by first | omega | (simp only [Int32.lt_iff_toInt_lt, Int32.le_iff_toInt_le, Int32.reduceToInt, ← Int32.toInt_inj, true_and, and_true, or_true, true_or, false_or, or_false, false_and, and_false, not_true_eq_false, not_false_eq_true] <;> omega))⟩
                    have hf_3723 := (hk_3721 (q 4) (ne_kd hf_3649 e_3658 rfl)).trans hf_3649
                    have fr_3724 := FR.w hk_3721 e_3658 (k := 12) rfl
                    refine v_goto hC dX12_advance_114 (tgt := 83) (by decide) ?_
                    refine v_pick [0] rfl ?_
                    have fe_3725 : fld (f_3719 a_0) 9 = (v_3666 : Int32).toInt := by rw [hf_3720]; rfl
                    have fe_3726 : fld (f_3719 a_0) 8 = (v_3716 : Int32).toInt := by rw [hf_3720]; rfl
                    have fe_3727 : fld (f_3719 a_0) 9 = (v_3666 : Int32).toInt := by rw [hf_3720]; rfl
                    have fe_3728 : fld (f_3719 a_0) 12 = (v_3671 : Int32).toInt := by rw [hf_3720]; rfl
                    have fe_3729 : fld (f_3719 a_0) 20 = (v_3675 : Int32).toInt := by rw [hf_3720]; rfl
                    have h_3730 : fld (f_3719 a_0) 8 = (v_3716 : Int32).toInt := by rw [hf_3720]; rfl
                    exact ih_3656 f_3719 hW_3722 ((hF_3648.tr fr_3724).mono rfl) (by rw [fe_3725] <;> first | omega | (simp only [Int32.lt_iff_toInt_lt, Int32.le_iff_toInt_le, Int32.reduceToInt, ← Int32.toInt_inj, true_and, and_true, or_true, true_or, false_or, or_false, false_and, and_false, not_true_eq_false, not_false_eq_true] <;> omega)) (by rw [fe_3726, fe_3727] <;> first | omega | (simp only [Int32.lt_iff_toInt_lt, Int32.le_iff_toInt_le, Int32.reduceToInt, ← Int32.toInt_inj, true_and, and_true, or_true, true_or, false_or, or_false, false_and, and_false, not_true_eq_false, not_false_eq_true] <;> omega)) (by rw [fe_3728] <;> first | omega | (simp only [Int32.lt_iff_toInt_lt, Int32.le_iff_toInt_le, Int32.reduceToInt, ← Int32.toInt_inj, true_and, and_true, or_true, true_or, false_or, or_false, false_and, and_false, not_true_eq_false, not_false_eq_true] <;> omega)) (by rw [fe_3729] <;> first | omega | (simp only [Int32.lt_iff_toInt_lt, Int32.le_iff_toInt_le, Int32.reduceToInt, ← Int32.toInt_inj, true_and, and_true, or_true, true_or, false_or, or_false, false_and, and_false, not_true_eq_false, not_false_eq_true] <;> omega)) (by rw [h_3730]; omega)
              refine v_pick [1] rfl ?_
              have fe_3731 : fld (f_3451 a_0) 9 = (v_2826 : Int32).toInt := by rw [hf_3452]; rfl
              have fe_3732 : fld (f_3451 a_0) 8 = (v_3448 : Int32).toInt := by rw [hf_3452]; rfl
              have fe_3733 : fld (f_3451 a_0) 9 = (v_2826 : Int32).toInt := by rw [hf_3452]; rfl
              have fe_3734 : fld (f_3451 a_0) 12 = (v_2833 : Int32).toInt := by rw [hf_3452]; rfl
              have fe_3735 : fld (f_3451 a_0) 20 = (v_2837 : Int32).toInt := by rw [hf_3452]; rfl
              have h_3736 : fld (f_3451 a_0) 8 = (v_3448 : Int32).toInt := by rw [hf_3452]; rfl
              exact lp_3654 602 f_3451 hW_3454 FR.rf (by rw [fe_3731] <;> first | omega | (simp only [Int32.lt_iff_toInt_lt, Int32.le_iff_toInt_le, Int32.reduceToInt, ← Int32.toInt_inj, true_and, and_true, or_true, true_or, false_or, or_false, false_and, and_false, not_true_eq_false, not_false_eq_true] <;> omega)) (by rw [fe_3732, fe_3733] <;> first | omega | (simp only [Int32.lt_iff_toInt_lt, Int32.le_iff_toInt_le, Int32.reduceToInt, ← Int32.toInt_inj, true_and, and_true, or_true, true_or, false_or, or_false, false_and, and_false, not_true_eq_false, not_false_eq_true] <;> omega)) (by rw [fe_3734] <;> first | omega | (simp only [Int32.lt_iff_toInt_lt, Int32.le_iff_toInt_le, Int32.reduceToInt, ← Int32.toInt_inj, true_and, and_true, or_true, true_or, false_or, or_false, false_and, and_false, not_true_eq_false, not_false_eq_true] <;> omega)) (by rw [fe_3735] <;> first | omega | (simp only [Int32.lt_iff_toInt_lt, Int32.le_iff_toInt_le, Int32.reduceToInt, ← Int32.toInt_inj, true_and, and_true, or_true, true_or, false_or, or_false, false_and, and_false, not_true_eq_false, not_false_eq_true] <;> omega)) (by rw [h_3736]; omega)
          · simp only [Int32.lt_iff_toInt_lt, Int32.le_iff_toInt_le, Int32.reduceToInt, ← Int32.toInt_inj] at h_2916
            refine v_aload_n hC dX12_advance_61 rfl ?_
            refine v_iconst hC dX12_advance_62 (v := 0) (by decide) ?_
            refine v_put hC fl_X12_120 m_1 hf_2898 rfl rfl (Nat.le_of_ble_eq_true rfl) (fs' := [.int v_2821, .ref (q 1), .ref (q 2), .ref (q 3), .ref (q 4), .int v_2822, .ref (q 6), .int v_2824, .int v_2826, .int v_2826, .int 0, .int v_2832, .int v_2833, .int v_2834, .ref (q 14), .ref (q 15), .ref (q 16), .int v_2835, .ref (q 18), .ref (q 19), .int v_2837, .ref (q 21), .ref (q 22), .ref (q 23), .ref (q 24), .ref (q 25), .ref (q 26), .ref (q 27), .ref (q 28)]) rfl dX12_advance_63 (fun f_3737 hf_3738 hk_3739 => ?_)
            have hW_3740 := hW_2900.up hf_3738 hk_3739 t_2 ⟨v_2821, v_2822, v_2824, v_2826, v_2826, 0, v_2832, v_2833, v_2834, v_2835, v_2837, rfl, (by first | omega | (simp only [Int32.lt_iff_toInt_lt, Int32.le_iff_toInt_le, Int32.reduceToInt, ← Int32.toInt_inj, true_and, and_true, or_true, true_or, false_or, or_false, false_and, and_false, not_true_eq_false, not_false_eq_true] <;> omega)), (by first | omega | (simp only [Int32.lt_iff_toInt_lt, Int32.le_iff_toInt_le, Int32.reduceToInt, ← Int32.toInt_inj, true_and, and_true, or_true, true_or, false_or, or_false, false_and, and_false, not_true_eq_false, not_false_eq_true] <;> omega)), (by first | omega | (simp only [Int32.lt_iff_toInt_lt, Int32.le_iff_toInt_le, Int32.reduceToInt, ← Int32.toInt_inj, true_and, and_true, or_true, true_or, false_or, or_false, false_and, and_false, not_true_eq_false, not_false_eq_true] <;> omega)), (by first | omega | (simp only [Int32.lt_iff_toInt_lt, Int32.le_iff_toInt_le, Int32.reduceToInt, ← Int32.toInt_inj, true_and, and_true, or_true, true_or, false_or, or_false, false_and, and_false, not_true_eq_false, not_false_eq_true] <;> omega)), (by decide), (by first | omega | (simp only [Int32.lt_iff_toInt_lt, Int32.le_iff_toInt_le, Int32.reduceToInt, ← Int32.toInt_inj, true_and, and_true, or_true, true_or, false_or, or_false, false_and, and_false, not_true_eq_false, not_false_eq_true] <;> omega)), (by first | omega | (simp only [Int32.lt_iff_toInt_lt, Int32.le_iff_toInt_le, Int32.reduceToInt, ← Int32.toInt_inj, true_and, and_true, or_true, true_or, false_or, or_false, false_and, and_false, not_true_eq_false, not_false_eq_true] <;> omega))⟩
            have hf_3741 := (hk_3739 (q 4) (ne_kd e_2912 hf_2898 rfl)).trans e_2912
            have fr_3742 := FR.w hk_3739 hf_2898 (k := 12) rfl
            refine v_goto hC dX12_advance_66 (tgt := 240) (by decide) ?_
            have fe_3743 : fld (f_3737 a_0) 8 = (v_2826 : Int32).toInt := by rw [hf_3738]; rfl
            have fe_3744 : fld (f_3737 a_0) 9 = (v_2826 : Int32).toInt := by rw [hf_3738]; rfl
            have fe_3745 : fld (f_3737 a_0) 8 = (v_2826 : Int32).toInt := by rw [hf_3738]; rfl
            have fe_3746 : fld (f_3737 a_0) 9 = (v_2826 : Int32).toInt := by rw [hf_3738]; rfl
            have fe_3747 : fld (f_3737 a_0) 10 = (0 : Int32).toInt := by rw [hf_3738]; rfl
            simp only [Int32.reduceToInt] at fe_3747
            have fe_3748 : fld (f_3737 a_0) 12 = (v_2833 : Int32).toInt := by rw [hf_3738]; rfl
            have fe_3749 : fld (f_3737 a_0) 20 = (v_2837 : Int32).toInt := by rw [hf_3738]; rfl
            exact hR _ _ _ _ _ _ dX12_advance_240 (Nat.le_of_ble_eq_true rfl) (Nat.le_of_ble_eq_true rfl) ⟨rfl, hW_3740, (((hF_2812.tr fr_2901).tr fr_3742).mono rfl), (by simp only [fe_3743, fe_3744, mz_41, true_and, and_true, or_true, true_or, false_or, or_false, false_and, and_false, not_true_eq_false, not_false_eq_true] <;> first | omega | (simp only [Int32.lt_iff_toInt_lt, Int32.le_iff_toInt_le, Int32.reduceToInt, ← Int32.toInt_inj, true_and, and_true, or_true, true_or, false_or, or_false, false_and, and_false, not_true_eq_false, not_false_eq_true] <;> omega)), (by simp only [fe_3745, fe_3746, fe_3747, true_and, and_true, or_true, true_or, false_or, or_false, false_and, and_false, not_true_eq_false, not_false_eq_true] <;> first | omega | (simp only [Int32.lt_iff_toInt_lt, Int32.le_iff_toInt_le, Int32.reduceToInt, ← Int32.toInt_inj, true_and, and_true, or_true, true_or, false_or, or_false, false_and, and_false, not_true_eq_false, not_false_eq_true] <;> omega)), (by simp only [fe_3748, mz_42, true_and, and_true, or_true, true_or, false_or, or_false, false_and, and_false, not_true_eq_false, not_false_eq_true] <;> first | omega | (simp only [Int32.lt_iff_toInt_lt, Int32.le_iff_toInt_le, Int32.reduceToInt, ← Int32.toInt_inj, true_and, and_true, or_true, true_or, false_or, or_false, false_and, and_false, not_true_eq_false, not_false_eq_true] <;> omega)), (by simp only [fe_3749, mz_43, true_and, and_true, or_true, true_or, false_or, or_false, false_and, and_false, not_true_eq_false, not_false_eq_true] <;> first | omega | (simp only [Int32.lt_iff_toInt_lt, Int32.le_iff_toInt_le, Int32.reduceToInt, ← Int32.toInt_inj, true_and, and_true, or_true, true_or, false_or, or_false, false_and, and_false, not_true_eq_false, not_false_eq_true] <;> omega))⟩
        · simp only [Int32.lt_iff_toInt_lt, Int32.le_iff_toInt_le, Int32.reduceToInt, ← Int32.toInt_inj] at h_2884
          refine v_aload_n hC dX12_advance_26 rfl ?_
          refine v_dup hC dX12_advance_27 rfl ?_
          refine v_get hC fl_X12_108 m_1 e_2820 rfl dX12_advance_28 ?_
          refine v_iconst hC dX12_advance_31 (v := 1) (by decide) ?_
          obtain ⟨v_3750, h_3751⟩ : ∃ v9 : Int32, v_2826 + 1 = v9 := ⟨_, rfl⟩
          refine v_iadd hC dX12_advance_32 h_3751 ?_
          have h_3752 := add_v h_3751 (by first | omega | (simp only [Int32.lt_iff_toInt_lt, Int32.le_iff_toInt_le, Int32.reduceToInt, ← Int32.toInt_inj, true_and, and_true, or_true, true_or, false_or, or_false, false_and, and_false, not_true_eq_false, not_false_eq_true] <;> omega)) (by first | omega | (simp only [Int32.lt_iff_toInt_lt, Int32.le_iff_toInt_le, Int32.reduceToInt, ← Int32.toInt_inj, true_and, and_true, or_true, true_or, false_or, or_false, false_and, and_false, not_true_eq_false, not_false_eq_true] <;> omega))
          try simp only [Int32.reduceToInt] at h_3752
          refine v_put hC fl_X12_108 m_1 e_2820 rfl rfl (Nat.le_of_ble_eq_true rfl) (fs' := [.int v_2821, .ref (q 1), .ref (q 2), .ref (q 3), .ref (q 4), .int v_2822, .ref (q 6), .int v_2824, .int v_3750, .int v_2828, .int v_2830, .int v_2832, .int v_2833, .int v_2834, .ref (q 14), .ref (q 15), .ref (q 16), .int v_2835, .ref (q 18), .ref (q 19), .int v_2837, .ref (q 21), .ref (q 22), .ref (q 23), .ref (q 24), .ref (q 25), .ref (q 26), .ref (q 27), .ref (q 28)]) rfl dX12_advance_33 (fun f_3753 hf_3754 hk_3755 => ?_)
          have hW_3756 := hW_2811.up hf_3754 hk_3755 t_2 ⟨v_2821, v_2822, v_2824, v_3750, v_2828, v_2830, v_2832, v_2833, v_2834, v_2835, v_2837, rfl, (by first | omega | (simp only [Int32.lt_iff_toInt_lt, Int32.le_iff_toInt_le, Int32.reduceToInt, ← Int32.toInt_inj, true_and, and_true, or_true, true_or, false_or, or_false, false_and, and_false, not_true_eq_false, not_false_eq_true] <;> omega)), (by first | omega | (simp only [Int32.lt_iff_toInt_lt, Int32.le_iff_toInt_le, Int32.reduceToInt, ← Int32.toInt_inj, true_and, and_true, or_true, true_or, false_or, or_false, false_and, and_false, not_true_eq_false, not_false_eq_true] <;> omega)), (by first | omega | (simp only [Int32.lt_iff_toInt_lt, Int32.le_iff_toInt_le, Int32.reduceToInt, ← Int32.toInt_inj, true_and, and_true, or_true, true_or, false_or, or_false, false_and, and_false, not_true_eq_false, not_false_eq_true] <;> omega)), (by first | omega | (simp only [Int32.lt_iff_toInt_lt, Int32.le_iff_toInt_le, Int32.reduceToInt, ← Int32.toInt_inj, true_and, and_true, or_true, true_or, false_or, or_false, false_and, and_false, not_true_eq_false, not_false_eq_true] <;> omega)), (by first | omega | (simp only [Int32.lt_iff_toInt_lt, Int32.le_iff_toInt_le, Int32.reduceToInt, ← Int32.toInt_inj, true_and, and_true, or_true, true_or, false_or, or_false, false_and, and_false, not_true_eq_false, not_false_eq_true] <;> omega)), (by first | omega | (simp only [Int32.lt_iff_toInt_lt, Int32.le_iff_toInt_le, Int32.reduceToInt, ← Int32.toInt_inj, true_and, and_true, or_true, true_or, false_or, or_false, false_and, and_false, not_true_eq_false, not_false_eq_true] <;> omega)), (by first | omega | (simp only [Int32.lt_iff_toInt_lt, Int32.le_iff_toInt_le, Int32.reduceToInt, ← Int32.toInt_inj, true_and, and_true, or_true, true_or, false_or, or_false, false_and, and_false, not_true_eq_false, not_false_eq_true] <;> omega))⟩
          have fr_3757 := FR.w hk_3755 e_2820 (k := 12) rfl
          refine v_goto hC dX12_advance_36 (tgt := 0) (by decide) ?_
          refine v_pick [0] rfl ?_
          have fe_3758 : fld (f_3753 a_0) 8 = (v_3750 : Int32).toInt := by rw [hf_3754]; rfl
          have fe_3759 : fld (f_3753 a_0) 12 = (v_2833 : Int32).toInt := by rw [hf_3754]; rfl
          have fe_3760 : fld (f_3753 a_0) 20 = (v_2837 : Int32).toInt := by rw [hf_3754]; rfl
          have h_3761 : fld (f_3753 a_0) 8 = (v_3750 : Int32).toInt := by rw [hf_3754]; rfl
          exact ih_2818 f_3753 hW_3756 ((hF_2812.tr fr_3757).mono rfl) (by rw [fe_3758] <;> first | omega | (simp only [Int32.lt_iff_toInt_lt, Int32.le_iff_toInt_le, Int32.reduceToInt, ← Int32.toInt_inj, true_and, and_true, or_true, true_or, false_or, or_false, false_and, and_false, not_true_eq_false, not_false_eq_true] <;> omega)) (by rw [fe_3759] <;> first | omega | (simp only [Int32.lt_iff_toInt_lt, Int32.le_iff_toInt_le, Int32.reduceToInt, ← Int32.toInt_inj, true_and, and_true, or_true, true_or, false_or, or_false, false_and, and_false, not_true_eq_false, not_false_eq_true] <;> omega)) (by rw [fe_3760] <;> first | omega | (simp only [Int32.lt_iff_toInt_lt, Int32.le_iff_toInt_le, Int32.reduceToInt, ← Int32.toInt_inj, true_and, and_true, or_true, true_or, false_or, or_false, false_and, and_false, not_true_eq_false, not_false_eq_true] <;> omega)) (by rw [h_3761]; omega)
  refine v_pick [0] rfl ?_
  have fe_3762 : fld (f a_0) 8 = (v_28 : Int32).toInt := by rw [e_22]; rfl
  have fe_3763 : fld (f a_0) 12 = (v_35 : Int32).toInt := by rw [e_22]; rfl
  have fe_3764 : fld (f a_0) 20 = (v_39 : Int32).toInt := by rw [e_22]; rfl
  have h_3765 : fld (f a_0) 8 = (v_28 : Int32).toInt := by rw [e_22]; rfl
  exact lp_2816 602 f hW FR.rf (by rw [fe_3762] <;> first | omega | (simp only [Int32.lt_iff_toInt_lt, Int32.le_iff_toInt_le, Int32.reduceToInt, ← Int32.toInt_inj, true_and, and_true, or_true, true_or, false_or, or_false, false_and, and_false, not_true_eq_false, not_false_eq_true] <;> omega)) (by rw [fe_3763] <;> first | omega | (simp only [Int32.lt_iff_toInt_lt, Int32.le_iff_toInt_le, Int32.reduceToInt, ← Int32.toInt_inj, true_and, and_true, or_true, true_or, false_or, or_false, false_and, and_false, not_true_eq_false, not_false_eq_true] <;> omega)) (by rw [fe_3764] <;> first | omega | (simp only [Int32.lt_iff_toInt_lt, Int32.le_iff_toInt_le, Int32.reduceToInt, ← Int32.toInt_inj, true_and, and_true, or_true, true_or, false_or, or_false, false_and, and_false, not_true_eq_false, not_false_eq_true] <;> omega)) (by rw [h_3765]; omega)
set_option maxRecDepth 100000 in
set_option maxHeartbeats 8000000 in
theorem p_X12_good {l : Launch} {E : Ez} {L : List Nat} {f : Nat → va_E} {T : Nat → va_E → Prop} {a_0 : Nat} {q : Nat → Nat} (hW : WT T L f) (k_0 : isM T L E a_0 q) : CI l yX12_good cX12_good 1 .boolean 0 0 0 E [.ref a_0] L f (fun r L1 f1 => L = L1 ∧ f = f1 ∧ (0 ≤ r.toInt ∧ r.toInt ≤ 1) ∧ ((r.toInt = 1 ∧ fld (f a_0) 12 = 0) ∨ (r.toInt = 0 ∧ ¬ fld (f a_0) 12 = 0))) := by
  refine ci_of (by decide) (Nat.le_of_ble_eq_true rfl) (fun z hz hnm hC hR => ?_)
  have hC : Cx z E cX12_good RX12 1 0 0 0 := hC
  subst hz
  show V z E 1 0 0 L f 0 [(0, .ref a_0)] []
  obtain ⟨m_1, t_2, nq_21, k_3, k_4, k_5, k_6, k_7, k_8, k_9, k_10, k_11, k_12, k_13, k_14, k_15, k_16, k_17, k_18, k_19, k_20⟩ := id k_0
  obtain ⟨v_23, v_24, v_26, v_28, v_30, v_32, v_34, v_35, v_36, v_37, v_39, e_22, b_25, b_27, b_29, b_31, b_33, b_38, b_40⟩ := hW.at m_1 t_2
  have mz_41 : fld (f a_0) 12 = v_35.toInt := by rw [e_22]; rfl
  refine v_aload_n hC dX12_good_0 rfl ?_
  refine v_get hC fl_X12_111 m_1 e_22 rfl dX12_good_1 ?_
  refine v_if_ne hC dX12_good_4 (tgt := 11) (by decide) (fun h_42 => ?_) (fun h_42 => ?_)
  · simp only [Int32.lt_iff_toInt_lt, Int32.le_iff_toInt_le, Int32.reduceToInt, ← Int32.toInt_inj] at h_42
    refine v_iconst hC dX12_good_11 (v := 0) (by decide) ?_
    exact hR _ _ _ _ _ _ _ dX12_good_12 rfl (Nat.le_of_ble_eq_true rfl) (Nat.le_of_ble_eq_true rfl) ⟨rfl, rfl, (by decide), (by simp only [mz_41, true_and, and_true, or_true, true_or, false_or, or_false, false_and, and_false, not_true_eq_false, not_false_eq_true] <;> first | omega | (simp only [Int32.lt_iff_toInt_lt, Int32.le_iff_toInt_le, Int32.reduceToInt, ← Int32.toInt_inj, true_and, and_true, or_true, true_or, false_or, or_false, false_and, and_false, not_true_eq_false, not_false_eq_true] <;> omega))⟩
  · simp only [Int32.lt_iff_toInt_lt, Int32.le_iff_toInt_le, Int32.reduceToInt, ← Int32.toInt_inj] at h_42
    refine v_iconst hC dX12_good_7 (v := 1) (by decide) ?_
    refine v_goto hC dX12_good_8 (tgt := 12) (by decide) ?_
    exact hR _ _ _ _ _ _ _ dX12_good_12 rfl (Nat.le_of_ble_eq_true rfl) (Nat.le_of_ble_eq_true rfl) ⟨rfl, rfl, (by decide), (by simp only [mz_41, true_and, and_true, or_true, true_or, false_or, or_false, false_and, and_false, not_true_eq_false, not_false_eq_true] <;> first | omega | (simp only [Int32.lt_iff_toInt_lt, Int32.le_iff_toInt_le, Int32.reduceToInt, ← Int32.toInt_inj, true_and, and_true, or_true, true_or, false_or, or_false, false_and, and_false, not_true_eq_false, not_false_eq_true] <;> omega))⟩
set_option maxRecDepth 100000 in
set_option maxHeartbeats 8000000 in
theorem p_X12_errs {l : Launch} {E : Ez} {L : List Nat} {f : Nat → va_E} {T : Nat → va_E → Prop} {a_0 : Nat} {a_1 : Int32} {q : Nat → Nat} (hW : WT T L f) (k_0 : isM T L E a_0 q) (g_1 : (1 ≤ a_1.toInt ∧ a_1.toInt ≤ 3)) : CV l yX12_errs cX12_errs 2 1 0 0 E [.ref a_0, .int a_1] L f (fun L1 f1 => L = L1 ∧ WT T L f1 ∧ FR [12] f f1 ∧ ¬ fld (f1 a_0) 12 = 0 ∧ fld (f1 a_0) 8 = fld (f a_0) 8 ∧ fld (f1 a_0) 9 = fld (f a_0) 9 ∧ fld (f1 a_0) 10 = fld (f a_0) 10 ∧ fld (f1 a_0) 20 = fld (f a_0) 20) := by
  refine cv_of (by decide) (Nat.le_of_ble_eq_true rfl) (fun z hz hnm hC hR => ?_)
  have hC : Cx z E cX12_errs RX12 2 1 0 0 := hC
  subst hz
  show V z E 2 0 0 L f 0 [(0, .ref a_0), (1, .int a_1)] []
  obtain ⟨m_1, t_2, nq_21, k_3, k_4, k_5, k_6, k_7, k_8, k_9, k_10, k_11, k_12, k_13, k_14, k_15, k_16, k_17, k_18, k_19, k_20⟩ := id k_0
  obtain ⟨v_23, v_24, v_26, v_28, v_30, v_32, v_34, v_35, v_36, v_37, v_39, e_22, b_25, b_27, b_29, b_31, b_33, b_38, b_40⟩ := hW.at m_1 t_2
  have mz_41 : fld (f a_0) 8 = v_28.toInt := by rw [e_22]; rfl
  have mz_42 : fld (f a_0) 9 = v_30.toInt := by rw [e_22]; rfl
  have mz_43 : fld (f a_0) 10 = v_32.toInt := by rw [e_22]; rfl
  have mz_44 : fld (f a_0) 20 = v_39.toInt := by rw [e_22]; rfl
  refine v_aload_n hC dX12_errs_0 rfl ?_
  refine v_vi hC (rest := []) m_1 e_22 rfl mi_X12_good ms_X12_good (p_X12_good hW k_0) mx_X12_good ml_X12_139 (by decide) rfl (cells1 := 0) (slots1 := 0) (by decide) (by decide) (Nat.le_of_ble_eq_true rfl) (Nat.le_of_ble_eq_true rfl) rfl (Nat.le_of_ble_eq_true rfl) dX12_errs_1 (fun r_45 L_46 f_47 h_48 => ?_)
  obtain ⟨rfl, rfl, b_49, x_50⟩ := h_48
  have fe_53 : fld (f a_0) 12 = (v_35 : Int32).toInt := by rw [e_22]; rfl
  rw [fe_53] at x_50
  clear fe_53
  try simp only [Int32.reduceToInt, Int64.reduceToInt] at x_50
  refine v_if_ne hC dX12_errs_4 (tgt := 8) (by decide) (fun h_54 => ?_) (fun h_54 => ?_)
  · simp only [Int32.lt_iff_toInt_lt, Int32.le_iff_toInt_le, Int32.reduceToInt, ← Int32.toInt_inj] at h_54
    refine v_aload_n hC dX12_errs_8 rfl ?_
    refine v_iload_n hC dX12_errs_9 rfl ?_
    refine v_put hC fl_X12_111 m_1 e_22 rfl rfl (Nat.le_of_ble_eq_true rfl) (fs' := [.int v_23, .ref (q 1), .ref (q 2), .ref (q 3), .ref (q 4), .int v_24, .ref (q 6), .int v_26, .int v_28, .int v_30, .int v_32, .int v_34, .int a_1, .int v_36, .ref (q 14), .ref (q 15), .ref (q 16), .int v_37, .ref (q 18), .ref (q 19), .int v_39, .ref (q 21), .ref (q 22), .ref (q 23), .ref (q 24), .ref (q 25), .ref (q 26), .ref (q 27), .ref (q 28)]) rfl dX12_errs_10 (fun f_55 hf_56 hk_57 => ?_)
    have hW_58 := hW.up hf_56 hk_57 t_2 ⟨v_23, v_24, v_26, v_28, v_30, v_32, v_34, a_1, v_36, v_37, v_39, rfl, (by first | omega | (simp only [Int32.lt_iff_toInt_lt, Int32.le_iff_toInt_le, Int32.reduceToInt, ← Int32.toInt_inj, true_and, and_true, or_true, true_or, false_or, or_false, false_and, and_false, not_true_eq_false, not_false_eq_true] <;> omega)), (by first | omega | (simp only [Int32.lt_iff_toInt_lt, Int32.le_iff_toInt_le, Int32.reduceToInt, ← Int32.toInt_inj, true_and, and_true, or_true, true_or, false_or, or_false, false_and, and_false, not_true_eq_false, not_false_eq_true] <;> omega)), (by first | omega | (simp only [Int32.lt_iff_toInt_lt, Int32.le_iff_toInt_le, Int32.reduceToInt, ← Int32.toInt_inj, true_and, and_true, or_true, true_or, false_or, or_false, false_and, and_false, not_true_eq_false, not_false_eq_true] <;> omega)), (by first | omega | (simp only [Int32.lt_iff_toInt_lt, Int32.le_iff_toInt_le, Int32.reduceToInt, ← Int32.toInt_inj, true_and, and_true, or_true, true_or, false_or, or_false, false_and, and_false, not_true_eq_false, not_false_eq_true] <;> omega)), (by first | omega | (simp only [Int32.lt_iff_toInt_lt, Int32.le_iff_toInt_le, Int32.reduceToInt, ← Int32.toInt_inj, true_and, and_true, or_true, true_or, false_or, or_false, false_and, and_false, not_true_eq_false, not_false_eq_true] <;> omega)), (by first | omega | (simp only [Int32.lt_iff_toInt_lt, Int32.le_iff_toInt_le, Int32.reduceToInt, ← Int32.toInt_inj, true_and, and_true, or_true, true_or, false_or, or_false, false_and, and_false, not_true_eq_false, not_false_eq_true] <;> omega)), (by first | omega | (simp only [Int32.lt_iff_toInt_lt, Int32.le_iff_toInt_le, Int32.reduceToInt, ← Int32.toInt_inj, true_and, and_true, or_true, true_or, false_or, or_false, false_and, and_false, not_true_eq_false, not_false_eq_true] <;> omega))⟩
    have fr_59 := FR.w hk_57 e_22 (k := 12) rfl
    refine v_aload_n hC dX12_errs_13 rfl ?_
    refine v_aload_n hC dX12_errs_14 rfl ?_
    refine v_get hC fl_X12_117 m_1 hf_56 rfl dX12_errs_15 ?_
    refine v_put hC fl_X12_31 m_1 hf_56 rfl rfl (Nat.le_of_ble_eq_true rfl) (fs' := [.int v_23, .ref (q 1), .ref (q 2), .ref (q 3), .ref (q 4), .int v_24, .ref (q 6), .int v_26, .int v_28, .int v_30, .int v_32, .int v_34, .int a_1, .int v_30, .ref (q 14), .ref (q 15), .ref (q 16), .int v_37, .ref (q 18), .ref (q 19), .int v_39, .ref (q 21), .ref (q 22), .ref (q 23), .ref (q 24), .ref (q 25), .ref (q 26), .ref (q 27), .ref (q 28)]) rfl dX12_errs_18 (fun f_60 hf_61 hk_62 => ?_)
    have hW_63 := hW_58.up hf_61 hk_62 t_2 ⟨v_23, v_24, v_26, v_28, v_30, v_32, v_34, a_1, v_30, v_37, v_39, rfl, (by first | omega | (simp only [Int32.lt_iff_toInt_lt, Int32.le_iff_toInt_le, Int32.reduceToInt, ← Int32.toInt_inj, true_and, and_true, or_true, true_or, false_or, or_false, false_and, and_false, not_true_eq_false, not_false_eq_true] <;> omega)), (by first | omega | (simp only [Int32.lt_iff_toInt_lt, Int32.le_iff_toInt_le, Int32.reduceToInt, ← Int32.toInt_inj, true_and, and_true, or_true, true_or, false_or, or_false, false_and, and_false, not_true_eq_false, not_false_eq_true] <;> omega)), (by first | omega | (simp only [Int32.lt_iff_toInt_lt, Int32.le_iff_toInt_le, Int32.reduceToInt, ← Int32.toInt_inj, true_and, and_true, or_true, true_or, false_or, or_false, false_and, and_false, not_true_eq_false, not_false_eq_true] <;> omega)), (by first | omega | (simp only [Int32.lt_iff_toInt_lt, Int32.le_iff_toInt_le, Int32.reduceToInt, ← Int32.toInt_inj, true_and, and_true, or_true, true_or, false_or, or_false, false_and, and_false, not_true_eq_false, not_false_eq_true] <;> omega)), (by first | omega | (simp only [Int32.lt_iff_toInt_lt, Int32.le_iff_toInt_le, Int32.reduceToInt, ← Int32.toInt_inj, true_and, and_true, or_true, true_or, false_or, or_false, false_and, and_false, not_true_eq_false, not_false_eq_true] <;> omega)), (by first | omega | (simp only [Int32.lt_iff_toInt_lt, Int32.le_iff_toInt_le, Int32.reduceToInt, ← Int32.toInt_inj, true_and, and_true, or_true, true_or, false_or, or_false, false_and, and_false, not_true_eq_false, not_false_eq_true] <;> omega)), (by first | omega | (simp only [Int32.lt_iff_toInt_lt, Int32.le_iff_toInt_le, Int32.reduceToInt, ← Int32.toInt_inj, true_and, and_true, or_true, true_or, false_or, or_false, false_and, and_false, not_true_eq_false, not_false_eq_true] <;> omega))⟩
    have fr_64 := FR.w hk_62 hf_56 (k := 12) rfl
    have fe_65 : fld (f_60 a_0) 12 = (a_1 : Int32).toInt := by rw [hf_61]; rfl
    have fe_66 : fld (f_60 a_0) 8 = (v_28 : Int32).toInt := by rw [hf_61]; rfl
    have fe_67 : fld (f_60 a_0) 9 = (v_30 : Int32).toInt := by rw [hf_61]; rfl
    have fe_68 : fld (f_60 a_0) 10 = (v_32 : Int32).toInt := by rw [hf_61]; rfl
    have fe_69 : fld (f_60 a_0) 20 = (v_39 : Int32).toInt := by rw [hf_61]; rfl
    exact hR _ _ _ _ _ _ dX12_errs_21 (Nat.le_of_ble_eq_true rfl) (Nat.le_of_ble_eq_true rfl) ⟨rfl, hW_63, ((fr_59.tr fr_64).mono rfl), (by simp only [fe_65, true_and, and_true, or_true, true_or, false_or, or_false, false_and, and_false, not_true_eq_false, not_false_eq_true] <;> first | omega | (simp only [Int32.lt_iff_toInt_lt, Int32.le_iff_toInt_le, Int32.reduceToInt, ← Int32.toInt_inj, true_and, and_true, or_true, true_or, false_or, or_false, false_and, and_false, not_true_eq_false, not_false_eq_true] <;> omega)), (by simp only [fe_66, mz_41, true_and, and_true, or_true, true_or, false_or, or_false, false_and, and_false, not_true_eq_false, not_false_eq_true] <;> first | omega | (simp only [Int32.lt_iff_toInt_lt, Int32.le_iff_toInt_le, Int32.reduceToInt, ← Int32.toInt_inj, true_and, and_true, or_true, true_or, false_or, or_false, false_and, and_false, not_true_eq_false, not_false_eq_true] <;> omega)), (by simp only [fe_67, mz_42, true_and, and_true, or_true, true_or, false_or, or_false, false_and, and_false, not_true_eq_false, not_false_eq_true] <;> first | omega | (simp only [Int32.lt_iff_toInt_lt, Int32.le_iff_toInt_le, Int32.reduceToInt, ← Int32.toInt_inj, true_and, and_true, or_true, true_or, false_or, or_false, false_and, and_false, not_true_eq_false, not_false_eq_true] <;> omega)), (by simp only [fe_68, mz_43, true_and, and_true, or_true, true_or, false_or, or_false, false_and, and_false, not_true_eq_false, not_false_eq_true] <;> first | omega | (simp only [Int32.lt_iff_toInt_lt, Int32.le_iff_toInt_le, Int32.reduceToInt, ← Int32.toInt_inj, true_and, and_true, or_true, true_or, false_or, or_false, false_and, and_false, not_true_eq_false, not_false_eq_true] <;> omega)), (by simp only [fe_69, mz_44, true_and, and_true, or_true, true_or, false_or, or_false, false_and, and_false, not_true_eq_false, not_false_eq_true] <;> first | omega | (simp only [Int32.lt_iff_toInt_lt, Int32.le_iff_toInt_le, Int32.reduceToInt, ← Int32.toInt_inj, true_and, and_true, or_true, true_or, false_or, or_false, false_and, and_false, not_true_eq_false, not_false_eq_true] <;> omega))⟩
  · simp only [Int32.lt_iff_toInt_lt, Int32.le_iff_toInt_le, Int32.reduceToInt, ← Int32.toInt_inj] at h_54
    have fe_70 : fld (f a_0) 12 = (v_35 : Int32).toInt := by rw [e_22]; rfl
    have fe_71 : fld (f a_0) 8 = (v_28 : Int32).toInt := by rw [e_22]; rfl
    have fe_72 : fld (f a_0) 9 = (v_30 : Int32).toInt := by rw [e_22]; rfl
    have fe_73 : fld (f a_0) 10 = (v_32 : Int32).toInt := by rw [e_22]; rfl
    have fe_74 : fld (f a_0) 20 = (v_39 : Int32).toInt := by rw [e_22]; rfl
    exact hR _ _ _ _ _ _ dX12_errs_7 (Nat.le_of_ble_eq_true rfl) (Nat.le_of_ble_eq_true rfl) ⟨rfl, hW, FR.rf, (by simp only [fe_70, true_and, and_true, or_true, true_or, false_or, or_false, false_and, and_false, not_true_eq_false, not_false_eq_true] <;> first | omega | (simp only [Int32.lt_iff_toInt_lt, Int32.le_iff_toInt_le, Int32.reduceToInt, ← Int32.toInt_inj, true_and, and_true, or_true, true_or, false_or, or_false, false_and, and_false, not_true_eq_false, not_false_eq_true] <;> omega)), (by simp only [fe_71, mz_41, true_and, and_true, or_true, true_or, false_or, or_false, false_and, and_false, not_true_eq_false, not_false_eq_true] <;> first | omega | (simp only [Int32.lt_iff_toInt_lt, Int32.le_iff_toInt_le, Int32.reduceToInt, ← Int32.toInt_inj, true_and, and_true, or_true, true_or, false_or, or_false, false_and, and_false, not_true_eq_false, not_false_eq_true] <;> omega)), (by simp only [fe_72, mz_42, true_and, and_true, or_true, true_or, false_or, or_false, false_and, and_false, not_true_eq_false, not_false_eq_true] <;> first | omega | (simp only [Int32.lt_iff_toInt_lt, Int32.le_iff_toInt_le, Int32.reduceToInt, ← Int32.toInt_inj, true_and, and_true, or_true, true_or, false_or, or_false, false_and, and_false, not_true_eq_false, not_false_eq_true] <;> omega)), (by simp only [fe_73, mz_43, true_and, and_true, or_true, true_or, false_or, or_false, false_and, and_false, not_true_eq_false, not_false_eq_true] <;> first | omega | (simp only [Int32.lt_iff_toInt_lt, Int32.le_iff_toInt_le, Int32.reduceToInt, ← Int32.toInt_inj, true_and, and_true, or_true, true_or, false_or, or_false, false_and, and_false, not_true_eq_false, not_false_eq_true] <;> omega)), (by simp only [fe_74, mz_44, true_and, and_true, or_true, true_or, false_or, or_false, false_and, and_false, not_true_eq_false, not_false_eq_true] <;> first | omega | (simp only [Int32.lt_iff_toInt_lt, Int32.le_iff_toInt_le, Int32.reduceToInt, ← Int32.toInt_inj, true_and, and_true, or_true, true_or, false_or, or_false, false_and, and_false, not_true_eq_false, not_false_eq_true] <;> omega))⟩
set_option maxRecDepth 100000 in
set_option maxHeartbeats 8000000 in
theorem p_J0_coder_7d493 {l : Launch} {E : Ez} {L : List Nat} {f : Nat → va_E} {T : Nat → va_E → Prop} {a_0 : Nat} (hW : WT T L f) (ha_0 : a_0 < 77) : CI l yJ0_coder_7d493 cJ0_coder_7d493 1 .byte 0 0 0 E [.ref (eK E a_0)] L f (fun r L1 f1 => L = L1 ∧ f = f1 ∧ (0 ≤ r.toInt ∧ r.toInt ≤ 0) ∧ narrow .byte (.int r) = .int r) := by
  refine ci_of (by decide) (Nat.le_of_ble_eq_true rfl) (fun z hz hnm hC hR => ?_)
  have hC : Cx z E cJ0_coder_7d493 RJ0 1 0 0 0 := hC
  subst hz
  show V z E 1 0 0 L f 0 [(0, .ref (eK E a_0))] []
  refine v_getCS hC sf_J0_38 dJ0_coder_7d493_0 ?_
  refine v_if_eq_f hC dJ0_coder_7d493_3 (tgt := 13) (by decide) (by decide) ?_
  refine v_aload_n hC dJ0_coder_7d493_6 rfl ?_
  refine v_getSc hC ha_0 sf_J0_15 dJ0_coder_7d493_7 ?_
  refine v_goto hC dJ0_coder_7d493_10 (tgt := 14) (by decide) ?_
  exact hR _ _ _ _ _ _ _ dJ0_coder_7d493_14 rfl (Nat.le_of_ble_eq_true rfl) (Nat.le_of_ble_eq_true rfl) ⟨rfl, rfl, (by decide), rfl⟩
set_option maxRecDepth 100000 in
set_option maxHeartbeats 8000000 in
theorem p_J0_length_8abf5 {l : Launch} {E : Ez} {L : List Nat} {f : Nat → va_E} {T : Nat → va_E → Prop} {a_0 : Nat} (hW : WT T L f) (ha_0 : a_0 < 77) : CI l yJ0_length_8abf5 cJ0_length_8abf5 1 .int 1 0 0 E [.ref (eK E a_0)] L f (fun r L1 f1 => L = L1 ∧ f = f1 ∧ (0 ≤ r.toInt ∧ r.toInt ≤ 40) ∧ r.toInt = ((bytStr.getD a_0 []).length : Int)) := by
  refine ci_of (by decide) (Nat.le_of_ble_eq_true rfl) (fun z hz hnm hC hR => ?_)
  have hC : Cx z E cJ0_length_8abf5 RJ0 1 1 0 0 := hC
  subst hz
  show V z E 1 0 0 L f 0 [(0, .ref (eK E a_0))] []
  refine v_aload_n hC dJ0_length_8abf5_0 rfl ?_
  refine v_getSv hC ha_0 sf_J0_9 dJ0_length_8abf5_1 ?_
  obtain ⟨v_1, h_2⟩ : ∃ v9 : Int32, nI (bytStr.getD a_0 []).length = v9 := ⟨_, rfl⟩
  refine v_alenS hC ha_0 dJ0_length_8abf5_4 ?_
  have b_3 := len_v ha_0
  rw [h_2] at b_3 ⊢
  refine v_aload_n hC dJ0_length_8abf5_5 rfl ?_
  refine v_viS hC (rest := [.int v_1]) ha_0 rfl mi_J0_coder_7d493 ms_J0_coder_7d493 (p_J0_coder_7d493 hW ha_0) mx_J0_coder_7d493 ml_J0_335 (by decide) rfl (cells1 := 0) (slots1 := 0) (by decide) (by decide) (Nat.le_of_ble_eq_true rfl) (Nat.le_of_ble_eq_true rfl) rfl (Nat.le_of_ble_eq_true rfl) dJ0_length_8abf5_6 (fun r_4 L_5 f_6 h_7 => ?_)
  obtain ⟨rfl, rfl, b_8, nr_9⟩ := h_7
  obtain rfl : r_4 = 0 := Int32.toInt_inj.mp (by simp only [Int32.reduceToInt]; omega)
  refine v_ishr hC dJ0_length_8abf5_9 (sb_shr0 _) ?_
  exact hR _ _ _ _ _ _ _ dJ0_length_8abf5_10 rfl (Nat.le_of_ble_eq_true rfl) (Nat.le_of_ble_eq_true rfl) ⟨rfl, rfl, (by first | omega | (simp only [Int32.lt_iff_toInt_lt, Int32.le_iff_toInt_le, Int32.reduceToInt, ← Int32.toInt_inj, true_and, and_true, or_true, true_or, false_or, or_false, false_and, and_false, not_true_eq_false, not_false_eq_true] <;> omega)), (by first | omega | (simp only [Int32.lt_iff_toInt_lt, Int32.le_iff_toInt_le, Int32.reduceToInt, ← Int32.toInt_inj, true_and, and_true, or_true, true_or, false_or, or_false, false_and, and_false, not_true_eq_false, not_false_eq_true] <;> omega))⟩
set_option maxRecDepth 100000 in
set_option maxHeartbeats 8000000 in
theorem p_J0_isLatin1_aae02 {l : Launch} {E : Ez} {L : List Nat} {f : Nat → va_E} {T : Nat → va_E → Prop} {a_0 : Nat} (hW : WT T L f) (ha_0 : a_0 < 77) : CI l yJ0_isLatin1_aae02 cJ0_isLatin1_aae02 1 .boolean 0 0 0 E [.ref (eK E a_0)] L f (fun r L1 f1 => L = L1 ∧ f = f1 ∧ (1 ≤ r.toInt ∧ r.toInt ≤ 1)) := by
  refine ci_of (by decide) (Nat.le_of_ble_eq_true rfl) (fun z hz hnm hC hR => ?_)
  have hC : Cx z E cJ0_isLatin1_aae02 RJ0 1 0 0 0 := hC
  subst hz
  show V z E 1 0 0 L f 0 [(0, .ref (eK E a_0))] []
  refine v_getCS hC sf_J0_38 dJ0_isLatin1_aae02_0 ?_
  refine v_if_eq_f hC dJ0_isLatin1_aae02_3 (tgt := 17) (by decide) (by decide) ?_
  refine v_aload_n hC dJ0_isLatin1_aae02_6 rfl ?_
  refine v_getSc hC ha_0 sf_J0_15 dJ0_isLatin1_aae02_7 ?_
  refine v_if_ne_f hC dJ0_isLatin1_aae02_10 (tgt := 17) (by decide) (by decide) ?_
  refine v_iconst hC dJ0_isLatin1_aae02_13 (v := 1) (by decide) ?_
  refine v_goto hC dJ0_isLatin1_aae02_14 (tgt := 18) (by decide) ?_
  exact hR _ _ _ _ _ _ _ dJ0_isLatin1_aae02_18 rfl (Nat.le_of_ble_eq_true rfl) (Nat.le_of_ble_eq_true rfl) ⟨rfl, rfl, (by decide)⟩
set_option maxRecDepth 100000 in
set_option maxHeartbeats 8000000 in
theorem p_J3_checkIndex_8e157 {l : Launch} {E : Ez} {L : List Nat} {f : Nat → va_E} {T : Nat → va_E → Prop} {a_0 : Int32} {a_1 : Int32} (hW : WT T L f) (hlen : 0 ≤ a_0.toInt ∧ a_0.toInt < a_1.toInt) : CI l yJ3_checkIndex_8e157 cJ3_checkIndex_8e157 3 .int 0 0 0 E [.int a_0, .int a_1, .null] L f (fun r L1 f1 => L = L1 ∧ f = f1) := by
  refine ci_of (by decide) (Nat.le_of_ble_eq_true rfl) (fun z hz hnm hC hR => ?_)
  have hC : Cx z E cJ3_checkIndex_8e157 RJ3 3 0 0 0 := hC
  subst hz
  show V z E 3 0 0 L f 0 [(0, .int a_0), (1, .int a_1), (2, .null)] []
  refine v_iload_n hC dJ3_checkIndex_8e157_0 rfl ?_
  refine v_if_lt_f hC dJ3_checkIndex_8e157_1 (tgt := 9) (by decide) (by first | omega | (simp only [Int32.lt_iff_toInt_lt, Int32.le_iff_toInt_le, Int32.reduceToInt, ← Int32.toInt_inj, true_and, and_true, or_true, true_or, false_or, or_false, false_and, and_false, not_true_eq_false, not_false_eq_true] <;> omega)) ?_
  refine v_iload_n hC dJ3_checkIndex_8e157_4 rfl ?_
  refine v_iload_n hC dJ3_checkIndex_8e157_5 rfl ?_
  refine v_icmp_lt_t hC dJ3_checkIndex_8e157_6 (tgt := 16) (by decide) (by first | omega | (simp only [Int32.lt_iff_toInt_lt, Int32.le_iff_toInt_le, Int32.reduceToInt, ← Int32.toInt_inj, true_and, and_true, or_true, true_or, false_or, or_false, false_and, and_false, not_true_eq_false, not_false_eq_true] <;> omega)) ?_
  refine v_iload_n hC dJ3_checkIndex_8e157_16 rfl ?_
  exact hR _ _ _ _ _ _ _ dJ3_checkIndex_8e157_17 rfl (Nat.le_of_ble_eq_true rfl) (Nat.le_of_ble_eq_true rfl) ⟨rfl, rfl⟩
set_option maxRecDepth 100000 in
set_option maxHeartbeats 8000000 in
theorem p_J3_checkIndex_8e157_10 {l : Launch} {E : Ez} {L : List Nat} {f : Nat → va_E} {T : Nat → va_E → Prop} {a_0 : Int32} {a_1 : Int32} {a_2 : Nat} (hW : WT T L f) (hlen : 0 ≤ a_0.toInt ∧ a_0.toInt < a_1.toInt) : CI l yJ3_checkIndex_8e157 cJ3_checkIndex_8e157 3 .int 0 0 0 E [.int a_0, .int a_1, .ref a_2] L f (fun r L1 f1 => L = L1 ∧ f = f1) := by
  refine ci_of (by decide) (Nat.le_of_ble_eq_true rfl) (fun z hz hnm hC hR => ?_)
  have hC : Cx z E cJ3_checkIndex_8e157 RJ3 3 0 0 0 := hC
  subst hz
  show V z E 3 0 0 L f 0 [(0, .int a_0), (1, .int a_1), (2, .ref a_2)] []
  refine v_iload_n hC dJ3_checkIndex_8e157_0 rfl ?_
  refine v_if_lt_f hC dJ3_checkIndex_8e157_1 (tgt := 9) (by decide) (by first | omega | (simp only [Int32.lt_iff_toInt_lt, Int32.le_iff_toInt_le, Int32.reduceToInt, ← Int32.toInt_inj, true_and, and_true, or_true, true_or, false_or, or_false, false_and, and_false, not_true_eq_false, not_false_eq_true] <;> omega)) ?_
  refine v_iload_n hC dJ3_checkIndex_8e157_4 rfl ?_
  refine v_iload_n hC dJ3_checkIndex_8e157_5 rfl ?_
  refine v_icmp_lt_t hC dJ3_checkIndex_8e157_6 (tgt := 16) (by decide) (by first | omega | (simp only [Int32.lt_iff_toInt_lt, Int32.le_iff_toInt_le, Int32.reduceToInt, ← Int32.toInt_inj, true_and, and_true, or_true, true_or, false_or, or_false, false_and, and_false, not_true_eq_false, not_false_eq_true] <;> omega)) ?_
  refine v_iload_n hC dJ3_checkIndex_8e157_16 rfl ?_
  exact hR _ _ _ _ _ _ _ dJ3_checkIndex_8e157_17 rfl (Nat.le_of_ble_eq_true rfl) (Nat.le_of_ble_eq_true rfl) ⟨rfl, rfl⟩
set_option maxRecDepth 100000 in
set_option maxHeartbeats 8000000 in
theorem p_J0_checkIndex_df160 {l : Launch} {E : Ez} {L : List Nat} {f : Nat → va_E} {T : Nat → va_E → Prop} {a_0 : Int32} {a_1 : Int32} (hW : WT T L f) (hlen : 0 ≤ a_0.toInt ∧ a_0.toInt < a_1.toInt) : CV l yJ0_checkIndex_df160 cJ0_checkIndex_df160 2 1 0 0 E [.int a_0, .int a_1] L f (fun L1 f1 => L = L1 ∧ f = f1) := by
  refine cv_of (by decide) (Nat.le_of_ble_eq_true rfl) (fun z hz hnm hC hR => ?_)
  have hC : Cx z E cJ0_checkIndex_df160 RJ0 2 1 0 0 := hC
  subst hz
  show V z E 2 0 0 L f 0 [(0, .int a_0), (1, .int a_1)] []
  refine v_iload_n hC dJ0_checkIndex_df160_0 rfl ?_
  refine v_iload_n hC dJ0_checkIndex_df160_1 rfl ?_
  refine v_getSF hC sf_J0_1053 dJ0_checkIndex_df160_2 ?_ (fun o_1 => ?_)
  · refine v_si hC (rest := []) mt_J3_checkIndex_8e157 (p_J3_checkIndex_8e157 hW (by first | omega | (simp only [Int32.lt_iff_toInt_lt, Int32.le_iff_toInt_le, Int32.reduceToInt, ← Int32.toInt_inj, true_and, and_true, or_true, true_or, false_or, or_false, false_and, and_false, not_true_eq_false, not_false_eq_true] <;> omega))) mx_J3_checkIndex_8e157 ml_J0_1059 (by decide) rfl (cells1 := 0) (slots1 := 0) (by decide) (by decide) (Nat.le_of_ble_eq_true rfl) (Nat.le_of_ble_eq_true rfl) rfl (Nat.le_of_ble_eq_true rfl) dJ0_checkIndex_df160_5 (fun r_2 L_3 f_4 h_5 => ?_)
    obtain ⟨rfl, rfl⟩ := h_5
    refine v_pop hC dJ0_checkIndex_df160_8 rfl ?_
    exact hR _ _ _ _ _ _ dJ0_checkIndex_df160_9 (Nat.le_of_ble_eq_true rfl) (Nat.le_of_ble_eq_true rfl) ⟨rfl, rfl⟩
  · refine v_si hC (rest := []) mt_J3_checkIndex_8e157 (p_J3_checkIndex_8e157_10 hW (by first | omega | (simp only [Int32.lt_iff_toInt_lt, Int32.le_iff_toInt_le, Int32.reduceToInt, ← Int32.toInt_inj, true_and, and_true, or_true, true_or, false_or, or_false, false_and, and_false, not_true_eq_false, not_false_eq_true] <;> omega))) mx_J3_checkIndex_8e157 ml_J0_1059 (by decide) rfl (cells1 := 0) (slots1 := 0) (by decide) (by decide) (Nat.le_of_ble_eq_true rfl) (Nat.le_of_ble_eq_true rfl) rfl (Nat.le_of_ble_eq_true rfl) dJ0_checkIndex_df160_5 (fun r_8 L_9 f_10 h_11 => ?_)
    obtain ⟨rfl, rfl⟩ := h_11
    refine v_pop hC dJ0_checkIndex_df160_8 rfl ?_
    exact hR _ _ _ _ _ _ dJ0_checkIndex_df160_9 (Nat.le_of_ble_eq_true rfl) (Nat.le_of_ble_eq_true rfl) ⟨rfl, rfl⟩
