set_option maxRecDepth 100000 in
set_option maxHeartbeats 4000000 in
theorem p_X11_row {l : Launch} {E : Ez} {L : List Nat} {f : Nat → va_E} {T : Nat → va_E → Prop} {a_0 : Nat} {a_1 : Int32} {a_2 : Int32} {a_3 : Int32} (hW : WT T L f) (k_0 : isX T L E a_0) : CI l yX11_row cX11_row 4 .int 2 0 0 E [.ref a_0, .int a_1, .int a_2, .int a_3] L f (fun r L1 f1 => L = L1 ∧ WT T L f1 ∧ FR [5, 160] f f1 ∧ ((-3) ≤ r.toInt ∧ r.toInt ≤ 0) ∧ (¬ r.toInt = 0 ∨ (0 ≤ a_1.toInt ∧ a_1.toInt ≤ 3)) ∧ (¬ r.toInt = 0 ∨ (0 ≤ a_2.toInt ∧ a_2.toInt ≤ 3)) ∧ (¬ r.toInt = 0 ∨ (0 ≤ a_3.toInt ∧ a_3.toInt ≤ 60))) := by
  refine ci_of (by decide) (Nat.le_of_ble_eq_true rfl) (fun z hz hnm hC hR => ?_)
  have hC : Cx z E cX11_row RX11 4 2 0 0 := hC
  subst hz
  show V z E 4 0 0 L f 0 [(0, .ref a_0), (1, .int a_1), (2, .int a_2), (3, .int a_3)] []
  refine v_iload_n hC dX11_row_0 rfl ?_
  refine v_si hC (rest := []) mt_X11_isSlot (p_X11_isSlot hW) mx_X11_isSlot ml_X11_353 (by decide) rfl (cells1 := 0) (slots1 := 0) (by decide) (by decide) (Nat.le_of_ble_eq_true rfl) (Nat.le_of_ble_eq_true rfl) rfl (Nat.le_of_ble_eq_true rfl) dX11_row_1 (fun r_1 L_2 f_3 h_4 => ?_)
  obtain ⟨rfl, rfl, b_5, h_6⟩ := h_4
  refine v_if_eq hC dX11_row_4 (tgt := 22) (by decide) (fun h_9 => ?_) (fun h_9 => ?_)
  · simp only [Int32.lt_iff_toInt_lt, Int32.le_iff_toInt_le, Int32.reduceToInt, ← Int32.toInt_inj] at h_9
    refine v_bipush hC dX11_row_22 (v := (-2)) (by decide) ?_
    exact hR _ _ _ _ _ _ _ dX11_row_24 rfl (Nat.le_of_ble_eq_true rfl) (Nat.le_of_ble_eq_true rfl) ⟨rfl, hW, FR.rf, (by decide), (.inl (by decide)), (.inl (by decide)), (.inl (by decide))⟩
  · simp only [Int32.lt_iff_toInt_lt, Int32.le_iff_toInt_le, Int32.reduceToInt, ← Int32.toInt_inj] at h_9
    refine v_iload_n hC dX11_row_7 rfl ?_
    refine v_if_lt hC dX11_row_8 (tgt := 22) (by decide) (fun h_10 => ?_) (fun h_10 => ?_)
    · simp only [Int32.lt_iff_toInt_lt, Int32.le_iff_toInt_le, Int32.reduceToInt, ← Int32.toInt_inj] at h_10
      refine v_bipush hC dX11_row_22 (v := (-2)) (by decide) ?_
      exact hR _ _ _ _ _ _ _ dX11_row_24 rfl (Nat.le_of_ble_eq_true rfl) (Nat.le_of_ble_eq_true rfl) ⟨rfl, hW, FR.rf, (by decide), (.inl (by decide)), (.inl (by decide)), (.inl (by decide))⟩
    · simp only [Int32.lt_iff_toInt_lt, Int32.le_iff_toInt_le, Int32.reduceToInt, ← Int32.toInt_inj] at h_10
      refine v_iload_n hC dX11_row_11 rfl ?_
      refine v_iconst hC dX11_row_12 (v := 4) (by decide) ?_
      refine v_icmp_ge hC dX11_row_13 (tgt := 22) (by decide) (fun h_11 => ?_) (fun h_11 => ?_)
      · simp only [Int32.lt_iff_toInt_lt, Int32.le_iff_toInt_le, Int32.reduceToInt, ← Int32.toInt_inj] at h_11
        refine v_bipush hC dX11_row_22 (v := (-2)) (by decide) ?_
        exact hR _ _ _ _ _ _ _ dX11_row_24 rfl (Nat.le_of_ble_eq_true rfl) (Nat.le_of_ble_eq_true rfl) ⟨rfl, hW, FR.rf, (by decide), (.inl (by decide)), (.inl (by decide)), (.inl (by decide))⟩
      · simp only [Int32.lt_iff_toInt_lt, Int32.le_iff_toInt_le, Int32.reduceToInt, ← Int32.toInt_inj] at h_11
        refine v_iload_n hC dX11_row_16 rfl ?_
        refine v_bipush hC dX11_row_17 (v := 60) (by decide) ?_
        refine v_icmp_le hC dX11_row_19 (tgt := 25) (by decide) (fun h_12 => ?_) (fun h_12 => ?_)
        · simp only [Int32.lt_iff_toInt_lt, Int32.le_iff_toInt_le, Int32.reduceToInt, ← Int32.toInt_inj] at h_12
          refine v_iload_n hC dX11_row_25 rfl ?_
          refine v_if_ge hC dX11_row_26 (tgt := 32) (by decide) (fun h_13 => ?_) (fun h_13 => ?_)
          · simp only [Int32.lt_iff_toInt_lt, Int32.le_iff_toInt_le, Int32.reduceToInt, ← Int32.toInt_inj] at h_13
            refine v_aload_n hC dX11_row_32 rfl ?_
            obtain ⟨m_14, q_16, q_17, q_18, q_19, q_20, q_21, q_22, q_23, q_24, q_25, q_26, q_27, q_28, q_29, t_15, k_30, k_31, k_32, k_33, k_34, k_35, k_36, k_37, k_38, k_39, k_40, k_41, k_42, k_43⟩ := id k_0
            have e_44 : f a_0 = ob 11 [.ref q_16, .ref q_17, .ref q_18, .ref q_19, .ref q_20, .ref q_21, .ref q_22, .ref q_23, .ref q_24, .ref q_25, .ref q_26, .ref q_27, .ref q_28, .ref q_29] := hW.at m_14 t_15
            refine v_get hC fl_X11_36 m_14 e_44 rfl dX11_row_33 ?_
            refine v_iload_n hC dX11_row_36 rfl ?_
            obtain ⟨m_45, g_47, t_46, k_48⟩ := id k_34
            have e_49 : f q_20 = aR E 6 4 g_47 := hW.at m_45 t_46
            obtain ⟨q_50, h_51, k_52⟩ := k_48 (a_1 : Int32).toNatClampNeg (clamp_lt (vp_in_iff.mpr (by first | omega | (simp only [Int32.lt_iff_toInt_lt, Int32.le_iff_toInt_le, Int32.reduceToInt, ← Int32.toInt_inj]; omega))))
            refine v_aald hC m_45 e_49 rfl (vp_in_iff.mpr (by first | omega | (simp only [Int32.lt_iff_toInt_lt, Int32.le_iff_toInt_le, Int32.reduceToInt, ← Int32.toInt_inj]; omega))) (v := .ref q_50) (by rw [h_51]; rfl) dX11_row_37 ?_
            refine v_iload_n hC dX11_row_38 rfl ?_
            refine v_iload_n hC dX11_row_39 rfl ?_
            obtain ⟨m_53, q_55, t_54, k_56⟩ := id k_52
            obtain ⟨v_58, v_60, e_57, b_59, b_61⟩ := hW.at m_53 t_54
            refine v_vv hC (rest := []) m_53 e_57 rfl mi_X5_begin ms_X5_begin (p_X5_begin hW k_52 (by first | omega | (simp only [Int32.lt_iff_toInt_lt, Int32.le_iff_toInt_le, Int32.reduceToInt, ← Int32.toInt_inj]; omega)) (by first | omega | (simp only [Int32.lt_iff_toInt_lt, Int32.le_iff_toInt_le, Int32.reduceToInt, ← Int32.toInt_inj]; omega))) mx_X5_begin ml_X11_356 (by decide) rfl (cells1 := 0) (slots1 := 0) (by decide) (by decide) (Nat.le_of_ble_eq_true rfl) (Nat.le_of_ble_eq_true rfl) rfl (Nat.le_of_ble_eq_true rfl) dX11_row_40 (fun L_63 f_64 h_65 => ?_)
            obtain ⟨rfl, hW_66, hF_67⟩ := h_65
            have hf_68 := hF_67.at e_44 rfl
            have hf_69 := hF_67.at e_49 rfl
            refine v_iconst hC dX11_row_43 (v := 0) (by decide) ?_
            exact hR _ _ _ _ _ _ _ dX11_row_44 rfl (Nat.le_of_ble_eq_true rfl) (Nat.le_of_ble_eq_true rfl) ⟨rfl, hW_66, (hF_67.mono rfl), (by decide), (.inr (by first | omega | (simp only [Int32.lt_iff_toInt_lt, Int32.le_iff_toInt_le, Int32.reduceToInt, ← Int32.toInt_inj]; omega))), (.inr (by first | omega | (simp only [Int32.lt_iff_toInt_lt, Int32.le_iff_toInt_le, Int32.reduceToInt, ← Int32.toInt_inj]; omega))), (.inr (by first | omega | (simp only [Int32.lt_iff_toInt_lt, Int32.le_iff_toInt_le, Int32.reduceToInt, ← Int32.toInt_inj]; omega)))⟩
          · simp only [Int32.lt_iff_toInt_lt, Int32.le_iff_toInt_le, Int32.reduceToInt, ← Int32.toInt_inj] at h_13
            refine v_bipush hC dX11_row_29 (v := (-3)) (by decide) ?_
            exact hR _ _ _ _ _ _ _ dX11_row_31 rfl (Nat.le_of_ble_eq_true rfl) (Nat.le_of_ble_eq_true rfl) ⟨rfl, hW, FR.rf, (by decide), (.inl (by decide)), (.inl (by decide)), (.inl (by decide))⟩
        · simp only [Int32.lt_iff_toInt_lt, Int32.le_iff_toInt_le, Int32.reduceToInt, ← Int32.toInt_inj] at h_12
          refine v_bipush hC dX11_row_22 (v := (-2)) (by decide) ?_
          exact hR _ _ _ _ _ _ _ dX11_row_24 rfl (Nat.le_of_ble_eq_true rfl) (Nat.le_of_ble_eq_true rfl) ⟨rfl, hW, FR.rf, (by decide), (.inl (by decide)), (.inl (by decide)), (.inl (by decide))⟩
set_option maxRecDepth 100000 in
set_option maxHeartbeats 4000000 in
theorem p_X11_write {l : Launch} {E : Ez} {L : List Nat} {f : Nat → va_E} {T : Nat → va_E → Prop} {a_0 : Nat} {a_1 : Int32} {a_2 : Int32} {a_3 : Int64} (hW : WT T L f) (k_0 : isX T L E a_0) : CI l yX11_write cX11_write 5 .int 2 0 0 E [.ref a_0, .int a_1, .int a_2, .long a_3] L f (fun r L1 f1 => L = L1 ∧ WT T L f1 ∧ FR [160] f f1 ∧ ((-7) ≤ r.toInt ∧ r.toInt ≤ 0) ∧ (¬ r.toInt = 0 ∨ (0 ≤ a_1.toInt ∧ a_1.toInt ≤ 3)) ∧ (¬ r.toInt = 0 ∨ (0 ≤ a_2.toInt ∧ a_2.toInt ≤ 60))) := by
  refine ci_of (by decide) (Nat.le_of_ble_eq_true rfl) (fun z hz hnm hC hR => ?_)
  have hC : Cx z E cX11_write RX11 5 2 0 0 := hC
  subst hz
  show V z E 5 0 0 L f 0 [(0, .ref a_0), (1, .int a_1), (2, .int a_2), (3, .long a_3)] []
  refine v_iload_n hC dX11_write_0 rfl ?_
  refine v_si hC (rest := []) mt_X11_isSlot (p_X11_isSlot hW) mx_X11_isSlot ml_X11_353 (by decide) rfl (cells1 := 0) (slots1 := 0) (by decide) (by decide) (Nat.le_of_ble_eq_true rfl) (Nat.le_of_ble_eq_true rfl) rfl (Nat.le_of_ble_eq_true rfl) dX11_write_1 (fun r_1 L_2 f_3 h_4 => ?_)
  obtain ⟨rfl, rfl, b_5, h_6⟩ := h_4
  refine v_if_ne hC dX11_write_4 (tgt := 10) (by decide) (fun h_9 => ?_) (fun h_9 => ?_)
  · simp only [Int32.lt_iff_toInt_lt, Int32.le_iff_toInt_le, Int32.reduceToInt, ← Int32.toInt_inj] at h_9
    refine v_aload_n hC dX11_write_10 rfl ?_
    obtain ⟨m_10, q_12, q_13, q_14, q_15, q_16, q_17, q_18, q_19, q_20, q_21, q_22, q_23, q_24, q_25, t_11, k_26, k_27, k_28, k_29, k_30, k_31, k_32, k_33, k_34, k_35, k_36, k_37, k_38, k_39⟩ := id k_0
    have e_40 : f a_0 = ob 11 [.ref q_12, .ref q_13, .ref q_14, .ref q_15, .ref q_16, .ref q_17, .ref q_18, .ref q_19, .ref q_20, .ref q_21, .ref q_22, .ref q_23, .ref q_24, .ref q_25] := hW.at m_10 t_11
    refine v_get hC fl_X11_36 m_10 e_40 rfl dX11_write_11 ?_
    refine v_iload_n hC dX11_write_14 rfl ?_
    obtain ⟨m_41, g_43, t_42, k_44⟩ := id k_30
    have e_45 : f q_16 = aR E 6 4 g_43 := hW.at m_41 t_42
    obtain ⟨q_46, h_47, k_48⟩ := k_44 (a_1 : Int32).toNatClampNeg (clamp_lt (vp_in_iff.mpr (by first | omega | (simp only [Int32.lt_iff_toInt_lt, Int32.le_iff_toInt_le, Int32.reduceToInt, ← Int32.toInt_inj]; omega))))
    refine v_aald hC m_41 e_45 rfl (vp_in_iff.mpr (by first | omega | (simp only [Int32.lt_iff_toInt_lt, Int32.le_iff_toInt_le, Int32.reduceToInt, ← Int32.toInt_inj]; omega))) (v := .ref q_46) (by rw [h_47]; rfl) dX11_write_15 ?_
    obtain ⟨m_49, q_51, t_50, k_52⟩ := id k_48
    obtain ⟨v_54, v_56, e_53, b_55, b_57⟩ := hW.at m_49 t_50
    refine v_vi hC (rest := []) m_49 e_53 rfl mi_X5_isThere ms_X5_isThere (p_X5_isThere hW k_48) mx_X5_isThere ml_X11_359 (by decide) rfl (cells1 := 0) (slots1 := 0) (by decide) (by decide) (Nat.le_of_ble_eq_true rfl) (Nat.le_of_ble_eq_true rfl) rfl (Nat.le_of_ble_eq_true rfl) dX11_write_16 (fun r_58 L_59 f_60 h_61 => ?_)
    obtain ⟨rfl, rfl, b_62⟩ := h_61
    refine v_if_ne hC dX11_write_19 (tgt := 25) (by decide) (fun h_65 => ?_) (fun h_65 => ?_)
    · simp only [Int32.lt_iff_toInt_lt, Int32.le_iff_toInt_le, Int32.reduceToInt, ← Int32.toInt_inj] at h_65
      refine v_aload_n hC dX11_write_25 rfl ?_
      refine v_get hC fl_X11_36 m_10 e_40 rfl dX11_write_26 ?_
      refine v_iload_n hC dX11_write_29 rfl ?_
      obtain ⟨q_66, h_67, k_68⟩ := k_44 (a_1 : Int32).toNatClampNeg (clamp_lt (vp_in_iff.mpr (by first | omega | (simp only [Int32.lt_iff_toInt_lt, Int32.le_iff_toInt_le, Int32.reduceToInt, ← Int32.toInt_inj]; omega))))
      refine v_aald hC m_41 e_45 rfl (vp_in_iff.mpr (by first | omega | (simp only [Int32.lt_iff_toInt_lt, Int32.le_iff_toInt_le, Int32.reduceToInt, ← Int32.toInt_inj]; omega))) (v := .ref q_66) (by rw [h_67]; rfl) dX11_write_30 ?_
      refine v_iload_n hC dX11_write_31 rfl ?_
      refine v_iconst hC dX11_write_32 (v := 1) (by decide) ?_
      obtain ⟨m_69, q_71, t_70, k_72⟩ := id k_68
      obtain ⟨v_74, v_76, e_73, b_75, b_77⟩ := hW.at m_69 t_70
      refine v_vi hC (rest := []) m_69 e_73 rfl mi_X5_has ms_X5_has (p_X5_has hW k_68) mx_X5_has ml_X11_360 (by decide) rfl (cells1 := 0) (slots1 := 0) (by decide) (by decide) (Nat.le_of_ble_eq_true rfl) (Nat.le_of_ble_eq_true rfl) rfl (Nat.le_of_ble_eq_true rfl) dX11_write_33 (fun r_78 L_79 f_80 h_81 => ?_)
      obtain ⟨rfl, rfl, b_82, h_83, h_84, x_85⟩ := h_81
      try simp only [Int32.reduceToInt] at x_85
      refine v_if_ne hC dX11_write_36 (tgt := 42) (by decide) (fun h_88 => ?_) (fun h_88 => ?_)
      · simp only [Int32.lt_iff_toInt_lt, Int32.le_iff_toInt_le, Int32.reduceToInt, ← Int32.toInt_inj] at h_88
        refine v_aload_n hC dX11_write_42 rfl ?_
        refine v_get hC fl_X11_36 m_10 e_40 rfl dX11_write_43 ?_
        refine v_iload_n hC dX11_write_46 rfl ?_
        obtain ⟨q_89, h_90, k_91⟩ := k_44 (a_1 : Int32).toNatClampNeg (clamp_lt (vp_in_iff.mpr (by first | omega | (simp only [Int32.lt_iff_toInt_lt, Int32.le_iff_toInt_le, Int32.reduceToInt, ← Int32.toInt_inj]; omega))))
        refine v_aald hC m_41 e_45 rfl (vp_in_iff.mpr (by first | omega | (simp only [Int32.lt_iff_toInt_lt, Int32.le_iff_toInt_le, Int32.reduceToInt, ← Int32.toInt_inj]; omega))) (v := .ref q_89) (by rw [h_90]; rfl) dX11_write_47 ?_
        refine v_iload_n hC dX11_write_48 rfl ?_
        refine v_lload_n hC dX11_write_49 rfl ?_
        obtain ⟨m_92, q_94, t_93, k_95⟩ := id k_91
        obtain ⟨v_97, v_99, e_96, b_98, b_100⟩ := hW.at m_92 t_93
        refine v_vv hC (rest := []) m_92 e_96 rfl mi_X5_set ms_X5_set (p_X5_set hW k_91) mx_X5_set ml_X11_364 (by decide) rfl (cells1 := 0) (slots1 := 0) (by decide) (by decide) (Nat.le_of_ble_eq_true rfl) (Nat.le_of_ble_eq_true rfl) rfl (Nat.le_of_ble_eq_true rfl) dX11_write_50 (fun L_102 f_103 h_104 => ?_)
        obtain ⟨rfl, hW_105, hF_106⟩ := h_104
        have hf_107 := hF_106.at e_40 rfl
        have hf_108 := hF_106.at e_45 rfl
        have hf_109 := hF_106.at e_53 rfl
        have hf_110 := hF_106.at e_73 rfl
        have hf_111 := hF_106.at e_96 rfl
        refine v_iconst hC dX11_write_53 (v := 0) (by decide) ?_
        exact hR _ _ _ _ _ _ _ dX11_write_54 rfl (Nat.le_of_ble_eq_true rfl) (Nat.le_of_ble_eq_true rfl) ⟨rfl, hW_105, (hF_106.mono rfl), (by decide), (.inr (by first | omega | (simp only [Int32.lt_iff_toInt_lt, Int32.le_iff_toInt_le, Int32.reduceToInt, ← Int32.toInt_inj]; omega))), (.inr (by first | omega | (simp only [Int32.lt_iff_toInt_lt, Int32.le_iff_toInt_le, Int32.reduceToInt, ← Int32.toInt_inj]; omega)))⟩
      · simp only [Int32.lt_iff_toInt_lt, Int32.le_iff_toInt_le, Int32.reduceToInt, ← Int32.toInt_inj] at h_88
        refine v_bipush hC dX11_write_39 (v := (-7)) (by decide) ?_
        exact hR _ _ _ _ _ _ _ dX11_write_41 rfl (Nat.le_of_ble_eq_true rfl) (Nat.le_of_ble_eq_true rfl) ⟨rfl, hW, FR.rf, (by decide), (.inl (by decide)), (.inl (by decide))⟩
    · simp only [Int32.lt_iff_toInt_lt, Int32.le_iff_toInt_le, Int32.reduceToInt, ← Int32.toInt_inj] at h_65
      refine v_bipush hC dX11_write_22 (v := (-6)) (by decide) ?_
      exact hR _ _ _ _ _ _ _ dX11_write_24 rfl (Nat.le_of_ble_eq_true rfl) (Nat.le_of_ble_eq_true rfl) ⟨rfl, hW, FR.rf, (by decide), (.inl (by decide)), (.inl (by decide))⟩
  · simp only [Int32.lt_iff_toInt_lt, Int32.le_iff_toInt_le, Int32.reduceToInt, ← Int32.toInt_inj] at h_9
    refine v_bipush hC dX11_write_7 (v := (-2)) (by decide) ?_
    exact hR _ _ _ _ _ _ _ dX11_write_9 rfl (Nat.le_of_ble_eq_true rfl) (Nat.le_of_ble_eq_true rfl) ⟨rfl, hW, FR.rf, (by decide), (.inl (by decide)), (.inl (by decide))⟩
set_option maxRecDepth 100000 in
set_option maxHeartbeats 4000000 in
theorem p_X11_paste {l : Launch} {E : Ez} {L : List Nat} {f : Nat → va_E} {T : Nat → va_E → Prop} {a_0 : Nat} {a_1 : Int32} {a_2 : Int32} {a_3 : Int32} {a_4 : Int32} {a_5 : Int32} (hW : WT T L f) (k_0 : isX T L E a_0) : CI l yX11_paste cX11_paste 6 .int 1 0 0 E [.ref a_0, .int a_1, .int a_2, .int a_3, .int a_4, .int a_5] L f (fun r L1 f1 => L = L1 ∧ WT T L f1 ∧ FR [160] f f1 ∧ ((-8) ≤ r.toInt ∧ r.toInt ≤ 0) ∧ (¬ r.toInt = 0 ∨ (0 ≤ a_1.toInt ∧ a_1.toInt ≤ 3)) ∧ (¬ r.toInt = 0 ∨ (0 ≤ a_2.toInt ∧ a_2.toInt ≤ 60)) ∧ (¬ r.toInt = 0 ∨ (0 ≤ a_3.toInt ∧ a_3.toInt ≤ 3)) ∧ (¬ r.toInt = 0 ∨ (0 ≤ a_4.toInt ∧ a_4.toInt ≤ 60)) ∧ (¬ r.toInt = 0 ∨ (0 ≤ a_5.toInt ∧ a_5.toInt ≤ 60))) := by
  refine ci_of (by decide) (Nat.le_of_ble_eq_true rfl) (fun z hz hnm hC hR => ?_)
  have hC : Cx z E cX11_paste RX11 6 1 0 0 := hC
  subst hz
  show V z E 6 0 0 L f 0 [(0, .ref a_0), (1, .int a_1), (2, .int a_2), (3, .int a_3), (4, .int a_4), (5, .int a_5)] []
  refine v_iload_n hC dX11_paste_0 rfl ?_
  refine v_si hC (rest := []) mt_X11_isSlot (p_X11_isSlot hW) mx_X11_isSlot ml_X11_353 (by decide) rfl (cells1 := 0) (slots1 := 0) (by decide) (by decide) (Nat.le_of_ble_eq_true rfl) (Nat.le_of_ble_eq_true rfl) rfl (Nat.le_of_ble_eq_true rfl) dX11_paste_1 (fun r_1 L_2 f_3 h_4 => ?_)
  obtain ⟨rfl, rfl, b_5, h_6⟩ := h_4
  refine v_if_eq hC dX11_paste_4 (tgt := 14) (by decide) (fun h_9 => ?_) (fun h_9 => ?_)
  · simp only [Int32.lt_iff_toInt_lt, Int32.le_iff_toInt_le, Int32.reduceToInt, ← Int32.toInt_inj] at h_9
    refine v_bipush hC dX11_paste_14 (v := (-2)) (by decide) ?_
    exact hR _ _ _ _ _ _ _ dX11_paste_16 rfl (Nat.le_of_ble_eq_true rfl) (Nat.le_of_ble_eq_true rfl) ⟨rfl, hW, FR.rf, (by decide), (.inl (by decide)), (.inl (by decide)), (.inl (by decide)), (.inl (by decide)), (.inl (by decide))⟩
  · simp only [Int32.lt_iff_toInt_lt, Int32.le_iff_toInt_le, Int32.reduceToInt, ← Int32.toInt_inj] at h_9
    refine v_iload_n hC dX11_paste_7 rfl ?_
    refine v_si hC (rest := []) mt_X11_isSlot (p_X11_isSlot hW) mx_X11_isSlot ml_X11_353 (by decide) rfl (cells1 := 0) (slots1 := 0) (by decide) (by decide) (Nat.le_of_ble_eq_true rfl) (Nat.le_of_ble_eq_true rfl) rfl (Nat.le_of_ble_eq_true rfl) dX11_paste_8 (fun r_10 L_11 f_12 h_13 => ?_)
    obtain ⟨rfl, rfl, b_14, h_15⟩ := h_13
    refine v_if_ne hC dX11_paste_11 (tgt := 17) (by decide) (fun h_18 => ?_) (fun h_18 => ?_)
    · simp only [Int32.lt_iff_toInt_lt, Int32.le_iff_toInt_le, Int32.reduceToInt, ← Int32.toInt_inj] at h_18
      refine v_aload_n hC dX11_paste_17 rfl ?_
      obtain ⟨m_19, q_21, q_22, q_23, q_24, q_25, q_26, q_27, q_28, q_29, q_30, q_31, q_32, q_33, q_34, t_20, k_35, k_36, k_37, k_38, k_39, k_40, k_41, k_42, k_43, k_44, k_45, k_46, k_47, k_48⟩ := id k_0
      have e_49 : f a_0 = ob 11 [.ref q_21, .ref q_22, .ref q_23, .ref q_24, .ref q_25, .ref q_26, .ref q_27, .ref q_28, .ref q_29, .ref q_30, .ref q_31, .ref q_32, .ref q_33, .ref q_34] := hW.at m_19 t_20
      refine v_get hC fl_X11_36 m_19 e_49 rfl dX11_paste_18 ?_
      refine v_iload_n hC dX11_paste_21 rfl ?_
      obtain ⟨m_50, g_52, t_51, k_53⟩ := id k_39
      have e_54 : f q_25 = aR E 6 4 g_52 := hW.at m_50 t_51
      obtain ⟨q_55, h_56, k_57⟩ := k_53 (a_1 : Int32).toNatClampNeg (clamp_lt (vp_in_iff.mpr (by first | omega | (simp only [Int32.lt_iff_toInt_lt, Int32.le_iff_toInt_le, Int32.reduceToInt, ← Int32.toInt_inj]; omega))))
      refine v_aald hC m_50 e_54 rfl (vp_in_iff.mpr (by first | omega | (simp only [Int32.lt_iff_toInt_lt, Int32.le_iff_toInt_le, Int32.reduceToInt, ← Int32.toInt_inj]; omega))) (v := .ref q_55) (by rw [h_56]; rfl) dX11_paste_22 ?_
      obtain ⟨m_58, q_60, t_59, k_61⟩ := id k_57
      obtain ⟨v_63, v_65, e_62, b_64, b_66⟩ := hW.at m_58 t_59
      refine v_vi hC (rest := []) m_58 e_62 rfl mi_X5_isThere ms_X5_isThere (p_X5_isThere hW k_57) mx_X5_isThere ml_X11_359 (by decide) rfl (cells1 := 0) (slots1 := 0) (by decide) (by decide) (Nat.le_of_ble_eq_true rfl) (Nat.le_of_ble_eq_true rfl) rfl (Nat.le_of_ble_eq_true rfl) dX11_paste_23 (fun r_67 L_68 f_69 h_70 => ?_)
      obtain ⟨rfl, rfl, b_71⟩ := h_70
      refine v_if_eq hC dX11_paste_26 (tgt := 41) (by decide) (fun h_74 => ?_) (fun h_74 => ?_)
      · simp only [Int32.lt_iff_toInt_lt, Int32.le_iff_toInt_le, Int32.reduceToInt, ← Int32.toInt_inj] at h_74
        refine v_bipush hC dX11_paste_41 (v := (-6)) (by decide) ?_
        exact hR _ _ _ _ _ _ _ dX11_paste_43 rfl (Nat.le_of_ble_eq_true rfl) (Nat.le_of_ble_eq_true rfl) ⟨rfl, hW, FR.rf, (by decide), (.inl (by decide)), (.inl (by decide)), (.inl (by decide)), (.inl (by decide)), (.inl (by decide))⟩
      · simp only [Int32.lt_iff_toInt_lt, Int32.le_iff_toInt_le, Int32.reduceToInt, ← Int32.toInt_inj] at h_74
        refine v_aload_n hC dX11_paste_29 rfl ?_
        refine v_get hC fl_X11_36 m_19 e_49 rfl dX11_paste_30 ?_
        refine v_iload_n hC dX11_paste_33 rfl ?_
        obtain ⟨q_75, h_76, k_77⟩ := k_53 (a_3 : Int32).toNatClampNeg (clamp_lt (vp_in_iff.mpr (by first | omega | (simp only [Int32.lt_iff_toInt_lt, Int32.le_iff_toInt_le, Int32.reduceToInt, ← Int32.toInt_inj]; omega))))
        refine v_aald hC m_50 e_54 rfl (vp_in_iff.mpr (by first | omega | (simp only [Int32.lt_iff_toInt_lt, Int32.le_iff_toInt_le, Int32.reduceToInt, ← Int32.toInt_inj]; omega))) (v := .ref q_75) (by rw [h_76]; rfl) dX11_paste_34 ?_
        obtain ⟨m_78, q_80, t_79, k_81⟩ := id k_77
        obtain ⟨v_83, v_85, e_82, b_84, b_86⟩ := hW.at m_78 t_79
        refine v_vi hC (rest := []) m_78 e_82 rfl mi_X5_isThere ms_X5_isThere (p_X5_isThere hW k_77) mx_X5_isThere ml_X11_359 (by decide) rfl (cells1 := 0) (slots1 := 0) (by decide) (by decide) (Nat.le_of_ble_eq_true rfl) (Nat.le_of_ble_eq_true rfl) rfl (Nat.le_of_ble_eq_true rfl) dX11_paste_35 (fun r_87 L_88 f_89 h_90 => ?_)
        obtain ⟨rfl, rfl, b_91⟩ := h_90
        refine v_if_ne hC dX11_paste_38 (tgt := 44) (by decide) (fun h_94 => ?_) (fun h_94 => ?_)
        · simp only [Int32.lt_iff_toInt_lt, Int32.le_iff_toInt_le, Int32.reduceToInt, ← Int32.toInt_inj] at h_94
          refine v_aload_n hC dX11_paste_44 rfl ?_
          refine v_get hC fl_X11_36 m_19 e_49 rfl dX11_paste_45 ?_
          refine v_iload_n hC dX11_paste_48 rfl ?_
          obtain ⟨q_95, h_96, k_97⟩ := k_53 (a_1 : Int32).toNatClampNeg (clamp_lt (vp_in_iff.mpr (by first | omega | (simp only [Int32.lt_iff_toInt_lt, Int32.le_iff_toInt_le, Int32.reduceToInt, ← Int32.toInt_inj]; omega))))
          refine v_aald hC m_50 e_54 rfl (vp_in_iff.mpr (by first | omega | (simp only [Int32.lt_iff_toInt_lt, Int32.le_iff_toInt_le, Int32.reduceToInt, ← Int32.toInt_inj]; omega))) (v := .ref q_95) (by rw [h_96]; rfl) dX11_paste_49 ?_
          obtain ⟨m_98, q_100, t_99, k_101⟩ := id k_97
          obtain ⟨v_103, v_105, e_102, b_104, b_106⟩ := hW.at m_98 t_99
          refine v_getN hC fn_X11_368 m_98 e_102 rfl dX11_paste_50 ?_
          refine v_aload_n hC dX11_paste_53 rfl ?_
          refine v_get hC fl_X11_36 m_19 e_49 rfl dX11_paste_54 ?_
          refine v_iload_n hC dX11_paste_57 rfl ?_
          obtain ⟨q_107, h_108, k_109⟩ := k_53 (a_3 : Int32).toNatClampNeg (clamp_lt (vp_in_iff.mpr (by first | omega | (simp only [Int32.lt_iff_toInt_lt, Int32.le_iff_toInt_le, Int32.reduceToInt, ← Int32.toInt_inj]; omega))))
          refine v_aald hC m_50 e_54 rfl (vp_in_iff.mpr (by first | omega | (simp only [Int32.lt_iff_toInt_lt, Int32.le_iff_toInt_le, Int32.reduceToInt, ← Int32.toInt_inj]; omega))) (v := .ref q_107) (by rw [h_108]; rfl) dX11_paste_58 ?_
          obtain ⟨m_110, q_112, t_111, k_113⟩ := id k_109
          obtain ⟨v_115, v_117, e_114, b_116, b_118⟩ := hW.at m_110 t_111
          refine v_getN hC fn_X11_368 m_110 e_114 rfl dX11_paste_59 ?_
          refine v_icmp_eq hC dX11_paste_62 (tgt := 68) (by decide) (fun h_119 => ?_) (fun h_119 => ?_)
          · simp only [Int32.lt_iff_toInt_lt, Int32.le_iff_toInt_le, Int32.reduceToInt, ← Int32.toInt_inj] at h_119
            refine v_aload_n hC dX11_paste_68 rfl ?_
            refine v_get hC fl_X11_36 m_19 e_49 rfl dX11_paste_69 ?_
            refine v_iload_n hC dX11_paste_72 rfl ?_
            obtain ⟨q_120, h_121, k_122⟩ := k_53 (a_1 : Int32).toNatClampNeg (clamp_lt (vp_in_iff.mpr (by first | omega | (simp only [Int32.lt_iff_toInt_lt, Int32.le_iff_toInt_le, Int32.reduceToInt, ← Int32.toInt_inj]; omega))))
            refine v_aald hC m_50 e_54 rfl (vp_in_iff.mpr (by first | omega | (simp only [Int32.lt_iff_toInt_lt, Int32.le_iff_toInt_le, Int32.reduceToInt, ← Int32.toInt_inj]; omega))) (v := .ref q_120) (by rw [h_121]; rfl) dX11_paste_73 ?_
            refine v_iload_n hC dX11_paste_74 rfl ?_
            refine v_iload hC dX11_paste_75 rfl ?_
            obtain ⟨m_123, q_125, t_124, k_126⟩ := id k_122
            obtain ⟨v_128, v_130, e_127, b_129, b_131⟩ := hW.at m_123 t_124
            refine v_vi hC (rest := []) m_123 e_127 rfl mi_X5_has ms_X5_has (p_X5_has hW k_122) mx_X5_has ml_X11_360 (by decide) rfl (cells1 := 0) (slots1 := 0) (by decide) (by decide) (Nat.le_of_ble_eq_true rfl) (Nat.le_of_ble_eq_true rfl) rfl (Nat.le_of_ble_eq_true rfl) dX11_paste_77 (fun r_132 L_133 f_134 h_135 => ?_)
            obtain ⟨rfl, rfl, b_136, h_137, h_138, x_139⟩ := h_135
            try simp only [Int32.reduceToInt] at x_139
            refine v_if_eq hC dX11_paste_80 (tgt := 99) (by decide) (fun h_142 => ?_) (fun h_142 => ?_)
            · simp only [Int32.lt_iff_toInt_lt, Int32.le_iff_toInt_le, Int32.reduceToInt, ← Int32.toInt_inj] at h_142
              refine v_bipush hC dX11_paste_99 (v := (-7)) (by decide) ?_
              exact hR _ _ _ _ _ _ _ dX11_paste_101 rfl (Nat.le_of_ble_eq_true rfl) (Nat.le_of_ble_eq_true rfl) ⟨rfl, hW, FR.rf, (by decide), (.inl (by decide)), (.inl (by decide)), (.inl (by decide)), (.inl (by decide)), (.inl (by decide))⟩
            · simp only [Int32.lt_iff_toInt_lt, Int32.le_iff_toInt_le, Int32.reduceToInt, ← Int32.toInt_inj] at h_142
              refine v_aload_n hC dX11_paste_83 rfl ?_
              refine v_get hC fl_X11_36 m_19 e_49 rfl dX11_paste_84 ?_
              refine v_iload_n hC dX11_paste_87 rfl ?_
              obtain ⟨q_143, h_144, k_145⟩ := k_53 (a_3 : Int32).toNatClampNeg (clamp_lt (vp_in_iff.mpr (by first | omega | (simp only [Int32.lt_iff_toInt_lt, Int32.le_iff_toInt_le, Int32.reduceToInt, ← Int32.toInt_inj]; omega))))
              refine v_aald hC m_50 e_54 rfl (vp_in_iff.mpr (by first | omega | (simp only [Int32.lt_iff_toInt_lt, Int32.le_iff_toInt_le, Int32.reduceToInt, ← Int32.toInt_inj]; omega))) (v := .ref q_143) (by rw [h_144]; rfl) dX11_paste_88 ?_
              refine v_iload hC dX11_paste_89 rfl ?_
              refine v_iload hC dX11_paste_91 rfl ?_
              obtain ⟨m_146, q_148, t_147, k_149⟩ := id k_145
              obtain ⟨v_151, v_153, e_150, b_152, b_154⟩ := hW.at m_146 t_147
              refine v_vi hC (rest := []) m_146 e_150 rfl mi_X5_has ms_X5_has (p_X5_has hW k_145) mx_X5_has ml_X11_360 (by decide) rfl (cells1 := 0) (slots1 := 0) (by decide) (by decide) (Nat.le_of_ble_eq_true rfl) (Nat.le_of_ble_eq_true rfl) rfl (Nat.le_of_ble_eq_true rfl) dX11_paste_93 (fun r_155 L_156 f_157 h_158 => ?_)
              obtain ⟨rfl, rfl, b_159, h_160, h_161, x_162⟩ := h_158
              try simp only [Int32.reduceToInt] at x_162
              refine v_if_ne hC dX11_paste_96 (tgt := 102) (by decide) (fun h_165 => ?_) (fun h_165 => ?_)
              · simp only [Int32.lt_iff_toInt_lt, Int32.le_iff_toInt_le, Int32.reduceToInt, ← Int32.toInt_inj] at h_165
                refine v_aload_n hC dX11_paste_102 rfl ?_
                refine v_get hC fl_X11_36 m_19 e_49 rfl dX11_paste_103 ?_
                refine v_iload_n hC dX11_paste_106 rfl ?_
                obtain ⟨q_166, h_167, k_168⟩ := k_53 (a_1 : Int32).toNatClampNeg (clamp_lt (vp_in_iff.mpr (by first | omega | (simp only [Int32.lt_iff_toInt_lt, Int32.le_iff_toInt_le, Int32.reduceToInt, ← Int32.toInt_inj]; omega))))
                refine v_aald hC m_50 e_54 rfl (vp_in_iff.mpr (by first | omega | (simp only [Int32.lt_iff_toInt_lt, Int32.le_iff_toInt_le, Int32.reduceToInt, ← Int32.toInt_inj]; omega))) (v := .ref q_166) (by rw [h_167]; rfl) dX11_paste_107 ?_
                obtain ⟨m_169, q_171, t_170, k_172⟩ := id k_168
                obtain ⟨v_174, v_176, e_173, b_175, b_177⟩ := hW.at m_169 t_170
                refine v_getN hC fn_X11_371 m_169 e_173 rfl dX11_paste_108 ?_
                refine v_iload_n hC dX11_paste_111 rfl ?_
                refine v_aload_n hC dX11_paste_112 rfl ?_
                refine v_get hC fl_X11_36 m_19 e_49 rfl dX11_paste_113 ?_
                refine v_iload_n hC dX11_paste_116 rfl ?_
                obtain ⟨q_178, h_179, k_180⟩ := k_53 (a_3 : Int32).toNatClampNeg (clamp_lt (vp_in_iff.mpr (by first | omega | (simp only [Int32.lt_iff_toInt_lt, Int32.le_iff_toInt_le, Int32.reduceToInt, ← Int32.toInt_inj]; omega))))
                refine v_aald hC m_50 e_54 rfl (vp_in_iff.mpr (by first | omega | (simp only [Int32.lt_iff_toInt_lt, Int32.le_iff_toInt_le, Int32.reduceToInt, ← Int32.toInt_inj]; omega))) (v := .ref q_178) (by rw [h_179]; rfl) dX11_paste_117 ?_
                obtain ⟨m_181, q_183, t_182, k_184⟩ := id k_180
                obtain ⟨v_186, v_188, e_185, b_187, b_189⟩ := hW.at m_181 t_182
                refine v_getN hC fn_X11_371 m_181 e_185 rfl dX11_paste_118 ?_
                refine v_iload hC dX11_paste_121 rfl ?_
                refine v_iload hC dX11_paste_123 rfl ?_
                obtain ⟨m_190, t_191⟩ := id k_172
                obtain ⟨g_193, e_192⟩ := hW.at m_190 t_191
                obtain ⟨m_194, t_195⟩ := id k_184
                obtain ⟨g_197, e_196⟩ := hW.at m_194 t_195
                refine v_copyl hC mo_X11_136 cp_n_ cp_s_ cp_i_ m_190 e_192 m_194 e_196 (cp_n (by first | omega | (simp only [Int32.lt_iff_toInt_lt, Int32.le_iff_toInt_le, Int32.reduceToInt, ← Int32.toInt_inj]; omega))) (cp_n (by first | omega | (simp only [Int32.lt_iff_toInt_lt, Int32.le_iff_toInt_le, Int32.reduceToInt, ← Int32.toInt_inj]; omega))) (cp_n (by first | omega | (simp only [Int32.lt_iff_toInt_lt, Int32.le_iff_toInt_le, Int32.reduceToInt, ← Int32.toInt_inj]; omega))) (cp_le (by first | omega | (simp only [Int32.lt_iff_toInt_lt, Int32.le_iff_toInt_le, Int32.reduceToInt, ← Int32.toInt_inj]; omega)) (by first | omega | (simp only [Int32.lt_iff_toInt_lt, Int32.le_iff_toInt_le, Int32.reduceToInt, ← Int32.toInt_inj]; omega)) (by first | omega | (simp only [Int32.lt_iff_toInt_lt, Int32.le_iff_toInt_le, Int32.reduceToInt, ← Int32.toInt_inj]; omega))) (cp_le (by first | omega | (simp only [Int32.lt_iff_toInt_lt, Int32.le_iff_toInt_le, Int32.reduceToInt, ← Int32.toInt_inj]; omega)) (by first | omega | (simp only [Int32.lt_iff_toInt_lt, Int32.le_iff_toInt_le, Int32.reduceToInt, ← Int32.toInt_inj]; omega)) (by first | omega | (simp only [Int32.lt_iff_toInt_lt, Int32.le_iff_toInt_le, Int32.reduceToInt, ← Int32.toInt_inj]; omega))) (by decide) (Nat.le_of_ble_eq_true rfl) dX11_paste_125 (fun f_198 hf_199 hk_200 => ?_)
                have hW_201 := hW.up hf_199 hk_200 t_195 ⟨_, rfl⟩
                obtain ⟨g_202, hf_199⟩ : ∃ g9, f_198 q_183 = aJ E 60 g9 := ⟨_, hf_199⟩
                have hf_203 := (hk_200 a_0 (ne_kd e_49 e_196 rfl)).trans e_49
                have hf_204 := (hk_200 q_25 (ne_kd e_54 e_196 rfl)).trans e_54
                have hf_205 := (hk_200 q_55 (ne_kd e_62 e_196 rfl)).trans e_62
                have hf_206 := (hk_200 q_75 (ne_kd e_82 e_196 rfl)).trans e_82
                have hf_207 := (hk_200 q_95 (ne_kd e_102 e_196 rfl)).trans e_102
                have hf_208 := (hk_200 q_107 (ne_kd e_114 e_196 rfl)).trans e_114
                have hf_209 := (hk_200 q_120 (ne_kd e_127 e_196 rfl)).trans e_127
                have hf_210 := (hk_200 q_143 (ne_kd e_150 e_196 rfl)).trans e_150
                have hf_211 := (hk_200 q_166 (ne_kd e_173 e_196 rfl)).trans e_173
                have hf_212 := (hk_200 q_178 (ne_kd e_185 e_196 rfl)).trans e_185
                have fr_213 := FR.w hk_200 e_196 (k := 160) rfl
                refine v_iconst hC dX11_paste_128 (v := 0) (by decide) ?_
                exact hR _ _ _ _ _ _ _ dX11_paste_129 rfl (Nat.le_of_ble_eq_true rfl) (Nat.le_of_ble_eq_true rfl) ⟨rfl, hW_201, (fr_213.mono rfl), (by decide), (.inr (by first | omega | (simp only [Int32.lt_iff_toInt_lt, Int32.le_iff_toInt_le, Int32.reduceToInt, ← Int32.toInt_inj]; omega))), (.inr (by first | omega | (simp only [Int32.lt_iff_toInt_lt, Int32.le_iff_toInt_le, Int32.reduceToInt, ← Int32.toInt_inj]; omega))), (.inr (by first | omega | (simp only [Int32.lt_iff_toInt_lt, Int32.le_iff_toInt_le, Int32.reduceToInt, ← Int32.toInt_inj]; omega))), (.inr (by first | omega | (simp only [Int32.lt_iff_toInt_lt, Int32.le_iff_toInt_le, Int32.reduceToInt, ← Int32.toInt_inj]; omega))), (.inr (by first | omega | (simp only [Int32.lt_iff_toInt_lt, Int32.le_iff_toInt_le, Int32.reduceToInt, ← Int32.toInt_inj]; omega)))⟩
              · simp only [Int32.lt_iff_toInt_lt, Int32.le_iff_toInt_le, Int32.reduceToInt, ← Int32.toInt_inj] at h_165
                refine v_bipush hC dX11_paste_99 (v := (-7)) (by decide) ?_
                exact hR _ _ _ _ _ _ _ dX11_paste_101 rfl (Nat.le_of_ble_eq_true rfl) (Nat.le_of_ble_eq_true rfl) ⟨rfl, hW, FR.rf, (by decide), (.inl (by decide)), (.inl (by decide)), (.inl (by decide)), (.inl (by decide)), (.inl (by decide))⟩
          · simp only [Int32.lt_iff_toInt_lt, Int32.le_iff_toInt_le, Int32.reduceToInt, ← Int32.toInt_inj] at h_119
            refine v_bipush hC dX11_paste_65 (v := (-8)) (by decide) ?_
            exact hR _ _ _ _ _ _ _ dX11_paste_67 rfl (Nat.le_of_ble_eq_true rfl) (Nat.le_of_ble_eq_true rfl) ⟨rfl, hW, FR.rf, (by decide), (.inl (by decide)), (.inl (by decide)), (.inl (by decide)), (.inl (by decide)), (.inl (by decide))⟩
        · simp only [Int32.lt_iff_toInt_lt, Int32.le_iff_toInt_le, Int32.reduceToInt, ← Int32.toInt_inj] at h_94
          refine v_bipush hC dX11_paste_41 (v := (-6)) (by decide) ?_
          exact hR _ _ _ _ _ _ _ dX11_paste_43 rfl (Nat.le_of_ble_eq_true rfl) (Nat.le_of_ble_eq_true rfl) ⟨rfl, hW, FR.rf, (by decide), (.inl (by decide)), (.inl (by decide)), (.inl (by decide)), (.inl (by decide)), (.inl (by decide))⟩
    · simp only [Int32.lt_iff_toInt_lt, Int32.le_iff_toInt_le, Int32.reduceToInt, ← Int32.toInt_inj] at h_18
      refine v_bipush hC dX11_paste_14 (v := (-2)) (by decide) ?_
      exact hR _ _ _ _ _ _ _ dX11_paste_16 rfl (Nat.le_of_ble_eq_true rfl) (Nat.le_of_ble_eq_true rfl) ⟨rfl, hW, FR.rf, (by decide), (.inl (by decide)), (.inl (by decide)), (.inl (by decide)), (.inl (by decide)), (.inl (by decide))⟩
set_option maxRecDepth 100000 in
set_option maxHeartbeats 4000000 in
theorem p_X11_lay {l : Launch} {E : Ez} {L : List Nat} {f : Nat → va_E} {T : Nat → va_E → Prop} {a_0 : Nat} {a_1 : Int32} {a_2 : Int32} (hW : WT T L f) (k_0 : isX T L E a_0) : CI l yX11_lay cX11_lay 8 .int 2 0 0 E [.ref a_0, .int a_1, .int a_2] L f (fun r L1 f1 => L = L1 ∧ WT T L f1 ∧ FR [356] f f1 ∧ (¬ r.toInt = 0 ∨ (0 ≤ a_1.toInt ∧ a_1.toInt ≤ 3)) ∧ (¬ r.toInt = 0 ∨ (0 ≤ a_2.toInt ∧ a_2.toInt ≤ 3))) := by
  refine ci_of (by decide) (Nat.le_of_ble_eq_true rfl) (fun z hz hnm hC hR => ?_)
  have hC : Cx z E cX11_lay RX11 8 2 0 0 := hC
  subst hz
  show V z E 8 0 0 L f 0 [(0, .ref a_0), (1, .int a_1), (2, .int a_2)] []
  refine v_iload_n hC dX11_lay_0 rfl ?_
  refine v_si hC (rest := []) mt_X11_isSlot (p_X11_isSlot hW) mx_X11_isSlot ml_X11_353 (by decide) rfl (cells1 := 0) (slots1 := 0) (by decide) (by decide) (Nat.le_of_ble_eq_true rfl) (Nat.le_of_ble_eq_true rfl) rfl (Nat.le_of_ble_eq_true rfl) dX11_lay_1 (fun r_1 L_2 f_3 h_4 => ?_)
  obtain ⟨rfl, rfl, b_5, h_6⟩ := h_4
  refine v_if_eq hC dX11_lay_4 (tgt := 14) (by decide) (fun h_9 => ?_) (fun h_9 => ?_)
  · simp only [Int32.lt_iff_toInt_lt, Int32.le_iff_toInt_le, Int32.reduceToInt, ← Int32.toInt_inj] at h_9
    refine v_bipush hC dX11_lay_14 (v := (-2)) (by decide) ?_
    exact hR _ _ _ _ _ _ _ dX11_lay_16 rfl (Nat.le_of_ble_eq_true rfl) (Nat.le_of_ble_eq_true rfl) ⟨rfl, hW, FR.rf, (.inl (by decide)), (.inl (by decide))⟩
  · simp only [Int32.lt_iff_toInt_lt, Int32.le_iff_toInt_le, Int32.reduceToInt, ← Int32.toInt_inj] at h_9
    refine v_iload_n hC dX11_lay_7 rfl ?_
    refine v_si hC (rest := []) mt_X11_isCloth (p_X11_isCloth hW) mx_X11_isCloth ml_X11_181 (by decide) rfl (cells1 := 0) (slots1 := 0) (by decide) (by decide) (Nat.le_of_ble_eq_true rfl) (Nat.le_of_ble_eq_true rfl) rfl (Nat.le_of_ble_eq_true rfl) dX11_lay_8 (fun r_10 L_11 f_12 h_13 => ?_)
    obtain ⟨rfl, rfl, b_14, h_15⟩ := h_13
    refine v_if_ne hC dX11_lay_11 (tgt := 17) (by decide) (fun h_18 => ?_) (fun h_18 => ?_)
    · simp only [Int32.lt_iff_toInt_lt, Int32.le_iff_toInt_le, Int32.reduceToInt, ← Int32.toInt_inj] at h_18
      refine v_aload_n hC dX11_lay_17 rfl ?_
      obtain ⟨m_19, q_21, q_22, q_23, q_24, q_25, q_26, q_27, q_28, q_29, q_30, q_31, q_32, q_33, q_34, t_20, k_35, k_36, k_37, k_38, k_39, k_40, k_41, k_42, k_43, k_44, k_45, k_46, k_47, k_48⟩ := id k_0
      have e_49 : f a_0 = ob 11 [.ref q_21, .ref q_22, .ref q_23, .ref q_24, .ref q_25, .ref q_26, .ref q_27, .ref q_28, .ref q_29, .ref q_30, .ref q_31, .ref q_32, .ref q_33, .ref q_34] := hW.at m_19 t_20
      refine v_get hC fl_X11_36 m_19 e_49 rfl dX11_lay_18 ?_
      refine v_iload_n hC dX11_lay_21 rfl ?_
      obtain ⟨m_50, g_52, t_51, k_53⟩ := id k_39
      have e_54 : f q_25 = aR E 6 4 g_52 := hW.at m_50 t_51
      obtain ⟨q_55, h_56, k_57⟩ := k_53 (a_1 : Int32).toNatClampNeg (clamp_lt (vp_in_iff.mpr (by first | omega | (simp only [Int32.lt_iff_toInt_lt, Int32.le_iff_toInt_le, Int32.reduceToInt, ← Int32.toInt_inj]; omega))))
      refine v_aald hC m_50 e_54 rfl (vp_in_iff.mpr (by first | omega | (simp only [Int32.lt_iff_toInt_lt, Int32.le_iff_toInt_le, Int32.reduceToInt, ← Int32.toInt_inj]; omega))) (v := .ref q_55) (by rw [h_56]; rfl) dX11_lay_22 ?_
      obtain ⟨m_58, q_60, t_59, k_61⟩ := id k_57
      obtain ⟨v_63, v_65, e_62, b_64, b_66⟩ := hW.at m_58 t_59
      refine v_vi hC (rest := []) m_58 e_62 rfl mi_X5_isThere ms_X5_isThere (p_X5_isThere hW k_57) mx_X5_isThere ml_X11_359 (by decide) rfl (cells1 := 0) (slots1 := 0) (by decide) (by decide) (Nat.le_of_ble_eq_true rfl) (Nat.le_of_ble_eq_true rfl) rfl (Nat.le_of_ble_eq_true rfl) dX11_lay_23 (fun r_67 L_68 f_69 h_70 => ?_)
      obtain ⟨rfl, rfl, b_71⟩ := h_70
      refine v_if_eq hC dX11_lay_26 (tgt := 37) (by decide) (fun h_74 => ?_) (fun h_74 => ?_)
      · simp only [Int32.lt_iff_toInt_lt, Int32.le_iff_toInt_le, Int32.reduceToInt, ← Int32.toInt_inj] at h_74
        refine v_bipush hC dX11_lay_37 (v := (-6)) (by decide) ?_
        exact hR _ _ _ _ _ _ _ dX11_lay_39 rfl (Nat.le_of_ble_eq_true rfl) (Nat.le_of_ble_eq_true rfl) ⟨rfl, hW, FR.rf, (.inl (by decide)), (.inl (by decide))⟩
      · simp only [Int32.lt_iff_toInt_lt, Int32.le_iff_toInt_le, Int32.reduceToInt, ← Int32.toInt_inj] at h_74
        refine v_aload_n hC dX11_lay_29 rfl ?_
        refine v_iload_n hC dX11_lay_30 rfl ?_
        refine v_vi hC (rest := []) m_19 e_49 rfl mi_X11_hasCloth ms_X11_hasCloth (p_X11_hasCloth hW k_0) mx_X11_hasCloth ml_X11_239 (by decide) rfl (cells1 := 0) (slots1 := 0) (by decide) (by decide) (Nat.le_of_ble_eq_true rfl) (Nat.le_of_ble_eq_true rfl) rfl (Nat.le_of_ble_eq_true rfl) dX11_lay_31 (fun r_75 L_76 f_77 h_78 => ?_)
        obtain ⟨rfl, rfl, b_79, h_80⟩ := h_78
        refine v_if_ne hC dX11_lay_34 (tgt := 40) (by decide) (fun h_83 => ?_) (fun h_83 => ?_)
        · simp only [Int32.lt_iff_toInt_lt, Int32.le_iff_toInt_le, Int32.reduceToInt, ← Int32.toInt_inj] at h_83
          refine v_iconst hC dX11_lay_40 (v := 0) (by decide) ?_
          refine v_istore_n hC dX11_lay_41 (by decide) (lv' := [(3, .int 0), (0, .ref a_0), (1, .int a_1), (2, .int a_2)]) rfl ?_
          refine v_aload_n hC dX11_lay_42 rfl ?_
          refine v_get hC fl_X11_36 m_19 e_49 rfl dX11_lay_43 ?_
          refine v_iload_n hC dX11_lay_46 rfl ?_
          obtain ⟨q_84, h_85, k_86⟩ := k_53 (a_1 : Int32).toNatClampNeg (clamp_lt (vp_in_iff.mpr (by first | omega | (simp only [Int32.lt_iff_toInt_lt, Int32.le_iff_toInt_le, Int32.reduceToInt, ← Int32.toInt_inj]; omega))))
          refine v_aald hC m_50 e_54 rfl (vp_in_iff.mpr (by first | omega | (simp only [Int32.lt_iff_toInt_lt, Int32.le_iff_toInt_le, Int32.reduceToInt, ← Int32.toInt_inj]; omega))) (v := .ref q_84) (by rw [h_85]; rfl) dX11_lay_47 ?_
          obtain ⟨m_87, q_89, t_88, k_90⟩ := id k_86
          obtain ⟨v_92, v_94, e_91, b_93, b_95⟩ := hW.at m_87 t_88
          refine v_getN hC fn_X11_375 m_87 e_91 rfl dX11_lay_48 ?_
          refine v_aload_n hC dX11_lay_51 rfl ?_
          refine v_get hC fl_X11_19 m_19 e_49 rfl dX11_lay_52 ?_
          obtain ⟨m_96, q_98, q_99, q_100, q_101, q_102, q_103, t_97, k_104, k_105, k_106, k_107, k_108, k_109⟩ := id k_36
          have e_110 : f q_22 = ob 0 [.ref q_98, .ref q_99, .ref q_100, .ref q_101, .ref q_102, .ref q_103] := hW.at m_96 t_97
          refine v_getN hC fn_X11_116 m_96 e_110 rfl dX11_lay_55 ?_
          obtain ⟨m_111, q_113, q_114, t_112, k_115, k_116⟩ := id k_104
          obtain ⟨v_118, v_120, v_122, e_117, b_119, b_121, b_123⟩ := hW.at m_111 t_112
          refine v_getN hC fn_X11_126 m_111 e_117 rfl dX11_lay_58 ?_
          obtain ⟨v_124, h_125⟩ : ∃ v9 : Int32, (if v_122 < (v_94 : Int32) then v_122 else (v_94 : Int32)) = v9 := ⟨_, rfl⟩
          refine v_mmin hC mm_X11_376 mm_smin mm_i mm_cmin (by decide) (Nat.le_of_ble_eq_true rfl) (Nat.le_of_ble_eq_true rfl) (Nat.le_of_ble_eq_true rfl) h_125 dX11_lay_61 ?_
          have b_126 := min_v h_125
          try simp only [Int32.reduceToInt] at b_126
          refine v_istore hC dX11_lay_64 (by decide) (lv' := [(4, .int v_124), (3, .int 0), (0, .ref a_0), (1, .int a_1), (2, .int a_2)]) rfl ?_
          refine v_iconst hC dX11_lay_66 (v := 0) (by decide) ?_
          refine v_istore hC dX11_lay_67 (by decide) (lv' := [(5, .int 0), (4, .int v_124), (3, .int 0), (0, .ref a_0), (1, .int a_1), (2, .int a_2)]) rfl ?_
          have lp_830 : ∀ (n_831 : Nat) (f_820 : Nat → va_E) (hW_821 : WT T L f_820) (hF_822 : FR [356] f f_820) (i_818 : Int32) (b_829 : (0 ≤ i_818.toInt ∧ i_818.toInt ≤ 60)) (i_819 : Int32) (hm_833 : 60 - i_818.toInt < (n_831 : Int)), V z E 8 0 0 L f_820 69 [(5, .int i_818), (4, .int v_124), (3, .int i_819), (0, .ref a_0), (1, .int a_1), (2, .int a_2)] [] := by
            intro n_831
            induction n_831 with
            | zero =>
              intro f_820 hW_821 hF_822 i_818 b_829 i_819 hm_833
              have hf_823 := hF_822.at e_49 rfl
              have hf_824 := hF_822.at e_54 rfl
              have hf_825 := hF_822.at e_62 rfl
              have hf_826 := hF_822.at e_91 rfl
              have hf_827 := hF_822.at e_110 rfl
              have hf_828 := hF_822.at e_117 rfl
              exfalso; omega
            | succ n_831 ih_832 =>
              intro f_820 hW_821 hF_822 i_818 b_829 i_819 hm_833
              have hf_823 := hF_822.at e_49 rfl
              have hf_824 := hF_822.at e_54 rfl
              have hf_825 := hF_822.at e_62 rfl
              have hf_826 := hF_822.at e_91 rfl
              have hf_827 := hF_822.at e_110 rfl
              have hf_828 := hF_822.at e_117 rfl
              refine v_iload hC dX11_lay_69 rfl ?_
              refine v_iload hC dX11_lay_71 rfl ?_
              refine v_icmp_ge hC dX11_lay_73 (tgt := 166) (by decide) (fun h_834 => ?_) (fun h_834 => ?_)
              · simp only [Int32.lt_iff_toInt_lt, Int32.le_iff_toInt_le, Int32.reduceToInt, ← Int32.toInt_inj] at h_834
                refine v_iload_n hC dX11_lay_166 rfl ?_
                exact hR _ _ _ _ _ _ _ dX11_lay_167 rfl (Nat.le_of_ble_eq_true rfl) (Nat.le_of_ble_eq_true rfl) ⟨rfl, hW_821, (hF_822.mono rfl), (.inr (by first | omega | (simp only [Int32.lt_iff_toInt_lt, Int32.le_iff_toInt_le, Int32.reduceToInt, ← Int32.toInt_inj]; omega))), (.inr (by first | omega | (simp only [Int32.lt_iff_toInt_lt, Int32.le_iff_toInt_le, Int32.reduceToInt, ← Int32.toInt_inj]; omega)))⟩
              · simp only [Int32.lt_iff_toInt_lt, Int32.le_iff_toInt_le, Int32.reduceToInt, ← Int32.toInt_inj] at h_834
                refine v_aload_n hC dX11_lay_76 rfl ?_
                refine v_get hC fl_X11_19 m_19 hf_823 rfl dX11_lay_77 ?_
                refine v_getN hC fn_X11_116 m_96 hf_827 rfl dX11_lay_80 ?_
                refine v_iload hC dX11_lay_83 rfl ?_
                refine v_vi hC (rest := []) m_111 hf_828 rfl mi_X4_freePlace ms_X4_freePlace (p_X4_freePlace hW_821 k_104) mx_X4_freePlace ml_X11_301 (by decide) rfl (cells1 := 0) (slots1 := 0) (by decide) (by decide) (Nat.le_of_ble_eq_true rfl) (Nat.le_of_ble_eq_true rfl) rfl (Nat.le_of_ble_eq_true rfl) dX11_lay_85 (fun r_835 L_836 f_837 h_838 => ?_)
                obtain ⟨rfl, rfl, h_839⟩ := h_838
                refine v_istore hC dX11_lay_88 (by decide) (lv' := [(6, .int r_835), (5, .int i_818), (4, .int v_124), (3, .int i_819), (0, .ref a_0), (1, .int a_1), (2, .int a_2)]) rfl ?_
                refine v_aload_n hC dX11_lay_90 rfl ?_
                refine v_get hC fl_X11_36 m_19 hf_823 rfl dX11_lay_91 ?_
                refine v_iload_n hC dX11_lay_94 rfl ?_
                obtain ⟨q_842, h_843, k_844⟩ := k_53 (a_1 : Int32).toNatClampNeg (clamp_lt (vp_in_iff.mpr (by first | omega | (simp only [Int32.lt_iff_toInt_lt, Int32.le_iff_toInt_le, Int32.reduceToInt, ← Int32.toInt_inj]; omega))))
                refine v_aald hC m_50 hf_824 rfl (vp_in_iff.mpr (by first | omega | (simp only [Int32.lt_iff_toInt_lt, Int32.le_iff_toInt_le, Int32.reduceToInt, ← Int32.toInt_inj]; omega))) (v := .ref q_842) (by rw [h_843]; rfl) dX11_lay_95 ?_
                refine v_iload hC dX11_lay_96 rfl ?_
                obtain ⟨m_845, q_847, t_846, k_848⟩ := id k_844
                obtain ⟨v_850, v_852, e_849, b_851, b_853⟩ := hW_821.at m_845 t_846
                refine v_vi hC (rest := []) m_845 e_849 rfl mi_X5_isZero ms_X5_isZero (p_X5_isZero hW_821 k_844) mx_X5_isZero ml_X11_379 (by decide) rfl (cells1 := 0) (slots1 := 0) (by decide) (by decide) (Nat.le_of_ble_eq_true rfl) (Nat.le_of_ble_eq_true rfl) rfl (Nat.le_of_ble_eq_true rfl) dX11_lay_98 (fun r_854 L_855 f_856 h_857 => ?_)
                obtain ⟨rfl, rfl, b_858, h_859⟩ := h_857
                have jn_870 : ∀ (v_871 : Int32) (b_872 : (0 ≤ v_871.toInt ∧ v_871.toInt ≤ 3)), V z E 8 0 0 L f_820 120 [(6, .int r_835), (5, .int i_818), (4, .int v_124), (3, .int i_819), (0, .ref a_0), (1, .int a_1), (2, .int a_2)] [.int v_871] := by
                  intro v_871 b_872
                  refine v_istore hC dX11_lay_120 (by decide) (lv' := [(7, .int v_871), (6, .int r_835), (5, .int i_818), (4, .int v_124), (3, .int i_819), (0, .ref a_0), (1, .int a_1), (2, .int a_2)]) rfl ?_
                  refine v_aload_n hC dX11_lay_122 rfl ?_
                  refine v_get hC fl_X11_19 m_19 hf_823 rfl dX11_lay_123 ?_
                  refine v_getN hC fn_X11_190 m_96 hf_827 rfl dX11_lay_126 ?_
                  refine v_iload_n hC dX11_lay_129 rfl ?_
                  obtain ⟨m_873, g_875, t_874, k_876⟩ := id k_109
                  have e_877 : f_820 q_103 = aR E 5 4 g_875 := hW_821.at m_873 t_874
                  obtain ⟨q_878, h_879, k_880⟩ := k_876 (a_2 : Int32).toNatClampNeg (clamp_lt (vp_in_iff.mpr (by first | omega | (simp only [Int32.lt_iff_toInt_lt, Int32.le_iff_toInt_le, Int32.reduceToInt, ← Int32.toInt_inj]; omega))))
                  refine v_aald hC m_873 e_877 rfl (vp_in_iff.mpr (by first | omega | (simp only [Int32.lt_iff_toInt_lt, Int32.le_iff_toInt_le, Int32.reduceToInt, ← Int32.toInt_inj]; omega))) (v := .ref q_878) (by rw [h_879]; rfl) dX11_lay_130 ?_
                  refine v_iload hC dX11_lay_131 rfl ?_
                  obtain ⟨m_881, q_883, t_882, k_884⟩ := id k_880
                  obtain ⟨v_886, e_885, b_887⟩ := hW_821.at m_881 t_882
                  refine v_vi hC (rest := []) m_881 e_885 rfl mi_X1_stitchAt ms_X1_stitchAt (p_X1_stitchAt hW_821 k_880) mx_X1_stitchAt ml_X11_242 (by decide) rfl (cells1 := 0) (slots1 := 0) (by decide) (by decide) (Nat.le_of_ble_eq_true rfl) (Nat.le_of_ble_eq_true rfl) rfl (Nat.le_of_ble_eq_true rfl) dX11_lay_133 (fun r_888 L_889 f_890 h_891 => ?_)
                  obtain ⟨rfl, rfl, h_892⟩ := h_891
                  refine v_iload hC dX11_lay_136 rfl ?_
                  refine v_icmp_eq hC dX11_lay_138 (tgt := 160) (by decide) (fun h_895 => ?_) (fun h_895 => ?_)
                  · simp only [Int32.lt_iff_toInt_lt, Int32.le_iff_toInt_le, Int32.reduceToInt, ← Int32.toInt_inj] at h_895
                    obtain ⟨v_896, h_897⟩ : ∃ v9 : Int32, i_818 + Int32.ofInt 1 = v9 := ⟨_, rfl⟩
                    have h_898 := add_v (b := 1) h_897 (by first | omega | (simp only [Int32.lt_iff_toInt_lt, Int32.le_iff_toInt_le, Int32.reduceToInt, ← Int32.toInt_inj]; omega)) (by first | omega | (simp only [Int32.lt_iff_toInt_lt, Int32.le_iff_toInt_le, Int32.reduceToInt, ← Int32.toInt_inj]; omega))
                    simp only [Int32.reduceToInt] at h_898
                    refine v_iinc hC dX11_lay_160 (k := 2) rfl (v := v_896) h_897 (by decide) (lv' := [(5, .int v_896), (7, .int v_871), (6, .int r_835), (4, .int v_124), (3, .int i_819), (0, .ref a_0), (1, .int a_1), (2, .int a_2)]) rfl ?_
                    refine v_goto hC dX11_lay_163 (tgt := 69) (by decide) ?_
                    refine v_pick [0, 3, 4, 5, 6, 7] rfl ?_
                    exact ih_832 f_820 hW_821 (hF_822.mono rfl) v_896 (by first | omega | (simp only [Int32.lt_iff_toInt_lt, Int32.le_iff_toInt_le, Int32.reduceToInt, ← Int32.toInt_inj]; omega)) i_819 (by first | omega | (simp only [Int32.lt_iff_toInt_lt, Int32.le_iff_toInt_le, Int32.reduceToInt, ← Int32.toInt_inj]; omega))
                  · simp only [Int32.lt_iff_toInt_lt, Int32.le_iff_toInt_le, Int32.reduceToInt, ← Int32.toInt_inj] at h_895
                    refine v_aload_n hC dX11_lay_141 rfl ?_
                    refine v_get hC fl_X11_19 m_19 hf_823 rfl dX11_lay_142 ?_
                    refine v_getN hC fn_X11_190 m_96 hf_827 rfl dX11_lay_145 ?_
                    refine v_iload_n hC dX11_lay_148 rfl ?_
                    obtain ⟨q_899, h_900, k_901⟩ := k_876 (a_2 : Int32).toNatClampNeg (clamp_lt (vp_in_iff.mpr (by first | omega | (simp only [Int32.lt_iff_toInt_lt, Int32.le_iff_toInt_le, Int32.reduceToInt, ← Int32.toInt_inj]; omega))))
                    refine v_aald hC m_873 e_877 rfl (vp_in_iff.mpr (by first | omega | (simp only [Int32.lt_iff_toInt_lt, Int32.le_iff_toInt_le, Int32.reduceToInt, ← Int32.toInt_inj]; omega))) (v := .ref q_899) (by rw [h_900]; rfl) dX11_lay_149 ?_
                    refine v_iload hC dX11_lay_150 rfl ?_
                    refine v_iload hC dX11_lay_152 rfl ?_
                    obtain ⟨m_902, q_904, t_903, k_905⟩ := id k_901
                    obtain ⟨v_907, e_906, b_908⟩ := hW_821.at m_902 t_903
                    refine v_vv hC (rest := []) m_902 e_906 rfl mi_X1_setStitch ms_X1_setStitch (p_X1_setStitch hW_821 k_901) mx_X1_setStitch ml_X11_324 (by decide) rfl (cells1 := 0) (slots1 := 0) (by decide) (by decide) (Nat.le_of_ble_eq_true rfl) (Nat.le_of_ble_eq_true rfl) rfl (Nat.le_of_ble_eq_true rfl) dX11_lay_154 (fun L_910 f_911 h_912 => ?_)
                    obtain ⟨rfl, hW_913, hF_914⟩ := h_912
                    have hf_915 := hF_914.at hf_823 rfl
                    have hf_916 := hF_914.at hf_824 rfl
                    have hf_917 := hF_914.at hf_825 rfl
                    have hf_918 := hF_914.at hf_826 rfl
                    have hf_919 := hF_914.at hf_827 rfl
                    have hf_920 := hF_914.at hf_828 rfl
                    have hf_921 := hF_914.at e_849 rfl
                    have hf_922 := hF_914.at e_877 rfl
                    have hf_923 := hF_914.at e_885 rfl
                    have hf_924 := hF_914.at e_906 rfl
                    obtain ⟨v_925, h_926⟩ : ∃ v9 : Int32, i_819 + Int32.ofInt 1 = v9 := ⟨_, rfl⟩
                    refine v_iinc hC dX11_lay_157 (k := 4) rfl (v := v_925) h_926 (by decide) (lv' := [(3, .int v_925), (7, .int v_871), (6, .int r_835), (5, .int i_818), (4, .int v_124), (0, .ref a_0), (1, .int a_1), (2, .int a_2)]) rfl ?_
                    obtain ⟨v_927, h_928⟩ : ∃ v9 : Int32, i_818 + Int32.ofInt 1 = v9 := ⟨_, rfl⟩
                    have h_929 := add_v (b := 1) h_928 (by first | omega | (simp only [Int32.lt_iff_toInt_lt, Int32.le_iff_toInt_le, Int32.reduceToInt, ← Int32.toInt_inj]; omega)) (by first | omega | (simp only [Int32.lt_iff_toInt_lt, Int32.le_iff_toInt_le, Int32.reduceToInt, ← Int32.toInt_inj]; omega))
                    simp only [Int32.reduceToInt] at h_929
                    refine v_iinc hC dX11_lay_160 (k := 3) rfl (v := v_927) h_928 (by decide) (lv' := [(5, .int v_927), (3, .int v_925), (7, .int v_871), (6, .int r_835), (4, .int v_124), (0, .ref a_0), (1, .int a_1), (2, .int a_2)]) rfl ?_
                    refine v_goto hC dX11_lay_163 (tgt := 69) (by decide) ?_
                    refine v_pick [0, 4, 1, 5, 6, 7] rfl ?_
                    exact ih_832 f_911 hW_913 ((hF_822.tr hF_914).mono rfl) v_927 (by first | omega | (simp only [Int32.lt_iff_toInt_lt, Int32.le_iff_toInt_le, Int32.reduceToInt, ← Int32.toInt_inj]; omega)) v_925 (by first | omega | (simp only [Int32.lt_iff_toInt_lt, Int32.le_iff_toInt_le, Int32.reduceToInt, ← Int32.toInt_inj]; omega))
                refine v_if_eq hC dX11_lay_101 (tgt := 108) (by decide) (fun h_862 => ?_) (fun h_862 => ?_)
                · simp only [Int32.lt_iff_toInt_lt, Int32.le_iff_toInt_le, Int32.reduceToInt, ← Int32.toInt_inj] at h_862
                  refine v_aload_n hC dX11_lay_108 rfl ?_
                  refine v_get hC fl_X11_19 m_19 hf_823 rfl dX11_lay_109 ?_
                  refine v_getN hC fn_X11_116 m_96 hf_827 rfl dX11_lay_112 ?_
                  refine v_iload hC dX11_lay_115 rfl ?_
                  refine v_vi hC (rest := []) m_111 hf_828 rfl mi_X4_notPlainAt ms_X4_notPlainAt (p_X4_notPlainAt hW_821 k_104) mx_X4_notPlainAt ml_X11_382 (by decide) rfl (cells1 := 0) (slots1 := 0) (by decide) (by decide) (Nat.le_of_ble_eq_true rfl) (Nat.le_of_ble_eq_true rfl) rfl (Nat.le_of_ble_eq_true rfl) dX11_lay_117 (fun r_930 L_931 f_932 h_933 => ?_)
                  obtain ⟨rfl, rfl, b_934⟩ := h_933
                  refine v_pick [0, 1, 2, 3, 4, 5, 6] rfl ?_
                  exact jn_870 r_930 (by first | omega | (simp only [Int32.lt_iff_toInt_lt, Int32.le_iff_toInt_le, Int32.reduceToInt, ← Int32.toInt_inj]; omega))
                · simp only [Int32.lt_iff_toInt_lt, Int32.le_iff_toInt_le, Int32.reduceToInt, ← Int32.toInt_inj] at h_862
                  refine v_iconst hC dX11_lay_104 (v := 0) (by decide) ?_
                  refine v_goto hC dX11_lay_105 (tgt := 120) (by decide) ?_
                  refine v_pick [0, 1, 2, 3, 4, 5, 6] rfl ?_
                  exact jn_870 0 (by decide)
          refine v_pick [0, 1, 2, 3, 4, 5] rfl ?_
          exact lp_830 62 f hW FR.rf 0 (by decide) 0 (by decide)
        · simp only [Int32.lt_iff_toInt_lt, Int32.le_iff_toInt_le, Int32.reduceToInt, ← Int32.toInt_inj] at h_83
          refine v_bipush hC dX11_lay_37 (v := (-6)) (by decide) ?_
          exact hR _ _ _ _ _ _ _ dX11_lay_39 rfl (Nat.le_of_ble_eq_true rfl) (Nat.le_of_ble_eq_true rfl) ⟨rfl, hW, FR.rf, (.inl (by decide)), (.inl (by decide))⟩
    · simp only [Int32.lt_iff_toInt_lt, Int32.le_iff_toInt_le, Int32.reduceToInt, ← Int32.toInt_inj] at h_18
      refine v_bipush hC dX11_lay_14 (v := (-2)) (by decide) ?_
      exact hR _ _ _ _ _ _ _ dX11_lay_16 rfl (Nat.le_of_ble_eq_true rfl) (Nat.le_of_ble_eq_true rfl) ⟨rfl, hW, FR.rf, (.inl (by decide)), (.inl (by decide))⟩
