set_option maxRecDepth 100000 in
set_option maxHeartbeats 8000000 in
theorem p_J7_fill_53178_208 {l : Launch} {E : Ez} {L : List Nat} {f : Nat → va_E} {T : Nat → va_E → Prop} {a_0 : Nat} {a_1 : Int32} (hW : WT T L f) (k_0 : isI T L E 16 a_0) : CV l yJ7_fill_53178 cJ7_fill_53178 4 0 0 0 E [.ref a_0, .int a_1] L f (fun L1 f1 => L = L1 ∧ WT T L f1 ∧ FR [116] f f1) := by
  refine cv_of (by decide) (Nat.le_of_ble_eq_true rfl) (fun z hz hnm hC hR => ?_)
  have hC : Cx z E cJ7_fill_53178 RJ7 4 0 0 0 := hC
  subst hz
  show V z E 4 0 0 L f 0 [(0, .ref a_0), (1, .int a_1)] []
  refine v_iconst hC dJ7_fill_53178_0 (v := 0) (by decide) ?_
  refine v_istore_n hC dJ7_fill_53178_1 (by decide) (lv' := [(2, .int 0), (0, .ref a_0), (1, .int a_1)]) rfl ?_
  refine v_aload_n hC dJ7_fill_53178_2 rfl ?_
  obtain ⟨m_1, t_2⟩ := id k_0
  obtain ⟨g_4, e_3⟩ := hW.at m_1 t_2
  refine v_alen hC m_1 e_3 (t := 1) rfl (v := 16) rfl dJ7_fill_53178_3 ?_
  refine v_istore_n hC dJ7_fill_53178_4 (by decide) (lv' := [(3, .int 16), (2, .int 0), (0, .ref a_0), (1, .int a_1)]) rfl ?_
  have lp_75 : ∀ (n_76 : Nat) (f_71 : Nat → va_E) (hW_72 : WT T L f_71) (hF_73 : FR [116] f f_71) (i_70 : Int32) (b_74 : (0 ≤ i_70.toInt ∧ i_70.toInt ≤ 16)) (hm_78 : 16 - i_70.toInt < (n_76 : Int)), V z E 4 0 0 L f_71 5 [(3, .int 16), (2, .int i_70), (0, .ref a_0), (1, .int a_1)] [] := by
    intro n_76
    induction n_76 with
    | zero =>
      intro f_71 hW_72 hF_73 i_70 b_74 hm_78
      exfalso; omega
    | succ n_76 ih_77 =>
      intro f_71 hW_72 hF_73 i_70 b_74 hm_78
      refine v_iload_n hC dJ7_fill_53178_5 rfl ?_
      refine v_iload_n hC dJ7_fill_53178_6 rfl ?_
      refine v_icmp_ge hC dJ7_fill_53178_7 (tgt := 20) (by decide) (fun h_79 => ?_) (fun h_79 => ?_)
      · simp only [Int32.lt_iff_toInt_lt, Int32.le_iff_toInt_le, Int32.reduceToInt, ← Int32.toInt_inj] at h_79
        exact hR _ _ _ _ _ _ dJ7_fill_53178_20 (Nat.le_of_ble_eq_true rfl) (Nat.le_of_ble_eq_true rfl) ⟨rfl, hW_72, (hF_73.mono rfl)⟩
      · simp only [Int32.lt_iff_toInt_lt, Int32.le_iff_toInt_le, Int32.reduceToInt, ← Int32.toInt_inj] at h_79
        refine v_aload_n hC dJ7_fill_53178_10 rfl ?_
        refine v_iload_n hC dJ7_fill_53178_11 rfl ?_
        refine v_iload_n hC dJ7_fill_53178_12 rfl ?_
        obtain ⟨g_81, e_80⟩ := hW_72.at m_1 t_2
        refine v_iast hC m_1 e_80 (vp_in_iff.mpr (by first | omega | (simp only [Int32.lt_iff_toInt_lt, Int32.le_iff_toInt_le, Int32.reduceToInt, ← Int32.toInt_inj, true_and, and_true, or_true, true_or, false_or, or_false, false_and, and_false, not_true_eq_false, not_false_eq_true] <;> omega))) dJ7_fill_53178_13 (fun f_82 hf_83 hk_84 => ?_)
        have hW_86 := hW_72.up hf_83 hk_84 t_2 ⟨_, rfl⟩
        obtain ⟨g_85, hf_83⟩ : ∃ g9, f_82 a_0 = aI E 16 g9 := ⟨_, hf_83⟩
        have fr_87 := FR.w hk_84 e_80 (k := 116) rfl
        obtain ⟨v_88, h_89⟩ : ∃ v9 : Int32, i_70 + Int32.ofInt 1 = v9 := ⟨_, rfl⟩
        have h_90 := add_v (b := 1) h_89 (by first | omega | (simp only [Int32.lt_iff_toInt_lt, Int32.le_iff_toInt_le, Int32.reduceToInt, ← Int32.toInt_inj, true_and, and_true, or_true, true_or, false_or, or_false, false_and, and_false, not_true_eq_false, not_false_eq_true] <;> omega)) (by first | omega | (simp only [Int32.lt_iff_toInt_lt, Int32.le_iff_toInt_le, Int32.reduceToInt, ← Int32.toInt_inj, true_and, and_true, or_true, true_or, false_or, or_false, false_and, and_false, not_true_eq_false, not_false_eq_true] <;> omega))
        simp only [Int32.reduceToInt] at h_90
        refine v_iinc hC dJ7_fill_53178_14 (k := 1) rfl (v := v_88) h_89 (by decide) (lv' := [(2, .int v_88), (3, .int 16), (0, .ref a_0), (1, .int a_1)]) rfl ?_
        refine v_goto hC dJ7_fill_53178_17 (tgt := 5) (by decide) ?_
        refine v_pick [1, 0, 2, 3] rfl ?_
        exact ih_77 f_82 hW_86 ((hF_73.tr fr_87).mono rfl) v_88 (by first | omega | (simp only [Int32.lt_iff_toInt_lt, Int32.le_iff_toInt_le, Int32.reduceToInt, ← Int32.toInt_inj, true_and, and_true, or_true, true_or, false_or, or_false, false_and, and_false, not_true_eq_false, not_false_eq_true] <;> omega)) (by first | omega | (simp only [Int32.lt_iff_toInt_lt, Int32.le_iff_toInt_le, Int32.reduceToInt, ← Int32.toInt_inj, true_and, and_true, or_true, true_or, false_or, or_false, false_and, and_false, not_true_eq_false, not_false_eq_true] <;> omega))
  refine v_pick [0, 1, 2, 3] rfl ?_
  exact lp_75 18 f hW FR.rf 0 (by decide) (by decide)
set_option maxRecDepth 100000 in
set_option maxHeartbeats 8000000 in
theorem p_J7_fill_53178_209 {l : Launch} {E : Ez} {L : List Nat} {f : Nat → va_E} {T : Nat → va_E → Prop} {a_0 : Nat} {a_1 : Int32} (hW : WT T L f) (k_0 : isI T L E 256 a_0) : CV l yJ7_fill_53178 cJ7_fill_53178 4 0 0 0 E [.ref a_0, .int a_1] L f (fun L1 f1 => L = L1 ∧ WT T L f1 ∧ FR [356] f f1) := by
  refine cv_of (by decide) (Nat.le_of_ble_eq_true rfl) (fun z hz hnm hC hR => ?_)
  have hC : Cx z E cJ7_fill_53178 RJ7 4 0 0 0 := hC
  subst hz
  show V z E 4 0 0 L f 0 [(0, .ref a_0), (1, .int a_1)] []
  refine v_iconst hC dJ7_fill_53178_0 (v := 0) (by decide) ?_
  refine v_istore_n hC dJ7_fill_53178_1 (by decide) (lv' := [(2, .int 0), (0, .ref a_0), (1, .int a_1)]) rfl ?_
  refine v_aload_n hC dJ7_fill_53178_2 rfl ?_
  obtain ⟨m_1, t_2⟩ := id k_0
  obtain ⟨g_4, e_3⟩ := hW.at m_1 t_2
  refine v_alen hC m_1 e_3 (t := 1) rfl (v := 256) rfl dJ7_fill_53178_3 ?_
  refine v_istore_n hC dJ7_fill_53178_4 (by decide) (lv' := [(3, .int 256), (2, .int 0), (0, .ref a_0), (1, .int a_1)]) rfl ?_
  have lp_75 : ∀ (n_76 : Nat) (f_71 : Nat → va_E) (hW_72 : WT T L f_71) (hF_73 : FR [356] f f_71) (i_70 : Int32) (b_74 : (0 ≤ i_70.toInt ∧ i_70.toInt ≤ 256)) (hm_78 : 256 - i_70.toInt < (n_76 : Int)), V z E 4 0 0 L f_71 5 [(3, .int 256), (2, .int i_70), (0, .ref a_0), (1, .int a_1)] [] := by
    intro n_76
    induction n_76 with
    | zero =>
      intro f_71 hW_72 hF_73 i_70 b_74 hm_78
      exfalso; omega
    | succ n_76 ih_77 =>
      intro f_71 hW_72 hF_73 i_70 b_74 hm_78
      refine v_iload_n hC dJ7_fill_53178_5 rfl ?_
      refine v_iload_n hC dJ7_fill_53178_6 rfl ?_
      refine v_icmp_ge hC dJ7_fill_53178_7 (tgt := 20) (by decide) (fun h_79 => ?_) (fun h_79 => ?_)
      · simp only [Int32.lt_iff_toInt_lt, Int32.le_iff_toInt_le, Int32.reduceToInt, ← Int32.toInt_inj] at h_79
        exact hR _ _ _ _ _ _ dJ7_fill_53178_20 (Nat.le_of_ble_eq_true rfl) (Nat.le_of_ble_eq_true rfl) ⟨rfl, hW_72, (hF_73.mono rfl)⟩
      · simp only [Int32.lt_iff_toInt_lt, Int32.le_iff_toInt_le, Int32.reduceToInt, ← Int32.toInt_inj] at h_79
        refine v_aload_n hC dJ7_fill_53178_10 rfl ?_
        refine v_iload_n hC dJ7_fill_53178_11 rfl ?_
        refine v_iload_n hC dJ7_fill_53178_12 rfl ?_
        obtain ⟨g_81, e_80⟩ := hW_72.at m_1 t_2
        refine v_iast hC m_1 e_80 (vp_in_iff.mpr (by first | omega | (simp only [Int32.lt_iff_toInt_lt, Int32.le_iff_toInt_le, Int32.reduceToInt, ← Int32.toInt_inj, true_and, and_true, or_true, true_or, false_or, or_false, false_and, and_false, not_true_eq_false, not_false_eq_true] <;> omega))) dJ7_fill_53178_13 (fun f_82 hf_83 hk_84 => ?_)
        have hW_86 := hW_72.up hf_83 hk_84 t_2 ⟨_, rfl⟩
        obtain ⟨g_85, hf_83⟩ : ∃ g9, f_82 a_0 = aI E 256 g9 := ⟨_, hf_83⟩
        have fr_87 := FR.w hk_84 e_80 (k := 356) rfl
        obtain ⟨v_88, h_89⟩ : ∃ v9 : Int32, i_70 + Int32.ofInt 1 = v9 := ⟨_, rfl⟩
        have h_90 := add_v (b := 1) h_89 (by first | omega | (simp only [Int32.lt_iff_toInt_lt, Int32.le_iff_toInt_le, Int32.reduceToInt, ← Int32.toInt_inj, true_and, and_true, or_true, true_or, false_or, or_false, false_and, and_false, not_true_eq_false, not_false_eq_true] <;> omega)) (by first | omega | (simp only [Int32.lt_iff_toInt_lt, Int32.le_iff_toInt_le, Int32.reduceToInt, ← Int32.toInt_inj, true_and, and_true, or_true, true_or, false_or, or_false, false_and, and_false, not_true_eq_false, not_false_eq_true] <;> omega))
        simp only [Int32.reduceToInt] at h_90
        refine v_iinc hC dJ7_fill_53178_14 (k := 1) rfl (v := v_88) h_89 (by decide) (lv' := [(2, .int v_88), (3, .int 256), (0, .ref a_0), (1, .int a_1)]) rfl ?_
        refine v_goto hC dJ7_fill_53178_17 (tgt := 5) (by decide) ?_
        refine v_pick [1, 0, 2, 3] rfl ?_
        exact ih_77 f_82 hW_86 ((hF_73.tr fr_87).mono rfl) v_88 (by first | omega | (simp only [Int32.lt_iff_toInt_lt, Int32.le_iff_toInt_le, Int32.reduceToInt, ← Int32.toInt_inj, true_and, and_true, or_true, true_or, false_or, or_false, false_and, and_false, not_true_eq_false, not_false_eq_true] <;> omega)) (by first | omega | (simp only [Int32.lt_iff_toInt_lt, Int32.le_iff_toInt_le, Int32.reduceToInt, ← Int32.toInt_inj, true_and, and_true, or_true, true_or, false_or, or_false, false_and, and_false, not_true_eq_false, not_false_eq_true] <;> omega))
  refine v_pick [0, 1, 2, 3] rfl ?_
  exact lp_75 258 f hW FR.rf 0 (by decide) (by decide)
set_option maxRecDepth 100000 in
set_option maxHeartbeats 8000000 in
theorem p_X6_addStitch {l : Launch} {E : Ez} {L : List Nat} {f : Nat → va_E} {T : Nat → va_E → Prop} {a_0 : Nat} {a_1 : Int32} {a_2 : Int32} (hW : WT T L f) (k_0 : isTal T L E a_0) : CV l yX6_addStitch cX6_addStitch 5 1 0 0 E [.ref a_0, .int a_1, .int a_2] L f (fun L1 f1 => L = L1 ∧ WT T L f1 ∧ FR [105, 116] f f1) := by
  refine cv_of (by decide) (Nat.le_of_ble_eq_true rfl) (fun z hz hnm hC hR => ?_)
  have hC : Cx z E cX6_addStitch RX6 5 1 0 0 := hC
  subst hz
  show V z E 5 0 0 L f 0 [(0, .ref a_0), (1, .int a_1), (2, .int a_2)] []
  refine v_aload_n hC dX6_addStitch_0 rfl ?_
  obtain ⟨m_1, q_3, q_4, q_5, q_6, q_7, t_2, k_8, k_9, k_10, k_11, k_12⟩ := id k_0
  obtain ⟨v_14, v_15, v_17, v_19, v_20, e_13, b_16, b_18⟩ := hW.at m_1 t_2
  refine v_get hC fl_X6_12 m_1 e_13 rfl dX6_addStitch_1 ?_
  refine v_iload_n hC dX6_addStitch_4 rfl ?_
  obtain ⟨m_21, q_23, t_22, k_24⟩ := id k_8
  obtain ⟨v_26, e_25, b_27⟩ := hW.at m_21 t_22
  refine v_vi hC (rest := []) m_21 e_25 rfl mi_X1_stitchAt ms_X1_stitchAt (p_X1_stitchAt hW k_8) mx_X1_stitchAt ml_X6_90 (by decide) rfl (cells1 := 0) (slots1 := 0) (by decide) (by decide) (Nat.le_of_ble_eq_true rfl) (Nat.le_of_ble_eq_true rfl) rfl (Nat.le_of_ble_eq_true rfl) dX6_addStitch_5 (fun r_28 L_29 f_30 h_31 => ?_)
  obtain ⟨rfl, rfl, h_32⟩ := h_31
  refine v_istore_n hC dX6_addStitch_8 (by decide) (lv' := [(3, .int r_28), (0, .ref a_0), (1, .int a_1), (2, .int a_2)]) rfl ?_
  refine v_aload_n hC dX6_addStitch_9 rfl ?_
  refine v_get hC fl_X6_47 m_1 e_13 rfl dX6_addStitch_10 ?_
  have jn_39 : ∀ (v_40 : Int32), V z E 5 0 0 L f 26 [(3, .int r_28), (0, .ref a_0), (2, .int a_2)] [.int v_40] := by
    intro v_40
    refine v_istore hC dX6_addStitch_26 (by decide) (lv' := [(4, .int v_40), (3, .int r_28), (0, .ref a_0), (2, .int a_2)]) rfl ?_
    refine v_iload_n hC dX6_addStitch_28 rfl ?_
    refine v_if_le hC dX6_addStitch_29 (tgt := 70) (by decide) (fun h_41 => ?_) (fun h_41 => ?_)
    · simp only [Int32.lt_iff_toInt_lt, Int32.le_iff_toInt_le, Int32.reduceToInt, ← Int32.toInt_inj] at h_41
      exact hR _ _ _ _ _ _ dX6_addStitch_70 (Nat.le_of_ble_eq_true rfl) (Nat.le_of_ble_eq_true rfl) ⟨rfl, hW, FR.rf⟩
    · simp only [Int32.lt_iff_toInt_lt, Int32.le_iff_toInt_le, Int32.reduceToInt, ← Int32.toInt_inj] at h_41
      refine v_iload_n hC dX6_addStitch_32 rfl ?_
      refine v_iconst hC dX6_addStitch_33 (v := 4) (by decide) ?_
      refine v_icmp_ge hC dX6_addStitch_34 (tgt := 70) (by decide) (fun h_42 => ?_) (fun h_42 => ?_)
      · simp only [Int32.lt_iff_toInt_lt, Int32.le_iff_toInt_le, Int32.reduceToInt, ← Int32.toInt_inj] at h_42
        exact hR _ _ _ _ _ _ dX6_addStitch_70 (Nat.le_of_ble_eq_true rfl) (Nat.le_of_ble_eq_true rfl) ⟨rfl, hW, FR.rf⟩
      · simp only [Int32.lt_iff_toInt_lt, Int32.le_iff_toInt_le, Int32.reduceToInt, ← Int32.toInt_inj] at h_42
        refine v_iload hC dX6_addStitch_37 rfl ?_
        refine v_if_lt hC dX6_addStitch_39 (tgt := 70) (by decide) (fun h_43 => ?_) (fun h_43 => ?_)
        · simp only [Int32.lt_iff_toInt_lt, Int32.le_iff_toInt_le, Int32.reduceToInt, ← Int32.toInt_inj] at h_43
          exact hR _ _ _ _ _ _ dX6_addStitch_70 (Nat.le_of_ble_eq_true rfl) (Nat.le_of_ble_eq_true rfl) ⟨rfl, hW, FR.rf⟩
        · simp only [Int32.lt_iff_toInt_lt, Int32.le_iff_toInt_le, Int32.reduceToInt, ← Int32.toInt_inj] at h_43
          refine v_iload hC dX6_addStitch_42 rfl ?_
          refine v_bipush hC dX6_addStitch_44 (v := 16) (by decide) ?_
          refine v_icmp_ge hC dX6_addStitch_46 (tgt := 70) (by decide) (fun h_44 => ?_) (fun h_44 => ?_)
          · simp only [Int32.lt_iff_toInt_lt, Int32.le_iff_toInt_le, Int32.reduceToInt, ← Int32.toInt_inj] at h_44
            exact hR _ _ _ _ _ _ dX6_addStitch_70 (Nat.le_of_ble_eq_true rfl) (Nat.le_of_ble_eq_true rfl) ⟨rfl, hW, FR.rf⟩
          · simp only [Int32.lt_iff_toInt_lt, Int32.le_iff_toInt_le, Int32.reduceToInt, ← Int32.toInt_inj] at h_44
            refine v_aload_n hC dX6_addStitch_49 rfl ?_
            refine v_get hC fl_X6_18 m_1 e_13 rfl dX6_addStitch_50 ?_
            refine v_iload_n hC dX6_addStitch_53 rfl ?_
            refine v_dup2 hC dX6_addStitch_54 rfl rfl ?_
            obtain ⟨m_45, t_46⟩ := id k_9
            obtain ⟨g_48, e_47⟩ := hW.at m_45 t_46
            obtain ⟨v_49, h_50⟩ : ∃ v9 : Int32, g_48 (r_28 : Int32).toNatClampNeg = v9 := ⟨_, rfl⟩
            refine v_iald hC m_45 e_47 (vp_in_iff.mpr (by first | omega | (simp only [Int32.lt_iff_toInt_lt, Int32.le_iff_toInt_le, Int32.reduceToInt, ← Int32.toInt_inj, true_and, and_true, or_true, true_or, false_or, or_false, false_and, and_false, not_true_eq_false, not_false_eq_true] <;> omega))) h_50 dX6_addStitch_55 ?_
            refine v_iload_n hC dX6_addStitch_56 rfl ?_
            obtain ⟨v_51, h_52⟩ : ∃ v9 : Int32, v_49 + a_2 = v9 := ⟨_, rfl⟩
            refine v_iadd hC dX6_addStitch_57 h_52 ?_
            refine v_iast hC m_45 e_47 (vp_in_iff.mpr (by first | omega | (simp only [Int32.lt_iff_toInt_lt, Int32.le_iff_toInt_le, Int32.reduceToInt, ← Int32.toInt_inj, true_and, and_true, or_true, true_or, false_or, or_false, false_and, and_false, not_true_eq_false, not_false_eq_true] <;> omega))) dX6_addStitch_58 (fun f_54 hf_55 hk_56 => ?_)
            have hW_58 := hW.up hf_55 hk_56 t_46 ⟨_, rfl⟩
            obtain ⟨g_57, hf_55⟩ : ∃ g9, f_54 q_4 = aI E 5 g9 := ⟨_, hf_55⟩
            have hf_59 := (hk_56 a_0 (ne_kd e_13 e_47 rfl)).trans e_13
            have hf_60 := (hk_56 q_3 (ne_kd e_25 e_47 rfl)).trans e_25
            have fr_61 := FR.w hk_56 e_47 (k := 105) rfl
            refine v_aload_n hC dX6_addStitch_59 rfl ?_
            refine v_get hC fl_X6_22 m_1 hf_59 rfl dX6_addStitch_60 ?_
            refine v_iload hC dX6_addStitch_63 rfl ?_
            refine v_dup2 hC dX6_addStitch_65 rfl rfl ?_
            obtain ⟨m_62, t_63⟩ := id k_10
            obtain ⟨g_65, e_64⟩ := hW_58.at m_62 t_63
            obtain ⟨v_66, h_67⟩ : ∃ v9 : Int32, g_65 (v_40 : Int32).toNatClampNeg = v9 := ⟨_, rfl⟩
            refine v_iald hC m_62 e_64 (vp_in_iff.mpr (by first | omega | (simp only [Int32.lt_iff_toInt_lt, Int32.le_iff_toInt_le, Int32.reduceToInt, ← Int32.toInt_inj, true_and, and_true, or_true, true_or, false_or, or_false, false_and, and_false, not_true_eq_false, not_false_eq_true] <;> omega))) h_67 dX6_addStitch_66 ?_
            refine v_iload_n hC dX6_addStitch_67 rfl ?_
            obtain ⟨v_68, h_69⟩ : ∃ v9 : Int32, v_66 + a_2 = v9 := ⟨_, rfl⟩
            refine v_iadd hC dX6_addStitch_68 h_69 ?_
            refine v_iast hC m_62 e_64 (vp_in_iff.mpr (by first | omega | (simp only [Int32.lt_iff_toInt_lt, Int32.le_iff_toInt_le, Int32.reduceToInt, ← Int32.toInt_inj, true_and, and_true, or_true, true_or, false_or, or_false, false_and, and_false, not_true_eq_false, not_false_eq_true] <;> omega))) dX6_addStitch_69 (fun f_71 hf_72 hk_73 => ?_)
            have hW_75 := hW_58.up hf_72 hk_73 t_63 ⟨_, rfl⟩
            obtain ⟨g_74, hf_72⟩ : ∃ g9, f_71 q_5 = aI E 16 g9 := ⟨_, hf_72⟩
            have hf_76 := (hk_73 a_0 (ne_kd hf_59 e_64 rfl)).trans hf_59
            have hf_77 := (hk_73 q_3 (ne_kd hf_60 e_64 rfl)).trans hf_60
            have hf_78 := (hk_73 q_4 (ne_kd hf_55 e_64 rfl)).trans hf_55
            have fr_79 := FR.w hk_73 e_64 (k := 116) rfl
            exact hR _ _ _ _ _ _ dX6_addStitch_70 (Nat.le_of_ble_eq_true rfl) (Nat.le_of_ble_eq_true rfl) ⟨rfl, hW_75, ((fr_61.tr fr_79).mono rfl)⟩
  refine v_if_le hC dX6_addStitch_13 (tgt := 25) (by decide) (fun h_35 => ?_) (fun h_35 => ?_)
  · simp only [Int32.lt_iff_toInt_lt, Int32.le_iff_toInt_le, Int32.reduceToInt, ← Int32.toInt_inj] at h_35
    refine v_iconst hC dX6_addStitch_25 (v := (-1)) (by decide) ?_
    refine v_pick [0, 1, 3] rfl ?_
    exact jn_39 (-1)
  · simp only [Int32.lt_iff_toInt_lt, Int32.le_iff_toInt_le, Int32.reduceToInt, ← Int32.toInt_inj] at h_35
    refine v_iload_n hC dX6_addStitch_16 rfl ?_
    refine v_aload_n hC dX6_addStitch_17 rfl ?_
    refine v_get hC fl_X6_47 m_1 e_13 rfl dX6_addStitch_18 ?_
    obtain ⟨v_80, h_81⟩ : ∃ v9 : Int32, a_1 / v_14 = v9 := ⟨_, rfl⟩
    refine v_idiv hC dX6_addStitch_21 (by first | omega | (simp only [Int32.lt_iff_toInt_lt, Int32.le_iff_toInt_le, Int32.reduceToInt, ← Int32.toInt_inj, true_and, and_true, or_true, true_or, false_or, or_false, false_and, and_false, not_true_eq_false, not_false_eq_true] <;> omega)) h_81 ?_
    refine v_goto hC dX6_addStitch_22 (tgt := 26) (by decide) ?_
    refine v_pick [0, 1, 3] rfl ?_
    exact jn_39 v_80
set_option maxRecDepth 100000 in
set_option maxHeartbeats 8000000 in
theorem p_X6_link {l : Launch} {E : Ez} {L : List Nat} {f : Nat → va_E} {T : Nat → va_E → Prop} {a_0 : Nat} {a_1 : Int32} {a_2 : Int32} (hW : WT T L f) (k_0 : isTal T L E a_0) : CV l yX6_link cX6_link 3 0 0 0 E [.ref a_0, .int a_1, .int a_2] L f (fun L1 f1 => L = L1 ∧ WT T L f1 ∧ FR [356] f f1) := by
  refine cv_of (by decide) (Nat.le_of_ble_eq_true rfl) (fun z hz hnm hC hR => ?_)
  have hC : Cx z E cX6_link RX6 3 0 0 0 := hC
  subst hz
  show V z E 3 0 0 L f 0 [(0, .ref a_0), (1, .int a_1), (2, .int a_2)] []
  refine v_iload_n hC dX6_link_0 rfl ?_
  refine v_if_lt hC dX6_link_1 (tgt := 36) (by decide) (fun h_1 => ?_) (fun h_1 => ?_)
  · simp only [Int32.lt_iff_toInt_lt, Int32.le_iff_toInt_le, Int32.reduceToInt, ← Int32.toInt_inj] at h_1
    exact hR _ _ _ _ _ _ dX6_link_36 (Nat.le_of_ble_eq_true rfl) (Nat.le_of_ble_eq_true rfl) ⟨rfl, hW, FR.rf⟩
  · simp only [Int32.lt_iff_toInt_lt, Int32.le_iff_toInt_le, Int32.reduceToInt, ← Int32.toInt_inj] at h_1
    refine v_iload_n hC dX6_link_4 rfl ?_
    refine v_sipush hC dX6_link_5 (v := 256) (by decide) ?_
    refine v_icmp_ge hC dX6_link_8 (tgt := 36) (by decide) (fun h_2 => ?_) (fun h_2 => ?_)
    · simp only [Int32.lt_iff_toInt_lt, Int32.le_iff_toInt_le, Int32.reduceToInt, ← Int32.toInt_inj] at h_2
      exact hR _ _ _ _ _ _ dX6_link_36 (Nat.le_of_ble_eq_true rfl) (Nat.le_of_ble_eq_true rfl) ⟨rfl, hW, FR.rf⟩
    · simp only [Int32.lt_iff_toInt_lt, Int32.le_iff_toInt_le, Int32.reduceToInt, ← Int32.toInt_inj] at h_2
      refine v_iload_n hC dX6_link_11 rfl ?_
      refine v_if_lt hC dX6_link_12 (tgt := 36) (by decide) (fun h_3 => ?_) (fun h_3 => ?_)
      · simp only [Int32.lt_iff_toInt_lt, Int32.le_iff_toInt_le, Int32.reduceToInt, ← Int32.toInt_inj] at h_3
        exact hR _ _ _ _ _ _ dX6_link_36 (Nat.le_of_ble_eq_true rfl) (Nat.le_of_ble_eq_true rfl) ⟨rfl, hW, FR.rf⟩
      · simp only [Int32.lt_iff_toInt_lt, Int32.le_iff_toInt_le, Int32.reduceToInt, ← Int32.toInt_inj] at h_3
        refine v_iload_n hC dX6_link_15 rfl ?_
        refine v_sipush hC dX6_link_16 (v := 256) (by decide) ?_
        refine v_icmp_ge hC dX6_link_19 (tgt := 36) (by decide) (fun h_4 => ?_) (fun h_4 => ?_)
        · simp only [Int32.lt_iff_toInt_lt, Int32.le_iff_toInt_le, Int32.reduceToInt, ← Int32.toInt_inj] at h_4
          exact hR _ _ _ _ _ _ dX6_link_36 (Nat.le_of_ble_eq_true rfl) (Nat.le_of_ble_eq_true rfl) ⟨rfl, hW, FR.rf⟩
        · simp only [Int32.lt_iff_toInt_lt, Int32.le_iff_toInt_le, Int32.reduceToInt, ← Int32.toInt_inj] at h_4
          refine v_aload_n hC dX6_link_22 rfl ?_
          obtain ⟨m_5, q_7, q_8, q_9, q_10, q_11, t_6, k_12, k_13, k_14, k_15, k_16⟩ := id k_0
          obtain ⟨v_18, v_19, v_21, v_23, v_24, e_17, b_20, b_22⟩ := hW.at m_5 t_6
          refine v_get hC fl_X6_28 m_5 e_17 rfl dX6_link_23 ?_
          refine v_iload_n hC dX6_link_26 rfl ?_
          refine v_iload_n hC dX6_link_27 rfl ?_
          obtain ⟨m_25, t_26⟩ := id k_16
          obtain ⟨g_28, e_27⟩ := hW.at m_25 t_26
          refine v_iast hC m_25 e_27 (vp_in_iff.mpr (by first | omega | (simp only [Int32.lt_iff_toInt_lt, Int32.le_iff_toInt_le, Int32.reduceToInt, ← Int32.toInt_inj, true_and, and_true, or_true, true_or, false_or, or_false, false_and, and_false, not_true_eq_false, not_false_eq_true] <;> omega))) dX6_link_28 (fun f_29 hf_30 hk_31 => ?_)
          have hW_33 := hW.up hf_30 hk_31 t_26 ⟨_, rfl⟩
          obtain ⟨g_32, hf_30⟩ : ∃ g9, f_29 q_11 = aI E 256 g9 := ⟨_, hf_30⟩
          have hf_34 := (hk_31 a_0 (ne_kd e_17 e_27 rfl)).trans e_17
          have fr_35 := FR.w hk_31 e_27 (k := 356) rfl
          refine v_aload_n hC dX6_link_29 rfl ?_
          refine v_get hC fl_X6_25 m_5 hf_34 rfl dX6_link_30 ?_
          refine v_iload_n hC dX6_link_33 rfl ?_
          refine v_iload_n hC dX6_link_34 rfl ?_
          obtain ⟨m_36, t_37⟩ := id k_15
          obtain ⟨g_39, e_38⟩ := hW_33.at m_36 t_37
          refine v_iast hC m_36 e_38 (vp_in_iff.mpr (by first | omega | (simp only [Int32.lt_iff_toInt_lt, Int32.le_iff_toInt_le, Int32.reduceToInt, ← Int32.toInt_inj, true_and, and_true, or_true, true_or, false_or, or_false, false_and, and_false, not_true_eq_false, not_false_eq_true] <;> omega))) dX6_link_35 (fun f_40 hf_41 hk_42 => ?_)
          have hW_44 := hW_33.up hf_41 hk_42 t_37 ⟨_, rfl⟩
          obtain ⟨g_43, hf_41⟩ : ∃ g9, f_40 q_10 = aI E 256 g9 := ⟨_, hf_41⟩
          have hf_45 := (hk_42 a_0 (ne_kd hf_34 e_38 rfl)).trans hf_34
          have fr_46 := FR.w hk_42 e_38 (k := 356) rfl
          exact hR _ _ _ _ _ _ dX6_link_36 (Nat.le_of_ble_eq_true rfl) (Nat.le_of_ble_eq_true rfl) ⟨rfl, hW_44, ((fr_35.tr fr_46).mono rfl)⟩
set_option maxRecDepth 100000 in
set_option maxHeartbeats 8000000 in
theorem p_X6_isRun {l : Launch} {E : Ez} {L : List Nat} {f : Nat → va_E} {T : Nat → va_E → Prop} {a_0 : Nat} {a_1 : Int32} {a_2 : Int32} (hW : WT T L f) (k_0 : isTal T L E a_0) : CI l yX6_isRun cX6_isRun 5 .boolean 1 0 0 E [.ref a_0, .int a_1, .int a_2] L f (fun r L1 f1 => L = L1 ∧ f = f1 ∧ (0 ≤ r.toInt ∧ r.toInt ≤ 1)) := by
  refine ci_of (by decide) (Nat.le_of_ble_eq_true rfl) (fun z hz hnm hC hR => ?_)
  have hC : Cx z E cX6_isRun RX6 5 1 0 0 := hC
  subst hz
  show V z E 5 0 0 L f 0 [(0, .ref a_0), (1, .int a_1), (2, .int a_2)] []
  refine v_aload_n hC dX6_isRun_0 rfl ?_
  obtain ⟨m_1, q_3, q_4, q_5, q_6, q_7, t_2, k_8, k_9, k_10, k_11, k_12⟩ := id k_0
  obtain ⟨v_14, v_15, v_17, v_19, v_20, e_13, b_16, b_18⟩ := hW.at m_1 t_2
  refine v_get hC fl_X6_12 m_1 e_13 rfl dX6_isRun_1 ?_
  refine v_iload_n hC dX6_isRun_4 rfl ?_
  obtain ⟨m_21, q_23, t_22, k_24⟩ := id k_8
  obtain ⟨v_26, e_25, b_27⟩ := hW.at m_21 t_22
  refine v_vi hC (rest := []) m_21 e_25 rfl mi_X1_stitchAt ms_X1_stitchAt (p_X1_stitchAt hW k_8) mx_X1_stitchAt ml_X6_90 (by decide) rfl (cells1 := 0) (slots1 := 0) (by decide) (by decide) (Nat.le_of_ble_eq_true rfl) (Nat.le_of_ble_eq_true rfl) rfl (Nat.le_of_ble_eq_true rfl) dX6_isRun_5 (fun r_28 L_29 f_30 h_31 => ?_)
  obtain ⟨rfl, rfl, h_32⟩ := h_31
  refine v_istore_n hC dX6_isRun_8 (by decide) (lv' := [(3, .int r_28), (0, .ref a_0), (1, .int a_1), (2, .int a_2)]) rfl ?_
  refine v_aload_n hC dX6_isRun_9 rfl ?_
  refine v_get hC fl_X6_12 m_1 e_13 rfl dX6_isRun_10 ?_
  refine v_iload_n hC dX6_isRun_13 rfl ?_
  refine v_vi hC (rest := []) m_21 e_25 rfl mi_X1_stitchAt ms_X1_stitchAt (p_X1_stitchAt hW k_8) mx_X1_stitchAt ml_X6_90 (by decide) rfl (cells1 := 0) (slots1 := 0) (by decide) (by decide) (Nat.le_of_ble_eq_true rfl) (Nat.le_of_ble_eq_true rfl) rfl (Nat.le_of_ble_eq_true rfl) dX6_isRun_14 (fun r_35 L_36 f_37 h_38 => ?_)
  obtain ⟨rfl, rfl, h_39⟩ := h_38
  refine v_istore hC dX6_isRun_17 (by decide) (lv' := [(4, .int r_35), (3, .int r_28), (0, .ref a_0), (1, .int a_1), (2, .int a_2)]) rfl ?_
  refine v_iload_n hC dX6_isRun_19 rfl ?_
  refine v_iconst hC dX6_isRun_20 (v := 4) (by decide) ?_
  refine v_icmp_eq hC dX6_isRun_21 (tgt := 40) (by decide) (fun h_42 => ?_) (fun h_42 => ?_)
  · simp only [Int32.lt_iff_toInt_lt, Int32.le_iff_toInt_le, Int32.reduceToInt, ← Int32.toInt_inj] at h_42
    refine v_iconst hC dX6_isRun_40 (v := 0) (by decide) ?_
    exact hR _ _ _ _ _ _ _ dX6_isRun_41 rfl (Nat.le_of_ble_eq_true rfl) (Nat.le_of_ble_eq_true rfl) ⟨rfl, rfl, (by decide)⟩
  · simp only [Int32.lt_iff_toInt_lt, Int32.le_iff_toInt_le, Int32.reduceToInt, ← Int32.toInt_inj] at h_42
    refine v_iload hC dX6_isRun_24 rfl ?_
    refine v_iconst hC dX6_isRun_26 (v := 4) (by decide) ?_
    refine v_icmp_eq hC dX6_isRun_27 (tgt := 40) (by decide) (fun h_43 => ?_) (fun h_43 => ?_)
    · simp only [Int32.lt_iff_toInt_lt, Int32.le_iff_toInt_le, Int32.reduceToInt, ← Int32.toInt_inj] at h_43
      refine v_iconst hC dX6_isRun_40 (v := 0) (by decide) ?_
      exact hR _ _ _ _ _ _ _ dX6_isRun_41 rfl (Nat.le_of_ble_eq_true rfl) (Nat.le_of_ble_eq_true rfl) ⟨rfl, rfl, (by decide)⟩
    · simp only [Int32.lt_iff_toInt_lt, Int32.le_iff_toInt_le, Int32.reduceToInt, ← Int32.toInt_inj] at h_43
      refine v_iload_n hC dX6_isRun_30 rfl ?_
      refine v_iload hC dX6_isRun_31 rfl ?_
      refine v_icmp_eq hC dX6_isRun_33 (tgt := 40) (by decide) (fun h_44 => ?_) (fun h_44 => ?_)
      · simp only [Int32.lt_iff_toInt_lt, Int32.le_iff_toInt_le, Int32.reduceToInt, ← Int32.toInt_inj] at h_44
        refine v_iconst hC dX6_isRun_40 (v := 0) (by decide) ?_
        exact hR _ _ _ _ _ _ _ dX6_isRun_41 rfl (Nat.le_of_ble_eq_true rfl) (Nat.le_of_ble_eq_true rfl) ⟨rfl, rfl, (by decide)⟩
      · simp only [Int32.lt_iff_toInt_lt, Int32.le_iff_toInt_le, Int32.reduceToInt, ← Int32.toInt_inj] at h_44
        refine v_iconst hC dX6_isRun_36 (v := 1) (by decide) ?_
        refine v_goto hC dX6_isRun_37 (tgt := 41) (by decide) ?_
        exact hR _ _ _ _ _ _ _ dX6_isRun_41 rfl (Nat.le_of_ble_eq_true rfl) (Nat.le_of_ble_eq_true rfl) ⟨rfl, rfl, (by decide)⟩
set_option maxRecDepth 100000 in
set_option maxHeartbeats 8000000 in
theorem p_X6_countOver {l : Launch} {E : Ez} {L : List Nat} {f : Nat → va_E} {T : Nat → va_E → Prop} {a_0 : Nat} {a_1 : Nat} {a_2 : Nat} (hW : WT T L f) (k_0 : isTal T L E a_0) (k_1 : isPat T L E a_1) (k_2 : isClo T L E a_2) : CV l yX6_countOver cX6_countOver 6 2 0 0 E [.ref a_0, .ref a_1, .ref a_2] L f (fun L1 f1 => L = L1 ∧ WT T L f1 ∧ FR [1, 6, 105, 116, 356] f f1) := by
  refine cv_of (by decide) (Nat.le_of_ble_eq_true rfl) (fun z hz hnm hC hR => ?_)
  have hC : Cx z E cX6_countOver RX6 6 2 0 0 := hC
  subst hz
  show V z E 6 0 0 L f 0 [(0, .ref a_0), (1, .ref a_1), (2, .ref a_2)] []
  refine v_aload_n hC dX6_countOver_0 rfl ?_
  obtain ⟨m_1, q_3, q_4, q_5, q_6, q_7, t_2, k_8, k_9, k_10, k_11, k_12⟩ := id k_0
  obtain ⟨v_14, v_15, v_17, v_19, v_20, e_13, b_16, b_18⟩ := hW.at m_1 t_2
  refine v_get hC fl_X6_12 m_1 e_13 rfl dX6_countOver_1 ?_
  refine v_aload_n hC dX6_countOver_4 rfl ?_
  obtain ⟨m_21, q_23, t_22, k_24⟩ := id k_8
  obtain ⟨v_26, e_25, b_27⟩ := hW.at m_21 t_22
  refine v_vv hC (rest := []) m_21 e_25 rfl mi_X1_takeFrom ms_X1_takeFrom (p_X1_takeFrom hW k_8 k_2) mx_X1_takeFrom ml_X6_31 (by decide) rfl (cells1 := 0) (slots1 := 0) (by decide) (by decide) (Nat.le_of_ble_eq_true rfl) (Nat.le_of_ble_eq_true rfl) rfl (Nat.le_of_ble_eq_true rfl) dX6_countOver_5 (fun L_29 f_30 h_31 => ?_)
  obtain ⟨rfl, hW_32, hF_33⟩ := h_31
  have hf_34 := hF_33.at e_13 rfl
  refine v_aload_n hC dX6_countOver_8 rfl ?_
  refine v_get hC fl_X6_18 m_1 hf_34 rfl dX6_countOver_9 ?_
  refine v_iconst hC dX6_countOver_12 (v := 0) (by decide) ?_
  refine v_sv hC (rest := []) mt_J7_fill_53178 (p_J7_fill_53178 hW_32 k_9) mx_J7_fill_53178 ml_X6_35 (by decide) rfl (cells1 := 0) (slots1 := 0) (by decide) (by decide) (Nat.le_of_ble_eq_true rfl) (Nat.le_of_ble_eq_true rfl) rfl (Nat.le_of_ble_eq_true rfl) dX6_countOver_13 (fun L_36 f_37 h_38 => ?_)
  obtain ⟨rfl, hW_39, hF_40⟩ := h_38
  have hf_41 := hF_40.at hf_34 rfl
  refine v_aload_n hC dX6_countOver_16 rfl ?_
  refine v_get hC fl_X6_22 m_1 hf_41 rfl dX6_countOver_17 ?_
  refine v_iconst hC dX6_countOver_20 (v := 0) (by decide) ?_
  refine v_sv hC (rest := []) mt_J7_fill_53178 (p_J7_fill_53178_208 hW_39 k_10) mx_J7_fill_53178 ml_X6_35 (by decide) rfl (cells1 := 0) (slots1 := 0) (by decide) (by decide) (Nat.le_of_ble_eq_true rfl) (Nat.le_of_ble_eq_true rfl) rfl (Nat.le_of_ble_eq_true rfl) dX6_countOver_21 (fun L_43 f_44 h_45 => ?_)
  obtain ⟨rfl, hW_46, hF_47⟩ := h_45
  have hf_48 := hF_47.at hf_41 rfl
  refine v_aload_n hC dX6_countOver_24 rfl ?_
  refine v_get hC fl_X6_25 m_1 hf_48 rfl dX6_countOver_25 ?_
  refine v_iconst hC dX6_countOver_28 (v := (-1)) (by decide) ?_
  refine v_sv hC (rest := []) mt_J7_fill_53178 (p_J7_fill_53178_209 hW_46 k_11) mx_J7_fill_53178 ml_X6_35 (by decide) rfl (cells1 := 0) (slots1 := 0) (by decide) (by decide) (Nat.le_of_ble_eq_true rfl) (Nat.le_of_ble_eq_true rfl) rfl (Nat.le_of_ble_eq_true rfl) dX6_countOver_29 (fun L_50 f_51 h_52 => ?_)
  obtain ⟨rfl, hW_53, hF_54⟩ := h_52
  have hf_55 := hF_54.at hf_48 rfl
  refine v_aload_n hC dX6_countOver_32 rfl ?_
  refine v_get hC fl_X6_28 m_1 hf_55 rfl dX6_countOver_33 ?_
  refine v_iconst hC dX6_countOver_36 (v := (-1)) (by decide) ?_
  refine v_sv hC (rest := []) mt_J7_fill_53178 (p_J7_fill_53178_209 hW_53 k_12) mx_J7_fill_53178 ml_X6_35 (by decide) rfl (cells1 := 0) (slots1 := 0) (by decide) (by decide) (Nat.le_of_ble_eq_true rfl) (Nat.le_of_ble_eq_true rfl) rfl (Nat.le_of_ble_eq_true rfl) dX6_countOver_37 (fun L_57 f_58 h_59 => ?_)
  obtain ⟨rfl, hW_60, hF_61⟩ := h_59
  have hf_62 := hF_61.at hf_55 rfl
  refine v_aload_n hC dX6_countOver_40 rfl ?_
  refine v_aload_n hC dX6_countOver_41 rfl ?_
  obtain ⟨m_63, q_65, q_66, t_64, k_67, k_68⟩ := id k_1
  obtain ⟨v_70, v_72, v_74, e_69, b_71, b_73, b_75⟩ := hW_60.at m_63 t_64
  refine v_getN hC fn_X6_41 m_63 e_69 rfl dX6_countOver_42 ?_
  refine v_put hC fl_X6_47 m_1 hf_62 rfl rfl (Nat.le_of_ble_eq_true rfl) (fs' := [.ref q_3, .ref q_4, .ref q_5, .ref q_6, .ref q_7, .int v_70, .int v_15, .int v_17, .int v_19, .int v_20]) rfl dX6_countOver_45 (fun f_76 hf_77 hk_78 => ?_)
  have hW_79 := hW_60.up hf_77 hk_78 t_2 ⟨v_70, v_15, v_17, v_19, v_20, rfl, (by first | omega | (simp only [Int32.lt_iff_toInt_lt, Int32.le_iff_toInt_le, Int32.reduceToInt, ← Int32.toInt_inj, true_and, and_true, or_true, true_or, false_or, or_false, false_and, and_false, not_true_eq_false, not_false_eq_true] <;> omega)), (by first | omega | (simp only [Int32.lt_iff_toInt_lt, Int32.le_iff_toInt_le, Int32.reduceToInt, ← Int32.toInt_inj, true_and, and_true, or_true, true_or, false_or, or_false, false_and, and_false, not_true_eq_false, not_false_eq_true] <;> omega))⟩
  have hf_80 := (hk_78 a_1 (ne_kd e_69 hf_62 rfl)).trans e_69
  have fr_81 := FR.w hk_78 hf_62 (k := 6) rfl
  refine v_aload_n hC dX6_countOver_48 rfl ?_
  refine v_aload_n hC dX6_countOver_49 rfl ?_
  refine v_getN hC fn_X6_48 m_63 hf_80 rfl dX6_countOver_50 ?_
  refine v_bipush hC dX6_countOver_53 (v := 16) (by decide) ?_
  obtain ⟨v_82, h_83⟩ : ∃ v9 : Int32, (if 16 < (v_72 : Int32) then 16 else (v_72 : Int32)) = v9 := ⟨_, rfl⟩
  refine v_mmin hC mm_X6_51 mm_smin mm_i mm_cmin (by decide) (Nat.le_of_ble_eq_true rfl) (Nat.le_of_ble_eq_true rfl) (Nat.le_of_ble_eq_true rfl) h_83 dX6_countOver_55 ?_
  have b_84 := min_v h_83
  try simp only [Int32.reduceToInt] at b_84
  refine v_put hC fl_X6_57 m_1 hf_77 rfl rfl (Nat.le_of_ble_eq_true rfl) (fs' := [.ref q_3, .ref q_4, .ref q_5, .ref q_6, .ref q_7, .int v_70, .int v_82, .int v_17, .int v_19, .int v_20]) rfl dX6_countOver_58 (fun f_85 hf_86 hk_87 => ?_)
  have hW_88 := hW_79.up hf_86 hk_87 t_2 ⟨v_70, v_82, v_17, v_19, v_20, rfl, (by first | omega | (simp only [Int32.lt_iff_toInt_lt, Int32.le_iff_toInt_le, Int32.reduceToInt, ← Int32.toInt_inj, true_and, and_true, or_true, true_or, false_or, or_false, false_and, and_false, not_true_eq_false, not_false_eq_true] <;> omega)), (by first | omega | (simp only [Int32.lt_iff_toInt_lt, Int32.le_iff_toInt_le, Int32.reduceToInt, ← Int32.toInt_inj, true_and, and_true, or_true, true_or, false_or, or_false, false_and, and_false, not_true_eq_false, not_false_eq_true] <;> omega))⟩
  have hf_89 := (hk_87 a_1 (ne_kd hf_80 hf_77 rfl)).trans hf_80
  have fr_90 := FR.w hk_87 hf_77 (k := 6) rfl
  refine v_aload_n hC dX6_countOver_61 rfl ?_
  refine v_aload_n hC dX6_countOver_62 rfl ?_
  refine v_getN hC fn_X6_58 m_63 hf_89 rfl dX6_countOver_63 ?_
  refine v_put hC fl_X6_61 m_1 hf_86 rfl rfl (Nat.le_of_ble_eq_true rfl) (fs' := [.ref q_3, .ref q_4, .ref q_5, .ref q_6, .ref q_7, .int v_70, .int v_82, .int v_74, .int v_19, .int v_20]) rfl dX6_countOver_66 (fun f_91 hf_92 hk_93 => ?_)
  have hW_94 := hW_88.up hf_92 hk_93 t_2 ⟨v_70, v_82, v_74, v_19, v_20, rfl, (by first | omega | (simp only [Int32.lt_iff_toInt_lt, Int32.le_iff_toInt_le, Int32.reduceToInt, ← Int32.toInt_inj, true_and, and_true, or_true, true_or, false_or, or_false, false_and, and_false, not_true_eq_false, not_false_eq_true] <;> omega)), (by first | omega | (simp only [Int32.lt_iff_toInt_lt, Int32.le_iff_toInt_le, Int32.reduceToInt, ← Int32.toInt_inj, true_and, and_true, or_true, true_or, false_or, or_false, false_and, and_false, not_true_eq_false, not_false_eq_true] <;> omega))⟩
  have hf_95 := (hk_93 a_1 (ne_kd hf_89 hf_86 rfl)).trans hf_89
  have fr_96 := FR.w hk_93 hf_86 (k := 6) rfl
  refine v_aload_n hC dX6_countOver_69 rfl ?_
  refine v_aload_n hC dX6_countOver_70 rfl ?_
  refine v_aload_n hC dX6_countOver_71 rfl ?_
  obtain ⟨m_97, q_99, t_98, k_100⟩ := id k_2
  obtain ⟨v_102, e_101, b_103⟩ := hW_94.at m_97 t_98
  refine v_vi hC (rest := [.ref a_0]) m_97 e_101 rfl mi_X1_lostPlaces ms_X1_lostPlaces (p_X1_lostPlaces hW_94 k_2 k_1) mx_X1_lostPlaces ml_X6_62 (by decide) rfl (cells1 := 0) (slots1 := 0) (by decide) (by decide) (Nat.le_of_ble_eq_true rfl) (Nat.le_of_ble_eq_true rfl) rfl (Nat.le_of_ble_eq_true rfl) dX6_countOver_72 (fun r_104 L_105 f_106 h_107 => ?_)
  obtain ⟨rfl, rfl⟩ := h_107
  refine v_put hC fl_X6_66 m_1 hf_92 rfl rfl (Nat.le_of_ble_eq_true rfl) (fs' := [.ref q_3, .ref q_4, .ref q_5, .ref q_6, .ref q_7, .int v_70, .int v_82, .int v_74, .int r_104, .int v_20]) rfl dX6_countOver_75 (fun f_110 hf_111 hk_112 => ?_)
  have hW_113 := hW_94.up hf_111 hk_112 t_2 ⟨v_70, v_82, v_74, r_104, v_20, rfl, (by first | omega | (simp only [Int32.lt_iff_toInt_lt, Int32.le_iff_toInt_le, Int32.reduceToInt, ← Int32.toInt_inj, true_and, and_true, or_true, true_or, false_or, or_false, false_and, and_false, not_true_eq_false, not_false_eq_true] <;> omega)), (by first | omega | (simp only [Int32.lt_iff_toInt_lt, Int32.le_iff_toInt_le, Int32.reduceToInt, ← Int32.toInt_inj, true_and, and_true, or_true, true_or, false_or, or_false, false_and, and_false, not_true_eq_false, not_false_eq_true] <;> omega))⟩
  have hf_114 := (hk_112 a_1 (ne_kd hf_95 hf_92 rfl)).trans hf_95
  have hf_115 := (hk_112 a_2 (ne_kd e_101 hf_92 rfl)).trans e_101
  have fr_116 := FR.w hk_112 hf_92 (k := 6) rfl
  refine v_aload_n hC dX6_countOver_78 rfl ?_
  refine v_iconst hC dX6_countOver_79 (v := 0) (by decide) ?_
  refine v_put hC fl_X6_69 m_1 hf_111 rfl rfl (Nat.le_of_ble_eq_true rfl) (fs' := [.ref q_3, .ref q_4, .ref q_5, .ref q_6, .ref q_7, .int v_70, .int v_82, .int v_74, .int r_104, .int 0]) rfl dX6_countOver_80 (fun f_117 hf_118 hk_119 => ?_)
  have hW_120 := hW_113.up hf_118 hk_119 t_2 ⟨v_70, v_82, v_74, r_104, 0, rfl, (by first | omega | (simp only [Int32.lt_iff_toInt_lt, Int32.le_iff_toInt_le, Int32.reduceToInt, ← Int32.toInt_inj, true_and, and_true, or_true, true_or, false_or, or_false, false_and, and_false, not_true_eq_false, not_false_eq_true] <;> omega)), (by first | omega | (simp only [Int32.lt_iff_toInt_lt, Int32.le_iff_toInt_le, Int32.reduceToInt, ← Int32.toInt_inj, true_and, and_true, or_true, true_or, false_or, or_false, false_and, and_false, not_true_eq_false, not_false_eq_true] <;> omega))⟩
  have hf_121 := (hk_119 a_1 (ne_kd hf_114 hf_111 rfl)).trans hf_114
  have hf_122 := (hk_119 a_2 (ne_kd hf_115 hf_111 rfl)).trans hf_115
  have fr_123 := FR.w hk_119 hf_111 (k := 6) rfl
  refine v_iconst hC dX6_countOver_83 (v := (-1)) (by decide) ?_
  refine v_istore_n hC dX6_countOver_84 (by decide) (lv' := [(3, .int (-1)), (0, .ref a_0), (1, .ref a_1), (2, .ref a_2)]) rfl ?_
  refine v_iconst hC dX6_countOver_85 (v := 0) (by decide) ?_
  refine v_istore hC dX6_countOver_86 (by decide) (lv' := [(4, .int 0), (3, .int (-1)), (0, .ref a_0), (1, .ref a_1), (2, .ref a_2)]) rfl ?_
  have lp_741 : ∀ (n_742 : Nat) (f_735 : Nat → va_E) (hW_736 : WT T L f_735) (hF_737 : FR [6, 105, 116, 356] f_117 f_735) (i_733 : Int32) (b_740 : (0 ≤ i_733.toInt ∧ i_733.toInt ≤ 256)) (i_734 : Int32) (hm_744 : 256 - i_733.toInt < (n_742 : Int)), V z E 6 0 0 L f_735 88 [(4, .int i_733), (3, .int i_734), (0, .ref a_0), (1, .ref a_1)] [] := by
    intro n_742
    induction n_742 with
    | zero =>
      intro f_735 hW_736 hF_737 i_733 b_740 i_734 hm_744
      have hf_738 := hF_737.at hf_121 rfl
      have hf_739 := hF_737.at hf_122 rfl
      exfalso; omega
    | succ n_742 ih_743 =>
      intro f_735 hW_736 hF_737 i_733 b_740 i_734 hm_744
      have hf_738 := hF_737.at hf_121 rfl
      have hf_739 := hF_737.at hf_122 rfl
      refine v_iload hC dX6_countOver_88 rfl ?_
      refine v_aload_n hC dX6_countOver_90 rfl ?_
      obtain ⟨v_746, v_747, v_749, v_751, v_752, e_745, b_748, b_750⟩ := hW_736.at m_1 t_2
      refine v_get hC fl_X6_61 m_1 e_745 rfl dX6_countOver_91 ?_
      refine v_icmp_ge hC dX6_countOver_94 (tgt := 162) (by decide) (fun h_753 => ?_) (fun h_753 => ?_)
      · simp only [Int32.lt_iff_toInt_lt, Int32.le_iff_toInt_le, Int32.reduceToInt, ← Int32.toInt_inj] at h_753
        exact hR _ _ _ _ _ _ dX6_countOver_162 (Nat.le_of_ble_eq_true rfl) (Nat.le_of_ble_eq_true rfl) ⟨rfl, hW_736, (((((((((((hF_33.tr hF_40).tr hF_47).tr hF_54).tr hF_61).tr fr_81).tr fr_90).tr fr_96).tr fr_116).tr fr_123).tr hF_737).mono rfl)⟩
      · simp only [Int32.lt_iff_toInt_lt, Int32.le_iff_toInt_le, Int32.reduceToInt, ← Int32.toInt_inj] at h_753
        refine v_aload_n hC dX6_countOver_97 rfl ?_
        refine v_iload hC dX6_countOver_98 rfl ?_
        refine v_vi hC (rest := []) m_63 hf_738 rfl mi_X4_freePlace ms_X4_freePlace (p_X4_freePlace hW_736 k_1) mx_X4_freePlace ml_X6_72 (by decide) rfl (cells1 := 0) (slots1 := 0) (by decide) (by decide) (Nat.le_of_ble_eq_true rfl) (Nat.le_of_ble_eq_true rfl) rfl (Nat.le_of_ble_eq_true rfl) dX6_countOver_100 (fun r_754 L_755 f_756 h_757 => ?_)
        obtain ⟨rfl, rfl, h_758⟩ := h_757
        refine v_istore hC dX6_countOver_103 (by decide) (lv' := [(5, .int r_754), (4, .int i_733), (3, .int i_734), (0, .ref a_0), (1, .ref a_1)]) rfl ?_
        refine v_aload_n hC dX6_countOver_105 rfl ?_
        refine v_iload hC dX6_countOver_106 rfl ?_
        refine v_iconst hC dX6_countOver_108 (v := 1) (by decide) ?_
        refine v_vv hC (rest := []) m_1 e_745 rfl mi_X6_addStitch ms_X6_addStitch (p_X6_addStitch hW_736 k_0) mx_X6_addStitch ml_X6_76 (by decide) rfl (cells1 := 0) (slots1 := 0) (by decide) (by decide) (Nat.le_of_ble_eq_true rfl) (Nat.le_of_ble_eq_true rfl) rfl (Nat.le_of_ble_eq_true rfl) dX6_countOver_109 (fun L_762 f_763 h_764 => ?_)
        obtain ⟨rfl, hW_765, hF_766⟩ := h_764
        have hf_767 := hF_766.at hf_738 rfl
        have hf_768 := hF_766.at hf_739 rfl
        have hf_769 := hF_766.at e_745 rfl
        refine v_aload_n hC dX6_countOver_112 rfl ?_
        refine v_iload hC dX6_countOver_113 rfl ?_
        refine v_vi hC (rest := []) m_63 hf_767 rfl mi_X4_sortAt ms_X4_sortAt (p_X4_sortAt hW_765 k_1) mx_X4_sortAt ml_X6_80 (by decide) rfl (cells1 := 0) (slots1 := 0) (by decide) (by decide) (Nat.le_of_ble_eq_true rfl) (Nat.le_of_ble_eq_true rfl) rfl (Nat.le_of_ble_eq_true rfl) dX6_countOver_115 (fun r_770 L_771 f_772 h_773 => ?_)
        obtain ⟨rfl, rfl, h_774⟩ := h_773
        refine v_iconst hC dX6_countOver_118 (v := 2) (by decide) ?_
        refine v_icmp_ne hC dX6_countOver_119 (tgt := 156) (by decide) (fun h_777 => ?_) (fun h_777 => ?_)
        · simp only [Int32.lt_iff_toInt_lt, Int32.le_iff_toInt_le, Int32.reduceToInt, ← Int32.toInt_inj] at h_777
          obtain ⟨v_778, h_779⟩ : ∃ v9 : Int32, i_733 + Int32.ofInt 1 = v9 := ⟨_, rfl⟩
          have h_780 := add_v (b := 1) h_779 (by first | omega | (simp only [Int32.lt_iff_toInt_lt, Int32.le_iff_toInt_le, Int32.reduceToInt, ← Int32.toInt_inj, true_and, and_true, or_true, true_or, false_or, or_false, false_and, and_false, not_true_eq_false, not_false_eq_true] <;> omega)) (by first | omega | (simp only [Int32.lt_iff_toInt_lt, Int32.le_iff_toInt_le, Int32.reduceToInt, ← Int32.toInt_inj, true_and, and_true, or_true, true_or, false_or, or_false, false_and, and_false, not_true_eq_false, not_false_eq_true] <;> omega))
          simp only [Int32.reduceToInt] at h_780
          refine v_iinc hC dX6_countOver_156 (k := 1) rfl (v := v_778) h_779 (by decide) (lv' := [(4, .int v_778), (5, .int r_754), (3, .int i_734), (0, .ref a_0), (1, .ref a_1)]) rfl ?_
          refine v_goto hC dX6_countOver_159 (tgt := 88) (by decide) ?_
          refine v_pick [0, 2, 3, 4] rfl ?_
          exact ih_743 f_763 hW_765 ((hF_737.tr hF_766).mono rfl) v_778 (by first | omega | (simp only [Int32.lt_iff_toInt_lt, Int32.le_iff_toInt_le, Int32.reduceToInt, ← Int32.toInt_inj, true_and, and_true, or_true, true_or, false_or, or_false, false_and, and_false, not_true_eq_false, not_false_eq_true] <;> omega)) i_734 (by first | omega | (simp only [Int32.lt_iff_toInt_lt, Int32.le_iff_toInt_le, Int32.reduceToInt, ← Int32.toInt_inj, true_and, and_true, or_true, true_or, false_or, or_false, false_and, and_false, not_true_eq_false, not_false_eq_true] <;> omega))
        · simp only [Int32.lt_iff_toInt_lt, Int32.le_iff_toInt_le, Int32.reduceToInt, ← Int32.toInt_inj] at h_777
          refine v_aload_n hC dX6_countOver_122 rfl ?_
          refine v_iload_n hC dX6_countOver_123 rfl ?_
          refine v_iload hC dX6_countOver_124 rfl ?_
          refine v_vv hC (rest := []) m_1 hf_769 rfl mi_X6_link ms_X6_link (p_X6_link hW_765 k_0) mx_X6_link ml_X6_83 (by decide) rfl (cells1 := 0) (slots1 := 0) (by decide) (by decide) (Nat.le_of_ble_eq_true rfl) (Nat.le_of_ble_eq_true rfl) rfl (Nat.le_of_ble_eq_true rfl) dX6_countOver_126 (fun L_782 f_783 h_784 => ?_)
          obtain ⟨rfl, hW_785, hF_786⟩ := h_784
          have hf_787 := hF_786.at hf_767 rfl
          have hf_788 := hF_786.at hf_768 rfl
          have hf_789 := hF_786.at hf_769 rfl
          refine v_aload_n hC dX6_countOver_129 rfl ?_
          refine v_dup hC dX6_countOver_130 rfl ?_
          refine v_get hC fl_X6_69 m_1 hf_789 rfl dX6_countOver_131 ?_
          refine v_aload_n hC dX6_countOver_134 rfl ?_
          refine v_iload_n hC dX6_countOver_135 rfl ?_
          refine v_iload hC dX6_countOver_136 rfl ?_
          refine v_vi hC (rest := [.int v_752, .ref a_0]) m_1 hf_789 rfl mi_X6_isRun ms_X6_isRun (p_X6_isRun hW_785 k_0) mx_X6_isRun ml_X6_86 (by decide) rfl (cells1 := 0) (slots1 := 0) (by decide) (by decide) (Nat.le_of_ble_eq_true rfl) (Nat.le_of_ble_eq_true rfl) rfl (Nat.le_of_ble_eq_true rfl) dX6_countOver_138 (fun r_790 L_791 f_792 h_793 => ?_)
          obtain ⟨rfl, rfl, b_794⟩ := h_793
          refine v_if_eq hC dX6_countOver_141 (tgt := 148) (by decide) (fun h_797 => ?_) (fun h_797 => ?_)
          · simp only [Int32.lt_iff_toInt_lt, Int32.le_iff_toInt_le, Int32.reduceToInt, ← Int32.toInt_inj] at h_797
            refine v_iconst hC dX6_countOver_148 (v := 0) (by decide) ?_
            obtain ⟨v_798, h_799⟩ : ∃ v9 : Int32, v_752 + 0 = v9 := ⟨_, rfl⟩
            refine v_iadd hC dX6_countOver_149 h_799 ?_
            have rg_801 := Int32.toInt_lt v_752
            have rg_802 := Int32.le_toInt v_752
            have h_800 := add_v h_799 (by first | omega | (simp only [Int32.lt_iff_toInt_lt, Int32.le_iff_toInt_le, Int32.reduceToInt, ← Int32.toInt_inj, true_and, and_true, or_true, true_or, false_or, or_false, false_and, and_false, not_true_eq_false, not_false_eq_true] <;> omega)) (by first | omega | (simp only [Int32.lt_iff_toInt_lt, Int32.le_iff_toInt_le, Int32.reduceToInt, ← Int32.toInt_inj, true_and, and_true, or_true, true_or, false_or, or_false, false_and, and_false, not_true_eq_false, not_false_eq_true] <;> omega))
            try simp only [Int32.reduceToInt] at h_800
            refine v_put hC fl_X6_69 m_1 hf_789 rfl rfl (Nat.le_of_ble_eq_true rfl) (fs' := [.ref q_3, .ref q_4, .ref q_5, .ref q_6, .ref q_7, .int v_746, .int v_747, .int v_749, .int v_751, .int v_798]) rfl dX6_countOver_150 (fun f_803 hf_804 hk_805 => ?_)
            have hW_806 := hW_785.up hf_804 hk_805 t_2 ⟨v_746, v_747, v_749, v_751, v_798, rfl, (by first | omega | (simp only [Int32.lt_iff_toInt_lt, Int32.le_iff_toInt_le, Int32.reduceToInt, ← Int32.toInt_inj, true_and, and_true, or_true, true_or, false_or, or_false, false_and, and_false, not_true_eq_false, not_false_eq_true] <;> omega)), (by first | omega | (simp only [Int32.lt_iff_toInt_lt, Int32.le_iff_toInt_le, Int32.reduceToInt, ← Int32.toInt_inj, true_and, and_true, or_true, true_or, false_or, or_false, false_and, and_false, not_true_eq_false, not_false_eq_true] <;> omega))⟩
            have hf_807 := (hk_805 a_1 (ne_kd hf_787 hf_789 rfl)).trans hf_787
            have hf_808 := (hk_805 a_2 (ne_kd hf_788 hf_789 rfl)).trans hf_788
            have fr_809 := FR.w hk_805 hf_789 (k := 6) rfl
            refine v_iload hC dX6_countOver_153 rfl ?_
            refine v_istore_n hC dX6_countOver_155 (by decide) (lv' := [(3, .int r_754), (5, .int r_754), (4, .int i_733), (0, .ref a_0), (1, .ref a_1)]) rfl ?_
            obtain ⟨v_810, h_811⟩ : ∃ v9 : Int32, i_733 + Int32.ofInt 1 = v9 := ⟨_, rfl⟩
            have h_812 := add_v (b := 1) h_811 (by first | omega | (simp only [Int32.lt_iff_toInt_lt, Int32.le_iff_toInt_le, Int32.reduceToInt, ← Int32.toInt_inj, true_and, and_true, or_true, true_or, false_or, or_false, false_and, and_false, not_true_eq_false, not_false_eq_true] <;> omega)) (by first | omega | (simp only [Int32.lt_iff_toInt_lt, Int32.le_iff_toInt_le, Int32.reduceToInt, ← Int32.toInt_inj, true_and, and_true, or_true, true_or, false_or, or_false, false_and, and_false, not_true_eq_false, not_false_eq_true] <;> omega))
            simp only [Int32.reduceToInt] at h_812
            refine v_iinc hC dX6_countOver_156 (k := 2) rfl (v := v_810) h_811 (by decide) (lv' := [(4, .int v_810), (3, .int r_754), (5, .int r_754), (0, .ref a_0), (1, .ref a_1)]) rfl ?_
            refine v_goto hC dX6_countOver_159 (tgt := 88) (by decide) ?_
            refine v_pick [0, 1, 3, 4] rfl ?_
            exact ih_743 f_803 hW_806 ((((hF_737.tr hF_766).tr hF_786).tr fr_809).mono rfl) v_810 (by first | omega | (simp only [Int32.lt_iff_toInt_lt, Int32.le_iff_toInt_le, Int32.reduceToInt, ← Int32.toInt_inj, true_and, and_true, or_true, true_or, false_or, or_false, false_and, and_false, not_true_eq_false, not_false_eq_true] <;> omega)) r_754 (by first | omega | (simp only [Int32.lt_iff_toInt_lt, Int32.le_iff_toInt_le, Int32.reduceToInt, ← Int32.toInt_inj, true_and, and_true, or_true, true_or, false_or, or_false, false_and, and_false, not_true_eq_false, not_false_eq_true] <;> omega))
          · simp only [Int32.lt_iff_toInt_lt, Int32.le_iff_toInt_le, Int32.reduceToInt, ← Int32.toInt_inj] at h_797
            refine v_iconst hC dX6_countOver_144 (v := 1) (by decide) ?_
            refine v_goto hC dX6_countOver_145 (tgt := 149) (by decide) ?_
            obtain ⟨v_813, h_814⟩ : ∃ v9 : Int32, v_752 + 1 = v9 := ⟨_, rfl⟩
            refine v_iadd hC dX6_countOver_149 h_814 ?_
            refine v_put hC fl_X6_69 m_1 hf_789 rfl rfl (Nat.le_of_ble_eq_true rfl) (fs' := [.ref q_3, .ref q_4, .ref q_5, .ref q_6, .ref q_7, .int v_746, .int v_747, .int v_749, .int v_751, .int v_813]) rfl dX6_countOver_150 (fun f_816 hf_817 hk_818 => ?_)
            have hW_819 := hW_785.up hf_817 hk_818 t_2 ⟨v_746, v_747, v_749, v_751, v_813, rfl, (by first | omega | (simp only [Int32.lt_iff_toInt_lt, Int32.le_iff_toInt_le, Int32.reduceToInt, ← Int32.toInt_inj, true_and, and_true, or_true, true_or, false_or, or_false, false_and, and_false, not_true_eq_false, not_false_eq_true] <;> omega)), (by first | omega | (simp only [Int32.lt_iff_toInt_lt, Int32.le_iff_toInt_le, Int32.reduceToInt, ← Int32.toInt_inj, true_and, and_true, or_true, true_or, false_or, or_false, false_and, and_false, not_true_eq_false, not_false_eq_true] <;> omega))⟩
            have hf_820 := (hk_818 a_1 (ne_kd hf_787 hf_789 rfl)).trans hf_787
            have hf_821 := (hk_818 a_2 (ne_kd hf_788 hf_789 rfl)).trans hf_788
            have fr_822 := FR.w hk_818 hf_789 (k := 6) rfl
            refine v_iload hC dX6_countOver_153 rfl ?_
            refine v_istore_n hC dX6_countOver_155 (by decide) (lv' := [(3, .int r_754), (5, .int r_754), (4, .int i_733), (0, .ref a_0), (1, .ref a_1)]) rfl ?_
            obtain ⟨v_823, h_824⟩ : ∃ v9 : Int32, i_733 + Int32.ofInt 1 = v9 := ⟨_, rfl⟩
            have h_825 := add_v (b := 1) h_824 (by first | omega | (simp only [Int32.lt_iff_toInt_lt, Int32.le_iff_toInt_le, Int32.reduceToInt, ← Int32.toInt_inj, true_and, and_true, or_true, true_or, false_or, or_false, false_and, and_false, not_true_eq_false, not_false_eq_true] <;> omega)) (by first | omega | (simp only [Int32.lt_iff_toInt_lt, Int32.le_iff_toInt_le, Int32.reduceToInt, ← Int32.toInt_inj, true_and, and_true, or_true, true_or, false_or, or_false, false_and, and_false, not_true_eq_false, not_false_eq_true] <;> omega))
            simp only [Int32.reduceToInt] at h_825
            refine v_iinc hC dX6_countOver_156 (k := 2) rfl (v := v_823) h_824 (by decide) (lv' := [(4, .int v_823), (3, .int r_754), (5, .int r_754), (0, .ref a_0), (1, .ref a_1)]) rfl ?_
            refine v_goto hC dX6_countOver_159 (tgt := 88) (by decide) ?_
            refine v_pick [0, 1, 3, 4] rfl ?_
            exact ih_743 f_816 hW_819 ((((hF_737.tr hF_766).tr hF_786).tr fr_822).mono rfl) v_823 (by first | omega | (simp only [Int32.lt_iff_toInt_lt, Int32.le_iff_toInt_le, Int32.reduceToInt, ← Int32.toInt_inj, true_and, and_true, or_true, true_or, false_or, or_false, false_and, and_false, not_true_eq_false, not_false_eq_true] <;> omega)) r_754 (by first | omega | (simp only [Int32.lt_iff_toInt_lt, Int32.le_iff_toInt_le, Int32.reduceToInt, ← Int32.toInt_inj, true_and, and_true, or_true, true_or, false_or, or_false, false_and, and_false, not_true_eq_false, not_false_eq_true] <;> omega))
  refine v_pick [0, 1, 2, 3] rfl ?_
  exact lp_741 258 f_117 hW_120 FR.rf 0 (by decide) (-1) (by decide)
set_option maxRecDepth 100000 in
set_option maxHeartbeats 8000000 in
theorem p_X6_runsAt {l : Launch} {E : Ez} {L : List Nat} {f : Nat → va_E} {T : Nat → va_E → Prop} {a_0 : Nat} {a_1 : Int32} (hW : WT T L f) (k_0 : isTal T L E a_0) : CI l yX6_runsAt cX6_runsAt 2 .int 2 0 0 E [.ref a_0, .int a_1] L f (fun r L1 f1 => L = L1 ∧ f = f1 ∧ (0 ≤ r.toInt ∧ r.toInt ≤ 2) ∧ (r.toInt = 0 ∨ (0 ≤ a_1.toInt ∧ a_1.toInt ≤ 255))) := by
  refine ci_of (by decide) (Nat.le_of_ble_eq_true rfl) (fun z hz hnm hC hR => ?_)
  have hC : Cx z E cX6_runsAt RX6 2 2 0 0 := hC
  subst hz
  show V z E 2 0 0 L f 0 [(0, .ref a_0), (1, .int a_1)] []
  refine v_iload_n hC dX6_runsAt_0 rfl ?_
  refine v_if_lt hC dX6_runsAt_1 (tgt := 11) (by decide) (fun h_1 => ?_) (fun h_1 => ?_)
  · simp only [Int32.lt_iff_toInt_lt, Int32.le_iff_toInt_le, Int32.reduceToInt, ← Int32.toInt_inj] at h_1
    refine v_iconst hC dX6_runsAt_11 (v := 0) (by decide) ?_
    exact hR _ _ _ _ _ _ _ dX6_runsAt_12 rfl (Nat.le_of_ble_eq_true rfl) (Nat.le_of_ble_eq_true rfl) ⟨rfl, rfl, (by decide), (.inl (by decide))⟩
  · simp only [Int32.lt_iff_toInt_lt, Int32.le_iff_toInt_le, Int32.reduceToInt, ← Int32.toInt_inj] at h_1
    refine v_iload_n hC dX6_runsAt_4 rfl ?_
    refine v_sipush hC dX6_runsAt_5 (v := 256) (by decide) ?_
    refine v_icmp_lt hC dX6_runsAt_8 (tgt := 13) (by decide) (fun h_2 => ?_) (fun h_2 => ?_)
    · simp only [Int32.lt_iff_toInt_lt, Int32.le_iff_toInt_le, Int32.reduceToInt, ← Int32.toInt_inj] at h_2
      refine v_aload_n hC dX6_runsAt_13 rfl ?_
      refine v_aload_n hC dX6_runsAt_14 rfl ?_
      obtain ⟨m_3, q_5, q_6, q_7, q_8, q_9, t_4, k_10, k_11, k_12, k_13, k_14⟩ := id k_0
      obtain ⟨v_16, v_17, v_19, v_21, v_22, e_15, b_18, b_20⟩ := hW.at m_3 t_4
      refine v_get hC fl_X6_25 m_3 e_15 rfl dX6_runsAt_15 ?_
      refine v_iload_n hC dX6_runsAt_18 rfl ?_
      obtain ⟨m_23, t_24⟩ := id k_13
      obtain ⟨g_26, e_25⟩ := hW.at m_23 t_24
      obtain ⟨v_27, h_28⟩ : ∃ v9 : Int32, g_26 (a_1 : Int32).toNatClampNeg = v9 := ⟨_, rfl⟩
      refine v_iald hC m_23 e_25 (vp_in_iff.mpr (by first | omega | (simp only [Int32.lt_iff_toInt_lt, Int32.le_iff_toInt_le, Int32.reduceToInt, ← Int32.toInt_inj, true_and, and_true, or_true, true_or, false_or, or_false, false_and, and_false, not_true_eq_false, not_false_eq_true] <;> omega))) h_28 dX6_runsAt_19 ?_
      refine v_iload_n hC dX6_runsAt_20 rfl ?_
      refine v_vi hC (rest := []) m_3 e_15 rfl mi_X6_isRun ms_X6_isRun (p_X6_isRun hW k_0) mx_X6_isRun ml_X6_86 (by decide) rfl (cells1 := 0) (slots1 := 0) (by decide) (by decide) (Nat.le_of_ble_eq_true rfl) (Nat.le_of_ble_eq_true rfl) rfl (Nat.le_of_ble_eq_true rfl) dX6_runsAt_21 (fun r_29 L_30 f_31 h_32 => ?_)
      obtain ⟨rfl, rfl, b_33⟩ := h_32
      have jn_37 : ∀ (v_38 : Int32) (b_39 : (0 ≤ v_38.toInt ∧ v_38.toInt ≤ 1)), V z E 2 0 0 L f 32 [(0, .ref a_0), (1, .int a_1)] [.int v_38] := by
        intro v_38 b_39
        refine v_aload_n hC dX6_runsAt_32 rfl ?_
        refine v_iload_n hC dX6_runsAt_33 rfl ?_
        refine v_aload_n hC dX6_runsAt_34 rfl ?_
        refine v_get hC fl_X6_28 m_3 e_15 rfl dX6_runsAt_35 ?_
        refine v_iload_n hC dX6_runsAt_38 rfl ?_
        obtain ⟨m_40, t_41⟩ := id k_14
        obtain ⟨g_43, e_42⟩ := hW.at m_40 t_41
        obtain ⟨v_44, h_45⟩ : ∃ v9 : Int32, g_43 (a_1 : Int32).toNatClampNeg = v9 := ⟨_, rfl⟩
        refine v_iald hC m_40 e_42 (vp_in_iff.mpr (by first | omega | (simp only [Int32.lt_iff_toInt_lt, Int32.le_iff_toInt_le, Int32.reduceToInt, ← Int32.toInt_inj, true_and, and_true, or_true, true_or, false_or, or_false, false_and, and_false, not_true_eq_false, not_false_eq_true] <;> omega))) h_45 dX6_runsAt_39 ?_
        refine v_vi hC (rest := [.int v_38]) m_3 e_15 rfl mi_X6_isRun ms_X6_isRun (p_X6_isRun hW k_0) mx_X6_isRun ml_X6_86 (by decide) rfl (cells1 := 0) (slots1 := 0) (by decide) (by decide) (Nat.le_of_ble_eq_true rfl) (Nat.le_of_ble_eq_true rfl) rfl (Nat.le_of_ble_eq_true rfl) dX6_runsAt_40 (fun r_46 L_47 f_48 h_49 => ?_)
        obtain ⟨rfl, rfl, b_50⟩ := h_49
        refine v_if_eq hC dX6_runsAt_43 (tgt := 50) (by decide) (fun h_53 => ?_) (fun h_53 => ?_)
        · simp only [Int32.lt_iff_toInt_lt, Int32.le_iff_toInt_le, Int32.reduceToInt, ← Int32.toInt_inj] at h_53
          refine v_iconst hC dX6_runsAt_50 (v := 0) (by decide) ?_
          obtain ⟨v_54, h_55⟩ : ∃ v9 : Int32, v_38 + 0 = v9 := ⟨_, rfl⟩
          refine v_iadd hC dX6_runsAt_51 h_55 ?_
          have h_56 := add_v h_55 (by first | omega | (simp only [Int32.lt_iff_toInt_lt, Int32.le_iff_toInt_le, Int32.reduceToInt, ← Int32.toInt_inj, true_and, and_true, or_true, true_or, false_or, or_false, false_and, and_false, not_true_eq_false, not_false_eq_true] <;> omega)) (by first | omega | (simp only [Int32.lt_iff_toInt_lt, Int32.le_iff_toInt_le, Int32.reduceToInt, ← Int32.toInt_inj, true_and, and_true, or_true, true_or, false_or, or_false, false_and, and_false, not_true_eq_false, not_false_eq_true] <;> omega))
          try simp only [Int32.reduceToInt] at h_56
          exact hR _ _ _ _ _ _ _ dX6_runsAt_52 rfl (Nat.le_of_ble_eq_true rfl) (Nat.le_of_ble_eq_true rfl) ⟨rfl, rfl, (by first | omega | (simp only [Int32.lt_iff_toInt_lt, Int32.le_iff_toInt_le, Int32.reduceToInt, ← Int32.toInt_inj, true_and, and_true, or_true, true_or, false_or, or_false, false_and, and_false, not_true_eq_false, not_false_eq_true] <;> omega)), (.inr (by first | omega | (simp only [Int32.lt_iff_toInt_lt, Int32.le_iff_toInt_le, Int32.reduceToInt, ← Int32.toInt_inj, true_and, and_true, or_true, true_or, false_or, or_false, false_and, and_false, not_true_eq_false, not_false_eq_true] <;> omega)))⟩
        · simp only [Int32.lt_iff_toInt_lt, Int32.le_iff_toInt_le, Int32.reduceToInt, ← Int32.toInt_inj] at h_53
          refine v_iconst hC dX6_runsAt_46 (v := 1) (by decide) ?_
          refine v_goto hC dX6_runsAt_47 (tgt := 51) (by decide) ?_
          obtain ⟨v_57, h_58⟩ : ∃ v9 : Int32, v_38 + 1 = v9 := ⟨_, rfl⟩
          refine v_iadd hC dX6_runsAt_51 h_58 ?_
          have h_59 := add_v h_58 (by first | omega | (simp only [Int32.lt_iff_toInt_lt, Int32.le_iff_toInt_le, Int32.reduceToInt, ← Int32.toInt_inj, true_and, and_true, or_true, true_or, false_or, or_false, false_and, and_false, not_true_eq_false, not_false_eq_true] <;> omega)) (by first | omega | (simp only [Int32.lt_iff_toInt_lt, Int32.le_iff_toInt_le, Int32.reduceToInt, ← Int32.toInt_inj, true_and, and_true, or_true, true_or, false_or, or_false, false_and, and_false, not_true_eq_false, not_false_eq_true] <;> omega))
          try simp only [Int32.reduceToInt] at h_59
          exact hR _ _ _ _ _ _ _ dX6_runsAt_52 rfl (Nat.le_of_ble_eq_true rfl) (Nat.le_of_ble_eq_true rfl) ⟨rfl, rfl, (by first | omega | (simp only [Int32.lt_iff_toInt_lt, Int32.le_iff_toInt_le, Int32.reduceToInt, ← Int32.toInt_inj, true_and, and_true, or_true, true_or, false_or, or_false, false_and, and_false, not_true_eq_false, not_false_eq_true] <;> omega)), (.inr (by first | omega | (simp only [Int32.lt_iff_toInt_lt, Int32.le_iff_toInt_le, Int32.reduceToInt, ← Int32.toInt_inj, true_and, and_true, or_true, true_or, false_or, or_false, false_and, and_false, not_true_eq_false, not_false_eq_true] <;> omega)))⟩
      refine v_if_eq hC dX6_runsAt_24 (tgt := 31) (by decide) (fun h_36 => ?_) (fun h_36 => ?_)
      · simp only [Int32.lt_iff_toInt_lt, Int32.le_iff_toInt_le, Int32.reduceToInt, ← Int32.toInt_inj] at h_36
        refine v_iconst hC dX6_runsAt_31 (v := 0) (by decide) ?_
        refine v_pick [0, 1] rfl ?_
        exact jn_37 0 (by decide)
      · simp only [Int32.lt_iff_toInt_lt, Int32.le_iff_toInt_le, Int32.reduceToInt, ← Int32.toInt_inj] at h_36
        refine v_iconst hC dX6_runsAt_27 (v := 1) (by decide) ?_
        refine v_goto hC dX6_runsAt_28 (tgt := 32) (by decide) ?_
        refine v_pick [0, 1] rfl ?_
        exact jn_37 1 (by decide)
    · simp only [Int32.lt_iff_toInt_lt, Int32.le_iff_toInt_le, Int32.reduceToInt, ← Int32.toInt_inj] at h_2
      refine v_iconst hC dX6_runsAt_11 (v := 0) (by decide) ?_
      exact hR _ _ _ _ _ _ _ dX6_runsAt_12 rfl (Nat.le_of_ble_eq_true rfl) (Nat.le_of_ble_eq_true rfl) ⟨rfl, rfl, (by decide), (.inl (by decide))⟩
set_option maxRecDepth 100000 in
set_option maxHeartbeats 8000000 in
theorem p_X6_change {l : Launch} {E : Ez} {L : List Nat} {f : Nat → va_E} {T : Nat → va_E → Prop} {a_0 : Nat} {a_1 : Int32} {a_2 : Int32} (hW : WT T L f) (k_0 : isTal T L E a_0) : CV l yX6_change cX6_change 3 3 0 0 E [.ref a_0, .int a_1, .int a_2] L f (fun L1 f1 => L = L1 ∧ WT T L f1 ∧ FR [6, 105, 116, 356] f f1) := by
  refine cv_of (by decide) (Nat.le_of_ble_eq_true rfl) (fun z hz hnm hC hR => ?_)
  have hC : Cx z E cX6_change RX6 3 3 0 0 := hC
  subst hz
  show V z E 3 0 0 L f 0 [(0, .ref a_0), (1, .int a_1), (2, .int a_2)] []
  refine v_iload_n hC dX6_change_0 rfl ?_
  refine v_if_lt hC dX6_change_1 (tgt := 11) (by decide) (fun h_1 => ?_) (fun h_1 => ?_)
  · simp only [Int32.lt_iff_toInt_lt, Int32.le_iff_toInt_le, Int32.reduceToInt, ← Int32.toInt_inj] at h_1
    exact hR _ _ _ _ _ _ dX6_change_11 (Nat.le_of_ble_eq_true rfl) (Nat.le_of_ble_eq_true rfl) ⟨rfl, hW, FR.rf⟩
  · simp only [Int32.lt_iff_toInt_lt, Int32.le_iff_toInt_le, Int32.reduceToInt, ← Int32.toInt_inj] at h_1
    refine v_iload_n hC dX6_change_4 rfl ?_
    refine v_sipush hC dX6_change_5 (v := 256) (by decide) ?_
    refine v_icmp_lt hC dX6_change_8 (tgt := 12) (by decide) (fun h_2 => ?_) (fun h_2 => ?_)
    · simp only [Int32.lt_iff_toInt_lt, Int32.le_iff_toInt_le, Int32.reduceToInt, ← Int32.toInt_inj] at h_2
      refine v_aload_n hC dX6_change_12 rfl ?_
      refine v_iload_n hC dX6_change_13 rfl ?_
      refine v_iconst hC dX6_change_14 (v := (-1)) (by decide) ?_
      obtain ⟨m_3, q_5, q_6, q_7, q_8, q_9, t_4, k_10, k_11, k_12, k_13, k_14⟩ := id k_0
      obtain ⟨v_16, v_17, v_19, v_21, v_22, e_15, b_18, b_20⟩ := hW.at m_3 t_4
      refine v_vv hC (rest := []) m_3 e_15 rfl mi_X6_addStitch ms_X6_addStitch (p_X6_addStitch hW k_0) mx_X6_addStitch ml_X6_76 (by decide) rfl (cells1 := 0) (slots1 := 0) (by decide) (by decide) (Nat.le_of_ble_eq_true rfl) (Nat.le_of_ble_eq_true rfl) rfl (Nat.le_of_ble_eq_true rfl) dX6_change_15 (fun L_24 f_25 h_26 => ?_)
      obtain ⟨rfl, hW_27, hF_28⟩ := h_26
      have hf_29 := hF_28.at e_15 rfl
      refine v_aload_n hC dX6_change_18 rfl ?_
      refine v_dup hC dX6_change_19 rfl ?_
      refine v_get hC fl_X6_69 m_3 hf_29 rfl dX6_change_20 ?_
      refine v_aload_n hC dX6_change_23 rfl ?_
      refine v_iload_n hC dX6_change_24 rfl ?_
      refine v_vi hC (rest := [.int v_22, .ref a_0]) m_3 hf_29 rfl mi_X6_runsAt ms_X6_runsAt (p_X6_runsAt hW_27 k_0) mx_X6_runsAt ml_X6_93 (by decide) rfl (cells1 := 0) (slots1 := 0) (by decide) (by decide) (Nat.le_of_ble_eq_true rfl) (Nat.le_of_ble_eq_true rfl) rfl (Nat.le_of_ble_eq_true rfl) dX6_change_25 (fun r_30 L_31 f_32 h_33 => ?_)
      obtain ⟨rfl, rfl, b_34, h_35⟩ := h_33
      obtain ⟨v_38, h_39⟩ : ∃ v9 : Int32, v_22 - r_30 = v9 := ⟨_, rfl⟩
      refine v_isub hC dX6_change_28 h_39 ?_
      refine v_put hC fl_X6_69 m_3 hf_29 rfl rfl (Nat.le_of_ble_eq_true rfl) (fs' := [.ref q_5, .ref q_6, .ref q_7, .ref q_8, .ref q_9, .int v_16, .int v_17, .int v_19, .int v_21, .int v_38]) rfl dX6_change_29 (fun f_41 hf_42 hk_43 => ?_)
      have hW_44 := hW_27.up hf_42 hk_43 t_4 ⟨v_16, v_17, v_19, v_21, v_38, rfl, (by first | omega | (simp only [Int32.lt_iff_toInt_lt, Int32.le_iff_toInt_le, Int32.reduceToInt, ← Int32.toInt_inj, true_and, and_true, or_true, true_or, false_or, or_false, false_and, and_false, not_true_eq_false, not_false_eq_true] <;> omega)), (by first | omega | (simp only [Int32.lt_iff_toInt_lt, Int32.le_iff_toInt_le, Int32.reduceToInt, ← Int32.toInt_inj, true_and, and_true, or_true, true_or, false_or, or_false, false_and, and_false, not_true_eq_false, not_false_eq_true] <;> omega))⟩
      have fr_45 := FR.w hk_43 hf_29 (k := 6) rfl
      refine v_aload_n hC dX6_change_32 rfl ?_
      refine v_get hC fl_X6_12 m_3 hf_42 rfl dX6_change_33 ?_
      refine v_iload_n hC dX6_change_36 rfl ?_
      refine v_iload_n hC dX6_change_37 rfl ?_
      obtain ⟨m_46, q_48, t_47, k_49⟩ := id k_10
      obtain ⟨v_51, e_50, b_52⟩ := hW_44.at m_46 t_47
      refine v_vv hC (rest := []) m_46 e_50 rfl mi_X1_setStitch ms_X1_setStitch (p_X1_setStitch hW_44 k_10) mx_X1_setStitch ml_X6_96 (by decide) rfl (cells1 := 0) (slots1 := 0) (by decide) (by decide) (Nat.le_of_ble_eq_true rfl) (Nat.le_of_ble_eq_true rfl) rfl (Nat.le_of_ble_eq_true rfl) dX6_change_38 (fun L_54 f_55 h_56 => ?_)
      obtain ⟨rfl, hW_57, hF_58⟩ := h_56
      have hf_59 := hF_58.at hf_42 rfl
      have hf_60 := hF_58.at e_50 rfl
      refine v_aload_n hC dX6_change_41 rfl ?_
      refine v_dup hC dX6_change_42 rfl ?_
      refine v_get hC fl_X6_69 m_3 hf_59 rfl dX6_change_43 ?_
      refine v_aload_n hC dX6_change_46 rfl ?_
      refine v_iload_n hC dX6_change_47 rfl ?_
      refine v_vi hC (rest := [.int v_38, .ref a_0]) m_3 hf_59 rfl mi_X6_runsAt ms_X6_runsAt (p_X6_runsAt hW_57 k_0) mx_X6_runsAt ml_X6_93 (by decide) rfl (cells1 := 0) (slots1 := 0) (by decide) (by decide) (Nat.le_of_ble_eq_true rfl) (Nat.le_of_ble_eq_true rfl) rfl (Nat.le_of_ble_eq_true rfl) dX6_change_48 (fun r_61 L_62 f_63 h_64 => ?_)
      obtain ⟨rfl, rfl, b_65, h_66⟩ := h_64
      obtain ⟨v_69, h_70⟩ : ∃ v9 : Int32, v_38 + r_61 = v9 := ⟨_, rfl⟩
      refine v_iadd hC dX6_change_51 h_70 ?_
      refine v_put hC fl_X6_69 m_3 hf_59 rfl rfl (Nat.le_of_ble_eq_true rfl) (fs' := [.ref q_5, .ref q_6, .ref q_7, .ref q_8, .ref q_9, .int v_16, .int v_17, .int v_19, .int v_21, .int v_69]) rfl dX6_change_52 (fun f_72 hf_73 hk_74 => ?_)
      have hW_75 := hW_57.up hf_73 hk_74 t_4 ⟨v_16, v_17, v_19, v_21, v_69, rfl, (by first | omega | (simp only [Int32.lt_iff_toInt_lt, Int32.le_iff_toInt_le, Int32.reduceToInt, ← Int32.toInt_inj, true_and, and_true, or_true, true_or, false_or, or_false, false_and, and_false, not_true_eq_false, not_false_eq_true] <;> omega)), (by first | omega | (simp only [Int32.lt_iff_toInt_lt, Int32.le_iff_toInt_le, Int32.reduceToInt, ← Int32.toInt_inj, true_and, and_true, or_true, true_or, false_or, or_false, false_and, and_false, not_true_eq_false, not_false_eq_true] <;> omega))⟩
      have hf_76 := (hk_74 q_5 (ne_kd hf_60 hf_59 rfl)).trans hf_60
      have fr_77 := FR.w hk_74 hf_59 (k := 6) rfl
      refine v_aload_n hC dX6_change_55 rfl ?_
      refine v_iload_n hC dX6_change_56 rfl ?_
      refine v_iconst hC dX6_change_57 (v := 1) (by decide) ?_
      refine v_vv hC (rest := []) m_3 hf_73 rfl mi_X6_addStitch ms_X6_addStitch (p_X6_addStitch hW_75 k_0) mx_X6_addStitch ml_X6_76 (by decide) rfl (cells1 := 0) (slots1 := 0) (by decide) (by decide) (Nat.le_of_ble_eq_true rfl) (Nat.le_of_ble_eq_true rfl) rfl (Nat.le_of_ble_eq_true rfl) dX6_change_58 (fun L_79 f_80 h_81 => ?_)
      obtain ⟨rfl, hW_82, hF_83⟩ := h_81
      have hf_84 := hF_83.at hf_76 rfl
      have hf_85 := hF_83.at hf_73 rfl
      exact hR _ _ _ _ _ _ dX6_change_61 (Nat.le_of_ble_eq_true rfl) (Nat.le_of_ble_eq_true rfl) ⟨rfl, hW_82, (((((hF_28.tr fr_45).tr hF_58).tr fr_77).tr hF_83).mono rfl)⟩
    · simp only [Int32.lt_iff_toInt_lt, Int32.le_iff_toInt_le, Int32.reduceToInt, ← Int32.toInt_inj] at h_2
      exact hR _ _ _ _ _ _ dX6_change_11 (Nat.le_of_ble_eq_true rfl) (Nat.le_of_ble_eq_true rfl) ⟨rfl, hW, FR.rf⟩
set_option maxRecDepth 100000 in
set_option maxHeartbeats 8000000 in
theorem p_X5_isThere {l : Launch} {E : Ez} {L : List Nat} {f : Nat → va_E} {T : Nat → va_E → Prop} {a_0 : Nat} (hW : WT T L f) (k_0 : isSlot T L E a_0) : CI l yX5_isThere cX5_isThere 1 .boolean 0 0 0 E [.ref a_0] L f (fun r L1 f1 => L = L1 ∧ f = f1 ∧ (0 ≤ r.toInt ∧ r.toInt ≤ 1) ∧ ((r.toInt = 1 ∧ ¬ fld (f a_0) 1 = -1) ∨ (r.toInt = 0 ∧ fld (f a_0) 1 = -1))) := by
  refine ci_of (by decide) (Nat.le_of_ble_eq_true rfl) (fun z hz hnm hC hR => ?_)
  have hC : Cx z E cX5_isThere RX5 1 0 0 0 := hC
  subst hz
  show V z E 1 0 0 L f 0 [(0, .ref a_0)] []
  obtain ⟨m_1, q_3, t_2, k_4⟩ := id k_0
  obtain ⟨v_6, v_8, e_5, b_7, b_9⟩ := hW.at m_1 t_2
  have fz_10 : fld (f a_0) 1 = v_6.toInt := by rw [e_5]; rfl
  have fz_11 : fld (f a_0) 2 = v_8.toInt := by rw [e_5]; rfl
  refine v_aload_n hC dX5_isThere_0 rfl ?_
  refine v_get hC fl_X5_15 m_1 e_5 rfl dX5_isThere_1 ?_
  refine v_iconst hC dX5_isThere_4 (v := (-1)) (by decide) ?_
  refine v_icmp_eq hC dX5_isThere_5 (tgt := 12) (by decide) (fun h_12 => ?_) (fun h_12 => ?_)
  · simp only [Int32.lt_iff_toInt_lt, Int32.le_iff_toInt_le, Int32.reduceToInt, ← Int32.toInt_inj] at h_12
    refine v_iconst hC dX5_isThere_12 (v := 0) (by decide) ?_
    exact hR _ _ _ _ _ _ _ dX5_isThere_13 rfl (Nat.le_of_ble_eq_true rfl) (Nat.le_of_ble_eq_true rfl) ⟨rfl, rfl, (by decide), (by first | omega | (simp only [Int32.lt_iff_toInt_lt, Int32.le_iff_toInt_le, Int32.reduceToInt, ← Int32.toInt_inj, true_and, and_true, or_true, true_or, false_or, or_false, false_and, and_false, not_true_eq_false, not_false_eq_true] <;> omega))⟩
  · simp only [Int32.lt_iff_toInt_lt, Int32.le_iff_toInt_le, Int32.reduceToInt, ← Int32.toInt_inj] at h_12
    refine v_iconst hC dX5_isThere_8 (v := 1) (by decide) ?_
    refine v_goto hC dX5_isThere_9 (tgt := 13) (by decide) ?_
    exact hR _ _ _ _ _ _ _ dX5_isThere_13 rfl (Nat.le_of_ble_eq_true rfl) (Nat.le_of_ble_eq_true rfl) ⟨rfl, rfl, (by decide), (by first | omega | (simp only [Int32.lt_iff_toInt_lt, Int32.le_iff_toInt_le, Int32.reduceToInt, ← Int32.toInt_inj, true_and, and_true, or_true, true_or, false_or, or_false, false_and, and_false, not_true_eq_false, not_false_eq_true] <;> omega))⟩
set_option maxRecDepth 100000 in
set_option maxHeartbeats 8000000 in
theorem p_J7_fill_d0a16 {l : Launch} {E : Ez} {L : List Nat} {f : Nat → va_E} {T : Nat → va_E → Prop} {a_0 : Nat} {a_1 : Int64} (hW : WT T L f) (k_0 : isJ T L E 60 a_0) : CV l yJ7_fill_d0a16 cJ7_fill_d0a16 5 0 0 0 E [.ref a_0, .long a_1] L f (fun L1 f1 => L = L1 ∧ WT T L f1 ∧ FR [160] f f1) := by
  refine cv_of (by decide) (Nat.le_of_ble_eq_true rfl) (fun z hz hnm hC hR => ?_)
  have hC : Cx z E cJ7_fill_d0a16 RJ7 5 0 0 0 := hC
  subst hz
  show V z E 5 0 0 L f 0 [(0, .ref a_0), (1, .long a_1)] []
  refine v_iconst hC dJ7_fill_d0a16_0 (v := 0) (by decide) ?_
  refine v_istore_n hC dJ7_fill_d0a16_1 (by decide) (lv' := [(3, .int 0), (0, .ref a_0), (1, .long a_1)]) rfl ?_
  refine v_aload_n hC dJ7_fill_d0a16_2 rfl ?_
  obtain ⟨m_1, t_2⟩ := id k_0
  obtain ⟨g_4, e_3⟩ := hW.at m_1 t_2
  refine v_alen hC m_1 e_3 (t := 2) rfl (v := 60) rfl dJ7_fill_d0a16_3 ?_
  refine v_istore hC dJ7_fill_d0a16_4 (by decide) (lv' := [(4, .int 60), (3, .int 0), (0, .ref a_0), (1, .long a_1)]) rfl ?_
  have lp_75 : ∀ (n_76 : Nat) (f_71 : Nat → va_E) (hW_72 : WT T L f_71) (hF_73 : FR [160] f f_71) (i_70 : Int32) (b_74 : (0 ≤ i_70.toInt ∧ i_70.toInt ≤ 60)) (hm_78 : 60 - i_70.toInt < (n_76 : Int)), V z E 5 0 0 L f_71 6 [(4, .int 60), (3, .int i_70), (0, .ref a_0), (1, .long a_1)] [] := by
    intro n_76
    induction n_76 with
    | zero =>
      intro f_71 hW_72 hF_73 i_70 b_74 hm_78
      exfalso; omega
    | succ n_76 ih_77 =>
      intro f_71 hW_72 hF_73 i_70 b_74 hm_78
      refine v_iload_n hC dJ7_fill_d0a16_6 rfl ?_
      refine v_iload hC dJ7_fill_d0a16_7 rfl ?_
      refine v_icmp_ge hC dJ7_fill_d0a16_9 (tgt := 22) (by decide) (fun h_79 => ?_) (fun h_79 => ?_)
      · simp only [Int32.lt_iff_toInt_lt, Int32.le_iff_toInt_le, Int32.reduceToInt, ← Int32.toInt_inj] at h_79
        exact hR _ _ _ _ _ _ dJ7_fill_d0a16_22 (Nat.le_of_ble_eq_true rfl) (Nat.le_of_ble_eq_true rfl) ⟨rfl, hW_72, (hF_73.mono rfl)⟩
      · simp only [Int32.lt_iff_toInt_lt, Int32.le_iff_toInt_le, Int32.reduceToInt, ← Int32.toInt_inj] at h_79
        refine v_aload_n hC dJ7_fill_d0a16_12 rfl ?_
        refine v_iload_n hC dJ7_fill_d0a16_13 rfl ?_
        refine v_lload_n hC dJ7_fill_d0a16_14 rfl ?_
        obtain ⟨g_81, e_80⟩ := hW_72.at m_1 t_2
        refine v_last hC m_1 e_80 (vp_in_iff.mpr (by first | omega | (simp only [Int32.lt_iff_toInt_lt, Int32.le_iff_toInt_le, Int32.reduceToInt, ← Int32.toInt_inj, true_and, and_true, or_true, true_or, false_or, or_false, false_and, and_false, not_true_eq_false, not_false_eq_true] <;> omega))) dJ7_fill_d0a16_15 (fun f_82 hf_83 hk_84 => ?_)
        have hW_86 := hW_72.up hf_83 hk_84 t_2 ⟨_, rfl⟩
        obtain ⟨g_85, hf_83⟩ : ∃ g9, f_82 a_0 = aJ E 60 g9 := ⟨_, hf_83⟩
        have fr_87 := FR.w hk_84 e_80 (k := 160) rfl
        obtain ⟨v_88, h_89⟩ : ∃ v9 : Int32, i_70 + Int32.ofInt 1 = v9 := ⟨_, rfl⟩
        have h_90 := add_v (b := 1) h_89 (by first | omega | (simp only [Int32.lt_iff_toInt_lt, Int32.le_iff_toInt_le, Int32.reduceToInt, ← Int32.toInt_inj, true_and, and_true, or_true, true_or, false_or, or_false, false_and, and_false, not_true_eq_false, not_false_eq_true] <;> omega)) (by first | omega | (simp only [Int32.lt_iff_toInt_lt, Int32.le_iff_toInt_le, Int32.reduceToInt, ← Int32.toInt_inj, true_and, and_true, or_true, true_or, false_or, or_false, false_and, and_false, not_true_eq_false, not_false_eq_true] <;> omega))
        simp only [Int32.reduceToInt] at h_90
        refine v_iinc hC dJ7_fill_d0a16_16 (k := 1) rfl (v := v_88) h_89 (by decide) (lv' := [(3, .int v_88), (4, .int 60), (0, .ref a_0), (1, .long a_1)]) rfl ?_
        refine v_goto hC dJ7_fill_d0a16_19 (tgt := 6) (by decide) ?_
        refine v_pick [1, 0, 2, 3] rfl ?_
        exact ih_77 f_82 hW_86 ((hF_73.tr fr_87).mono rfl) v_88 (by first | omega | (simp only [Int32.lt_iff_toInt_lt, Int32.le_iff_toInt_le, Int32.reduceToInt, ← Int32.toInt_inj, true_and, and_true, or_true, true_or, false_or, or_false, false_and, and_false, not_true_eq_false, not_false_eq_true] <;> omega)) (by first | omega | (simp only [Int32.lt_iff_toInt_lt, Int32.le_iff_toInt_le, Int32.reduceToInt, ← Int32.toInt_inj, true_and, and_true, or_true, true_or, false_or, or_false, false_and, and_false, not_true_eq_false, not_false_eq_true] <;> omega))
  refine v_pick [0, 1, 2, 3] rfl ?_
  exact lp_75 62 f hW FR.rf 0 (by decide) (by decide)
set_option maxRecDepth 100000 in
set_option maxHeartbeats 8000000 in
theorem p_X5_begin {l : Launch} {E : Ez} {L : List Nat} {f : Nat → va_E} {T : Nat → va_E → Prop} {a_0 : Nat} {a_1 : Int32} {a_2 : Int32} (hW : WT T L f) (k_0 : isSlot T L E a_0) (g_1 : (0 ≤ a_1.toInt ∧ a_1.toInt ≤ 3)) (g_2 : (0 ≤ a_2.toInt ∧ a_2.toInt ≤ 60)) : CV l yX5_begin cX5_begin 3 1 0 0 E [.ref a_0, .int a_1, .int a_2] L f (fun L1 f1 => L = L1 ∧ WT T L f1 ∧ FR [5, 160] f f1 ∧ (fld (f1 a_0) 1 = a_1.toInt ∧ fld (f1 a_0) 2 = a_2.toInt ∧ ∀ (b : Nat) (c : List Value), b ≠ a_0 → f b = ob 5 c → f1 b = ob 5 c)) := by
  refine cv_of (by decide) (Nat.le_of_ble_eq_true rfl) (fun z hz hnm hC hR => ?_)
  have hC : Cx z E cX5_begin RX5 3 1 0 0 := hC
  subst hz
  show V z E 3 0 0 L f 0 [(0, .ref a_0), (1, .int a_1), (2, .int a_2)] []
  refine v_aload_n hC dX5_begin_0 rfl ?_
  refine v_iload_n hC dX5_begin_1 rfl ?_
  obtain ⟨m_1, q_3, t_2, k_4⟩ := id k_0
  obtain ⟨v_6, v_8, e_5, b_7, b_9⟩ := hW.at m_1 t_2
  refine v_put hC fl_X5_15 m_1 e_5 rfl rfl (Nat.le_of_ble_eq_true rfl) (fs' := [.ref q_3, .int a_1, .int v_8]) rfl dX5_begin_2 (fun f_10 hf_11 hk_12 => ?_)
  have hW_13 := hW.up hf_11 hk_12 t_2 ⟨a_1, v_8, rfl, (by first | omega | (simp only [Int32.lt_iff_toInt_lt, Int32.le_iff_toInt_le, Int32.reduceToInt, ← Int32.toInt_inj, true_and, and_true, or_true, true_or, false_or, or_false, false_and, and_false, not_true_eq_false, not_false_eq_true] <;> omega)), (by first | omega | (simp only [Int32.lt_iff_toInt_lt, Int32.le_iff_toInt_le, Int32.reduceToInt, ← Int32.toInt_inj, true_and, and_true, or_true, true_or, false_or, or_false, false_and, and_false, not_true_eq_false, not_false_eq_true] <;> omega))⟩
  have fr_14 := FR.w hk_12 e_5 (k := 5) rfl
  refine v_aload_n hC dX5_begin_5 rfl ?_
  refine v_iload_n hC dX5_begin_6 rfl ?_
  refine v_put hC fl_X5_19 m_1 hf_11 rfl rfl (Nat.le_of_ble_eq_true rfl) (fs' := [.ref q_3, .int a_1, .int a_2]) rfl dX5_begin_7 (fun f_15 hf_16 hk_17 => ?_)
  have hW_18 := hW_13.up hf_16 hk_17 t_2 ⟨a_1, a_2, rfl, (by first | omega | (simp only [Int32.lt_iff_toInt_lt, Int32.le_iff_toInt_le, Int32.reduceToInt, ← Int32.toInt_inj, true_and, and_true, or_true, true_or, false_or, or_false, false_and, and_false, not_true_eq_false, not_false_eq_true] <;> omega)), (by first | omega | (simp only [Int32.lt_iff_toInt_lt, Int32.le_iff_toInt_le, Int32.reduceToInt, ← Int32.toInt_inj, true_and, and_true, or_true, true_or, false_or, or_false, false_and, and_false, not_true_eq_false, not_false_eq_true] <;> omega))⟩
  have fr_19 := FR.w hk_17 hf_11 (k := 5) rfl
  refine v_aload_n hC dX5_begin_10 rfl ?_
  refine v_get hC fl_X5_9 m_1 hf_16 rfl dX5_begin_11 ?_
  refine v_lconst hC dX5_begin_14 (v := 0) (by decide) ?_
  refine v_sv hC (rest := []) mt_J7_fill_d0a16 (p_J7_fill_d0a16 hW_18 k_4) mx_J7_fill_d0a16 ml_X5_22 (by decide) rfl (cells1 := 0) (slots1 := 0) (by decide) (by decide) (Nat.le_of_ble_eq_true rfl) (Nat.le_of_ble_eq_true rfl) rfl (Nat.le_of_ble_eq_true rfl) dX5_begin_15 (fun L_21 f_22 h_23 => ?_)
  obtain ⟨rfl, hW_24, hF_25⟩ := h_23
  have hf_26 := hF_25.at hf_16 rfl
  exact hR _ _ _ _ _ _ dX5_begin_18 (Nat.le_of_ble_eq_true rfl) (Nat.le_of_ble_eq_true rfl) ⟨rfl, hW_24, (((fr_14.tr fr_19).tr hF_25).mono rfl), ⟨(by rw [hf_26]; rfl), (by rw [hf_26]; rfl), fun b9 c9 n9 e9 => hF_25.at ((hk_17 b9 n9).trans ((hk_12 b9 n9).trans e9)) rfl⟩⟩
set_option maxRecDepth 100000 in
set_option maxHeartbeats 8000000 in
theorem p_X5_has {l : Launch} {E : Ez} {L : List Nat} {f : Nat → va_E} {T : Nat → va_E → Prop} {a_0 : Nat} {a_1 : Int32} {a_2 : Int32} (hW : WT T L f) (k_0 : isSlot T L E a_0) : CI l yX5_has cX5_has 3 .boolean 0 0 0 E [.ref a_0, .int a_1, .int a_2] L f (fun r L1 f1 => L = L1 ∧ f = f1 ∧ (0 ≤ r.toInt ∧ r.toInt ≤ 1) ∧ (r.toInt = 0 ∨ (0 ≤ a_1.toInt ∧ a_1.toInt ≤ 60)) ∧ (r.toInt = 0 ∨ (0 ≤ a_2.toInt ∧ a_2.toInt ≤ 60)) ∧ (r.toInt = 0 ∨ (0 ≤ a_1.toInt ∧ 0 ≤ a_2.toInt ∧ a_1.toInt + a_2.toInt ≤ 60)) ∧ ((r.toInt = 1 ∧ 0 ≤ a_1.toInt ∧ 0 ≤ a_2.toInt ∧ a_1.toInt + a_2.toInt ≤ fld (f a_0) 2) ∨ (r.toInt = 0 ∧ (a_1.toInt < 0 ∨ a_2.toInt < 0 ∨ fld (f a_0) 2 < a_1.toInt + a_2.toInt)))) := by
  refine ci_of (by decide) (Nat.le_of_ble_eq_true rfl) (fun z hz hnm hC hR => ?_)
  have hC : Cx z E cX5_has RX5 3 0 0 0 := hC
  subst hz
  show V z E 3 0 0 L f 0 [(0, .ref a_0), (1, .int a_1), (2, .int a_2)] []
  obtain ⟨m_1, q_3, t_2, k_4⟩ := id k_0
  obtain ⟨v_6, v_8, e_5, b_7, b_9⟩ := hW.at m_1 t_2
  have fz_10 : fld (f a_0) 1 = v_6.toInt := by rw [e_5]; rfl
  have fz_11 : fld (f a_0) 2 = v_8.toInt := by rw [e_5]; rfl
  refine v_iload_n hC dX5_has_0 rfl ?_
  refine v_if_lt hC dX5_has_1 (tgt := 30) (by decide) (fun h_12 => ?_) (fun h_12 => ?_)
  · simp only [Int32.lt_iff_toInt_lt, Int32.le_iff_toInt_le, Int32.reduceToInt, ← Int32.toInt_inj] at h_12
    refine v_iconst hC dX5_has_30 (v := 0) (by decide) ?_
    exact hR _ _ _ _ _ _ _ dX5_has_31 rfl (Nat.le_of_ble_eq_true rfl) (Nat.le_of_ble_eq_true rfl) ⟨rfl, rfl, (by decide), (.inl (by decide)), (.inl (by decide)), (.inl (by decide)), (by first | omega | (simp only [Int32.lt_iff_toInt_lt, Int32.le_iff_toInt_le, Int32.reduceToInt, ← Int32.toInt_inj, true_and, and_true, or_true, true_or, false_or, or_false, false_and, and_false, not_true_eq_false, not_false_eq_true] <;> omega))⟩
  · simp only [Int32.lt_iff_toInt_lt, Int32.le_iff_toInt_le, Int32.reduceToInt, ← Int32.toInt_inj] at h_12
    refine v_iload_n hC dX5_has_4 rfl ?_
    refine v_if_lt hC dX5_has_5 (tgt := 30) (by decide) (fun h_13 => ?_) (fun h_13 => ?_)
    · simp only [Int32.lt_iff_toInt_lt, Int32.le_iff_toInt_le, Int32.reduceToInt, ← Int32.toInt_inj] at h_13
      refine v_iconst hC dX5_has_30 (v := 0) (by decide) ?_
      exact hR _ _ _ _ _ _ _ dX5_has_31 rfl (Nat.le_of_ble_eq_true rfl) (Nat.le_of_ble_eq_true rfl) ⟨rfl, rfl, (by decide), (.inl (by decide)), (.inl (by decide)), (.inl (by decide)), (by first | omega | (simp only [Int32.lt_iff_toInt_lt, Int32.le_iff_toInt_le, Int32.reduceToInt, ← Int32.toInt_inj, true_and, and_true, or_true, true_or, false_or, or_false, false_and, and_false, not_true_eq_false, not_false_eq_true] <;> omega))⟩
    · simp only [Int32.lt_iff_toInt_lt, Int32.le_iff_toInt_le, Int32.reduceToInt, ← Int32.toInt_inj] at h_13
      refine v_iload_n hC dX5_has_8 rfl ?_
      refine v_aload_n hC dX5_has_9 rfl ?_
      refine v_get hC fl_X5_19 m_1 e_5 rfl dX5_has_10 ?_
      refine v_icmp_gt hC dX5_has_13 (tgt := 30) (by decide) (fun h_14 => ?_) (fun h_14 => ?_)
      · simp only [Int32.lt_iff_toInt_lt, Int32.le_iff_toInt_le, Int32.reduceToInt, ← Int32.toInt_inj] at h_14
        refine v_iconst hC dX5_has_30 (v := 0) (by decide) ?_
        exact hR _ _ _ _ _ _ _ dX5_has_31 rfl (Nat.le_of_ble_eq_true rfl) (Nat.le_of_ble_eq_true rfl) ⟨rfl, rfl, (by decide), (.inl (by decide)), (.inl (by decide)), (.inl (by decide)), (by first | omega | (simp only [Int32.lt_iff_toInt_lt, Int32.le_iff_toInt_le, Int32.reduceToInt, ← Int32.toInt_inj, true_and, and_true, or_true, true_or, false_or, or_false, false_and, and_false, not_true_eq_false, not_false_eq_true] <;> omega))⟩
      · simp only [Int32.lt_iff_toInt_lt, Int32.le_iff_toInt_le, Int32.reduceToInt, ← Int32.toInt_inj] at h_14
        refine v_iload_n hC dX5_has_16 rfl ?_
        refine v_aload_n hC dX5_has_17 rfl ?_
        refine v_get hC fl_X5_19 m_1 e_5 rfl dX5_has_18 ?_
        refine v_iload_n hC dX5_has_21 rfl ?_
        obtain ⟨v_15, h_16⟩ : ∃ v9 : Int32, v_8 - a_1 = v9 := ⟨_, rfl⟩
        refine v_isub hC dX5_has_22 h_16 ?_
        have h_17 := sub_v h_16 (by first | omega | (simp only [Int32.lt_iff_toInt_lt, Int32.le_iff_toInt_le, Int32.reduceToInt, ← Int32.toInt_inj, true_and, and_true, or_true, true_or, false_or, or_false, false_and, and_false, not_true_eq_false, not_false_eq_true] <;> omega)) (by first | omega | (simp only [Int32.lt_iff_toInt_lt, Int32.le_iff_toInt_le, Int32.reduceToInt, ← Int32.toInt_inj, true_and, and_true, or_true, true_or, false_or, or_false, false_and, and_false, not_true_eq_false, not_false_eq_true] <;> omega))
        refine v_icmp_gt hC dX5_has_23 (tgt := 30) (by decide) (fun h_18 => ?_) (fun h_18 => ?_)
        · simp only [Int32.lt_iff_toInt_lt, Int32.le_iff_toInt_le, Int32.reduceToInt, ← Int32.toInt_inj] at h_18
          refine v_iconst hC dX5_has_30 (v := 0) (by decide) ?_
          exact hR _ _ _ _ _ _ _ dX5_has_31 rfl (Nat.le_of_ble_eq_true rfl) (Nat.le_of_ble_eq_true rfl) ⟨rfl, rfl, (by decide), (.inl (by decide)), (.inl (by decide)), (.inl (by decide)), (by first | omega | (simp only [Int32.lt_iff_toInt_lt, Int32.le_iff_toInt_le, Int32.reduceToInt, ← Int32.toInt_inj, true_and, and_true, or_true, true_or, false_or, or_false, false_and, and_false, not_true_eq_false, not_false_eq_true] <;> omega))⟩
        · simp only [Int32.lt_iff_toInt_lt, Int32.le_iff_toInt_le, Int32.reduceToInt, ← Int32.toInt_inj] at h_18
          refine v_iconst hC dX5_has_26 (v := 1) (by decide) ?_
          refine v_goto hC dX5_has_27 (tgt := 31) (by decide) ?_
          exact hR _ _ _ _ _ _ _ dX5_has_31 rfl (Nat.le_of_ble_eq_true rfl) (Nat.le_of_ble_eq_true rfl) ⟨rfl, rfl, (by decide), (.inr (by first | omega | (simp only [Int32.lt_iff_toInt_lt, Int32.le_iff_toInt_le, Int32.reduceToInt, ← Int32.toInt_inj, true_and, and_true, or_true, true_or, false_or, or_false, false_and, and_false, not_true_eq_false, not_false_eq_true] <;> omega))), (.inr (by first | omega | (simp only [Int32.lt_iff_toInt_lt, Int32.le_iff_toInt_le, Int32.reduceToInt, ← Int32.toInt_inj, true_and, and_true, or_true, true_or, false_or, or_false, false_and, and_false, not_true_eq_false, not_false_eq_true] <;> omega))), (by first | omega | (simp only [Int32.lt_iff_toInt_lt, Int32.le_iff_toInt_le, Int32.reduceToInt, ← Int32.toInt_inj, true_and, and_true, or_true, true_or, false_or, or_false, false_and, and_false, not_true_eq_false, not_false_eq_true] <;> omega)), (by first | omega | (simp only [Int32.lt_iff_toInt_lt, Int32.le_iff_toInt_le, Int32.reduceToInt, ← Int32.toInt_inj, true_and, and_true, or_true, true_or, false_or, or_false, false_and, and_false, not_true_eq_false, not_false_eq_true] <;> omega))⟩
set_option maxRecDepth 100000 in
set_option maxHeartbeats 8000000 in
theorem p_X5_cutToWidth {l : Launch} {E : Ez} {L : List Nat} {f : Nat → va_E} {T : Nat → va_E → Prop} {a_0 : Nat} {a_1 : Int64} (hW : WT T L f) (k_0 : isSlot T L E a_0) : CJ l yX5_cutToWidth cX5_cutToWidth 3 0 0 0 E [.ref a_0, .long a_1] L f (fun r L1 f1 => L = L1 ∧ f = f1) := by
  refine cj_of (by decide) (Nat.le_of_ble_eq_true rfl) (fun z hz hnm hC hR => ?_)
  have hC : Cx z E cX5_cutToWidth RX5 3 0 0 0 := hC
  subst hz
  show V z E 3 0 0 L f 0 [(0, .ref a_0), (1, .long a_1)] []
  refine v_aload_n hC dX5_cutToWidth_0 rfl ?_
  obtain ⟨m_1, q_3, t_2, k_4⟩ := id k_0
  obtain ⟨v_6, v_8, e_5, b_7, b_9⟩ := hW.at m_1 t_2
  refine v_get hC fl_X5_15 m_1 e_5 rfl dX5_cutToWidth_1 ?_
  by_cases h_10 : v_6 = 0
  · refine v_tableIn hC dX5_cutToWidth_4 (off := 28) (tgt := 32) (by rw [h_10]; decide) (by rw [h_10]; decide) (by rw [h_10]; rfl) (by decide) ?_
    simp only [Int32.lt_iff_toInt_lt, Int32.le_iff_toInt_le, Int32.reduceToInt, ← Int32.toInt_inj] at h_10
    refine v_lload_n hC dX5_cutToWidth_32 rfl ?_
    obtain ⟨v_13, h_14⟩ : ∃ v9 : Int32, a_1.toInt32 = v9 := ⟨_, rfl⟩
    refine v_l2i hC dX5_cutToWidth_33 h_14 ?_
    obtain ⟨v_15, h_16⟩ : ∃ v9 : Int32, v_13.toInt8.toInt32 = v9 := ⟨_, rfl⟩
    refine v_i2b hC dX5_cutToWidth_34 h_16 ?_
    obtain ⟨v_17, h_18⟩ : ∃ v9 : Int64, v_15.toInt64 = v9 := ⟨_, rfl⟩
    refine v_i2l hC dX5_cutToWidth_35 h_18 ?_
    have h_19 : v_17.toInt = v_15.toInt := by rw [← h_18]; exact Int32.toInt_toInt64 _
    exact hR _ _ _ _ _ _ _ dX5_cutToWidth_36 (Nat.le_of_ble_eq_true rfl) (Nat.le_of_ble_eq_true rfl) ⟨rfl, rfl⟩
  by_cases h_11 : v_6 = 1
  · refine v_tableIn hC dX5_cutToWidth_4 (off := 33) (tgt := 37) (by rw [h_11]; decide) (by rw [h_11]; decide) (by rw [h_11]; rfl) (by decide) ?_
    simp only [Int32.lt_iff_toInt_lt, Int32.le_iff_toInt_le, Int32.reduceToInt, ← Int32.toInt_inj] at h_11
    refine v_lload_n hC dX5_cutToWidth_37 rfl ?_
    obtain ⟨v_20, h_21⟩ : ∃ v9 : Int32, a_1.toInt32 = v9 := ⟨_, rfl⟩
    refine v_l2i hC dX5_cutToWidth_38 h_21 ?_
    obtain ⟨v_22, h_23⟩ : ∃ v9 : Int32, v_20.toInt16.toInt32 = v9 := ⟨_, rfl⟩
    refine v_i2s hC dX5_cutToWidth_39 h_23 ?_
    obtain ⟨v_24, h_25⟩ : ∃ v9 : Int64, v_22.toInt64 = v9 := ⟨_, rfl⟩
    refine v_i2l hC dX5_cutToWidth_40 h_25 ?_
    have h_26 : v_24.toInt = v_22.toInt := by rw [← h_25]; exact Int32.toInt_toInt64 _
    exact hR _ _ _ _ _ _ _ dX5_cutToWidth_41 (Nat.le_of_ble_eq_true rfl) (Nat.le_of_ble_eq_true rfl) ⟨rfl, rfl⟩
  by_cases h_12 : v_6 = 2
  · refine v_tableIn hC dX5_cutToWidth_4 (off := 38) (tgt := 42) (by rw [h_12]; decide) (by rw [h_12]; decide) (by rw [h_12]; rfl) (by decide) ?_
    simp only [Int32.lt_iff_toInt_lt, Int32.le_iff_toInt_le, Int32.reduceToInt, ← Int32.toInt_inj] at h_12
    refine v_lload_n hC dX5_cutToWidth_42 rfl ?_
    obtain ⟨v_27, h_28⟩ : ∃ v9 : Int32, a_1.toInt32 = v9 := ⟨_, rfl⟩
    refine v_l2i hC dX5_cutToWidth_43 h_28 ?_
    obtain ⟨v_29, h_30⟩ : ∃ v9 : Int64, v_27.toInt64 = v9 := ⟨_, rfl⟩
    refine v_i2l hC dX5_cutToWidth_44 h_30 ?_
    have h_31 : v_29.toInt = v_27.toInt := by rw [← h_30]; exact Int32.toInt_toInt64 _
    exact hR _ _ _ _ _ _ _ dX5_cutToWidth_45 (Nat.le_of_ble_eq_true rfl) (Nat.le_of_ble_eq_true rfl) ⟨rfl, rfl⟩
  simp only [Int32.lt_iff_toInt_lt, Int32.le_iff_toInt_le, Int32.reduceToInt, ← Int32.toInt_inj] at h_10 h_11 h_12
  refine v_tableOut hC dX5_cutToWidth_4 (tgt := 46) (by omega) (by decide) ?_
  refine v_lload_n hC dX5_cutToWidth_46 rfl ?_
  exact hR _ _ _ _ _ _ _ dX5_cutToWidth_47 (Nat.le_of_ble_eq_true rfl) (Nat.le_of_ble_eq_true rfl) ⟨rfl, rfl⟩
set_option maxRecDepth 100000 in
set_option maxHeartbeats 8000000 in
theorem p_X5_set {l : Launch} {E : Ez} {L : List Nat} {f : Nat → va_E} {T : Nat → va_E → Prop} {a_0 : Nat} {a_1 : Int32} {a_2 : Int64} (hW : WT T L f) (k_0 : isSlot T L E a_0) : CV l yX5_set cX5_set 4 1 0 0 E [.ref a_0, .int a_1, .long a_2] L f (fun L1 f1 => L = L1 ∧ WT T L f1 ∧ FR [160] f f1) := by
  refine cv_of (by decide) (Nat.le_of_ble_eq_true rfl) (fun z hz hnm hC hR => ?_)
  have hC : Cx z E cX5_set RX5 4 1 0 0 := hC
  subst hz
  show V z E 4 0 0 L f 0 [(0, .ref a_0), (1, .int a_1), (2, .long a_2)] []
  refine v_iload_n hC dX5_set_0 rfl ?_
  refine v_if_lt hC dX5_set_1 (tgt := 21) (by decide) (fun h_1 => ?_) (fun h_1 => ?_)
  · simp only [Int32.lt_iff_toInt_lt, Int32.le_iff_toInt_le, Int32.reduceToInt, ← Int32.toInt_inj] at h_1
    exact hR _ _ _ _ _ _ dX5_set_21 (Nat.le_of_ble_eq_true rfl) (Nat.le_of_ble_eq_true rfl) ⟨rfl, hW, FR.rf⟩
  · simp only [Int32.lt_iff_toInt_lt, Int32.le_iff_toInt_le, Int32.reduceToInt, ← Int32.toInt_inj] at h_1
    refine v_iload_n hC dX5_set_4 rfl ?_
    refine v_bipush hC dX5_set_5 (v := 60) (by decide) ?_
    refine v_icmp_ge hC dX5_set_7 (tgt := 21) (by decide) (fun h_2 => ?_) (fun h_2 => ?_)
    · simp only [Int32.lt_iff_toInt_lt, Int32.le_iff_toInt_le, Int32.reduceToInt, ← Int32.toInt_inj] at h_2
      exact hR _ _ _ _ _ _ dX5_set_21 (Nat.le_of_ble_eq_true rfl) (Nat.le_of_ble_eq_true rfl) ⟨rfl, hW, FR.rf⟩
    · simp only [Int32.lt_iff_toInt_lt, Int32.le_iff_toInt_le, Int32.reduceToInt, ← Int32.toInt_inj] at h_2
      refine v_aload_n hC dX5_set_10 rfl ?_
      obtain ⟨m_3, q_5, t_4, k_6⟩ := id k_0
      obtain ⟨v_8, v_10, e_7, b_9, b_11⟩ := hW.at m_3 t_4
      refine v_get hC fl_X5_9 m_3 e_7 rfl dX5_set_11 ?_
      refine v_iload_n hC dX5_set_14 rfl ?_
      refine v_aload_n hC dX5_set_15 rfl ?_
      refine v_lload_n hC dX5_set_16 rfl ?_
      refine v_vj hC (rest := [.int a_1, .ref q_5]) m_3 e_7 rfl mi_X5_cutToWidth ms_X5_cutToWidth (p_X5_cutToWidth hW k_0) mx_X5_cutToWidth ml_X5_28 (by decide) rfl (cells1 := 0) (slots1 := 0) (by decide) (by decide) (Nat.le_of_ble_eq_true rfl) (Nat.le_of_ble_eq_true rfl) rfl (Nat.le_of_ble_eq_true rfl) dX5_set_17 (fun r_12 L_13 f_14 h_15 => ?_)
      obtain ⟨rfl, rfl⟩ := h_15
      obtain ⟨m_18, t_19⟩ := id k_6
      obtain ⟨g_21, e_20⟩ := hW.at m_18 t_19
      refine v_last hC m_18 e_20 (vp_in_iff.mpr (by first | omega | (simp only [Int32.lt_iff_toInt_lt, Int32.le_iff_toInt_le, Int32.reduceToInt, ← Int32.toInt_inj, true_and, and_true, or_true, true_or, false_or, or_false, false_and, and_false, not_true_eq_false, not_false_eq_true] <;> omega))) dX5_set_20 (fun f_22 hf_23 hk_24 => ?_)
      have hW_26 := hW.up hf_23 hk_24 t_19 ⟨_, rfl⟩
      obtain ⟨g_25, hf_23⟩ : ∃ g9, f_22 q_5 = aJ E 60 g9 := ⟨_, hf_23⟩
      have hf_27 := (hk_24 a_0 (ne_kd e_7 e_20 rfl)).trans e_7
      have fr_28 := FR.w hk_24 e_20 (k := 160) rfl
      exact hR _ _ _ _ _ _ dX5_set_21 (Nat.le_of_ble_eq_true rfl) (Nat.le_of_ble_eq_true rfl) ⟨rfl, hW_26, (fr_28.mono rfl)⟩
set_option maxRecDepth 100000 in
set_option maxHeartbeats 8000000 in
theorem p_X5_isZero {l : Launch} {E : Ez} {L : List Nat} {f : Nat → va_E} {T : Nat → va_E → Prop} {a_0 : Nat} {a_1 : Int32} (hW : WT T L f) (k_0 : isSlot T L E a_0) : CI l yX5_isZero cX5_isZero 2 .boolean 0 0 0 E [.ref a_0, .int a_1] L f (fun r L1 f1 => L = L1 ∧ f = f1 ∧ (0 ≤ r.toInt ∧ r.toInt ≤ 1) ∧ (¬ r.toInt = 0 ∨ (0 ≤ a_1.toInt ∧ a_1.toInt ≤ 59))) := by
  refine ci_of (by decide) (Nat.le_of_ble_eq_true rfl) (fun z hz hnm hC hR => ?_)
  have hC : Cx z E cX5_isZero RX5 2 0 0 0 := hC
  subst hz
  show V z E 2 0 0 L f 0 [(0, .ref a_0), (1, .int a_1)] []
  refine v_iload_n hC dX5_isZero_0 rfl ?_
  refine v_if_lt hC dX5_isZero_1 (tgt := 21) (by decide) (fun h_1 => ?_) (fun h_1 => ?_)
  · simp only [Int32.lt_iff_toInt_lt, Int32.le_iff_toInt_le, Int32.reduceToInt, ← Int32.toInt_inj] at h_1
    refine v_iconst hC dX5_isZero_21 (v := 1) (by decide) ?_
    refine v_goto hC dX5_isZero_22 (tgt := 26) (by decide) ?_
    exact hR _ _ _ _ _ _ _ dX5_isZero_26 rfl (Nat.le_of_ble_eq_true rfl) (Nat.le_of_ble_eq_true rfl) ⟨rfl, rfl, (by decide), (.inl (by decide))⟩
  · simp only [Int32.lt_iff_toInt_lt, Int32.le_iff_toInt_le, Int32.reduceToInt, ← Int32.toInt_inj] at h_1
    refine v_iload_n hC dX5_isZero_4 rfl ?_
    refine v_bipush hC dX5_isZero_5 (v := 60) (by decide) ?_
    refine v_icmp_ge hC dX5_isZero_7 (tgt := 21) (by decide) (fun h_2 => ?_) (fun h_2 => ?_)
    · simp only [Int32.lt_iff_toInt_lt, Int32.le_iff_toInt_le, Int32.reduceToInt, ← Int32.toInt_inj] at h_2
      refine v_iconst hC dX5_isZero_21 (v := 1) (by decide) ?_
      refine v_goto hC dX5_isZero_22 (tgt := 26) (by decide) ?_
      exact hR _ _ _ _ _ _ _ dX5_isZero_26 rfl (Nat.le_of_ble_eq_true rfl) (Nat.le_of_ble_eq_true rfl) ⟨rfl, rfl, (by decide), (.inl (by decide))⟩
    · simp only [Int32.lt_iff_toInt_lt, Int32.le_iff_toInt_le, Int32.reduceToInt, ← Int32.toInt_inj] at h_2
      refine v_aload_n hC dX5_isZero_10 rfl ?_
      obtain ⟨m_3, q_5, t_4, k_6⟩ := id k_0
      obtain ⟨v_8, v_10, e_7, b_9, b_11⟩ := hW.at m_3 t_4
      refine v_get hC fl_X5_9 m_3 e_7 rfl dX5_isZero_11 ?_
      refine v_iload_n hC dX5_isZero_14 rfl ?_
      obtain ⟨m_12, t_13⟩ := id k_6
      obtain ⟨g_15, e_14⟩ := hW.at m_12 t_13
      obtain ⟨v_16, h_17⟩ : ∃ v9 : Int64, g_15 (a_1 : Int32).toNatClampNeg = v9 := ⟨_, rfl⟩
      refine v_lald hC m_12 e_14 (vp_in_iff.mpr (by first | omega | (simp only [Int32.lt_iff_toInt_lt, Int32.le_iff_toInt_le, Int32.reduceToInt, ← Int32.toInt_inj, true_and, and_true, or_true, true_or, false_or, or_false, false_and, and_false, not_true_eq_false, not_false_eq_true] <;> omega))) h_17 dX5_isZero_15 ?_
      refine v_lconst hC dX5_isZero_16 (v := 0) (by decide) ?_
      obtain ⟨v_18, h_19⟩ : ∃ v9 : Int32, lg_cmp (v_16 : Int64) 0 = v9 := ⟨_, rfl⟩
      refine v_lcmp hC dX5_isZero_17 h_19 ?_
      refine v_if_ne hC dX5_isZero_18 (tgt := 25) (by decide) (fun h_20 => ?_) (fun h_20 => ?_)
      · have h_21 := h_20
        refine v_iconst hC dX5_isZero_25 (v := 0) (by decide) ?_
        exact hR _ _ _ _ _ _ _ dX5_isZero_26 rfl (Nat.le_of_ble_eq_true rfl) (Nat.le_of_ble_eq_true rfl) ⟨rfl, rfl, (by decide), (.inr (by first | omega | (simp only [Int32.lt_iff_toInt_lt, Int32.le_iff_toInt_le, Int32.reduceToInt, ← Int32.toInt_inj, true_and, and_true, or_true, true_or, false_or, or_false, false_and, and_false, not_true_eq_false, not_false_eq_true] <;> omega)))⟩
      · have h_22 := h_20
        refine v_iconst hC dX5_isZero_21 (v := 1) (by decide) ?_
        refine v_goto hC dX5_isZero_22 (tgt := 26) (by decide) ?_
        exact hR _ _ _ _ _ _ _ dX5_isZero_26 rfl (Nat.le_of_ble_eq_true rfl) (Nat.le_of_ble_eq_true rfl) ⟨rfl, rfl, (by decide), (.inl (by decide))⟩
set_option maxRecDepth 100000 in
set_option maxHeartbeats 8000000 in
theorem p_X0_takeFrom {l : Launch} {E : Ez} {L : List Nat} {f : Nat → va_E} {T : Nat → va_E → Prop} {a_0 : Nat} {a_1 : Nat} (hW : WT T L f) (k_0 : isBas T L E a_0) (k_1 : isBas T L E a_1) : CV l yX0_takeFrom cX0_takeFrom 3 2 0 0 E [.ref a_0, .ref a_1] L f (fun L1 f1 => L = L1 ∧ WT T L f1 ∧ FR [1, 3, 4, 9, 10, 103, 112, 356, 400] f f1) := by
  refine cv_of (by decide) (Nat.le_of_ble_eq_true rfl) (fun z hz hnm hC hR => ?_)
  have hC : Cx z E cX0_takeFrom RX0 3 2 0 0 := hC
  subst hz
  show V z E 3 0 0 L f 0 [(0, .ref a_0), (1, .ref a_1)] []
  refine v_aload_n hC dX0_takeFrom_0 rfl ?_
  obtain ⟨m_1, q_3, q_4, q_5, q_6, q_7, q_8, t_2, k_9, k_10, k_11, k_12, k_13, k_14⟩ := id k_0
  have e_15 : f a_0 = ob 0 [.ref q_3, .ref q_4, .ref q_5, .ref q_6, .ref q_7, .ref q_8] := hW.at m_1 t_2
  refine v_get hC fl_X0_12 m_1 e_15 rfl dX0_takeFrom_1 ?_
  refine v_aload_n hC dX0_takeFrom_4 rfl ?_
  obtain ⟨m_16, q_18, q_19, q_20, q_21, q_22, q_23, t_17, k_24, k_25, k_26, k_27, k_28, k_29⟩ := id k_1
  have e_30 : f a_1 = ob 0 [.ref q_18, .ref q_19, .ref q_20, .ref q_21, .ref q_22, .ref q_23] := hW.at m_16 t_17
  refine v_get hC fl_X0_12 m_16 e_30 rfl dX0_takeFrom_5 ?_
  obtain ⟨m_31, q_33, q_34, t_32, k_35, k_36⟩ := id k_9
  obtain ⟨v_38, v_40, v_42, e_37, b_39, b_41, b_43⟩ := hW.at m_31 t_32
  refine v_vv hC (rest := []) m_31 e_37 rfl mi_X4_takeFrom ms_X4_takeFrom (p_X4_takeFrom hW k_9 k_24) mx_X4_takeFrom ml_X0_50 (by decide) rfl (cells1 := 0) (slots1 := 0) (by decide) (by decide) (Nat.le_of_ble_eq_true rfl) (Nat.le_of_ble_eq_true rfl) rfl (Nat.le_of_ble_eq_true rfl) dX0_takeFrom_8 (fun L_45 f_46 h_47 => ?_)
  obtain ⟨rfl, hW_48, hF_49⟩ := h_47
  have hf_50 := hF_49.at e_15 rfl
  have hf_51 := hF_49.at e_30 rfl
  refine v_aload_n hC dX0_takeFrom_11 rfl ?_
  refine v_get hC fl_X0_18 m_16 hf_51 rfl dX0_takeFrom_12 ?_
  refine v_iconst hC dX0_takeFrom_15 (v := 0) (by decide) ?_
  refine v_aload_n hC dX0_takeFrom_16 rfl ?_
  refine v_get hC fl_X0_18 m_1 hf_50 rfl dX0_takeFrom_17 ?_
  refine v_iconst hC dX0_takeFrom_20 (v := 0) (by decide) ?_
  refine v_iconst hC dX0_takeFrom_21 (v := 3) (by decide) ?_
  obtain ⟨m_52, t_53⟩ := id k_25
  obtain ⟨g_55, e_54⟩ := hW_48.at m_52 t_53
  obtain ⟨m_56, t_57⟩ := id k_10
  obtain ⟨g_59, e_58⟩ := hW_48.at m_56 t_57
  refine v_copyi hC mo_X0_54 cp_n_ cp_s_ cp_i_ m_52 e_54 m_56 e_58 (by decide) (by decide) (by decide) (by decide) (by decide) (by decide) (Nat.le_of_ble_eq_true rfl) dX0_takeFrom_22 (fun f_60 hf_61 hk_62 => ?_)
  have hW_63 := hW_48.up hf_61 hk_62 t_57 ⟨_, rfl⟩
  obtain ⟨g_64, hf_61⟩ : ∃ g9, f_60 q_4 = aI E 3 g9 := ⟨_, hf_61⟩
  have hf_65 := (hk_62 a_0 (ne_kd hf_50 e_58 rfl)).trans hf_50
  have hf_66 := (hk_62 a_1 (ne_kd hf_51 e_58 rfl)).trans hf_51
  have fr_67 := FR.w hk_62 e_58 (k := 103) rfl
  refine v_iconst hC dX0_takeFrom_25 (v := 0) (by decide) ?_
  refine v_istore_n hC dX0_takeFrom_26 (by decide) (lv' := [(2, .int 0), (0, .ref a_0), (1, .ref a_1)]) rfl ?_
  have lp_1546 : ∀ (n_1547 : Nat) (f_1539 : Nat → va_E) (hW_1540 : WT T L f_1539) (hF_1541 : FR [10] f_60 f_1539) (i_1538 : Int32) (b_1545 : (0 ≤ i_1538.toInt ∧ i_1538.toInt ≤ 6)) (hm_1549 : 6 - i_1538.toInt < (n_1547 : Int)), V z E 3 0 0 L f_1539 27 [(2, .int i_1538), (0, .ref a_0), (1, .ref a_1)] [] := by
    intro n_1547
    induction n_1547 with
    | zero =>
      intro f_1539 hW_1540 hF_1541 i_1538 b_1545 hm_1549
      have hf_1542 := hF_1541.at hf_65 rfl
      have hf_1543 := hF_1541.at hf_66 rfl
      have hf_1544 := hF_1541.at hf_61 rfl
      exfalso; omega
    | succ n_1547 ih_1548 =>
      intro f_1539 hW_1540 hF_1541 i_1538 b_1545 hm_1549
      have hf_1542 := hF_1541.at hf_65 rfl
      have hf_1543 := hF_1541.at hf_66 rfl
      have hf_1544 := hF_1541.at hf_61 rfl
      refine v_iload_n hC dX0_takeFrom_27 rfl ?_
      refine v_bipush hC dX0_takeFrom_28 (v := 6) (by decide) ?_
      refine v_icmp_ge hC dX0_takeFrom_30 (tgt := 54) (by decide) (fun h_1550 => ?_) (fun h_1550 => ?_)
      · simp only [Int32.lt_iff_toInt_lt, Int32.le_iff_toInt_le, Int32.reduceToInt, ← Int32.toInt_inj] at h_1550
        refine v_aload_n hC dX0_takeFrom_54 rfl ?_
        refine v_get hC fl_X0_31 m_1 hf_1542 rfl dX0_takeFrom_55 ?_
        refine v_aload_n hC dX0_takeFrom_58 rfl ?_
        refine v_get hC fl_X0_31 m_16 hf_1543 rfl dX0_takeFrom_59 ?_
        obtain ⟨m_1596, q_1598, t_1597, k_1599⟩ := id k_12
        obtain ⟨v_1601, v_1603, e_1600, b_1602⟩ := hW_1540.at m_1596 t_1597
        refine v_vv hC (rest := []) m_1596 e_1600 rfl mi_X9_takeFrom ms_X9_takeFrom (p_X9_takeFrom hW_1540 k_12 k_27) mx_X9_takeFrom ml_X0_63 (by decide) rfl (cells1 := 0) (slots1 := 0) (by decide) (by decide) (Nat.le_of_ble_eq_true rfl) (Nat.le_of_ble_eq_true rfl) rfl (Nat.le_of_ble_eq_true rfl) dX0_takeFrom_62 (fun L_1605 f_1606 h_1607 => ?_)
        obtain ⟨rfl, hW_1608, hF_1609⟩ := h_1607
        have hf_1610 := hF_1609.at hf_1542 rfl
        have hf_1611 := hF_1609.at hf_1543 rfl
        have hf_1612 := hF_1609.at hf_1544 rfl
        refine v_aload_n hC dX0_takeFrom_65 rfl ?_
        refine v_get hC fl_X0_38 m_1 hf_1610 rfl dX0_takeFrom_66 ?_
        refine v_aload_n hC dX0_takeFrom_69 rfl ?_
        refine v_get hC fl_X0_38 m_16 hf_1611 rfl dX0_takeFrom_70 ?_
        obtain ⟨m_1613, q_1615, q_1616, q_1617, t_1614, k_1618, k_1619, k_1620⟩ := id k_13
        obtain ⟨v_1622, e_1621, b_1623⟩ := hW_1608.at m_1613 t_1614
        refine v_vv hC (rest := []) m_1613 e_1621 rfl mi_X3_takeFrom ms_X3_takeFrom (p_X3_takeFrom hW_1608 k_13 k_28) mx_X3_takeFrom ml_X0_66 (by decide) rfl (cells1 := 0) (slots1 := 0) (by decide) (by decide) (Nat.le_of_ble_eq_true rfl) (Nat.le_of_ble_eq_true rfl) rfl (Nat.le_of_ble_eq_true rfl) dX0_takeFrom_73 (fun L_1625 f_1626 h_1627 => ?_)
        obtain ⟨rfl, hW_1628, hF_1629⟩ := h_1627
        have hf_1630 := hF_1629.at hf_1610 rfl
        have hf_1631 := hF_1629.at hf_1611 rfl
        have hf_1632 := hF_1629.at hf_1612 rfl
        refine v_iconst hC dX0_takeFrom_76 (v := 0) (by decide) ?_
        refine v_istore_n hC dX0_takeFrom_77 (by decide) (lv' := [(2, .int 0), (0, .ref a_0), (1, .ref a_1)]) rfl ?_
        have lp_1823 : ∀ (n_1824 : Nat) (f_1816 : Nat → va_E) (hW_1817 : WT T L f_1816) (hF_1818 : FR [1, 356] f_1626 f_1816) (i_1815 : Int32) (b_1822 : (0 ≤ i_1815.toInt ∧ i_1815.toInt ≤ 4)) (hm_1826 : 4 - i_1815.toInt < (n_1824 : Int)), V z E 3 0 0 L f_1816 78 [(2, .int i_1815), (0, .ref a_0), (1, .ref a_1)] [] := by
          intro n_1824
          induction n_1824 with
          | zero =>
            intro f_1816 hW_1817 hF_1818 i_1815 b_1822 hm_1826
            have hf_1819 := hF_1818.at hf_1630 rfl
            have hf_1820 := hF_1818.at hf_1631 rfl
            have hf_1821 := hF_1818.at hf_1632 rfl
            exfalso; omega
          | succ n_1824 ih_1825 =>
            intro f_1816 hW_1817 hF_1818 i_1815 b_1822 hm_1826
            have hf_1819 := hF_1818.at hf_1630 rfl
            have hf_1820 := hF_1818.at hf_1631 rfl
            have hf_1821 := hF_1818.at hf_1632 rfl
            refine v_iload_n hC dX0_takeFrom_78 rfl ?_
            refine v_iconst hC dX0_takeFrom_79 (v := 4) (by decide) ?_
            refine v_icmp_ge hC dX0_takeFrom_80 (tgt := 104) (by decide) (fun h_1827 => ?_) (fun h_1827 => ?_)
            · simp only [Int32.lt_iff_toInt_lt, Int32.le_iff_toInt_le, Int32.reduceToInt, ← Int32.toInt_inj] at h_1827
              exact hR _ _ _ _ _ _ dX0_takeFrom_104 (Nat.le_of_ble_eq_true rfl) (Nat.le_of_ble_eq_true rfl) ⟨rfl, hW_1817, ((((((hF_49.tr fr_67).tr hF_1541).tr hF_1609).tr hF_1629).tr hF_1818).mono rfl)⟩
            · simp only [Int32.lt_iff_toInt_lt, Int32.le_iff_toInt_le, Int32.reduceToInt, ← Int32.toInt_inj] at h_1827
              refine v_aload_n hC dX0_takeFrom_83 rfl ?_
              refine v_get hC fl_X0_44 m_1 hf_1819 rfl dX0_takeFrom_84 ?_
              refine v_iload_n hC dX0_takeFrom_87 rfl ?_
              obtain ⟨m_1828, g_1830, t_1829, k_1831⟩ := id k_14
              have e_1832 : f_1816 q_8 = aR E 5 4 g_1830 := hW_1817.at m_1828 t_1829
              obtain ⟨q_1833, h_1834, k_1835⟩ := k_1831 (i_1815 : Int32).toNatClampNeg (clamp_lt (vp_in_iff.mpr (by first | omega | (simp only [Int32.lt_iff_toInt_lt, Int32.le_iff_toInt_le, Int32.reduceToInt, ← Int32.toInt_inj, true_and, and_true, or_true, true_or, false_or, or_false, false_and, and_false, not_true_eq_false, not_false_eq_true] <;> omega))))
              refine v_aald hC m_1828 e_1832 rfl (vp_in_iff.mpr (by first | omega | (simp only [Int32.lt_iff_toInt_lt, Int32.le_iff_toInt_le, Int32.reduceToInt, ← Int32.toInt_inj, true_and, and_true, or_true, true_or, false_or, or_false, false_and, and_false, not_true_eq_false, not_false_eq_true] <;> omega))) (v := .ref q_1833) (by rw [h_1834]; rfl) dX0_takeFrom_88 ?_
              refine v_aload_n hC dX0_takeFrom_89 rfl ?_
              refine v_get hC fl_X0_44 m_16 hf_1820 rfl dX0_takeFrom_90 ?_
              refine v_iload_n hC dX0_takeFrom_93 rfl ?_
              obtain ⟨m_1836, g_1838, t_1837, k_1839⟩ := id k_29
              have e_1840 : f_1816 q_23 = aR E 5 4 g_1838 := hW_1817.at m_1836 t_1837
              obtain ⟨q_1841, h_1842, k_1843⟩ := k_1839 (i_1815 : Int32).toNatClampNeg (clamp_lt (vp_in_iff.mpr (by first | omega | (simp only [Int32.lt_iff_toInt_lt, Int32.le_iff_toInt_le, Int32.reduceToInt, ← Int32.toInt_inj, true_and, and_true, or_true, true_or, false_or, or_false, false_and, and_false, not_true_eq_false, not_false_eq_true] <;> omega))))
              refine v_aald hC m_1836 e_1840 rfl (vp_in_iff.mpr (by first | omega | (simp only [Int32.lt_iff_toInt_lt, Int32.le_iff_toInt_le, Int32.reduceToInt, ← Int32.toInt_inj, true_and, and_true, or_true, true_or, false_or, or_false, false_and, and_false, not_true_eq_false, not_false_eq_true] <;> omega))) (v := .ref q_1841) (by rw [h_1842]; rfl) dX0_takeFrom_94 ?_
              obtain ⟨m_1844, q_1846, t_1845, k_1847⟩ := id k_1835
              obtain ⟨v_1849, e_1848, b_1850⟩ := hW_1817.at m_1844 t_1845
              refine v_vv hC (rest := []) m_1844 e_1848 rfl mi_X1_takeFrom ms_X1_takeFrom (p_X1_takeFrom hW_1817 k_1835 k_1843) mx_X1_takeFrom ml_X0_69 (by decide) rfl (cells1 := 0) (slots1 := 0) (by decide) (by decide) (Nat.le_of_ble_eq_true rfl) (Nat.le_of_ble_eq_true rfl) rfl (Nat.le_of_ble_eq_true rfl) dX0_takeFrom_95 (fun L_1852 f_1853 h_1854 => ?_)
              obtain ⟨rfl, hW_1855, hF_1856⟩ := h_1854
              have hf_1857 := hF_1856.at hf_1819 rfl
              have hf_1858 := hF_1856.at hf_1820 rfl
              have hf_1859 := hF_1856.at hf_1821 rfl
              have hf_1860 := hF_1856.at e_1832 rfl
              have hf_1861 := hF_1856.at e_1840 rfl
              obtain ⟨v_1862, h_1863⟩ : ∃ v9 : Int32, i_1815 + Int32.ofInt 1 = v9 := ⟨_, rfl⟩
              have h_1864 := add_v (b := 1) h_1863 (by first | omega | (simp only [Int32.lt_iff_toInt_lt, Int32.le_iff_toInt_le, Int32.reduceToInt, ← Int32.toInt_inj, true_and, and_true, or_true, true_or, false_or, or_false, false_and, and_false, not_true_eq_false, not_false_eq_true] <;> omega)) (by first | omega | (simp only [Int32.lt_iff_toInt_lt, Int32.le_iff_toInt_le, Int32.reduceToInt, ← Int32.toInt_inj, true_and, and_true, or_true, true_or, false_or, or_false, false_and, and_false, not_true_eq_false, not_false_eq_true] <;> omega))
              simp only [Int32.reduceToInt] at h_1864
              refine v_iinc hC dX0_takeFrom_98 (k := 0) rfl (v := v_1862) h_1863 (by decide) (lv' := [(2, .int v_1862), (0, .ref a_0), (1, .ref a_1)]) rfl ?_
              refine v_goto hC dX0_takeFrom_101 (tgt := 78) (by decide) ?_
              refine v_pick [0, 1, 2] rfl ?_
              exact ih_1825 f_1853 hW_1855 ((hF_1818.tr hF_1856).mono rfl) v_1862 (by first | omega | (simp only [Int32.lt_iff_toInt_lt, Int32.le_iff_toInt_le, Int32.reduceToInt, ← Int32.toInt_inj, true_and, and_true, or_true, true_or, false_or, or_false, false_and, and_false, not_true_eq_false, not_false_eq_true] <;> omega)) (by first | omega | (simp only [Int32.lt_iff_toInt_lt, Int32.le_iff_toInt_le, Int32.reduceToInt, ← Int32.toInt_inj, true_and, and_true, or_true, true_or, false_or, or_false, false_and, and_false, not_true_eq_false, not_false_eq_true] <;> omega))
        refine v_pick [0, 1, 2] rfl ?_
        exact lp_1823 6 f_1626 hW_1628 FR.rf 0 (by decide) (by decide)
      · simp only [Int32.lt_iff_toInt_lt, Int32.le_iff_toInt_le, Int32.reduceToInt, ← Int32.toInt_inj] at h_1550
        refine v_aload_n hC dX0_takeFrom_33 rfl ?_
        refine v_get hC fl_X0_24 m_1 hf_1542 rfl dX0_takeFrom_34 ?_
        refine v_iload_n hC dX0_takeFrom_37 rfl ?_
        obtain ⟨m_1865, g_1867, t_1866, k_1868⟩ := id k_11
        have e_1869 : f_1539 q_5 = aR E 7 6 g_1867 := hW_1540.at m_1865 t_1866
        obtain ⟨q_1870, h_1871, k_1872⟩ := k_1868 (i_1538 : Int32).toNatClampNeg (clamp_lt (vp_in_iff.mpr (by first | omega | (simp only [Int32.lt_iff_toInt_lt, Int32.le_iff_toInt_le, Int32.reduceToInt, ← Int32.toInt_inj, true_and, and_true, or_true, true_or, false_or, or_false, false_and, and_false, not_true_eq_false, not_false_eq_true] <;> omega))))
        refine v_aald hC m_1865 e_1869 rfl (vp_in_iff.mpr (by first | omega | (simp only [Int32.lt_iff_toInt_lt, Int32.le_iff_toInt_le, Int32.reduceToInt, ← Int32.toInt_inj, true_and, and_true, or_true, true_or, false_or, or_false, false_and, and_false, not_true_eq_false, not_false_eq_true] <;> omega))) (v := .ref q_1870) (by rw [h_1871]; rfl) dX0_takeFrom_38 ?_
        refine v_aload_n hC dX0_takeFrom_39 rfl ?_
        refine v_get hC fl_X0_24 m_16 hf_1543 rfl dX0_takeFrom_40 ?_
        refine v_iload_n hC dX0_takeFrom_43 rfl ?_
        obtain ⟨m_1873, g_1875, t_1874, k_1876⟩ := id k_26
        have e_1877 : f_1539 q_20 = aR E 7 6 g_1875 := hW_1540.at m_1873 t_1874
        obtain ⟨q_1878, h_1879, k_1880⟩ := k_1876 (i_1538 : Int32).toNatClampNeg (clamp_lt (vp_in_iff.mpr (by first | omega | (simp only [Int32.lt_iff_toInt_lt, Int32.le_iff_toInt_le, Int32.reduceToInt, ← Int32.toInt_inj, true_and, and_true, or_true, true_or, false_or, or_false, false_and, and_false, not_true_eq_false, not_false_eq_true] <;> omega))))
        refine v_aald hC m_1873 e_1877 rfl (vp_in_iff.mpr (by first | omega | (simp only [Int32.lt_iff_toInt_lt, Int32.le_iff_toInt_le, Int32.reduceToInt, ← Int32.toInt_inj, true_and, and_true, or_true, true_or, false_or, or_false, false_and, and_false, not_true_eq_false, not_false_eq_true] <;> omega))) (v := .ref q_1878) (by rw [h_1879]; rfl) dX0_takeFrom_44 ?_
        obtain ⟨m_1881, t_1882⟩ := id k_1872
        obtain ⟨v_1884, v_1886, v_1887, v_1888, v_1890, v_1892, v_1894, e_1883, b_1885, b_1889, b_1891, b_1893, b_1895⟩ := hW_1540.at m_1881 t_1882
        refine v_vv hC (rest := []) m_1881 e_1883 rfl mi_X10_takeFrom ms_X10_takeFrom (p_X10_takeFrom hW_1540 k_1872 k_1880) mx_X10_takeFrom ml_X0_60 (by decide) rfl (cells1 := 0) (slots1 := 0) (by decide) (by decide) (Nat.le_of_ble_eq_true rfl) (Nat.le_of_ble_eq_true rfl) rfl (Nat.le_of_ble_eq_true rfl) dX0_takeFrom_45 (fun L_1897 f_1898 h_1899 => ?_)
        obtain ⟨rfl, hW_1900, hF_1901⟩ := h_1899
        have hf_1902 := hF_1901.at hf_1542 rfl
        have hf_1903 := hF_1901.at hf_1543 rfl
        have hf_1904 := hF_1901.at hf_1544 rfl
        have hf_1905 := hF_1901.at e_1869 rfl
        have hf_1906 := hF_1901.at e_1877 rfl
        obtain ⟨v_1907, h_1908⟩ : ∃ v9 : Int32, i_1538 + Int32.ofInt 1 = v9 := ⟨_, rfl⟩
        have h_1909 := add_v (b := 1) h_1908 (by first | omega | (simp only [Int32.lt_iff_toInt_lt, Int32.le_iff_toInt_le, Int32.reduceToInt, ← Int32.toInt_inj, true_and, and_true, or_true, true_or, false_or, or_false, false_and, and_false, not_true_eq_false, not_false_eq_true] <;> omega)) (by first | omega | (simp only [Int32.lt_iff_toInt_lt, Int32.le_iff_toInt_le, Int32.reduceToInt, ← Int32.toInt_inj, true_and, and_true, or_true, true_or, false_or, or_false, false_and, and_false, not_true_eq_false, not_false_eq_true] <;> omega))
        simp only [Int32.reduceToInt] at h_1909
        refine v_iinc hC dX0_takeFrom_48 (k := 0) rfl (v := v_1907) h_1908 (by decide) (lv' := [(2, .int v_1907), (0, .ref a_0), (1, .ref a_1)]) rfl ?_
        refine v_goto hC dX0_takeFrom_51 (tgt := 27) (by decide) ?_
        refine v_pick [0, 1, 2] rfl ?_
        exact ih_1548 f_1898 hW_1900 ((hF_1541.tr hF_1901).mono rfl) v_1907 (by first | omega | (simp only [Int32.lt_iff_toInt_lt, Int32.le_iff_toInt_le, Int32.reduceToInt, ← Int32.toInt_inj, true_and, and_true, or_true, true_or, false_or, or_false, false_and, and_false, not_true_eq_false, not_false_eq_true] <;> omega)) (by first | omega | (simp only [Int32.lt_iff_toInt_lt, Int32.le_iff_toInt_le, Int32.reduceToInt, ← Int32.toInt_inj, true_and, and_true, or_true, true_or, false_or, or_false, false_and, and_false, not_true_eq_false, not_false_eq_true] <;> omega))
  refine v_pick [0, 1, 2] rfl ?_
  exact lp_1546 8 f_60 hW_63 FR.rf 0 (by decide) (by decide)
set_option maxRecDepth 100000 in
set_option maxHeartbeats 8000000 in
theorem p_X0_dropCloths {l : Launch} {E : Ez} {L : List Nat} {f : Nat → va_E} {T : Nat → va_E → Prop} {a_0 : Nat} (hW : WT T L f) (k_0 : isBas T L E a_0) : CV l yX0_dropCloths cX0_dropCloths 2 0 0 0 E [.ref a_0] L f (fun L1 f1 => L = L1 ∧ WT T L f1 ∧ FR [1] f f1) := by
  refine cv_of (by decide) (Nat.le_of_ble_eq_true rfl) (fun z hz hnm hC hR => ?_)
  have hC : Cx z E cX0_dropCloths RX0 2 0 0 0 := hC
  subst hz
  show V z E 2 0 0 L f 0 [(0, .ref a_0)] []
  refine v_iconst hC dX0_dropCloths_0 (v := 0) (by decide) ?_
  refine v_istore_n hC dX0_dropCloths_1 (by decide) (lv' := [(1, .int 0), (0, .ref a_0)]) rfl ?_
  have lp_188 : ∀ (n_189 : Nat) (f_184 : Nat → va_E) (hW_185 : WT T L f_184) (hF_186 : FR [1] f f_184) (i_183 : Int32) (b_187 : (0 ≤ i_183.toInt ∧ i_183.toInt ≤ 4)) (hm_191 : 4 - i_183.toInt < (n_189 : Int)), V z E 2 0 0 L f_184 2 [(1, .int i_183), (0, .ref a_0)] [] := by
    intro n_189
    induction n_189 with
    | zero =>
      intro f_184 hW_185 hF_186 i_183 b_187 hm_191
      exfalso; omega
    | succ n_189 ih_190 =>
      intro f_184 hW_185 hF_186 i_183 b_187 hm_191
      refine v_iload_n hC dX0_dropCloths_2 rfl ?_
      refine v_iconst hC dX0_dropCloths_3 (v := 4) (by decide) ?_
      refine v_icmp_ge hC dX0_dropCloths_4 (tgt := 23) (by decide) (fun h_192 => ?_) (fun h_192 => ?_)
      · simp only [Int32.lt_iff_toInt_lt, Int32.le_iff_toInt_le, Int32.reduceToInt, ← Int32.toInt_inj] at h_192
        exact hR _ _ _ _ _ _ dX0_dropCloths_23 (Nat.le_of_ble_eq_true rfl) (Nat.le_of_ble_eq_true rfl) ⟨rfl, hW_185, (hF_186.mono rfl)⟩
      · simp only [Int32.lt_iff_toInt_lt, Int32.le_iff_toInt_le, Int32.reduceToInt, ← Int32.toInt_inj] at h_192
        refine v_aload_n hC dX0_dropCloths_7 rfl ?_
        obtain ⟨m_193, q_195, q_196, q_197, q_198, q_199, q_200, t_194, k_201, k_202, k_203, k_204, k_205, k_206⟩ := id k_0
        have e_207 : f_184 a_0 = ob 0 [.ref q_195, .ref q_196, .ref q_197, .ref q_198, .ref q_199, .ref q_200] := hW_185.at m_193 t_194
        refine v_get hC fl_X0_44 m_193 e_207 rfl dX0_dropCloths_8 ?_
        refine v_iload_n hC dX0_dropCloths_11 rfl ?_
        obtain ⟨m_208, g_210, t_209, k_211⟩ := id k_206
        have e_212 : f_184 q_200 = aR E 5 4 g_210 := hW_185.at m_208 t_209
        obtain ⟨q_213, h_214, k_215⟩ := k_211 (i_183 : Int32).toNatClampNeg (clamp_lt (vp_in_iff.mpr (by first | omega | (simp only [Int32.lt_iff_toInt_lt, Int32.le_iff_toInt_le, Int32.reduceToInt, ← Int32.toInt_inj, true_and, and_true, or_true, true_or, false_or, or_false, false_and, and_false, not_true_eq_false, not_false_eq_true] <;> omega))))
        refine v_aald hC m_208 e_212 rfl (vp_in_iff.mpr (by first | omega | (simp only [Int32.lt_iff_toInt_lt, Int32.le_iff_toInt_le, Int32.reduceToInt, ← Int32.toInt_inj, true_and, and_true, or_true, true_or, false_or, or_false, false_and, and_false, not_true_eq_false, not_false_eq_true] <;> omega))) (v := .ref q_213) (by rw [h_214]; rfl) dX0_dropCloths_12 ?_
        refine v_iconst hC dX0_dropCloths_13 (v := 0) (by decide) ?_
        obtain ⟨m_216, q_218, t_217, k_219⟩ := id k_215
        obtain ⟨v_221, e_220, b_222⟩ := hW_185.at m_216 t_217
        refine v_putN hC fn_X0_72 m_216 e_220 rfl rfl (Nat.le_of_ble_eq_true rfl) (fs' := [.ref q_218, .int 0]) rfl dX0_dropCloths_14 (fun f_223 hf_224 hk_225 => ?_)
        have hW_226 := hW_185.up hf_224 hk_225 t_217 ⟨0, rfl, (by decide)⟩
        have hf_227 := (hk_225 a_0 (ne_kd e_207 e_220 rfl)).trans e_207
        have hf_228 := (hk_225 q_200 (ne_kd e_212 e_220 rfl)).trans e_212
        have fr_229 := FR.w hk_225 e_220 (k := 1) rfl
        obtain ⟨v_230, h_231⟩ : ∃ v9 : Int32, i_183 + Int32.ofInt 1 = v9 := ⟨_, rfl⟩
        have h_232 := add_v (b := 1) h_231 (by first | omega | (simp only [Int32.lt_iff_toInt_lt, Int32.le_iff_toInt_le, Int32.reduceToInt, ← Int32.toInt_inj, true_and, and_true, or_true, true_or, false_or, or_false, false_and, and_false, not_true_eq_false, not_false_eq_true] <;> omega)) (by first | omega | (simp only [Int32.lt_iff_toInt_lt, Int32.le_iff_toInt_le, Int32.reduceToInt, ← Int32.toInt_inj, true_and, and_true, or_true, true_or, false_or, or_false, false_and, and_false, not_true_eq_false, not_false_eq_true] <;> omega))
        simp only [Int32.reduceToInt] at h_232
        refine v_iinc hC dX0_dropCloths_17 (k := 0) rfl (v := v_230) h_231 (by decide) (lv' := [(1, .int v_230), (0, .ref a_0)]) rfl ?_
        refine v_goto hC dX0_dropCloths_20 (tgt := 2) (by decide) ?_
        refine v_pick [0, 1] rfl ?_
        exact ih_190 f_223 hW_226 ((hF_186.tr fr_229).mono rfl) v_230 (by first | omega | (simp only [Int32.lt_iff_toInt_lt, Int32.le_iff_toInt_le, Int32.reduceToInt, ← Int32.toInt_inj, true_and, and_true, or_true, true_or, false_or, or_false, false_and, and_false, not_true_eq_false, not_false_eq_true] <;> omega)) (by first | omega | (simp only [Int32.lt_iff_toInt_lt, Int32.le_iff_toInt_le, Int32.reduceToInt, ← Int32.toInt_inj, true_and, and_true, or_true, true_or, false_or, or_false, false_and, and_false, not_true_eq_false, not_false_eq_true] <;> omega))
  refine v_pick [0, 1] rfl ?_
  exact lp_188 6 f hW FR.rf 0 (by decide) (by decide)
set_option maxRecDepth 100000 in
set_option maxHeartbeats 8000000 in
theorem p_X0_waysThere {l : Launch} {E : Ez} {L : List Nat} {f : Nat → va_E} {T : Nat → va_E → Prop} {a_0 : Nat} (hW : WT T L f) (k_0 : isBas T L E a_0) : CI l yX0_waysThere cX0_waysThere 3 .int 0 0 0 E [.ref a_0] L f (fun r L1 f1 => L = L1 ∧ f = f1) := by
  refine ci_of (by decide) (Nat.le_of_ble_eq_true rfl) (fun z hz hnm hC hR => ?_)
  have hC : Cx z E cX0_waysThere RX0 3 0 0 0 := hC
  subst hz
  show V z E 3 0 0 L f 0 [(0, .ref a_0)] []
  refine v_iconst hC dX0_waysThere_0 (v := 0) (by decide) ?_
  refine v_istore_n hC dX0_waysThere_1 (by decide) (lv' := [(1, .int 0), (0, .ref a_0)]) rfl ?_
  refine v_iconst hC dX0_waysThere_2 (v := 0) (by decide) ?_
  refine v_istore_n hC dX0_waysThere_3 (by decide) (lv' := [(2, .int 0), (1, .int 0), (0, .ref a_0)]) rfl ?_
  have lp_476 : ∀ (n_477 : Nat) (i_473 : Int32) (b_475 : (0 ≤ i_473.toInt ∧ i_473.toInt ≤ 6)) (i_474 : Int32) (hm_479 : 6 - i_473.toInt < (n_477 : Int)), V z E 3 0 0 L f 4 [(2, .int i_473), (1, .int i_474), (0, .ref a_0)] [] := by
    intro n_477
    induction n_477 with
    | zero =>
      intro i_473 b_475 i_474 hm_479
      exfalso; omega
    | succ n_477 ih_478 =>
      intro i_473 b_475 i_474 hm_479
      refine v_iload_n hC dX0_waysThere_4 rfl ?_
      refine v_bipush hC dX0_waysThere_5 (v := 6) (by decide) ?_
      refine v_icmp_ge hC dX0_waysThere_7 (tgt := 31) (by decide) (fun h_480 => ?_) (fun h_480 => ?_)
      · simp only [Int32.lt_iff_toInt_lt, Int32.le_iff_toInt_le, Int32.reduceToInt, ← Int32.toInt_inj] at h_480
        refine v_iload_n hC dX0_waysThere_31 rfl ?_
        exact hR _ _ _ _ _ _ _ dX0_waysThere_32 rfl (Nat.le_of_ble_eq_true rfl) (Nat.le_of_ble_eq_true rfl) ⟨rfl, rfl⟩
      · simp only [Int32.lt_iff_toInt_lt, Int32.le_iff_toInt_le, Int32.reduceToInt, ← Int32.toInt_inj] at h_480
        refine v_aload_n hC dX0_waysThere_10 rfl ?_
        obtain ⟨m_481, q_483, q_484, q_485, q_486, q_487, q_488, t_482, k_489, k_490, k_491, k_492, k_493, k_494⟩ := id k_0
        have e_495 : f a_0 = ob 0 [.ref q_483, .ref q_484, .ref q_485, .ref q_486, .ref q_487, .ref q_488] := hW.at m_481 t_482
        refine v_get hC fl_X0_24 m_481 e_495 rfl dX0_waysThere_11 ?_
        refine v_iload_n hC dX0_waysThere_14 rfl ?_
        obtain ⟨m_496, g_498, t_497, k_499⟩ := id k_491
        have e_500 : f q_485 = aR E 7 6 g_498 := hW.at m_496 t_497
        obtain ⟨q_501, h_502, k_503⟩ := k_499 (i_473 : Int32).toNatClampNeg (clamp_lt (vp_in_iff.mpr (by first | omega | (simp only [Int32.lt_iff_toInt_lt, Int32.le_iff_toInt_le, Int32.reduceToInt, ← Int32.toInt_inj, true_and, and_true, or_true, true_or, false_or, or_false, false_and, and_false, not_true_eq_false, not_false_eq_true] <;> omega))))
        refine v_aald hC m_496 e_500 rfl (vp_in_iff.mpr (by first | omega | (simp only [Int32.lt_iff_toInt_lt, Int32.le_iff_toInt_le, Int32.reduceToInt, ← Int32.toInt_inj, true_and, and_true, or_true, true_or, false_or, or_false, false_and, and_false, not_true_eq_false, not_false_eq_true] <;> omega))) (v := .ref q_501) (by rw [h_502]; rfl) dX0_waysThere_15 ?_
        obtain ⟨m_504, t_505⟩ := id k_503
        obtain ⟨v_507, v_509, v_510, v_511, v_513, v_515, v_517, e_506, b_508, b_512, b_514, b_516, b_518⟩ := hW.at m_504 t_505
        refine v_getN hC fn_X0_76 m_504 e_506 rfl dX0_waysThere_16 ?_
        refine v_if_eq hC dX0_waysThere_19 (tgt := 25) (by decide) (fun h_519 => ?_) (fun h_519 => ?_)
        · simp only [Int32.lt_iff_toInt_lt, Int32.le_iff_toInt_le, Int32.reduceToInt, ← Int32.toInt_inj] at h_519
          obtain ⟨v_520, h_521⟩ : ∃ v9 : Int32, i_473 + Int32.ofInt 1 = v9 := ⟨_, rfl⟩
          have h_522 := add_v (b := 1) h_521 (by first | omega | (simp only [Int32.lt_iff_toInt_lt, Int32.le_iff_toInt_le, Int32.reduceToInt, ← Int32.toInt_inj, true_and, and_true, or_true, true_or, false_or, or_false, false_and, and_false, not_true_eq_false, not_false_eq_true] <;> omega)) (by first | omega | (simp only [Int32.lt_iff_toInt_lt, Int32.le_iff_toInt_le, Int32.reduceToInt, ← Int32.toInt_inj, true_and, and_true, or_true, true_or, false_or, or_false, false_and, and_false, not_true_eq_false, not_false_eq_true] <;> omega))
          simp only [Int32.reduceToInt] at h_522
          refine v_iinc hC dX0_waysThere_25 (k := 0) rfl (v := v_520) h_521 (by decide) (lv' := [(2, .int v_520), (1, .int i_474), (0, .ref a_0)]) rfl ?_
          refine v_goto hC dX0_waysThere_28 (tgt := 4) (by decide) ?_
          refine v_pick [0, 1, 2] rfl ?_
          exact ih_478 v_520 (by first | omega | (simp only [Int32.lt_iff_toInt_lt, Int32.le_iff_toInt_le, Int32.reduceToInt, ← Int32.toInt_inj, true_and, and_true, or_true, true_or, false_or, or_false, false_and, and_false, not_true_eq_false, not_false_eq_true] <;> omega)) i_474 (by first | omega | (simp only [Int32.lt_iff_toInt_lt, Int32.le_iff_toInt_le, Int32.reduceToInt, ← Int32.toInt_inj, true_and, and_true, or_true, true_or, false_or, or_false, false_and, and_false, not_true_eq_false, not_false_eq_true] <;> omega))
        · simp only [Int32.lt_iff_toInt_lt, Int32.le_iff_toInt_le, Int32.reduceToInt, ← Int32.toInt_inj] at h_519
          obtain ⟨v_523, h_524⟩ : ∃ v9 : Int32, i_474 + Int32.ofInt 1 = v9 := ⟨_, rfl⟩
          refine v_iinc hC dX0_waysThere_22 (k := 1) rfl (v := v_523) h_524 (by decide) (lv' := [(1, .int v_523), (2, .int i_473), (0, .ref a_0)]) rfl ?_
          obtain ⟨v_525, h_526⟩ : ∃ v9 : Int32, i_473 + Int32.ofInt 1 = v9 := ⟨_, rfl⟩
          have h_527 := add_v (b := 1) h_526 (by first | omega | (simp only [Int32.lt_iff_toInt_lt, Int32.le_iff_toInt_le, Int32.reduceToInt, ← Int32.toInt_inj, true_and, and_true, or_true, true_or, false_or, or_false, false_and, and_false, not_true_eq_false, not_false_eq_true] <;> omega)) (by first | omega | (simp only [Int32.lt_iff_toInt_lt, Int32.le_iff_toInt_le, Int32.reduceToInt, ← Int32.toInt_inj, true_and, and_true, or_true, true_or, false_or, or_false, false_and, and_false, not_true_eq_false, not_false_eq_true] <;> omega))
          simp only [Int32.reduceToInt] at h_527
          refine v_iinc hC dX0_waysThere_25 (k := 1) rfl (v := v_525) h_526 (by decide) (lv' := [(2, .int v_525), (1, .int v_523), (0, .ref a_0)]) rfl ?_
          refine v_goto hC dX0_waysThere_28 (tgt := 4) (by decide) ?_
          refine v_pick [0, 1, 2] rfl ?_
          exact ih_478 v_525 (by first | omega | (simp only [Int32.lt_iff_toInt_lt, Int32.le_iff_toInt_le, Int32.reduceToInt, ← Int32.toInt_inj, true_and, and_true, or_true, true_or, false_or, or_false, false_and, and_false, not_true_eq_false, not_false_eq_true] <;> omega)) v_523 (by first | omega | (simp only [Int32.lt_iff_toInt_lt, Int32.le_iff_toInt_le, Int32.reduceToInt, ← Int32.toInt_inj, true_and, and_true, or_true, true_or, false_or, or_false, false_and, and_false, not_true_eq_false, not_false_eq_true] <;> omega))
  refine v_pick [0, 1, 2] rfl ?_
  exact lp_476 8 0 (by decide) 0 (by decide)
set_option maxRecDepth 100000 in
set_option maxHeartbeats 8000000 in
theorem p_X0_clothsThere {l : Launch} {E : Ez} {L : List Nat} {f : Nat → va_E} {T : Nat → va_E → Prop} {a_0 : Nat} (hW : WT T L f) (k_0 : isBas T L E a_0) : CI l yX0_clothsThere cX0_clothsThere 3 .int 0 0 0 E [.ref a_0] L f (fun r L1 f1 => L = L1 ∧ f = f1) := by
  refine ci_of (by decide) (Nat.le_of_ble_eq_true rfl) (fun z hz hnm hC hR => ?_)
  have hC : Cx z E cX0_clothsThere RX0 3 0 0 0 := hC
  subst hz
  show V z E 3 0 0 L f 0 [(0, .ref a_0)] []
  refine v_iconst hC dX0_clothsThere_0 (v := 0) (by decide) ?_
  refine v_istore_n hC dX0_clothsThere_1 (by decide) (lv' := [(1, .int 0), (0, .ref a_0)]) rfl ?_
  refine v_iconst hC dX0_clothsThere_2 (v := 0) (by decide) ?_
  refine v_istore_n hC dX0_clothsThere_3 (by decide) (lv' := [(2, .int 0), (1, .int 0), (0, .ref a_0)]) rfl ?_
  have lp_404 : ∀ (n_405 : Nat) (i_401 : Int32) (b_403 : (0 ≤ i_401.toInt ∧ i_401.toInt ≤ 4)) (i_402 : Int32) (hm_407 : 4 - i_401.toInt < (n_405 : Int)), V z E 3 0 0 L f 4 [(2, .int i_401), (1, .int i_402), (0, .ref a_0)] [] := by
    intro n_405
    induction n_405 with
    | zero =>
      intro i_401 b_403 i_402 hm_407
      exfalso; omega
    | succ n_405 ih_406 =>
      intro i_401 b_403 i_402 hm_407
      refine v_iload_n hC dX0_clothsThere_4 rfl ?_
      refine v_iconst hC dX0_clothsThere_5 (v := 4) (by decide) ?_
      refine v_icmp_ge hC dX0_clothsThere_6 (tgt := 30) (by decide) (fun h_408 => ?_) (fun h_408 => ?_)
      · simp only [Int32.lt_iff_toInt_lt, Int32.le_iff_toInt_le, Int32.reduceToInt, ← Int32.toInt_inj] at h_408
        refine v_iload_n hC dX0_clothsThere_30 rfl ?_
        exact hR _ _ _ _ _ _ _ dX0_clothsThere_31 rfl (Nat.le_of_ble_eq_true rfl) (Nat.le_of_ble_eq_true rfl) ⟨rfl, rfl⟩
      · simp only [Int32.lt_iff_toInt_lt, Int32.le_iff_toInt_le, Int32.reduceToInt, ← Int32.toInt_inj] at h_408
        refine v_aload_n hC dX0_clothsThere_9 rfl ?_
        obtain ⟨m_409, q_411, q_412, q_413, q_414, q_415, q_416, t_410, k_417, k_418, k_419, k_420, k_421, k_422⟩ := id k_0
        have e_423 : f a_0 = ob 0 [.ref q_411, .ref q_412, .ref q_413, .ref q_414, .ref q_415, .ref q_416] := hW.at m_409 t_410
        refine v_get hC fl_X0_44 m_409 e_423 rfl dX0_clothsThere_10 ?_
        refine v_iload_n hC dX0_clothsThere_13 rfl ?_
        obtain ⟨m_424, g_426, t_425, k_427⟩ := id k_422
        have e_428 : f q_416 = aR E 5 4 g_426 := hW.at m_424 t_425
        obtain ⟨q_429, h_430, k_431⟩ := k_427 (i_401 : Int32).toNatClampNeg (clamp_lt (vp_in_iff.mpr (by first | omega | (simp only [Int32.lt_iff_toInt_lt, Int32.le_iff_toInt_le, Int32.reduceToInt, ← Int32.toInt_inj, true_and, and_true, or_true, true_or, false_or, or_false, false_and, and_false, not_true_eq_false, not_false_eq_true] <;> omega))))
        refine v_aald hC m_424 e_428 rfl (vp_in_iff.mpr (by first | omega | (simp only [Int32.lt_iff_toInt_lt, Int32.le_iff_toInt_le, Int32.reduceToInt, ← Int32.toInt_inj, true_and, and_true, or_true, true_or, false_or, or_false, false_and, and_false, not_true_eq_false, not_false_eq_true] <;> omega))) (v := .ref q_429) (by rw [h_430]; rfl) dX0_clothsThere_14 ?_
        obtain ⟨m_432, q_434, t_433, k_435⟩ := id k_431
        obtain ⟨v_437, e_436, b_438⟩ := hW.at m_432 t_433
        refine v_getN hC fn_X0_72 m_432 e_436 rfl dX0_clothsThere_15 ?_
        refine v_if_eq hC dX0_clothsThere_18 (tgt := 24) (by decide) (fun h_439 => ?_) (fun h_439 => ?_)
        · simp only [Int32.lt_iff_toInt_lt, Int32.le_iff_toInt_le, Int32.reduceToInt, ← Int32.toInt_inj] at h_439
          obtain ⟨v_440, h_441⟩ : ∃ v9 : Int32, i_401 + Int32.ofInt 1 = v9 := ⟨_, rfl⟩
          have h_442 := add_v (b := 1) h_441 (by first | omega | (simp only [Int32.lt_iff_toInt_lt, Int32.le_iff_toInt_le, Int32.reduceToInt, ← Int32.toInt_inj, true_and, and_true, or_true, true_or, false_or, or_false, false_and, and_false, not_true_eq_false, not_false_eq_true] <;> omega)) (by first | omega | (simp only [Int32.lt_iff_toInt_lt, Int32.le_iff_toInt_le, Int32.reduceToInt, ← Int32.toInt_inj, true_and, and_true, or_true, true_or, false_or, or_false, false_and, and_false, not_true_eq_false, not_false_eq_true] <;> omega))
          simp only [Int32.reduceToInt] at h_442
          refine v_iinc hC dX0_clothsThere_24 (k := 0) rfl (v := v_440) h_441 (by decide) (lv' := [(2, .int v_440), (1, .int i_402), (0, .ref a_0)]) rfl ?_
          refine v_goto hC dX0_clothsThere_27 (tgt := 4) (by decide) ?_
          refine v_pick [0, 1, 2] rfl ?_
          exact ih_406 v_440 (by first | omega | (simp only [Int32.lt_iff_toInt_lt, Int32.le_iff_toInt_le, Int32.reduceToInt, ← Int32.toInt_inj, true_and, and_true, or_true, true_or, false_or, or_false, false_and, and_false, not_true_eq_false, not_false_eq_true] <;> omega)) i_402 (by first | omega | (simp only [Int32.lt_iff_toInt_lt, Int32.le_iff_toInt_le, Int32.reduceToInt, ← Int32.toInt_inj, true_and, and_true, or_true, true_or, false_or, or_false, false_and, and_false, not_true_eq_false, not_false_eq_true] <;> omega))
        · simp only [Int32.lt_iff_toInt_lt, Int32.le_iff_toInt_le, Int32.reduceToInt, ← Int32.toInt_inj] at h_439
          obtain ⟨v_443, h_444⟩ : ∃ v9 : Int32, i_402 + Int32.ofInt 1 = v9 := ⟨_, rfl⟩
          refine v_iinc hC dX0_clothsThere_21 (k := 1) rfl (v := v_443) h_444 (by decide) (lv' := [(1, .int v_443), (2, .int i_401), (0, .ref a_0)]) rfl ?_
          obtain ⟨v_445, h_446⟩ : ∃ v9 : Int32, i_401 + Int32.ofInt 1 = v9 := ⟨_, rfl⟩
          have h_447 := add_v (b := 1) h_446 (by first | omega | (simp only [Int32.lt_iff_toInt_lt, Int32.le_iff_toInt_le, Int32.reduceToInt, ← Int32.toInt_inj, true_and, and_true, or_true, true_or, false_or, or_false, false_and, and_false, not_true_eq_false, not_false_eq_true] <;> omega)) (by first | omega | (simp only [Int32.lt_iff_toInt_lt, Int32.le_iff_toInt_le, Int32.reduceToInt, ← Int32.toInt_inj, true_and, and_true, or_true, true_or, false_or, or_false, false_and, and_false, not_true_eq_false, not_false_eq_true] <;> omega))
          simp only [Int32.reduceToInt] at h_447
          refine v_iinc hC dX0_clothsThere_24 (k := 1) rfl (v := v_445) h_446 (by decide) (lv' := [(2, .int v_445), (1, .int v_443), (0, .ref a_0)]) rfl ?_
          refine v_goto hC dX0_clothsThere_27 (tgt := 4) (by decide) ?_
          refine v_pick [0, 1, 2] rfl ?_
          exact ih_406 v_445 (by first | omega | (simp only [Int32.lt_iff_toInt_lt, Int32.le_iff_toInt_le, Int32.reduceToInt, ← Int32.toInt_inj, true_and, and_true, or_true, true_or, false_or, or_false, false_and, and_false, not_true_eq_false, not_false_eq_true] <;> omega)) v_443 (by first | omega | (simp only [Int32.lt_iff_toInt_lt, Int32.le_iff_toInt_le, Int32.reduceToInt, ← Int32.toInt_inj, true_and, and_true, or_true, true_or, false_or, or_false, false_and, and_false, not_true_eq_false, not_false_eq_true] <;> omega))
  refine v_pick [0, 1, 2] rfl ?_
  exact lp_404 6 0 (by decide) 0 (by decide)
set_option maxRecDepth 100000 in
set_option maxHeartbeats 8000000 in
theorem p_X11_feed {l : Launch} {E : Ez} {L : List Nat} {f : Nat → va_E} {T : Nat → va_E → Prop} {a_0 : Nat} {a_1 : Int32} {a_2 : Int32} {a_3 : Int32} {a_4 : Int32} {a_5 : Int32} (hW : WT T L f) (k_0 : isX T L E a_0) : CI l yX11_feed cX11_feed 6 .int 1 0 0 E [.ref a_0, .int a_1, .int a_2, .int a_3, .int a_4, .int a_5] L f (fun r L1 f1 => L = L1 ∧ WT T L f1 ∧ FR [7, 700] f f1 ∧ ((-1) ≤ r.toInt ∧ r.toInt ≤ 600)) := by
  refine ci_of (by decide) (Nat.le_of_ble_eq_true rfl) (fun z hz hnm hC hR => ?_)
  have hC : Cx z E cX11_feed RX11 6 1 0 0 := hC
  subst hz
  show V z E 6 0 0 L f 0 [(0, .ref a_0), (1, .int a_1), (2, .int a_2), (3, .int a_3), (4, .int a_4), (5, .int a_5)] []
  refine v_aload_n hC dX11_feed_0 rfl ?_
  obtain ⟨m_1, q_3, q_4, q_5, q_6, q_7, q_8, q_9, q_10, q_11, q_12, q_13, q_14, q_15, q_16, t_2, k_17, k_18, k_19, k_20, k_21, k_22, k_23, k_24, k_25, k_26, k_27, k_28, k_29, k_30⟩ := id k_0
  have e_31 : f a_0 = ob 11 [.ref q_3, .ref q_4, .ref q_5, .ref q_6, .ref q_7, .ref q_8, .ref q_9, .ref q_10, .ref q_11, .ref q_12, .ref q_13, .ref q_14, .ref q_15, .ref q_16] := hW.at m_1 t_2
  refine v_get hC fl_X11_12 m_1 e_31 rfl dX11_feed_1 ?_
  refine v_bipush hC dX11_feed_4 (v := 20) (by decide) ?_
  obtain ⟨m_32, q_34, t_33, k_35⟩ := id k_17
  obtain ⟨v_37, v_39, v_40, v_42, v_44, v_45, e_36, b_38, b_41, b_43⟩ := hW.at m_32 t_33
  refine v_vi hC (rest := []) m_32 e_36 rfl mi_X7_hasRoomFor ms_X7_hasRoomFor (p_X7_hasRoomFor hW k_17) mx_X7_hasRoomFor ml_X11_97 (by decide) rfl (cells1 := 0) (slots1 := 0) (by decide) (by decide) (Nat.le_of_ble_eq_true rfl) (Nat.le_of_ble_eq_true rfl) rfl (Nat.le_of_ble_eq_true rfl) dX11_feed_6 (fun r_46 L_47 f_48 h_49 => ?_)
  obtain ⟨rfl, rfl, b_50⟩ := h_49
  refine v_if_ne hC dX11_feed_9 (tgt := 14) (by decide) (fun h_53 => ?_) (fun h_53 => ?_)
  · simp only [Int32.lt_iff_toInt_lt, Int32.le_iff_toInt_le, Int32.reduceToInt, ← Int32.toInt_inj] at h_53
    refine v_aload_n hC dX11_feed_14 rfl ?_
    refine v_get hC fl_X11_12 m_1 e_31 rfl dX11_feed_15 ?_
    refine v_iload_n hC dX11_feed_18 rfl ?_
    refine v_vv hC (rest := []) m_32 e_36 rfl mi_X7_addBytesOf ms_X7_addBytesOf (p_X7_addBytesOf hW k_17) mx_X7_addBytesOf ml_X11_101 (by decide) rfl (cells1 := 0) (slots1 := 0) (by decide) (by decide) (Nat.le_of_ble_eq_true rfl) (Nat.le_of_ble_eq_true rfl) rfl (Nat.le_of_ble_eq_true rfl) dX11_feed_19 (fun L_55 f_56 h_57 => ?_)
    obtain ⟨rfl, hW_58, hF_59⟩ := h_57
    have hf_60 := hF_59.at e_31 rfl
    refine v_aload_n hC dX11_feed_22 rfl ?_
    refine v_get hC fl_X11_12 m_1 hf_60 rfl dX11_feed_23 ?_
    refine v_iload_n hC dX11_feed_26 rfl ?_
    obtain ⟨v_62, v_64, v_65, v_67, v_69, v_70, e_61, b_63, b_66, b_68⟩ := hW_58.at m_32 t_33
    refine v_vv hC (rest := []) m_32 e_61 rfl mi_X7_addBytesOf ms_X7_addBytesOf (p_X7_addBytesOf hW_58 k_17) mx_X7_addBytesOf ml_X11_101 (by decide) rfl (cells1 := 0) (slots1 := 0) (by decide) (by decide) (Nat.le_of_ble_eq_true rfl) (Nat.le_of_ble_eq_true rfl) rfl (Nat.le_of_ble_eq_true rfl) dX11_feed_27 (fun L_72 f_73 h_74 => ?_)
    obtain ⟨rfl, hW_75, hF_76⟩ := h_74
    have hf_77 := hF_76.at hf_60 rfl
    refine v_aload_n hC dX11_feed_30 rfl ?_
    refine v_get hC fl_X11_12 m_1 hf_77 rfl dX11_feed_31 ?_
    refine v_iload_n hC dX11_feed_34 rfl ?_
    obtain ⟨v_79, v_81, v_82, v_84, v_86, v_87, e_78, b_80, b_83, b_85⟩ := hW_75.at m_32 t_33
    refine v_vv hC (rest := []) m_32 e_78 rfl mi_X7_addBytesOf ms_X7_addBytesOf (p_X7_addBytesOf hW_75 k_17) mx_X7_addBytesOf ml_X11_101 (by decide) rfl (cells1 := 0) (slots1 := 0) (by decide) (by decide) (Nat.le_of_ble_eq_true rfl) (Nat.le_of_ble_eq_true rfl) rfl (Nat.le_of_ble_eq_true rfl) dX11_feed_35 (fun L_89 f_90 h_91 => ?_)
    obtain ⟨rfl, hW_92, hF_93⟩ := h_91
    have hf_94 := hF_93.at hf_77 rfl
    refine v_aload_n hC dX11_feed_38 rfl ?_
    refine v_get hC fl_X11_12 m_1 hf_94 rfl dX11_feed_39 ?_
    refine v_iload hC dX11_feed_42 rfl ?_
    obtain ⟨v_96, v_98, v_99, v_101, v_103, v_104, e_95, b_97, b_100, b_102⟩ := hW_92.at m_32 t_33
    refine v_vv hC (rest := []) m_32 e_95 rfl mi_X7_addBytesOf ms_X7_addBytesOf (p_X7_addBytesOf hW_92 k_17) mx_X7_addBytesOf ml_X11_101 (by decide) rfl (cells1 := 0) (slots1 := 0) (by decide) (by decide) (Nat.le_of_ble_eq_true rfl) (Nat.le_of_ble_eq_true rfl) rfl (Nat.le_of_ble_eq_true rfl) dX11_feed_44 (fun L_106 f_107 h_108 => ?_)
    obtain ⟨rfl, hW_109, hF_110⟩ := h_108
    have hf_111 := hF_110.at hf_94 rfl
    refine v_aload_n hC dX11_feed_47 rfl ?_
    refine v_get hC fl_X11_12 m_1 hf_111 rfl dX11_feed_48 ?_
    refine v_iload hC dX11_feed_51 rfl ?_
    obtain ⟨v_113, v_115, v_116, v_118, v_120, v_121, e_112, b_114, b_117, b_119⟩ := hW_109.at m_32 t_33
    refine v_vv hC (rest := []) m_32 e_112 rfl mi_X7_addBytesOf ms_X7_addBytesOf (p_X7_addBytesOf hW_109 k_17) mx_X7_addBytesOf ml_X11_101 (by decide) rfl (cells1 := 0) (slots1 := 0) (by decide) (by decide) (Nat.le_of_ble_eq_true rfl) (Nat.le_of_ble_eq_true rfl) rfl (Nat.le_of_ble_eq_true rfl) dX11_feed_53 (fun L_123 f_124 h_125 => ?_)
    obtain ⟨rfl, hW_126, hF_127⟩ := h_125
    have hf_128 := hF_127.at hf_111 rfl
    refine v_aload_n hC dX11_feed_56 rfl ?_
    refine v_get hC fl_X11_12 m_1 hf_128 rfl dX11_feed_57 ?_
    obtain ⟨v_130, v_132, v_133, v_135, v_137, v_138, e_129, b_131, b_134, b_136⟩ := hW_126.at m_32 t_33
    refine v_getN hC fn_X11_105 m_32 e_129 rfl dX11_feed_60 ?_
    exact hR _ _ _ _ _ _ _ dX11_feed_63 rfl (Nat.le_of_ble_eq_true rfl) (Nat.le_of_ble_eq_true rfl) ⟨rfl, hW_126, (((((hF_59.tr hF_76).tr hF_93).tr hF_110).tr hF_127).mono rfl), (by first | omega | (simp only [Int32.lt_iff_toInt_lt, Int32.le_iff_toInt_le, Int32.reduceToInt, ← Int32.toInt_inj, true_and, and_true, or_true, true_or, false_or, or_false, false_and, and_false, not_true_eq_false, not_false_eq_true] <;> omega))⟩
  · simp only [Int32.lt_iff_toInt_lt, Int32.le_iff_toInt_le, Int32.reduceToInt, ← Int32.toInt_inj] at h_53
    refine v_iconst hC dX11_feed_12 (v := (-1)) (by decide) ?_
    exact hR _ _ _ _ _ _ _ dX11_feed_13 rfl (Nat.le_of_ble_eq_true rfl) (Nat.le_of_ble_eq_true rfl) ⟨rfl, hW, FR.rf, (by decide)⟩
set_option maxRecDepth 100000 in
set_option maxHeartbeats 8000000 in
theorem p_X11_end {l : Launch} {E : Ez} {L : List Nat} {f : Nat → va_E} {T : Nat → va_E → Prop} {a_0 : Nat} {a_1 : Int32} (hW : WT T L f) (k_0 : isX T L E a_0) : CI l yX11_end cX11_end 2 .int 0 0 0 E [.ref a_0, .int a_1] L f (fun r L1 f1 => L = L1 ∧ WT T L f1 ∧ FR [7] f f1 ∧ ((-1) ≤ r.toInt ∧ r.toInt ≤ 600) ∧ (¬ r.toInt = 0 ∨ (0 ≤ a_1.toInt ∧ a_1.toInt ≤ 600))) := by
  refine ci_of (by decide) (Nat.le_of_ble_eq_true rfl) (fun z hz hnm hC hR => ?_)
  have hC : Cx z E cX11_end RX11 2 0 0 0 := hC
  subst hz
  show V z E 2 0 0 L f 0 [(0, .ref a_0), (1, .int a_1)] []
  refine v_iload_n hC dX11_end_0 rfl ?_
  refine v_if_lt hC dX11_end_1 (tgt := 15) (by decide) (fun h_1 => ?_) (fun h_1 => ?_)
  · simp only [Int32.lt_iff_toInt_lt, Int32.le_iff_toInt_le, Int32.reduceToInt, ← Int32.toInt_inj] at h_1
    refine v_iconst hC dX11_end_15 (v := (-1)) (by decide) ?_
    exact hR _ _ _ _ _ _ _ dX11_end_16 rfl (Nat.le_of_ble_eq_true rfl) (Nat.le_of_ble_eq_true rfl) ⟨rfl, hW, FR.rf, (by decide), (.inl (by decide))⟩
  · simp only [Int32.lt_iff_toInt_lt, Int32.le_iff_toInt_le, Int32.reduceToInt, ← Int32.toInt_inj] at h_1
    refine v_iload_n hC dX11_end_4 rfl ?_
    refine v_aload_n hC dX11_end_5 rfl ?_
    obtain ⟨m_2, q_4, q_5, q_6, q_7, q_8, q_9, q_10, q_11, q_12, q_13, q_14, q_15, q_16, q_17, t_3, k_18, k_19, k_20, k_21, k_22, k_23, k_24, k_25, k_26, k_27, k_28, k_29, k_30, k_31⟩ := id k_0
    have e_32 : f a_0 = ob 11 [.ref q_4, .ref q_5, .ref q_6, .ref q_7, .ref q_8, .ref q_9, .ref q_10, .ref q_11, .ref q_12, .ref q_13, .ref q_14, .ref q_15, .ref q_16, .ref q_17] := hW.at m_2 t_3
    refine v_get hC fl_X11_12 m_2 e_32 rfl dX11_end_6 ?_
    obtain ⟨m_33, q_35, t_34, k_36⟩ := id k_18
    obtain ⟨v_38, v_40, v_41, v_43, v_45, v_46, e_37, b_39, b_42, b_44⟩ := hW.at m_33 t_34
    refine v_getN hC fn_X11_105 m_33 e_37 rfl dX11_end_9 ?_
    refine v_icmp_le hC dX11_end_12 (tgt := 17) (by decide) (fun h_47 => ?_) (fun h_47 => ?_)
    · simp only [Int32.lt_iff_toInt_lt, Int32.le_iff_toInt_le, Int32.reduceToInt, ← Int32.toInt_inj] at h_47
      refine v_aload_n hC dX11_end_17 rfl ?_
      refine v_get hC fl_X11_12 m_2 e_32 rfl dX11_end_18 ?_
      refine v_iload_n hC dX11_end_21 rfl ?_
      refine v_putN hC fn_X11_105 m_33 e_37 rfl rfl (Nat.le_of_ble_eq_true rfl) (fs' := [.ref q_35, .int a_1, .int v_40, .int v_41, .int v_43, .int v_45, .int v_46]) rfl dX11_end_22 (fun f_48 hf_49 hk_50 => ?_)
      have hW_51 := hW.up hf_49 hk_50 t_34 ⟨a_1, v_40, v_41, v_43, v_45, v_46, rfl, (by first | omega | (simp only [Int32.lt_iff_toInt_lt, Int32.le_iff_toInt_le, Int32.reduceToInt, ← Int32.toInt_inj, true_and, and_true, or_true, true_or, false_or, or_false, false_and, and_false, not_true_eq_false, not_false_eq_true] <;> omega)), (by first | omega | (simp only [Int32.lt_iff_toInt_lt, Int32.le_iff_toInt_le, Int32.reduceToInt, ← Int32.toInt_inj, true_and, and_true, or_true, true_or, false_or, or_false, false_and, and_false, not_true_eq_false, not_false_eq_true] <;> omega)), (by first | omega | (simp only [Int32.lt_iff_toInt_lt, Int32.le_iff_toInt_le, Int32.reduceToInt, ← Int32.toInt_inj, true_and, and_true, or_true, true_or, false_or, or_false, false_and, and_false, not_true_eq_false, not_false_eq_true] <;> omega))⟩
      have hf_52 := (hk_50 a_0 (ne_kd e_32 e_37 rfl)).trans e_32
      have fr_53 := FR.w hk_50 e_37 (k := 7) rfl
      refine v_iload_n hC dX11_end_25 rfl ?_
      exact hR _ _ _ _ _ _ _ dX11_end_26 rfl (Nat.le_of_ble_eq_true rfl) (Nat.le_of_ble_eq_true rfl) ⟨rfl, hW_51, (fr_53.mono rfl), (by first | omega | (simp only [Int32.lt_iff_toInt_lt, Int32.le_iff_toInt_le, Int32.reduceToInt, ← Int32.toInt_inj, true_and, and_true, or_true, true_or, false_or, or_false, false_and, and_false, not_true_eq_false, not_false_eq_true] <;> omega)), (.inr (by first | omega | (simp only [Int32.lt_iff_toInt_lt, Int32.le_iff_toInt_le, Int32.reduceToInt, ← Int32.toInt_inj, true_and, and_true, or_true, true_or, false_or, or_false, false_and, and_false, not_true_eq_false, not_false_eq_true] <;> omega)))⟩
    · simp only [Int32.lt_iff_toInt_lt, Int32.le_iff_toInt_le, Int32.reduceToInt, ← Int32.toInt_inj] at h_47
      refine v_iconst hC dX11_end_15 (v := (-1)) (by decide) ?_
      exact hR _ _ _ _ _ _ _ dX11_end_16 rfl (Nat.le_of_ble_eq_true rfl) (Nat.le_of_ble_eq_true rfl) ⟨rfl, hW, FR.rf, (by decide), (.inl (by decide))⟩
set_option maxRecDepth 100000 in
set_option maxHeartbeats 8000000 in
theorem p_X11_pattern {l : Launch} {E : Ez} {L : List Nat} {f : Nat → va_E} {T : Nat → va_E → Prop} {a_0 : Nat} (hW : WT T L f) (k_0 : isX T L E a_0) : CI l yX11_pattern cX11_pattern 2 .int 8 0 0 E [.ref a_0] L f (fun r L1 f1 => L = L1 ∧ WT T L f1 ∧ FR [1, 4, 7, 356] f f1 ∧ ((-4) ≤ r.toInt ∧ r.toInt ≤ 256)) := by
  refine ci_of (by decide) (Nat.le_of_ble_eq_true rfl) (fun z hz hnm hC hR => ?_)
  have hC : Cx z E cX11_pattern RX11 2 8 0 0 := hC
  subst hz
  show V z E 2 0 0 L f 0 [(0, .ref a_0)] []
  refine v_aload_n hC dX11_pattern_0 rfl ?_
  obtain ⟨m_1, q_3, q_4, q_5, q_6, q_7, q_8, q_9, q_10, q_11, q_12, q_13, q_14, q_15, q_16, t_2, k_17, k_18, k_19, k_20, k_21, k_22, k_23, k_24, k_25, k_26, k_27, k_28, k_29, k_30⟩ := id k_0
  have e_31 : f a_0 = ob 11 [.ref q_3, .ref q_4, .ref q_5, .ref q_6, .ref q_7, .ref q_8, .ref q_9, .ref q_10, .ref q_11, .ref q_12, .ref q_13, .ref q_14, .ref q_15, .ref q_16] := hW.at m_1 t_2
  refine v_get hC fl_X11_43 m_1 e_31 rfl dX11_pattern_1 ?_
  refine v_aload_n hC dX11_pattern_4 rfl ?_
  refine v_get hC fl_X11_12 m_1 e_31 rfl dX11_pattern_5 ?_
  obtain ⟨m_32, q_34, q_35, t_33, k_36, k_37⟩ := id k_22
  obtain ⟨v_39, v_41, v_43, e_38, b_40, b_42, b_44⟩ := hW.at m_32 t_33
  refine v_vi hC (rest := []) m_32 e_38 rfl mi_X4_tell ms_X4_tell (p_X4_tell hW k_22 k_17) mx_X4_tell ml_X11_109 (by decide) rfl (cells1 := 0) (slots1 := 0) (by decide) (by decide) (Nat.le_of_ble_eq_true rfl) (Nat.le_of_ble_eq_true rfl) rfl (Nat.le_of_ble_eq_true rfl) dX11_pattern_8 (fun r_45 L_46 f_47 h_48 => ?_)
  obtain ⟨rfl, hW_50, hF_51, b_49⟩ := h_48
  have hf_52 := hF_51.at e_31 rfl
  refine v_istore_n hC dX11_pattern_11 (by decide) (lv' := [(1, .int r_45), (0, .ref a_0)]) rfl ?_
  refine v_aload_n hC dX11_pattern_12 rfl ?_
  refine v_get hC fl_X11_12 m_1 hf_52 rfl dX11_pattern_13 ?_
  obtain ⟨m_53, q_55, t_54, k_56⟩ := id k_17
  obtain ⟨v_58, v_60, v_61, v_63, v_65, v_66, e_57, b_59, b_62, b_64⟩ := hW_50.at m_53 t_54
  refine v_vv hC (rest := []) m_53 e_57 rfl mi_X7_empty ms_X7_empty (p_X7_empty hW_50 k_17) mx_X7_empty ml_X11_113 (by decide) rfl (cells1 := 0) (slots1 := 0) (by decide) (by decide) (Nat.le_of_ble_eq_true rfl) (Nat.le_of_ble_eq_true rfl) rfl (Nat.le_of_ble_eq_true rfl) dX11_pattern_16 (fun L_68 f_69 h_70 => ?_)
  obtain ⟨rfl, hW_71, hF_72⟩ := h_70
  have hf_73 := hF_72.at hf_52 rfl
  refine v_iload_n hC dX11_pattern_19 rfl ?_
  refine v_if_ne hC dX11_pattern_20 (tgt := 26) (by decide) (fun h_74 => ?_) (fun h_74 => ?_)
  · simp only [Int32.lt_iff_toInt_lt, Int32.le_iff_toInt_le, Int32.reduceToInt, ← Int32.toInt_inj] at h_74
    refine v_aload_n hC dX11_pattern_26 rfl ?_
    refine v_get hC fl_X11_19 m_1 hf_73 rfl dX11_pattern_27 ?_
    obtain ⟨m_75, q_77, q_78, q_79, q_80, q_81, q_82, t_76, k_83, k_84, k_85, k_86, k_87, k_88⟩ := id k_18
    have e_89 : f_69 q_4 = ob 0 [.ref q_77, .ref q_78, .ref q_79, .ref q_80, .ref q_81, .ref q_82] := hW_71.at m_75 t_76
    refine v_getN hC fn_X11_116 m_75 e_89 rfl dX11_pattern_30 ?_
    refine v_aload_n hC dX11_pattern_33 rfl ?_
    refine v_get hC fl_X11_43 m_1 hf_73 rfl dX11_pattern_34 ?_
    obtain ⟨m_90, q_92, q_93, t_91, k_94, k_95⟩ := id k_83
    obtain ⟨v_97, v_99, v_101, e_96, b_98, b_100, b_102⟩ := hW_71.at m_90 t_91
    refine v_vv hC (rest := []) m_90 e_96 rfl mi_X4_takeFrom ms_X4_takeFrom (p_X4_takeFrom hW_71 k_83 k_22) mx_X4_takeFrom ml_X11_119 (by decide) rfl (cells1 := 0) (slots1 := 0) (by decide) (by decide) (Nat.le_of_ble_eq_true rfl) (Nat.le_of_ble_eq_true rfl) rfl (Nat.le_of_ble_eq_true rfl) dX11_pattern_37 (fun L_104 f_105 h_106 => ?_)
    obtain ⟨rfl, hW_107, hF_108⟩ := h_106
    have hf_109 := hF_108.at hf_73 rfl
    have hf_110 := hF_108.at e_89 rfl
    refine v_aload_n hC dX11_pattern_40 rfl ?_
    refine v_get hC fl_X11_19 m_1 hf_109 rfl dX11_pattern_41 ?_
    refine v_vv hC (rest := []) m_75 hf_110 rfl mi_X0_dropCloths ms_X0_dropCloths (p_X0_dropCloths hW_107 k_18) mx_X0_dropCloths ml_X11_123 (by decide) rfl (cells1 := 0) (slots1 := 0) (by decide) (by decide) (Nat.le_of_ble_eq_true rfl) (Nat.le_of_ble_eq_true rfl) rfl (Nat.le_of_ble_eq_true rfl) dX11_pattern_44 (fun L_112 f_113 h_114 => ?_)
    obtain ⟨rfl, hW_115, hF_116⟩ := h_114
    have hf_117 := hF_116.at hf_109 rfl
    have hf_118 := hF_116.at hf_110 rfl
    refine v_aload_n hC dX11_pattern_47 rfl ?_
    refine v_get hC fl_X11_19 m_1 hf_117 rfl dX11_pattern_48 ?_
    refine v_getN hC fn_X11_116 m_75 hf_118 rfl dX11_pattern_51 ?_
    obtain ⟨v_120, v_122, v_124, e_119, b_121, b_123, b_125⟩ := hW_115.at m_90 t_91
    refine v_getN hC fn_X11_126 m_90 e_119 rfl dX11_pattern_54 ?_
    exact hR _ _ _ _ _ _ _ dX11_pattern_57 rfl (Nat.le_of_ble_eq_true rfl) (Nat.le_of_ble_eq_true rfl) ⟨rfl, hW_115, ((((hF_51.tr hF_72).tr hF_108).tr hF_116).mono rfl), (by first | omega | (simp only [Int32.lt_iff_toInt_lt, Int32.le_iff_toInt_le, Int32.reduceToInt, ← Int32.toInt_inj, true_and, and_true, or_true, true_or, false_or, or_false, false_and, and_false, not_true_eq_false, not_false_eq_true] <;> omega))⟩
  · simp only [Int32.lt_iff_toInt_lt, Int32.le_iff_toInt_le, Int32.reduceToInt, ← Int32.toInt_inj] at h_74
    refine v_bipush hC dX11_pattern_23 (v := (-4)) (by decide) ?_
    exact hR _ _ _ _ _ _ _ dX11_pattern_25 rfl (Nat.le_of_ble_eq_true rfl) (Nat.le_of_ble_eq_true rfl) ⟨rfl, hW_71, ((hF_51.tr hF_72).mono rfl), (by decide)⟩
set_option maxRecDepth 100000 in
set_option maxHeartbeats 8000000 in
theorem p_X11_tellHand {l : Launch} {E : Ez} {L : List Nat} {f : Nat → va_E} {T : Nat → va_E → Prop} {a_0 : Nat} (hW : WT T L f) (k_0 : isX T L E a_0) : CI l yX11_tellHand cX11_tellHand 2 .boolean 6 0 0 E [.ref a_0] L f (fun r L1 f1 => L = L1 ∧ WT T L f1 ∧ FR [7, 103] f f1 ∧ (0 ≤ r.toInt ∧ r.toInt ≤ 1)) := by
  refine ci_of (by decide) (Nat.le_of_ble_eq_true rfl) (fun z hz hnm hC hR => ?_)
  have hC : Cx z E cX11_tellHand RX11 2 6 0 0 := hC
  subst hz
  show V z E 2 0 0 L f 0 [(0, .ref a_0)] []
  refine v_aload_n hC dX11_tellHand_0 rfl ?_
  obtain ⟨m_1, q_3, q_4, q_5, q_6, q_7, q_8, q_9, q_10, q_11, q_12, q_13, q_14, q_15, q_16, t_2, k_17, k_18, k_19, k_20, k_21, k_22, k_23, k_24, k_25, k_26, k_27, k_28, k_29, k_30⟩ := id k_0
  have e_31 : f a_0 = ob 11 [.ref q_3, .ref q_4, .ref q_5, .ref q_6, .ref q_7, .ref q_8, .ref q_9, .ref q_10, .ref q_11, .ref q_12, .ref q_13, .ref q_14, .ref q_15, .ref q_16] := hW.at m_1 t_2
  refine v_get hC fl_X11_12 m_1 e_31 rfl dX11_tellHand_1 ?_
  obtain ⟨m_32, q_34, t_33, k_35⟩ := id k_17
  obtain ⟨v_37, v_39, v_40, v_42, v_44, v_45, e_36, b_38, b_41, b_43⟩ := hW.at m_32 t_33
  refine v_vv hC (rest := []) m_32 e_36 rfl mi_X7_start ms_X7_start (p_X7_start hW k_17) mx_X7_start ml_X11_387 (by decide) rfl (cells1 := 0) (slots1 := 0) (by decide) (by decide) (Nat.le_of_ble_eq_true rfl) (Nat.le_of_ble_eq_true rfl) rfl (Nat.le_of_ble_eq_true rfl) dX11_tellHand_4 (fun L_47 f_48 h_49 => ?_)
  obtain ⟨rfl, hW_50, hF_51⟩ := h_49
  have hf_52 := hF_51.at e_31 rfl
  refine v_aload_n hC dX11_tellHand_7 rfl ?_
  refine v_get hC fl_X11_12 m_1 hf_52 rfl dX11_tellHand_8 ?_
  refine v_ldcwS hC sr_X11_390 dX11_tellHand_11 ?_
  obtain ⟨v_54, v_56, v_57, v_59, v_61, v_62, e_53, b_55, b_58, b_60⟩ := hW_50.at m_32 t_33
  refine v_vv hC (rest := []) m_32 e_53 rfl mi_X7_takeWord ms_X7_takeWord (p_X7_takeWord hW_50 k_17 (by decide)) mx_X7_takeWord ml_X11_392 (by decide) rfl (cells1 := 0) (slots1 := 0) (by decide) (by decide) (Nat.le_of_ble_eq_true rfl) (Nat.le_of_ble_eq_true rfl) rfl (Nat.le_of_ble_eq_true rfl) dX11_tellHand_14 (fun L_64 f_65 h_66 => ?_)
  obtain ⟨rfl, hW_67, hF_68⟩ := h_66
  have hf_69 := hF_68.at hf_52 rfl
  refine v_iconst hC dX11_tellHand_17 (v := 0) (by decide) ?_
  refine v_istore_n hC dX11_tellHand_18 (by decide) (lv' := [(1, .int 0), (0, .ref a_0)]) rfl ?_
  have lp_522 : ∀ (n_523 : Nat) (f_517 : Nat → va_E) (hW_518 : WT T L f_517) (hF_519 : FR [7, 103] f_65 f_517) (i_516 : Int32) (b_521 : (0 ≤ i_516.toInt ∧ i_516.toInt ≤ 3)) (hm_525 : 3 - i_516.toInt < (n_523 : Int)), V z E 2 0 0 L f_517 19 [(1, .int i_516), (0, .ref a_0)] [] := by
    intro n_523
    induction n_523 with
    | zero =>
      intro f_517 hW_518 hF_519 i_516 b_521 hm_525
      have hf_520 := hF_519.at hf_69 rfl
      exfalso; omega
    | succ n_523 ih_524 =>
      intro f_517 hW_518 hF_519 i_516 b_521 hm_525
      have hf_520 := hF_519.at hf_69 rfl
      refine v_iload_n hC dX11_tellHand_19 rfl ?_
      refine v_iconst hC dX11_tellHand_20 (v := 3) (by decide) ?_
      refine v_icmp_ge hC dX11_tellHand_21 (tgt := 77) (by decide) (fun h_526 => ?_) (fun h_526 => ?_)
      · simp only [Int32.lt_iff_toInt_lt, Int32.le_iff_toInt_le, Int32.reduceToInt, ← Int32.toInt_inj] at h_526
        refine v_aload_n hC dX11_tellHand_77 rfl ?_
        refine v_get hC fl_X11_12 m_1 hf_520 rfl dX11_tellHand_78 ?_
        obtain ⟨v_528, v_530, v_531, v_533, v_535, v_536, e_527, b_529, b_532, b_534⟩ := hW_518.at m_32 t_33
        refine v_vv hC (rest := []) m_32 e_527 rfl mi_X7_takeSemicolon ms_X7_takeSemicolon (p_X7_takeSemicolon hW_518 k_17) mx_X7_takeSemicolon ml_X11_405 (by decide) rfl (cells1 := 0) (slots1 := 0) (by decide) (by decide) (Nat.le_of_ble_eq_true rfl) (Nat.le_of_ble_eq_true rfl) rfl (Nat.le_of_ble_eq_true rfl) dX11_tellHand_81 (fun L_538 f_539 h_540 => ?_)
        obtain ⟨rfl, hW_541, hF_542⟩ := h_540
        have hf_543 := hF_542.at hf_520 rfl
        refine v_aload_n hC dX11_tellHand_84 rfl ?_
        refine v_get hC fl_X11_12 m_1 hf_543 rfl dX11_tellHand_85 ?_
        obtain ⟨v_545, v_547, v_548, v_550, v_552, v_553, e_544, b_546, b_549, b_551⟩ := hW_541.at m_32 t_33
        refine v_vv hC (rest := []) m_32 e_544 rfl mi_X7_takeEnd ms_X7_takeEnd (p_X7_takeEnd hW_541 k_17) mx_X7_takeEnd ml_X11_408 (by decide) rfl (cells1 := 0) (slots1 := 0) (by decide) (by decide) (Nat.le_of_ble_eq_true rfl) (Nat.le_of_ble_eq_true rfl) rfl (Nat.le_of_ble_eq_true rfl) dX11_tellHand_88 (fun L_555 f_556 h_557 => ?_)
        obtain ⟨rfl, hW_558, hF_559⟩ := h_557
        have hf_560 := hF_559.at hf_543 rfl
        refine v_aload_n hC dX11_tellHand_91 rfl ?_
        refine v_get hC fl_X11_12 m_1 hf_560 rfl dX11_tellHand_92 ?_
        obtain ⟨v_562, v_564, v_565, v_567, v_569, v_570, e_561, b_563, b_566, b_568⟩ := hW_558.at m_32 t_33
        refine v_vi hC (rest := []) m_32 e_561 rfl mi_X7_isFine ms_X7_isFine (p_X7_isFine hW_558 k_17) mx_X7_isFine ml_X11_411 (by decide) rfl (cells1 := 0) (slots1 := 0) (by decide) (by decide) (Nat.le_of_ble_eq_true rfl) (Nat.le_of_ble_eq_true rfl) rfl (Nat.le_of_ble_eq_true rfl) dX11_tellHand_95 (fun r_571 L_572 f_573 h_574 => ?_)
        obtain ⟨rfl, rfl, b_575⟩ := h_574
        exact hR _ _ _ _ _ _ _ dX11_tellHand_98 (nar01 (by first | omega | (simp only [Int32.lt_iff_toInt_lt, Int32.le_iff_toInt_le, Int32.reduceToInt, ← Int32.toInt_inj, true_and, and_true, or_true, true_or, false_or, or_false, false_and, and_false, not_true_eq_false, not_false_eq_true] <;> omega))) (Nat.le_of_ble_eq_true rfl) (Nat.le_of_ble_eq_true rfl) ⟨rfl, hW_558, (((((hF_51.tr hF_68).tr hF_519).tr hF_542).tr hF_559).mono rfl), (by first | omega | (simp only [Int32.lt_iff_toInt_lt, Int32.le_iff_toInt_le, Int32.reduceToInt, ← Int32.toInt_inj, true_and, and_true, or_true, true_or, false_or, or_false, false_and, and_false, not_true_eq_false, not_false_eq_true] <;> omega))⟩
      · simp only [Int32.lt_iff_toInt_lt, Int32.le_iff_toInt_le, Int32.reduceToInt, ← Int32.toInt_inj] at h_526
        refine v_aload_n hC dX11_tellHand_24 rfl ?_
        refine v_get hC fl_X11_12 m_1 hf_520 rfl dX11_tellHand_25 ?_
        refine v_iload_n hC dX11_tellHand_28 rfl ?_
        have jn_580 : ∀ (jj_581 : Nat) (hjj_581 : jj_581 < 77), V z E 2 0 0 L f_517 52 [(1, .int i_516), (0, .ref a_0)] [.ref (eK E jj_581), .ref q_3] := by
          intro jj_581 hjj_581
          obtain ⟨v_583, v_585, v_586, v_588, v_590, v_591, e_582, b_584, b_587, b_589⟩ := hW_518.at m_32 t_33
          refine v_vv hC (rest := []) m_32 e_582 rfl mi_X7_takeWord ms_X7_takeWord (p_X7_takeWord hW_518 k_17 hjj_581) mx_X7_takeWord ml_X11_392 (by decide) rfl (cells1 := 0) (slots1 := 0) (by decide) (by decide) (Nat.le_of_ble_eq_true rfl) (Nat.le_of_ble_eq_true rfl) rfl (Nat.le_of_ble_eq_true rfl) dX11_tellHand_52 (fun L_593 f_594 h_595 => ?_)
          obtain ⟨rfl, hW_596, hF_597⟩ := h_595
          have hf_598 := hF_597.at hf_520 rfl
          refine v_aload_n hC dX11_tellHand_55 rfl ?_
          refine v_get hC fl_X11_47 m_1 hf_598 rfl dX11_tellHand_56 ?_
          refine v_iload_n hC dX11_tellHand_59 rfl ?_
          refine v_aload_n hC dX11_tellHand_60 rfl ?_
          refine v_get hC fl_X11_12 m_1 hf_598 rfl dX11_tellHand_61 ?_
          refine v_iconst hC dX11_tellHand_64 (v := 0) (by decide) ?_
          refine v_bipush hC dX11_tellHand_65 (v := 100) (by decide) ?_
          obtain ⟨v_600, v_602, v_603, v_605, v_607, v_608, e_599, b_601, b_604, b_606⟩ := hW_596.at m_32 t_33
          refine v_vi hC (rest := [.int i_516, .ref q_9]) m_32 e_599 rfl mi_X7_takeNumber ms_X7_takeNumber (p_X7_takeNumber hW_596 k_17) mx_X7_takeNumber ml_X11_402 (by decide) rfl (cells1 := 0) (slots1 := 0) (by decide) (by decide) (Nat.le_of_ble_eq_true rfl) (Nat.le_of_ble_eq_true rfl) rfl (Nat.le_of_ble_eq_true rfl) dX11_tellHand_67 (fun r_609 L_610 f_611 h_612 => ?_)
          obtain ⟨rfl, hW_614, hF_615, x_613⟩ := h_612
          have hf_616 := hF_615.at hf_598 rfl
          try simp only [Int32.reduceToInt, Int64.reduceToInt] at x_613
          obtain ⟨m_617, t_618⟩ := id k_23
          obtain ⟨g_620, e_619⟩ := hW_614.at m_617 t_618
          refine v_iast hC m_617 e_619 (vp_in_iff.mpr (by first | omega | (simp only [Int32.lt_iff_toInt_lt, Int32.le_iff_toInt_le, Int32.reduceToInt, ← Int32.toInt_inj, true_and, and_true, or_true, true_or, false_or, or_false, false_and, and_false, not_true_eq_false, not_false_eq_true] <;> omega))) dX11_tellHand_70 (fun f_621 hf_622 hk_623 => ?_)
          have hW_625 := hW_614.up hf_622 hk_623 t_618 ⟨_, rfl⟩
          obtain ⟨g_624, hf_622⟩ : ∃ g9, f_621 q_9 = aI E 3 g9 := ⟨_, hf_622⟩
          have hf_626 := (hk_623 a_0 (ne_kd hf_616 e_619 rfl)).trans hf_616
          have fr_627 := FR.w hk_623 e_619 (k := 103) rfl
          obtain ⟨v_628, h_629⟩ : ∃ v9 : Int32, i_516 + Int32.ofInt 1 = v9 := ⟨_, rfl⟩
          have h_630 := add_v (b := 1) h_629 (by first | omega | (simp only [Int32.lt_iff_toInt_lt, Int32.le_iff_toInt_le, Int32.reduceToInt, ← Int32.toInt_inj, true_and, and_true, or_true, true_or, false_or, or_false, false_and, and_false, not_true_eq_false, not_false_eq_true] <;> omega)) (by first | omega | (simp only [Int32.lt_iff_toInt_lt, Int32.le_iff_toInt_le, Int32.reduceToInt, ← Int32.toInt_inj, true_and, and_true, or_true, true_or, false_or, or_false, false_and, and_false, not_true_eq_false, not_false_eq_true] <;> omega))
          simp only [Int32.reduceToInt] at h_630
          refine v_iinc hC dX11_tellHand_71 (k := 0) rfl (v := v_628) h_629 (by decide) (lv' := [(1, .int v_628), (0, .ref a_0)]) rfl ?_
          refine v_goto hC dX11_tellHand_74 (tgt := 19) (by decide) ?_
          refine v_pick [0, 1] rfl ?_
          exact ih_524 f_621 hW_625 ((((hF_519.tr hF_597).tr hF_615).tr fr_627).mono rfl) v_628 (by first | omega | (simp only [Int32.lt_iff_toInt_lt, Int32.le_iff_toInt_le, Int32.reduceToInt, ← Int32.toInt_inj, true_and, and_true, or_true, true_or, false_or, or_false, false_and, and_false, not_true_eq_false, not_false_eq_true] <;> omega)) (by first | omega | (simp only [Int32.lt_iff_toInt_lt, Int32.le_iff_toInt_le, Int32.reduceToInt, ← Int32.toInt_inj, true_and, and_true, or_true, true_or, false_or, or_false, false_and, and_false, not_true_eq_false, not_false_eq_true] <;> omega))
        refine v_if_ne hC dX11_tellHand_29 (tgt := 38) (by decide) (fun h_578 => ?_) (fun h_578 => ?_)
        · simp only [Int32.lt_iff_toInt_lt, Int32.le_iff_toInt_le, Int32.reduceToInt, ← Int32.toInt_inj] at h_578
          refine v_iload_n hC dX11_tellHand_38 rfl ?_
          refine v_iconst hC dX11_tellHand_39 (v := 1) (by decide) ?_
          refine v_icmp_ne hC dX11_tellHand_40 (tgt := 49) (by decide) (fun h_631 => ?_) (fun h_631 => ?_)
          · simp only [Int32.lt_iff_toInt_lt, Int32.le_iff_toInt_le, Int32.reduceToInt, ← Int32.toInt_inj] at h_631
            refine v_ldcwS hC sr_X11_400 dX11_tellHand_49 ?_
            refine v_pick [0, 1] rfl ?_
            exact jn_580 7 (by decide)
          · simp only [Int32.lt_iff_toInt_lt, Int32.le_iff_toInt_le, Int32.reduceToInt, ← Int32.toInt_inj] at h_631
            refine v_ldcwS hC sr_X11_398 dX11_tellHand_43 ?_
            refine v_goto hC dX11_tellHand_46 (tgt := 52) (by decide) ?_
            refine v_pick [0, 1] rfl ?_
            exact jn_580 6 (by decide)
        · simp only [Int32.lt_iff_toInt_lt, Int32.le_iff_toInt_le, Int32.reduceToInt, ← Int32.toInt_inj] at h_578
          refine v_ldcwS hC sr_X11_396 dX11_tellHand_32 ?_
          refine v_goto hC dX11_tellHand_35 (tgt := 52) (by decide) ?_
          refine v_pick [0, 1] rfl ?_
          exact jn_580 5 (by decide)
  refine v_pick [0, 1] rfl ?_
  exact lp_522 5 f_65 hW_67 FR.rf 0 (by decide) (by decide)
set_option maxRecDepth 100000 in
set_option maxHeartbeats 8000000 in
theorem p_X11_hand {l : Launch} {E : Ez} {L : List Nat} {f : Nat → va_E} {T : Nat → va_E → Prop} {a_0 : Nat} (hW : WT T L f) (k_0 : isX T L E a_0) : CI l yX11_hand cX11_hand 2 .int 7 0 0 E [.ref a_0] L f (fun r L1 f1 => L = L1 ∧ WT T L f1 ∧ FR [7, 103] f f1 ∧ ((-4) ≤ r.toInt ∧ r.toInt ≤ 0)) := by
  refine ci_of (by decide) (Nat.le_of_ble_eq_true rfl) (fun z hz hnm hC hR => ?_)
  have hC : Cx z E cX11_hand RX11 2 7 0 0 := hC
  subst hz
  show V z E 2 0 0 L f 0 [(0, .ref a_0)] []
  refine v_aload_n hC dX11_hand_0 rfl ?_
  obtain ⟨m_1, q_3, q_4, q_5, q_6, q_7, q_8, q_9, q_10, q_11, q_12, q_13, q_14, q_15, q_16, t_2, k_17, k_18, k_19, k_20, k_21, k_22, k_23, k_24, k_25, k_26, k_27, k_28, k_29, k_30⟩ := id k_0
  have e_31 : f a_0 = ob 11 [.ref q_3, .ref q_4, .ref q_5, .ref q_6, .ref q_7, .ref q_8, .ref q_9, .ref q_10, .ref q_11, .ref q_12, .ref q_13, .ref q_14, .ref q_15, .ref q_16] := hW.at m_1 t_2
  refine v_vi hC (rest := []) m_1 e_31 rfl mi_X11_tellHand ms_X11_tellHand (p_X11_tellHand hW k_0) mx_X11_tellHand ml_X11_129 (by decide) rfl (cells1 := 0) (slots1 := 0) (by decide) (by decide) (Nat.le_of_ble_eq_true rfl) (Nat.le_of_ble_eq_true rfl) rfl (Nat.le_of_ble_eq_true rfl) dX11_hand_1 (fun r_32 L_33 f_34 h_35 => ?_)
  obtain ⟨rfl, hW_37, hF_38, b_36⟩ := h_35
  have hf_39 := hF_38.at e_31 rfl
  refine v_istore_n hC dX11_hand_4 (by decide) (lv' := [(1, .int r_32), (0, .ref a_0)]) rfl ?_
  refine v_aload_n hC dX11_hand_5 rfl ?_
  refine v_get hC fl_X11_12 m_1 hf_39 rfl dX11_hand_6 ?_
  obtain ⟨m_40, q_42, t_41, k_43⟩ := id k_17
  obtain ⟨v_45, v_47, v_48, v_50, v_52, v_53, e_44, b_46, b_49, b_51⟩ := hW_37.at m_40 t_41
  refine v_vv hC (rest := []) m_40 e_44 rfl mi_X7_empty ms_X7_empty (p_X7_empty hW_37 k_17) mx_X7_empty ml_X11_113 (by decide) rfl (cells1 := 0) (slots1 := 0) (by decide) (by decide) (Nat.le_of_ble_eq_true rfl) (Nat.le_of_ble_eq_true rfl) rfl (Nat.le_of_ble_eq_true rfl) dX11_hand_9 (fun L_55 f_56 h_57 => ?_)
  obtain ⟨rfl, hW_58, hF_59⟩ := h_57
  have hf_60 := hF_59.at hf_39 rfl
  refine v_iload_n hC dX11_hand_12 rfl ?_
  refine v_if_ne hC dX11_hand_13 (tgt := 19) (by decide) (fun h_61 => ?_) (fun h_61 => ?_)
  · simp only [Int32.lt_iff_toInt_lt, Int32.le_iff_toInt_le, Int32.reduceToInt, ← Int32.toInt_inj] at h_61
    refine v_aload_n hC dX11_hand_19 rfl ?_
    refine v_get hC fl_X11_47 m_1 hf_60 rfl dX11_hand_20 ?_
    refine v_iconst hC dX11_hand_23 (v := 0) (by decide) ?_
    refine v_aload_n hC dX11_hand_24 rfl ?_
    refine v_get hC fl_X11_19 m_1 hf_60 rfl dX11_hand_25 ?_
    obtain ⟨m_62, q_64, q_65, q_66, q_67, q_68, q_69, t_63, k_70, k_71, k_72, k_73, k_74, k_75⟩ := id k_18
    have e_76 : f_56 q_4 = ob 0 [.ref q_64, .ref q_65, .ref q_66, .ref q_67, .ref q_68, .ref q_69] := hW_58.at m_62 t_63
    refine v_getN hC fn_X11_133 m_62 e_76 rfl dX11_hand_28 ?_
    refine v_iconst hC dX11_hand_31 (v := 0) (by decide) ?_
    refine v_iconst hC dX11_hand_32 (v := 3) (by decide) ?_
    obtain ⟨m_77, t_78⟩ := id k_23
    obtain ⟨g_80, e_79⟩ := hW_58.at m_77 t_78
    obtain ⟨m_81, t_82⟩ := id k_71
    obtain ⟨g_84, e_83⟩ := hW_58.at m_81 t_82
    refine v_copyi hC mo_X11_136 cp_n_ cp_s_ cp_i_ m_77 e_79 m_81 e_83 (by decide) (by decide) (by decide) (by decide) (by decide) (by decide) (Nat.le_of_ble_eq_true rfl) dX11_hand_33 (fun f_85 hf_86 hk_87 => ?_)
    have hW_88 := hW_58.up hf_86 hk_87 t_82 ⟨_, rfl⟩
    obtain ⟨g_89, hf_86⟩ : ∃ g9, f_85 q_65 = aI E 3 g9 := ⟨_, hf_86⟩
    have hf_90 := (hk_87 a_0 (ne_kd hf_60 e_83 rfl)).trans hf_60
    have hf_91 := (hk_87 q_4 (ne_kd e_76 e_83 rfl)).trans e_76
    have fr_92 := FR.w hk_87 e_83 (k := 103) rfl
    refine v_iconst hC dX11_hand_36 (v := 0) (by decide) ?_
    exact hR _ _ _ _ _ _ _ dX11_hand_37 rfl (Nat.le_of_ble_eq_true rfl) (Nat.le_of_ble_eq_true rfl) ⟨rfl, hW_88, (((hF_38.tr hF_59).tr fr_92).mono rfl), (by decide)⟩
  · simp only [Int32.lt_iff_toInt_lt, Int32.le_iff_toInt_le, Int32.reduceToInt, ← Int32.toInt_inj] at h_61
    refine v_bipush hC dX11_hand_16 (v := (-4)) (by decide) ?_
    exact hR _ _ _ _ _ _ _ dX11_hand_18 rfl (Nat.le_of_ble_eq_true rfl) (Nat.le_of_ble_eq_true rfl) ⟨rfl, hW_58, ((hF_38.tr hF_59).mono rfl), (by decide)⟩
set_option maxRecDepth 100000 in
set_option maxHeartbeats 8000000 in
theorem p_X11_isWay {l : Launch} {E : Ez} {L : List Nat} {f : Nat → va_E} {T : Nat → va_E → Prop} {a_0 : Int32} (hW : WT T L f) : CI l yX11_isWay cX11_isWay 1 .boolean 0 0 0 E [.int a_0] L f (fun r L1 f1 => L = L1 ∧ f = f1 ∧ (0 ≤ r.toInt ∧ r.toInt ≤ 1) ∧ (r.toInt = 0 ∨ (0 ≤ a_0.toInt ∧ a_0.toInt ≤ 5))) := by
  refine ci_of (by decide) (Nat.le_of_ble_eq_true rfl) (fun z hz hnm hC hR => ?_)
  have hC : Cx z E cX11_isWay RX11 1 0 0 0 := hC
  subst hz
  show V z E 1 0 0 L f 0 [(0, .int a_0)] []
  refine v_iload_n hC dX11_isWay_0 rfl ?_
  refine v_if_lt hC dX11_isWay_1 (tgt := 14) (by decide) (fun h_1 => ?_) (fun h_1 => ?_)
  · simp only [Int32.lt_iff_toInt_lt, Int32.le_iff_toInt_le, Int32.reduceToInt, ← Int32.toInt_inj] at h_1
    refine v_iconst hC dX11_isWay_14 (v := 0) (by decide) ?_
    exact hR _ _ _ _ _ _ _ dX11_isWay_15 rfl (Nat.le_of_ble_eq_true rfl) (Nat.le_of_ble_eq_true rfl) ⟨rfl, rfl, (by decide), (.inl (by decide))⟩
  · simp only [Int32.lt_iff_toInt_lt, Int32.le_iff_toInt_le, Int32.reduceToInt, ← Int32.toInt_inj] at h_1
    refine v_iload_n hC dX11_isWay_4 rfl ?_
    refine v_bipush hC dX11_isWay_5 (v := 6) (by decide) ?_
    refine v_icmp_ge hC dX11_isWay_7 (tgt := 14) (by decide) (fun h_2 => ?_) (fun h_2 => ?_)
    · simp only [Int32.lt_iff_toInt_lt, Int32.le_iff_toInt_le, Int32.reduceToInt, ← Int32.toInt_inj] at h_2
      refine v_iconst hC dX11_isWay_14 (v := 0) (by decide) ?_
      exact hR _ _ _ _ _ _ _ dX11_isWay_15 rfl (Nat.le_of_ble_eq_true rfl) (Nat.le_of_ble_eq_true rfl) ⟨rfl, rfl, (by decide), (.inl (by decide))⟩
    · simp only [Int32.lt_iff_toInt_lt, Int32.le_iff_toInt_le, Int32.reduceToInt, ← Int32.toInt_inj] at h_2
      refine v_iconst hC dX11_isWay_10 (v := 1) (by decide) ?_
      refine v_goto hC dX11_isWay_11 (tgt := 15) (by decide) ?_
      exact hR _ _ _ _ _ _ _ dX11_isWay_15 rfl (Nat.le_of_ble_eq_true rfl) (Nat.le_of_ble_eq_true rfl) ⟨rfl, rfl, (by decide), (.inr (by first | omega | (simp only [Int32.lt_iff_toInt_lt, Int32.le_iff_toInt_le, Int32.reduceToInt, ← Int32.toInt_inj, true_and, and_true, or_true, true_or, false_or, or_false, false_and, and_false, not_true_eq_false, not_false_eq_true] <;> omega)))⟩
