set_option maxRecDepth 100000 in
set_option maxHeartbeats 4000000 in
theorem lc_20 {z : Cz} {E : Ez} {b x m N : Nat} {xs : Nat → Int32} (hC : Cx z E cL_law RL 4 14 600000 7302250) (hX : va_X b N xs (zs z) (zs z).heap) (hbl : b < (zs z).heap.size) (hbA : ¬ zA z b) (hN : N ≤ 3072) {i : Int32} {c s : Nat} (hi : 0 ≤ i.toInt ∧ i.toInt + 6 ≤ (N : Int)) (hc : c + 27 ≤ 600000) (hs : s + 1953 ≤ 7302250) (hT : ∀ (Lx Lm : List Nat) (f : Nat → va_E), LX E x Lx f → LM E m Lm f → RLn f x m → V z E 4 (c + 27) (s + 1953) (Lx ++ Lm) f 1468 [(3, .int i), (2, .ref m), (1, .ref x), (0, .ref b)] []) {Lx Lm : List Nat} {f : Nat → va_E} (hLX : LX E x Lx f) (hLM : LM E m Lm f) (hRL : RLn f x m) : V z E 4 c s (Lx ++ Lm) f 768 [(3, .int i), (2, .ref m), (1, .ref x), (0, .ref b)] [] := by
  refine v_aload_n hC dL_law_768 rfl ?_
  refine v_aload_n hC dL_law_769 rfl ?_
  refine v_iload_n hC dL_law_770 rfl ?_
  refine v_iconst hC dL_law_771 (v := 1) (by decide) ?_
  obtain ⟨v_1, h_2⟩ : ∃ v9 : Int32, i + 1 = v9 := ⟨_, rfl⟩
  refine v_iadd hC dL_law_772 h_2 ?_
  have h_3 := add_v h_2 (by first | omega | (simp only [Int32.lt_iff_toInt_lt, Int32.le_iff_toInt_le, Int32.reduceToInt, ← Int32.toInt_inj, true_and, and_true, or_true, true_or, false_or, or_false, false_and, and_false, not_true_eq_false, not_false_eq_true] <;> omega)) (by first | omega | (simp only [Int32.lt_iff_toInt_lt, Int32.le_iff_toInt_le, Int32.reduceToInt, ← Int32.toInt_inj, true_and, and_true, or_true, true_or, false_or, or_false, false_and, and_false, not_true_eq_false, not_false_eq_true] <;> omega))
  try simp only [Int32.reduceToInt] at h_3
  obtain ⟨v_4, h_5⟩ : ∃ v9 : Int32, xs (v_1 : Int32).toNatClampNeg = v9 := ⟨_, rfl⟩
  refine v_sld hC hX hbl hbA (vp_in_iff.mpr (by omega)) h_5 dL_law_773 ?_
  refine v_aload_n hC dL_law_774 rfl ?_
  refine v_iload_n hC dL_law_775 rfl ?_
  refine v_iconst hC dL_law_776 (v := 2) (by decide) ?_
  obtain ⟨v_6, h_7⟩ : ∃ v9 : Int32, i + 2 = v9 := ⟨_, rfl⟩
  refine v_iadd hC dL_law_777 h_7 ?_
  have h_8 := add_v h_7 (by first | omega | (simp only [Int32.lt_iff_toInt_lt, Int32.le_iff_toInt_le, Int32.reduceToInt, ← Int32.toInt_inj, true_and, and_true, or_true, true_or, false_or, or_false, false_and, and_false, not_true_eq_false, not_false_eq_true] <;> omega)) (by first | omega | (simp only [Int32.lt_iff_toInt_lt, Int32.le_iff_toInt_le, Int32.reduceToInt, ← Int32.toInt_inj, true_and, and_true, or_true, true_or, false_or, or_false, false_and, and_false, not_true_eq_false, not_false_eq_true] <;> omega))
  try simp only [Int32.reduceToInt] at h_8
  obtain ⟨v_9, h_10⟩ : ∃ v9 : Int32, xs (v_6 : Int32).toNatClampNeg = v9 := ⟨_, rfl⟩
  refine v_sld hC hX hbl hbA (vp_in_iff.mpr (by omega)) h_10 dL_law_778 ?_
  refine v_swap ?_
  obtain ⟨T_18, hW_19, k_20⟩ := hLX
  obtain ⟨m_22, q_25, q_26, q_27, q_28, q_29, q_30, q_31, q_32, q_33, q_34, q_35, q_36, q_37, q_38, t_23, -, -, -, -, -, -, -, -, -, -, -, -, -, -⟩ := id k_20
  have e_24 := hW_19.at m_22 t_23
  refine v_viR hC (rest := []) m_22 e_24 rfl mi_X11_counts ms_X11_counts (p_X11_counts hW_19 k_20) mx_X11_counts ml_L_98 (by decide) rfl (cells1 := c) (slots1 := s) rfl rfl (by omega) (by omega) rfl (Nat.le_of_ble_eq_true rfl) dL_law_779 (fun r_11 L_12 f_13 f_14 h_15 g_16 g_17 => ?_)
  have e_42 := h_15.2.1
  have hl_41 := h_15.1
  subst hl_41
  have lx_39 : LX E x _ f_14 := ⟨T_18, e_42.cg g_17, k_20⟩
  have lm_40 := hLM.cg g_16
  obtain ⟨T_45, q_46, hW_47, k_48⟩ := id hLM
  have sm_44 : MSAME f f_14 m := zm_cg hW_47 k_48 g_16
  have sx_43 : SAME f f_14 x := zs_T hW_19 e_42 k_20 h_15.2.2.1 rfl g_17
  have rl_49 := RLn.step hRL sx_43 sm_44
  refine v_swap ?_
  refine v_pop hC dL_law_782 rfl ?_
  refine v_aload_n hC dL_law_783 rfl ?_
  refine v_aload_n hC dL_law_784 rfl ?_
  refine v_iload_n hC dL_law_785 rfl ?_
  refine v_iconst hC dL_law_786 (v := 1) (by decide) ?_
  refine v_iadd hC dL_law_787 h_2 ?_
  refine v_sld hC hX hbl hbA (vp_in_iff.mpr (by omega)) h_5 dL_law_788 ?_
  refine v_aload_n hC dL_law_789 rfl ?_
  refine v_iload_n hC dL_law_790 rfl ?_
  refine v_iconst hC dL_law_791 (v := 2) (by decide) ?_
  refine v_iadd hC dL_law_792 h_7 ?_
  refine v_sld hC hX hbl hbA (vp_in_iff.mpr (by omega)) h_10 dL_law_793 ?_
  obtain ⟨T_57, q_60, hW_58, k_59⟩ := lm_40
  obtain ⟨m_61, t_62, -, k1_k_59, -, -, -, -, k14_k_59, -⟩ := id k_59
  obtain ⟨v_64, v_65, v_66, v_67, v_68, v_69, v_70, v_71, v_72, v_73, v_74, e_63, -, -, -, -, -, -, -⟩ := hW_58.at m_61 t_62
  obtain ⟨g_75, e_76, o_77⟩ := hW_58.at k1_k_59.1 k1_k_59.2
  refine v_viR hC (rest := []) m_61 e_63 rfl mi_X12_counts ms_X12_counts (p_X12_counts hW_58 k_59 e_76 o_77) mx_X12_counts ml_L_101 (by decide) rfl (cells1 := c) (slots1 := s) rfl rfl (by omega) (by omega) rfl (Nat.le_of_ble_eq_true rfl) dL_law_794 (fun r_50 L_51 f_52 f_53 h_54 g_55 g_56 => ?_)
  have e_81 := h_54.2.1
  have hl_80 := h_54.1
  subst hl_80
  have lx_78 : LM E m _ f_53 := ⟨T_57, q_60, e_81.cg g_56, k_59⟩
  have lm_79 := lx_39.cg g_55
  obtain ⟨T_84, hW_85, k_86⟩ := id lx_39
  have sx_82 : SAME f_14 f_53 x := zs_cg hW_85 k_86 g_55
  have sm_83 : MSAME f_14 f_53 m := zm_T hW_58 e_81 k_59 h_54.2.2.1 rfl g_56
  have rl_87 := RLn.step rl_49 sx_82 sm_83
  refine v_pop hC dL_law_797 rfl ?_
  refine v_goto hC dL_law_798 (tgt := 1468) (by decide) ?_
  refine v_widen (k := c + 27) (n := s + 1953) (by omega) (by omega) ?_
  exact hT _ _ _ lm_79 lx_78 rl_87
set_option maxRecDepth 100000 in
set_option maxHeartbeats 4000000 in
theorem lc_21 {z : Cz} {E : Ez} {b x m N : Nat} {xs : Nat → Int32} (hC : Cx z E cL_law RL 4 14 600000 7302250) (hX : va_X b N xs (zs z) (zs z).heap) (hbl : b < (zs z).heap.size) (hbA : ¬ zA z b) (hN : N ≤ 3072) {i : Int32} {c s : Nat} (hi : 0 ≤ i.toInt ∧ i.toInt + 6 ≤ (N : Int)) (hc : c + 27 ≤ 600000) (hs : s + 1953 ≤ 7302250) (hT : ∀ (Lx Lm : List Nat) (f : Nat → va_E), LX E x Lx f → LM E m Lm f → RLn f x m → V z E 4 (c + 27) (s + 1953) (Lx ++ Lm) f 1468 [(3, .int i), (2, .ref m), (1, .ref x), (0, .ref b)] []) {Lx Lm : List Nat} {f : Nat → va_E} (hLX : LX E x Lx f) (hLM : LM E m Lm f) (hRL : RLn f x m) : V z E 4 c s (Lx ++ Lm) f 801 [(3, .int i), (2, .ref m), (1, .ref x), (0, .ref b)] [] := by
  refine v_aload_n hC dL_law_801 rfl ?_
  refine v_aload_n hC dL_law_802 rfl ?_
  refine v_iload_n hC dL_law_803 rfl ?_
  refine v_iconst hC dL_law_804 (v := 1) (by decide) ?_
  obtain ⟨v_1, h_2⟩ : ∃ v9 : Int32, i + 1 = v9 := ⟨_, rfl⟩
  refine v_iadd hC dL_law_805 h_2 ?_
  have h_3 := add_v h_2 (by first | omega | (simp only [Int32.lt_iff_toInt_lt, Int32.le_iff_toInt_le, Int32.reduceToInt, ← Int32.toInt_inj, true_and, and_true, or_true, true_or, false_or, or_false, false_and, and_false, not_true_eq_false, not_false_eq_true] <;> omega)) (by first | omega | (simp only [Int32.lt_iff_toInt_lt, Int32.le_iff_toInt_le, Int32.reduceToInt, ← Int32.toInt_inj, true_and, and_true, or_true, true_or, false_or, or_false, false_and, and_false, not_true_eq_false, not_false_eq_true] <;> omega))
  try simp only [Int32.reduceToInt] at h_3
  obtain ⟨v_4, h_5⟩ : ∃ v9 : Int32, xs (v_1 : Int32).toNatClampNeg = v9 := ⟨_, rfl⟩
  refine v_sld hC hX hbl hbA (vp_in_iff.mpr (by omega)) h_5 dL_law_806 ?_
  refine v_swap ?_
  obtain ⟨T_13, hW_14, k_15⟩ := hLX
  obtain ⟨m_17, q_20, q_21, q_22, q_23, q_24, q_25, q_26, q_27, q_28, q_29, q_30, q_31, q_32, q_33, t_18, -, -, -, -, -, -, -, -, -, -, -, -, -, -⟩ := id k_15
  have e_19 := hW_14.at m_17 t_18
  refine v_viR hC (rest := []) m_17 e_19 rfl mi_X11_stops ms_X11_stops (p_X11_stops hW_14 k_15) mx_X11_stops ml_L_102 (by decide) rfl (cells1 := c) (slots1 := s) rfl rfl (by omega) (by omega) rfl (Nat.le_of_ble_eq_true rfl) dL_law_807 (fun r_6 L_7 f_8 f_9 h_10 g_11 g_12 => ?_)
  have e_37 := h_10.2.1
  have hl_36 := h_10.1
  subst hl_36
  have lx_34 : LX E x _ f_9 := ⟨T_13, e_37.cg g_12, k_15⟩
  have lm_35 := hLM.cg g_11
  obtain ⟨T_40, q_41, hW_42, k_43⟩ := id hLM
  have sm_39 : MSAME f f_9 m := zm_cg hW_42 k_43 g_11
  have sx_38 : SAME f f_9 x := zs_T hW_14 e_37 k_15 h_10.2.2.1 rfl g_12
  have rl_44 := RLn.step hRL sx_38 sm_39
  refine v_swap ?_
  refine v_pop hC dL_law_810 rfl ?_
  refine v_aload_n hC dL_law_811 rfl ?_
  refine v_aload_n hC dL_law_812 rfl ?_
  refine v_iload_n hC dL_law_813 rfl ?_
  refine v_iconst hC dL_law_814 (v := 1) (by decide) ?_
  refine v_iadd hC dL_law_815 h_2 ?_
  refine v_sld hC hX hbl hbA (vp_in_iff.mpr (by omega)) h_5 dL_law_816 ?_
  obtain ⟨T_52, q_55, hW_53, k_54⟩ := lm_35
  obtain ⟨m_56, t_57, -, k1_k_54, -, -, -, -, k14_k_54, -⟩ := id k_54
  obtain ⟨v_59, v_60, v_61, v_62, v_63, v_64, v_65, v_66, v_67, v_68, v_69, e_58, -, -, -, -, -, -, -⟩ := hW_53.at m_56 t_57
  obtain ⟨g_70, e_71, o_72⟩ := hW_53.at k1_k_54.1 k1_k_54.2
  refine v_viR hC (rest := []) m_56 e_58 rfl mi_X12_stops ms_X12_stops (p_X12_stops hW_53 k_54 e_71 o_72) mx_X12_stops ml_L_105 (by decide) rfl (cells1 := c) (slots1 := s) rfl rfl (by omega) (by omega) rfl (Nat.le_of_ble_eq_true rfl) dL_law_817 (fun r_45 L_46 f_47 f_48 h_49 g_50 g_51 => ?_)
  have e_76 := h_49.2.1
  have hl_75 := h_49.1
  subst hl_75
  have lx_73 : LM E m _ f_48 := ⟨T_52, q_55, e_76.cg g_51, k_54⟩
  have lm_74 := lx_34.cg g_50
  obtain ⟨T_79, hW_80, k_81⟩ := id lx_34
  have sx_77 : SAME f_9 f_48 x := zs_cg hW_80 k_81 g_50
  have sm_78 : MSAME f_9 f_48 m := zm_T hW_53 e_76 k_54 h_49.2.2.1 rfl g_51
  have rl_82 := RLn.step rl_44 sx_77 sm_78
  refine v_pop hC dL_law_820 rfl ?_
  refine v_goto hC dL_law_821 (tgt := 1468) (by decide) ?_
  refine v_widen (k := c + 27) (n := s + 1953) (by omega) (by omega) ?_
  exact hT _ _ _ lm_74 lx_73 rl_82
set_option maxRecDepth 100000 in
set_option maxHeartbeats 4000000 in
theorem lc_22 {z : Cz} {E : Ez} {b x m N : Nat} {xs : Nat → Int32} (hC : Cx z E cL_law RL 4 14 600000 7302250) (hX : va_X b N xs (zs z) (zs z).heap) (hbl : b < (zs z).heap.size) (hbA : ¬ zA z b) (hN : N ≤ 3072) {i : Int32} {c s : Nat} (hi : 0 ≤ i.toInt ∧ i.toInt + 6 ≤ (N : Int)) (hc : c + 27 ≤ 600000) (hs : s + 1953 ≤ 7302250) (hT : ∀ (Lx Lm : List Nat) (f : Nat → va_E), LX E x Lx f → LM E m Lm f → RLn f x m → V z E 4 (c + 27) (s + 1953) (Lx ++ Lm) f 1468 [(3, .int i), (2, .ref m), (1, .ref x), (0, .ref b)] []) {Lx Lm : List Nat} {f : Nat → va_E} (hLX : LX E x Lx f) (hLM : LM E m Lm f) (hRL : RLn f x m) : V z E 4 c s (Lx ++ Lm) f 824 [(3, .int i), (2, .ref m), (1, .ref x), (0, .ref b)] [] := by
  refine v_aload_n hC dL_law_824 rfl ?_
  refine v_aload_n hC dL_law_825 rfl ?_
  refine v_iload_n hC dL_law_826 rfl ?_
  refine v_iconst hC dL_law_827 (v := 1) (by decide) ?_
  obtain ⟨v_1, h_2⟩ : ∃ v9 : Int32, i + 1 = v9 := ⟨_, rfl⟩
  refine v_iadd hC dL_law_828 h_2 ?_
  have h_3 := add_v h_2 (by first | omega | (simp only [Int32.lt_iff_toInt_lt, Int32.le_iff_toInt_le, Int32.reduceToInt, ← Int32.toInt_inj, true_and, and_true, or_true, true_or, false_or, or_false, false_and, and_false, not_true_eq_false, not_false_eq_true] <;> omega)) (by first | omega | (simp only [Int32.lt_iff_toInt_lt, Int32.le_iff_toInt_le, Int32.reduceToInt, ← Int32.toInt_inj, true_and, and_true, or_true, true_or, false_or, or_false, false_and, and_false, not_true_eq_false, not_false_eq_true] <;> omega))
  try simp only [Int32.reduceToInt] at h_3
  obtain ⟨v_4, h_5⟩ : ∃ v9 : Int32, xs (v_1 : Int32).toNatClampNeg = v9 := ⟨_, rfl⟩
  refine v_sld hC hX hbl hbA (vp_in_iff.mpr (by omega)) h_5 dL_law_829 ?_
  refine v_aload_n hC dL_law_830 rfl ?_
  refine v_iload_n hC dL_law_831 rfl ?_
  refine v_iconst hC dL_law_832 (v := 2) (by decide) ?_
  obtain ⟨v_6, h_7⟩ : ∃ v9 : Int32, i + 2 = v9 := ⟨_, rfl⟩
  refine v_iadd hC dL_law_833 h_7 ?_
  have h_8 := add_v h_7 (by first | omega | (simp only [Int32.lt_iff_toInt_lt, Int32.le_iff_toInt_le, Int32.reduceToInt, ← Int32.toInt_inj, true_and, and_true, or_true, true_or, false_or, or_false, false_and, and_false, not_true_eq_false, not_false_eq_true] <;> omega)) (by first | omega | (simp only [Int32.lt_iff_toInt_lt, Int32.le_iff_toInt_le, Int32.reduceToInt, ← Int32.toInt_inj, true_and, and_true, or_true, true_or, false_or, or_false, false_and, and_false, not_true_eq_false, not_false_eq_true] <;> omega))
  try simp only [Int32.reduceToInt] at h_8
  obtain ⟨v_9, h_10⟩ : ∃ v9 : Int32, xs (v_6 : Int32).toNatClampNeg = v9 := ⟨_, rfl⟩
  refine v_sld hC hX hbl hbA (vp_in_iff.mpr (by omega)) h_10 dL_law_834 ?_
  refine v_swap ?_
  obtain ⟨T_18, hW_19, k_20⟩ := hLX
  obtain ⟨m_22, q_25, q_26, q_27, q_28, q_29, q_30, q_31, q_32, q_33, q_34, q_35, q_36, q_37, q_38, t_23, -, -, -, -, -, -, -, -, -, -, -, -, -, -⟩ := id k_20
  have e_24 := hW_19.at m_22 t_23
  refine v_viR hC (rest := []) m_22 e_24 rfl mi_X11_odds ms_X11_odds (p_X11_odds hW_19 k_20) mx_X11_odds ml_L_106 (by decide) rfl (cells1 := c) (slots1 := s) rfl rfl (by omega) (by omega) rfl (Nat.le_of_ble_eq_true rfl) dL_law_835 (fun r_11 L_12 f_13 f_14 h_15 g_16 g_17 => ?_)
  have e_42 := h_15.2.1
  have hl_41 := h_15.1
  subst hl_41
  have lx_39 : LX E x _ f_14 := ⟨T_18, e_42.cg g_17, k_20⟩
  have lm_40 := hLM.cg g_16
  obtain ⟨T_45, q_46, hW_47, k_48⟩ := id hLM
  have sm_44 : MSAME f f_14 m := zm_cg hW_47 k_48 g_16
  have sx_43 : SAME f f_14 x := zs_T hW_19 e_42 k_20 h_15.2.2.1 rfl g_17
  have rl_49 := RLn.step hRL sx_43 sm_44
  refine v_swap ?_
  refine v_pop hC dL_law_838 rfl ?_
  refine v_aload_n hC dL_law_839 rfl ?_
  refine v_aload_n hC dL_law_840 rfl ?_
  refine v_iload_n hC dL_law_841 rfl ?_
  refine v_iconst hC dL_law_842 (v := 1) (by decide) ?_
  refine v_iadd hC dL_law_843 h_2 ?_
  refine v_sld hC hX hbl hbA (vp_in_iff.mpr (by omega)) h_5 dL_law_844 ?_
  refine v_aload_n hC dL_law_845 rfl ?_
  refine v_iload_n hC dL_law_846 rfl ?_
  refine v_iconst hC dL_law_847 (v := 2) (by decide) ?_
  refine v_iadd hC dL_law_848 h_7 ?_
  refine v_sld hC hX hbl hbA (vp_in_iff.mpr (by omega)) h_10 dL_law_849 ?_
  obtain ⟨T_57, q_60, hW_58, k_59⟩ := lm_40
  obtain ⟨m_61, t_62, -, k1_k_59, -, -, -, -, k14_k_59, -⟩ := id k_59
  obtain ⟨v_64, v_65, v_66, v_67, v_68, v_69, v_70, v_71, v_72, v_73, v_74, e_63, -, -, -, -, -, -, -⟩ := hW_58.at m_61 t_62
  obtain ⟨g_75, e_76, o_77⟩ := hW_58.at k1_k_59.1 k1_k_59.2
  refine v_viR hC (rest := []) m_61 e_63 rfl mi_X12_odds ms_X12_odds (p_X12_odds hW_58 k_59 e_76 o_77) mx_X12_odds ml_L_109 (by decide) rfl (cells1 := c) (slots1 := s) rfl rfl (by omega) (by omega) rfl (Nat.le_of_ble_eq_true rfl) dL_law_850 (fun r_50 L_51 f_52 f_53 h_54 g_55 g_56 => ?_)
  have e_81 := h_54.2.1
  have hl_80 := h_54.1
  subst hl_80
  have lx_78 : LM E m _ f_53 := ⟨T_57, q_60, e_81.cg g_56, k_59⟩
  have lm_79 := lx_39.cg g_55
  obtain ⟨T_84, hW_85, k_86⟩ := id lx_39
  have sx_82 : SAME f_14 f_53 x := zs_cg hW_85 k_86 g_55
  have sm_83 : MSAME f_14 f_53 m := zm_T hW_58 e_81 k_59 h_54.2.2.1 rfl g_56
  have rl_87 := RLn.step rl_49 sx_82 sm_83
  refine v_pop hC dL_law_853 rfl ?_
  refine v_goto hC dL_law_854 (tgt := 1468) (by decide) ?_
  refine v_widen (k := c + 27) (n := s + 1953) (by omega) (by omega) ?_
  exact hT _ _ _ lm_79 lx_78 rl_87
set_option maxRecDepth 100000 in
set_option maxHeartbeats 4000000 in
theorem lc_23 {z : Cz} {E : Ez} {b x m N : Nat} {xs : Nat → Int32} (hC : Cx z E cL_law RL 4 14 600000 7302250) (hX : va_X b N xs (zs z) (zs z).heap) (hbl : b < (zs z).heap.size) (hbA : ¬ zA z b) (hN : N ≤ 3072) {i : Int32} {c s : Nat} (hi : 0 ≤ i.toInt ∧ i.toInt + 6 ≤ (N : Int)) (hc : c + 27 ≤ 600000) (hs : s + 1953 ≤ 7302250) (hT : ∀ (Lx Lm : List Nat) (f : Nat → va_E), LX E x Lx f → LM E m Lm f → RLn f x m → V z E 4 (c + 27) (s + 1953) (Lx ++ Lm) f 1468 [(3, .int i), (2, .ref m), (1, .ref x), (0, .ref b)] []) {Lx Lm : List Nat} {f : Nat → va_E} (hLX : LX E x Lx f) (hLM : LM E m Lm f) (hRL : RLn f x m) : V z E 4 c s (Lx ++ Lm) f 857 [(3, .int i), (2, .ref m), (1, .ref x), (0, .ref b)] [] := by
  refine v_aload_n hC dL_law_857 rfl ?_
  refine v_aload_n hC dL_law_858 rfl ?_
  refine v_iload_n hC dL_law_859 rfl ?_
  refine v_iconst hC dL_law_860 (v := 1) (by decide) ?_
  obtain ⟨v_1, h_2⟩ : ∃ v9 : Int32, i + 1 = v9 := ⟨_, rfl⟩
  refine v_iadd hC dL_law_861 h_2 ?_
  have h_3 := add_v h_2 (by first | omega | (simp only [Int32.lt_iff_toInt_lt, Int32.le_iff_toInt_le, Int32.reduceToInt, ← Int32.toInt_inj, true_and, and_true, or_true, true_or, false_or, or_false, false_and, and_false, not_true_eq_false, not_false_eq_true] <;> omega)) (by first | omega | (simp only [Int32.lt_iff_toInt_lt, Int32.le_iff_toInt_le, Int32.reduceToInt, ← Int32.toInt_inj, true_and, and_true, or_true, true_or, false_or, or_false, false_and, and_false, not_true_eq_false, not_false_eq_true] <;> omega))
  try simp only [Int32.reduceToInt] at h_3
  obtain ⟨v_4, h_5⟩ : ∃ v9 : Int32, xs (v_1 : Int32).toNatClampNeg = v9 := ⟨_, rfl⟩
  refine v_sld hC hX hbl hbA (vp_in_iff.mpr (by omega)) h_5 dL_law_862 ?_
  refine v_aload_n hC dL_law_863 rfl ?_
  refine v_iload_n hC dL_law_864 rfl ?_
  refine v_iconst hC dL_law_865 (v := 2) (by decide) ?_
  obtain ⟨v_6, h_7⟩ : ∃ v9 : Int32, i + 2 = v9 := ⟨_, rfl⟩
  refine v_iadd hC dL_law_866 h_7 ?_
  have h_8 := add_v h_7 (by first | omega | (simp only [Int32.lt_iff_toInt_lt, Int32.le_iff_toInt_le, Int32.reduceToInt, ← Int32.toInt_inj, true_and, and_true, or_true, true_or, false_or, or_false, false_and, and_false, not_true_eq_false, not_false_eq_true] <;> omega)) (by first | omega | (simp only [Int32.lt_iff_toInt_lt, Int32.le_iff_toInt_le, Int32.reduceToInt, ← Int32.toInt_inj, true_and, and_true, or_true, true_or, false_or, or_false, false_and, and_false, not_true_eq_false, not_false_eq_true] <;> omega))
  try simp only [Int32.reduceToInt] at h_8
  obtain ⟨v_9, h_10⟩ : ∃ v9 : Int32, xs (v_6 : Int32).toNatClampNeg = v9 := ⟨_, rfl⟩
  refine v_sld hC hX hbl hbA (vp_in_iff.mpr (by omega)) h_10 dL_law_867 ?_
  refine v_aload_n hC dL_law_868 rfl ?_
  refine v_iload_n hC dL_law_869 rfl ?_
  refine v_iconst hC dL_law_870 (v := 3) (by decide) ?_
  obtain ⟨v_11, h_12⟩ : ∃ v9 : Int32, i + 3 = v9 := ⟨_, rfl⟩
  refine v_iadd hC dL_law_871 h_12 ?_
  have h_13 := add_v h_12 (by first | omega | (simp only [Int32.lt_iff_toInt_lt, Int32.le_iff_toInt_le, Int32.reduceToInt, ← Int32.toInt_inj, true_and, and_true, or_true, true_or, false_or, or_false, false_and, and_false, not_true_eq_false, not_false_eq_true] <;> omega)) (by first | omega | (simp only [Int32.lt_iff_toInt_lt, Int32.le_iff_toInt_le, Int32.reduceToInt, ← Int32.toInt_inj, true_and, and_true, or_true, true_or, false_or, or_false, false_and, and_false, not_true_eq_false, not_false_eq_true] <;> omega))
  try simp only [Int32.reduceToInt] at h_13
  obtain ⟨v_14, h_15⟩ : ∃ v9 : Int32, xs (v_11 : Int32).toNatClampNeg = v9 := ⟨_, rfl⟩
  refine v_sld hC hX hbl hbA (vp_in_iff.mpr (by omega)) h_15 dL_law_872 ?_
  refine v_swap ?_
  obtain ⟨T_23, hW_24, k_25⟩ := hLX
  obtain ⟨m_27, q_30, q_31, q_32, q_33, q_34, q_35, q_36, q_37, q_38, q_39, q_40, q_41, q_42, q_43, t_28, -, -, -, -, -, -, -, -, -, -, -, -, -, -⟩ := id k_25
  have e_29 := hW_24.at m_27 t_28
  refine v_viR hC (rest := []) m_27 e_29 rfl mi_X11_carries ms_X11_carries (p_X11_carries hW_24 k_25) mx_X11_carries ml_L_110 (by decide) rfl (cells1 := c) (slots1 := s) rfl rfl (by omega) (by omega) rfl (Nat.le_of_ble_eq_true rfl) dL_law_873 (fun r_16 L_17 f_18 f_19 h_20 g_21 g_22 => ?_)
  have e_47 := h_20.2.1
  have hl_46 := h_20.1
  subst hl_46
  have lx_44 : LX E x _ f_19 := ⟨T_23, e_47.cg g_22, k_25⟩
  have lm_45 := hLM.cg g_21
  obtain ⟨T_50, q_51, hW_52, k_53⟩ := id hLM
  have sm_49 : MSAME f f_19 m := zm_cg hW_52 k_53 g_21
  have sx_48 : SAME f f_19 x := zs_T hW_24 e_47 k_25 h_20.2.2.1 rfl g_22
  have rl_54 := RLn.step hRL sx_48 sm_49
  refine v_swap ?_
  refine v_pop hC dL_law_876 rfl ?_
  refine v_aload_n hC dL_law_877 rfl ?_
  refine v_aload_n hC dL_law_878 rfl ?_
  refine v_iload_n hC dL_law_879 rfl ?_
  refine v_iconst hC dL_law_880 (v := 1) (by decide) ?_
  refine v_iadd hC dL_law_881 h_2 ?_
  refine v_sld hC hX hbl hbA (vp_in_iff.mpr (by omega)) h_5 dL_law_882 ?_
  refine v_aload_n hC dL_law_883 rfl ?_
  refine v_iload_n hC dL_law_884 rfl ?_
  refine v_iconst hC dL_law_885 (v := 2) (by decide) ?_
  refine v_iadd hC dL_law_886 h_7 ?_
  refine v_sld hC hX hbl hbA (vp_in_iff.mpr (by omega)) h_10 dL_law_887 ?_
  refine v_aload_n hC dL_law_888 rfl ?_
  refine v_iload_n hC dL_law_889 rfl ?_
  refine v_iconst hC dL_law_890 (v := 3) (by decide) ?_
  refine v_iadd hC dL_law_891 h_12 ?_
  refine v_sld hC hX hbl hbA (vp_in_iff.mpr (by omega)) h_15 dL_law_892 ?_
  obtain ⟨T_62, q_65, hW_63, k_64⟩ := lm_45
  obtain ⟨m_66, t_67, -, k1_k_64, -, -, -, -, k14_k_64, -⟩ := id k_64
  obtain ⟨v_69, v_70, v_71, v_72, v_73, v_74, v_75, v_76, v_77, v_78, v_79, e_68, -, -, -, -, -, -, -⟩ := hW_63.at m_66 t_67
  obtain ⟨g_80, e_81, o_82⟩ := hW_63.at k1_k_64.1 k1_k_64.2
  refine v_viR hC (rest := []) m_66 e_68 rfl mi_X12_carries ms_X12_carries (p_X12_carries hW_63 k_64 e_81 o_82) mx_X12_carries ml_L_113 (by decide) rfl (cells1 := c) (slots1 := s) rfl rfl (by omega) (by omega) rfl (Nat.le_of_ble_eq_true rfl) dL_law_893 (fun r_55 L_56 f_57 f_58 h_59 g_60 g_61 => ?_)
  have e_86 := h_59.2.1
  have hl_85 := h_59.1
  subst hl_85
  have lx_83 : LM E m _ f_58 := ⟨T_62, q_65, e_86.cg g_61, k_64⟩
  have lm_84 := lx_44.cg g_60
  obtain ⟨T_89, hW_90, k_91⟩ := id lx_44
  have sx_87 : SAME f_19 f_58 x := zs_cg hW_90 k_91 g_60
  have sm_88 : MSAME f_19 f_58 m := zm_T hW_63 e_86 k_64 h_59.2.2.1 rfl g_61
  have rl_92 := RLn.step rl_54 sx_87 sm_88
  refine v_pop hC dL_law_896 rfl ?_
  refine v_goto hC dL_law_897 (tgt := 1468) (by decide) ?_
  refine v_widen (k := c + 27) (n := s + 1953) (by omega) (by omega) ?_
  exact hT _ _ _ lm_84 lx_83 rl_92
set_option maxRecDepth 100000 in
set_option maxHeartbeats 4000000 in
theorem lc_24 {z : Cz} {E : Ez} {b x m N : Nat} {xs : Nat → Int32} (hC : Cx z E cL_law RL 4 14 600000 7302250) (hX : va_X b N xs (zs z) (zs z).heap) (hbl : b < (zs z).heap.size) (hbA : ¬ zA z b) (hN : N ≤ 3072) {i : Int32} {c s : Nat} (hi : 0 ≤ i.toInt ∧ i.toInt + 6 ≤ (N : Int)) (hc : c + 27 ≤ 600000) (hs : s + 1953 ≤ 7302250) (hT : ∀ (Lx Lm : List Nat) (f : Nat → va_E), LX E x Lx f → LM E m Lm f → RLn f x m → V z E 4 (c + 27) (s + 1953) (Lx ++ Lm) f 1468 [(3, .int i), (2, .ref m), (1, .ref x), (0, .ref b)] []) {Lx Lm : List Nat} {f : Nat → va_E} (hLX : LX E x Lx f) (hLM : LM E m Lm f) (hRL : RLn f x m) : V z E 4 c s (Lx ++ Lm) f 900 [(3, .int i), (2, .ref m), (1, .ref x), (0, .ref b)] [] := by
  refine v_aload_n hC dL_law_900 rfl ?_
  refine v_aload_n hC dL_law_901 rfl ?_
  refine v_iload_n hC dL_law_902 rfl ?_
  refine v_iconst hC dL_law_903 (v := 1) (by decide) ?_
  obtain ⟨v_1, h_2⟩ : ∃ v9 : Int32, i + 1 = v9 := ⟨_, rfl⟩
  refine v_iadd hC dL_law_904 h_2 ?_
  have h_3 := add_v h_2 (by first | omega | (simp only [Int32.lt_iff_toInt_lt, Int32.le_iff_toInt_le, Int32.reduceToInt, ← Int32.toInt_inj, true_and, and_true, or_true, true_or, false_or, or_false, false_and, and_false, not_true_eq_false, not_false_eq_true] <;> omega)) (by first | omega | (simp only [Int32.lt_iff_toInt_lt, Int32.le_iff_toInt_le, Int32.reduceToInt, ← Int32.toInt_inj, true_and, and_true, or_true, true_or, false_or, or_false, false_and, and_false, not_true_eq_false, not_false_eq_true] <;> omega))
  try simp only [Int32.reduceToInt] at h_3
  obtain ⟨v_4, h_5⟩ : ∃ v9 : Int32, xs (v_1 : Int32).toNatClampNeg = v9 := ⟨_, rfl⟩
  refine v_sld hC hX hbl hbA (vp_in_iff.mpr (by omega)) h_5 dL_law_905 ?_
  refine v_swap ?_
  obtain ⟨T_13, hW_14, k_15⟩ := hLX
  obtain ⟨m_17, q_20, q_21, q_22, q_23, q_24, q_25, q_26, q_27, q_28, q_29, q_30, q_31, q_32, q_33, t_18, -, -, -, -, -, -, -, -, -, -, -, -, -, -⟩ := id k_15
  have e_19 := hW_14.at m_17 t_18
  refine v_viR hC (rest := []) m_17 e_19 rfl mi_X11_best ms_X11_best (p_X11_best hW_14 k_15) mx_X11_best ml_L_114 (by decide) rfl (cells1 := c) (slots1 := s) rfl rfl (by omega) (by omega) rfl (Nat.le_of_ble_eq_true rfl) dL_law_906 (fun r_6 L_7 f_8 f_9 h_10 g_11 g_12 => ?_)
  have e_37 := h_10.2.1
  have hl_36 := h_10.1
  subst hl_36
  have lx_34 : LX E x _ f_9 := ⟨T_13, e_37.cg g_12, k_15⟩
  have lm_35 := hLM.cg g_11
  obtain ⟨T_40, q_41, hW_42, k_43⟩ := id hLM
  have sm_39 : MSAME f f_9 m := zm_cg hW_42 k_43 g_11
  have sx_38 : SAME f f_9 x := zs_T hW_14 e_37 k_15 h_10.2.2.1 rfl g_12
  have rl_44 := RLn.step hRL sx_38 sm_39
  refine v_swap ?_
  refine v_pop hC dL_law_909 rfl ?_
  refine v_aload_n hC dL_law_910 rfl ?_
  refine v_aload_n hC dL_law_911 rfl ?_
  refine v_iload_n hC dL_law_912 rfl ?_
  refine v_iconst hC dL_law_913 (v := 1) (by decide) ?_
  refine v_iadd hC dL_law_914 h_2 ?_
  refine v_sld hC hX hbl hbA (vp_in_iff.mpr (by omega)) h_5 dL_law_915 ?_
  obtain ⟨T_52, q_55, hW_53, k_54⟩ := lm_35
  obtain ⟨m_56, t_57, -, k1_k_54, -, -, -, -, k14_k_54, -⟩ := id k_54
  obtain ⟨v_59, v_60, v_61, v_62, v_63, v_64, v_65, v_66, v_67, v_68, v_69, e_58, -, -, -, -, -, -, -⟩ := hW_53.at m_56 t_57
  obtain ⟨g_70, e_71, o_72⟩ := hW_53.at k1_k_54.1 k1_k_54.2
  refine v_viR hC (rest := []) m_56 e_58 rfl mi_X12_best ms_X12_best (p_X12_best hW_53 k_54 e_71 o_72) mx_X12_best ml_L_117 (by decide) rfl (cells1 := c) (slots1 := s) rfl rfl (by omega) (by omega) rfl (Nat.le_of_ble_eq_true rfl) dL_law_916 (fun r_45 L_46 f_47 f_48 h_49 g_50 g_51 => ?_)
  have e_76 := h_49.2.1
  have hl_75 := h_49.1
  subst hl_75
  have lx_73 : LM E m _ f_48 := ⟨T_52, q_55, e_76.cg g_51, k_54⟩
  have lm_74 := lx_34.cg g_50
  obtain ⟨T_79, hW_80, k_81⟩ := id lx_34
  have sx_77 : SAME f_9 f_48 x := zs_cg hW_80 k_81 g_50
  have sm_78 : MSAME f_9 f_48 m := zm_T hW_53 e_76 k_54 h_49.2.2.1 rfl g_51
  have rl_82 := RLn.step rl_44 sx_77 sm_78
  refine v_pop hC dL_law_919 rfl ?_
  refine v_goto hC dL_law_920 (tgt := 1468) (by decide) ?_
  refine v_widen (k := c + 27) (n := s + 1953) (by omega) (by omega) ?_
  exact hT _ _ _ lm_74 lx_73 rl_82
set_option maxRecDepth 100000 in
set_option maxHeartbeats 4000000 in
theorem lc_25 {z : Cz} {E : Ez} {b x m N : Nat} {xs : Nat → Int32} (hC : Cx z E cL_law RL 4 14 600000 7302250) (hX : va_X b N xs (zs z) (zs z).heap) (hbl : b < (zs z).heap.size) (hbA : ¬ zA z b) (hN : N ≤ 3072) {i : Int32} {c s : Nat} (hi : 0 ≤ i.toInt ∧ i.toInt + 6 ≤ (N : Int)) (hc : c + 27 ≤ 600000) (hs : s + 1953 ≤ 7302250) (hT : ∀ (Lx Lm : List Nat) (f : Nat → va_E), LX E x Lx f → LM E m Lm f → RLn f x m → V z E 4 (c + 27) (s + 1953) (Lx ++ Lm) f 1468 [(3, .int i), (2, .ref m), (1, .ref x), (0, .ref b)] []) {Lx Lm : List Nat} {f : Nat → va_E} (hLX : LX E x Lx f) (hLM : LM E m Lm f) (hRL : RLn f x m) : V z E 4 c s (Lx ++ Lm) f 923 [(3, .int i), (2, .ref m), (1, .ref x), (0, .ref b)] [] := by
  refine v_aload_n hC dL_law_923 rfl ?_
  refine v_aload_n hC dL_law_924 rfl ?_
  refine v_iload_n hC dL_law_925 rfl ?_
  refine v_iconst hC dL_law_926 (v := 1) (by decide) ?_
  obtain ⟨v_1, h_2⟩ : ∃ v9 : Int32, i + 1 = v9 := ⟨_, rfl⟩
  refine v_iadd hC dL_law_927 h_2 ?_
  have h_3 := add_v h_2 (by first | omega | (simp only [Int32.lt_iff_toInt_lt, Int32.le_iff_toInt_le, Int32.reduceToInt, ← Int32.toInt_inj, true_and, and_true, or_true, true_or, false_or, or_false, false_and, and_false, not_true_eq_false, not_false_eq_true] <;> omega)) (by first | omega | (simp only [Int32.lt_iff_toInt_lt, Int32.le_iff_toInt_le, Int32.reduceToInt, ← Int32.toInt_inj, true_and, and_true, or_true, true_or, false_or, or_false, false_and, and_false, not_true_eq_false, not_false_eq_true] <;> omega))
  try simp only [Int32.reduceToInt] at h_3
  obtain ⟨v_4, h_5⟩ : ∃ v9 : Int32, xs (v_1 : Int32).toNatClampNeg = v9 := ⟨_, rfl⟩
  refine v_sld hC hX hbl hbA (vp_in_iff.mpr (by omega)) h_5 dL_law_928 ?_
  refine v_swap ?_
  obtain ⟨T_13, hW_14, k_15⟩ := hLX
  obtain ⟨m_17, q_20, q_21, q_22, q_23, q_24, q_25, q_26, q_27, q_28, q_29, q_30, q_31, q_32, q_33, t_18, -, -, -, -, -, -, -, -, -, -, -, -, -, -⟩ := id k_15
  have e_19 := hW_14.at m_17 t_18
  refine v_viR hC (rest := []) m_17 e_19 rfl mi_X11_lose ms_X11_lose (p_X11_lose hW_14 k_15) mx_X11_lose ml_L_118 (by decide) rfl (cells1 := c) (slots1 := s) rfl rfl (by omega) (by omega) rfl (Nat.le_of_ble_eq_true rfl) dL_law_929 (fun r_6 L_7 f_8 f_9 h_10 g_11 g_12 => ?_)
  have e_37 := h_10.2.1
  have hl_36 := h_10.1
  subst hl_36
  have lx_34 : LX E x _ f_9 := ⟨T_13, e_37.cg g_12, k_15⟩
  have lm_35 := hLM.cg g_11
  obtain ⟨T_40, q_41, hW_42, k_43⟩ := id hLM
  have sm_39 : MSAME f f_9 m := zm_cg hW_42 k_43 g_11
  have sx_38 : SAME f f_9 x := zs_T hW_14 e_37 k_15 h_10.2.2.1 rfl g_12
  have rl_44 := RLn.step hRL sx_38 sm_39
  refine v_swap ?_
  refine v_pop hC dL_law_932 rfl ?_
  refine v_aload_n hC dL_law_933 rfl ?_
  refine v_aload_n hC dL_law_934 rfl ?_
  refine v_iload_n hC dL_law_935 rfl ?_
  refine v_iconst hC dL_law_936 (v := 1) (by decide) ?_
  refine v_iadd hC dL_law_937 h_2 ?_
  refine v_sld hC hX hbl hbA (vp_in_iff.mpr (by omega)) h_5 dL_law_938 ?_
  obtain ⟨T_52, q_55, hW_53, k_54⟩ := lm_35
  obtain ⟨m_56, t_57, -, k1_k_54, -, -, -, -, k14_k_54, -⟩ := id k_54
  obtain ⟨v_59, v_60, v_61, v_62, v_63, v_64, v_65, v_66, v_67, v_68, v_69, e_58, -, -, -, -, -, -, -⟩ := hW_53.at m_56 t_57
  obtain ⟨g_70, e_71, o_72⟩ := hW_53.at k1_k_54.1 k1_k_54.2
  refine v_viR hC (rest := []) m_56 e_58 rfl mi_X12_lose ms_X12_lose (p_X12_lose hW_53 k_54 e_71 o_72) mx_X12_lose ml_L_121 (by decide) rfl (cells1 := c) (slots1 := s) rfl rfl (by omega) (by omega) rfl (Nat.le_of_ble_eq_true rfl) dL_law_939 (fun r_45 L_46 f_47 f_48 h_49 g_50 g_51 => ?_)
  have e_76 := h_49.2.1
  have hl_75 := h_49.1
  subst hl_75
  have lx_73 : LM E m _ f_48 := ⟨T_52, q_55, e_76.cg g_51, k_54⟩
  have lm_74 := lx_34.cg g_50
  obtain ⟨T_79, hW_80, k_81⟩ := id lx_34
  have sx_77 : SAME f_9 f_48 x := zs_cg hW_80 k_81 g_50
  have sm_78 : MSAME f_9 f_48 m := zm_T hW_53 e_76 k_54 h_49.2.2.1 rfl g_51
  have rl_82 := RLn.step rl_44 sx_77 sm_78
  refine v_pop hC dL_law_942 rfl ?_
  refine v_goto hC dL_law_943 (tgt := 1468) (by decide) ?_
  refine v_widen (k := c + 27) (n := s + 1953) (by omega) (by omega) ?_
  exact hT _ _ _ lm_74 lx_73 rl_82
set_option maxRecDepth 100000 in
set_option maxHeartbeats 4000000 in
theorem lc_26 {z : Cz} {E : Ez} {b x m N : Nat} {xs : Nat → Int32} (hC : Cx z E cL_law RL 4 14 600000 7302250) (hX : va_X b N xs (zs z) (zs z).heap) (hbl : b < (zs z).heap.size) (hbA : ¬ zA z b) (hN : N ≤ 3072) {i : Int32} {c s : Nat} (hi : 0 ≤ i.toInt ∧ i.toInt + 6 ≤ (N : Int)) (hc : c + 27 ≤ 600000) (hs : s + 1953 ≤ 7302250) (hT : ∀ (Lx Lm : List Nat) (f : Nat → va_E), LX E x Lx f → LM E m Lm f → RLn f x m → V z E 4 (c + 27) (s + 1953) (Lx ++ Lm) f 1468 [(3, .int i), (2, .ref m), (1, .ref x), (0, .ref b)] []) {Lx Lm : List Nat} {f : Nat → va_E} (hLX : LX E x Lx f) (hLM : LM E m Lm f) (hRL : RLn f x m) : V z E 4 c s (Lx ++ Lm) f 946 [(3, .int i), (2, .ref m), (1, .ref x), (0, .ref b)] [] := by
  refine v_aload_n hC dL_law_946 rfl ?_
  refine v_aload_n hC dL_law_947 rfl ?_
  refine v_iload_n hC dL_law_948 rfl ?_
  refine v_iconst hC dL_law_949 (v := 1) (by decide) ?_
  obtain ⟨v_1, h_2⟩ : ∃ v9 : Int32, i + 1 = v9 := ⟨_, rfl⟩
  refine v_iadd hC dL_law_950 h_2 ?_
  have h_3 := add_v h_2 (by first | omega | (simp only [Int32.lt_iff_toInt_lt, Int32.le_iff_toInt_le, Int32.reduceToInt, ← Int32.toInt_inj, true_and, and_true, or_true, true_or, false_or, or_false, false_and, and_false, not_true_eq_false, not_false_eq_true] <;> omega)) (by first | omega | (simp only [Int32.lt_iff_toInt_lt, Int32.le_iff_toInt_le, Int32.reduceToInt, ← Int32.toInt_inj, true_and, and_true, or_true, true_or, false_or, or_false, false_and, and_false, not_true_eq_false, not_false_eq_true] <;> omega))
  try simp only [Int32.reduceToInt] at h_3
  obtain ⟨v_4, h_5⟩ : ∃ v9 : Int32, xs (v_1 : Int32).toNatClampNeg = v9 := ⟨_, rfl⟩
  refine v_sld hC hX hbl hbA (vp_in_iff.mpr (by omega)) h_5 dL_law_951 ?_
  refine v_aload_n hC dL_law_952 rfl ?_
  refine v_iload_n hC dL_law_953 rfl ?_
  refine v_iconst hC dL_law_954 (v := 2) (by decide) ?_
  obtain ⟨v_6, h_7⟩ : ∃ v9 : Int32, i + 2 = v9 := ⟨_, rfl⟩
  refine v_iadd hC dL_law_955 h_7 ?_
  have h_8 := add_v h_7 (by first | omega | (simp only [Int32.lt_iff_toInt_lt, Int32.le_iff_toInt_le, Int32.reduceToInt, ← Int32.toInt_inj, true_and, and_true, or_true, true_or, false_or, or_false, false_and, and_false, not_true_eq_false, not_false_eq_true] <;> omega)) (by first | omega | (simp only [Int32.lt_iff_toInt_lt, Int32.le_iff_toInt_le, Int32.reduceToInt, ← Int32.toInt_inj, true_and, and_true, or_true, true_or, false_or, or_false, false_and, and_false, not_true_eq_false, not_false_eq_true] <;> omega))
  try simp only [Int32.reduceToInt] at h_8
  obtain ⟨v_9, h_10⟩ : ∃ v9 : Int32, xs (v_6 : Int32).toNatClampNeg = v9 := ⟨_, rfl⟩
  refine v_sld hC hX hbl hbA (vp_in_iff.mpr (by omega)) h_10 dL_law_956 ?_
  refine v_swap ?_
  obtain ⟨T_18, hW_19, k_20⟩ := hLX
  obtain ⟨m_22, q_25, q_26, q_27, q_28, q_29, q_30, q_31, q_32, q_33, q_34, q_35, q_36, q_37, q_38, t_23, -, -, -, -, -, -, -, -, -, -, -, -, -, -⟩ := id k_20
  have e_24 := hW_19.at m_22 t_23
  refine v_viR hC (rest := []) m_22 e_24 rfl mi_X11_alike ms_X11_alike (p_X11_alike hW_19 k_20) mx_X11_alike ml_L_122 (by decide) rfl (cells1 := c) (slots1 := s) rfl rfl (by omega) (by omega) rfl (Nat.le_of_ble_eq_true rfl) dL_law_957 (fun r_11 L_12 f_13 f_14 h_15 g_16 g_17 => ?_)
  have e_42 := h_15.2.1
  have hl_41 := h_15.1
  subst hl_41
  have lx_39 : LX E x _ f_14 := ⟨T_18, (hW_19.cg (fun a9 h9 => (g_17 a9 h9).trans (congrFun e_42.symm a9))), k_20⟩
  have lm_40 := hLM.cg g_16
  obtain ⟨T_45, q_46, hW_47, k_48⟩ := id hLM
  have sm_44 : MSAME f f_14 m := zm_cg hW_47 k_48 g_16
  have sx_43 : SAME f f_14 x := zs_cg hW_19 k_20 (fun a9 h9 => (g_17 a9 h9).trans (congrFun e_42.symm a9))
  have rl_49 := RLn.step hRL sx_43 sm_44
  refine v_swap ?_
  refine v_pop hC dL_law_960 rfl ?_
  refine v_aload_n hC dL_law_961 rfl ?_
  refine v_aload_n hC dL_law_962 rfl ?_
  refine v_iload_n hC dL_law_963 rfl ?_
  refine v_iconst hC dL_law_964 (v := 1) (by decide) ?_
  refine v_iadd hC dL_law_965 h_2 ?_
  refine v_sld hC hX hbl hbA (vp_in_iff.mpr (by omega)) h_5 dL_law_966 ?_
  refine v_aload_n hC dL_law_967 rfl ?_
  refine v_iload_n hC dL_law_968 rfl ?_
  refine v_iconst hC dL_law_969 (v := 2) (by decide) ?_
  refine v_iadd hC dL_law_970 h_7 ?_
  refine v_sld hC hX hbl hbA (vp_in_iff.mpr (by omega)) h_10 dL_law_971 ?_
  obtain ⟨T_57, q_60, hW_58, k_59⟩ := lm_40
  obtain ⟨m_61, t_62, -, k1_k_59, -, -, -, -, k14_k_59, -⟩ := id k_59
  obtain ⟨v_64, v_65, v_66, v_67, v_68, v_69, v_70, v_71, v_72, v_73, v_74, e_63, -, -, -, -, -, -, -⟩ := hW_58.at m_61 t_62
  obtain ⟨g_75, e_76, o_77⟩ := hW_58.at k1_k_59.1 k1_k_59.2
  refine v_viR hC (rest := []) m_61 e_63 rfl mi_X12_alike ms_X12_alike (p_X12_alike hW_58 k_59 e_76 o_77) mx_X12_alike ml_L_125 (by decide) rfl (cells1 := c) (slots1 := s) rfl rfl (by omega) (by omega) rfl (Nat.le_of_ble_eq_true rfl) dL_law_972 (fun r_50 L_51 f_52 f_53 h_54 g_55 g_56 => ?_)
  have e_81 := h_54.2.1
  have hl_80 := h_54.1
  subst hl_80
  have lx_78 : LM E m _ f_53 := ⟨T_57, q_60, (hW_58.cg (fun a9 h9 => (g_56 a9 h9).trans (congrFun e_81.symm a9))), k_59⟩
  have lm_79 := lx_39.cg g_55
  obtain ⟨T_84, hW_85, k_86⟩ := id lx_39
  have sx_82 : SAME f_14 f_53 x := zs_cg hW_85 k_86 g_55
  have sm_83 : MSAME f_14 f_53 m := zm_cg hW_58 k_59 (fun a9 h9 => (g_56 a9 h9).trans (congrFun e_81.symm a9))
  have rl_87 := RLn.step rl_49 sx_82 sm_83
  refine v_pop hC dL_law_975 rfl ?_
  refine v_goto hC dL_law_976 (tgt := 1468) (by decide) ?_
  refine v_widen (k := c + 27) (n := s + 1953) (by omega) (by omega) ?_
  exact hT _ _ _ lm_79 lx_78 rl_87
set_option maxRecDepth 100000 in
set_option maxHeartbeats 4000000 in
theorem lc_27 {z : Cz} {E : Ez} {b x m N : Nat} {xs : Nat → Int32} (hC : Cx z E cL_law RL 4 14 600000 7302250) (hX : va_X b N xs (zs z) (zs z).heap) (hbl : b < (zs z).heap.size) (hbA : ¬ zA z b) (hN : N ≤ 3072) {i : Int32} {c s : Nat} (hi : 0 ≤ i.toInt ∧ i.toInt + 6 ≤ (N : Int)) (hc : c + 27 ≤ 600000) (hs : s + 1953 ≤ 7302250) (hT : ∀ (Lx Lm : List Nat) (f : Nat → va_E), LX E x Lx f → LM E m Lm f → RLn f x m → V z E 4 (c + 27) (s + 1953) (Lx ++ Lm) f 1468 [(3, .int i), (2, .ref m), (1, .ref x), (0, .ref b)] []) {Lx Lm : List Nat} {f : Nat → va_E} (hLX : LX E x Lx f) (hLM : LM E m Lm f) (hRL : RLn f x m) : V z E 4 c s (Lx ++ Lm) f 979 [(3, .int i), (2, .ref m), (1, .ref x), (0, .ref b)] [] := by
  refine v_aload_n hC dL_law_979 rfl ?_
  refine v_aload_n hC dL_law_980 rfl ?_
  refine v_iload_n hC dL_law_981 rfl ?_
  refine v_iconst hC dL_law_982 (v := 1) (by decide) ?_
  obtain ⟨v_1, h_2⟩ : ∃ v9 : Int32, i + 1 = v9 := ⟨_, rfl⟩
  refine v_iadd hC dL_law_983 h_2 ?_
  have h_3 := add_v h_2 (by first | omega | (simp only [Int32.lt_iff_toInt_lt, Int32.le_iff_toInt_le, Int32.reduceToInt, ← Int32.toInt_inj, true_and, and_true, or_true, true_or, false_or, or_false, false_and, and_false, not_true_eq_false, not_false_eq_true] <;> omega)) (by first | omega | (simp only [Int32.lt_iff_toInt_lt, Int32.le_iff_toInt_le, Int32.reduceToInt, ← Int32.toInt_inj, true_and, and_true, or_true, true_or, false_or, or_false, false_and, and_false, not_true_eq_false, not_false_eq_true] <;> omega))
  try simp only [Int32.reduceToInt] at h_3
  obtain ⟨v_4, h_5⟩ : ∃ v9 : Int32, xs (v_1 : Int32).toNatClampNeg = v9 := ⟨_, rfl⟩
  refine v_sld hC hX hbl hbA (vp_in_iff.mpr (by omega)) h_5 dL_law_984 ?_
  refine v_aload_n hC dL_law_985 rfl ?_
  refine v_iload_n hC dL_law_986 rfl ?_
  refine v_iconst hC dL_law_987 (v := 2) (by decide) ?_
  obtain ⟨v_6, h_7⟩ : ∃ v9 : Int32, i + 2 = v9 := ⟨_, rfl⟩
  refine v_iadd hC dL_law_988 h_7 ?_
  have h_8 := add_v h_7 (by first | omega | (simp only [Int32.lt_iff_toInt_lt, Int32.le_iff_toInt_le, Int32.reduceToInt, ← Int32.toInt_inj, true_and, and_true, or_true, true_or, false_or, or_false, false_and, and_false, not_true_eq_false, not_false_eq_true] <;> omega)) (by first | omega | (simp only [Int32.lt_iff_toInt_lt, Int32.le_iff_toInt_le, Int32.reduceToInt, ← Int32.toInt_inj, true_and, and_true, or_true, true_or, false_or, or_false, false_and, and_false, not_true_eq_false, not_false_eq_true] <;> omega))
  try simp only [Int32.reduceToInt] at h_8
  obtain ⟨v_9, h_10⟩ : ∃ v9 : Int32, xs (v_6 : Int32).toNatClampNeg = v9 := ⟨_, rfl⟩
  refine v_sld hC hX hbl hbA (vp_in_iff.mpr (by omega)) h_10 dL_law_989 ?_
  refine v_aload_n hC dL_law_990 rfl ?_
  refine v_iload_n hC dL_law_991 rfl ?_
  refine v_iconst hC dL_law_992 (v := 3) (by decide) ?_
  obtain ⟨v_11, h_12⟩ : ∃ v9 : Int32, i + 3 = v9 := ⟨_, rfl⟩
  refine v_iadd hC dL_law_993 h_12 ?_
  have h_13 := add_v h_12 (by first | omega | (simp only [Int32.lt_iff_toInt_lt, Int32.le_iff_toInt_le, Int32.reduceToInt, ← Int32.toInt_inj, true_and, and_true, or_true, true_or, false_or, or_false, false_and, and_false, not_true_eq_false, not_false_eq_true] <;> omega)) (by first | omega | (simp only [Int32.lt_iff_toInt_lt, Int32.le_iff_toInt_le, Int32.reduceToInt, ← Int32.toInt_inj, true_and, and_true, or_true, true_or, false_or, or_false, false_and, and_false, not_true_eq_false, not_false_eq_true] <;> omega))
  try simp only [Int32.reduceToInt] at h_13
  obtain ⟨v_14, h_15⟩ : ∃ v9 : Int32, xs (v_11 : Int32).toNatClampNeg = v9 := ⟨_, rfl⟩
  refine v_sld hC hX hbl hbA (vp_in_iff.mpr (by omega)) h_15 dL_law_994 ?_
  refine v_swap ?_
  obtain ⟨T_23, hW_24, k_25⟩ := hLX
  obtain ⟨m_27, q_30, q_31, q_32, q_33, q_34, q_35, q_36, q_37, q_38, q_39, q_40, q_41, q_42, q_43, t_28, -, -, -, -, -, -, -, -, -, -, -, -, -, -⟩ := id k_25
  have e_29 := hW_24.at m_27 t_28
  refine v_viR hC (rest := []) m_27 e_29 rfl mi_X11_same ms_X11_same (p_X11_same hW_24 k_25) mx_X11_same ml_L_126 (by decide) rfl (cells1 := c) (slots1 := s) rfl rfl (by omega) (by omega) rfl (Nat.le_of_ble_eq_true rfl) dL_law_995 (fun r_16 L_17 f_18 f_19 h_20 g_21 g_22 => ?_)
  have e_47 := h_20.2.1
  have hl_46 := h_20.1
  subst hl_46
  have lx_44 : LX E x _ f_19 := ⟨T_23, e_47.cg g_22, k_25⟩
  have lm_45 := hLM.cg g_21
  obtain ⟨T_50, q_51, hW_52, k_53⟩ := id hLM
  have sm_49 : MSAME f f_19 m := zm_cg hW_52 k_53 g_21
  have sx_48 : SAME f f_19 x := zs_T hW_24 e_47 k_25 h_20.2.2.1 rfl g_22
  have rl_54 := RLn.step hRL sx_48 sm_49
  refine v_swap ?_
  refine v_pop hC dL_law_998 rfl ?_
  refine v_aload_n hC dL_law_999 rfl ?_
  refine v_aload_n hC dL_law_1000 rfl ?_
  refine v_iload_n hC dL_law_1001 rfl ?_
  refine v_iconst hC dL_law_1002 (v := 1) (by decide) ?_
  refine v_iadd hC dL_law_1003 h_2 ?_
  refine v_sld hC hX hbl hbA (vp_in_iff.mpr (by omega)) h_5 dL_law_1004 ?_
  refine v_aload_n hC dL_law_1005 rfl ?_
  refine v_iload_n hC dL_law_1006 rfl ?_
  refine v_iconst hC dL_law_1007 (v := 2) (by decide) ?_
  refine v_iadd hC dL_law_1008 h_7 ?_
  refine v_sld hC hX hbl hbA (vp_in_iff.mpr (by omega)) h_10 dL_law_1009 ?_
  refine v_aload_n hC dL_law_1010 rfl ?_
  refine v_iload_n hC dL_law_1011 rfl ?_
  refine v_iconst hC dL_law_1012 (v := 3) (by decide) ?_
  refine v_iadd hC dL_law_1013 h_12 ?_
  refine v_sld hC hX hbl hbA (vp_in_iff.mpr (by omega)) h_15 dL_law_1014 ?_
  obtain ⟨T_62, q_65, hW_63, k_64⟩ := lm_45
  obtain ⟨m_66, t_67, -, k1_k_64, -, -, -, -, k14_k_64, -⟩ := id k_64
  obtain ⟨v_69, v_70, v_71, v_72, v_73, v_74, v_75, v_76, v_77, v_78, v_79, e_68, -, -, -, -, -, -, -⟩ := hW_63.at m_66 t_67
  obtain ⟨g_80, e_81, o_82⟩ := hW_63.at k1_k_64.1 k1_k_64.2
  refine v_viR hC (rest := []) m_66 e_68 rfl mi_X12_same ms_X12_same (p_X12_same hW_63 k_64 e_81 o_82) mx_X12_same ml_L_129 (by decide) rfl (cells1 := c) (slots1 := s) rfl rfl (by omega) (by omega) rfl (Nat.le_of_ble_eq_true rfl) dL_law_1015 (fun r_55 L_56 f_57 f_58 h_59 g_60 g_61 => ?_)
  have e_86 := h_59.2.1
  have hl_85 := h_59.1
  subst hl_85
  have lx_83 : LM E m _ f_58 := ⟨T_62, q_65, e_86.cg g_61, k_64⟩
  have lm_84 := lx_44.cg g_60
  obtain ⟨T_89, hW_90, k_91⟩ := id lx_44
  have sx_87 : SAME f_19 f_58 x := zs_cg hW_90 k_91 g_60
  have sm_88 : MSAME f_19 f_58 m := zm_T hW_63 e_86 k_64 h_59.2.2.1 rfl g_61
  have rl_92 := RLn.step rl_54 sx_87 sm_88
  refine v_pop hC dL_law_1018 rfl ?_
  refine v_goto hC dL_law_1019 (tgt := 1468) (by decide) ?_
  refine v_widen (k := c + 27) (n := s + 1953) (by omega) (by omega) ?_
  exact hT _ _ _ lm_84 lx_83 rl_92
set_option maxRecDepth 100000 in
set_option maxHeartbeats 4000000 in
theorem lc_28 {z : Cz} {E : Ez} {b x m N : Nat} {xs : Nat → Int32} (hC : Cx z E cL_law RL 4 14 600000 7302250) (hX : va_X b N xs (zs z) (zs z).heap) (hbl : b < (zs z).heap.size) (hbA : ¬ zA z b) (hN : N ≤ 3072) {i : Int32} {c s : Nat} (hi : 0 ≤ i.toInt ∧ i.toInt + 6 ≤ (N : Int)) (hc : c + 27 ≤ 600000) (hs : s + 1953 ≤ 7302250) (hT : ∀ (Lx Lm : List Nat) (f : Nat → va_E), LX E x Lx f → LM E m Lm f → RLn f x m → V z E 4 (c + 27) (s + 1953) (Lx ++ Lm) f 1468 [(3, .int i), (2, .ref m), (1, .ref x), (0, .ref b)] []) {Lx Lm : List Nat} {f : Nat → va_E} (hLX : LX E x Lx f) (hLM : LM E m Lm f) (hRL : RLn f x m) : V z E 4 c s (Lx ++ Lm) f 1022 [(3, .int i), (2, .ref m), (1, .ref x), (0, .ref b)] [] := by
  refine v_aload_n hC dL_law_1022 rfl ?_
  refine v_aload_n hC dL_law_1023 rfl ?_
  refine v_iload_n hC dL_law_1024 rfl ?_
  refine v_iconst hC dL_law_1025 (v := 1) (by decide) ?_
  obtain ⟨v_1, h_2⟩ : ∃ v9 : Int32, i + 1 = v9 := ⟨_, rfl⟩
  refine v_iadd hC dL_law_1026 h_2 ?_
  have h_3 := add_v h_2 (by first | omega | (simp only [Int32.lt_iff_toInt_lt, Int32.le_iff_toInt_le, Int32.reduceToInt, ← Int32.toInt_inj, true_and, and_true, or_true, true_or, false_or, or_false, false_and, and_false, not_true_eq_false, not_false_eq_true] <;> omega)) (by first | omega | (simp only [Int32.lt_iff_toInt_lt, Int32.le_iff_toInt_le, Int32.reduceToInt, ← Int32.toInt_inj, true_and, and_true, or_true, true_or, false_or, or_false, false_and, and_false, not_true_eq_false, not_false_eq_true] <;> omega))
  try simp only [Int32.reduceToInt] at h_3
  obtain ⟨v_4, h_5⟩ : ∃ v9 : Int32, xs (v_1 : Int32).toNatClampNeg = v9 := ⟨_, rfl⟩
  refine v_sld hC hX hbl hbA (vp_in_iff.mpr (by omega)) h_5 dL_law_1027 ?_
  refine v_aload_n hC dL_law_1028 rfl ?_
  refine v_iload_n hC dL_law_1029 rfl ?_
  refine v_iconst hC dL_law_1030 (v := 2) (by decide) ?_
  obtain ⟨v_6, h_7⟩ : ∃ v9 : Int32, i + 2 = v9 := ⟨_, rfl⟩
  refine v_iadd hC dL_law_1031 h_7 ?_
  have h_8 := add_v h_7 (by first | omega | (simp only [Int32.lt_iff_toInt_lt, Int32.le_iff_toInt_le, Int32.reduceToInt, ← Int32.toInt_inj, true_and, and_true, or_true, true_or, false_or, or_false, false_and, and_false, not_true_eq_false, not_false_eq_true] <;> omega)) (by first | omega | (simp only [Int32.lt_iff_toInt_lt, Int32.le_iff_toInt_le, Int32.reduceToInt, ← Int32.toInt_inj, true_and, and_true, or_true, true_or, false_or, or_false, false_and, and_false, not_true_eq_false, not_false_eq_true] <;> omega))
  try simp only [Int32.reduceToInt] at h_8
  obtain ⟨v_9, h_10⟩ : ∃ v9 : Int32, xs (v_6 : Int32).toNatClampNeg = v9 := ⟨_, rfl⟩
  refine v_sld hC hX hbl hbA (vp_in_iff.mpr (by omega)) h_10 dL_law_1032 ?_
  refine v_swap ?_
  obtain ⟨T_18, hW_19, k_20⟩ := hLX
  obtain ⟨m_22, q_25, q_26, q_27, q_28, q_29, q_30, q_31, q_32, q_33, q_34, q_35, q_36, q_37, q_38, t_23, -, -, -, -, -, -, -, -, -, -, -, -, -, -⟩ := id k_20
  have e_24 := hW_19.at m_22 t_23
  refine v_viR hC (rest := []) m_22 e_24 rfl mi_X11_ball ms_X11_ball (p_X11_ball hW_19 k_20) mx_X11_ball ml_L_130 (by decide) rfl (cells1 := c) (slots1 := s) rfl rfl (by omega) (by omega) rfl (Nat.le_of_ble_eq_true rfl) dL_law_1033 (fun r_11 L_12 f_13 f_14 h_15 g_16 g_17 => ?_)
  have e_42 := h_15.2.1
  have hl_41 := h_15.1
  subst hl_41
  have lx_39 : LX E x _ f_14 := ⟨T_18, (hW_19.cg (fun a9 h9 => (g_17 a9 h9).trans (congrFun e_42.symm a9))), k_20⟩
  have lm_40 := hLM.cg g_16
  obtain ⟨T_45, q_46, hW_47, k_48⟩ := id hLM
  have sm_44 : MSAME f f_14 m := zm_cg hW_47 k_48 g_16
  have sx_43 : SAME f f_14 x := zs_cg hW_19 k_20 (fun a9 h9 => (g_17 a9 h9).trans (congrFun e_42.symm a9))
  have rl_49 := RLn.step hRL sx_43 sm_44
  refine v_swap ?_
  refine v_pop hC dL_law_1036 rfl ?_
  refine v_aload_n hC dL_law_1037 rfl ?_
  refine v_aload_n hC dL_law_1038 rfl ?_
  refine v_iload_n hC dL_law_1039 rfl ?_
  refine v_iconst hC dL_law_1040 (v := 1) (by decide) ?_
  refine v_iadd hC dL_law_1041 h_2 ?_
  refine v_sld hC hX hbl hbA (vp_in_iff.mpr (by omega)) h_5 dL_law_1042 ?_
  refine v_aload_n hC dL_law_1043 rfl ?_
  refine v_iload_n hC dL_law_1044 rfl ?_
  refine v_iconst hC dL_law_1045 (v := 2) (by decide) ?_
  refine v_iadd hC dL_law_1046 h_7 ?_
  refine v_sld hC hX hbl hbA (vp_in_iff.mpr (by omega)) h_10 dL_law_1047 ?_
  obtain ⟨T_57, q_60, hW_58, k_59⟩ := lm_40
  obtain ⟨m_61, t_62, -, k1_k_59, -, -, -, -, k14_k_59, -⟩ := id k_59
  obtain ⟨v_64, v_65, v_66, v_67, v_68, v_69, v_70, v_71, v_72, v_73, v_74, e_63, -, -, -, -, -, -, -⟩ := hW_58.at m_61 t_62
  obtain ⟨g_75, e_76, o_77⟩ := hW_58.at k1_k_59.1 k1_k_59.2
  refine v_viR hC (rest := []) m_61 e_63 rfl mi_X12_ball ms_X12_ball (p_X12_ball hW_58 k_59 e_76 o_77) mx_X12_ball ml_L_133 (by decide) rfl (cells1 := c) (slots1 := s) rfl rfl (by omega) (by omega) rfl (Nat.le_of_ble_eq_true rfl) dL_law_1048 (fun r_50 L_51 f_52 f_53 h_54 g_55 g_56 => ?_)
  have e_81 := h_54.2.1
  have hl_80 := h_54.1
  subst hl_80
  have lx_78 : LM E m _ f_53 := ⟨T_57, q_60, e_81.cg g_56, k_59⟩
  have lm_79 := lx_39.cg g_55
  obtain ⟨T_84, hW_85, k_86⟩ := id lx_39
  have sx_82 : SAME f_14 f_53 x := zs_cg hW_85 k_86 g_55
  have sm_83 : MSAME f_14 f_53 m := zm_T hW_58 e_81 k_59 h_54.2.2.1 rfl g_56
  have rl_87 := RLn.step rl_49 sx_82 sm_83
  refine v_pop hC dL_law_1051 rfl ?_
  refine v_goto hC dL_law_1052 (tgt := 1468) (by decide) ?_
  refine v_widen (k := c + 27) (n := s + 1953) (by omega) (by omega) ?_
  exact hT _ _ _ lm_79 lx_78 rl_87
set_option maxRecDepth 100000 in
set_option maxHeartbeats 4000000 in
theorem lc_29 {z : Cz} {E : Ez} {b x m N : Nat} {xs : Nat → Int32} (hC : Cx z E cL_law RL 4 14 600000 7302250) (hX : va_X b N xs (zs z) (zs z).heap) (hbl : b < (zs z).heap.size) (hbA : ¬ zA z b) (hN : N ≤ 3072) {i : Int32} {c s : Nat} (hi : 0 ≤ i.toInt ∧ i.toInt + 6 ≤ (N : Int)) (hc : c + 27 ≤ 600000) (hs : s + 1953 ≤ 7302250) (hT : ∀ (Lx Lm : List Nat) (f : Nat → va_E), LX E x Lx f → LM E m Lm f → RLn f x m → V z E 4 (c + 27) (s + 1953) (Lx ++ Lm) f 1468 [(3, .int i), (2, .ref m), (1, .ref x), (0, .ref b)] []) {Lx Lm : List Nat} {f : Nat → va_E} (hLX : LX E x Lx f) (hLM : LM E m Lm f) (hRL : RLn f x m) : V z E 4 c s (Lx ++ Lm) f 1055 [(3, .int i), (2, .ref m), (1, .ref x), (0, .ref b)] [] := by
  refine v_aload_n hC dL_law_1055 rfl ?_
  refine v_aload_n hC dL_law_1056 rfl ?_
  refine v_iload_n hC dL_law_1057 rfl ?_
  refine v_iconst hC dL_law_1058 (v := 1) (by decide) ?_
  obtain ⟨v_1, h_2⟩ : ∃ v9 : Int32, i + 1 = v9 := ⟨_, rfl⟩
  refine v_iadd hC dL_law_1059 h_2 ?_
  have h_3 := add_v h_2 (by first | omega | (simp only [Int32.lt_iff_toInt_lt, Int32.le_iff_toInt_le, Int32.reduceToInt, ← Int32.toInt_inj, true_and, and_true, or_true, true_or, false_or, or_false, false_and, and_false, not_true_eq_false, not_false_eq_true] <;> omega)) (by first | omega | (simp only [Int32.lt_iff_toInt_lt, Int32.le_iff_toInt_le, Int32.reduceToInt, ← Int32.toInt_inj, true_and, and_true, or_true, true_or, false_or, or_false, false_and, and_false, not_true_eq_false, not_false_eq_true] <;> omega))
  try simp only [Int32.reduceToInt] at h_3
  obtain ⟨v_4, h_5⟩ : ∃ v9 : Int32, xs (v_1 : Int32).toNatClampNeg = v9 := ⟨_, rfl⟩
  refine v_sld hC hX hbl hbA (vp_in_iff.mpr (by omega)) h_5 dL_law_1060 ?_
  refine v_aload_n hC dL_law_1061 rfl ?_
  refine v_iload_n hC dL_law_1062 rfl ?_
  refine v_iconst hC dL_law_1063 (v := 2) (by decide) ?_
  obtain ⟨v_6, h_7⟩ : ∃ v9 : Int32, i + 2 = v9 := ⟨_, rfl⟩
  refine v_iadd hC dL_law_1064 h_7 ?_
  have h_8 := add_v h_7 (by first | omega | (simp only [Int32.lt_iff_toInt_lt, Int32.le_iff_toInt_le, Int32.reduceToInt, ← Int32.toInt_inj, true_and, and_true, or_true, true_or, false_or, or_false, false_and, and_false, not_true_eq_false, not_false_eq_true] <;> omega)) (by first | omega | (simp only [Int32.lt_iff_toInt_lt, Int32.le_iff_toInt_le, Int32.reduceToInt, ← Int32.toInt_inj, true_and, and_true, or_true, true_or, false_or, or_false, false_and, and_false, not_true_eq_false, not_false_eq_true] <;> omega))
  try simp only [Int32.reduceToInt] at h_8
  obtain ⟨v_9, h_10⟩ : ∃ v9 : Int32, xs (v_6 : Int32).toNatClampNeg = v9 := ⟨_, rfl⟩
  refine v_sld hC hX hbl hbA (vp_in_iff.mpr (by omega)) h_10 dL_law_1065 ?_
  refine v_swap ?_
  obtain ⟨T_18, hW_19, k_20⟩ := hLX
  obtain ⟨m_22, q_25, q_26, q_27, q_28, q_29, q_30, q_31, q_32, q_33, q_34, q_35, q_36, q_37, q_38, t_23, -, -, -, -, -, -, -, -, -, -, -, -, -, -⟩ := id k_20
  have e_24 := hW_19.at m_22 t_23
  refine v_viR hC (rest := []) m_22 e_24 rfl mi_X11_rewind ms_X11_rewind (p_X11_rewind hW_19 k_20) mx_X11_rewind ml_L_134 (by decide) rfl (cells1 := c) (slots1 := s) rfl rfl (by omega) (by omega) rfl (Nat.le_of_ble_eq_true rfl) dL_law_1066 (fun r_11 L_12 f_13 f_14 h_15 g_16 g_17 => ?_)
  have e_42 := h_15.2.1
  have hl_41 := h_15.1
  subst hl_41
  have lx_39 : LX E x _ f_14 := ⟨T_18, e_42.cg g_17, k_20⟩
  have lm_40 := hLM.cg g_16
  obtain ⟨T_45, q_46, hW_47, k_48⟩ := id hLM
  have sm_44 : MSAME f f_14 m := zm_cg hW_47 k_48 g_16
  have sx_43 : SAME f f_14 x := zs_T hW_19 e_42 k_20 h_15.2.2.1 rfl g_17
  have rl_49 := RLn.step hRL sx_43 sm_44
  refine v_swap ?_
  refine v_pop hC dL_law_1069 rfl ?_
  refine v_aload_n hC dL_law_1070 rfl ?_
  refine v_aload_n hC dL_law_1071 rfl ?_
  refine v_iload_n hC dL_law_1072 rfl ?_
  refine v_iconst hC dL_law_1073 (v := 1) (by decide) ?_
  refine v_iadd hC dL_law_1074 h_2 ?_
  refine v_sld hC hX hbl hbA (vp_in_iff.mpr (by omega)) h_5 dL_law_1075 ?_
  refine v_aload_n hC dL_law_1076 rfl ?_
  refine v_iload_n hC dL_law_1077 rfl ?_
  refine v_iconst hC dL_law_1078 (v := 2) (by decide) ?_
  refine v_iadd hC dL_law_1079 h_7 ?_
  refine v_sld hC hX hbl hbA (vp_in_iff.mpr (by omega)) h_10 dL_law_1080 ?_
  obtain ⟨T_57, q_60, hW_58, k_59⟩ := lm_40
  obtain ⟨m_61, t_62, -, k1_k_59, -, -, -, -, k14_k_59, -⟩ := id k_59
  obtain ⟨v_64, v_65, v_66, v_67, v_68, v_69, v_70, v_71, v_72, v_73, v_74, e_63, -, -, -, -, -, -, -⟩ := hW_58.at m_61 t_62
  obtain ⟨g_75, e_76, o_77⟩ := hW_58.at k1_k_59.1 k1_k_59.2
  refine v_viR hC (rest := []) m_61 e_63 rfl mi_X12_rewind ms_X12_rewind (p_X12_rewind hW_58 k_59 e_76 o_77) mx_X12_rewind ml_L_137 (by decide) rfl (cells1 := c) (slots1 := s) rfl rfl (by omega) (by omega) rfl (Nat.le_of_ble_eq_true rfl) dL_law_1081 (fun r_50 L_51 f_52 f_53 h_54 g_55 g_56 => ?_)
  have e_81 := h_54.2.1
  have hl_80 := h_54.1
  subst hl_80
  have lx_78 : LM E m _ f_53 := ⟨T_57, q_60, e_81.cg g_56, k_59⟩
  have lm_79 := lx_39.cg g_55
  obtain ⟨T_84, hW_85, k_86⟩ := id lx_39
  have sx_82 : SAME f_14 f_53 x := zs_cg hW_85 k_86 g_55
  have sm_83 : MSAME f_14 f_53 m := zm_T hW_58 e_81 k_59 h_54.2.2.1 rfl g_56
  have rl_87 := RLn.step rl_49 sx_82 sm_83
  refine v_pop hC dL_law_1084 rfl ?_
  refine v_goto hC dL_law_1085 (tgt := 1468) (by decide) ?_
  refine v_widen (k := c + 27) (n := s + 1953) (by omega) (by omega) ?_
  exact hT _ _ _ lm_79 lx_78 rl_87
set_option maxRecDepth 100000 in
set_option maxHeartbeats 4000000 in
theorem lc_30 {z : Cz} {E : Ez} {b x m N : Nat} {xs : Nat → Int32} (hC : Cx z E cL_law RL 4 14 600000 7302250) (hX : va_X b N xs (zs z) (zs z).heap) (hbl : b < (zs z).heap.size) (hbA : ¬ zA z b) (hN : N ≤ 3072) {i : Int32} {c s : Nat} (hi : 0 ≤ i.toInt ∧ i.toInt + 6 ≤ (N : Int)) (hc : c + 27 ≤ 600000) (hs : s + 1953 ≤ 7302250) (hT : ∀ (Lx Lm : List Nat) (f : Nat → va_E), LX E x Lx f → LM E m Lm f → RLn f x m → V z E 4 (c + 27) (s + 1953) (Lx ++ Lm) f 1468 [(3, .int i), (2, .ref m), (1, .ref x), (0, .ref b)] []) {Lx Lm : List Nat} {f : Nat → va_E} (hLX : LX E x Lx f) (hLM : LM E m Lm f) (hRL : RLn f x m) : V z E 4 c s (Lx ++ Lm) f 1088 [(3, .int i), (2, .ref m), (1, .ref x), (0, .ref b)] [] := by
  refine v_aload_n hC dL_law_1088 rfl ?_
  refine v_aload_n hC dL_law_1089 rfl ?_
  refine v_iload_n hC dL_law_1090 rfl ?_
  refine v_iconst hC dL_law_1091 (v := 1) (by decide) ?_
  obtain ⟨v_1, h_2⟩ : ∃ v9 : Int32, i + 1 = v9 := ⟨_, rfl⟩
  refine v_iadd hC dL_law_1092 h_2 ?_
  have h_3 := add_v h_2 (by first | omega | (simp only [Int32.lt_iff_toInt_lt, Int32.le_iff_toInt_le, Int32.reduceToInt, ← Int32.toInt_inj, true_and, and_true, or_true, true_or, false_or, or_false, false_and, and_false, not_true_eq_false, not_false_eq_true] <;> omega)) (by first | omega | (simp only [Int32.lt_iff_toInt_lt, Int32.le_iff_toInt_le, Int32.reduceToInt, ← Int32.toInt_inj, true_and, and_true, or_true, true_or, false_or, or_false, false_and, and_false, not_true_eq_false, not_false_eq_true] <;> omega))
  try simp only [Int32.reduceToInt] at h_3
  obtain ⟨v_4, h_5⟩ : ∃ v9 : Int32, xs (v_1 : Int32).toNatClampNeg = v9 := ⟨_, rfl⟩
  refine v_sld hC hX hbl hbA (vp_in_iff.mpr (by omega)) h_5 dL_law_1093 ?_
  refine v_aload_n hC dL_law_1094 rfl ?_
  refine v_iload_n hC dL_law_1095 rfl ?_
  refine v_iconst hC dL_law_1096 (v := 2) (by decide) ?_
  obtain ⟨v_6, h_7⟩ : ∃ v9 : Int32, i + 2 = v9 := ⟨_, rfl⟩
  refine v_iadd hC dL_law_1097 h_7 ?_
  have h_8 := add_v h_7 (by first | omega | (simp only [Int32.lt_iff_toInt_lt, Int32.le_iff_toInt_le, Int32.reduceToInt, ← Int32.toInt_inj, true_and, and_true, or_true, true_or, false_or, or_false, false_and, and_false, not_true_eq_false, not_false_eq_true] <;> omega)) (by first | omega | (simp only [Int32.lt_iff_toInt_lt, Int32.le_iff_toInt_le, Int32.reduceToInt, ← Int32.toInt_inj, true_and, and_true, or_true, true_or, false_or, or_false, false_and, and_false, not_true_eq_false, not_false_eq_true] <;> omega))
  try simp only [Int32.reduceToInt] at h_8
  obtain ⟨v_9, h_10⟩ : ∃ v9 : Int32, xs (v_6 : Int32).toNatClampNeg = v9 := ⟨_, rfl⟩
  refine v_sld hC hX hbl hbA (vp_in_iff.mpr (by omega)) h_10 dL_law_1098 ?_
  refine v_swap ?_
  obtain ⟨T_18, hW_19, k_20⟩ := hLX
  obtain ⟨m_22, q_25, q_26, q_27, q_28, q_29, q_30, q_31, q_32, q_33, q_34, q_35, q_36, q_37, q_38, t_23, -, -, -, -, -, -, -, -, -, -, -, -, -, -⟩ := id k_20
  have e_24 := hW_19.at m_22 t_23
  refine v_viR hC (rest := []) m_22 e_24 rfl mi_X11_copy ms_X11_copy (p_X11_copy hW_19 k_20) mx_X11_copy ml_L_138 (by decide) rfl (cells1 := c) (slots1 := s) rfl rfl (by omega) (by omega) rfl (Nat.le_of_ble_eq_true rfl) dL_law_1099 (fun r_11 L_12 f_13 f_14 h_15 g_16 g_17 => ?_)
  have e_42 := h_15.2.1
  have hl_41 := h_15.1
  subst hl_41
  have lx_39 : LX E x _ f_14 := ⟨T_18, e_42.cg g_17, k_20⟩
  have lm_40 := hLM.cg g_16
  obtain ⟨T_45, q_46, hW_47, k_48⟩ := id hLM
  have sm_44 : MSAME f f_14 m := zm_cg hW_47 k_48 g_16
  have sx_43 : SAME f f_14 x := zs_T hW_19 e_42 k_20 h_15.2.2.1 rfl g_17
  have rl_49 := RLn.step hRL sx_43 sm_44
  refine v_swap ?_
  refine v_pop hC dL_law_1102 rfl ?_
  refine v_aload_n hC dL_law_1103 rfl ?_
  refine v_aload_n hC dL_law_1104 rfl ?_
  refine v_iload_n hC dL_law_1105 rfl ?_
  refine v_iconst hC dL_law_1106 (v := 1) (by decide) ?_
  refine v_iadd hC dL_law_1107 h_2 ?_
  refine v_sld hC hX hbl hbA (vp_in_iff.mpr (by omega)) h_5 dL_law_1108 ?_
  refine v_aload_n hC dL_law_1109 rfl ?_
  refine v_iload_n hC dL_law_1110 rfl ?_
  refine v_iconst hC dL_law_1111 (v := 2) (by decide) ?_
  refine v_iadd hC dL_law_1112 h_7 ?_
  refine v_sld hC hX hbl hbA (vp_in_iff.mpr (by omega)) h_10 dL_law_1113 ?_
  obtain ⟨T_57, q_60, hW_58, k_59⟩ := lm_40
  obtain ⟨m_61, t_62, -, k1_k_59, -, -, -, -, k14_k_59, -⟩ := id k_59
  obtain ⟨v_64, v_65, v_66, v_67, v_68, v_69, v_70, v_71, v_72, v_73, v_74, e_63, -, -, -, -, -, -, -⟩ := hW_58.at m_61 t_62
  obtain ⟨g_75, e_76, o_77⟩ := hW_58.at k1_k_59.1 k1_k_59.2
  refine v_viR hC (rest := []) m_61 e_63 rfl mi_X12_copy ms_X12_copy (p_X12_copy hW_58 k_59 e_76 o_77) mx_X12_copy ml_L_141 (by decide) rfl (cells1 := c) (slots1 := s) rfl rfl (by omega) (by omega) rfl (Nat.le_of_ble_eq_true rfl) dL_law_1114 (fun r_50 L_51 f_52 f_53 h_54 g_55 g_56 => ?_)
  have e_81 := h_54.2.1
  have hl_80 := h_54.1
  subst hl_80
  have lx_78 : LM E m _ f_53 := ⟨T_57, q_60, e_81.cg g_56, k_59⟩
  have lm_79 := lx_39.cg g_55
  obtain ⟨T_84, hW_85, k_86⟩ := id lx_39
  have sx_82 : SAME f_14 f_53 x := zs_cg hW_85 k_86 g_55
  have sm_83 : MSAME f_14 f_53 m := zm_T hW_58 e_81 k_59 h_54.2.2.1 rfl g_56
  have rl_87 := RLn.step rl_49 sx_82 sm_83
  refine v_pop hC dL_law_1117 rfl ?_
  refine v_goto hC dL_law_1118 (tgt := 1468) (by decide) ?_
  refine v_widen (k := c + 27) (n := s + 1953) (by omega) (by omega) ?_
  exact hT _ _ _ lm_79 lx_78 rl_87
set_option maxRecDepth 100000 in
set_option maxHeartbeats 4000000 in
theorem lc_31 {z : Cz} {E : Ez} {b x m N : Nat} {xs : Nat → Int32} (hC : Cx z E cL_law RL 4 14 600000 7302250) (hX : va_X b N xs (zs z) (zs z).heap) (hbl : b < (zs z).heap.size) (hbA : ¬ zA z b) (hN : N ≤ 3072) {i : Int32} {c s : Nat} (hi : 0 ≤ i.toInt ∧ i.toInt + 6 ≤ (N : Int)) (hc : c + 27 ≤ 600000) (hs : s + 1953 ≤ 7302250) (hT : ∀ (Lx Lm : List Nat) (f : Nat → va_E), LX E x Lx f → LM E m Lm f → RLn f x m → V z E 4 (c + 27) (s + 1953) (Lx ++ Lm) f 1468 [(3, .int i), (2, .ref m), (1, .ref x), (0, .ref b)] []) {Lx Lm : List Nat} {f : Nat → va_E} (hLX : LX E x Lx f) (hLM : LM E m Lm f) (hRL : RLn f x m) : V z E 4 c s (Lx ++ Lm) f 1121 [(3, .int i), (2, .ref m), (1, .ref x), (0, .ref b)] [] := by
  refine v_aload_n hC dL_law_1121 rfl ?_
  refine v_aload_n hC dL_law_1122 rfl ?_
  refine v_iload_n hC dL_law_1123 rfl ?_
  refine v_iconst hC dL_law_1124 (v := 1) (by decide) ?_
  obtain ⟨v_1, h_2⟩ : ∃ v9 : Int32, i + 1 = v9 := ⟨_, rfl⟩
  refine v_iadd hC dL_law_1125 h_2 ?_
  have h_3 := add_v h_2 (by first | omega | (simp only [Int32.lt_iff_toInt_lt, Int32.le_iff_toInt_le, Int32.reduceToInt, ← Int32.toInt_inj, true_and, and_true, or_true, true_or, false_or, or_false, false_and, and_false, not_true_eq_false, not_false_eq_true] <;> omega)) (by first | omega | (simp only [Int32.lt_iff_toInt_lt, Int32.le_iff_toInt_le, Int32.reduceToInt, ← Int32.toInt_inj, true_and, and_true, or_true, true_or, false_or, or_false, false_and, and_false, not_true_eq_false, not_false_eq_true] <;> omega))
  try simp only [Int32.reduceToInt] at h_3
  obtain ⟨v_4, h_5⟩ : ∃ v9 : Int32, xs (v_1 : Int32).toNatClampNeg = v9 := ⟨_, rfl⟩
  refine v_sld hC hX hbl hbA (vp_in_iff.mpr (by omega)) h_5 dL_law_1126 ?_
  refine v_aload_n hC dL_law_1127 rfl ?_
  refine v_iload_n hC dL_law_1128 rfl ?_
  refine v_iconst hC dL_law_1129 (v := 2) (by decide) ?_
  obtain ⟨v_6, h_7⟩ : ∃ v9 : Int32, i + 2 = v9 := ⟨_, rfl⟩
  refine v_iadd hC dL_law_1130 h_7 ?_
  have h_8 := add_v h_7 (by first | omega | (simp only [Int32.lt_iff_toInt_lt, Int32.le_iff_toInt_le, Int32.reduceToInt, ← Int32.toInt_inj, true_and, and_true, or_true, true_or, false_or, or_false, false_and, and_false, not_true_eq_false, not_false_eq_true] <;> omega)) (by first | omega | (simp only [Int32.lt_iff_toInt_lt, Int32.le_iff_toInt_le, Int32.reduceToInt, ← Int32.toInt_inj, true_and, and_true, or_true, true_or, false_or, or_false, false_and, and_false, not_true_eq_false, not_false_eq_true] <;> omega))
  try simp only [Int32.reduceToInt] at h_8
  obtain ⟨v_9, h_10⟩ : ∃ v9 : Int32, xs (v_6 : Int32).toNatClampNeg = v9 := ⟨_, rfl⟩
  refine v_sld hC hX hbl hbA (vp_in_iff.mpr (by omega)) h_10 dL_law_1131 ?_
  refine v_aload_n hC dL_law_1132 rfl ?_
  refine v_iload_n hC dL_law_1133 rfl ?_
  refine v_iconst hC dL_law_1134 (v := 3) (by decide) ?_
  obtain ⟨v_11, h_12⟩ : ∃ v9 : Int32, i + 3 = v9 := ⟨_, rfl⟩
  refine v_iadd hC dL_law_1135 h_12 ?_
  have h_13 := add_v h_12 (by first | omega | (simp only [Int32.lt_iff_toInt_lt, Int32.le_iff_toInt_le, Int32.reduceToInt, ← Int32.toInt_inj, true_and, and_true, or_true, true_or, false_or, or_false, false_and, and_false, not_true_eq_false, not_false_eq_true] <;> omega)) (by first | omega | (simp only [Int32.lt_iff_toInt_lt, Int32.le_iff_toInt_le, Int32.reduceToInt, ← Int32.toInt_inj, true_and, and_true, or_true, true_or, false_or, or_false, false_and, and_false, not_true_eq_false, not_false_eq_true] <;> omega))
  try simp only [Int32.reduceToInt] at h_13
  obtain ⟨v_14, h_15⟩ : ∃ v9 : Int32, xs (v_11 : Int32).toNatClampNeg = v9 := ⟨_, rfl⟩
  refine v_sld hC hX hbl hbA (vp_in_iff.mpr (by omega)) h_15 dL_law_1136 ?_
  refine v_swap ?_
  obtain ⟨T_23, hW_24, k_25⟩ := hLX
  obtain ⟨m_27, q_30, q_31, q_32, q_33, q_34, q_35, q_36, q_37, q_38, q_39, q_40, q_41, q_42, q_43, t_28, -, -, -, -, -, -, -, -, -, -, -, -, -, -⟩ := id k_25
  have e_29 := hW_24.at m_27 t_28
  refine v_viR hC (rest := []) m_27 e_29 rfl mi_X11_turn ms_X11_turn (p_X11_turn hW_24 k_25) mx_X11_turn ml_L_142 (by decide) rfl (cells1 := c) (slots1 := s) rfl rfl (by omega) (by omega) rfl (Nat.le_of_ble_eq_true rfl) dL_law_1137 (fun r_16 L_17 f_18 f_19 h_20 g_21 g_22 => ?_)
  have e_47 := h_20.2.1
  have hl_46 := h_20.1
  subst hl_46
  have lx_44 : LX E x _ f_19 := ⟨T_23, e_47.cg g_22, k_25⟩
  have lm_45 := hLM.cg g_21
  obtain ⟨T_50, q_51, hW_52, k_53⟩ := id hLM
  have sm_49 : MSAME f f_19 m := zm_cg hW_52 k_53 g_21
  have sx_48 : SAME f f_19 x := zs_T hW_24 e_47 k_25 h_20.2.2.1 rfl g_22
  have rl_54 := RLn.step hRL sx_48 sm_49
  refine v_swap ?_
  refine v_pop hC dL_law_1140 rfl ?_
  refine v_aload_n hC dL_law_1141 rfl ?_
  refine v_aload_n hC dL_law_1142 rfl ?_
  refine v_iload_n hC dL_law_1143 rfl ?_
  refine v_iconst hC dL_law_1144 (v := 1) (by decide) ?_
  refine v_iadd hC dL_law_1145 h_2 ?_
  refine v_sld hC hX hbl hbA (vp_in_iff.mpr (by omega)) h_5 dL_law_1146 ?_
  refine v_aload_n hC dL_law_1147 rfl ?_
  refine v_iload_n hC dL_law_1148 rfl ?_
  refine v_iconst hC dL_law_1149 (v := 2) (by decide) ?_
  refine v_iadd hC dL_law_1150 h_7 ?_
  refine v_sld hC hX hbl hbA (vp_in_iff.mpr (by omega)) h_10 dL_law_1151 ?_
  refine v_aload_n hC dL_law_1152 rfl ?_
  refine v_iload_n hC dL_law_1153 rfl ?_
  refine v_iconst hC dL_law_1154 (v := 3) (by decide) ?_
  refine v_iadd hC dL_law_1155 h_12 ?_
  refine v_sld hC hX hbl hbA (vp_in_iff.mpr (by omega)) h_15 dL_law_1156 ?_
  obtain ⟨T_62, q_65, hW_63, k_64⟩ := lm_45
  obtain ⟨m_66, t_67, -, k1_k_64, -, -, -, -, k14_k_64, -⟩ := id k_64
  obtain ⟨v_69, v_70, v_71, v_72, v_73, v_74, v_75, v_76, v_77, v_78, v_79, e_68, -, -, -, -, -, -, -⟩ := hW_63.at m_66 t_67
  obtain ⟨g_80, e_81, o_82⟩ := hW_63.at k1_k_64.1 k1_k_64.2
  refine v_viR hC (rest := []) m_66 e_68 rfl mi_X12_turn ms_X12_turn (p_X12_turn hW_63 k_64 e_81 o_82) mx_X12_turn ml_L_145 (by decide) rfl (cells1 := c) (slots1 := s) rfl rfl (by omega) (by omega) rfl (Nat.le_of_ble_eq_true rfl) dL_law_1157 (fun r_55 L_56 f_57 f_58 h_59 g_60 g_61 => ?_)
  have e_86 := h_59.2.1
  have hl_85 := h_59.1
  subst hl_85
  have lx_83 : LM E m _ f_58 := ⟨T_62, q_65, e_86.cg g_61, k_64⟩
  have lm_84 := lx_44.cg g_60
  obtain ⟨T_89, hW_90, k_91⟩ := id lx_44
  have sx_87 : SAME f_19 f_58 x := zs_cg hW_90 k_91 g_60
  have sm_88 : MSAME f_19 f_58 m := zm_T hW_63 e_86 k_64 h_59.2.2.1 rfl g_61
  have rl_92 := RLn.step rl_54 sx_87 sm_88
  refine v_pop hC dL_law_1160 rfl ?_
  refine v_goto hC dL_law_1161 (tgt := 1468) (by decide) ?_
  refine v_widen (k := c + 27) (n := s + 1953) (by omega) (by omega) ?_
  exact hT _ _ _ lm_84 lx_83 rl_92
set_option maxRecDepth 100000 in
set_option maxHeartbeats 4000000 in
theorem lc_32 {z : Cz} {E : Ez} {b x m N : Nat} {xs : Nat → Int32} (hC : Cx z E cL_law RL 4 14 600000 7302250) (hX : va_X b N xs (zs z) (zs z).heap) (hbl : b < (zs z).heap.size) (hbA : ¬ zA z b) (hN : N ≤ 3072) {i : Int32} {c s : Nat} (hi : 0 ≤ i.toInt ∧ i.toInt + 6 ≤ (N : Int)) (hc : c + 27 ≤ 600000) (hs : s + 1953 ≤ 7302250) (hT : ∀ (Lx Lm : List Nat) (f : Nat → va_E), LX E x Lx f → LM E m Lm f → RLn f x m → V z E 4 (c + 27) (s + 1953) (Lx ++ Lm) f 1468 [(3, .int i), (2, .ref m), (1, .ref x), (0, .ref b)] []) {Lx Lm : List Nat} {f : Nat → va_E} (hLX : LX E x Lx f) (hLM : LM E m Lm f) (hRL : RLn f x m) : V z E 4 c s (Lx ++ Lm) f 1164 [(3, .int i), (2, .ref m), (1, .ref x), (0, .ref b)] [] := by
  refine v_aload_n hC dL_law_1164 rfl ?_
  refine v_aload_n hC dL_law_1165 rfl ?_
  refine v_iload_n hC dL_law_1166 rfl ?_
  refine v_iconst hC dL_law_1167 (v := 1) (by decide) ?_
  obtain ⟨v_1, h_2⟩ : ∃ v9 : Int32, i + 1 = v9 := ⟨_, rfl⟩
  refine v_iadd hC dL_law_1168 h_2 ?_
  have h_3 := add_v h_2 (by first | omega | (simp only [Int32.lt_iff_toInt_lt, Int32.le_iff_toInt_le, Int32.reduceToInt, ← Int32.toInt_inj, true_and, and_true, or_true, true_or, false_or, or_false, false_and, and_false, not_true_eq_false, not_false_eq_true] <;> omega)) (by first | omega | (simp only [Int32.lt_iff_toInt_lt, Int32.le_iff_toInt_le, Int32.reduceToInt, ← Int32.toInt_inj, true_and, and_true, or_true, true_or, false_or, or_false, false_and, and_false, not_true_eq_false, not_false_eq_true] <;> omega))
  try simp only [Int32.reduceToInt] at h_3
  obtain ⟨v_4, h_5⟩ : ∃ v9 : Int32, xs (v_1 : Int32).toNatClampNeg = v9 := ⟨_, rfl⟩
  refine v_sld hC hX hbl hbA (vp_in_iff.mpr (by omega)) h_5 dL_law_1169 ?_
  refine v_swap ?_
  obtain ⟨T_13, hW_14, k_15⟩ := hLX
  obtain ⟨m_17, q_20, q_21, q_22, q_23, q_24, q_25, q_26, q_27, q_28, q_29, q_30, q_31, q_32, q_33, t_18, -, -, -, -, -, -, -, -, -, -, -, -, -, -⟩ := id k_15
  have e_19 := hW_14.at m_17 t_18
  refine v_viR hC (rest := []) m_17 e_19 rfl mi_X11_mend ms_X11_mend (p_X11_mend hW_14 k_15) mx_X11_mend ml_L_146 (by decide) rfl (cells1 := c) (slots1 := s) rfl rfl (by omega) (by omega) rfl (Nat.le_of_ble_eq_true rfl) dL_law_1170 (fun r_6 L_7 f_8 f_9 h_10 g_11 g_12 => ?_)
  have e_37 := h_10.2.1
  have hl_36 := h_10.1
  subst hl_36
  have lx_34 : LX E x _ f_9 := ⟨T_13, e_37.cg g_12, k_15⟩
  have lm_35 := hLM.cg g_11
  obtain ⟨T_40, q_41, hW_42, k_43⟩ := id hLM
  have sm_39 : MSAME f f_9 m := zm_cg hW_42 k_43 g_11
  have sx_38 : SAME f f_9 x := zs_T hW_14 e_37 k_15 h_10.2.2.1 rfl g_12
  have rl_44 := RLn.step hRL sx_38 sm_39
  refine v_swap ?_
  refine v_pop hC dL_law_1173 rfl ?_
  refine v_aload_n hC dL_law_1174 rfl ?_
  refine v_aload_n hC dL_law_1175 rfl ?_
  refine v_iload_n hC dL_law_1176 rfl ?_
  refine v_iconst hC dL_law_1177 (v := 1) (by decide) ?_
  refine v_iadd hC dL_law_1178 h_2 ?_
  refine v_sld hC hX hbl hbA (vp_in_iff.mpr (by omega)) h_5 dL_law_1179 ?_
  obtain ⟨T_52, q_55, hW_53, k_54⟩ := lm_35
  obtain ⟨m_56, t_57, -, k1_k_54, -, -, -, -, k14_k_54, -⟩ := id k_54
  obtain ⟨v_59, v_60, v_61, v_62, v_63, v_64, v_65, v_66, v_67, v_68, v_69, e_58, -, -, -, -, -, -, -⟩ := hW_53.at m_56 t_57
  obtain ⟨g_70, e_71, o_72⟩ := hW_53.at k1_k_54.1 k1_k_54.2
  refine v_viR hC (rest := []) m_56 e_58 rfl mi_X12_mend ms_X12_mend (p_X12_mend hW_53 k_54 e_71 o_72) mx_X12_mend ml_L_149 (by decide) rfl (cells1 := c) (slots1 := s) rfl rfl (by omega) (by omega) rfl (Nat.le_of_ble_eq_true rfl) dL_law_1180 (fun r_45 L_46 f_47 f_48 h_49 g_50 g_51 => ?_)
  have e_76 := h_49.2.1
  have hl_75 := h_49.1
  subst hl_75
  have lx_73 : LM E m _ f_48 := ⟨T_52, q_55, e_76.cg g_51, k_54⟩
  have lm_74 := lx_34.cg g_50
  obtain ⟨T_79, hW_80, k_81⟩ := id lx_34
  have sx_77 : SAME f_9 f_48 x := zs_cg hW_80 k_81 g_50
  have sm_78 : MSAME f_9 f_48 m := zm_T hW_53 e_76 k_54 h_49.2.2.1 rfl g_51
  have rl_82 := RLn.step rl_44 sx_77 sm_78
  refine v_pop hC dL_law_1183 rfl ?_
  refine v_goto hC dL_law_1184 (tgt := 1468) (by decide) ?_
  refine v_widen (k := c + 27) (n := s + 1953) (by omega) (by omega) ?_
  exact hT _ _ _ lm_74 lx_73 rl_82
set_option maxRecDepth 100000 in
set_option maxHeartbeats 4000000 in
theorem lc_33 {z : Cz} {E : Ez} {b x m N : Nat} {xs : Nat → Int32} (hC : Cx z E cL_law RL 4 14 600000 7302250) (hX : va_X b N xs (zs z) (zs z).heap) (hbl : b < (zs z).heap.size) (hbA : ¬ zA z b) (hN : N ≤ 3072) {i : Int32} {c s : Nat} (hi : 0 ≤ i.toInt ∧ i.toInt + 6 ≤ (N : Int)) (hc : c + 27 ≤ 600000) (hs : s + 1953 ≤ 7302250) (hT : ∀ (Lx Lm : List Nat) (f : Nat → va_E), LX E x Lx f → LM E m Lm f → RLn f x m → V z E 4 (c + 27) (s + 1953) (Lx ++ Lm) f 1468 [(3, .int i), (2, .ref m), (1, .ref x), (0, .ref b)] []) {Lx Lm : List Nat} {f : Nat → va_E} (hLX : LX E x Lx f) (hLM : LM E m Lm f) (hRL : RLn f x m) : V z E 4 c s (Lx ++ Lm) f 1187 [(3, .int i), (2, .ref m), (1, .ref x), (0, .ref b)] [] := by
  refine v_aload_n hC dL_law_1187 rfl ?_
  refine v_aload_n hC dL_law_1188 rfl ?_
  refine v_iload_n hC dL_law_1189 rfl ?_
  refine v_iconst hC dL_law_1190 (v := 1) (by decide) ?_
  obtain ⟨v_1, h_2⟩ : ∃ v9 : Int32, i + 1 = v9 := ⟨_, rfl⟩
  refine v_iadd hC dL_law_1191 h_2 ?_
  have h_3 := add_v h_2 (by first | omega | (simp only [Int32.lt_iff_toInt_lt, Int32.le_iff_toInt_le, Int32.reduceToInt, ← Int32.toInt_inj, true_and, and_true, or_true, true_or, false_or, or_false, false_and, and_false, not_true_eq_false, not_false_eq_true] <;> omega)) (by first | omega | (simp only [Int32.lt_iff_toInt_lt, Int32.le_iff_toInt_le, Int32.reduceToInt, ← Int32.toInt_inj, true_and, and_true, or_true, true_or, false_or, or_false, false_and, and_false, not_true_eq_false, not_false_eq_true] <;> omega))
  try simp only [Int32.reduceToInt] at h_3
  obtain ⟨v_4, h_5⟩ : ∃ v9 : Int32, xs (v_1 : Int32).toNatClampNeg = v9 := ⟨_, rfl⟩
  refine v_sld hC hX hbl hbA (vp_in_iff.mpr (by omega)) h_5 dL_law_1192 ?_
  refine v_swap ?_
  obtain ⟨T_13, hW_14, k_15⟩ := hLX
  obtain ⟨m_17, q_20, q_21, q_22, q_23, q_24, q_25, q_26, q_27, q_28, q_29, q_30, q_31, q_32, q_33, t_18, -, -, -, -, -, -, -, -, -, -, -, -, -, -⟩ := id k_15
  have e_19 := hW_14.at m_17 t_18
  refine v_viR hC (rest := []) m_17 e_19 rfl mi_X11_count ms_X11_count (p_X11_count hW_14 k_15) mx_X11_count ml_L_150 (by decide) rfl (cells1 := c) (slots1 := s) rfl rfl (by omega) (by omega) rfl (Nat.le_of_ble_eq_true rfl) dL_law_1193 (fun r_6 L_7 f_8 f_9 h_10 g_11 g_12 => ?_)
  have e_37 := h_10.2.1
  have hl_36 := h_10.1
  subst hl_36
  have lx_34 : LX E x _ f_9 := ⟨T_13, (hW_14.cg (fun a9 h9 => (g_12 a9 h9).trans (congrFun e_37.symm a9))), k_15⟩
  have lm_35 := hLM.cg g_11
  obtain ⟨T_40, q_41, hW_42, k_43⟩ := id hLM
  have sm_39 : MSAME f f_9 m := zm_cg hW_42 k_43 g_11
  have sx_38 : SAME f f_9 x := zs_cg hW_14 k_15 (fun a9 h9 => (g_12 a9 h9).trans (congrFun e_37.symm a9))
  have rl_44 := RLn.step hRL sx_38 sm_39
  refine v_swap ?_
  refine v_pop hC dL_law_1196 rfl ?_
  refine v_aload_n hC dL_law_1197 rfl ?_
  refine v_aload_n hC dL_law_1198 rfl ?_
  refine v_iload_n hC dL_law_1199 rfl ?_
  refine v_iconst hC dL_law_1200 (v := 1) (by decide) ?_
  refine v_iadd hC dL_law_1201 h_2 ?_
  refine v_sld hC hX hbl hbA (vp_in_iff.mpr (by omega)) h_5 dL_law_1202 ?_
  obtain ⟨T_52, q_55, hW_53, k_54⟩ := lm_35
  obtain ⟨m_56, t_57, -, k1_k_54, -, -, -, -, k14_k_54, -⟩ := id k_54
  obtain ⟨v_59, v_60, v_61, v_62, v_63, v_64, v_65, v_66, v_67, v_68, v_69, e_58, -, -, -, -, -, -, -⟩ := hW_53.at m_56 t_57
  obtain ⟨g_70, e_71, o_72⟩ := hW_53.at k1_k_54.1 k1_k_54.2
  refine v_viR hC (rest := []) m_56 e_58 rfl mi_X12_count ms_X12_count (p_X12_count hW_53 k_54 e_71 o_72) mx_X12_count ml_L_153 (by decide) rfl (cells1 := c) (slots1 := s) rfl rfl (by omega) (by omega) rfl (Nat.le_of_ble_eq_true rfl) dL_law_1203 (fun r_45 L_46 f_47 f_48 h_49 g_50 g_51 => ?_)
  have e_76 := h_49.2.1
  have hl_75 := h_49.1
  subst hl_75
  have lx_73 : LM E m _ f_48 := ⟨T_52, q_55, (hW_53.cg (fun a9 h9 => (g_51 a9 h9).trans (congrFun e_76.symm a9))), k_54⟩
  have lm_74 := lx_34.cg g_50
  obtain ⟨T_79, hW_80, k_81⟩ := id lx_34
  have sx_77 : SAME f_9 f_48 x := zs_cg hW_80 k_81 g_50
  have sm_78 : MSAME f_9 f_48 m := zm_cg hW_53 k_54 (fun a9 h9 => (g_51 a9 h9).trans (congrFun e_76.symm a9))
  have rl_82 := RLn.step rl_44 sx_77 sm_78
  refine v_pop hC dL_law_1206 rfl ?_
  refine v_goto hC dL_law_1207 (tgt := 1468) (by decide) ?_
  refine v_widen (k := c + 27) (n := s + 1953) (by omega) (by omega) ?_
  exact hT _ _ _ lm_74 lx_73 rl_82
set_option maxRecDepth 100000 in
set_option maxHeartbeats 4000000 in
theorem lc_34 {z : Cz} {E : Ez} {b x m N : Nat} {xs : Nat → Int32} (hC : Cx z E cL_law RL 4 14 600000 7302250) (hX : va_X b N xs (zs z) (zs z).heap) (hbl : b < (zs z).heap.size) (hbA : ¬ zA z b) (hN : N ≤ 3072) {i : Int32} {c s : Nat} (hi : 0 ≤ i.toInt ∧ i.toInt + 6 ≤ (N : Int)) (hc : c + 27 ≤ 600000) (hs : s + 1953 ≤ 7302250) (hT : ∀ (Lx Lm : List Nat) (f : Nat → va_E), LX E x Lx f → LM E m Lm f → RLn f x m → V z E 4 (c + 27) (s + 1953) (Lx ++ Lm) f 1468 [(3, .int i), (2, .ref m), (1, .ref x), (0, .ref b)] []) {Lx Lm : List Nat} {f : Nat → va_E} (hLX : LX E x Lx f) (hLM : LM E m Lm f) (hRL : RLn f x m) : V z E 4 c s (Lx ++ Lm) f 1210 [(3, .int i), (2, .ref m), (1, .ref x), (0, .ref b)] [] := by
  refine v_aload_n hC dL_law_1210 rfl ?_
  refine v_aload_n hC dL_law_1211 rfl ?_
  refine v_iload_n hC dL_law_1212 rfl ?_
  refine v_iconst hC dL_law_1213 (v := 1) (by decide) ?_
  obtain ⟨v_1, h_2⟩ : ∃ v9 : Int32, i + 1 = v9 := ⟨_, rfl⟩
  refine v_iadd hC dL_law_1214 h_2 ?_
  have h_3 := add_v h_2 (by first | omega | (simp only [Int32.lt_iff_toInt_lt, Int32.le_iff_toInt_le, Int32.reduceToInt, ← Int32.toInt_inj, true_and, and_true, or_true, true_or, false_or, or_false, false_and, and_false, not_true_eq_false, not_false_eq_true] <;> omega)) (by first | omega | (simp only [Int32.lt_iff_toInt_lt, Int32.le_iff_toInt_le, Int32.reduceToInt, ← Int32.toInt_inj, true_and, and_true, or_true, true_or, false_or, or_false, false_and, and_false, not_true_eq_false, not_false_eq_true] <;> omega))
  try simp only [Int32.reduceToInt] at h_3
  obtain ⟨v_4, h_5⟩ : ∃ v9 : Int32, xs (v_1 : Int32).toNatClampNeg = v9 := ⟨_, rfl⟩
  refine v_sld hC hX hbl hbA (vp_in_iff.mpr (by omega)) h_5 dL_law_1215 ?_
  refine v_swap ?_
  obtain ⟨T_13, hW_14, k_15⟩ := hLX
  obtain ⟨m_17, q_20, q_21, q_22, q_23, q_24, q_25, q_26, q_27, q_28, q_29, q_30, q_31, q_32, q_33, t_18, -, -, -, -, -, -, -, -, -, -, -, -, -, -⟩ := id k_15
  have e_19 := hW_14.at m_17 t_18
  refine v_viR hC (rest := []) m_17 e_19 rfl mi_X11_keep ms_X11_keep (p_X11_keep hW_14 k_15) mx_X11_keep ml_L_154 (by decide) rfl (cells1 := c + 27) (slots1 := s + 1953) rfl rfl (by omega) (by omega) rfl (Nat.le_of_ble_eq_true rfl) dL_law_1216 (fun r_6 L_7 f_8 f_9 h_10 g_11 g_12 => ?_)
  obtain ⟨kt_36, T_37, hW_38, k_39, kt_36_p⟩ := h_10
  have lx_34 : LX E x L_7 f_9 := ⟨T_37, hW_38.cg g_12, k_39⟩
  have lm_35 := hLM.cg g_11
  obtain ⟨T_42, q_43, hW_44, k_45⟩ := id hLM
  have sm_41 : MSAME f f_9 m := zm_cg hW_44 k_45 g_11
  have sx_40 : SAME f f_9 x := zs_kp hW_14 k_15 kt_36_p g_12
  have rl_46 := RLn.step hRL sx_40 sm_41
  refine v_swap ?_
  refine v_pop hC dL_law_1219 rfl ?_
  refine v_aload_n hC dL_law_1220 rfl ?_
  refine v_aload_n hC dL_law_1221 rfl ?_
  refine v_iload_n hC dL_law_1222 rfl ?_
  refine v_iconst hC dL_law_1223 (v := 1) (by decide) ?_
  refine v_iadd hC dL_law_1224 h_2 ?_
  refine v_sld hC hX hbl hbA (vp_in_iff.mpr (by omega)) h_5 dL_law_1225 ?_
  obtain ⟨T_54, q_57, hW_55, k_56⟩ := lm_35
  obtain ⟨m_58, t_59, -, k1_k_56, -, -, -, -, k14_k_56, -⟩ := id k_56
  obtain ⟨v_61, v_62, v_63, v_64, v_65, v_66, v_67, v_68, v_69, v_70, v_71, e_60, -, -, -, -, -, -, -⟩ := hW_55.at m_58 t_59
  obtain ⟨g_72, e_73, o_74⟩ := hW_55.at k1_k_56.1 k1_k_56.2
  refine v_viR hC (rest := []) m_58 e_60 rfl mi_X12_keep ms_X12_keep (p_X12_keep hW_55 k_56 e_73 o_74) mx_X12_keep ml_L_157 (by decide) rfl (cells1 := c + 27) (slots1 := s + 1953) rfl rfl (by omega) (by omega) rfl (Nat.le_of_ble_eq_true rfl) dL_law_1226 (fun r_47 L_48 f_49 f_50 h_51 g_52 g_53 => ?_)
  have e_78 := h_51.2.1
  have hl_77 := h_51.1
  subst hl_77
  have lx_75 : LM E m _ f_50 := ⟨T_54, q_57, e_78.cg g_53, k_56⟩
  have lm_76 := lx_34.cg g_52
  obtain ⟨T_81, hW_82, k_83⟩ := id lx_34
  have sx_79 : SAME f_9 f_50 x := zs_cg hW_82 k_83 g_52
  have sm_80 : MSAME f_9 f_50 m := zm_T hW_55 e_78 k_56 h_51.2.2.1 rfl g_53
  have rl_84 := RLn.step rl_46 sx_79 sm_80
  refine v_pop hC dL_law_1229 rfl ?_
  refine v_goto hC dL_law_1230 (tgt := 1468) (by decide) ?_
  refine v_widen (k := c + 27) (n := s + 1953) (by omega) (by omega) ?_
  exact hT _ _ _ lm_76 lx_75 rl_84
set_option maxRecDepth 100000 in
set_option maxHeartbeats 4000000 in
theorem lc_35 {z : Cz} {E : Ez} {b x m N : Nat} {xs : Nat → Int32} (hC : Cx z E cL_law RL 4 14 600000 7302250) (hX : va_X b N xs (zs z) (zs z).heap) (hbl : b < (zs z).heap.size) (hbA : ¬ zA z b) (hN : N ≤ 3072) {i : Int32} {c s : Nat} (hi : 0 ≤ i.toInt ∧ i.toInt + 6 ≤ (N : Int)) (hc : c + 27 ≤ 600000) (hs : s + 1953 ≤ 7302250) (hT : ∀ (Lx Lm : List Nat) (f : Nat → va_E), LX E x Lx f → LM E m Lm f → RLn f x m → V z E 4 (c + 27) (s + 1953) (Lx ++ Lm) f 1468 [(3, .int i), (2, .ref m), (1, .ref x), (0, .ref b)] []) {Lx Lm : List Nat} {f : Nat → va_E} (hLX : LX E x Lx f) (hLM : LM E m Lm f) (hRL : RLn f x m) : V z E 4 c s (Lx ++ Lm) f 1233 [(3, .int i), (2, .ref m), (1, .ref x), (0, .ref b)] [] := by
  refine v_aload_n hC dL_law_1233 rfl ?_
  refine v_aload_n hC dL_law_1234 rfl ?_
  refine v_iload_n hC dL_law_1235 rfl ?_
  refine v_iconst hC dL_law_1236 (v := 1) (by decide) ?_
  obtain ⟨v_1, h_2⟩ : ∃ v9 : Int32, i + 1 = v9 := ⟨_, rfl⟩
  refine v_iadd hC dL_law_1237 h_2 ?_
  have h_3 := add_v h_2 (by first | omega | (simp only [Int32.lt_iff_toInt_lt, Int32.le_iff_toInt_le, Int32.reduceToInt, ← Int32.toInt_inj, true_and, and_true, or_true, true_or, false_or, or_false, false_and, and_false, not_true_eq_false, not_false_eq_true] <;> omega)) (by first | omega | (simp only [Int32.lt_iff_toInt_lt, Int32.le_iff_toInt_le, Int32.reduceToInt, ← Int32.toInt_inj, true_and, and_true, or_true, true_or, false_or, or_false, false_and, and_false, not_true_eq_false, not_false_eq_true] <;> omega))
  try simp only [Int32.reduceToInt] at h_3
  obtain ⟨v_4, h_5⟩ : ∃ v9 : Int32, xs (v_1 : Int32).toNatClampNeg = v9 := ⟨_, rfl⟩
  refine v_sld hC hX hbl hbA (vp_in_iff.mpr (by omega)) h_5 dL_law_1238 ?_
  refine v_swap ?_
  obtain ⟨T_13, hW_14, k_15⟩ := hLX
  obtain ⟨m_17, q_20, q_21, q_22, q_23, q_24, q_25, q_26, q_27, q_28, q_29, q_30, q_31, q_32, q_33, t_18, -, -, -, -, -, -, -, -, -, -, -, -, -, -⟩ := id k_15
  have e_19 := hW_14.at m_17 t_18
  refine v_viR hC (rest := []) m_17 e_19 rfl mi_X11_back ms_X11_back (p_X11_back hW_14 k_15) mx_X11_back ml_L_158 (by decide) rfl (cells1 := c) (slots1 := s) rfl rfl (by omega) (by omega) rfl (Nat.le_of_ble_eq_true rfl) dL_law_1239 (fun r_6 L_7 f_8 f_9 h_10 g_11 g_12 => ?_)
  have e_37 := h_10.2.1
  have hl_36 := h_10.1
  subst hl_36
  have lx_34 : LX E x _ f_9 := ⟨T_13, e_37.cg g_12, k_15⟩
  have lm_35 := hLM.cg g_11
  obtain ⟨T_40, q_41, hW_42, k_43⟩ := id hLM
  have sm_39 : MSAME f f_9 m := zm_cg hW_42 k_43 g_11
  have sx_38 : SAME f f_9 x := zs_T hW_14 e_37 k_15 h_10.2.2.1 rfl g_12
  have rl_44 := RLn.step hRL sx_38 sm_39
  refine v_swap ?_
  refine v_pop hC dL_law_1242 rfl ?_
  refine v_aload_n hC dL_law_1243 rfl ?_
  refine v_aload_n hC dL_law_1244 rfl ?_
  refine v_iload_n hC dL_law_1245 rfl ?_
  refine v_iconst hC dL_law_1246 (v := 1) (by decide) ?_
  refine v_iadd hC dL_law_1247 h_2 ?_
  refine v_sld hC hX hbl hbA (vp_in_iff.mpr (by omega)) h_5 dL_law_1248 ?_
  obtain ⟨T_52, q_55, hW_53, k_54⟩ := lm_35
  obtain ⟨m_56, t_57, -, k1_k_54, -, -, -, -, k14_k_54, -⟩ := id k_54
  obtain ⟨v_59, v_60, v_61, v_62, v_63, v_64, v_65, v_66, v_67, v_68, v_69, e_58, -, -, -, -, -, -, -⟩ := hW_53.at m_56 t_57
  obtain ⟨g_70, e_71, o_72⟩ := hW_53.at k1_k_54.1 k1_k_54.2
  refine v_viR hC (rest := []) m_56 e_58 rfl mi_X12_back ms_X12_back (p_X12_back hW_53 k_54 e_71 o_72) mx_X12_back ml_L_161 (by decide) rfl (cells1 := c) (slots1 := s) rfl rfl (by omega) (by omega) rfl (Nat.le_of_ble_eq_true rfl) dL_law_1249 (fun r_45 L_46 f_47 f_48 h_49 g_50 g_51 => ?_)
  have e_76 := h_49.2.1
  have hl_75 := h_49.1
  subst hl_75
  have lx_73 : LM E m _ f_48 := ⟨T_52, q_55, e_76.cg g_51, k_54⟩
  have lm_74 := lx_34.cg g_50
  obtain ⟨T_79, hW_80, k_81⟩ := id lx_34
  have sx_77 : SAME f_9 f_48 x := zs_cg hW_80 k_81 g_50
  have sm_78 : MSAME f_9 f_48 m := zm_T hW_53 e_76 k_54 h_49.2.2.1 rfl g_51
  have rl_82 := RLn.step rl_44 sx_77 sm_78
  refine v_pop hC dL_law_1252 rfl ?_
  refine v_goto hC dL_law_1253 (tgt := 1468) (by decide) ?_
  refine v_widen (k := c + 27) (n := s + 1953) (by omega) (by omega) ?_
  exact hT _ _ _ lm_74 lx_73 rl_82
set_option maxRecDepth 100000 in
set_option maxHeartbeats 4000000 in
theorem lc_36 {z : Cz} {E : Ez} {b x m N : Nat} {xs : Nat → Int32} (hC : Cx z E cL_law RL 4 14 600000 7302250) (hX : va_X b N xs (zs z) (zs z).heap) (hbl : b < (zs z).heap.size) (hbA : ¬ zA z b) (hN : N ≤ 3072) {i : Int32} {c s : Nat} (hi : 0 ≤ i.toInt ∧ i.toInt + 6 ≤ (N : Int)) (hc : c + 27 ≤ 600000) (hs : s + 1953 ≤ 7302250) (hT : ∀ (Lx Lm : List Nat) (f : Nat → va_E), LX E x Lx f → LM E m Lm f → RLn f x m → V z E 4 (c + 27) (s + 1953) (Lx ++ Lm) f 1468 [(3, .int i), (2, .ref m), (1, .ref x), (0, .ref b)] []) {Lx Lm : List Nat} {f : Nat → va_E} (hLX : LX E x Lx f) (hLM : LM E m Lm f) (hRL : RLn f x m) : V z E 4 c s (Lx ++ Lm) f 1256 [(3, .int i), (2, .ref m), (1, .ref x), (0, .ref b)] [] := by
  refine v_aload_n hC dL_law_1256 rfl ?_
  refine v_aload_n hC dL_law_1257 rfl ?_
  refine v_iload_n hC dL_law_1258 rfl ?_
  refine v_iconst hC dL_law_1259 (v := 1) (by decide) ?_
  obtain ⟨v_1, h_2⟩ : ∃ v9 : Int32, i + 1 = v9 := ⟨_, rfl⟩
  refine v_iadd hC dL_law_1260 h_2 ?_
  have h_3 := add_v h_2 (by first | omega | (simp only [Int32.lt_iff_toInt_lt, Int32.le_iff_toInt_le, Int32.reduceToInt, ← Int32.toInt_inj, true_and, and_true, or_true, true_or, false_or, or_false, false_and, and_false, not_true_eq_false, not_false_eq_true] <;> omega)) (by first | omega | (simp only [Int32.lt_iff_toInt_lt, Int32.le_iff_toInt_le, Int32.reduceToInt, ← Int32.toInt_inj, true_and, and_true, or_true, true_or, false_or, or_false, false_and, and_false, not_true_eq_false, not_false_eq_true] <;> omega))
  try simp only [Int32.reduceToInt] at h_3
  obtain ⟨v_4, h_5⟩ : ∃ v9 : Int32, xs (v_1 : Int32).toNatClampNeg = v9 := ⟨_, rfl⟩
  refine v_sld hC hX hbl hbA (vp_in_iff.mpr (by omega)) h_5 dL_law_1261 ?_
  refine v_aload_n hC dL_law_1262 rfl ?_
  refine v_iload_n hC dL_law_1263 rfl ?_
  refine v_iconst hC dL_law_1264 (v := 2) (by decide) ?_
  obtain ⟨v_6, h_7⟩ : ∃ v9 : Int32, i + 2 = v9 := ⟨_, rfl⟩
  refine v_iadd hC dL_law_1265 h_7 ?_
  have h_8 := add_v h_7 (by first | omega | (simp only [Int32.lt_iff_toInt_lt, Int32.le_iff_toInt_le, Int32.reduceToInt, ← Int32.toInt_inj, true_and, and_true, or_true, true_or, false_or, or_false, false_and, and_false, not_true_eq_false, not_false_eq_true] <;> omega)) (by first | omega | (simp only [Int32.lt_iff_toInt_lt, Int32.le_iff_toInt_le, Int32.reduceToInt, ← Int32.toInt_inj, true_and, and_true, or_true, true_or, false_or, or_false, false_and, and_false, not_true_eq_false, not_false_eq_true] <;> omega))
  try simp only [Int32.reduceToInt] at h_8
  obtain ⟨v_9, h_10⟩ : ∃ v9 : Int32, xs (v_6 : Int32).toNatClampNeg = v9 := ⟨_, rfl⟩
  refine v_sld hC hX hbl hbA (vp_in_iff.mpr (by omega)) h_10 dL_law_1266 ?_
  refine v_aload_n hC dL_law_1267 rfl ?_
  refine v_iload_n hC dL_law_1268 rfl ?_
  refine v_iconst hC dL_law_1269 (v := 3) (by decide) ?_
  obtain ⟨v_11, h_12⟩ : ∃ v9 : Int32, i + 3 = v9 := ⟨_, rfl⟩
  refine v_iadd hC dL_law_1270 h_12 ?_
  have h_13 := add_v h_12 (by first | omega | (simp only [Int32.lt_iff_toInt_lt, Int32.le_iff_toInt_le, Int32.reduceToInt, ← Int32.toInt_inj, true_and, and_true, or_true, true_or, false_or, or_false, false_and, and_false, not_true_eq_false, not_false_eq_true] <;> omega)) (by first | omega | (simp only [Int32.lt_iff_toInt_lt, Int32.le_iff_toInt_le, Int32.reduceToInt, ← Int32.toInt_inj, true_and, and_true, or_true, true_or, false_or, or_false, false_and, and_false, not_true_eq_false, not_false_eq_true] <;> omega))
  try simp only [Int32.reduceToInt] at h_13
  obtain ⟨v_14, h_15⟩ : ∃ v9 : Int32, xs (v_11 : Int32).toNatClampNeg = v9 := ⟨_, rfl⟩
  refine v_sld hC hX hbl hbA (vp_in_iff.mpr (by omega)) h_15 dL_law_1271 ?_
  refine v_swap ?_
  obtain ⟨T_23, hW_24, k_25⟩ := hLX
  obtain ⟨m_27, q_30, q_31, q_32, q_33, q_34, q_35, q_36, q_37, q_38, q_39, q_40, q_41, q_42, q_43, t_28, -, -, -, -, -, -, -, -, -, -, -, -, -, -⟩ := id k_25
  have e_29 := hW_24.at m_27 t_28
  refine v_viR hC (rest := []) m_27 e_29 rfl mi_X11_row ms_X11_row (p_X11_row hW_24 k_25) mx_X11_row ml_L_162 (by decide) rfl (cells1 := c) (slots1 := s) rfl rfl (by omega) (by omega) rfl (Nat.le_of_ble_eq_true rfl) dL_law_1272 (fun r_16 L_17 f_18 f_19 h_20 g_21 g_22 => ?_)
  have e_47 := h_20.2.1
  have hl_46 := h_20.1
  subst hl_46
  have lx_44 : LX E x _ f_19 := ⟨T_23, e_47.cg g_22, k_25⟩
  have lm_45 := hLM.cg g_21
  obtain ⟨T_50, q_51, hW_52, k_53⟩ := id hLM
  have sm_49 : MSAME f f_19 m := zm_cg hW_52 k_53 g_21
  have rp_55 := h_20.2.2.2.2.2.2.2.1
  have px_54 := rwx_law hW_24 e_47 k_25 hRL.2 h_20.2.2.2.2.2.2.2.2 (by omega) g_22
  refine v_swap ?_
  refine v_pop hC dL_law_1275 rfl ?_
  refine v_aload_n hC dL_law_1276 rfl ?_
  refine v_aload_n hC dL_law_1277 rfl ?_
  refine v_iload_n hC dL_law_1278 rfl ?_
  refine v_iconst hC dL_law_1279 (v := 1) (by decide) ?_
  refine v_iadd hC dL_law_1280 h_2 ?_
  refine v_sld hC hX hbl hbA (vp_in_iff.mpr (by omega)) h_5 dL_law_1281 ?_
  refine v_aload_n hC dL_law_1282 rfl ?_
  refine v_iload_n hC dL_law_1283 rfl ?_
  refine v_iconst hC dL_law_1284 (v := 2) (by decide) ?_
  refine v_iadd hC dL_law_1285 h_7 ?_
  refine v_sld hC hX hbl hbA (vp_in_iff.mpr (by omega)) h_10 dL_law_1286 ?_
  refine v_aload_n hC dL_law_1287 rfl ?_
  refine v_iload_n hC dL_law_1288 rfl ?_
  refine v_iconst hC dL_law_1289 (v := 3) (by decide) ?_
  refine v_iadd hC dL_law_1290 h_12 ?_
  refine v_sld hC hX hbl hbA (vp_in_iff.mpr (by omega)) h_15 dL_law_1291 ?_
  obtain ⟨T_63, q_66, hW_64, k_65⟩ := lm_45
  obtain ⟨m_67, t_68, -, k1_k_65, -, -, -, -, k14_k_65, -⟩ := id k_65
  obtain ⟨v_70, v_71, v_72, v_73, v_74, v_75, v_76, v_77, v_78, v_79, v_80, e_69, -, -, -, -, -, -, -⟩ := hW_64.at m_67 t_68
  obtain ⟨g_81, e_82, o_83⟩ := hW_64.at k1_k_65.1 k1_k_65.2
  refine v_viR hC (rest := []) m_67 e_69 rfl mi_X12_row ms_X12_row (p_X12_row hW_64 k_65 e_82 o_83) mx_X12_row ml_L_165 (by decide) rfl (cells1 := c) (slots1 := s) rfl rfl (by omega) (by omega) rfl (Nat.le_of_ble_eq_true rfl) dL_law_1292 (fun r_56 L_57 f_58 f_59 h_60 g_61 g_62 => ?_)
  have e_87 := h_60.2.1
  have hl_86 := h_60.1
  subst hl_86
  have lx_84 : LM E m _ f_59 := ⟨T_63, q_66, e_87.cg g_62, k_65⟩
  have lm_85 := lx_44.cg g_61
  obtain ⟨T_90, hW_91, k_92⟩ := id lx_44
  have sx_88 : SAME f_19 f_59 x := zs_cg hW_91 k_92 g_61
  have rp_94 := h_60.2.2.2.2.2.2.2.1
  have pm_93 := rwm_law h_60.2.2.2.2.2.2.2.2 (zm_cg e_87 k_65 g_62)
  have rl_95 := RLn.row hRL px_54 sm_49 sx_88 pm_93 (by omega) (by omega)
  refine v_pop hC dL_law_1295 rfl ?_
  refine v_goto hC dL_law_1296 (tgt := 1468) (by decide) ?_
  refine v_widen (k := c + 27) (n := s + 1953) (by omega) (by omega) ?_
  exact hT _ _ _ lm_85 lx_84 rl_95
set_option maxRecDepth 100000 in
set_option maxHeartbeats 4000000 in
theorem lc_37 {z : Cz} {E : Ez} {b x m N : Nat} {xs : Nat → Int32} (hC : Cx z E cL_law RL 4 14 600000 7302250) (hX : va_X b N xs (zs z) (zs z).heap) (hbl : b < (zs z).heap.size) (hbA : ¬ zA z b) (hN : N ≤ 3072) {i : Int32} {c s : Nat} (hi : 0 ≤ i.toInt ∧ i.toInt + 6 ≤ (N : Int)) (hc : c + 27 ≤ 600000) (hs : s + 1953 ≤ 7302250) (hT : ∀ (Lx Lm : List Nat) (f : Nat → va_E), LX E x Lx f → LM E m Lm f → RLn f x m → V z E 4 (c + 27) (s + 1953) (Lx ++ Lm) f 1468 [(3, .int i), (2, .ref m), (1, .ref x), (0, .ref b)] []) {Lx Lm : List Nat} {f : Nat → va_E} (hLX : LX E x Lx f) (hLM : LM E m Lm f) (hRL : RLn f x m) : V z E 4 c s (Lx ++ Lm) f 1299 [(3, .int i), (2, .ref m), (1, .ref x), (0, .ref b)] [] := by
  refine v_aload_n hC dL_law_1299 rfl ?_
  refine v_aload_n hC dL_law_1300 rfl ?_
  refine v_iload_n hC dL_law_1301 rfl ?_
  refine v_iconst hC dL_law_1302 (v := 1) (by decide) ?_
  obtain ⟨v_1, h_2⟩ : ∃ v9 : Int32, i + 1 = v9 := ⟨_, rfl⟩
  refine v_iadd hC dL_law_1303 h_2 ?_
  have h_3 := add_v h_2 (by first | omega | (simp only [Int32.lt_iff_toInt_lt, Int32.le_iff_toInt_le, Int32.reduceToInt, ← Int32.toInt_inj, true_and, and_true, or_true, true_or, false_or, or_false, false_and, and_false, not_true_eq_false, not_false_eq_true] <;> omega)) (by first | omega | (simp only [Int32.lt_iff_toInt_lt, Int32.le_iff_toInt_le, Int32.reduceToInt, ← Int32.toInt_inj, true_and, and_true, or_true, true_or, false_or, or_false, false_and, and_false, not_true_eq_false, not_false_eq_true] <;> omega))
  try simp only [Int32.reduceToInt] at h_3
  obtain ⟨v_4, h_5⟩ : ∃ v9 : Int32, xs (v_1 : Int32).toNatClampNeg = v9 := ⟨_, rfl⟩
  refine v_sld hC hX hbl hbA (vp_in_iff.mpr (by omega)) h_5 dL_law_1304 ?_
  refine v_aload_n hC dL_law_1305 rfl ?_
  refine v_iload_n hC dL_law_1306 rfl ?_
  refine v_iconst hC dL_law_1307 (v := 2) (by decide) ?_
  obtain ⟨v_6, h_7⟩ : ∃ v9 : Int32, i + 2 = v9 := ⟨_, rfl⟩
  refine v_iadd hC dL_law_1308 h_7 ?_
  have h_8 := add_v h_7 (by first | omega | (simp only [Int32.lt_iff_toInt_lt, Int32.le_iff_toInt_le, Int32.reduceToInt, ← Int32.toInt_inj, true_and, and_true, or_true, true_or, false_or, or_false, false_and, and_false, not_true_eq_false, not_false_eq_true] <;> omega)) (by first | omega | (simp only [Int32.lt_iff_toInt_lt, Int32.le_iff_toInt_le, Int32.reduceToInt, ← Int32.toInt_inj, true_and, and_true, or_true, true_or, false_or, or_false, false_and, and_false, not_true_eq_false, not_false_eq_true] <;> omega))
  try simp only [Int32.reduceToInt] at h_8
  obtain ⟨v_9, h_10⟩ : ∃ v9 : Int32, xs (v_6 : Int32).toNatClampNeg = v9 := ⟨_, rfl⟩
  refine v_sld hC hX hbl hbA (vp_in_iff.mpr (by omega)) h_10 dL_law_1309 ?_
  refine v_aload_n hC dL_law_1310 rfl ?_
  refine v_iload_n hC dL_law_1311 rfl ?_
  refine v_iconst hC dL_law_1312 (v := 3) (by decide) ?_
  obtain ⟨v_11, h_12⟩ : ∃ v9 : Int32, i + 3 = v9 := ⟨_, rfl⟩
  refine v_iadd hC dL_law_1313 h_12 ?_
  have h_13 := add_v h_12 (by first | omega | (simp only [Int32.lt_iff_toInt_lt, Int32.le_iff_toInt_le, Int32.reduceToInt, ← Int32.toInt_inj, true_and, and_true, or_true, true_or, false_or, or_false, false_and, and_false, not_true_eq_false, not_false_eq_true] <;> omega)) (by first | omega | (simp only [Int32.lt_iff_toInt_lt, Int32.le_iff_toInt_le, Int32.reduceToInt, ← Int32.toInt_inj, true_and, and_true, or_true, true_or, false_or, or_false, false_and, and_false, not_true_eq_false, not_false_eq_true] <;> omega))
  try simp only [Int32.reduceToInt] at h_13
  obtain ⟨v_14, h_15⟩ : ∃ v9 : Int32, xs (v_11 : Int32).toNatClampNeg = v9 := ⟨_, rfl⟩
  refine v_sld hC hX hbl hbA (vp_in_iff.mpr (by omega)) h_15 dL_law_1314 ?_
  obtain ⟨v_16, h_17⟩ : ∃ v9 : Int64, v_14.toInt64 = v9 := ⟨_, rfl⟩
  refine v_i2l hC dL_law_1315 h_17 ?_
  have h_18 : v_16.toInt = v_14.toInt := by rw [← h_17]; exact Int32.toInt_toInt64 _
  refine v_bipush hC dL_law_1316 (v := 32) (by decide) ?_
  obtain ⟨v_19, h_20⟩ : ∃ v9 : Int64, (v_16 : Int64) <<< ((32 : Int32).toInt64 &&& 63) = v9 := ⟨_, rfl⟩
  refine v_lshl hC dL_law_1318 h_20 ?_
  refine v_aload_n hC dL_law_1319 rfl ?_
  refine v_iload_n hC dL_law_1320 rfl ?_
  refine v_iconst hC dL_law_1321 (v := 4) (by decide) ?_
  obtain ⟨v_21, h_22⟩ : ∃ v9 : Int32, i + 4 = v9 := ⟨_, rfl⟩
  refine v_iadd hC dL_law_1322 h_22 ?_
  have h_23 := add_v h_22 (by first | omega | (simp only [Int32.lt_iff_toInt_lt, Int32.le_iff_toInt_le, Int32.reduceToInt, ← Int32.toInt_inj, true_and, and_true, or_true, true_or, false_or, or_false, false_and, and_false, not_true_eq_false, not_false_eq_true] <;> omega)) (by first | omega | (simp only [Int32.lt_iff_toInt_lt, Int32.le_iff_toInt_le, Int32.reduceToInt, ← Int32.toInt_inj, true_and, and_true, or_true, true_or, false_or, or_false, false_and, and_false, not_true_eq_false, not_false_eq_true] <;> omega))
  try simp only [Int32.reduceToInt] at h_23
  obtain ⟨v_24, h_25⟩ : ∃ v9 : Int32, xs (v_21 : Int32).toNatClampNeg = v9 := ⟨_, rfl⟩
  refine v_sld hC hX hbl hbA (vp_in_iff.mpr (by omega)) h_25 dL_law_1323 ?_
  obtain ⟨v_26, h_27⟩ : ∃ v9 : Int64, v_24.toInt64 = v9 := ⟨_, rfl⟩
  refine v_i2l hC dL_law_1324 h_27 ?_
  have h_28 : v_26.toInt = v_24.toInt := by rw [← h_27]; exact Int32.toInt_toInt64 _
  refine v_ldc2 hC kl_L_166 dL_law_1325 ?_
  obtain ⟨v_29, h_30⟩ : ∃ v9 : Int64, v_26 &&& 4294967295 = v9 := ⟨_, rfl⟩
  refine v_land hC dL_law_1328 h_30 ?_
  obtain ⟨v_31, h_32⟩ : ∃ v9 : Int64, v_19 ||| v_29 = v9 := ⟨_, rfl⟩
  refine v_lor hC dL_law_1329 h_32 ?_
  refine v_swap ?_
  obtain ⟨T_40, hW_41, k_42⟩ := hLX
  obtain ⟨m_44, q_47, q_48, q_49, q_50, q_51, q_52, q_53, q_54, q_55, q_56, q_57, q_58, q_59, q_60, t_45, -, -, -, -, -, -, -, -, -, -, -, -, -, -⟩ := id k_42
  have e_46 := hW_41.at m_44 t_45
  refine v_viR hC (rest := []) m_44 e_46 rfl mi_X11_write ms_X11_write (p_X11_write hW_41 k_42) mx_X11_write ml_L_168 (by decide) rfl (cells1 := c) (slots1 := s) rfl rfl (by omega) (by omega) rfl (Nat.le_of_ble_eq_true rfl) dL_law_1330 (fun r_33 L_34 f_35 f_36 h_37 g_38 g_39 => ?_)
  have e_64 := h_37.2.1
  have hl_63 := h_37.1
  subst hl_63
  have lx_61 : LX E x _ f_36 := ⟨T_40, e_64.cg g_39, k_42⟩
  have lm_62 := hLM.cg g_38
  obtain ⟨T_67, q_68, hW_69, k_70⟩ := id hLM
  have sm_66 : MSAME f f_36 m := zm_cg hW_69 k_70 g_38
  have sx_65 : SAME f f_36 x := zs_T hW_41 e_64 k_42 h_37.2.2.1 rfl g_39
  have rl_71 := RLn.step hRL sx_65 sm_66
  refine v_swap ?_
  refine v_aload_n hC dL_law_1333 rfl ?_
  refine v_aload_n hC dL_law_1334 rfl ?_
  refine v_iload_n hC dL_law_1335 rfl ?_
  refine v_iconst hC dL_law_1336 (v := 1) (by decide) ?_
  refine v_iadd hC dL_law_1337 h_2 ?_
  refine v_sld hC hX hbl hbA (vp_in_iff.mpr (by omega)) h_5 dL_law_1338 ?_
  refine v_aload_n hC dL_law_1339 rfl ?_
  refine v_iload_n hC dL_law_1340 rfl ?_
  refine v_iconst hC dL_law_1341 (v := 2) (by decide) ?_
  refine v_iadd hC dL_law_1342 h_7 ?_
  refine v_sld hC hX hbl hbA (vp_in_iff.mpr (by omega)) h_10 dL_law_1343 ?_
  refine v_aload_n hC dL_law_1344 rfl ?_
  refine v_iload_n hC dL_law_1345 rfl ?_
  refine v_iconst hC dL_law_1346 (v := 3) (by decide) ?_
  refine v_iadd hC dL_law_1347 h_12 ?_
  refine v_sld hC hX hbl hbA (vp_in_iff.mpr (by omega)) h_15 dL_law_1348 ?_
  obtain ⟨v_72, h_73⟩ : ∃ v9 : Int64, v_14.toInt64 = v9 := ⟨_, rfl⟩
  refine v_i2l hC dL_law_1349 h_73 ?_
  have h_74 : v_72.toInt = v_14.toInt := by rw [← h_73]; exact Int32.toInt_toInt64 _
  refine v_bipush hC dL_law_1350 (v := 32) (by decide) ?_
  obtain ⟨v_75, h_76⟩ : ∃ v9 : Int64, (v_72 : Int64) <<< ((32 : Int32).toInt64 &&& 63) = v9 := ⟨_, rfl⟩
  refine v_lshl hC dL_law_1352 h_76 ?_
  refine v_aload_n hC dL_law_1353 rfl ?_
  refine v_iload_n hC dL_law_1354 rfl ?_
  refine v_iconst hC dL_law_1355 (v := 4) (by decide) ?_
  refine v_iadd hC dL_law_1356 h_22 ?_
  refine v_sld hC hX hbl hbA (vp_in_iff.mpr (by omega)) h_25 dL_law_1357 ?_
  obtain ⟨v_77, h_78⟩ : ∃ v9 : Int64, v_24.toInt64 = v9 := ⟨_, rfl⟩
  refine v_i2l hC dL_law_1358 h_78 ?_
  have h_79 : v_77.toInt = v_24.toInt := by rw [← h_78]; exact Int32.toInt_toInt64 _
  refine v_ldc2 hC kl_L_166 dL_law_1359 ?_
  obtain ⟨v_80, h_81⟩ : ∃ v9 : Int64, v_77 &&& 4294967295 = v9 := ⟨_, rfl⟩
  refine v_land hC dL_law_1362 h_81 ?_
  obtain ⟨v_82, h_83⟩ : ∃ v9 : Int64, v_75 ||| v_80 = v9 := ⟨_, rfl⟩
  refine v_lor hC dL_law_1363 h_83 ?_
  obtain ⟨T_91, q_94, hW_92, k_93⟩ := lm_62
  obtain ⟨m_95, t_96, -, k1_k_93, -, -, -, -, k14_k_93, -⟩ := id k_93
  obtain ⟨v_98, v_99, v_100, v_101, v_102, v_103, v_104, v_105, v_106, v_107, v_108, e_97, -, -, -, -, -, -, -⟩ := hW_92.at m_95 t_96
  obtain ⟨g_109, e_110, o_111⟩ := hW_92.at k1_k_93.1 k1_k_93.2
  refine v_viR hC (rest := [.int r_33]) m_95 e_97 rfl mi_X12_write ms_X12_write (p_X12_write hW_92 k_93 e_110 o_111) mx_X12_write ml_L_172 (by decide) rfl (cells1 := c) (slots1 := s) rfl rfl (by omega) (by omega) rfl (Nat.le_of_ble_eq_true rfl) dL_law_1364 (fun r_84 L_85 f_86 f_87 h_88 g_89 g_90 => ?_)
  have e_115 := h_88.2.1
  have hl_114 := h_88.1
  subst hl_114
  have lx_112 : LM E m _ f_87 := ⟨T_91, q_94, e_115.cg g_90, k_93⟩
  have lm_113 := lx_61.cg g_89
  obtain ⟨T_118, hW_119, k_120⟩ := id lx_61
  have sx_116 : SAME f_36 f_87 x := zs_cg hW_119 k_120 g_89
  have sm_117 : MSAME f_36 f_87 m := zm_T hW_92 e_115 k_93 h_88.2.2.1 rfl g_90
  have rl_121 := RLn.step rl_71 sx_116 sm_117
  refine v_icmp_eq_t hC dL_law_1367 (tgt := 1468) (by decide) (cmp_wr (D := zwd f m (v_4 : Int32).toNatClampNeg) h_37.2.2.2.2.2.2 h_88.2.2.2.2.2.2 (fun ha => by rw [(sm_66 _).1]; exact hRL.1 _ (by rw [clamp_t]; omega))) ?_
  refine v_widen (k := c + 27) (n := s + 1953) (by omega) (by omega) ?_
  exact hT _ _ _ lm_113 lx_112 rl_121
set_option maxRecDepth 100000 in
set_option maxHeartbeats 4000000 in
theorem lc_38 {z : Cz} {E : Ez} {b x m N : Nat} {xs : Nat → Int32} (hC : Cx z E cL_law RL 4 14 600000 7302250) (hX : va_X b N xs (zs z) (zs z).heap) (hbl : b < (zs z).heap.size) (hbA : ¬ zA z b) (hN : N ≤ 3072) {i : Int32} {c s : Nat} (hi : 0 ≤ i.toInt ∧ i.toInt + 6 ≤ (N : Int)) (hc : c + 27 ≤ 600000) (hs : s + 1953 ≤ 7302250) (hT : ∀ (Lx Lm : List Nat) (f : Nat → va_E), LX E x Lx f → LM E m Lm f → RLn f x m → V z E 4 (c + 27) (s + 1953) (Lx ++ Lm) f 1468 [(3, .int i), (2, .ref m), (1, .ref x), (0, .ref b)] []) {Lx Lm : List Nat} {f : Nat → va_E} (hLX : LX E x Lx f) (hLM : LM E m Lm f) (hRL : RLn f x m) : V z E 4 c s (Lx ++ Lm) f 1372 [(3, .int i), (2, .ref m), (1, .ref x), (0, .ref b)] [] := by
  refine v_aload_n hC dL_law_1372 rfl ?_
  refine v_aload_n hC dL_law_1373 rfl ?_
  refine v_iload_n hC dL_law_1374 rfl ?_
  refine v_iconst hC dL_law_1375 (v := 1) (by decide) ?_
  obtain ⟨v_1, h_2⟩ : ∃ v9 : Int32, i + 1 = v9 := ⟨_, rfl⟩
  refine v_iadd hC dL_law_1376 h_2 ?_
  have h_3 := add_v h_2 (by first | omega | (simp only [Int32.lt_iff_toInt_lt, Int32.le_iff_toInt_le, Int32.reduceToInt, ← Int32.toInt_inj, true_and, and_true, or_true, true_or, false_or, or_false, false_and, and_false, not_true_eq_false, not_false_eq_true] <;> omega)) (by first | omega | (simp only [Int32.lt_iff_toInt_lt, Int32.le_iff_toInt_le, Int32.reduceToInt, ← Int32.toInt_inj, true_and, and_true, or_true, true_or, false_or, or_false, false_and, and_false, not_true_eq_false, not_false_eq_true] <;> omega))
  try simp only [Int32.reduceToInt] at h_3
  obtain ⟨v_4, h_5⟩ : ∃ v9 : Int32, xs (v_1 : Int32).toNatClampNeg = v9 := ⟨_, rfl⟩
  refine v_sld hC hX hbl hbA (vp_in_iff.mpr (by omega)) h_5 dL_law_1377 ?_
  refine v_aload_n hC dL_law_1378 rfl ?_
  refine v_iload_n hC dL_law_1379 rfl ?_
  refine v_iconst hC dL_law_1380 (v := 2) (by decide) ?_
  obtain ⟨v_6, h_7⟩ : ∃ v9 : Int32, i + 2 = v9 := ⟨_, rfl⟩
  refine v_iadd hC dL_law_1381 h_7 ?_
  have h_8 := add_v h_7 (by first | omega | (simp only [Int32.lt_iff_toInt_lt, Int32.le_iff_toInt_le, Int32.reduceToInt, ← Int32.toInt_inj, true_and, and_true, or_true, true_or, false_or, or_false, false_and, and_false, not_true_eq_false, not_false_eq_true] <;> omega)) (by first | omega | (simp only [Int32.lt_iff_toInt_lt, Int32.le_iff_toInt_le, Int32.reduceToInt, ← Int32.toInt_inj, true_and, and_true, or_true, true_or, false_or, or_false, false_and, and_false, not_true_eq_false, not_false_eq_true] <;> omega))
  try simp only [Int32.reduceToInt] at h_8
  obtain ⟨v_9, h_10⟩ : ∃ v9 : Int32, xs (v_6 : Int32).toNatClampNeg = v9 := ⟨_, rfl⟩
  refine v_sld hC hX hbl hbA (vp_in_iff.mpr (by omega)) h_10 dL_law_1382 ?_
  refine v_aload_n hC dL_law_1383 rfl ?_
  refine v_iload_n hC dL_law_1384 rfl ?_
  refine v_iconst hC dL_law_1385 (v := 3) (by decide) ?_
  obtain ⟨v_11, h_12⟩ : ∃ v9 : Int32, i + 3 = v9 := ⟨_, rfl⟩
  refine v_iadd hC dL_law_1386 h_12 ?_
  have h_13 := add_v h_12 (by first | omega | (simp only [Int32.lt_iff_toInt_lt, Int32.le_iff_toInt_le, Int32.reduceToInt, ← Int32.toInt_inj, true_and, and_true, or_true, true_or, false_or, or_false, false_and, and_false, not_true_eq_false, not_false_eq_true] <;> omega)) (by first | omega | (simp only [Int32.lt_iff_toInt_lt, Int32.le_iff_toInt_le, Int32.reduceToInt, ← Int32.toInt_inj, true_and, and_true, or_true, true_or, false_or, or_false, false_and, and_false, not_true_eq_false, not_false_eq_true] <;> omega))
  try simp only [Int32.reduceToInt] at h_13
  obtain ⟨v_14, h_15⟩ : ∃ v9 : Int32, xs (v_11 : Int32).toNatClampNeg = v9 := ⟨_, rfl⟩
  refine v_sld hC hX hbl hbA (vp_in_iff.mpr (by omega)) h_15 dL_law_1387 ?_
  refine v_aload_n hC dL_law_1388 rfl ?_
  refine v_iload_n hC dL_law_1389 rfl ?_
  refine v_iconst hC dL_law_1390 (v := 4) (by decide) ?_
  obtain ⟨v_16, h_17⟩ : ∃ v9 : Int32, i + 4 = v9 := ⟨_, rfl⟩
  refine v_iadd hC dL_law_1391 h_17 ?_
  have h_18 := add_v h_17 (by first | omega | (simp only [Int32.lt_iff_toInt_lt, Int32.le_iff_toInt_le, Int32.reduceToInt, ← Int32.toInt_inj, true_and, and_true, or_true, true_or, false_or, or_false, false_and, and_false, not_true_eq_false, not_false_eq_true] <;> omega)) (by first | omega | (simp only [Int32.lt_iff_toInt_lt, Int32.le_iff_toInt_le, Int32.reduceToInt, ← Int32.toInt_inj, true_and, and_true, or_true, true_or, false_or, or_false, false_and, and_false, not_true_eq_false, not_false_eq_true] <;> omega))
  try simp only [Int32.reduceToInt] at h_18
  obtain ⟨v_19, h_20⟩ : ∃ v9 : Int32, xs (v_16 : Int32).toNatClampNeg = v9 := ⟨_, rfl⟩
  refine v_sld hC hX hbl hbA (vp_in_iff.mpr (by omega)) h_20 dL_law_1392 ?_
  refine v_aload_n hC dL_law_1393 rfl ?_
  refine v_iload_n hC dL_law_1394 rfl ?_
  refine v_iconst hC dL_law_1395 (v := 5) (by decide) ?_
  obtain ⟨v_21, h_22⟩ : ∃ v9 : Int32, i + 5 = v9 := ⟨_, rfl⟩
  refine v_iadd hC dL_law_1396 h_22 ?_
  have h_23 := add_v h_22 (by first | omega | (simp only [Int32.lt_iff_toInt_lt, Int32.le_iff_toInt_le, Int32.reduceToInt, ← Int32.toInt_inj, true_and, and_true, or_true, true_or, false_or, or_false, false_and, and_false, not_true_eq_false, not_false_eq_true] <;> omega)) (by first | omega | (simp only [Int32.lt_iff_toInt_lt, Int32.le_iff_toInt_le, Int32.reduceToInt, ← Int32.toInt_inj, true_and, and_true, or_true, true_or, false_or, or_false, false_and, and_false, not_true_eq_false, not_false_eq_true] <;> omega))
  try simp only [Int32.reduceToInt] at h_23
  obtain ⟨v_24, h_25⟩ : ∃ v9 : Int32, xs (v_21 : Int32).toNatClampNeg = v9 := ⟨_, rfl⟩
  refine v_sld hC hX hbl hbA (vp_in_iff.mpr (by omega)) h_25 dL_law_1397 ?_
  refine v_swap ?_
  obtain ⟨T_33, hW_34, k_35⟩ := hLX
  obtain ⟨m_37, q_40, q_41, q_42, q_43, q_44, q_45, q_46, q_47, q_48, q_49, q_50, q_51, q_52, q_53, t_38, -, -, -, -, -, -, -, -, -, -, -, -, -, -⟩ := id k_35
  have e_39 := hW_34.at m_37 t_38
  refine v_viR hC (rest := []) m_37 e_39 rfl mi_X11_paste ms_X11_paste (p_X11_paste hW_34 k_35) mx_X11_paste ml_L_173 (by decide) rfl (cells1 := c) (slots1 := s) rfl rfl (by omega) (by omega) rfl (Nat.le_of_ble_eq_true rfl) dL_law_1398 (fun r_26 L_27 f_28 f_29 h_30 g_31 g_32 => ?_)
  have e_57 := h_30.2.1
  have hl_56 := h_30.1
  subst hl_56
  have lx_54 : LX E x _ f_29 := ⟨T_33, e_57.cg g_32, k_35⟩
  have lm_55 := hLM.cg g_31
  obtain ⟨T_60, q_61, hW_62, k_63⟩ := id hLM
  have sm_59 : MSAME f f_29 m := zm_cg hW_62 k_63 g_31
  have sx_58 : SAME f f_29 x := zs_T hW_34 e_57 k_35 h_30.2.2.1 rfl g_32
  have rl_64 := RLn.step hRL sx_58 sm_59
  refine v_swap ?_
  refine v_pop hC dL_law_1401 rfl ?_
  refine v_aload_n hC dL_law_1402 rfl ?_
  refine v_aload_n hC dL_law_1403 rfl ?_
  refine v_iload_n hC dL_law_1404 rfl ?_
  refine v_iconst hC dL_law_1405 (v := 1) (by decide) ?_
  refine v_iadd hC dL_law_1406 h_2 ?_
  refine v_sld hC hX hbl hbA (vp_in_iff.mpr (by omega)) h_5 dL_law_1407 ?_
  refine v_aload_n hC dL_law_1408 rfl ?_
  refine v_iload_n hC dL_law_1409 rfl ?_
  refine v_iconst hC dL_law_1410 (v := 2) (by decide) ?_
  refine v_iadd hC dL_law_1411 h_7 ?_
  refine v_sld hC hX hbl hbA (vp_in_iff.mpr (by omega)) h_10 dL_law_1412 ?_
  refine v_aload_n hC dL_law_1413 rfl ?_
  refine v_iload_n hC dL_law_1414 rfl ?_
  refine v_iconst hC dL_law_1415 (v := 3) (by decide) ?_
  refine v_iadd hC dL_law_1416 h_12 ?_
  refine v_sld hC hX hbl hbA (vp_in_iff.mpr (by omega)) h_15 dL_law_1417 ?_
  refine v_aload_n hC dL_law_1418 rfl ?_
  refine v_iload_n hC dL_law_1419 rfl ?_
  refine v_iconst hC dL_law_1420 (v := 4) (by decide) ?_
  refine v_iadd hC dL_law_1421 h_17 ?_
  refine v_sld hC hX hbl hbA (vp_in_iff.mpr (by omega)) h_20 dL_law_1422 ?_
  refine v_aload_n hC dL_law_1423 rfl ?_
  refine v_iload_n hC dL_law_1424 rfl ?_
  refine v_iconst hC dL_law_1425 (v := 5) (by decide) ?_
  refine v_iadd hC dL_law_1426 h_22 ?_
  refine v_sld hC hX hbl hbA (vp_in_iff.mpr (by omega)) h_25 dL_law_1427 ?_
  obtain ⟨T_72, q_75, hW_73, k_74⟩ := lm_55
  obtain ⟨m_76, t_77, -, k1_k_74, -, -, -, -, k14_k_74, -⟩ := id k_74
  obtain ⟨v_79, v_80, v_81, v_82, v_83, v_84, v_85, v_86, v_87, v_88, v_89, e_78, -, -, -, -, -, -, -⟩ := hW_73.at m_76 t_77
  obtain ⟨g_90, e_91, o_92⟩ := hW_73.at k1_k_74.1 k1_k_74.2
  refine v_viR hC (rest := []) m_76 e_78 rfl mi_X12_paste ms_X12_paste (p_X12_paste hW_73 k_74 e_91 o_92) mx_X12_paste ml_L_176 (by decide) rfl (cells1 := c) (slots1 := s) rfl rfl (by omega) (by omega) rfl (Nat.le_of_ble_eq_true rfl) dL_law_1428 (fun r_65 L_66 f_67 f_68 h_69 g_70 g_71 => ?_)
  have e_96 := h_69.2.1
  have hl_95 := h_69.1
  subst hl_95
  have lx_93 : LM E m _ f_68 := ⟨T_72, q_75, e_96.cg g_71, k_74⟩
  have lm_94 := lx_54.cg g_70
  obtain ⟨T_99, hW_100, k_101⟩ := id lx_54
  have sx_97 : SAME f_29 f_68 x := zs_cg hW_100 k_101 g_70
  have sm_98 : MSAME f_29 f_68 m := zm_T hW_73 e_96 k_74 h_69.2.2.1 rfl g_71
  have rl_102 := RLn.step rl_64 sx_97 sm_98
  refine v_pop hC dL_law_1431 rfl ?_
  refine v_goto hC dL_law_1432 (tgt := 1468) (by decide) ?_
  refine v_widen (k := c + 27) (n := s + 1953) (by omega) (by omega) ?_
  exact hT _ _ _ lm_94 lx_93 rl_102
set_option maxRecDepth 100000 in
set_option maxHeartbeats 4000000 in
theorem lc_39 {z : Cz} {E : Ez} {b x m N : Nat} {xs : Nat → Int32} (hC : Cx z E cL_law RL 4 14 600000 7302250) (hX : va_X b N xs (zs z) (zs z).heap) (hbl : b < (zs z).heap.size) (hbA : ¬ zA z b) (hN : N ≤ 3072) {i : Int32} {c s : Nat} (hi : 0 ≤ i.toInt ∧ i.toInt + 6 ≤ (N : Int)) (hc : c + 27 ≤ 600000) (hs : s + 1953 ≤ 7302250) (hT : ∀ (Lx Lm : List Nat) (f : Nat → va_E), LX E x Lx f → LM E m Lm f → RLn f x m → V z E 4 (c + 27) (s + 1953) (Lx ++ Lm) f 1468 [(3, .int i), (2, .ref m), (1, .ref x), (0, .ref b)] []) {Lx Lm : List Nat} {f : Nat → va_E} (hLX : LX E x Lx f) (hLM : LM E m Lm f) (hRL : RLn f x m) : V z E 4 c s (Lx ++ Lm) f 1435 [(3, .int i), (2, .ref m), (1, .ref x), (0, .ref b)] [] := by
  refine v_aload_n hC dL_law_1435 rfl ?_
  refine v_aload_n hC dL_law_1436 rfl ?_
  refine v_iload_n hC dL_law_1437 rfl ?_
  refine v_iconst hC dL_law_1438 (v := 1) (by decide) ?_
  obtain ⟨v_1, h_2⟩ : ∃ v9 : Int32, i + 1 = v9 := ⟨_, rfl⟩
  refine v_iadd hC dL_law_1439 h_2 ?_
  have h_3 := add_v h_2 (by first | omega | (simp only [Int32.lt_iff_toInt_lt, Int32.le_iff_toInt_le, Int32.reduceToInt, ← Int32.toInt_inj, true_and, and_true, or_true, true_or, false_or, or_false, false_and, and_false, not_true_eq_false, not_false_eq_true] <;> omega)) (by first | omega | (simp only [Int32.lt_iff_toInt_lt, Int32.le_iff_toInt_le, Int32.reduceToInt, ← Int32.toInt_inj, true_and, and_true, or_true, true_or, false_or, or_false, false_and, and_false, not_true_eq_false, not_false_eq_true] <;> omega))
  try simp only [Int32.reduceToInt] at h_3
  obtain ⟨v_4, h_5⟩ : ∃ v9 : Int32, xs (v_1 : Int32).toNatClampNeg = v9 := ⟨_, rfl⟩
  refine v_sld hC hX hbl hbA (vp_in_iff.mpr (by omega)) h_5 dL_law_1440 ?_
  refine v_aload_n hC dL_law_1441 rfl ?_
  refine v_iload_n hC dL_law_1442 rfl ?_
  refine v_iconst hC dL_law_1443 (v := 2) (by decide) ?_
  obtain ⟨v_6, h_7⟩ : ∃ v9 : Int32, i + 2 = v9 := ⟨_, rfl⟩
  refine v_iadd hC dL_law_1444 h_7 ?_
  have h_8 := add_v h_7 (by first | omega | (simp only [Int32.lt_iff_toInt_lt, Int32.le_iff_toInt_le, Int32.reduceToInt, ← Int32.toInt_inj, true_and, and_true, or_true, true_or, false_or, or_false, false_and, and_false, not_true_eq_false, not_false_eq_true] <;> omega)) (by first | omega | (simp only [Int32.lt_iff_toInt_lt, Int32.le_iff_toInt_le, Int32.reduceToInt, ← Int32.toInt_inj, true_and, and_true, or_true, true_or, false_or, or_false, false_and, and_false, not_true_eq_false, not_false_eq_true] <;> omega))
  try simp only [Int32.reduceToInt] at h_8
  obtain ⟨v_9, h_10⟩ : ∃ v9 : Int32, xs (v_6 : Int32).toNatClampNeg = v9 := ⟨_, rfl⟩
  refine v_sld hC hX hbl hbA (vp_in_iff.mpr (by omega)) h_10 dL_law_1445 ?_
  refine v_swap ?_
  obtain ⟨T_18, hW_19, k_20⟩ := hLX
  obtain ⟨m_22, q_25, q_26, q_27, q_28, q_29, q_30, q_31, q_32, q_33, q_34, q_35, q_36, q_37, q_38, t_23, -, -, -, -, -, -, -, -, -, -, -, -, -, -⟩ := id k_20
  have e_24 := hW_19.at m_22 t_23
  refine v_viR hC (rest := []) m_22 e_24 rfl mi_X11_lay ms_X11_lay (p_X11_lay hW_19 k_20) mx_X11_lay ml_L_177 (by decide) rfl (cells1 := c) (slots1 := s) rfl rfl (by omega) (by omega) rfl (Nat.le_of_ble_eq_true rfl) dL_law_1446 (fun r_11 L_12 f_13 f_14 h_15 g_16 g_17 => ?_)
  have e_42 := h_15.2.1
  have hl_41 := h_15.1
  subst hl_41
  have lx_39 : LX E x _ f_14 := ⟨T_18, e_42.cg g_17, k_20⟩
  have lm_40 := hLM.cg g_16
  obtain ⟨T_45, q_46, hW_47, k_48⟩ := id hLM
  have sm_44 : MSAME f f_14 m := zm_cg hW_47 k_48 g_16
  have sx_43 : SAME f f_14 x := zs_T hW_19 e_42 k_20 h_15.2.2.1 rfl g_17
  have rl_49 := RLn.step hRL sx_43 sm_44
  refine v_swap ?_
  refine v_pop hC dL_law_1449 rfl ?_
  refine v_aload_n hC dL_law_1450 rfl ?_
  refine v_aload_n hC dL_law_1451 rfl ?_
  refine v_iload_n hC dL_law_1452 rfl ?_
  refine v_iconst hC dL_law_1453 (v := 1) (by decide) ?_
  refine v_iadd hC dL_law_1454 h_2 ?_
  refine v_sld hC hX hbl hbA (vp_in_iff.mpr (by omega)) h_5 dL_law_1455 ?_
  refine v_aload_n hC dL_law_1456 rfl ?_
  refine v_iload_n hC dL_law_1457 rfl ?_
  refine v_iconst hC dL_law_1458 (v := 2) (by decide) ?_
  refine v_iadd hC dL_law_1459 h_7 ?_
  refine v_sld hC hX hbl hbA (vp_in_iff.mpr (by omega)) h_10 dL_law_1460 ?_
  obtain ⟨T_57, q_60, hW_58, k_59⟩ := lm_40
  obtain ⟨m_61, t_62, -, k1_k_59, -, -, -, -, k14_k_59, -⟩ := id k_59
  obtain ⟨v_64, v_65, v_66, v_67, v_68, v_69, v_70, v_71, v_72, v_73, v_74, e_63, -, -, -, -, -, -, -⟩ := hW_58.at m_61 t_62
  obtain ⟨g_75, e_76, o_77⟩ := hW_58.at k1_k_59.1 k1_k_59.2
  refine v_viR hC (rest := []) m_61 e_63 rfl mi_X12_lay ms_X12_lay (p_X12_lay hW_58 k_59 e_76 o_77) mx_X12_lay ml_L_180 (by decide) rfl (cells1 := c) (slots1 := s) rfl rfl (by omega) (by omega) rfl (Nat.le_of_ble_eq_true rfl) dL_law_1461 (fun r_50 L_51 f_52 f_53 h_54 g_55 g_56 => ?_)
  have e_81 := h_54.2.1
  have hl_80 := h_54.1
  subst hl_80
  have lx_78 : LM E m _ f_53 := ⟨T_57, q_60, e_81.cg g_56, k_59⟩
  have lm_79 := lx_39.cg g_55
  obtain ⟨T_84, hW_85, k_86⟩ := id lx_39
  have sx_82 : SAME f_14 f_53 x := zs_cg hW_85 k_86 g_55
  have sm_83 : MSAME f_14 f_53 m := zm_T hW_58 e_81 k_59 h_54.2.2.1 rfl g_56
  have rl_87 := RLn.step rl_49 sx_82 sm_83
  refine v_pop hC dL_law_1464 rfl ?_
  refine v_goto hC dL_law_1465 (tgt := 1468) (by decide) ?_
  refine v_widen (k := c + 27) (n := s + 1953) (by omega) (by omega) ?_
  exact hT _ _ _ lm_79 lx_78 rl_87
