set_option maxRecDepth 100000 in
set_option maxHeartbeats 4000000 in
theorem p_X12_rewind {l : Launch} {E : Ez} {L : List Nat} {f : Nat → va_E} {T : Nat → va_E → Prop} {a_0 : Nat} {a_1 : Int32} {a_2 : Int32} {q : Nat → Nat} {g_w : Nat → Int32} (hW : WT T L f) (k_0 : isM T L E a_0 q) (e_w : f (q 1) = aI E 2076 g_w) (o_w : WOK g_w) : CI l yX12_rewind cX12_rewind 9 .int 2 0 0 E [.ref a_0, .int a_1, .int a_2] L f (fun r L1 f1 => L = L1 ∧ WT T L f1 ∧ FR [356, 2176] f f1 ∧ (¬ r.toInt = 0 ∨ (0 ≤ a_1.toInt ∧ a_1.toInt ≤ 3)) ∧ (¬ r.toInt = 0 ∨ (0 ≤ a_2.toInt ∧ a_2.toInt ≤ 3))) := by
  refine ci_of (by decide) (Nat.le_of_ble_eq_true rfl) (fun z hz hnm hC hR => ?_)
  have hC : Cx z E cX12_rewind RX12 9 2 0 0 := hC
  subst hz
  show V z E 9 0 0 L f 0 [(0, .ref a_0), (1, .int a_1), (2, .int a_2)] []
  obtain ⟨m_1, t_2, k_3, k_4, k_5, k_6, k_7, k_8, k_9, k_10, k_11, k_12, k_13, k_14, k_15, k_16, k_17, k_18, k_19, k_20⟩ := id k_0
  obtain ⟨m_21, t_22⟩ := id k_3
  have b_23 := o_w.r0
  have b_24 := o_w.w0
  refine v_iload_n hC dX12_rewind_0 rfl ?_
  refine v_si hC (rest := []) mt_X12_isCloth (p_X12_isCloth hW) mx_X12_isCloth ml_X12_319 (by decide) rfl (cells1 := 0) (slots1 := 0) (by decide) (by decide) (Nat.le_of_ble_eq_true rfl) (Nat.le_of_ble_eq_true rfl) rfl (Nat.le_of_ble_eq_true rfl) dX12_rewind_1 (fun r_25 L_26 f_27 h_28 => ?_)
  obtain ⟨rfl, rfl, b_29, h_30⟩ := h_28
  refine v_if_eq hC dX12_rewind_4 (tgt := 14) (by decide) (fun h_33 => ?_) (fun h_33 => ?_)
  · simp only [Int32.lt_iff_toInt_lt, Int32.le_iff_toInt_le, Int32.reduceToInt, ← Int32.toInt_inj] at h_33
    refine v_bipush hC dX12_rewind_14 (v := (-2)) (by decide) ?_
    exact hR _ _ _ _ _ _ _ dX12_rewind_16 rfl (Nat.le_of_ble_eq_true rfl) (Nat.le_of_ble_eq_true rfl) ⟨rfl, hW, FR.rf, (.inl (by decide)), (.inl (by decide))⟩
  · simp only [Int32.lt_iff_toInt_lt, Int32.le_iff_toInt_le, Int32.reduceToInt, ← Int32.toInt_inj] at h_33
    refine v_iload_n hC dX12_rewind_7 rfl ?_
    refine v_si hC (rest := []) mt_X12_isCloth (p_X12_isCloth hW) mx_X12_isCloth ml_X12_319 (by decide) rfl (cells1 := 0) (slots1 := 0) (by decide) (by decide) (Nat.le_of_ble_eq_true rfl) (Nat.le_of_ble_eq_true rfl) rfl (Nat.le_of_ble_eq_true rfl) dX12_rewind_8 (fun r_34 L_35 f_36 h_37 => ?_)
    obtain ⟨rfl, rfl, b_38, h_39⟩ := h_37
    refine v_if_ne hC dX12_rewind_11 (tgt := 17) (by decide) (fun h_42 => ?_) (fun h_42 => ?_)
    · simp only [Int32.lt_iff_toInt_lt, Int32.le_iff_toInt_le, Int32.reduceToInt, ← Int32.toInt_inj] at h_42
      refine v_aload_n hC dX12_rewind_17 rfl ?_
      refine v_iload_n hC dX12_rewind_18 rfl ?_
      obtain ⟨v_44, v_45, v_47, v_49, v_51, v_53, v_55, v_56, v_57, v_58, v_60, e_43, b_46, b_48, b_50, b_52, b_54, b_59, b_61⟩ := hW.at m_1 t_2
      refine v_vi hC (rest := []) m_1 e_43 rfl mi_X12_isThere ms_X12_isThere (p_X12_isThere hW k_0 (by first | omega | (simp only [Int32.lt_iff_toInt_lt, Int32.le_iff_toInt_le, Int32.reduceToInt, ← Int32.toInt_inj, true_and, and_true, or_true, true_or, false_or, or_false, false_and, and_false, not_true_eq_false, not_false_eq_true] <;> omega)) e_w o_w) mx_X12_isThere ml_X12_351 (by decide) rfl (cells1 := 0) (slots1 := 0) (by decide) (by decide) (Nat.le_of_ble_eq_true rfl) (Nat.le_of_ble_eq_true rfl) rfl (Nat.le_of_ble_eq_true rfl) dX12_rewind_19 (fun r_62 L_63 f_64 h_65 => ?_)
      obtain ⟨rfl, rfl, b_66⟩ := h_65
      refine v_if_ne hC dX12_rewind_22 (tgt := 28) (by decide) (fun h_69 => ?_) (fun h_69 => ?_)
      · simp only [Int32.lt_iff_toInt_lt, Int32.le_iff_toInt_le, Int32.reduceToInt, ← Int32.toInt_inj] at h_69
        refine v_aload_n hC dX12_rewind_28 rfl ?_
        refine v_iload_n hC dX12_rewind_29 rfl ?_
        refine v_vv hC (rest := []) m_1 e_43 rfl mi_X12_takes0 ms_X12_takes0 (p_X12_takes0 hW k_0 (by first | omega | (simp only [Int32.lt_iff_toInt_lt, Int32.le_iff_toInt_le, Int32.reduceToInt, ← Int32.toInt_inj, true_and, and_true, or_true, true_or, false_or, or_false, false_and, and_false, not_true_eq_false, not_false_eq_true] <;> omega)) e_w o_w) mx_X12_takes0 ml_X12_363 (by decide) rfl (cells1 := 0) (slots1 := 0) (by decide) (by decide) (Nat.le_of_ble_eq_true rfl) (Nat.le_of_ble_eq_true rfl) rfl (Nat.le_of_ble_eq_true rfl) dX12_rewind_30 (fun L_71 f_72 h_73 => ?_)
        obtain ⟨rfl, hW_74, hF_75⟩ := h_73
        have hf_76 := hF_75.at e_w rfl
        have hf_77 := hF_75.at e_43 rfl
        refine v_aload_n hC dX12_rewind_33 rfl ?_
        refine v_vi hC (rest := []) m_1 hf_77 rfl mi_X12_unravels ms_X12_unravels (p_X12_unravels hW_74 k_0 hf_76 o_w) mx_X12_unravels ml_X12_422 (by decide) rfl (cells1 := 0) (slots1 := 0) (by decide) (by decide) (Nat.le_of_ble_eq_true rfl) (Nat.le_of_ble_eq_true rfl) rfl (Nat.le_of_ble_eq_true rfl) dX12_rewind_34 (fun r_78 L_79 f_80 h_81 => ?_)
        obtain ⟨rfl, hW_83, hF_84, b_82⟩ := h_81
        have hf_85 := hF_84.at hf_76 rfl
        have hf_86 := hF_84.at hf_77 rfl
        refine v_istore_n hC dX12_rewind_37 (by decide) (lv' := [(3, .int r_78), (0, .ref a_0), (1, .int a_1), (2, .int a_2)]) rfl ?_
        refine v_iconst hC dX12_rewind_38 (v := 0) (by decide) ?_
        refine v_istore hC dX12_rewind_39 (by decide) (lv' := [(4, .int 0), (3, .int r_78), (0, .ref a_0), (1, .int a_1), (2, .int a_2)]) rfl ?_
        refine v_iconst hC dX12_rewind_41 (v := 0) (by decide) ?_
        refine v_istore hC dX12_rewind_42 (by decide) (lv' := [(5, .int 0), (4, .int 0), (3, .int r_78), (0, .ref a_0), (1, .int a_1), (2, .int a_2)]) rfl ?_
        have lp_6121 : ∀ (n_6122 : Nat) (f_6113 : Nat → va_E) (hW_6114 : WT T L f_6113) (hF_6115 : FR [356] f_80 f_6113) (i_6110 : Int32) (b_6118 : (0 ≤ i_6110.toInt ∧ i_6110.toInt ≤ 16)) (i_6111 : Int32) (i_6112 : Int32) (b_6119 : ((-272) ≤ i_6112.toInt ∧ i_6112.toInt ≤ 256)) (nv_6120 : 0 ≤ i_6112.toInt + 16 * i_6110.toInt) (hm_6124 : 16 - i_6110.toInt < (n_6122 : Int)), V z E 9 0 0 L f_6113 44 [(5, .int i_6110), (4, .int i_6111), (3, .int i_6112), (0, .ref a_0), (2, .int a_2)] [] := by
          intro n_6122
          induction n_6122 with
          | zero =>
            intro f_6113 hW_6114 hF_6115 i_6110 b_6118 i_6111 i_6112 b_6119 nv_6120 hm_6124
            have hf_6116 := hF_6115.at hf_85 rfl
            have hf_6117 := hF_6115.at hf_86 rfl
            exfalso; omega
          | succ n_6122 ih_6123 =>
            intro f_6113 hW_6114 hF_6115 i_6110 b_6118 i_6111 i_6112 b_6119 nv_6120 hm_6124
            have hf_6116 := hF_6115.at hf_85 rfl
            have hf_6117 := hF_6115.at hf_86 rfl
            refine v_iload hC dX12_rewind_44 rfl ?_
            refine v_aload_n hC dX12_rewind_46 rfl ?_
            refine v_vi hC (rest := [.int i_6110]) m_1 hf_6117 rfl mi_X12_rows ms_X12_rows (p_X12_rows hW_6114 k_0 hf_6116 o_w) mx_X12_rows ml_X12_83 (by decide) rfl (cells1 := 0) (slots1 := 0) (by decide) (by decide) (Nat.le_of_ble_eq_true rfl) (Nat.le_of_ble_eq_true rfl) rfl (Nat.le_of_ble_eq_true rfl) dX12_rewind_47 (fun r_6125 L_6126 f_6127 h_6128 => ?_)
            obtain ⟨rfl, rfl, rfl⟩ := h_6128
            refine v_icmp_ge hC dX12_rewind_50 (tgt := 158) (by decide) (fun h_6131 => ?_) (fun h_6131 => ?_)
            · simp only [Int32.lt_iff_toInt_lt, Int32.le_iff_toInt_le, Int32.reduceToInt, ← Int32.toInt_inj] at h_6131
              refine v_aload_n hC dX12_rewind_158 rfl ?_
              refine v_iload_n hC dX12_rewind_159 rfl ?_
              refine v_vv hC (rest := []) m_1 hf_6117 rfl mi_X12_gives ms_X12_gives (p_X12_gives hW_6114 k_0 (by first | omega | (simp only [Int32.lt_iff_toInt_lt, Int32.le_iff_toInt_le, Int32.reduceToInt, ← Int32.toInt_inj, true_and, and_true, or_true, true_or, false_or, or_false, false_and, and_false, not_true_eq_false, not_false_eq_true] <;> omega)) hf_6116 o_w) mx_X12_gives ml_X12_332 (by decide) rfl (cells1 := 0) (slots1 := 0) (by decide) (by decide) (Nat.le_of_ble_eq_true rfl) (Nat.le_of_ble_eq_true rfl) rfl (Nat.le_of_ble_eq_true rfl) dX12_rewind_160 (fun L_6133 f_6134 h_6135 => ?_)
              obtain ⟨rfl, hW_6136, hF_6137⟩ := h_6135
              have hf_6138 := hF_6137.at hf_6117 rfl
              refine v_iload hC dX12_rewind_163 rfl ?_
              exact hR _ _ _ _ _ _ _ dX12_rewind_165 rfl (Nat.le_of_ble_eq_true rfl) (Nat.le_of_ble_eq_true rfl) ⟨rfl, hW_6136, ((((hF_75.tr hF_84).tr hF_6115).tr hF_6137).mono rfl), (.inr (by first | omega | (simp only [Int32.lt_iff_toInt_lt, Int32.le_iff_toInt_le, Int32.reduceToInt, ← Int32.toInt_inj, true_and, and_true, or_true, true_or, false_or, or_false, false_and, and_false, not_true_eq_false, not_false_eq_true] <;> omega))), (.inr (by first | omega | (simp only [Int32.lt_iff_toInt_lt, Int32.le_iff_toInt_le, Int32.reduceToInt, ← Int32.toInt_inj, true_and, and_true, or_true, true_or, false_or, or_false, false_and, and_false, not_true_eq_false, not_false_eq_true] <;> omega)))⟩
            · simp only [Int32.lt_iff_toInt_lt, Int32.le_iff_toInt_le, Int32.reduceToInt, ← Int32.toInt_inj] at h_6131
              refine v_iconst hC dX12_rewind_53 (v := 0) (by decide) ?_
              refine v_istore hC dX12_rewind_54 (by decide) (lv' := [(6, .int 0), (5, .int i_6110), (4, .int i_6111), (3, .int i_6112), (0, .ref a_0), (2, .int a_2)]) rfl ?_
              have lp_6757 : ∀ (n_6758 : Nat) (f_6749 : Nat → va_E) (hW_6750 : WT T L f_6749) (hF_6751 : FR [356] f_6113 f_6749) (i_6746 : Int32) (b_6754 : (0 ≤ i_6746.toInt ∧ i_6746.toInt ≤ 16)) (i_6747 : Int32) (i_6748 : Int32) (b_6755 : ((-272) ≤ i_6748.toInt ∧ i_6748.toInt ≤ 256)) (nv_6756 : 0 ≤ i_6748.toInt + 16 * i_6110.toInt + i_6746.toInt) (hm_6760 : 16 - i_6746.toInt < (n_6758 : Int)), V z E 9 0 0 L f_6749 56 [(6, .int i_6746), (5, .int i_6110), (4, .int i_6747), (3, .int i_6748), (0, .ref a_0), (2, .int a_2)] [] := by
                intro n_6758
                induction n_6758 with
                | zero =>
                  intro f_6749 hW_6750 hF_6751 i_6746 b_6754 i_6747 i_6748 b_6755 nv_6756 hm_6760
                  have hf_6752 := hF_6751.at hf_6116 rfl
                  have hf_6753 := hF_6751.at hf_6117 rfl
                  exfalso; omega
                | succ n_6758 ih_6759 =>
                  intro f_6749 hW_6750 hF_6751 i_6746 b_6754 i_6747 i_6748 b_6755 nv_6756 hm_6760
                  have hf_6752 := hF_6751.at hf_6116 rfl
                  have hf_6753 := hF_6751.at hf_6117 rfl
                  refine v_iload hC dX12_rewind_56 rfl ?_
                  refine v_aload_n hC dX12_rewind_58 rfl ?_
                  refine v_vi hC (rest := [.int i_6746]) m_1 hf_6753 rfl mi_X12_wide ms_X12_wide (p_X12_wide hW_6750 k_0 hf_6752 o_w) mx_X12_wide ml_X12_87 (by decide) rfl (cells1 := 0) (slots1 := 0) (by decide) (by decide) (Nat.le_of_ble_eq_true rfl) (Nat.le_of_ble_eq_true rfl) rfl (Nat.le_of_ble_eq_true rfl) dX12_rewind_59 (fun r_6761 L_6762 f_6763 h_6764 => ?_)
                  obtain ⟨rfl, rfl, rfl⟩ := h_6764
                  refine v_icmp_ge hC dX12_rewind_62 (tgt := 152) (by decide) (fun h_6767 => ?_) (fun h_6767 => ?_)
                  · simp only [Int32.lt_iff_toInt_lt, Int32.le_iff_toInt_le, Int32.reduceToInt, ← Int32.toInt_inj] at h_6767
                    obtain ⟨v_6768, h_6769⟩ : ∃ v9 : Int32, i_6110 + Int32.ofInt 1 = v9 := ⟨_, rfl⟩
                    have h_6770 := add_v (b := 1) h_6769 (by first | omega | (simp only [Int32.lt_iff_toInt_lt, Int32.le_iff_toInt_le, Int32.reduceToInt, ← Int32.toInt_inj, true_and, and_true, or_true, true_or, false_or, or_false, false_and, and_false, not_true_eq_false, not_false_eq_true] <;> omega)) (by first | omega | (simp only [Int32.lt_iff_toInt_lt, Int32.le_iff_toInt_le, Int32.reduceToInt, ← Int32.toInt_inj, true_and, and_true, or_true, true_or, false_or, or_false, false_and, and_false, not_true_eq_false, not_false_eq_true] <;> omega))
                    simp only [Int32.reduceToInt] at h_6770
                    refine v_iinc hC dX12_rewind_152 (k := 1) rfl (v := v_6768) h_6769 (by decide) (lv' := [(5, .int v_6768), (6, .int i_6746), (4, .int i_6747), (3, .int i_6748), (0, .ref a_0), (2, .int a_2)]) rfl ?_
                    refine v_goto hC dX12_rewind_155 (tgt := 44) (by decide) ?_
                    refine v_pick [0, 2, 3, 4, 5] rfl ?_
                    exact ih_6123 f_6749 hW_6750 ((hF_6115.tr hF_6751).mono rfl) v_6768 (by first | omega | (simp only [Int32.lt_iff_toInt_lt, Int32.le_iff_toInt_le, Int32.reduceToInt, ← Int32.toInt_inj, true_and, and_true, or_true, true_or, false_or, or_false, false_and, and_false, not_true_eq_false, not_false_eq_true] <;> omega)) i_6747 i_6748 (by first | omega | (simp only [Int32.lt_iff_toInt_lt, Int32.le_iff_toInt_le, Int32.reduceToInt, ← Int32.toInt_inj, true_and, and_true, or_true, true_or, false_or, or_false, false_and, and_false, not_true_eq_false, not_false_eq_true] <;> omega)) (by first | omega | (simp only [Int32.lt_iff_toInt_lt, Int32.le_iff_toInt_le, Int32.reduceToInt, ← Int32.toInt_inj, true_and, and_true, or_true, true_or, false_or, or_false, false_and, and_false, not_true_eq_false, not_false_eq_true] <;> omega)) (by first | omega | (simp only [Int32.lt_iff_toInt_lt, Int32.le_iff_toInt_le, Int32.reduceToInt, ← Int32.toInt_inj, true_and, and_true, or_true, true_or, false_or, or_false, false_and, and_false, not_true_eq_false, not_false_eq_true] <;> omega))
                  · simp only [Int32.lt_iff_toInt_lt, Int32.le_iff_toInt_le, Int32.reduceToInt, ← Int32.toInt_inj] at h_6767
                    refine v_iload hC dX12_rewind_65 rfl ?_
                    refine v_aload_n hC dX12_rewind_67 rfl ?_
                    refine v_vi hC (rest := [.int i_6110]) m_1 hf_6753 rfl mi_X12_wide ms_X12_wide (p_X12_wide hW_6750 k_0 hf_6752 o_w) mx_X12_wide ml_X12_87 (by decide) rfl (cells1 := 0) (slots1 := 0) (by decide) (by decide) (Nat.le_of_ble_eq_true rfl) (Nat.le_of_ble_eq_true rfl) rfl (Nat.le_of_ble_eq_true rfl) dX12_rewind_68 (fun r_6771 L_6772 f_6773 h_6774 => ?_)
                    obtain ⟨rfl, rfl, rfl⟩ := h_6774
                    obtain ⟨v_6777, h_6778⟩ : ∃ v9 : Int32, i_6110 * (g_w 1) = v9 := ⟨_, rfl⟩
                    refine v_imul hC dX12_rewind_71 h_6778 ?_
                    have h_6779 := mul_v 15 16 240 h_6778 (by first | omega | (simp only [Int32.lt_iff_toInt_lt, Int32.le_iff_toInt_le, Int32.reduceToInt, ← Int32.toInt_inj, true_and, and_true, or_true, true_or, false_or, or_false, false_and, and_false, not_true_eq_false, not_false_eq_true] <;> omega)) (by first | omega | (simp only [Int32.lt_iff_toInt_lt, Int32.le_iff_toInt_le, Int32.reduceToInt, ← Int32.toInt_inj, true_and, and_true, or_true, true_or, false_or, or_false, false_and, and_false, not_true_eq_false, not_false_eq_true] <;> omega)) (by decide) (by decide)
                    refine v_iload hC dX12_rewind_72 rfl ?_
                    refine v_iconst hC dX12_rewind_74 (v := 2) (by decide) ?_
                    obtain ⟨v_6780, h_6781⟩ : ∃ v9 : Int32, i_6110 - i_6110 / 2 * 2 = v9 := ⟨_, rfl⟩
                    refine v_irem hC dX12_rewind_75 (by decide) h_6781 ?_
                    have h_6782 := rem_v h_6781 (by first | omega | (simp only [Int32.lt_iff_toInt_lt, Int32.le_iff_toInt_le, Int32.reduceToInt, ← Int32.toInt_inj, true_and, and_true, or_true, true_or, false_or, or_false, false_and, and_false, not_true_eq_false, not_false_eq_true] <;> omega)) (by decide)
                    try simp only [Int32.reduceToInt] at h_6782
                    have jn_6797 : ∀ (v_6798 : Int32) (b_6799 : (0 ≤ v_6798.toInt ∧ v_6798.toInt ≤ 15)), V z E 9 0 0 L f_6749 93 [(6, .int i_6746), (5, .int i_6110), (4, .int i_6747), (3, .int i_6748), (0, .ref a_0), (2, .int a_2)] [.int v_6798, .int v_6777] := by
                      intro v_6798 b_6799
                      obtain ⟨v_6800, h_6801⟩ : ∃ v9 : Int32, v_6777 + v_6798 = v9 := ⟨_, rfl⟩
                      refine v_iadd hC dX12_rewind_93 h_6801 ?_
                      have h_6802 := add_v h_6801 (by first | omega | (simp only [Int32.lt_iff_toInt_lt, Int32.le_iff_toInt_le, Int32.reduceToInt, ← Int32.toInt_inj, true_and, and_true, or_true, true_or, false_or, or_false, false_and, and_false, not_true_eq_false, not_false_eq_true] <;> omega)) (by first | omega | (simp only [Int32.lt_iff_toInt_lt, Int32.le_iff_toInt_le, Int32.reduceToInt, ← Int32.toInt_inj, true_and, and_true, or_true, true_or, false_or, or_false, false_and, and_false, not_true_eq_false, not_false_eq_true] <;> omega))
                      refine v_istore hC dX12_rewind_94 (by decide) (lv' := [(7, .int v_6800), (6, .int i_6746), (5, .int i_6110), (4, .int i_6747), (3, .int i_6748), (0, .ref a_0), (2, .int a_2)]) rfl ?_
                      obtain ⟨v_6803, h_6804⟩ : ∃ v9 : Int32, i_6748 + Int32.ofInt (-1) = v9 := ⟨_, rfl⟩
                      have h_6805 := add_v (b := (-1)) h_6804 (by first | omega | (simp only [Int32.lt_iff_toInt_lt, Int32.le_iff_toInt_le, Int32.reduceToInt, ← Int32.toInt_inj, true_and, and_true, or_true, true_or, false_or, or_false, false_and, and_false, not_true_eq_false, not_false_eq_true] <;> omega)) (by first | omega | (simp only [Int32.lt_iff_toInt_lt, Int32.le_iff_toInt_le, Int32.reduceToInt, ← Int32.toInt_inj, true_and, and_true, or_true, true_or, false_or, or_false, false_and, and_false, not_true_eq_false, not_false_eq_true] <;> omega))
                      simp only [Int32.reduceToInt] at h_6805
                      refine v_iinc hC dX12_rewind_96 (k := 4) rfl (v := v_6803) h_6804 (by decide) (lv' := [(3, .int v_6803), (7, .int v_6800), (6, .int i_6746), (5, .int i_6110), (4, .int i_6747), (0, .ref a_0), (2, .int a_2)]) rfl ?_
                      refine v_iload_n hC dX12_rewind_99 rfl ?_
                      have jn_6813 : ∀ (v_6814 : Int32), V z E 9 0 0 L f_6749 113 [(3, .int v_6803), (7, .int v_6800), (6, .int i_6746), (5, .int i_6110), (4, .int i_6747), (0, .ref a_0), (2, .int a_2)] [.int v_6814] := by
                        intro v_6814
                        refine v_istore hC dX12_rewind_113 (by decide) (lv' := [(8, .int v_6814), (3, .int v_6803), (7, .int v_6800), (6, .int i_6746), (5, .int i_6110), (4, .int i_6747), (0, .ref a_0), (2, .int a_2)]) rfl ?_
                        refine v_iload hC dX12_rewind_115 rfl ?_
                        refine v_iload hC dX12_rewind_117 rfl ?_
                        refine v_aload_n hC dX12_rewind_119 rfl ?_
                        refine v_get hC fl_X12_37 m_1 hf_6753 rfl dX12_rewind_120 ?_
                        refine v_iload hC dX12_rewind_123 rfl ?_
                        obtain ⟨m_6815, t_6816⟩ := id k_9
                        obtain ⟨g_6818, e_6817⟩ := hW_6750.at m_6815 t_6816
                        obtain ⟨v_6819, h_6820⟩ : ∃ v9 : Int32, g_6818 (v_6800 : Int32).toNatClampNeg = v9 := ⟨_, rfl⟩
                        refine v_iald hC m_6815 e_6817 (vp_in_iff.mpr (by first | omega | (simp only [Int32.lt_iff_toInt_lt, Int32.le_iff_toInt_le, Int32.reduceToInt, ← Int32.toInt_inj, true_and, and_true, or_true, true_or, false_or, or_false, false_and, and_false, not_true_eq_false, not_false_eq_true] <;> omega))) h_6820 dX12_rewind_125 ?_
                        refine v_icmp_ne hC dX12_rewind_126 (tgt := 133) (by decide) (fun h_6821 => ?_) (fun h_6821 => ?_)
                        · simp only [Int32.lt_iff_toInt_lt, Int32.le_iff_toInt_le, Int32.reduceToInt, ← Int32.toInt_inj] at h_6821
                          refine v_iconst hC dX12_rewind_133 (v := 1) (by decide) ?_
                          obtain ⟨v_6822, h_6823⟩ : ∃ v9 : Int32, i_6747 + 1 = v9 := ⟨_, rfl⟩
                          refine v_iadd hC dX12_rewind_134 h_6823 ?_
                          refine v_istore hC dX12_rewind_135 (by decide) (lv' := [(4, .int v_6822), (8, .int v_6814), (3, .int v_6803), (7, .int v_6800), (6, .int i_6746), (5, .int i_6110), (0, .ref a_0), (2, .int a_2)]) rfl ?_
                          refine v_aload_n hC dX12_rewind_137 rfl ?_
                          refine v_get hC fl_X12_37 m_1 hf_6753 rfl dX12_rewind_138 ?_
                          refine v_iload hC dX12_rewind_141 rfl ?_
                          refine v_iload hC dX12_rewind_143 rfl ?_
                          refine v_iast hC m_6815 e_6817 (vp_in_iff.mpr (by first | omega | (simp only [Int32.lt_iff_toInt_lt, Int32.le_iff_toInt_le, Int32.reduceToInt, ← Int32.toInt_inj, true_and, and_true, or_true, true_or, false_or, or_false, false_and, and_false, not_true_eq_false, not_false_eq_true] <;> omega))) dX12_rewind_145 (fun f_6825 hf_6826 hk_6827 => ?_)
                          have hW_6829 := hW_6750.up hf_6826 hk_6827 t_6816 ⟨_, rfl⟩
                          obtain ⟨g_6828, hf_6826⟩ : ∃ g9, f_6825 (q 15) = aI E 256 g9 := ⟨_, hf_6826⟩
                          have hf_6830 := (hk_6827 (q 1) (ne_kd hf_6752 e_6817 rfl)).trans hf_6752
                          have hf_6831 := (hk_6827 a_0 (ne_kd hf_6753 e_6817 rfl)).trans hf_6753
                          have fr_6832 := FR.w hk_6827 e_6817 (k := 356) rfl
                          obtain ⟨v_6833, h_6834⟩ : ∃ v9 : Int32, i_6746 + Int32.ofInt 1 = v9 := ⟨_, rfl⟩
                          have h_6835 := add_v (b := 1) h_6834 (by first | omega | (simp only [Int32.lt_iff_toInt_lt, Int32.le_iff_toInt_le, Int32.reduceToInt, ← Int32.toInt_inj, true_and, and_true, or_true, true_or, false_or, or_false, false_and, and_false, not_true_eq_false, not_false_eq_true] <;> omega)) (by first | omega | (simp only [Int32.lt_iff_toInt_lt, Int32.le_iff_toInt_le, Int32.reduceToInt, ← Int32.toInt_inj, true_and, and_true, or_true, true_or, false_or, or_false, false_and, and_false, not_true_eq_false, not_false_eq_true] <;> omega))
                          simp only [Int32.reduceToInt] at h_6835
                          refine v_iinc hC dX12_rewind_146 (k := 4) rfl (v := v_6833) h_6834 (by decide) (lv' := [(6, .int v_6833), (4, .int v_6822), (8, .int v_6814), (3, .int v_6803), (7, .int v_6800), (5, .int i_6110), (0, .ref a_0), (2, .int a_2)]) rfl ?_
                          refine v_goto hC dX12_rewind_149 (tgt := 56) (by decide) ?_
                          refine v_pick [0, 5, 1, 3, 6, 7] rfl ?_
                          exact ih_6759 f_6825 hW_6829 ((hF_6751.tr fr_6832).mono rfl) v_6833 (by first | omega | (simp only [Int32.lt_iff_toInt_lt, Int32.le_iff_toInt_le, Int32.reduceToInt, ← Int32.toInt_inj, true_and, and_true, or_true, true_or, false_or, or_false, false_and, and_false, not_true_eq_false, not_false_eq_true] <;> omega)) v_6822 v_6803 (by first | omega | (simp only [Int32.lt_iff_toInt_lt, Int32.le_iff_toInt_le, Int32.reduceToInt, ← Int32.toInt_inj, true_and, and_true, or_true, true_or, false_or, or_false, false_and, and_false, not_true_eq_false, not_false_eq_true] <;> omega)) (by first | omega | (simp only [Int32.lt_iff_toInt_lt, Int32.le_iff_toInt_le, Int32.reduceToInt, ← Int32.toInt_inj, true_and, and_true, or_true, true_or, false_or, or_false, false_and, and_false, not_true_eq_false, not_false_eq_true] <;> omega)) (by first | omega | (simp only [Int32.lt_iff_toInt_lt, Int32.le_iff_toInt_le, Int32.reduceToInt, ← Int32.toInt_inj, true_and, and_true, or_true, true_or, false_or, or_false, false_and, and_false, not_true_eq_false, not_false_eq_true] <;> omega))
                        · simp only [Int32.lt_iff_toInt_lt, Int32.le_iff_toInt_le, Int32.reduceToInt, ← Int32.toInt_inj] at h_6821
                          refine v_iconst hC dX12_rewind_129 (v := 0) (by decide) ?_
                          refine v_goto hC dX12_rewind_130 (tgt := 134) (by decide) ?_
                          obtain ⟨v_6836, h_6837⟩ : ∃ v9 : Int32, i_6747 + 0 = v9 := ⟨_, rfl⟩
                          refine v_iadd hC dX12_rewind_134 h_6837 ?_
                          have rg_6839 := Int32.toInt_lt i_6747
                          have rg_6840 := Int32.le_toInt i_6747
                          have h_6838 := add_v h_6837 (by first | omega | (simp only [Int32.lt_iff_toInt_lt, Int32.le_iff_toInt_le, Int32.reduceToInt, ← Int32.toInt_inj, true_and, and_true, or_true, true_or, false_or, or_false, false_and, and_false, not_true_eq_false, not_false_eq_true] <;> omega)) (by first | omega | (simp only [Int32.lt_iff_toInt_lt, Int32.le_iff_toInt_le, Int32.reduceToInt, ← Int32.toInt_inj, true_and, and_true, or_true, true_or, false_or, or_false, false_and, and_false, not_true_eq_false, not_false_eq_true] <;> omega))
                          try simp only [Int32.reduceToInt] at h_6838
                          refine v_istore hC dX12_rewind_135 (by decide) (lv' := [(4, .int v_6836), (8, .int v_6814), (3, .int v_6803), (7, .int v_6800), (6, .int i_6746), (5, .int i_6110), (0, .ref a_0), (2, .int a_2)]) rfl ?_
                          refine v_aload_n hC dX12_rewind_137 rfl ?_
                          refine v_get hC fl_X12_37 m_1 hf_6753 rfl dX12_rewind_138 ?_
                          refine v_iload hC dX12_rewind_141 rfl ?_
                          refine v_iload hC dX12_rewind_143 rfl ?_
                          refine v_iast hC m_6815 e_6817 (vp_in_iff.mpr (by first | omega | (simp only [Int32.lt_iff_toInt_lt, Int32.le_iff_toInt_le, Int32.reduceToInt, ← Int32.toInt_inj, true_and, and_true, or_true, true_or, false_or, or_false, false_and, and_false, not_true_eq_false, not_false_eq_true] <;> omega))) dX12_rewind_145 (fun f_6841 hf_6842 hk_6843 => ?_)
                          have hW_6845 := hW_6750.up hf_6842 hk_6843 t_6816 ⟨_, rfl⟩
                          obtain ⟨g_6844, hf_6842⟩ : ∃ g9, f_6841 (q 15) = aI E 256 g9 := ⟨_, hf_6842⟩
                          have hf_6846 := (hk_6843 (q 1) (ne_kd hf_6752 e_6817 rfl)).trans hf_6752
                          have hf_6847 := (hk_6843 a_0 (ne_kd hf_6753 e_6817 rfl)).trans hf_6753
                          have fr_6848 := FR.w hk_6843 e_6817 (k := 356) rfl
                          obtain ⟨v_6849, h_6850⟩ : ∃ v9 : Int32, i_6746 + Int32.ofInt 1 = v9 := ⟨_, rfl⟩
                          have h_6851 := add_v (b := 1) h_6850 (by first | omega | (simp only [Int32.lt_iff_toInt_lt, Int32.le_iff_toInt_le, Int32.reduceToInt, ← Int32.toInt_inj, true_and, and_true, or_true, true_or, false_or, or_false, false_and, and_false, not_true_eq_false, not_false_eq_true] <;> omega)) (by first | omega | (simp only [Int32.lt_iff_toInt_lt, Int32.le_iff_toInt_le, Int32.reduceToInt, ← Int32.toInt_inj, true_and, and_true, or_true, true_or, false_or, or_false, false_and, and_false, not_true_eq_false, not_false_eq_true] <;> omega))
                          simp only [Int32.reduceToInt] at h_6851
                          refine v_iinc hC dX12_rewind_146 (k := 4) rfl (v := v_6849) h_6850 (by decide) (lv' := [(6, .int v_6849), (4, .int v_6836), (8, .int v_6814), (3, .int v_6803), (7, .int v_6800), (5, .int i_6110), (0, .ref a_0), (2, .int a_2)]) rfl ?_
                          refine v_goto hC dX12_rewind_149 (tgt := 56) (by decide) ?_
                          refine v_pick [0, 5, 1, 3, 6, 7] rfl ?_
                          exact ih_6759 f_6841 hW_6845 ((hF_6751.tr fr_6848).mono rfl) v_6849 (by first | omega | (simp only [Int32.lt_iff_toInt_lt, Int32.le_iff_toInt_le, Int32.reduceToInt, ← Int32.toInt_inj, true_and, and_true, or_true, true_or, false_or, or_false, false_and, and_false, not_true_eq_false, not_false_eq_true] <;> omega)) v_6836 v_6803 (by first | omega | (simp only [Int32.lt_iff_toInt_lt, Int32.le_iff_toInt_le, Int32.reduceToInt, ← Int32.toInt_inj, true_and, and_true, or_true, true_or, false_or, or_false, false_and, and_false, not_true_eq_false, not_false_eq_true] <;> omega)) (by first | omega | (simp only [Int32.lt_iff_toInt_lt, Int32.le_iff_toInt_le, Int32.reduceToInt, ← Int32.toInt_inj, true_and, and_true, or_true, true_or, false_or, or_false, false_and, and_false, not_true_eq_false, not_false_eq_true] <;> omega)) (by first | omega | (simp only [Int32.lt_iff_toInt_lt, Int32.le_iff_toInt_le, Int32.reduceToInt, ← Int32.toInt_inj, true_and, and_true, or_true, true_or, false_or, or_false, false_and, and_false, not_true_eq_false, not_false_eq_true] <;> omega))
                      refine v_if_lt hC dX12_rewind_100 (tgt := 112) (by decide) (fun h_6806 => ?_) (fun h_6806 => ?_)
                      · simp only [Int32.lt_iff_toInt_lt, Int32.le_iff_toInt_le, Int32.reduceToInt, ← Int32.toInt_inj] at h_6806
                        refine v_iconst hC dX12_rewind_112 (v := 4) (by decide) ?_
                        refine v_pick [0, 1, 2, 3, 4, 5, 6] rfl ?_
                        exact jn_6813 4
                      · simp only [Int32.lt_iff_toInt_lt, Int32.le_iff_toInt_le, Int32.reduceToInt, ← Int32.toInt_inj] at h_6806
                        refine v_aload_n hC dX12_rewind_103 rfl ?_
                        refine v_get hC fl_X12_61 m_1 hf_6753 rfl dX12_rewind_104 ?_
                        refine v_iload_n hC dX12_rewind_107 rfl ?_
                        obtain ⟨m_6852, t_6853⟩ := id k_16
                        obtain ⟨g_6855, e_6854⟩ := hW_6750.at m_6852 t_6853
                        obtain ⟨v_6856, h_6857⟩ : ∃ v9 : Int32, g_6855 (v_6803 : Int32).toNatClampNeg = v9 := ⟨_, rfl⟩
                        refine v_iald hC m_6852 e_6854 (vp_in_iff.mpr (by first | omega | (simp only [Int32.lt_iff_toInt_lt, Int32.le_iff_toInt_le, Int32.reduceToInt, ← Int32.toInt_inj, true_and, and_true, or_true, true_or, false_or, or_false, false_and, and_false, not_true_eq_false, not_false_eq_true] <;> omega))) h_6857 dX12_rewind_108 ?_
                        refine v_goto hC dX12_rewind_109 (tgt := 113) (by decide) ?_
                        refine v_pick [0, 1, 2, 3, 4, 5, 6] rfl ?_
                        exact jn_6813 v_6856
                    refine v_if_ne hC dX12_rewind_76 (tgt := 84) (by decide) (fun h_6783 => ?_) (fun h_6783 => ?_)
                    · simp only [Int32.lt_iff_toInt_lt, Int32.le_iff_toInt_le, Int32.reduceToInt, ← Int32.toInt_inj] at h_6783
                      refine v_aload_n hC dX12_rewind_84 rfl ?_
                      refine v_vi hC (rest := [.int v_6777]) m_1 hf_6753 rfl mi_X12_wide ms_X12_wide (p_X12_wide hW_6750 k_0 hf_6752 o_w) mx_X12_wide ml_X12_87 (by decide) rfl (cells1 := 0) (slots1 := 0) (by decide) (by decide) (Nat.le_of_ble_eq_true rfl) (Nat.le_of_ble_eq_true rfl) rfl (Nat.le_of_ble_eq_true rfl) dX12_rewind_85 (fun r_6858 L_6859 f_6860 h_6861 => ?_)
                      obtain ⟨rfl, rfl, rfl⟩ := h_6861
                      refine v_iconst hC dX12_rewind_88 (v := 1) (by decide) ?_
                      obtain ⟨v_6864, h_6865⟩ : ∃ v9 : Int32, (g_w 1) - 1 = v9 := ⟨_, rfl⟩
                      refine v_isub hC dX12_rewind_89 h_6865 ?_
                      have h_6866 := sub_v h_6865 (by first | omega | (simp only [Int32.lt_iff_toInt_lt, Int32.le_iff_toInt_le, Int32.reduceToInt, ← Int32.toInt_inj, true_and, and_true, or_true, true_or, false_or, or_false, false_and, and_false, not_true_eq_false, not_false_eq_true] <;> omega)) (by first | omega | (simp only [Int32.lt_iff_toInt_lt, Int32.le_iff_toInt_le, Int32.reduceToInt, ← Int32.toInt_inj, true_and, and_true, or_true, true_or, false_or, or_false, false_and, and_false, not_true_eq_false, not_false_eq_true] <;> omega))
                      try simp only [Int32.reduceToInt] at h_6866
                      refine v_iload hC dX12_rewind_90 rfl ?_
                      obtain ⟨v_6867, h_6868⟩ : ∃ v9 : Int32, v_6864 - i_6746 = v9 := ⟨_, rfl⟩
                      refine v_isub hC dX12_rewind_92 h_6868 ?_
                      have h_6869 := sub_v h_6868 (by first | omega | (simp only [Int32.lt_iff_toInt_lt, Int32.le_iff_toInt_le, Int32.reduceToInt, ← Int32.toInt_inj, true_and, and_true, or_true, true_or, false_or, or_false, false_and, and_false, not_true_eq_false, not_false_eq_true] <;> omega)) (by first | omega | (simp only [Int32.lt_iff_toInt_lt, Int32.le_iff_toInt_le, Int32.reduceToInt, ← Int32.toInt_inj, true_and, and_true, or_true, true_or, false_or, or_false, false_and, and_false, not_true_eq_false, not_false_eq_true] <;> omega))
                      have b_6870 : (0 ≤ v_6867.toInt ∧ v_6867.toInt ≤ 15) := (by first | omega | (simp only [Int32.lt_iff_toInt_lt, Int32.le_iff_toInt_le, Int32.reduceToInt, ← Int32.toInt_inj, true_and, and_true, or_true, true_or, false_or, or_false, false_and, and_false, not_true_eq_false, not_false_eq_true] <;> omega))
                      refine v_pick [0, 1, 2, 3, 4, 5] rfl ?_
                      exact jn_6797 v_6867 (by first | omega | (simp only [Int32.lt_iff_toInt_lt, Int32.le_iff_toInt_le, Int32.reduceToInt, ← Int32.toInt_inj, true_and, and_true, or_true, true_or, false_or, or_false, false_and, and_false, not_true_eq_false, not_false_eq_true] <;> omega))
                    · simp only [Int32.lt_iff_toInt_lt, Int32.le_iff_toInt_le, Int32.reduceToInt, ← Int32.toInt_inj] at h_6783
                      refine v_iload hC dX12_rewind_79 rfl ?_
                      refine v_goto hC dX12_rewind_81 (tgt := 93) (by decide) ?_
                      refine v_pick [0, 1, 2, 3, 4, 5] rfl ?_
                      exact jn_6797 i_6746 (by first | omega | (simp only [Int32.lt_iff_toInt_lt, Int32.le_iff_toInt_le, Int32.reduceToInt, ← Int32.toInt_inj, true_and, and_true, or_true, true_or, false_or, or_false, false_and, and_false, not_true_eq_false, not_false_eq_true] <;> omega))
              refine v_pick [0, 1, 2, 3, 4, 5] rfl ?_
              exact lp_6757 18 f_6113 hW_6114 FR.rf 0 (by decide) i_6111 i_6112 (by first | omega | (simp only [Int32.lt_iff_toInt_lt, Int32.le_iff_toInt_le, Int32.reduceToInt, ← Int32.toInt_inj, true_and, and_true, or_true, true_or, false_or, or_false, false_and, and_false, not_true_eq_false, not_false_eq_true] <;> omega)) (by first | omega | (simp only [Int32.lt_iff_toInt_lt, Int32.le_iff_toInt_le, Int32.reduceToInt, ← Int32.toInt_inj, true_and, and_true, or_true, true_or, false_or, or_false, false_and, and_false, not_true_eq_false, not_false_eq_true] <;> omega)) (by decide)
        refine v_pick [0, 1, 2, 3, 5] rfl ?_
        exact lp_6121 18 f_80 hW_83 FR.rf 0 (by decide) 0 r_78 (by first | omega | (simp only [Int32.lt_iff_toInt_lt, Int32.le_iff_toInt_le, Int32.reduceToInt, ← Int32.toInt_inj, true_and, and_true, or_true, true_or, false_or, or_false, false_and, and_false, not_true_eq_false, not_false_eq_true] <;> omega)) (by first | omega | (simp only [Int32.lt_iff_toInt_lt, Int32.le_iff_toInt_le, Int32.reduceToInt, ← Int32.toInt_inj, true_and, and_true, or_true, true_or, false_or, or_false, false_and, and_false, not_true_eq_false, not_false_eq_true] <;> omega)) (by decide)
      · simp only [Int32.lt_iff_toInt_lt, Int32.le_iff_toInt_le, Int32.reduceToInt, ← Int32.toInt_inj] at h_69
        refine v_bipush hC dX12_rewind_25 (v := (-6)) (by decide) ?_
        exact hR _ _ _ _ _ _ _ dX12_rewind_27 rfl (Nat.le_of_ble_eq_true rfl) (Nat.le_of_ble_eq_true rfl) ⟨rfl, hW, FR.rf, (.inl (by decide)), (.inl (by decide))⟩
    · simp only [Int32.lt_iff_toInt_lt, Int32.le_iff_toInt_le, Int32.reduceToInt, ← Int32.toInt_inj] at h_42
      refine v_bipush hC dX12_rewind_14 (v := (-2)) (by decide) ?_
      exact hR _ _ _ _ _ _ _ dX12_rewind_16 rfl (Nat.le_of_ble_eq_true rfl) (Nat.le_of_ble_eq_true rfl) ⟨rfl, hW, FR.rf, (.inl (by decide)), (.inl (by decide))⟩
set_option maxRecDepth 100000 in
set_option maxHeartbeats 4000000 in
theorem p_X12_copy {l : Launch} {E : Ez} {L : List Nat} {f : Nat → va_E} {T : Nat → va_E → Prop} {a_0 : Nat} {a_1 : Int32} {a_2 : Int32} {q : Nat → Nat} {g_w : Nat → Int32} (hW : WT T L f) (k_0 : isM T L E a_0 q) (e_w : f (q 1) = aI E 2076 g_w) (o_w : WOK g_w) : CI l yX12_copy cX12_copy 3 .int 2 0 0 E [.ref a_0, .int a_1, .int a_2] L f (fun r L1 f1 => L = L1 ∧ WT T L f1 ∧ FR [356, 2176] f f1 ∧ ((-6) ≤ r.toInt ∧ r.toInt ≤ 0) ∧ (¬ r.toInt = 0 ∨ (0 ≤ a_1.toInt ∧ a_1.toInt ≤ 3)) ∧ (¬ r.toInt = 0 ∨ (0 ≤ a_2.toInt ∧ a_2.toInt ≤ 3))) := by
  refine ci_of (by decide) (Nat.le_of_ble_eq_true rfl) (fun z hz hnm hC hR => ?_)
  have hC : Cx z E cX12_copy RX12 3 2 0 0 := hC
  subst hz
  show V z E 3 0 0 L f 0 [(0, .ref a_0), (1, .int a_1), (2, .int a_2)] []
  obtain ⟨m_1, t_2, k_3, k_4, k_5, k_6, k_7, k_8, k_9, k_10, k_11, k_12, k_13, k_14, k_15, k_16, k_17, k_18, k_19, k_20⟩ := id k_0
  obtain ⟨m_21, t_22⟩ := id k_3
  have b_23 := o_w.r0
  have b_24 := o_w.w0
  refine v_iload_n hC dX12_copy_0 rfl ?_
  refine v_si hC (rest := []) mt_X12_isCloth (p_X12_isCloth hW) mx_X12_isCloth ml_X12_319 (by decide) rfl (cells1 := 0) (slots1 := 0) (by decide) (by decide) (Nat.le_of_ble_eq_true rfl) (Nat.le_of_ble_eq_true rfl) rfl (Nat.le_of_ble_eq_true rfl) dX12_copy_1 (fun r_25 L_26 f_27 h_28 => ?_)
  obtain ⟨rfl, rfl, b_29, h_30⟩ := h_28
  refine v_if_eq hC dX12_copy_4 (tgt := 14) (by decide) (fun h_33 => ?_) (fun h_33 => ?_)
  · simp only [Int32.lt_iff_toInt_lt, Int32.le_iff_toInt_le, Int32.reduceToInt, ← Int32.toInt_inj] at h_33
    refine v_bipush hC dX12_copy_14 (v := (-2)) (by decide) ?_
    exact hR _ _ _ _ _ _ _ dX12_copy_16 rfl (Nat.le_of_ble_eq_true rfl) (Nat.le_of_ble_eq_true rfl) ⟨rfl, hW, FR.rf, (by decide), (.inl (by decide)), (.inl (by decide))⟩
  · simp only [Int32.lt_iff_toInt_lt, Int32.le_iff_toInt_le, Int32.reduceToInt, ← Int32.toInt_inj] at h_33
    refine v_iload_n hC dX12_copy_7 rfl ?_
    refine v_si hC (rest := []) mt_X12_isCloth (p_X12_isCloth hW) mx_X12_isCloth ml_X12_319 (by decide) rfl (cells1 := 0) (slots1 := 0) (by decide) (by decide) (Nat.le_of_ble_eq_true rfl) (Nat.le_of_ble_eq_true rfl) rfl (Nat.le_of_ble_eq_true rfl) dX12_copy_8 (fun r_34 L_35 f_36 h_37 => ?_)
    obtain ⟨rfl, rfl, b_38, h_39⟩ := h_37
    refine v_if_ne hC dX12_copy_11 (tgt := 17) (by decide) (fun h_42 => ?_) (fun h_42 => ?_)
    · simp only [Int32.lt_iff_toInt_lt, Int32.le_iff_toInt_le, Int32.reduceToInt, ← Int32.toInt_inj] at h_42
      refine v_aload_n hC dX12_copy_17 rfl ?_
      refine v_iload_n hC dX12_copy_18 rfl ?_
      obtain ⟨v_44, v_45, v_47, v_49, v_51, v_53, v_55, v_56, v_57, v_58, v_60, e_43, b_46, b_48, b_50, b_52, b_54, b_59, b_61⟩ := hW.at m_1 t_2
      refine v_vi hC (rest := []) m_1 e_43 rfl mi_X12_isThere ms_X12_isThere (p_X12_isThere hW k_0 (by first | omega | (simp only [Int32.lt_iff_toInt_lt, Int32.le_iff_toInt_le, Int32.reduceToInt, ← Int32.toInt_inj, true_and, and_true, or_true, true_or, false_or, or_false, false_and, and_false, not_true_eq_false, not_false_eq_true] <;> omega)) e_w o_w) mx_X12_isThere ml_X12_351 (by decide) rfl (cells1 := 0) (slots1 := 0) (by decide) (by decide) (Nat.le_of_ble_eq_true rfl) (Nat.le_of_ble_eq_true rfl) rfl (Nat.le_of_ble_eq_true rfl) dX12_copy_19 (fun r_62 L_63 f_64 h_65 => ?_)
      obtain ⟨rfl, rfl, b_66⟩ := h_65
      refine v_if_ne hC dX12_copy_22 (tgt := 28) (by decide) (fun h_69 => ?_) (fun h_69 => ?_)
      · simp only [Int32.lt_iff_toInt_lt, Int32.le_iff_toInt_le, Int32.reduceToInt, ← Int32.toInt_inj] at h_69
        refine v_aload_n hC dX12_copy_28 rfl ?_
        refine v_iload_n hC dX12_copy_29 rfl ?_
        refine v_vv hC (rest := []) m_1 e_43 rfl mi_X12_takes0 ms_X12_takes0 (p_X12_takes0 hW k_0 (by first | omega | (simp only [Int32.lt_iff_toInt_lt, Int32.le_iff_toInt_le, Int32.reduceToInt, ← Int32.toInt_inj, true_and, and_true, or_true, true_or, false_or, or_false, false_and, and_false, not_true_eq_false, not_false_eq_true] <;> omega)) e_w o_w) mx_X12_takes0 ml_X12_363 (by decide) rfl (cells1 := 0) (slots1 := 0) (by decide) (by decide) (Nat.le_of_ble_eq_true rfl) (Nat.le_of_ble_eq_true rfl) rfl (Nat.le_of_ble_eq_true rfl) dX12_copy_30 (fun L_71 f_72 h_73 => ?_)
        obtain ⟨rfl, hW_74, hF_75⟩ := h_73
        have hf_76 := hF_75.at e_w rfl
        have hf_77 := hF_75.at e_43 rfl
        refine v_aload_n hC dX12_copy_33 rfl ?_
        refine v_iload_n hC dX12_copy_34 rfl ?_
        refine v_vv hC (rest := []) m_1 hf_77 rfl mi_X12_gives ms_X12_gives (p_X12_gives hW_74 k_0 (by first | omega | (simp only [Int32.lt_iff_toInt_lt, Int32.le_iff_toInt_le, Int32.reduceToInt, ← Int32.toInt_inj, true_and, and_true, or_true, true_or, false_or, or_false, false_and, and_false, not_true_eq_false, not_false_eq_true] <;> omega)) hf_76 o_w) mx_X12_gives ml_X12_332 (by decide) rfl (cells1 := 0) (slots1 := 0) (by decide) (by decide) (Nat.le_of_ble_eq_true rfl) (Nat.le_of_ble_eq_true rfl) rfl (Nat.le_of_ble_eq_true rfl) dX12_copy_35 (fun L_79 f_80 h_81 => ?_)
        obtain ⟨rfl, hW_82, hF_83⟩ := h_81
        have hf_84 := hF_83.at hf_77 rfl
        refine v_iconst hC dX12_copy_38 (v := 0) (by decide) ?_
        exact hR _ _ _ _ _ _ _ dX12_copy_39 rfl (Nat.le_of_ble_eq_true rfl) (Nat.le_of_ble_eq_true rfl) ⟨rfl, hW_82, ((hF_75.tr hF_83).mono rfl), (by decide), (.inr (by first | omega | (simp only [Int32.lt_iff_toInt_lt, Int32.le_iff_toInt_le, Int32.reduceToInt, ← Int32.toInt_inj, true_and, and_true, or_true, true_or, false_or, or_false, false_and, and_false, not_true_eq_false, not_false_eq_true] <;> omega))), (.inr (by first | omega | (simp only [Int32.lt_iff_toInt_lt, Int32.le_iff_toInt_le, Int32.reduceToInt, ← Int32.toInt_inj, true_and, and_true, or_true, true_or, false_or, or_false, false_and, and_false, not_true_eq_false, not_false_eq_true] <;> omega)))⟩
      · simp only [Int32.lt_iff_toInt_lt, Int32.le_iff_toInt_le, Int32.reduceToInt, ← Int32.toInt_inj] at h_69
        refine v_bipush hC dX12_copy_25 (v := (-6)) (by decide) ?_
        exact hR _ _ _ _ _ _ _ dX12_copy_27 rfl (Nat.le_of_ble_eq_true rfl) (Nat.le_of_ble_eq_true rfl) ⟨rfl, hW, FR.rf, (by decide), (.inl (by decide)), (.inl (by decide))⟩
    · simp only [Int32.lt_iff_toInt_lt, Int32.le_iff_toInt_le, Int32.reduceToInt, ← Int32.toInt_inj] at h_42
      refine v_bipush hC dX12_copy_14 (v := (-2)) (by decide) ?_
      exact hR _ _ _ _ _ _ _ dX12_copy_16 rfl (Nat.le_of_ble_eq_true rfl) (Nat.le_of_ble_eq_true rfl) ⟨rfl, hW, FR.rf, (by decide), (.inl (by decide)), (.inl (by decide))⟩
set_option maxRecDepth 100000 in
set_option maxHeartbeats 4000000 in
theorem p_X12_turn {l : Launch} {E : Ez} {L : List Nat} {f : Nat → va_E} {T : Nat → va_E → Prop} {a_0 : Nat} {a_1 : Int32} {a_2 : Int32} {a_3 : Int32} {q : Nat → Nat} {g_w : Nat → Int32} (hW : WT T L f) (k_0 : isM T L E a_0 q) (e_w : f (q 1) = aI E 2076 g_w) (o_w : WOK g_w) : CI l yX12_turn cX12_turn 5 .int 4 0 0 E [.ref a_0, .int a_1, .int a_2, .int a_3] L f (fun r L1 f1 => L = L1 ∧ WT T L f1 ∧ FR [356, 2176] f f1 ∧ (¬ r.toInt = 0 ∨ (0 ≤ a_1.toInt ∧ a_1.toInt ≤ 3)) ∧ (¬ r.toInt = 0 ∨ (0 ≤ a_2.toInt ∧ a_2.toInt ≤ 15)) ∧ (¬ r.toInt = 0 ∨ (0 ≤ a_3.toInt ∧ a_3.toInt ≤ 15))) := by
  refine ci_of (by decide) (Nat.le_of_ble_eq_true rfl) (fun z hz hnm hC hR => ?_)
  have hC : Cx z E cX12_turn RX12 5 4 0 0 := hC
  subst hz
  show V z E 5 0 0 L f 0 [(0, .ref a_0), (1, .int a_1), (2, .int a_2), (3, .int a_3)] []
  obtain ⟨m_1, t_2, k_3, k_4, k_5, k_6, k_7, k_8, k_9, k_10, k_11, k_12, k_13, k_14, k_15, k_16, k_17, k_18, k_19, k_20⟩ := id k_0
  obtain ⟨m_21, t_22⟩ := id k_3
  have b_23 := o_w.r0
  have b_24 := o_w.w0
  refine v_iload_n hC dX12_turn_0 rfl ?_
  refine v_si hC (rest := []) mt_X12_isCloth (p_X12_isCloth hW) mx_X12_isCloth ml_X12_319 (by decide) rfl (cells1 := 0) (slots1 := 0) (by decide) (by decide) (Nat.le_of_ble_eq_true rfl) (Nat.le_of_ble_eq_true rfl) rfl (Nat.le_of_ble_eq_true rfl) dX12_turn_1 (fun r_25 L_26 f_27 h_28 => ?_)
  obtain ⟨rfl, rfl, b_29, h_30⟩ := h_28
  refine v_if_eq hC dX12_turn_4 (tgt := 31) (by decide) (fun h_33 => ?_) (fun h_33 => ?_)
  · simp only [Int32.lt_iff_toInt_lt, Int32.le_iff_toInt_le, Int32.reduceToInt, ← Int32.toInt_inj] at h_33
    refine v_bipush hC dX12_turn_31 (v := (-2)) (by decide) ?_
    exact hR _ _ _ _ _ _ _ dX12_turn_33 rfl (Nat.le_of_ble_eq_true rfl) (Nat.le_of_ble_eq_true rfl) ⟨rfl, hW, FR.rf, (.inl (by decide)), (.inl (by decide)), (.inl (by decide))⟩
  · simp only [Int32.lt_iff_toInt_lt, Int32.le_iff_toInt_le, Int32.reduceToInt, ← Int32.toInt_inj] at h_33
    refine v_aload_n hC dX12_turn_7 rfl ?_
    refine v_iload_n hC dX12_turn_8 rfl ?_
    refine v_iload_n hC dX12_turn_9 rfl ?_
    obtain ⟨v_35, v_36, v_38, v_40, v_42, v_44, v_46, v_47, v_48, v_49, v_51, e_34, b_37, b_39, b_41, b_43, b_45, b_50, b_52⟩ := hW.at m_1 t_2
    refine v_vi hC (rest := []) m_1 e_34 rfl mi_X12_isPlace ms_X12_isPlace (p_X12_isPlace hW k_0 e_w o_w) mx_X12_isPlace ml_X12_379 (by decide) rfl (cells1 := 0) (slots1 := 0) (by decide) (by decide) (Nat.le_of_ble_eq_true rfl) (Nat.le_of_ble_eq_true rfl) rfl (Nat.le_of_ble_eq_true rfl) dX12_turn_10 (fun r_53 L_54 f_55 h_56 => ?_)
    obtain ⟨rfl, rfl, b_57, h_58, h_59, x_60⟩ := h_56
    try simp only [Int32.reduceToInt, Int64.reduceToInt] at x_60
    refine v_if_eq hC dX12_turn_13 (tgt := 31) (by decide) (fun h_63 => ?_) (fun h_63 => ?_)
    · simp only [Int32.lt_iff_toInt_lt, Int32.le_iff_toInt_le, Int32.reduceToInt, ← Int32.toInt_inj] at h_63
      refine v_bipush hC dX12_turn_31 (v := (-2)) (by decide) ?_
      exact hR _ _ _ _ _ _ _ dX12_turn_33 rfl (Nat.le_of_ble_eq_true rfl) (Nat.le_of_ble_eq_true rfl) ⟨rfl, hW, FR.rf, (.inl (by decide)), (.inl (by decide)), (.inl (by decide))⟩
    · simp only [Int32.lt_iff_toInt_lt, Int32.le_iff_toInt_le, Int32.reduceToInt, ← Int32.toInt_inj] at h_63
      refine v_aload_n hC dX12_turn_16 rfl ?_
      refine v_iload_n hC dX12_turn_17 rfl ?_
      refine v_aload_n hC dX12_turn_18 rfl ?_
      refine v_vi hC (rest := [.int a_2, .ref a_0]) m_1 e_34 rfl mi_X12_wide ms_X12_wide (p_X12_wide hW k_0 e_w o_w) mx_X12_wide ml_X12_87 (by decide) rfl (cells1 := 0) (slots1 := 0) (by decide) (by decide) (Nat.le_of_ble_eq_true rfl) (Nat.le_of_ble_eq_true rfl) rfl (Nat.le_of_ble_eq_true rfl) dX12_turn_19 (fun r_64 L_65 f_66 h_67 => ?_)
      obtain ⟨rfl, rfl, rfl⟩ := h_67
      obtain ⟨v_70, h_71⟩ : ∃ v9 : Int32, a_2 * (g_w 1) = v9 := ⟨_, rfl⟩
      refine v_imul hC dX12_turn_22 h_71 ?_
      have h_72 := mul_v 15 16 240 h_71 (by first | omega | (simp only [Int32.lt_iff_toInt_lt, Int32.le_iff_toInt_le, Int32.reduceToInt, ← Int32.toInt_inj, true_and, and_true, or_true, true_or, false_or, or_false, false_and, and_false, not_true_eq_false, not_false_eq_true] <;> omega)) (by first | omega | (simp only [Int32.lt_iff_toInt_lt, Int32.le_iff_toInt_le, Int32.reduceToInt, ← Int32.toInt_inj, true_and, and_true, or_true, true_or, false_or, or_false, false_and, and_false, not_true_eq_false, not_false_eq_true] <;> omega)) (by decide) (by decide)
      refine v_iload_n hC dX12_turn_23 rfl ?_
      obtain ⟨v_73, h_74⟩ : ∃ v9 : Int32, v_70 + a_3 = v9 := ⟨_, rfl⟩
      refine v_iadd hC dX12_turn_24 h_74 ?_
      have h_75 := add_v h_74 (by first | omega | (simp only [Int32.lt_iff_toInt_lt, Int32.le_iff_toInt_le, Int32.reduceToInt, ← Int32.toInt_inj, true_and, and_true, or_true, true_or, false_or, or_false, false_and, and_false, not_true_eq_false, not_false_eq_true] <;> omega)) (by first | omega | (simp only [Int32.lt_iff_toInt_lt, Int32.le_iff_toInt_le, Int32.reduceToInt, ← Int32.toInt_inj, true_and, and_true, or_true, true_or, false_or, or_false, false_and, and_false, not_true_eq_false, not_false_eq_true] <;> omega))
      refine v_vi hC (rest := []) m_1 e_34 rfl mi_X12_isFree ms_X12_isFree (p_X12_isFree hW k_0 (by first | omega | (simp only [Int32.lt_iff_toInt_lt, Int32.le_iff_toInt_le, Int32.reduceToInt, ← Int32.toInt_inj, true_and, and_true, or_true, true_or, false_or, or_false, false_and, and_false, not_true_eq_false, not_false_eq_true] <;> omega)) e_w o_w (by first | omega | (simp only [Int32.lt_iff_toInt_lt, Int32.le_iff_toInt_le, Int32.reduceToInt, ← Int32.toInt_inj, true_and, and_true, or_true, true_or, false_or, or_false, false_and, and_false, not_true_eq_false, not_false_eq_true] <;> omega))) mx_X12_isFree ml_X12_206 (by decide) rfl (cells1 := 0) (slots1 := 0) (by decide) (by decide) (Nat.le_of_ble_eq_true rfl) (Nat.le_of_ble_eq_true rfl) rfl (Nat.le_of_ble_eq_true rfl) dX12_turn_25 (fun r_76 L_77 f_78 h_79 => ?_)
      obtain ⟨rfl, rfl, b_80⟩ := h_79
      refine v_if_ne hC dX12_turn_28 (tgt := 34) (by decide) (fun h_83 => ?_) (fun h_83 => ?_)
      · simp only [Int32.lt_iff_toInt_lt, Int32.le_iff_toInt_le, Int32.reduceToInt, ← Int32.toInt_inj] at h_83
        refine v_aload_n hC dX12_turn_34 rfl ?_
        refine v_iload_n hC dX12_turn_35 rfl ?_
        refine v_vi hC (rest := []) m_1 e_34 rfl mi_X12_isThere ms_X12_isThere (p_X12_isThere hW k_0 (by first | omega | (simp only [Int32.lt_iff_toInt_lt, Int32.le_iff_toInt_le, Int32.reduceToInt, ← Int32.toInt_inj, true_and, and_true, or_true, true_or, false_or, or_false, false_and, and_false, not_true_eq_false, not_false_eq_true] <;> omega)) e_w o_w) mx_X12_isThere ml_X12_351 (by decide) rfl (cells1 := 0) (slots1 := 0) (by decide) (by decide) (Nat.le_of_ble_eq_true rfl) (Nat.le_of_ble_eq_true rfl) rfl (Nat.le_of_ble_eq_true rfl) dX12_turn_36 (fun r_84 L_85 f_86 h_87 => ?_)
        obtain ⟨rfl, rfl, b_88⟩ := h_87
        refine v_if_ne hC dX12_turn_39 (tgt := 45) (by decide) (fun h_91 => ?_) (fun h_91 => ?_)
        · simp only [Int32.lt_iff_toInt_lt, Int32.le_iff_toInt_le, Int32.reduceToInt, ← Int32.toInt_inj] at h_91
          refine v_aload_n hC dX12_turn_45 rfl ?_
          refine v_iload_n hC dX12_turn_46 rfl ?_
          refine v_vv hC (rest := []) m_1 e_34 rfl mi_X12_takes0 ms_X12_takes0 (p_X12_takes0 hW k_0 (by first | omega | (simp only [Int32.lt_iff_toInt_lt, Int32.le_iff_toInt_le, Int32.reduceToInt, ← Int32.toInt_inj, true_and, and_true, or_true, true_or, false_or, or_false, false_and, and_false, not_true_eq_false, not_false_eq_true] <;> omega)) e_w o_w) mx_X12_takes0 ml_X12_363 (by decide) rfl (cells1 := 0) (slots1 := 0) (by decide) (by decide) (Nat.le_of_ble_eq_true rfl) (Nat.le_of_ble_eq_true rfl) rfl (Nat.le_of_ble_eq_true rfl) dX12_turn_47 (fun L_93 f_94 h_95 => ?_)
          obtain ⟨rfl, hW_96, hF_97⟩ := h_95
          have hf_98 := hF_97.at e_w rfl
          have hf_99 := hF_97.at e_34 rfl
          refine v_iload_n hC dX12_turn_50 rfl ?_
          refine v_aload_n hC dX12_turn_51 rfl ?_
          refine v_vi hC (rest := [.int a_2]) m_1 hf_99 rfl mi_X12_wide ms_X12_wide (p_X12_wide hW_96 k_0 hf_98 o_w) mx_X12_wide ml_X12_87 (by decide) rfl (cells1 := 0) (slots1 := 0) (by decide) (by decide) (Nat.le_of_ble_eq_true rfl) (Nat.le_of_ble_eq_true rfl) rfl (Nat.le_of_ble_eq_true rfl) dX12_turn_52 (fun r_100 L_101 f_102 h_103 => ?_)
          obtain ⟨rfl, rfl, rfl⟩ := h_103
          obtain ⟨v_106, h_107⟩ : ∃ v9 : Int32, a_2 * (g_w 1) = v9 := ⟨_, rfl⟩
          refine v_imul hC dX12_turn_55 h_107 ?_
          have h_108 := mul_v 15 16 240 h_107 (by first | omega | (simp only [Int32.lt_iff_toInt_lt, Int32.le_iff_toInt_le, Int32.reduceToInt, ← Int32.toInt_inj, true_and, and_true, or_true, true_or, false_or, or_false, false_and, and_false, not_true_eq_false, not_false_eq_true] <;> omega)) (by first | omega | (simp only [Int32.lt_iff_toInt_lt, Int32.le_iff_toInt_le, Int32.reduceToInt, ← Int32.toInt_inj, true_and, and_true, or_true, true_or, false_or, or_false, false_and, and_false, not_true_eq_false, not_false_eq_true] <;> omega)) (by decide) (by decide)
          refine v_iload_n hC dX12_turn_56 rfl ?_
          obtain ⟨v_109, h_110⟩ : ∃ v9 : Int32, v_106 + a_3 = v9 := ⟨_, rfl⟩
          refine v_iadd hC dX12_turn_57 h_110 ?_
          have h_111 := add_v h_110 (by first | omega | (simp only [Int32.lt_iff_toInt_lt, Int32.le_iff_toInt_le, Int32.reduceToInt, ← Int32.toInt_inj, true_and, and_true, or_true, true_or, false_or, or_false, false_and, and_false, not_true_eq_false, not_false_eq_true] <;> omega)) (by first | omega | (simp only [Int32.lt_iff_toInt_lt, Int32.le_iff_toInt_le, Int32.reduceToInt, ← Int32.toInt_inj, true_and, and_true, or_true, true_or, false_or, or_false, false_and, and_false, not_true_eq_false, not_false_eq_true] <;> omega))
          refine v_istore hC dX12_turn_58 (by decide) (lv' := [(4, .int v_109), (0, .ref a_0), (1, .int a_1), (2, .int a_2), (3, .int a_3)]) rfl ?_
          refine v_aload_n hC dX12_turn_60 rfl ?_
          refine v_get hC fl_X12_37 m_1 hf_99 rfl dX12_turn_61 ?_
          refine v_iload hC dX12_turn_64 rfl ?_
          obtain ⟨m_112, t_113⟩ := id k_9
          obtain ⟨g_115, e_114⟩ := hW_96.at m_112 t_113
          obtain ⟨v_116, h_117⟩ : ∃ v9 : Int32, g_115 (v_109 : Int32).toNatClampNeg = v9 := ⟨_, rfl⟩
          refine v_iald hC m_112 e_114 (vp_in_iff.mpr (by first | omega | (simp only [Int32.lt_iff_toInt_lt, Int32.le_iff_toInt_le, Int32.reduceToInt, ← Int32.toInt_inj, true_and, and_true, or_true, true_or, false_or, or_false, false_and, and_false, not_true_eq_false, not_false_eq_true] <;> omega))) h_117 dX12_turn_66 ?_
          refine v_iconst hC dX12_turn_67 (v := 4) (by decide) ?_
          refine v_icmp_ne hC dX12_turn_68 (tgt := 74) (by decide) (fun h_118 => ?_) (fun h_118 => ?_)
          · simp only [Int32.lt_iff_toInt_lt, Int32.le_iff_toInt_le, Int32.reduceToInt, ← Int32.toInt_inj] at h_118
            refine v_aload_n hC dX12_turn_74 rfl ?_
            refine v_get hC fl_X12_37 m_1 hf_99 rfl dX12_turn_75 ?_
            refine v_iload hC dX12_turn_78 rfl ?_
            refine v_aload_n hC dX12_turn_80 rfl ?_
            refine v_iload hC dX12_turn_81 rfl ?_
            refine v_vi hC (rest := [.int v_109, .ref (q 15)]) m_1 hf_99 rfl mi_X12_turnOver ms_X12_turnOver (p_X12_turnOver hW_96 k_0 (by first | omega | (simp only [Int32.lt_iff_toInt_lt, Int32.le_iff_toInt_le, Int32.reduceToInt, ← Int32.toInt_inj, true_and, and_true, or_true, true_or, false_or, or_false, false_and, and_false, not_true_eq_false, not_false_eq_true] <;> omega)) hf_98 o_w (by first | omega | (simp only [Int32.lt_iff_toInt_lt, Int32.le_iff_toInt_le, Int32.reduceToInt, ← Int32.toInt_inj, true_and, and_true, or_true, true_or, false_or, or_false, false_and, and_false, not_true_eq_false, not_false_eq_true] <;> omega))) mx_X12_turnOver ml_X12_344 (by decide) rfl (cells1 := 0) (slots1 := 0) (by decide) (by decide) (Nat.le_of_ble_eq_true rfl) (Nat.le_of_ble_eq_true rfl) rfl (Nat.le_of_ble_eq_true rfl) dX12_turn_83 (fun r_119 L_120 f_121 h_122 => ?_)
            obtain ⟨rfl, rfl, b_123⟩ := h_122
            refine v_iast hC m_112 e_114 (vp_in_iff.mpr (by first | omega | (simp only [Int32.lt_iff_toInt_lt, Int32.le_iff_toInt_le, Int32.reduceToInt, ← Int32.toInt_inj, true_and, and_true, or_true, true_or, false_or, or_false, false_and, and_false, not_true_eq_false, not_false_eq_true] <;> omega))) dX12_turn_86 (fun f_126 hf_127 hk_128 => ?_)
            have hW_130 := hW_96.up hf_127 hk_128 t_113 ⟨_, rfl⟩
            obtain ⟨g_129, hf_127⟩ : ∃ g9, f_126 (q 15) = aI E 256 g9 := ⟨_, hf_127⟩
            have hf_131 := (hk_128 (q 1) (ne_kd hf_98 e_114 rfl)).trans hf_98
            have hf_132 := (hk_128 a_0 (ne_kd hf_99 e_114 rfl)).trans hf_99
            have fr_133 := FR.w hk_128 e_114 (k := 356) rfl
            refine v_aload_n hC dX12_turn_87 rfl ?_
            refine v_iload_n hC dX12_turn_88 rfl ?_
            refine v_vv hC (rest := []) m_1 hf_132 rfl mi_X12_gives ms_X12_gives (p_X12_gives hW_130 k_0 (by first | omega | (simp only [Int32.lt_iff_toInt_lt, Int32.le_iff_toInt_le, Int32.reduceToInt, ← Int32.toInt_inj, true_and, and_true, or_true, true_or, false_or, or_false, false_and, and_false, not_true_eq_false, not_false_eq_true] <;> omega)) hf_131 o_w) mx_X12_gives ml_X12_332 (by decide) rfl (cells1 := 0) (slots1 := 0) (by decide) (by decide) (Nat.le_of_ble_eq_true rfl) (Nat.le_of_ble_eq_true rfl) rfl (Nat.le_of_ble_eq_true rfl) dX12_turn_89 (fun L_135 f_136 h_137 => ?_)
            obtain ⟨rfl, hW_138, hF_139⟩ := h_137
            have hf_140 := hF_139.at hf_132 rfl
            have hf_141 := hF_139.at hf_127 rfl
            refine v_aload_n hC dX12_turn_92 rfl ?_
            refine v_get hC fl_X12_37 m_1 hf_140 rfl dX12_turn_93 ?_
            refine v_iload hC dX12_turn_96 rfl ?_
            obtain ⟨v_142, h_143⟩ : ∃ v9 : Int32, g_129 (v_109 : Int32).toNatClampNeg = v9 := ⟨_, rfl⟩
            refine v_iald hC m_112 hf_141 (vp_in_iff.mpr (by first | omega | (simp only [Int32.lt_iff_toInt_lt, Int32.le_iff_toInt_le, Int32.reduceToInt, ← Int32.toInt_inj, true_and, and_true, or_true, true_or, false_or, or_false, false_and, and_false, not_true_eq_false, not_false_eq_true] <;> omega))) h_143 dX12_turn_98 ?_
            exact hR _ _ _ _ _ _ _ dX12_turn_99 rfl (Nat.le_of_ble_eq_true rfl) (Nat.le_of_ble_eq_true rfl) ⟨rfl, hW_138, (((hF_97.tr fr_133).tr hF_139).mono rfl), (.inr (by first | omega | (simp only [Int32.lt_iff_toInt_lt, Int32.le_iff_toInt_le, Int32.reduceToInt, ← Int32.toInt_inj, true_and, and_true, or_true, true_or, false_or, or_false, false_and, and_false, not_true_eq_false, not_false_eq_true] <;> omega))), (.inr (by first | omega | (simp only [Int32.lt_iff_toInt_lt, Int32.le_iff_toInt_le, Int32.reduceToInt, ← Int32.toInt_inj, true_and, and_true, or_true, true_or, false_or, or_false, false_and, and_false, not_true_eq_false, not_false_eq_true] <;> omega))), (.inr (by first | omega | (simp only [Int32.lt_iff_toInt_lt, Int32.le_iff_toInt_le, Int32.reduceToInt, ← Int32.toInt_inj, true_and, and_true, or_true, true_or, false_or, or_false, false_and, and_false, not_true_eq_false, not_false_eq_true] <;> omega)))⟩
          · simp only [Int32.lt_iff_toInt_lt, Int32.le_iff_toInt_le, Int32.reduceToInt, ← Int32.toInt_inj] at h_118
            refine v_bipush hC dX12_turn_71 (v := (-5)) (by decide) ?_
            exact hR _ _ _ _ _ _ _ dX12_turn_73 rfl (Nat.le_of_ble_eq_true rfl) (Nat.le_of_ble_eq_true rfl) ⟨rfl, hW_96, (hF_97.mono rfl), (.inl (by decide)), (.inl (by decide)), (.inl (by decide))⟩
        · simp only [Int32.lt_iff_toInt_lt, Int32.le_iff_toInt_le, Int32.reduceToInt, ← Int32.toInt_inj] at h_91
          refine v_bipush hC dX12_turn_42 (v := (-6)) (by decide) ?_
          exact hR _ _ _ _ _ _ _ dX12_turn_44 rfl (Nat.le_of_ble_eq_true rfl) (Nat.le_of_ble_eq_true rfl) ⟨rfl, hW, FR.rf, (.inl (by decide)), (.inl (by decide)), (.inl (by decide))⟩
      · simp only [Int32.lt_iff_toInt_lt, Int32.le_iff_toInt_le, Int32.reduceToInt, ← Int32.toInt_inj] at h_83
        refine v_bipush hC dX12_turn_31 (v := (-2)) (by decide) ?_
        exact hR _ _ _ _ _ _ _ dX12_turn_33 rfl (Nat.le_of_ble_eq_true rfl) (Nat.le_of_ble_eq_true rfl) ⟨rfl, hW, FR.rf, (.inl (by decide)), (.inl (by decide)), (.inl (by decide))⟩
set_option maxRecDepth 100000 in
set_option maxHeartbeats 4000000 in
theorem p_X12_mend {l : Launch} {E : Ez} {L : List Nat} {f : Nat → va_E} {T : Nat → va_E → Prop} {a_0 : Nat} {a_1 : Int32} {q : Nat → Nat} {g_w : Nat → Int32} (hW : WT T L f) (k_0 : isM T L E a_0 q) (e_w : f (q 1) = aI E 2076 g_w) (o_w : WOK g_w) : CI l yX12_mend cX12_mend 8 .int 5 0 0 E [.ref a_0, .int a_1] L f (fun r L1 f1 => L = L1 ∧ WT T L f1 ∧ FR [108, 356] f f1 ∧ ((-6) ≤ r.toInt ∧ r.toInt ≤ 2) ∧ (¬ r.toInt = 0 ∨ (0 ≤ a_1.toInt ∧ a_1.toInt ≤ 3))) := by
  refine ci_of (by decide) (Nat.le_of_ble_eq_true rfl) (fun z hz hnm hC hR => ?_)
  have hC : Cx z E cX12_mend RX12 8 5 0 0 := hC
  subst hz
  show V z E 8 0 0 L f 0 [(0, .ref a_0), (1, .int a_1)] []
  obtain ⟨m_1, t_2, k_3, k_4, k_5, k_6, k_7, k_8, k_9, k_10, k_11, k_12, k_13, k_14, k_15, k_16, k_17, k_18, k_19, k_20⟩ := id k_0
  obtain ⟨m_21, t_22⟩ := id k_3
  have b_23 := o_w.r0
  have b_24 := o_w.w0
  refine v_aload_n hC dX12_mend_0 rfl ?_
  refine v_iload_n hC dX12_mend_1 rfl ?_
  obtain ⟨v_26, v_27, v_29, v_31, v_33, v_35, v_37, v_38, v_39, v_40, v_42, e_25, b_28, b_30, b_32, b_34, b_36, b_41, b_43⟩ := hW.at m_1 t_2
  refine v_vi hC (rest := []) m_1 e_25 rfl mi_X12_asksCloth ms_X12_asksCloth (p_X12_asksCloth hW k_0 e_w o_w) mx_X12_asksCloth ml_X12_376 (by decide) rfl (cells1 := 0) (slots1 := 0) (by decide) (by decide) (Nat.le_of_ble_eq_true rfl) (Nat.le_of_ble_eq_true rfl) rfl (Nat.le_of_ble_eq_true rfl) dX12_mend_2 (fun r_44 L_45 f_46 h_47 => ?_)
  obtain ⟨rfl, rfl, b_48, h_49⟩ := h_47
  refine v_istore_n hC dX12_mend_5 (by decide) (lv' := [(2, .int r_44), (0, .ref a_0), (1, .int a_1)]) rfl ?_
  refine v_iload_n hC dX12_mend_6 rfl ?_
  refine v_if_ge hC dX12_mend_7 (tgt := 12) (by decide) (fun h_52 => ?_) (fun h_52 => ?_)
  · simp only [Int32.lt_iff_toInt_lt, Int32.le_iff_toInt_le, Int32.reduceToInt, ← Int32.toInt_inj] at h_52
    refine v_aload_n hC dX12_mend_12 rfl ?_
    refine v_iload_n hC dX12_mend_13 rfl ?_
    refine v_vv hC (rest := []) m_1 e_25 rfl mi_X12_takes0 ms_X12_takes0 (p_X12_takes0 hW k_0 (by first | omega | (simp only [Int32.lt_iff_toInt_lt, Int32.le_iff_toInt_le, Int32.reduceToInt, ← Int32.toInt_inj, true_and, and_true, or_true, true_or, false_or, or_false, false_and, and_false, not_true_eq_false, not_false_eq_true] <;> omega)) e_w o_w) mx_X12_takes0 ml_X12_363 (by decide) rfl (cells1 := 0) (slots1 := 0) (by decide) (by decide) (Nat.le_of_ble_eq_true rfl) (Nat.le_of_ble_eq_true rfl) rfl (Nat.le_of_ble_eq_true rfl) dX12_mend_14 (fun L_54 f_55 h_56 => ?_)
    obtain ⟨rfl, hW_57, hF_58⟩ := h_56
    have hf_59 := hF_58.at e_w rfl
    have hf_60 := hF_58.at e_25 rfl
    refine v_aload_n hC dX12_mend_17 rfl ?_
    refine v_vi hC (rest := []) m_1 hf_60 rfl mi_X12_stopping ms_X12_stopping (p_X12_stopping hW_57 k_0 hf_59 o_w) mx_X12_stopping ml_X12_405 (by decide) rfl (cells1 := 0) (slots1 := 0) (by decide) (by decide) (Nat.le_of_ble_eq_true rfl) (Nat.le_of_ble_eq_true rfl) rfl (Nat.le_of_ble_eq_true rfl) dX12_mend_18 (fun r_61 L_62 f_63 h_64 => ?_)
    obtain ⟨rfl, hW_66, hF_67, b_65⟩ := h_64
    have hf_68 := hF_67.at hf_59 rfl
    have hf_69 := hF_67.at hf_60 rfl
    refine v_iconst hC dX12_mend_21 (v := (-1)) (by decide) ?_
    refine v_icmp_ne hC dX12_mend_22 (tgt := 27) (by decide) (fun h_70 => ?_) (fun h_70 => ?_)
    · simp only [Int32.lt_iff_toInt_lt, Int32.le_iff_toInt_le, Int32.reduceToInt, ← Int32.toInt_inj] at h_70
      refine v_iconst hC dX12_mend_27 (v := 0) (by decide) ?_
      refine v_istore_n hC dX12_mend_28 (by decide) (lv' := [(3, .int 0), (2, .int r_44), (0, .ref a_0), (1, .int a_1)]) rfl ?_
      refine v_iconst hC dX12_mend_29 (v := 0) (by decide) ?_
      refine v_istore hC dX12_mend_30 (by decide) (lv' := [(4, .int 0), (3, .int 0), (2, .int r_44), (0, .ref a_0), (1, .int a_1)]) rfl ?_
      have lp_4043 : ∀ (n_4044 : Nat) (f_4036 : Nat → va_E) (hW_4037 : WT T L f_4036) (hF_4038 : FR [108, 356] f_63 f_4036) (i_4034 : Int32) (b_4041 : (0 ≤ i_4034.toInt ∧ i_4034.toInt ≤ 256)) (i_4035 : Int32) (b_4042 : (0 ≤ i_4035.toInt ∧ i_4035.toInt ≤ 1)) (hm_4046 : 256 - i_4034.toInt < (n_4044 : Int)), V z E 8 0 0 L f_4036 32 [(4, .int i_4034), (3, .int i_4035), (0, .ref a_0)] [] := by
        intro n_4044
        induction n_4044 with
        | zero =>
          intro f_4036 hW_4037 hF_4038 i_4034 b_4041 i_4035 b_4042 hm_4046
          have hf_4039 := hF_4038.at hf_68 rfl
          have hf_4040 := hF_4038.at hf_69 rfl
          exfalso; omega
        | succ n_4044 ih_4045 =>
          intro f_4036 hW_4037 hF_4038 i_4034 b_4041 i_4035 b_4042 hm_4046
          have hf_4039 := hF_4038.at hf_68 rfl
          have hf_4040 := hF_4038.at hf_69 rfl
          refine v_iload hC dX12_mend_32 rfl ?_
          refine v_aload_n hC dX12_mend_34 rfl ?_
          refine v_vi hC (rest := [.int i_4034]) m_1 hf_4040 rfl mi_X12_area ms_X12_area (p_X12_area hW_4037 k_0 hf_4039 o_w) mx_X12_area ml_X12_203 (by decide) rfl (cells1 := 0) (slots1 := 0) (by decide) (by decide) (Nat.le_of_ble_eq_true rfl) (Nat.le_of_ble_eq_true rfl) rfl (Nat.le_of_ble_eq_true rfl) dX12_mend_35 (fun r_4047 L_4048 f_4049 h_4050 => ?_)
          obtain ⟨rfl, rfl, rfl⟩ := h_4050
          have ar_4053 := area_v o_w
          refine v_icmp_ge hC dX12_mend_38 (tgt := 199) (by decide) (fun h_4054 => ?_) (fun h_4054 => ?_)
          · simp only [Int32.lt_iff_toInt_lt, Int32.le_iff_toInt_le, Int32.reduceToInt, ← Int32.toInt_inj] at h_4054
            refine v_iload_n hC dX12_mend_199 rfl ?_
            refine v_if_eq hC dX12_mend_200 (tgt := 207) (by decide) (fun h_4055 => ?_) (fun h_4055 => ?_)
            · simp only [Int32.lt_iff_toInt_lt, Int32.le_iff_toInt_le, Int32.reduceToInt, ← Int32.toInt_inj] at h_4055
              refine v_iconst hC dX12_mend_207 (v := (-1)) (by decide) ?_
              exact hR _ _ _ _ _ _ _ dX12_mend_208 rfl (Nat.le_of_ble_eq_true rfl) (Nat.le_of_ble_eq_true rfl) ⟨rfl, hW_4037, (((hF_58.tr hF_67).tr hF_4038).mono rfl), (by decide), (.inl (by decide))⟩
            · simp only [Int32.lt_iff_toInt_lt, Int32.le_iff_toInt_le, Int32.reduceToInt, ← Int32.toInt_inj] at h_4055
              refine v_iconst hC dX12_mend_203 (v := 2) (by decide) ?_
              refine v_goto hC dX12_mend_204 (tgt := 208) (by decide) ?_
              exact hR _ _ _ _ _ _ _ dX12_mend_208 rfl (Nat.le_of_ble_eq_true rfl) (Nat.le_of_ble_eq_true rfl) ⟨rfl, hW_4037, (((hF_58.tr hF_67).tr hF_4038).mono rfl), (by decide), (.inl (by decide))⟩
          · simp only [Int32.lt_iff_toInt_lt, Int32.le_iff_toInt_le, Int32.reduceToInt, ← Int32.toInt_inj] at h_4054
            refine v_aload_n hC dX12_mend_41 rfl ?_
            refine v_iload hC dX12_mend_42 rfl ?_
            refine v_vi hC (rest := []) m_1 hf_4040 rfl mi_X12_isFree ms_X12_isFree (p_X12_isFree hW_4037 k_0 (by first | omega | (simp only [Int32.lt_iff_toInt_lt, Int32.le_iff_toInt_le, Int32.reduceToInt, ← Int32.toInt_inj, true_and, and_true, or_true, true_or, false_or, or_false, false_and, and_false, not_true_eq_false, not_false_eq_true] <;> omega)) hf_4039 o_w (by first | omega | (simp only [Int32.lt_iff_toInt_lt, Int32.le_iff_toInt_le, Int32.reduceToInt, ← Int32.toInt_inj, true_and, and_true, or_true, true_or, false_or, or_false, false_and, and_false, not_true_eq_false, not_false_eq_true] <;> omega))) mx_X12_isFree ml_X12_206 (by decide) rfl (cells1 := 0) (slots1 := 0) (by decide) (by decide) (Nat.le_of_ble_eq_true rfl) (Nat.le_of_ble_eq_true rfl) rfl (Nat.le_of_ble_eq_true rfl) dX12_mend_44 (fun r_4056 L_4057 f_4058 h_4059 => ?_)
            obtain ⟨rfl, rfl, b_4060⟩ := h_4059
            refine v_if_eq hC dX12_mend_47 (tgt := 193) (by decide) (fun h_4063 => ?_) (fun h_4063 => ?_)
            · simp only [Int32.lt_iff_toInt_lt, Int32.le_iff_toInt_le, Int32.reduceToInt, ← Int32.toInt_inj] at h_4063
              obtain ⟨v_4064, h_4065⟩ : ∃ v9 : Int32, i_4034 + Int32.ofInt 1 = v9 := ⟨_, rfl⟩
              have h_4066 := add_v (b := 1) h_4065 (by first | omega | (simp only [Int32.lt_iff_toInt_lt, Int32.le_iff_toInt_le, Int32.reduceToInt, ← Int32.toInt_inj, true_and, and_true, or_true, true_or, false_or, or_false, false_and, and_false, not_true_eq_false, not_false_eq_true] <;> omega)) (by first | omega | (simp only [Int32.lt_iff_toInt_lt, Int32.le_iff_toInt_le, Int32.reduceToInt, ← Int32.toInt_inj, true_and, and_true, or_true, true_or, false_or, or_false, false_and, and_false, not_true_eq_false, not_false_eq_true] <;> omega))
              simp only [Int32.reduceToInt] at h_4066
              refine v_iinc hC dX12_mend_193 (k := 0) rfl (v := v_4064) h_4065 (by decide) (lv' := [(4, .int v_4064), (3, .int i_4035), (0, .ref a_0)]) rfl ?_
              refine v_goto hC dX12_mend_196 (tgt := 32) (by decide) ?_
              refine v_pick [0, 1, 2] rfl ?_
              exact ih_4045 f_4036 hW_4037 (hF_4038.mono rfl) v_4064 (by first | omega | (simp only [Int32.lt_iff_toInt_lt, Int32.le_iff_toInt_le, Int32.reduceToInt, ← Int32.toInt_inj, true_and, and_true, or_true, true_or, false_or, or_false, false_and, and_false, not_true_eq_false, not_false_eq_true] <;> omega)) i_4035 (by first | omega | (simp only [Int32.lt_iff_toInt_lt, Int32.le_iff_toInt_le, Int32.reduceToInt, ← Int32.toInt_inj, true_and, and_true, or_true, true_or, false_or, or_false, false_and, and_false, not_true_eq_false, not_false_eq_true] <;> omega)) (by first | omega | (simp only [Int32.lt_iff_toInt_lt, Int32.le_iff_toInt_le, Int32.reduceToInt, ← Int32.toInt_inj, true_and, and_true, or_true, true_or, false_or, or_false, false_and, and_false, not_true_eq_false, not_false_eq_true] <;> omega))
            · simp only [Int32.lt_iff_toInt_lt, Int32.le_iff_toInt_le, Int32.reduceToInt, ← Int32.toInt_inj] at h_4063
              refine v_aload_n hC dX12_mend_50 rfl ?_
              refine v_get hC fl_X12_37 m_1 hf_4040 rfl dX12_mend_51 ?_
              refine v_iload hC dX12_mend_54 rfl ?_
              obtain ⟨m_4067, t_4068⟩ := id k_9
              obtain ⟨g_4070, e_4069⟩ := hW_4037.at m_4067 t_4068
              obtain ⟨v_4071, h_4072⟩ : ∃ v9 : Int32, g_4070 (i_4034 : Int32).toNatClampNeg = v9 := ⟨_, rfl⟩
              refine v_iald hC m_4067 e_4069 (vp_in_iff.mpr (by first | omega | (simp only [Int32.lt_iff_toInt_lt, Int32.le_iff_toInt_le, Int32.reduceToInt, ← Int32.toInt_inj, true_and, and_true, or_true, true_or, false_or, or_false, false_and, and_false, not_true_eq_false, not_false_eq_true] <;> omega))) h_4072 dX12_mend_56 ?_
              refine v_iconst hC dX12_mend_57 (v := 4) (by decide) ?_
              refine v_icmp_ne hC dX12_mend_58 (tgt := 64) (by decide) (fun h_4073 => ?_) (fun h_4073 => ?_)
              · simp only [Int32.lt_iff_toInt_lt, Int32.le_iff_toInt_le, Int32.reduceToInt, ← Int32.toInt_inj] at h_4073
                refine v_aload_n hC dX12_mend_64 rfl ?_
                refine v_get hC fl_X12_37 m_1 hf_4040 rfl dX12_mend_65 ?_
                refine v_iload hC dX12_mend_68 rfl ?_
                obtain ⟨v_4074, h_4075⟩ : ∃ v9 : Int32, g_4070 (i_4034 : Int32).toNatClampNeg = v9 := ⟨_, rfl⟩
                refine v_iald hC m_4067 e_4069 (vp_in_iff.mpr (by first | omega | (simp only [Int32.lt_iff_toInt_lt, Int32.le_iff_toInt_le, Int32.reduceToInt, ← Int32.toInt_inj, true_and, and_true, or_true, true_or, false_or, or_false, false_and, and_false, not_true_eq_false, not_false_eq_true] <;> omega))) h_4075 dX12_mend_70 ?_
                refine v_istore hC dX12_mend_71 (by decide) (lv' := [(5, .int v_4074), (4, .int i_4034), (3, .int i_4035), (0, .ref a_0)]) rfl ?_
                refine v_aload_n hC dX12_mend_73 rfl ?_
                refine v_get hC fl_X12_37 m_1 hf_4040 rfl dX12_mend_74 ?_
                refine v_iload hC dX12_mend_77 rfl ?_
                refine v_aload_n hC dX12_mend_79 rfl ?_
                refine v_iload hC dX12_mend_80 rfl ?_
                refine v_vi hC (rest := [.int i_4034, .ref (q 15)]) m_1 hf_4040 rfl mi_X12_turnOver ms_X12_turnOver (p_X12_turnOver hW_4037 k_0 (by first | omega | (simp only [Int32.lt_iff_toInt_lt, Int32.le_iff_toInt_le, Int32.reduceToInt, ← Int32.toInt_inj, true_and, and_true, or_true, true_or, false_or, or_false, false_and, and_false, not_true_eq_false, not_false_eq_true] <;> omega)) hf_4039 o_w (by first | omega | (simp only [Int32.lt_iff_toInt_lt, Int32.le_iff_toInt_le, Int32.reduceToInt, ← Int32.toInt_inj, true_and, and_true, or_true, true_or, false_or, or_false, false_and, and_false, not_true_eq_false, not_false_eq_true] <;> omega))) mx_X12_turnOver ml_X12_344 (by decide) rfl (cells1 := 0) (slots1 := 0) (by decide) (by decide) (Nat.le_of_ble_eq_true rfl) (Nat.le_of_ble_eq_true rfl) rfl (Nat.le_of_ble_eq_true rfl) dX12_mend_82 (fun r_4076 L_4077 f_4078 h_4079 => ?_)
                obtain ⟨rfl, rfl, b_4080⟩ := h_4079
                refine v_iast hC m_4067 e_4069 (vp_in_iff.mpr (by first | omega | (simp only [Int32.lt_iff_toInt_lt, Int32.le_iff_toInt_le, Int32.reduceToInt, ← Int32.toInt_inj, true_and, and_true, or_true, true_or, false_or, or_false, false_and, and_false, not_true_eq_false, not_false_eq_true] <;> omega))) dX12_mend_85 (fun f_4083 hf_4084 hk_4085 => ?_)
                have hW_4087 := hW_4037.up hf_4084 hk_4085 t_4068 ⟨_, rfl⟩
                obtain ⟨g_4086, hf_4084⟩ : ∃ g9, f_4083 (q 15) = aI E 256 g9 := ⟨_, hf_4084⟩
                have hf_4088 := (hk_4085 (q 1) (ne_kd hf_4039 e_4069 rfl)).trans hf_4039
                have hf_4089 := (hk_4085 a_0 (ne_kd hf_4040 e_4069 rfl)).trans hf_4040
                have fr_4090 := FR.w hk_4085 e_4069 (k := 356) rfl
                refine v_aload_n hC dX12_mend_86 rfl ?_
                refine v_vi hC (rest := []) m_1 hf_4089 rfl mi_X12_stopping ms_X12_stopping (p_X12_stopping hW_4087 k_0 hf_4088 o_w) mx_X12_stopping ml_X12_405 (by decide) rfl (cells1 := 0) (slots1 := 0) (by decide) (by decide) (Nat.le_of_ble_eq_true rfl) (Nat.le_of_ble_eq_true rfl) rfl (Nat.le_of_ble_eq_true rfl) dX12_mend_87 (fun r_4091 L_4092 f_4093 h_4094 => ?_)
                obtain ⟨rfl, hW_4096, hF_4097, b_4095⟩ := h_4094
                have hf_4098 := hF_4097.at hf_4088 rfl
                have hf_4099 := hF_4097.at hf_4089 rfl
                have hf_4100 := hF_4097.at hf_4084 rfl
                refine v_iconst hC dX12_mend_90 (v := (-1)) (by decide) ?_
                refine v_icmp_ne hC dX12_mend_91 (tgt := 96) (by decide) (fun h_4101 => ?_) (fun h_4101 => ?_)
                · simp only [Int32.lt_iff_toInt_lt, Int32.le_iff_toInt_le, Int32.reduceToInt, ← Int32.toInt_inj] at h_4101
                  refine v_iconst hC dX12_mend_96 (v := 0) (by decide) ?_
                  refine v_istore hC dX12_mend_97 (by decide) (lv' := [(6, .int 0), (5, .int v_4074), (4, .int i_4034), (3, .int i_4035), (0, .ref a_0)]) rfl ?_
                  have lp_4526 : ∀ (n_4527 : Nat) (f_4519 : Nat → va_E) (hW_4520 : WT T L f_4519) (hF_4521 : FR [108, 356] f_4093 f_4519) (i_4517 : Int32) (b_4524 : (0 ≤ i_4517.toInt ∧ i_4517.toInt ≤ 255)) (i_4518 : Int32) (b_4525 : (0 ≤ i_4518.toInt ∧ i_4518.toInt ≤ 1)) (hm_4529 : 255 - i_4517.toInt < (n_4527 : Int)), V z E 8 0 0 L f_4519 99 [(6, .int i_4517), (5, .int v_4074), (4, .int i_4034), (3, .int i_4518), (0, .ref a_0)] [] := by
                    intro n_4527
                    induction n_4527 with
                    | zero =>
                      intro f_4519 hW_4520 hF_4521 i_4517 b_4524 i_4518 b_4525 hm_4529
                      have hf_4522 := hF_4521.at hf_4098 rfl
                      have hf_4523 := hF_4521.at hf_4099 rfl
                      exfalso; omega
                    | succ n_4527 ih_4528 =>
                      intro f_4519 hW_4520 hF_4521 i_4517 b_4524 i_4518 b_4525 hm_4529
                      have hf_4522 := hF_4521.at hf_4098 rfl
                      have hf_4523 := hF_4521.at hf_4099 rfl
                      refine v_iload hC dX12_mend_99 rfl ?_
                      refine v_iload hC dX12_mend_101 rfl ?_
                      refine v_icmp_ge hC dX12_mend_103 (tgt := 184) (by decide) (fun h_4530 => ?_) (fun h_4530 => ?_)
                      · simp only [Int32.lt_iff_toInt_lt, Int32.le_iff_toInt_le, Int32.reduceToInt, ← Int32.toInt_inj] at h_4530
                        refine v_aload_n hC dX12_mend_184 rfl ?_
                        refine v_get hC fl_X12_37 m_1 hf_4523 rfl dX12_mend_185 ?_
                        refine v_iload hC dX12_mend_188 rfl ?_
                        refine v_iload hC dX12_mend_190 rfl ?_
                        obtain ⟨g_4532, e_4531⟩ := hW_4520.at m_4067 t_4068
                        refine v_iast hC m_4067 e_4531 (vp_in_iff.mpr (by first | omega | (simp only [Int32.lt_iff_toInt_lt, Int32.le_iff_toInt_le, Int32.reduceToInt, ← Int32.toInt_inj, true_and, and_true, or_true, true_or, false_or, or_false, false_and, and_false, not_true_eq_false, not_false_eq_true] <;> omega))) dX12_mend_192 (fun f_4533 hf_4534 hk_4535 => ?_)
                        have hW_4537 := hW_4520.up hf_4534 hk_4535 t_4068 ⟨_, rfl⟩
                        obtain ⟨g_4536, hf_4534⟩ : ∃ g9, f_4533 (q 15) = aI E 256 g9 := ⟨_, hf_4534⟩
                        have hf_4538 := (hk_4535 (q 1) (ne_kd hf_4522 e_4531 rfl)).trans hf_4522
                        have hf_4539 := (hk_4535 a_0 (ne_kd hf_4523 e_4531 rfl)).trans hf_4523
                        have fr_4540 := FR.w hk_4535 e_4531 (k := 356) rfl
                        obtain ⟨v_4541, h_4542⟩ : ∃ v9 : Int32, i_4034 + Int32.ofInt 1 = v9 := ⟨_, rfl⟩
                        have h_4543 := add_v (b := 1) h_4542 (by first | omega | (simp only [Int32.lt_iff_toInt_lt, Int32.le_iff_toInt_le, Int32.reduceToInt, ← Int32.toInt_inj, true_and, and_true, or_true, true_or, false_or, or_false, false_and, and_false, not_true_eq_false, not_false_eq_true] <;> omega)) (by first | omega | (simp only [Int32.lt_iff_toInt_lt, Int32.le_iff_toInt_le, Int32.reduceToInt, ← Int32.toInt_inj, true_and, and_true, or_true, true_or, false_or, or_false, false_and, and_false, not_true_eq_false, not_false_eq_true] <;> omega))
                        simp only [Int32.reduceToInt] at h_4543
                        refine v_iinc hC dX12_mend_193 (k := 2) rfl (v := v_4541) h_4542 (by decide) (lv' := [(4, .int v_4541), (6, .int i_4517), (5, .int v_4074), (3, .int i_4518), (0, .ref a_0)]) rfl ?_
                        refine v_goto hC dX12_mend_196 (tgt := 32) (by decide) ?_
                        refine v_pick [0, 3, 4] rfl ?_
                        exact ih_4045 f_4533 hW_4537 (((((hF_4038.tr fr_4090).tr hF_4097).tr hF_4521).tr fr_4540).mono rfl) v_4541 (by first | omega | (simp only [Int32.lt_iff_toInt_lt, Int32.le_iff_toInt_le, Int32.reduceToInt, ← Int32.toInt_inj, true_and, and_true, or_true, true_or, false_or, or_false, false_and, and_false, not_true_eq_false, not_false_eq_true] <;> omega)) i_4518 (by first | omega | (simp only [Int32.lt_iff_toInt_lt, Int32.le_iff_toInt_le, Int32.reduceToInt, ← Int32.toInt_inj, true_and, and_true, or_true, true_or, false_or, or_false, false_and, and_false, not_true_eq_false, not_false_eq_true] <;> omega)) (by first | omega | (simp only [Int32.lt_iff_toInt_lt, Int32.le_iff_toInt_le, Int32.reduceToInt, ← Int32.toInt_inj, true_and, and_true, or_true, true_or, false_or, or_false, false_and, and_false, not_true_eq_false, not_false_eq_true] <;> omega))
                      · simp only [Int32.lt_iff_toInt_lt, Int32.le_iff_toInt_le, Int32.reduceToInt, ← Int32.toInt_inj] at h_4530
                        refine v_iload_n hC dX12_mend_106 rfl ?_
                        refine v_if_ne hC dX12_mend_107 (tgt := 184) (by decide) (fun h_4544 => ?_) (fun h_4544 => ?_)
                        · simp only [Int32.lt_iff_toInt_lt, Int32.le_iff_toInt_le, Int32.reduceToInt, ← Int32.toInt_inj] at h_4544
                          refine v_aload_n hC dX12_mend_184 rfl ?_
                          refine v_get hC fl_X12_37 m_1 hf_4523 rfl dX12_mend_185 ?_
                          refine v_iload hC dX12_mend_188 rfl ?_
                          refine v_iload hC dX12_mend_190 rfl ?_
                          obtain ⟨g_4546, e_4545⟩ := hW_4520.at m_4067 t_4068
                          refine v_iast hC m_4067 e_4545 (vp_in_iff.mpr (by first | omega | (simp only [Int32.lt_iff_toInt_lt, Int32.le_iff_toInt_le, Int32.reduceToInt, ← Int32.toInt_inj, true_and, and_true, or_true, true_or, false_or, or_false, false_and, and_false, not_true_eq_false, not_false_eq_true] <;> omega))) dX12_mend_192 (fun f_4547 hf_4548 hk_4549 => ?_)
                          have hW_4551 := hW_4520.up hf_4548 hk_4549 t_4068 ⟨_, rfl⟩
                          obtain ⟨g_4550, hf_4548⟩ : ∃ g9, f_4547 (q 15) = aI E 256 g9 := ⟨_, hf_4548⟩
                          have hf_4552 := (hk_4549 (q 1) (ne_kd hf_4522 e_4545 rfl)).trans hf_4522
                          have hf_4553 := (hk_4549 a_0 (ne_kd hf_4523 e_4545 rfl)).trans hf_4523
                          have fr_4554 := FR.w hk_4549 e_4545 (k := 356) rfl
                          obtain ⟨v_4555, h_4556⟩ : ∃ v9 : Int32, i_4034 + Int32.ofInt 1 = v9 := ⟨_, rfl⟩
                          have h_4557 := add_v (b := 1) h_4556 (by first | omega | (simp only [Int32.lt_iff_toInt_lt, Int32.le_iff_toInt_le, Int32.reduceToInt, ← Int32.toInt_inj, true_and, and_true, or_true, true_or, false_or, or_false, false_and, and_false, not_true_eq_false, not_false_eq_true] <;> omega)) (by first | omega | (simp only [Int32.lt_iff_toInt_lt, Int32.le_iff_toInt_le, Int32.reduceToInt, ← Int32.toInt_inj, true_and, and_true, or_true, true_or, false_or, or_false, false_and, and_false, not_true_eq_false, not_false_eq_true] <;> omega))
                          simp only [Int32.reduceToInt] at h_4557
                          refine v_iinc hC dX12_mend_193 (k := 2) rfl (v := v_4555) h_4556 (by decide) (lv' := [(4, .int v_4555), (6, .int i_4517), (5, .int v_4074), (3, .int i_4518), (0, .ref a_0)]) rfl ?_
                          refine v_goto hC dX12_mend_196 (tgt := 32) (by decide) ?_
                          refine v_pick [0, 3, 4] rfl ?_
                          exact ih_4045 f_4547 hW_4551 (((((hF_4038.tr fr_4090).tr hF_4097).tr hF_4521).tr fr_4554).mono rfl) v_4555 (by first | omega | (simp only [Int32.lt_iff_toInt_lt, Int32.le_iff_toInt_le, Int32.reduceToInt, ← Int32.toInt_inj, true_and, and_true, or_true, true_or, false_or, or_false, false_and, and_false, not_true_eq_false, not_false_eq_true] <;> omega)) i_4518 (by first | omega | (simp only [Int32.lt_iff_toInt_lt, Int32.le_iff_toInt_le, Int32.reduceToInt, ← Int32.toInt_inj, true_and, and_true, or_true, true_or, false_or, or_false, false_and, and_false, not_true_eq_false, not_false_eq_true] <;> omega)) (by first | omega | (simp only [Int32.lt_iff_toInt_lt, Int32.le_iff_toInt_le, Int32.reduceToInt, ← Int32.toInt_inj, true_and, and_true, or_true, true_or, false_or, or_false, false_and, and_false, not_true_eq_false, not_false_eq_true] <;> omega))
                        · simp only [Int32.lt_iff_toInt_lt, Int32.le_iff_toInt_le, Int32.reduceToInt, ← Int32.toInt_inj] at h_4544
                          refine v_aload_n hC dX12_mend_110 rfl ?_
                          refine v_iload hC dX12_mend_111 rfl ?_
                          refine v_vi hC (rest := []) m_1 hf_4523 rfl mi_X12_isFree ms_X12_isFree (p_X12_isFree hW_4520 k_0 (by first | omega | (simp only [Int32.lt_iff_toInt_lt, Int32.le_iff_toInt_le, Int32.reduceToInt, ← Int32.toInt_inj, true_and, and_true, or_true, true_or, false_or, or_false, false_and, and_false, not_true_eq_false, not_false_eq_true] <;> omega)) hf_4522 o_w (by first | omega | (simp only [Int32.lt_iff_toInt_lt, Int32.le_iff_toInt_le, Int32.reduceToInt, ← Int32.toInt_inj, true_and, and_true, or_true, true_or, false_or, or_false, false_and, and_false, not_true_eq_false, not_false_eq_true] <;> omega))) mx_X12_isFree ml_X12_206 (by decide) rfl (cells1 := 0) (slots1 := 0) (by decide) (by decide) (Nat.le_of_ble_eq_true rfl) (Nat.le_of_ble_eq_true rfl) rfl (Nat.le_of_ble_eq_true rfl) dX12_mend_113 (fun r_4558 L_4559 f_4560 h_4561 => ?_)
                          obtain ⟨rfl, rfl, b_4562⟩ := h_4561
                          refine v_if_eq hC dX12_mend_116 (tgt := 178) (by decide) (fun h_4565 => ?_) (fun h_4565 => ?_)
                          · simp only [Int32.lt_iff_toInt_lt, Int32.le_iff_toInt_le, Int32.reduceToInt, ← Int32.toInt_inj] at h_4565
                            obtain ⟨v_4566, h_4567⟩ : ∃ v9 : Int32, i_4517 + Int32.ofInt 1 = v9 := ⟨_, rfl⟩
                            have h_4568 := add_v (b := 1) h_4567 (by first | omega | (simp only [Int32.lt_iff_toInt_lt, Int32.le_iff_toInt_le, Int32.reduceToInt, ← Int32.toInt_inj, true_and, and_true, or_true, true_or, false_or, or_false, false_and, and_false, not_true_eq_false, not_false_eq_true] <;> omega)) (by first | omega | (simp only [Int32.lt_iff_toInt_lt, Int32.le_iff_toInt_le, Int32.reduceToInt, ← Int32.toInt_inj, true_and, and_true, or_true, true_or, false_or, or_false, false_and, and_false, not_true_eq_false, not_false_eq_true] <;> omega))
                            simp only [Int32.reduceToInt] at h_4568
                            refine v_iinc hC dX12_mend_178 (k := 0) rfl (v := v_4566) h_4567 (by decide) (lv' := [(6, .int v_4566), (5, .int v_4074), (4, .int i_4034), (3, .int i_4518), (0, .ref a_0)]) rfl ?_
                            refine v_goto hC dX12_mend_181 (tgt := 99) (by decide) ?_
                            refine v_pick [0, 1, 2, 3, 4] rfl ?_
                            exact ih_4528 f_4519 hW_4520 (hF_4521.mono rfl) v_4566 (by first | omega | (simp only [Int32.lt_iff_toInt_lt, Int32.le_iff_toInt_le, Int32.reduceToInt, ← Int32.toInt_inj, true_and, and_true, or_true, true_or, false_or, or_false, false_and, and_false, not_true_eq_false, not_false_eq_true] <;> omega)) i_4518 (by first | omega | (simp only [Int32.lt_iff_toInt_lt, Int32.le_iff_toInt_le, Int32.reduceToInt, ← Int32.toInt_inj, true_and, and_true, or_true, true_or, false_or, or_false, false_and, and_false, not_true_eq_false, not_false_eq_true] <;> omega)) (by first | omega | (simp only [Int32.lt_iff_toInt_lt, Int32.le_iff_toInt_le, Int32.reduceToInt, ← Int32.toInt_inj, true_and, and_true, or_true, true_or, false_or, or_false, false_and, and_false, not_true_eq_false, not_false_eq_true] <;> omega))
                          · simp only [Int32.lt_iff_toInt_lt, Int32.le_iff_toInt_le, Int32.reduceToInt, ← Int32.toInt_inj] at h_4565
                            refine v_aload_n hC dX12_mend_119 rfl ?_
                            refine v_get hC fl_X12_37 m_1 hf_4523 rfl dX12_mend_120 ?_
                            refine v_iload hC dX12_mend_123 rfl ?_
                            obtain ⟨g_4570, e_4569⟩ := hW_4520.at m_4067 t_4068
                            obtain ⟨v_4571, h_4572⟩ : ∃ v9 : Int32, g_4570 (i_4517 : Int32).toNatClampNeg = v9 := ⟨_, rfl⟩
                            refine v_iald hC m_4067 e_4569 (vp_in_iff.mpr (by first | omega | (simp only [Int32.lt_iff_toInt_lt, Int32.le_iff_toInt_le, Int32.reduceToInt, ← Int32.toInt_inj, true_and, and_true, or_true, true_or, false_or, or_false, false_and, and_false, not_true_eq_false, not_false_eq_true] <;> omega))) h_4572 dX12_mend_125 ?_
                            refine v_iconst hC dX12_mend_126 (v := 4) (by decide) ?_
                            refine v_icmp_ne hC dX12_mend_127 (tgt := 133) (by decide) (fun h_4573 => ?_) (fun h_4573 => ?_)
                            · simp only [Int32.lt_iff_toInt_lt, Int32.le_iff_toInt_le, Int32.reduceToInt, ← Int32.toInt_inj] at h_4573
                              refine v_aload_n hC dX12_mend_133 rfl ?_
                              refine v_get hC fl_X12_37 m_1 hf_4523 rfl dX12_mend_134 ?_
                              refine v_iload hC dX12_mend_137 rfl ?_
                              obtain ⟨v_4574, h_4575⟩ : ∃ v9 : Int32, g_4570 (i_4517 : Int32).toNatClampNeg = v9 := ⟨_, rfl⟩
                              refine v_iald hC m_4067 e_4569 (vp_in_iff.mpr (by first | omega | (simp only [Int32.lt_iff_toInt_lt, Int32.le_iff_toInt_le, Int32.reduceToInt, ← Int32.toInt_inj, true_and, and_true, or_true, true_or, false_or, or_false, false_and, and_false, not_true_eq_false, not_false_eq_true] <;> omega))) h_4575 dX12_mend_139 ?_
                              refine v_istore hC dX12_mend_140 (by decide) (lv' := [(7, .int v_4574), (6, .int i_4517), (5, .int v_4074), (4, .int i_4034), (3, .int i_4518), (0, .ref a_0)]) rfl ?_
                              refine v_aload_n hC dX12_mend_142 rfl ?_
                              refine v_get hC fl_X12_37 m_1 hf_4523 rfl dX12_mend_143 ?_
                              refine v_iload hC dX12_mend_146 rfl ?_
                              refine v_aload_n hC dX12_mend_148 rfl ?_
                              refine v_iload hC dX12_mend_149 rfl ?_
                              refine v_vi hC (rest := [.int i_4517, .ref (q 15)]) m_1 hf_4523 rfl mi_X12_turnOver ms_X12_turnOver (p_X12_turnOver hW_4520 k_0 (by first | omega | (simp only [Int32.lt_iff_toInt_lt, Int32.le_iff_toInt_le, Int32.reduceToInt, ← Int32.toInt_inj, true_and, and_true, or_true, true_or, false_or, or_false, false_and, and_false, not_true_eq_false, not_false_eq_true] <;> omega)) hf_4522 o_w (by first | omega | (simp only [Int32.lt_iff_toInt_lt, Int32.le_iff_toInt_le, Int32.reduceToInt, ← Int32.toInt_inj, true_and, and_true, or_true, true_or, false_or, or_false, false_and, and_false, not_true_eq_false, not_false_eq_true] <;> omega))) mx_X12_turnOver ml_X12_344 (by decide) rfl (cells1 := 0) (slots1 := 0) (by decide) (by decide) (Nat.le_of_ble_eq_true rfl) (Nat.le_of_ble_eq_true rfl) rfl (Nat.le_of_ble_eq_true rfl) dX12_mend_151 (fun r_4576 L_4577 f_4578 h_4579 => ?_)
                              obtain ⟨rfl, rfl, b_4580⟩ := h_4579
                              refine v_iast hC m_4067 e_4569 (vp_in_iff.mpr (by first | omega | (simp only [Int32.lt_iff_toInt_lt, Int32.le_iff_toInt_le, Int32.reduceToInt, ← Int32.toInt_inj, true_and, and_true, or_true, true_or, false_or, or_false, false_and, and_false, not_true_eq_false, not_false_eq_true] <;> omega))) dX12_mend_154 (fun f_4583 hf_4584 hk_4585 => ?_)
                              have hW_4587 := hW_4520.up hf_4584 hk_4585 t_4068 ⟨_, rfl⟩
                              obtain ⟨g_4586, hf_4584⟩ : ∃ g9, f_4583 (q 15) = aI E 256 g9 := ⟨_, hf_4584⟩
                              have hf_4588 := (hk_4585 (q 1) (ne_kd hf_4522 e_4569 rfl)).trans hf_4522
                              have hf_4589 := (hk_4585 a_0 (ne_kd hf_4523 e_4569 rfl)).trans hf_4523
                              have fr_4590 := FR.w hk_4585 e_4569 (k := 356) rfl
                              refine v_aload_n hC dX12_mend_155 rfl ?_
                              refine v_vi hC (rest := []) m_1 hf_4589 rfl mi_X12_stopping ms_X12_stopping (p_X12_stopping hW_4587 k_0 hf_4588 o_w) mx_X12_stopping ml_X12_405 (by decide) rfl (cells1 := 0) (slots1 := 0) (by decide) (by decide) (Nat.le_of_ble_eq_true rfl) (Nat.le_of_ble_eq_true rfl) rfl (Nat.le_of_ble_eq_true rfl) dX12_mend_156 (fun r_4591 L_4592 f_4593 h_4594 => ?_)
                              obtain ⟨rfl, hW_4596, hF_4597, b_4595⟩ := h_4594
                              have hf_4598 := hF_4597.at hf_4588 rfl
                              have hf_4599 := hF_4597.at hf_4589 rfl
                              have hf_4600 := hF_4597.at hf_4584 rfl
                              refine v_iconst hC dX12_mend_159 (v := (-1)) (by decide) ?_
                              refine v_icmp_ne hC dX12_mend_160 (tgt := 167) (by decide) (fun h_4601 => ?_) (fun h_4601 => ?_)
                              · simp only [Int32.lt_iff_toInt_lt, Int32.le_iff_toInt_le, Int32.reduceToInt, ← Int32.toInt_inj] at h_4601
                                refine v_iconst hC dX12_mend_167 (v := 0) (by decide) ?_
                                refine v_istore_n hC dX12_mend_168 (by decide) (lv' := [(3, .int 0), (7, .int v_4574), (6, .int i_4517), (5, .int v_4074), (4, .int i_4034), (0, .ref a_0)]) rfl ?_
                                refine v_aload_n hC dX12_mend_169 rfl ?_
                                refine v_get hC fl_X12_37 m_1 hf_4599 rfl dX12_mend_170 ?_
                                refine v_iload hC dX12_mend_173 rfl ?_
                                refine v_iload hC dX12_mend_175 rfl ?_
                                refine v_iast hC m_4067 hf_4600 (vp_in_iff.mpr (by first | omega | (simp only [Int32.lt_iff_toInt_lt, Int32.le_iff_toInt_le, Int32.reduceToInt, ← Int32.toInt_inj, true_and, and_true, or_true, true_or, false_or, or_false, false_and, and_false, not_true_eq_false, not_false_eq_true] <;> omega))) dX12_mend_177 (fun f_4602 hf_4603 hk_4604 => ?_)
                                have hW_4606 := hW_4596.up hf_4603 hk_4604 t_4068 ⟨_, rfl⟩
                                obtain ⟨g_4605, hf_4603⟩ : ∃ g9, f_4602 (q 15) = aI E 256 g9 := ⟨_, hf_4603⟩
                                have hf_4607 := (hk_4604 (q 1) (ne_kd hf_4598 hf_4600 rfl)).trans hf_4598
                                have hf_4608 := (hk_4604 a_0 (ne_kd hf_4599 hf_4600 rfl)).trans hf_4599
                                have fr_4609 := FR.w hk_4604 hf_4600 (k := 356) rfl
                                obtain ⟨v_4610, h_4611⟩ : ∃ v9 : Int32, i_4517 + Int32.ofInt 1 = v9 := ⟨_, rfl⟩
                                have h_4612 := add_v (b := 1) h_4611 (by first | omega | (simp only [Int32.lt_iff_toInt_lt, Int32.le_iff_toInt_le, Int32.reduceToInt, ← Int32.toInt_inj, true_and, and_true, or_true, true_or, false_or, or_false, false_and, and_false, not_true_eq_false, not_false_eq_true] <;> omega)) (by first | omega | (simp only [Int32.lt_iff_toInt_lt, Int32.le_iff_toInt_le, Int32.reduceToInt, ← Int32.toInt_inj, true_and, and_true, or_true, true_or, false_or, or_false, false_and, and_false, not_true_eq_false, not_false_eq_true] <;> omega))
                                simp only [Int32.reduceToInt] at h_4612
                                refine v_iinc hC dX12_mend_178 (k := 2) rfl (v := v_4610) h_4611 (by decide) (lv' := [(6, .int v_4610), (3, .int 0), (7, .int v_4574), (5, .int v_4074), (4, .int i_4034), (0, .ref a_0)]) rfl ?_
                                refine v_goto hC dX12_mend_181 (tgt := 99) (by decide) ?_
                                refine v_pick [0, 3, 4, 1, 5] rfl ?_
                                exact ih_4528 f_4602 hW_4606 ((((hF_4521.tr fr_4590).tr hF_4597).tr fr_4609).mono rfl) v_4610 (by first | omega | (simp only [Int32.lt_iff_toInt_lt, Int32.le_iff_toInt_le, Int32.reduceToInt, ← Int32.toInt_inj, true_and, and_true, or_true, true_or, false_or, or_false, false_and, and_false, not_true_eq_false, not_false_eq_true] <;> omega)) 0 (by decide) (by first | omega | (simp only [Int32.lt_iff_toInt_lt, Int32.le_iff_toInt_le, Int32.reduceToInt, ← Int32.toInt_inj, true_and, and_true, or_true, true_or, false_or, or_false, false_and, and_false, not_true_eq_false, not_false_eq_true] <;> omega))
                              · simp only [Int32.lt_iff_toInt_lt, Int32.le_iff_toInt_le, Int32.reduceToInt, ← Int32.toInt_inj] at h_4601
                                refine v_iconst hC dX12_mend_163 (v := 1) (by decide) ?_
                                refine v_goto hC dX12_mend_164 (tgt := 168) (by decide) ?_
                                refine v_istore_n hC dX12_mend_168 (by decide) (lv' := [(3, .int 1), (7, .int v_4574), (6, .int i_4517), (5, .int v_4074), (4, .int i_4034), (0, .ref a_0)]) rfl ?_
                                refine v_aload_n hC dX12_mend_169 rfl ?_
                                refine v_get hC fl_X12_37 m_1 hf_4599 rfl dX12_mend_170 ?_
                                refine v_iload hC dX12_mend_173 rfl ?_
                                refine v_iload hC dX12_mend_175 rfl ?_
                                refine v_iast hC m_4067 hf_4600 (vp_in_iff.mpr (by first | omega | (simp only [Int32.lt_iff_toInt_lt, Int32.le_iff_toInt_le, Int32.reduceToInt, ← Int32.toInt_inj, true_and, and_true, or_true, true_or, false_or, or_false, false_and, and_false, not_true_eq_false, not_false_eq_true] <;> omega))) dX12_mend_177 (fun f_4613 hf_4614 hk_4615 => ?_)
                                have hW_4617 := hW_4596.up hf_4614 hk_4615 t_4068 ⟨_, rfl⟩
                                obtain ⟨g_4616, hf_4614⟩ : ∃ g9, f_4613 (q 15) = aI E 256 g9 := ⟨_, hf_4614⟩
                                have hf_4618 := (hk_4615 (q 1) (ne_kd hf_4598 hf_4600 rfl)).trans hf_4598
                                have hf_4619 := (hk_4615 a_0 (ne_kd hf_4599 hf_4600 rfl)).trans hf_4599
                                have fr_4620 := FR.w hk_4615 hf_4600 (k := 356) rfl
                                obtain ⟨v_4621, h_4622⟩ : ∃ v9 : Int32, i_4517 + Int32.ofInt 1 = v9 := ⟨_, rfl⟩
                                have h_4623 := add_v (b := 1) h_4622 (by first | omega | (simp only [Int32.lt_iff_toInt_lt, Int32.le_iff_toInt_le, Int32.reduceToInt, ← Int32.toInt_inj, true_and, and_true, or_true, true_or, false_or, or_false, false_and, and_false, not_true_eq_false, not_false_eq_true] <;> omega)) (by first | omega | (simp only [Int32.lt_iff_toInt_lt, Int32.le_iff_toInt_le, Int32.reduceToInt, ← Int32.toInt_inj, true_and, and_true, or_true, true_or, false_or, or_false, false_and, and_false, not_true_eq_false, not_false_eq_true] <;> omega))
                                simp only [Int32.reduceToInt] at h_4623
                                refine v_iinc hC dX12_mend_178 (k := 2) rfl (v := v_4621) h_4622 (by decide) (lv' := [(6, .int v_4621), (3, .int 1), (7, .int v_4574), (5, .int v_4074), (4, .int i_4034), (0, .ref a_0)]) rfl ?_
                                refine v_goto hC dX12_mend_181 (tgt := 99) (by decide) ?_
                                refine v_pick [0, 3, 4, 1, 5] rfl ?_
                                exact ih_4528 f_4613 hW_4617 ((((hF_4521.tr fr_4590).tr hF_4597).tr fr_4620).mono rfl) v_4621 (by first | omega | (simp only [Int32.lt_iff_toInt_lt, Int32.le_iff_toInt_le, Int32.reduceToInt, ← Int32.toInt_inj, true_and, and_true, or_true, true_or, false_or, or_false, false_and, and_false, not_true_eq_false, not_false_eq_true] <;> omega)) 1 (by decide) (by first | omega | (simp only [Int32.lt_iff_toInt_lt, Int32.le_iff_toInt_le, Int32.reduceToInt, ← Int32.toInt_inj, true_and, and_true, or_true, true_or, false_or, or_false, false_and, and_false, not_true_eq_false, not_false_eq_true] <;> omega))
                            · simp only [Int32.lt_iff_toInt_lt, Int32.le_iff_toInt_le, Int32.reduceToInt, ← Int32.toInt_inj] at h_4573
                              refine v_goto hC dX12_mend_130 (tgt := 178) (by decide) ?_
                              obtain ⟨v_4624, h_4625⟩ : ∃ v9 : Int32, i_4517 + Int32.ofInt 1 = v9 := ⟨_, rfl⟩
                              have h_4626 := add_v (b := 1) h_4625 (by first | omega | (simp only [Int32.lt_iff_toInt_lt, Int32.le_iff_toInt_le, Int32.reduceToInt, ← Int32.toInt_inj, true_and, and_true, or_true, true_or, false_or, or_false, false_and, and_false, not_true_eq_false, not_false_eq_true] <;> omega)) (by first | omega | (simp only [Int32.lt_iff_toInt_lt, Int32.le_iff_toInt_le, Int32.reduceToInt, ← Int32.toInt_inj, true_and, and_true, or_true, true_or, false_or, or_false, false_and, and_false, not_true_eq_false, not_false_eq_true] <;> omega))
                              simp only [Int32.reduceToInt] at h_4626
                              refine v_iinc hC dX12_mend_178 (k := 0) rfl (v := v_4624) h_4625 (by decide) (lv' := [(6, .int v_4624), (5, .int v_4074), (4, .int i_4034), (3, .int i_4518), (0, .ref a_0)]) rfl ?_
                              refine v_goto hC dX12_mend_181 (tgt := 99) (by decide) ?_
                              refine v_pick [0, 1, 2, 3, 4] rfl ?_
                              exact ih_4528 f_4519 hW_4520 (hF_4521.mono rfl) v_4624 (by first | omega | (simp only [Int32.lt_iff_toInt_lt, Int32.le_iff_toInt_le, Int32.reduceToInt, ← Int32.toInt_inj, true_and, and_true, or_true, true_or, false_or, or_false, false_and, and_false, not_true_eq_false, not_false_eq_true] <;> omega)) i_4518 (by first | omega | (simp only [Int32.lt_iff_toInt_lt, Int32.le_iff_toInt_le, Int32.reduceToInt, ← Int32.toInt_inj, true_and, and_true, or_true, true_or, false_or, or_false, false_and, and_false, not_true_eq_false, not_false_eq_true] <;> omega)) (by first | omega | (simp only [Int32.lt_iff_toInt_lt, Int32.le_iff_toInt_le, Int32.reduceToInt, ← Int32.toInt_inj, true_and, and_true, or_true, true_or, false_or, or_false, false_and, and_false, not_true_eq_false, not_false_eq_true] <;> omega))
                  refine v_pick [0, 1, 2, 3, 4] rfl ?_
                  exact lp_4526 257 f_4093 hW_4096 FR.rf 0 (by decide) i_4035 (by first | omega | (simp only [Int32.lt_iff_toInt_lt, Int32.le_iff_toInt_le, Int32.reduceToInt, ← Int32.toInt_inj, true_and, and_true, or_true, true_or, false_or, or_false, false_and, and_false, not_true_eq_false, not_false_eq_true] <;> omega)) (by decide)
                · simp only [Int32.lt_iff_toInt_lt, Int32.le_iff_toInt_le, Int32.reduceToInt, ← Int32.toInt_inj] at h_4101
                  refine v_iconst hC dX12_mend_94 (v := 1) (by decide) ?_
                  exact hR _ _ _ _ _ _ _ dX12_mend_95 rfl (Nat.le_of_ble_eq_true rfl) (Nat.le_of_ble_eq_true rfl) ⟨rfl, hW_4096, (((((hF_58.tr hF_67).tr hF_4038).tr fr_4090).tr hF_4097).mono rfl), (by decide), (.inl (by decide))⟩
              · simp only [Int32.lt_iff_toInt_lt, Int32.le_iff_toInt_le, Int32.reduceToInt, ← Int32.toInt_inj] at h_4073
                refine v_goto hC dX12_mend_61 (tgt := 193) (by decide) ?_
                obtain ⟨v_4627, h_4628⟩ : ∃ v9 : Int32, i_4034 + Int32.ofInt 1 = v9 := ⟨_, rfl⟩
                have h_4629 := add_v (b := 1) h_4628 (by first | omega | (simp only [Int32.lt_iff_toInt_lt, Int32.le_iff_toInt_le, Int32.reduceToInt, ← Int32.toInt_inj, true_and, and_true, or_true, true_or, false_or, or_false, false_and, and_false, not_true_eq_false, not_false_eq_true] <;> omega)) (by first | omega | (simp only [Int32.lt_iff_toInt_lt, Int32.le_iff_toInt_le, Int32.reduceToInt, ← Int32.toInt_inj, true_and, and_true, or_true, true_or, false_or, or_false, false_and, and_false, not_true_eq_false, not_false_eq_true] <;> omega))
                simp only [Int32.reduceToInt] at h_4629
                refine v_iinc hC dX12_mend_193 (k := 0) rfl (v := v_4627) h_4628 (by decide) (lv' := [(4, .int v_4627), (3, .int i_4035), (0, .ref a_0)]) rfl ?_
                refine v_goto hC dX12_mend_196 (tgt := 32) (by decide) ?_
                refine v_pick [0, 1, 2] rfl ?_
                exact ih_4045 f_4036 hW_4037 (hF_4038.mono rfl) v_4627 (by first | omega | (simp only [Int32.lt_iff_toInt_lt, Int32.le_iff_toInt_le, Int32.reduceToInt, ← Int32.toInt_inj, true_and, and_true, or_true, true_or, false_or, or_false, false_and, and_false, not_true_eq_false, not_false_eq_true] <;> omega)) i_4035 (by first | omega | (simp only [Int32.lt_iff_toInt_lt, Int32.le_iff_toInt_le, Int32.reduceToInt, ← Int32.toInt_inj, true_and, and_true, or_true, true_or, false_or, or_false, false_and, and_false, not_true_eq_false, not_false_eq_true] <;> omega)) (by first | omega | (simp only [Int32.lt_iff_toInt_lt, Int32.le_iff_toInt_le, Int32.reduceToInt, ← Int32.toInt_inj, true_and, and_true, or_true, true_or, false_or, or_false, false_and, and_false, not_true_eq_false, not_false_eq_true] <;> omega))
      refine v_pick [0, 1, 3] rfl ?_
      exact lp_4043 258 f_63 hW_66 FR.rf 0 (by decide) 0 (by decide) (by decide)
    · simp only [Int32.lt_iff_toInt_lt, Int32.le_iff_toInt_le, Int32.reduceToInt, ← Int32.toInt_inj] at h_70
      refine v_iconst hC dX12_mend_25 (v := 0) (by decide) ?_
      exact hR _ _ _ _ _ _ _ dX12_mend_26 rfl (Nat.le_of_ble_eq_true rfl) (Nat.le_of_ble_eq_true rfl) ⟨rfl, hW_66, ((hF_58.tr hF_67).mono rfl), (by decide), (.inr (by first | omega | (simp only [Int32.lt_iff_toInt_lt, Int32.le_iff_toInt_le, Int32.reduceToInt, ← Int32.toInt_inj, true_and, and_true, or_true, true_or, false_or, or_false, false_and, and_false, not_true_eq_false, not_false_eq_true] <;> omega)))⟩
  · simp only [Int32.lt_iff_toInt_lt, Int32.le_iff_toInt_le, Int32.reduceToInt, ← Int32.toInt_inj] at h_52
    refine v_iload_n hC dX12_mend_10 rfl ?_
    exact hR _ _ _ _ _ _ _ dX12_mend_11 rfl (Nat.le_of_ble_eq_true rfl) (Nat.le_of_ble_eq_true rfl) ⟨rfl, hW, FR.rf, (by first | omega | (simp only [Int32.lt_iff_toInt_lt, Int32.le_iff_toInt_le, Int32.reduceToInt, ← Int32.toInt_inj, true_and, and_true, or_true, true_or, false_or, or_false, false_and, and_false, not_true_eq_false, not_false_eq_true] <;> omega)), (by first | omega | (simp only [Int32.lt_iff_toInt_lt, Int32.le_iff_toInt_le, Int32.reduceToInt, ← Int32.toInt_inj, true_and, and_true, or_true, true_or, false_or, or_false, false_and, and_false, not_true_eq_false, not_false_eq_true] <;> omega))⟩
set_option maxRecDepth 100000 in
set_option maxHeartbeats 4000000 in
theorem p_X12_frees {l : Launch} {E : Ez} {L : List Nat} {f : Nat → va_E} {T : Nat → va_E → Prop} {a_0 : Nat} {q : Nat → Nat} {g_w : Nat → Int32} (hW : WT T L f) (k_0 : isM T L E a_0 q) (e_w : f (q 1) = aI E 2076 g_w) (o_w : WOK g_w) : CI l yX12_frees cX12_frees 3 .int 3 0 0 E [.ref a_0] L f (fun r L1 f1 => L = L1 ∧ f = f1) := by
  refine ci_of (by decide) (Nat.le_of_ble_eq_true rfl) (fun z hz hnm hC hR => ?_)
  have hC : Cx z E cX12_frees RX12 3 3 0 0 := hC
  subst hz
  show V z E 3 0 0 L f 0 [(0, .ref a_0)] []
  obtain ⟨m_1, t_2, k_3, k_4, k_5, k_6, k_7, k_8, k_9, k_10, k_11, k_12, k_13, k_14, k_15, k_16, k_17, k_18, k_19, k_20⟩ := id k_0
  obtain ⟨m_21, t_22⟩ := id k_3
  have b_23 := o_w.r0
  have b_24 := o_w.w0
  refine v_iconst hC dX12_frees_0 (v := 0) (by decide) ?_
  refine v_istore_n hC dX12_frees_1 (by decide) (lv' := [(1, .int 0), (0, .ref a_0)]) rfl ?_
  refine v_iconst hC dX12_frees_2 (v := 0) (by decide) ?_
  refine v_istore_n hC dX12_frees_3 (by decide) (lv' := [(2, .int 0), (1, .int 0), (0, .ref a_0)]) rfl ?_
  have lp_499 : ∀ (n_500 : Nat) (i_496 : Int32) (b_498 : (0 ≤ i_496.toInt ∧ i_496.toInt ≤ 256)) (i_497 : Int32) (hm_502 : 256 - i_496.toInt < (n_500 : Int)), V z E 3 0 0 L f 4 [(2, .int i_496), (1, .int i_497), (0, .ref a_0)] [] := by
    intro n_500
    induction n_500 with
    | zero =>
      intro i_496 b_498 i_497 hm_502
      exfalso; omega
    | succ n_500 ih_501 =>
      intro i_496 b_498 i_497 hm_502
      refine v_iload_n hC dX12_frees_4 rfl ?_
      refine v_aload_n hC dX12_frees_5 rfl ?_
      obtain ⟨v_504, v_505, v_507, v_509, v_511, v_513, v_515, v_516, v_517, v_518, v_520, e_503, b_506, b_508, b_510, b_512, b_514, b_519, b_521⟩ := hW.at m_1 t_2
      refine v_vi hC (rest := [.int i_496]) m_1 e_503 rfl mi_X12_area ms_X12_area (p_X12_area hW k_0 e_w o_w) mx_X12_area ml_X12_203 (by decide) rfl (cells1 := 0) (slots1 := 0) (by decide) (by decide) (Nat.le_of_ble_eq_true rfl) (Nat.le_of_ble_eq_true rfl) rfl (Nat.le_of_ble_eq_true rfl) dX12_frees_6 (fun r_522 L_523 f_524 h_525 => ?_)
      obtain ⟨rfl, rfl, rfl⟩ := h_525
      have ar_528 := area_v o_w
      refine v_icmp_ge hC dX12_frees_9 (tgt := 34) (by decide) (fun h_529 => ?_) (fun h_529 => ?_)
      · simp only [Int32.lt_iff_toInt_lt, Int32.le_iff_toInt_le, Int32.reduceToInt, ← Int32.toInt_inj] at h_529
        refine v_iload_n hC dX12_frees_34 rfl ?_
        exact hR _ _ _ _ _ _ _ dX12_frees_35 rfl (Nat.le_of_ble_eq_true rfl) (Nat.le_of_ble_eq_true rfl) ⟨rfl, rfl⟩
      · simp only [Int32.lt_iff_toInt_lt, Int32.le_iff_toInt_le, Int32.reduceToInt, ← Int32.toInt_inj] at h_529
        refine v_iload_n hC dX12_frees_12 rfl ?_
        refine v_aload_n hC dX12_frees_13 rfl ?_
        refine v_iload_n hC dX12_frees_14 rfl ?_
        refine v_vi hC (rest := [.int i_497]) m_1 e_503 rfl mi_X12_isFree ms_X12_isFree (p_X12_isFree hW k_0 (by first | omega | (simp only [Int32.lt_iff_toInt_lt, Int32.le_iff_toInt_le, Int32.reduceToInt, ← Int32.toInt_inj, true_and, and_true, or_true, true_or, false_or, or_false, false_and, and_false, not_true_eq_false, not_false_eq_true] <;> omega)) e_w o_w (by first | omega | (simp only [Int32.lt_iff_toInt_lt, Int32.le_iff_toInt_le, Int32.reduceToInt, ← Int32.toInt_inj, true_and, and_true, or_true, true_or, false_or, or_false, false_and, and_false, not_true_eq_false, not_false_eq_true] <;> omega))) mx_X12_isFree ml_X12_206 (by decide) rfl (cells1 := 0) (slots1 := 0) (by decide) (by decide) (Nat.le_of_ble_eq_true rfl) (Nat.le_of_ble_eq_true rfl) rfl (Nat.le_of_ble_eq_true rfl) dX12_frees_15 (fun r_530 L_531 f_532 h_533 => ?_)
        obtain ⟨rfl, rfl, b_534⟩ := h_533
        refine v_if_eq hC dX12_frees_18 (tgt := 25) (by decide) (fun h_537 => ?_) (fun h_537 => ?_)
        · simp only [Int32.lt_iff_toInt_lt, Int32.le_iff_toInt_le, Int32.reduceToInt, ← Int32.toInt_inj] at h_537
          refine v_iconst hC dX12_frees_25 (v := 0) (by decide) ?_
          obtain ⟨v_538, h_539⟩ : ∃ v9 : Int32, i_497 + 0 = v9 := ⟨_, rfl⟩
          refine v_iadd hC dX12_frees_26 h_539 ?_
          have rg_541 := Int32.toInt_lt i_497
          have rg_542 := Int32.le_toInt i_497
          have h_540 := add_v h_539 (by first | omega | (simp only [Int32.lt_iff_toInt_lt, Int32.le_iff_toInt_le, Int32.reduceToInt, ← Int32.toInt_inj, true_and, and_true, or_true, true_or, false_or, or_false, false_and, and_false, not_true_eq_false, not_false_eq_true] <;> omega)) (by first | omega | (simp only [Int32.lt_iff_toInt_lt, Int32.le_iff_toInt_le, Int32.reduceToInt, ← Int32.toInt_inj, true_and, and_true, or_true, true_or, false_or, or_false, false_and, and_false, not_true_eq_false, not_false_eq_true] <;> omega))
          try simp only [Int32.reduceToInt] at h_540
          refine v_istore_n hC dX12_frees_27 (by decide) (lv' := [(1, .int v_538), (2, .int i_496), (0, .ref a_0)]) rfl ?_
          obtain ⟨v_543, h_544⟩ : ∃ v9 : Int32, i_496 + Int32.ofInt 1 = v9 := ⟨_, rfl⟩
          have h_545 := add_v (b := 1) h_544 (by first | omega | (simp only [Int32.lt_iff_toInt_lt, Int32.le_iff_toInt_le, Int32.reduceToInt, ← Int32.toInt_inj, true_and, and_true, or_true, true_or, false_or, or_false, false_and, and_false, not_true_eq_false, not_false_eq_true] <;> omega)) (by first | omega | (simp only [Int32.lt_iff_toInt_lt, Int32.le_iff_toInt_le, Int32.reduceToInt, ← Int32.toInt_inj, true_and, and_true, or_true, true_or, false_or, or_false, false_and, and_false, not_true_eq_false, not_false_eq_true] <;> omega))
          simp only [Int32.reduceToInt] at h_545
          refine v_iinc hC dX12_frees_28 (k := 1) rfl (v := v_543) h_544 (by decide) (lv' := [(2, .int v_543), (1, .int v_538), (0, .ref a_0)]) rfl ?_
          refine v_goto hC dX12_frees_31 (tgt := 4) (by decide) ?_
          refine v_pick [0, 1, 2] rfl ?_
          exact ih_501 v_543 (by first | omega | (simp only [Int32.lt_iff_toInt_lt, Int32.le_iff_toInt_le, Int32.reduceToInt, ← Int32.toInt_inj, true_and, and_true, or_true, true_or, false_or, or_false, false_and, and_false, not_true_eq_false, not_false_eq_true] <;> omega)) v_538 (by first | omega | (simp only [Int32.lt_iff_toInt_lt, Int32.le_iff_toInt_le, Int32.reduceToInt, ← Int32.toInt_inj, true_and, and_true, or_true, true_or, false_or, or_false, false_and, and_false, not_true_eq_false, not_false_eq_true] <;> omega))
        · simp only [Int32.lt_iff_toInt_lt, Int32.le_iff_toInt_le, Int32.reduceToInt, ← Int32.toInt_inj] at h_537
          refine v_iconst hC dX12_frees_21 (v := 1) (by decide) ?_
          refine v_goto hC dX12_frees_22 (tgt := 26) (by decide) ?_
          obtain ⟨v_546, h_547⟩ : ∃ v9 : Int32, i_497 + 1 = v9 := ⟨_, rfl⟩
          refine v_iadd hC dX12_frees_26 h_547 ?_
          refine v_istore_n hC dX12_frees_27 (by decide) (lv' := [(1, .int v_546), (2, .int i_496), (0, .ref a_0)]) rfl ?_
          obtain ⟨v_549, h_550⟩ : ∃ v9 : Int32, i_496 + Int32.ofInt 1 = v9 := ⟨_, rfl⟩
          have h_551 := add_v (b := 1) h_550 (by first | omega | (simp only [Int32.lt_iff_toInt_lt, Int32.le_iff_toInt_le, Int32.reduceToInt, ← Int32.toInt_inj, true_and, and_true, or_true, true_or, false_or, or_false, false_and, and_false, not_true_eq_false, not_false_eq_true] <;> omega)) (by first | omega | (simp only [Int32.lt_iff_toInt_lt, Int32.le_iff_toInt_le, Int32.reduceToInt, ← Int32.toInt_inj, true_and, and_true, or_true, true_or, false_or, or_false, false_and, and_false, not_true_eq_false, not_false_eq_true] <;> omega))
          simp only [Int32.reduceToInt] at h_551
          refine v_iinc hC dX12_frees_28 (k := 1) rfl (v := v_549) h_550 (by decide) (lv' := [(2, .int v_549), (1, .int v_546), (0, .ref a_0)]) rfl ?_
          refine v_goto hC dX12_frees_31 (tgt := 4) (by decide) ?_
          refine v_pick [0, 1, 2] rfl ?_
          exact ih_501 v_549 (by first | omega | (simp only [Int32.lt_iff_toInt_lt, Int32.le_iff_toInt_le, Int32.reduceToInt, ← Int32.toInt_inj, true_and, and_true, or_true, true_or, false_or, or_false, false_and, and_false, not_true_eq_false, not_false_eq_true] <;> omega)) v_546 (by first | omega | (simp only [Int32.lt_iff_toInt_lt, Int32.le_iff_toInt_le, Int32.reduceToInt, ← Int32.toInt_inj, true_and, and_true, or_true, true_or, false_or, or_false, false_and, and_false, not_true_eq_false, not_false_eq_true] <;> omega))
  refine v_pick [0, 1, 2] rfl ?_
  exact lp_499 258 0 (by decide) 0 (by decide)
set_option maxRecDepth 100000 in
set_option maxHeartbeats 4000000 in
theorem p_X12_count {l : Launch} {E : Ez} {L : List Nat} {f : Nat → va_E} {T : Nat → va_E → Prop} {a_0 : Nat} {a_1 : Int32} {q : Nat → Nat} {g_w : Nat → Int32} (hW : WT T L f) (k_0 : isM T L E a_0 q) (e_w : f (q 1) = aI E 2076 g_w) (o_w : WOK g_w) : CI l yX12_count cX12_count 4 .int 4 0 0 E [.ref a_0, .int a_1] L f (fun r L1 f1 => L = L1 ∧ f = f1 ∧ (¬ r.toInt = 0 ∨ (0 ≤ a_1.toInt ∧ a_1.toInt ≤ 9))) := by
  refine ci_of (by decide) (Nat.le_of_ble_eq_true rfl) (fun z hz hnm hC hR => ?_)
  have hC : Cx z E cX12_count RX12 4 4 0 0 := hC
  subst hz
  show V z E 4 0 0 L f 0 [(0, .ref a_0), (1, .int a_1)] []
  obtain ⟨m_1, t_2, k_3, k_4, k_5, k_6, k_7, k_8, k_9, k_10, k_11, k_12, k_13, k_14, k_15, k_16, k_17, k_18, k_19, k_20⟩ := id k_0
  obtain ⟨m_21, t_22⟩ := id k_3
  have b_23 := o_w.r0
  have b_24 := o_w.w0
  refine v_iconst hC dX12_count_0 (v := 0) (by decide) ?_
  refine v_istore_n hC dX12_count_1 (by decide) (lv' := [(2, .int 0), (0, .ref a_0), (1, .int a_1)]) rfl ?_
  refine v_iload_n hC dX12_count_2 rfl ?_
  by_cases h_25 : a_1 = 0
  · refine v_tableIn hC dX12_count_3 (off := 53) (tgt := 56) (by rw [h_25]; decide) (by rw [h_25]; decide) (by rw [h_25]; rfl) (by decide) ?_
    simp only [Int32.lt_iff_toInt_lt, Int32.le_iff_toInt_le, Int32.reduceToInt, ← Int32.toInt_inj] at h_25
    refine v_aload_n hC dX12_count_56 rfl ?_
    obtain ⟨v_36, v_37, v_39, v_41, v_43, v_45, v_47, v_48, v_49, v_50, v_52, e_35, b_38, b_40, b_42, b_44, b_46, b_51, b_53⟩ := hW.at m_1 t_2
    refine v_vi hC (rest := []) m_1 e_35 rfl mi_X12_rows ms_X12_rows (p_X12_rows hW k_0 e_w o_w) mx_X12_rows ml_X12_83 (by decide) rfl (cells1 := 0) (slots1 := 0) (by decide) (by decide) (Nat.le_of_ble_eq_true rfl) (Nat.le_of_ble_eq_true rfl) rfl (Nat.le_of_ble_eq_true rfl) dX12_count_57 (fun r_54 L_55 f_56 h_57 => ?_)
    obtain ⟨rfl, rfl, rfl⟩ := h_57
    exact hR _ _ _ _ _ _ _ dX12_count_60 rfl (Nat.le_of_ble_eq_true rfl) (Nat.le_of_ble_eq_true rfl) ⟨rfl, rfl, (.inr (by first | omega | (simp only [Int32.lt_iff_toInt_lt, Int32.le_iff_toInt_le, Int32.reduceToInt, ← Int32.toInt_inj, true_and, and_true, or_true, true_or, false_or, or_false, false_and, and_false, not_true_eq_false, not_false_eq_true] <;> omega)))⟩
  by_cases h_26 : a_1 = 1
  · refine v_tableIn hC dX12_count_3 (off := 58) (tgt := 61) (by rw [h_26]; decide) (by rw [h_26]; decide) (by rw [h_26]; rfl) (by decide) ?_
    simp only [Int32.lt_iff_toInt_lt, Int32.le_iff_toInt_le, Int32.reduceToInt, ← Int32.toInt_inj] at h_26
    refine v_aload_n hC dX12_count_61 rfl ?_
    obtain ⟨v_61, v_62, v_64, v_66, v_68, v_70, v_72, v_73, v_74, v_75, v_77, e_60, b_63, b_65, b_67, b_69, b_71, b_76, b_78⟩ := hW.at m_1 t_2
    refine v_vi hC (rest := []) m_1 e_60 rfl mi_X12_wide ms_X12_wide (p_X12_wide hW k_0 e_w o_w) mx_X12_wide ml_X12_87 (by decide) rfl (cells1 := 0) (slots1 := 0) (by decide) (by decide) (Nat.le_of_ble_eq_true rfl) (Nat.le_of_ble_eq_true rfl) rfl (Nat.le_of_ble_eq_true rfl) dX12_count_62 (fun r_79 L_80 f_81 h_82 => ?_)
    obtain ⟨rfl, rfl, rfl⟩ := h_82
    exact hR _ _ _ _ _ _ _ dX12_count_65 rfl (Nat.le_of_ble_eq_true rfl) (Nat.le_of_ble_eq_true rfl) ⟨rfl, rfl, (.inr (by first | omega | (simp only [Int32.lt_iff_toInt_lt, Int32.le_iff_toInt_le, Int32.reduceToInt, ← Int32.toInt_inj, true_and, and_true, or_true, true_or, false_or, or_false, false_and, and_false, not_true_eq_false, not_false_eq_true] <;> omega)))⟩
  by_cases h_27 : a_1 = 2
  · refine v_tableIn hC dX12_count_3 (off := 63) (tgt := 66) (by rw [h_27]; decide) (by rw [h_27]; decide) (by rw [h_27]; rfl) (by decide) ?_
    simp only [Int32.lt_iff_toInt_lt, Int32.le_iff_toInt_le, Int32.reduceToInt, ← Int32.toInt_inj] at h_27
    refine v_aload_n hC dX12_count_66 rfl ?_
    obtain ⟨v_86, v_87, v_89, v_91, v_93, v_95, v_97, v_98, v_99, v_100, v_102, e_85, b_88, b_90, b_92, b_94, b_96, b_101, b_103⟩ := hW.at m_1 t_2
    refine v_vi hC (rest := []) m_1 e_85 rfl mi_X12_frees ms_X12_frees (p_X12_frees hW k_0 e_w o_w) mx_X12_frees ml_X12_200 (by decide) rfl (cells1 := 0) (slots1 := 0) (by decide) (by decide) (Nat.le_of_ble_eq_true rfl) (Nat.le_of_ble_eq_true rfl) rfl (Nat.le_of_ble_eq_true rfl) dX12_count_67 (fun r_104 L_105 f_106 h_107 => ?_)
    obtain ⟨rfl, rfl⟩ := h_107
    exact hR _ _ _ _ _ _ _ dX12_count_70 rfl (Nat.le_of_ble_eq_true rfl) (Nat.le_of_ble_eq_true rfl) ⟨rfl, rfl, (.inr (by first | omega | (simp only [Int32.lt_iff_toInt_lt, Int32.le_iff_toInt_le, Int32.reduceToInt, ← Int32.toInt_inj, true_and, and_true, or_true, true_or, false_or, or_false, false_and, and_false, not_true_eq_false, not_false_eq_true] <;> omega)))⟩
  by_cases h_28 : a_1 = 3
  · refine v_tableIn hC dX12_count_3 (off := 68) (tgt := 71) (by rw [h_28]; decide) (by rw [h_28]; decide) (by rw [h_28]; rfl) (by decide) ?_
    simp only [Int32.lt_iff_toInt_lt, Int32.le_iff_toInt_le, Int32.reduceToInt, ← Int32.toInt_inj] at h_28
    refine v_iconst hC dX12_count_71 (v := 0) (by decide) ?_
    refine v_istore_n hC dX12_count_72 (by decide) (lv' := [(3, .int 0), (2, .int 0), (0, .ref a_0), (1, .int a_1)]) rfl ?_
    have lp_331 : ∀ (n_332 : Nat) (i_328 : Int32) (b_330 : (0 ≤ i_328.toInt ∧ i_328.toInt ≤ 6)) (i_329 : Int32) (hm_334 : 6 - i_328.toInt < (n_332 : Int)), V z E 4 0 0 L f 73 [(3, .int i_328), (2, .int i_329), (0, .ref a_0)] [] := by
      intro n_332
      induction n_332 with
      | zero =>
        intro i_328 b_330 i_329 hm_334
        exfalso; omega
      | succ n_332 ih_333 =>
        intro i_328 b_330 i_329 hm_334
        refine v_iload_n hC dX12_count_73 rfl ?_
        refine v_bipush hC dX12_count_74 (v := 6) (by decide) ?_
        refine v_icmp_ge hC dX12_count_76 (tgt := 94) (by decide) (fun h_335 => ?_) (fun h_335 => ?_)
        · simp only [Int32.lt_iff_toInt_lt, Int32.le_iff_toInt_le, Int32.reduceToInt, ← Int32.toInt_inj] at h_335
          refine v_iload_n hC dX12_count_94 rfl ?_
          exact hR _ _ _ _ _ _ _ dX12_count_95 rfl (Nat.le_of_ble_eq_true rfl) (Nat.le_of_ble_eq_true rfl) ⟨rfl, rfl, (.inr (by first | omega | (simp only [Int32.lt_iff_toInt_lt, Int32.le_iff_toInt_le, Int32.reduceToInt, ← Int32.toInt_inj, true_and, and_true, or_true, true_or, false_or, or_false, false_and, and_false, not_true_eq_false, not_false_eq_true] <;> omega)))⟩
        · simp only [Int32.lt_iff_toInt_lt, Int32.le_iff_toInt_le, Int32.reduceToInt, ← Int32.toInt_inj] at h_335
          refine v_iload_n hC dX12_count_79 rfl ?_
          refine v_aload_n hC dX12_count_80 rfl ?_
          refine v_iload_n hC dX12_count_81 rfl ?_
          refine v_iconst hC dX12_count_82 (v := 0) (by decide) ?_
          obtain ⟨v_337, v_338, v_340, v_342, v_344, v_346, v_348, v_349, v_350, v_351, v_353, e_336, b_339, b_341, b_343, b_345, b_347, b_352, b_354⟩ := hW.at m_1 t_2
          refine v_vi hC (rest := [.int i_329]) m_1 e_336 rfl mi_X12_ofWay ms_X12_ofWay (p_X12_ofWay hW k_0 (by first | omega | (simp only [Int32.lt_iff_toInt_lt, Int32.le_iff_toInt_le, Int32.reduceToInt, ← Int32.toInt_inj, true_and, and_true, or_true, true_or, false_or, or_false, false_and, and_false, not_true_eq_false, not_false_eq_true] <;> omega)) (by decide) e_w o_w) mx_X12_ofWay ml_X12_94 (by decide) rfl (cells1 := 0) (slots1 := 0) (by decide) (by decide) (Nat.le_of_ble_eq_true rfl) (Nat.le_of_ble_eq_true rfl) rfl (Nat.le_of_ble_eq_true rfl) dX12_count_83 (fun r_355 L_356 f_357 h_358 => ?_)
          obtain ⟨rfl, rfl, rfl⟩ := h_358
          obtain ⟨v_361, h_362⟩ : ∃ v9 : Int32, i_329 + (wv g_w i_328 0) = v9 := ⟨_, rfl⟩
          refine v_iadd hC dX12_count_86 h_362 ?_
          refine v_istore_n hC dX12_count_87 (by decide) (lv' := [(2, .int v_361), (3, .int i_328), (0, .ref a_0)]) rfl ?_
          obtain ⟨v_364, h_365⟩ : ∃ v9 : Int32, i_328 + Int32.ofInt 1 = v9 := ⟨_, rfl⟩
          have h_366 := add_v (b := 1) h_365 (by first | omega | (simp only [Int32.lt_iff_toInt_lt, Int32.le_iff_toInt_le, Int32.reduceToInt, ← Int32.toInt_inj, true_and, and_true, or_true, true_or, false_or, or_false, false_and, and_false, not_true_eq_false, not_false_eq_true] <;> omega)) (by first | omega | (simp only [Int32.lt_iff_toInt_lt, Int32.le_iff_toInt_le, Int32.reduceToInt, ← Int32.toInt_inj, true_and, and_true, or_true, true_or, false_or, or_false, false_and, and_false, not_true_eq_false, not_false_eq_true] <;> omega))
          simp only [Int32.reduceToInt] at h_366
          refine v_iinc hC dX12_count_88 (k := 1) rfl (v := v_364) h_365 (by decide) (lv' := [(3, .int v_364), (2, .int v_361), (0, .ref a_0)]) rfl ?_
          refine v_goto hC dX12_count_91 (tgt := 73) (by decide) ?_
          refine v_pick [0, 1, 2] rfl ?_
          exact ih_333 v_364 (by first | omega | (simp only [Int32.lt_iff_toInt_lt, Int32.le_iff_toInt_le, Int32.reduceToInt, ← Int32.toInt_inj, true_and, and_true, or_true, true_or, false_or, or_false, false_and, and_false, not_true_eq_false, not_false_eq_true] <;> omega)) v_361 (by first | omega | (simp only [Int32.lt_iff_toInt_lt, Int32.le_iff_toInt_le, Int32.reduceToInt, ← Int32.toInt_inj, true_and, and_true, or_true, true_or, false_or, or_false, false_and, and_false, not_true_eq_false, not_false_eq_true] <;> omega))
    refine v_pick [0, 1, 2] rfl ?_
    exact lp_331 8 0 (by decide) 0 (by decide)
  by_cases h_29 : a_1 = 4
  · refine v_tableIn hC dX12_count_3 (off := 93) (tgt := 96) (by rw [h_29]; decide) (by rw [h_29]; decide) (by rw [h_29]; rfl) (by decide) ?_
    simp only [Int32.lt_iff_toInt_lt, Int32.le_iff_toInt_le, Int32.reduceToInt, ← Int32.toInt_inj] at h_29
    refine v_aload_n hC dX12_count_96 rfl ?_
    obtain ⟨v_368, v_369, v_371, v_373, v_375, v_377, v_379, v_380, v_381, v_382, v_384, e_367, b_370, b_372, b_374, b_376, b_378, b_383, b_385⟩ := hW.at m_1 t_2
    refine v_get hC fl_X12_13 m_1 e_367 rfl dX12_count_97 ?_
    refine v_iconst hC dX12_count_100 (v := 3) (by decide) ?_
    refine v_iald hC m_21 e_w (vp_in_iff.mpr (by decide)) (v := g_w 3) rfl dX12_count_101 ?_
    exact hR _ _ _ _ _ _ _ dX12_count_102 rfl (Nat.le_of_ble_eq_true rfl) (Nat.le_of_ble_eq_true rfl) ⟨rfl, rfl, (.inr (by first | omega | (simp only [Int32.lt_iff_toInt_lt, Int32.le_iff_toInt_le, Int32.reduceToInt, ← Int32.toInt_inj, true_and, and_true, or_true, true_or, false_or, or_false, false_and, and_false, not_true_eq_false, not_false_eq_true] <;> omega)))⟩
  by_cases h_30 : a_1 = 5
  · refine v_tableIn hC dX12_count_3 (off := 100) (tgt := 103) (by rw [h_30]; decide) (by rw [h_30]; decide) (by rw [h_30]; rfl) (by decide) ?_
    simp only [Int32.lt_iff_toInt_lt, Int32.le_iff_toInt_le, Int32.reduceToInt, ← Int32.toInt_inj] at h_30
    refine v_aload_n hC dX12_count_103 rfl ?_
    obtain ⟨v_387, v_388, v_390, v_392, v_394, v_396, v_398, v_399, v_400, v_401, v_403, e_386, b_389, b_391, b_393, b_395, b_397, b_402, b_404⟩ := hW.at m_1 t_2
    refine v_get hC fl_X12_13 m_1 e_386 rfl dX12_count_104 ?_
    refine v_bipush hC dX12_count_107 (v := 6) (by decide) ?_
    refine v_iald hC m_21 e_w (vp_in_iff.mpr (by decide)) (v := g_w 6) rfl dX12_count_109 ?_
    exact hR _ _ _ _ _ _ _ dX12_count_110 rfl (Nat.le_of_ble_eq_true rfl) (Nat.le_of_ble_eq_true rfl) ⟨rfl, rfl, (.inr (by first | omega | (simp only [Int32.lt_iff_toInt_lt, Int32.le_iff_toInt_le, Int32.reduceToInt, ← Int32.toInt_inj, true_and, and_true, or_true, true_or, false_or, or_false, false_and, and_false, not_true_eq_false, not_false_eq_true] <;> omega)))⟩
  by_cases h_31 : a_1 = 6
  · refine v_tableIn hC dX12_count_3 (off := 108) (tgt := 111) (by rw [h_31]; decide) (by rw [h_31]; decide) (by rw [h_31]; rfl) (by decide) ?_
    simp only [Int32.lt_iff_toInt_lt, Int32.le_iff_toInt_le, Int32.reduceToInt, ← Int32.toInt_inj] at h_31
    refine v_iconst hC dX12_count_111 (v := 0) (by decide) ?_
    refine v_istore_n hC dX12_count_112 (by decide) (lv' := [(3, .int 0), (2, .int 0), (0, .ref a_0), (1, .int a_1)]) rfl ?_
    have lp_816 : ∀ (n_817 : Nat) (i_813 : Int32) (b_815 : (0 ≤ i_813.toInt ∧ i_813.toInt ≤ 4)) (i_814 : Int32) (hm_819 : 4 - i_813.toInt < (n_817 : Int)), V z E 4 0 0 L f 113 [(3, .int i_813), (2, .int i_814), (0, .ref a_0)] [] := by
      intro n_817
      induction n_817 with
      | zero =>
        intro i_813 b_815 i_814 hm_819
        exfalso; omega
      | succ n_817 ih_818 =>
        intro i_813 b_815 i_814 hm_819
        refine v_iload_n hC dX12_count_113 rfl ?_
        refine v_iconst hC dX12_count_114 (v := 4) (by decide) ?_
        refine v_icmp_ge hC dX12_count_115 (tgt := 140) (by decide) (fun h_820 => ?_) (fun h_820 => ?_)
        · simp only [Int32.lt_iff_toInt_lt, Int32.le_iff_toInt_le, Int32.reduceToInt, ← Int32.toInt_inj] at h_820
          refine v_iload_n hC dX12_count_140 rfl ?_
          exact hR _ _ _ _ _ _ _ dX12_count_141 rfl (Nat.le_of_ble_eq_true rfl) (Nat.le_of_ble_eq_true rfl) ⟨rfl, rfl, (.inr (by first | omega | (simp only [Int32.lt_iff_toInt_lt, Int32.le_iff_toInt_le, Int32.reduceToInt, ← Int32.toInt_inj, true_and, and_true, or_true, true_or, false_or, or_false, false_and, and_false, not_true_eq_false, not_false_eq_true] <;> omega)))⟩
        · simp only [Int32.lt_iff_toInt_lt, Int32.le_iff_toInt_le, Int32.reduceToInt, ← Int32.toInt_inj] at h_820
          refine v_iload_n hC dX12_count_118 rfl ?_
          refine v_aload_n hC dX12_count_119 rfl ?_
          refine v_iload_n hC dX12_count_120 rfl ?_
          obtain ⟨v_822, v_823, v_825, v_827, v_829, v_831, v_833, v_834, v_835, v_836, v_838, e_821, b_824, b_826, b_828, b_830, b_832, b_837, b_839⟩ := hW.at m_1 t_2
          refine v_vi hC (rest := [.int i_814]) m_1 e_821 rfl mi_X12_isThere ms_X12_isThere (p_X12_isThere hW k_0 (by first | omega | (simp only [Int32.lt_iff_toInt_lt, Int32.le_iff_toInt_le, Int32.reduceToInt, ← Int32.toInt_inj, true_and, and_true, or_true, true_or, false_or, or_false, false_and, and_false, not_true_eq_false, not_false_eq_true] <;> omega)) e_w o_w) mx_X12_isThere ml_X12_351 (by decide) rfl (cells1 := 0) (slots1 := 0) (by decide) (by decide) (Nat.le_of_ble_eq_true rfl) (Nat.le_of_ble_eq_true rfl) rfl (Nat.le_of_ble_eq_true rfl) dX12_count_121 (fun r_840 L_841 f_842 h_843 => ?_)
          obtain ⟨rfl, rfl, b_844⟩ := h_843
          refine v_if_eq hC dX12_count_124 (tgt := 131) (by decide) (fun h_847 => ?_) (fun h_847 => ?_)
          · simp only [Int32.lt_iff_toInt_lt, Int32.le_iff_toInt_le, Int32.reduceToInt, ← Int32.toInt_inj] at h_847
            refine v_iconst hC dX12_count_131 (v := 0) (by decide) ?_
            obtain ⟨v_848, h_849⟩ : ∃ v9 : Int32, i_814 + 0 = v9 := ⟨_, rfl⟩
            refine v_iadd hC dX12_count_132 h_849 ?_
            have rg_851 := Int32.toInt_lt i_814
            have rg_852 := Int32.le_toInt i_814
            have h_850 := add_v h_849 (by first | omega | (simp only [Int32.lt_iff_toInt_lt, Int32.le_iff_toInt_le, Int32.reduceToInt, ← Int32.toInt_inj, true_and, and_true, or_true, true_or, false_or, or_false, false_and, and_false, not_true_eq_false, not_false_eq_true] <;> omega)) (by first | omega | (simp only [Int32.lt_iff_toInt_lt, Int32.le_iff_toInt_le, Int32.reduceToInt, ← Int32.toInt_inj, true_and, and_true, or_true, true_or, false_or, or_false, false_and, and_false, not_true_eq_false, not_false_eq_true] <;> omega))
            try simp only [Int32.reduceToInt] at h_850
            refine v_istore_n hC dX12_count_133 (by decide) (lv' := [(2, .int v_848), (3, .int i_813), (0, .ref a_0)]) rfl ?_
            obtain ⟨v_853, h_854⟩ : ∃ v9 : Int32, i_813 + Int32.ofInt 1 = v9 := ⟨_, rfl⟩
            have h_855 := add_v (b := 1) h_854 (by first | omega | (simp only [Int32.lt_iff_toInt_lt, Int32.le_iff_toInt_le, Int32.reduceToInt, ← Int32.toInt_inj, true_and, and_true, or_true, true_or, false_or, or_false, false_and, and_false, not_true_eq_false, not_false_eq_true] <;> omega)) (by first | omega | (simp only [Int32.lt_iff_toInt_lt, Int32.le_iff_toInt_le, Int32.reduceToInt, ← Int32.toInt_inj, true_and, and_true, or_true, true_or, false_or, or_false, false_and, and_false, not_true_eq_false, not_false_eq_true] <;> omega))
            simp only [Int32.reduceToInt] at h_855
            refine v_iinc hC dX12_count_134 (k := 1) rfl (v := v_853) h_854 (by decide) (lv' := [(3, .int v_853), (2, .int v_848), (0, .ref a_0)]) rfl ?_
            refine v_goto hC dX12_count_137 (tgt := 113) (by decide) ?_
            refine v_pick [0, 1, 2] rfl ?_
            exact ih_818 v_853 (by first | omega | (simp only [Int32.lt_iff_toInt_lt, Int32.le_iff_toInt_le, Int32.reduceToInt, ← Int32.toInt_inj, true_and, and_true, or_true, true_or, false_or, or_false, false_and, and_false, not_true_eq_false, not_false_eq_true] <;> omega)) v_848 (by first | omega | (simp only [Int32.lt_iff_toInt_lt, Int32.le_iff_toInt_le, Int32.reduceToInt, ← Int32.toInt_inj, true_and, and_true, or_true, true_or, false_or, or_false, false_and, and_false, not_true_eq_false, not_false_eq_true] <;> omega))
          · simp only [Int32.lt_iff_toInt_lt, Int32.le_iff_toInt_le, Int32.reduceToInt, ← Int32.toInt_inj] at h_847
            refine v_iconst hC dX12_count_127 (v := 1) (by decide) ?_
            refine v_goto hC dX12_count_128 (tgt := 132) (by decide) ?_
            obtain ⟨v_856, h_857⟩ : ∃ v9 : Int32, i_814 + 1 = v9 := ⟨_, rfl⟩
            refine v_iadd hC dX12_count_132 h_857 ?_
            refine v_istore_n hC dX12_count_133 (by decide) (lv' := [(2, .int v_856), (3, .int i_813), (0, .ref a_0)]) rfl ?_
            obtain ⟨v_859, h_860⟩ : ∃ v9 : Int32, i_813 + Int32.ofInt 1 = v9 := ⟨_, rfl⟩
            have h_861 := add_v (b := 1) h_860 (by first | omega | (simp only [Int32.lt_iff_toInt_lt, Int32.le_iff_toInt_le, Int32.reduceToInt, ← Int32.toInt_inj, true_and, and_true, or_true, true_or, false_or, or_false, false_and, and_false, not_true_eq_false, not_false_eq_true] <;> omega)) (by first | omega | (simp only [Int32.lt_iff_toInt_lt, Int32.le_iff_toInt_le, Int32.reduceToInt, ← Int32.toInt_inj, true_and, and_true, or_true, true_or, false_or, or_false, false_and, and_false, not_true_eq_false, not_false_eq_true] <;> omega))
            simp only [Int32.reduceToInt] at h_861
            refine v_iinc hC dX12_count_134 (k := 1) rfl (v := v_859) h_860 (by decide) (lv' := [(3, .int v_859), (2, .int v_856), (0, .ref a_0)]) rfl ?_
            refine v_goto hC dX12_count_137 (tgt := 113) (by decide) ?_
            refine v_pick [0, 1, 2] rfl ?_
            exact ih_818 v_859 (by first | omega | (simp only [Int32.lt_iff_toInt_lt, Int32.le_iff_toInt_le, Int32.reduceToInt, ← Int32.toInt_inj, true_and, and_true, or_true, true_or, false_or, or_false, false_and, and_false, not_true_eq_false, not_false_eq_true] <;> omega)) v_856 (by first | omega | (simp only [Int32.lt_iff_toInt_lt, Int32.le_iff_toInt_le, Int32.reduceToInt, ← Int32.toInt_inj, true_and, and_true, or_true, true_or, false_or, or_false, false_and, and_false, not_true_eq_false, not_false_eq_true] <;> omega))
    refine v_pick [0, 1, 2] rfl ?_
    exact lp_816 6 0 (by decide) 0 (by decide)
  by_cases h_32 : a_1 = 7
  · refine v_tableIn hC dX12_count_3 (off := 139) (tgt := 142) (by rw [h_32]; decide) (by rw [h_32]; decide) (by rw [h_32]; rfl) (by decide) ?_
    simp only [Int32.lt_iff_toInt_lt, Int32.le_iff_toInt_le, Int32.reduceToInt, ← Int32.toInt_inj] at h_32
    refine v_aload_n hC dX12_count_142 rfl ?_
    obtain ⟨v_863, v_864, v_866, v_868, v_870, v_872, v_874, v_875, v_876, v_877, v_879, e_862, b_865, b_867, b_869, b_871, b_873, b_878, b_880⟩ := hW.at m_1 t_2
    refine v_get hC fl_X12_102 m_1 e_862 rfl dX12_count_143 ?_
    exact hR _ _ _ _ _ _ _ dX12_count_146 rfl (Nat.le_of_ble_eq_true rfl) (Nat.le_of_ble_eq_true rfl) ⟨rfl, rfl, (.inr (by first | omega | (simp only [Int32.lt_iff_toInt_lt, Int32.le_iff_toInt_le, Int32.reduceToInt, ← Int32.toInt_inj, true_and, and_true, or_true, true_or, false_or, or_false, false_and, and_false, not_true_eq_false, not_false_eq_true] <;> omega)))⟩
  by_cases h_33 : a_1 = 8
  · refine v_tableIn hC dX12_count_3 (off := 144) (tgt := 147) (by rw [h_33]; decide) (by rw [h_33]; decide) (by rw [h_33]; rfl) (by decide) ?_
    simp only [Int32.lt_iff_toInt_lt, Int32.le_iff_toInt_le, Int32.reduceToInt, ← Int32.toInt_inj] at h_33
    refine v_iconst hC dX12_count_147 (v := 0) (by decide) ?_
    refine v_aload_n hC dX12_count_148 rfl ?_
    obtain ⟨v_882, v_883, v_885, v_887, v_889, v_891, v_893, v_894, v_895, v_896, v_898, e_881, b_884, b_886, b_888, b_890, b_892, b_897, b_899⟩ := hW.at m_1 t_2
    refine v_get hC fl_X12_49 m_1 e_881 rfl dX12_count_149 ?_
    obtain ⟨v_900, h_901⟩ : ∃ v9 : Int32, (if (0 : Int32) < v_898 then v_898 else (0 : Int32)) = v9 := ⟨_, rfl⟩
    refine v_mmax hC mm_X12_386 mm_smax mm_i mm_cmax (by decide) (Nat.le_of_ble_eq_true rfl) (Nat.le_of_ble_eq_true rfl) (Nat.le_of_ble_eq_true rfl) h_901 dX12_count_152 ?_
    have b_902 := max_v h_901
    try simp only [Int32.reduceToInt] at b_902
    exact hR _ _ _ _ _ _ _ dX12_count_155 rfl (Nat.le_of_ble_eq_true rfl) (Nat.le_of_ble_eq_true rfl) ⟨rfl, rfl, (.inr (by first | omega | (simp only [Int32.lt_iff_toInt_lt, Int32.le_iff_toInt_le, Int32.reduceToInt, ← Int32.toInt_inj, true_and, and_true, or_true, true_or, false_or, or_false, false_and, and_false, not_true_eq_false, not_false_eq_true] <;> omega)))⟩
  by_cases h_34 : a_1 = 9
  · refine v_tableIn hC dX12_count_3 (off := 153) (tgt := 156) (by rw [h_34]; decide) (by rw [h_34]; decide) (by rw [h_34]; rfl) (by decide) ?_
    simp only [Int32.lt_iff_toInt_lt, Int32.le_iff_toInt_le, Int32.reduceToInt, ← Int32.toInt_inj] at h_34
    refine v_iconst hC dX12_count_156 (v := 0) (by decide) ?_
    refine v_istore_n hC dX12_count_157 (by decide) (lv' := [(3, .int 0), (2, .int 0), (0, .ref a_0), (1, .int a_1)]) rfl ?_
    have lp_1323 : ∀ (n_1324 : Nat) (i_1320 : Int32) (b_1322 : (0 ≤ i_1320.toInt ∧ i_1320.toInt ≤ 4)) (i_1321 : Int32) (hm_1326 : 4 - i_1320.toInt < (n_1324 : Int)), V z E 4 0 0 L f 158 [(3, .int i_1320), (2, .int i_1321), (0, .ref a_0)] [] := by
      intro n_1324
      induction n_1324 with
      | zero =>
        intro i_1320 b_1322 i_1321 hm_1326
        exfalso; omega
      | succ n_1324 ih_1325 =>
        intro i_1320 b_1322 i_1321 hm_1326
        refine v_iload_n hC dX12_count_158 rfl ?_
        refine v_iconst hC dX12_count_159 (v := 4) (by decide) ?_
        refine v_icmp_ge hC dX12_count_160 (tgt := 187) (by decide) (fun h_1327 => ?_) (fun h_1327 => ?_)
        · simp only [Int32.lt_iff_toInt_lt, Int32.le_iff_toInt_le, Int32.reduceToInt, ← Int32.toInt_inj] at h_1327
          refine v_iload_n hC dX12_count_187 rfl ?_
          exact hR _ _ _ _ _ _ _ dX12_count_188 rfl (Nat.le_of_ble_eq_true rfl) (Nat.le_of_ble_eq_true rfl) ⟨rfl, rfl, (.inr (by first | omega | (simp only [Int32.lt_iff_toInt_lt, Int32.le_iff_toInt_le, Int32.reduceToInt, ← Int32.toInt_inj, true_and, and_true, or_true, true_or, false_or, or_false, false_and, and_false, not_true_eq_false, not_false_eq_true] <;> omega)))⟩
        · simp only [Int32.lt_iff_toInt_lt, Int32.le_iff_toInt_le, Int32.reduceToInt, ← Int32.toInt_inj] at h_1327
          refine v_iload_n hC dX12_count_163 rfl ?_
          refine v_aload_n hC dX12_count_164 rfl ?_
          obtain ⟨v_1329, v_1330, v_1332, v_1334, v_1336, v_1338, v_1340, v_1341, v_1342, v_1343, v_1345, e_1328, b_1331, b_1333, b_1335, b_1337, b_1339, b_1344, b_1346⟩ := hW.at m_1 t_2
          refine v_get hC fl_X12_64 m_1 e_1328 rfl dX12_count_165 ?_
          refine v_iload_n hC dX12_count_168 rfl ?_
          obtain ⟨m_1347, t_1348⟩ := id k_17
          obtain ⟨g_1350, e_1349, ok_1351⟩ := hW.at m_1347 t_1348
          obtain ⟨v_1352, h_1353⟩ : ∃ v9 : Int32, g_1350 (i_1320 : Int32).toNatClampNeg = v9 := ⟨_, rfl⟩
          have b_1354 := ok_1351 (i_1320 : Int32).toNatClampNeg (clamp_lt (vp_in_iff.mpr (by first | omega | (simp only [Int32.lt_iff_toInt_lt, Int32.le_iff_toInt_le, Int32.reduceToInt, ← Int32.toInt_inj, true_and, and_true, or_true, true_or, false_or, or_false, false_and, and_false, not_true_eq_false, not_false_eq_true] <;> omega))))
          rw [h_1353] at b_1354
          refine v_iald hC m_1347 e_1349 (vp_in_iff.mpr (by first | omega | (simp only [Int32.lt_iff_toInt_lt, Int32.le_iff_toInt_le, Int32.reduceToInt, ← Int32.toInt_inj, true_and, and_true, or_true, true_or, false_or, or_false, false_and, and_false, not_true_eq_false, not_false_eq_true] <;> omega))) h_1353 dX12_count_169 ?_
          refine v_iconst hC dX12_count_170 (v := (-1)) (by decide) ?_
          refine v_icmp_ne hC dX12_count_171 (tgt := 178) (by decide) (fun h_1355 => ?_) (fun h_1355 => ?_)
          · simp only [Int32.lt_iff_toInt_lt, Int32.le_iff_toInt_le, Int32.reduceToInt, ← Int32.toInt_inj] at h_1355
            refine v_iconst hC dX12_count_178 (v := 1) (by decide) ?_
            obtain ⟨v_1356, h_1357⟩ : ∃ v9 : Int32, i_1321 + 1 = v9 := ⟨_, rfl⟩
            refine v_iadd hC dX12_count_179 h_1357 ?_
            refine v_istore_n hC dX12_count_180 (by decide) (lv' := [(2, .int v_1356), (3, .int i_1320), (0, .ref a_0)]) rfl ?_
            obtain ⟨v_1359, h_1360⟩ : ∃ v9 : Int32, i_1320 + Int32.ofInt 1 = v9 := ⟨_, rfl⟩
            have h_1361 := add_v (b := 1) h_1360 (by first | omega | (simp only [Int32.lt_iff_toInt_lt, Int32.le_iff_toInt_le, Int32.reduceToInt, ← Int32.toInt_inj, true_and, and_true, or_true, true_or, false_or, or_false, false_and, and_false, not_true_eq_false, not_false_eq_true] <;> omega)) (by first | omega | (simp only [Int32.lt_iff_toInt_lt, Int32.le_iff_toInt_le, Int32.reduceToInt, ← Int32.toInt_inj, true_and, and_true, or_true, true_or, false_or, or_false, false_and, and_false, not_true_eq_false, not_false_eq_true] <;> omega))
            simp only [Int32.reduceToInt] at h_1361
            refine v_iinc hC dX12_count_181 (k := 1) rfl (v := v_1359) h_1360 (by decide) (lv' := [(3, .int v_1359), (2, .int v_1356), (0, .ref a_0)]) rfl ?_
            refine v_goto hC dX12_count_184 (tgt := 158) (by decide) ?_
            refine v_pick [0, 1, 2] rfl ?_
            exact ih_1325 v_1359 (by first | omega | (simp only [Int32.lt_iff_toInt_lt, Int32.le_iff_toInt_le, Int32.reduceToInt, ← Int32.toInt_inj, true_and, and_true, or_true, true_or, false_or, or_false, false_and, and_false, not_true_eq_false, not_false_eq_true] <;> omega)) v_1356 (by first | omega | (simp only [Int32.lt_iff_toInt_lt, Int32.le_iff_toInt_le, Int32.reduceToInt, ← Int32.toInt_inj, true_and, and_true, or_true, true_or, false_or, or_false, false_and, and_false, not_true_eq_false, not_false_eq_true] <;> omega))
          · simp only [Int32.lt_iff_toInt_lt, Int32.le_iff_toInt_le, Int32.reduceToInt, ← Int32.toInt_inj] at h_1355
            refine v_iconst hC dX12_count_174 (v := 0) (by decide) ?_
            refine v_goto hC dX12_count_175 (tgt := 179) (by decide) ?_
            obtain ⟨v_1362, h_1363⟩ : ∃ v9 : Int32, i_1321 + 0 = v9 := ⟨_, rfl⟩
            refine v_iadd hC dX12_count_179 h_1363 ?_
            have rg_1365 := Int32.toInt_lt i_1321
            have rg_1366 := Int32.le_toInt i_1321
            have h_1364 := add_v h_1363 (by first | omega | (simp only [Int32.lt_iff_toInt_lt, Int32.le_iff_toInt_le, Int32.reduceToInt, ← Int32.toInt_inj, true_and, and_true, or_true, true_or, false_or, or_false, false_and, and_false, not_true_eq_false, not_false_eq_true] <;> omega)) (by first | omega | (simp only [Int32.lt_iff_toInt_lt, Int32.le_iff_toInt_le, Int32.reduceToInt, ← Int32.toInt_inj, true_and, and_true, or_true, true_or, false_or, or_false, false_and, and_false, not_true_eq_false, not_false_eq_true] <;> omega))
            try simp only [Int32.reduceToInt] at h_1364
            refine v_istore_n hC dX12_count_180 (by decide) (lv' := [(2, .int v_1362), (3, .int i_1320), (0, .ref a_0)]) rfl ?_
            obtain ⟨v_1367, h_1368⟩ : ∃ v9 : Int32, i_1320 + Int32.ofInt 1 = v9 := ⟨_, rfl⟩
            have h_1369 := add_v (b := 1) h_1368 (by first | omega | (simp only [Int32.lt_iff_toInt_lt, Int32.le_iff_toInt_le, Int32.reduceToInt, ← Int32.toInt_inj, true_and, and_true, or_true, true_or, false_or, or_false, false_and, and_false, not_true_eq_false, not_false_eq_true] <;> omega)) (by first | omega | (simp only [Int32.lt_iff_toInt_lt, Int32.le_iff_toInt_le, Int32.reduceToInt, ← Int32.toInt_inj, true_and, and_true, or_true, true_or, false_or, or_false, false_and, and_false, not_true_eq_false, not_false_eq_true] <;> omega))
            simp only [Int32.reduceToInt] at h_1369
            refine v_iinc hC dX12_count_181 (k := 1) rfl (v := v_1367) h_1368 (by decide) (lv' := [(3, .int v_1367), (2, .int v_1362), (0, .ref a_0)]) rfl ?_
            refine v_goto hC dX12_count_184 (tgt := 158) (by decide) ?_
            refine v_pick [0, 1, 2] rfl ?_
            exact ih_1325 v_1367 (by first | omega | (simp only [Int32.lt_iff_toInt_lt, Int32.le_iff_toInt_le, Int32.reduceToInt, ← Int32.toInt_inj, true_and, and_true, or_true, true_or, false_or, or_false, false_and, and_false, not_true_eq_false, not_false_eq_true] <;> omega)) v_1362 (by first | omega | (simp only [Int32.lt_iff_toInt_lt, Int32.le_iff_toInt_le, Int32.reduceToInt, ← Int32.toInt_inj, true_and, and_true, or_true, true_or, false_or, or_false, false_and, and_false, not_true_eq_false, not_false_eq_true] <;> omega))
    refine v_pick [0, 1, 2] rfl ?_
    exact lp_1323 6 0 (by decide) 0 (by decide)
  simp only [Int32.lt_iff_toInt_lt, Int32.le_iff_toInt_le, Int32.reduceToInt, ← Int32.toInt_inj] at h_25 h_26 h_27 h_28 h_29 h_30 h_31 h_32 h_33 h_34
  refine v_tableOut hC dX12_count_3 (tgt := 189) (by omega) (by decide) ?_
  refine v_iconst hC dX12_count_189 (v := (-1)) (by decide) ?_
  exact hR _ _ _ _ _ _ _ dX12_count_190 rfl (Nat.le_of_ble_eq_true rfl) (Nat.le_of_ble_eq_true rfl) ⟨rfl, rfl, (.inl (by decide))⟩
set_option maxRecDepth 100000 in
set_option maxHeartbeats 4000000 in
theorem p_X12_row {l : Launch} {E : Ez} {L : List Nat} {f : Nat → va_E} {T : Nat → va_E → Prop} {a_0 : Nat} {a_1 : Int32} {a_2 : Int32} {a_3 : Int32} {q : Nat → Nat} {g_w : Nat → Int32} (hW : WT T L f) (k_0 : isM T L E a_0 q) (e_w : f (q 1) = aI E 2076 g_w) (o_w : WOK g_w) : CI l yX12_row cX12_row 5 .int 2 0 0 E [.ref a_0, .int a_1, .int a_2, .int a_3] L f (fun r L1 f1 => L = L1 ∧ WT T L f1 ∧ FR [104, 340] f f1 ∧ ((-3) ≤ r.toInt ∧ r.toInt ≤ 0) ∧ (¬ r.toInt = 0 ∨ (0 ≤ a_1.toInt ∧ a_1.toInt ≤ 3)) ∧ (¬ r.toInt = 0 ∨ (0 ≤ a_2.toInt ∧ a_2.toInt ≤ 3)) ∧ (¬ r.toInt = 0 ∨ (0 ≤ a_3.toInt ∧ a_3.toInt ≤ 60))) := by
  refine ci_of (by decide) (Nat.le_of_ble_eq_true rfl) (fun z hz hnm hC hR => ?_)
  have hC : Cx z E cX12_row RX12 5 2 0 0 := hC
  subst hz
  show V z E 5 0 0 L f 0 [(0, .ref a_0), (1, .int a_1), (2, .int a_2), (3, .int a_3)] []
  obtain ⟨m_1, t_2, k_3, k_4, k_5, k_6, k_7, k_8, k_9, k_10, k_11, k_12, k_13, k_14, k_15, k_16, k_17, k_18, k_19, k_20⟩ := id k_0
  obtain ⟨m_21, t_22⟩ := id k_3
  have b_23 := o_w.r0
  have b_24 := o_w.w0
  refine v_iload_n hC dX12_row_0 rfl ?_
  refine v_si hC (rest := []) mt_X12_isSlot (p_X12_isSlot hW) mx_X12_isSlot ml_X12_425 (by decide) rfl (cells1 := 0) (slots1 := 0) (by decide) (by decide) (Nat.le_of_ble_eq_true rfl) (Nat.le_of_ble_eq_true rfl) rfl (Nat.le_of_ble_eq_true rfl) dX12_row_1 (fun r_25 L_26 f_27 h_28 => ?_)
  obtain ⟨rfl, rfl, b_29, h_30⟩ := h_28
  refine v_if_eq hC dX12_row_4 (tgt := 25) (by decide) (fun h_33 => ?_) (fun h_33 => ?_)
  · simp only [Int32.lt_iff_toInt_lt, Int32.le_iff_toInt_le, Int32.reduceToInt, ← Int32.toInt_inj] at h_33
    refine v_bipush hC dX12_row_25 (v := (-2)) (by decide) ?_
    exact hR _ _ _ _ _ _ _ dX12_row_27 rfl (Nat.le_of_ble_eq_true rfl) (Nat.le_of_ble_eq_true rfl) ⟨rfl, hW, FR.rf, (by decide), (.inl (by decide)), (.inl (by decide)), (.inl (by decide))⟩
  · simp only [Int32.lt_iff_toInt_lt, Int32.le_iff_toInt_le, Int32.reduceToInt, ← Int32.toInt_inj] at h_33
    refine v_iload_n hC dX12_row_7 rfl ?_
    obtain ⟨v_34, h_35⟩ : ∃ v9 : Int64, a_2.toInt64 = v9 := ⟨_, rfl⟩
    refine v_i2l hC dX12_row_8 h_35 ?_
    have h_36 : v_34.toInt = a_2.toInt := by rw [← h_35]; exact Int32.toInt_toInt64 _
    refine v_lconst hC dX12_row_9 (v := 0) (by decide) ?_
    refine v_ldc2 hC kl_X12_90 dX12_row_10 ?_
    refine v_si hC (rest := []) mt_X12_in (p_X12_in hW) mx_X12_in ml_X12_79 (by decide) rfl (cells1 := 0) (slots1 := 0) (by decide) (by decide) (Nat.le_of_ble_eq_true rfl) (Nat.le_of_ble_eq_true rfl) rfl (Nat.le_of_ble_eq_true rfl) dX12_row_13 (fun r_37 L_38 f_39 h_40 => ?_)
    obtain ⟨rfl, rfl, b_41, x_42⟩ := h_40
    try simp only [Int32.reduceToInt, Int64.reduceToInt] at x_42
    refine v_if_eq hC dX12_row_16 (tgt := 25) (by decide) (fun h_45 => ?_) (fun h_45 => ?_)
    · simp only [Int32.lt_iff_toInt_lt, Int32.le_iff_toInt_le, Int32.reduceToInt, ← Int32.toInt_inj] at h_45
      refine v_bipush hC dX12_row_25 (v := (-2)) (by decide) ?_
      exact hR _ _ _ _ _ _ _ dX12_row_27 rfl (Nat.le_of_ble_eq_true rfl) (Nat.le_of_ble_eq_true rfl) ⟨rfl, hW, FR.rf, (by decide), (.inl (by decide)), (.inl (by decide)), (.inl (by decide))⟩
    · simp only [Int32.lt_iff_toInt_lt, Int32.le_iff_toInt_le, Int32.reduceToInt, ← Int32.toInt_inj] at h_45
      refine v_iload_n hC dX12_row_19 rfl ?_
      refine v_bipush hC dX12_row_20 (v := 60) (by decide) ?_
      refine v_icmp_le hC dX12_row_22 (tgt := 28) (by decide) (fun h_46 => ?_) (fun h_46 => ?_)
      · simp only [Int32.lt_iff_toInt_lt, Int32.le_iff_toInt_le, Int32.reduceToInt, ← Int32.toInt_inj] at h_46
        refine v_iload_n hC dX12_row_28 rfl ?_
        refine v_if_ge hC dX12_row_29 (tgt := 35) (by decide) (fun h_47 => ?_) (fun h_47 => ?_)
        · simp only [Int32.lt_iff_toInt_lt, Int32.le_iff_toInt_le, Int32.reduceToInt, ← Int32.toInt_inj] at h_47
          refine v_aload_n hC dX12_row_35 rfl ?_
          obtain ⟨v_49, v_50, v_52, v_54, v_56, v_58, v_60, v_61, v_62, v_63, v_65, e_48, b_51, b_53, b_55, b_57, b_59, b_64, b_66⟩ := hW.at m_1 t_2
          refine v_get hC fl_X12_64 m_1 e_48 rfl dX12_row_36 ?_
          refine v_iload_n hC dX12_row_39 rfl ?_
          refine v_iload_n hC dX12_row_40 rfl ?_
          obtain ⟨m_67, t_68⟩ := id k_17
          obtain ⟨g_70, e_69, ok_71⟩ := hW.at m_67 t_68
          refine v_iast hC m_67 e_69 (vp_in_iff.mpr (by first | omega | (simp only [Int32.lt_iff_toInt_lt, Int32.le_iff_toInt_le, Int32.reduceToInt, ← Int32.toInt_inj, true_and, and_true, or_true, true_or, false_or, or_false, false_and, and_false, not_true_eq_false, not_false_eq_true] <;> omega))) dX12_row_41 (fun f_72 hf_73 hk_74 => ?_)
          have hW_76 := hW.up hf_73 hk_74 t_68 ⟨_, rfl, (ok_71.up (by first | omega | (simp only [Int32.lt_iff_toInt_lt, Int32.le_iff_toInt_le, Int32.reduceToInt, ← Int32.toInt_inj, true_and, and_true, or_true, true_or, false_or, or_false, false_and, and_false, not_true_eq_false, not_false_eq_true] <;> omega)))⟩
          obtain ⟨g_75, hf_73, ok_77, eg_78⟩ : ∃ g9, f_72 (q 25) = aI E 4 g9 ∧ MOK g9 ∧ g9 = upd g_70 (a_1 : Int32).toNatClampNeg a_3 := ⟨_, hf_73, (ok_71.up (by first | omega | (simp only [Int32.lt_iff_toInt_lt, Int32.le_iff_toInt_le, Int32.reduceToInt, ← Int32.toInt_inj, true_and, and_true, or_true, true_or, false_or, or_false, false_and, and_false, not_true_eq_false, not_false_eq_true] <;> omega))), rfl⟩
          have hf_79 := (hk_74 (q 1) (ne_kd e_w e_69 rfl)).trans e_w
          have hf_80 := (hk_74 a_0 (ne_kd e_48 e_69 rfl)).trans e_48
          have fr_81 := FR.w hk_74 e_69 (k := 104) rfl
          refine v_aload_n hC dX12_row_42 rfl ?_
          refine v_get hC fl_X12_67 m_1 hf_80 rfl dX12_row_43 ?_
          refine v_iload_n hC dX12_row_46 rfl ?_
          refine v_iload_n hC dX12_row_47 rfl ?_
          obtain ⟨m_82, t_83⟩ := id k_18
          obtain ⟨g_85, e_84⟩ := hW_76.at m_82 t_83
          refine v_iast hC m_82 e_84 (vp_in_iff.mpr (by first | omega | (simp only [Int32.lt_iff_toInt_lt, Int32.le_iff_toInt_le, Int32.reduceToInt, ← Int32.toInt_inj, true_and, and_true, or_true, true_or, false_or, or_false, false_and, and_false, not_true_eq_false, not_false_eq_true] <;> omega))) dX12_row_48 (fun f_86 hf_87 hk_88 => ?_)
          have hW_90 := hW_76.up hf_87 hk_88 t_83 ⟨_, rfl⟩
          obtain ⟨g_89, hf_87⟩ : ∃ g9, f_86 (q 26) = aI E 4 g9 := ⟨_, hf_87⟩
          have hf_91 := (hk_88 (q 1) (ne_kd hf_79 e_84 rfl)).trans hf_79
          have hf_92 := (hk_88 a_0 (ne_kd hf_80 e_84 rfl)).trans hf_80
          have fr_93 := FR.w hk_88 e_84 (k := 104) rfl
          refine v_iconst hC dX12_row_49 (v := 0) (by decide) ?_
          refine v_istore hC dX12_row_50 (by decide) (lv' := [(4, .int 0), (0, .ref a_0), (1, .int a_1), (2, .int a_2), (3, .int a_3)]) rfl ?_
          have lp_228 : ∀ (n_229 : Nat) (f_221 : Nat → va_E) (hW_222 : WT T L f_221) (hF_223 : FR [340] f_86 f_221) (i_220 : Int32) (b_227 : (0 ≤ i_220.toInt ∧ i_220.toInt ≤ 60)) (hm_231 : 60 - i_220.toInt < (n_229 : Int)), V z E 5 0 0 L f_221 52 [(4, .int i_220), (0, .ref a_0), (1, .int a_1)] [] := by
            intro n_229
            induction n_229 with
            | zero =>
              intro f_221 hW_222 hF_223 i_220 b_227 hm_231
              have hf_224 := hF_223.at hf_91 rfl
              have hf_225 := hF_223.at hf_92 rfl
              have hf_226 := hF_223.at hf_87 rfl
              exfalso; omega
            | succ n_229 ih_230 =>
              intro f_221 hW_222 hF_223 i_220 b_227 hm_231
              have hf_224 := hF_223.at hf_91 rfl
              have hf_225 := hF_223.at hf_92 rfl
              have hf_226 := hF_223.at hf_87 rfl
              refine v_iload hC dX12_row_52 rfl ?_
              refine v_bipush hC dX12_row_54 (v := 60) (by decide) ?_
              refine v_icmp_ge hC dX12_row_56 (tgt := 78) (by decide) (fun h_232 => ?_) (fun h_232 => ?_)
              · simp only [Int32.lt_iff_toInt_lt, Int32.le_iff_toInt_le, Int32.reduceToInt, ← Int32.toInt_inj] at h_232
                refine v_iconst hC dX12_row_78 (v := 0) (by decide) ?_
                exact hR _ _ _ _ _ _ _ dX12_row_79 rfl (Nat.le_of_ble_eq_true rfl) (Nat.le_of_ble_eq_true rfl) ⟨rfl, hW_222, (((fr_81.tr fr_93).tr hF_223).mono rfl), (by decide), (.inr (by first | omega | (simp only [Int32.lt_iff_toInt_lt, Int32.le_iff_toInt_le, Int32.reduceToInt, ← Int32.toInt_inj, true_and, and_true, or_true, true_or, false_or, or_false, false_and, and_false, not_true_eq_false, not_false_eq_true] <;> omega))), (.inr (by first | omega | (simp only [Int32.lt_iff_toInt_lt, Int32.le_iff_toInt_le, Int32.reduceToInt, ← Int32.toInt_inj, true_and, and_true, or_true, true_or, false_or, or_false, false_and, and_false, not_true_eq_false, not_false_eq_true] <;> omega))), (.inr (by first | omega | (simp only [Int32.lt_iff_toInt_lt, Int32.le_iff_toInt_le, Int32.reduceToInt, ← Int32.toInt_inj, true_and, and_true, or_true, true_or, false_or, or_false, false_and, and_false, not_true_eq_false, not_false_eq_true] <;> omega)))⟩
              · simp only [Int32.lt_iff_toInt_lt, Int32.le_iff_toInt_le, Int32.reduceToInt, ← Int32.toInt_inj] at h_232
                refine v_aload_n hC dX12_row_59 rfl ?_
                refine v_get hC fl_X12_70 m_1 hf_225 rfl dX12_row_60 ?_
                refine v_bipush hC dX12_row_63 (v := 60) (by decide) ?_
                refine v_iload_n hC dX12_row_65 rfl ?_
                obtain ⟨v_233, h_234⟩ : ∃ v9 : Int32, (60 : Int32) * a_1 = v9 := ⟨_, rfl⟩
                refine v_imul hC dX12_row_66 h_234 ?_
                have h_235 := mul_v 60 3 180 h_234 (by decide) (by first | omega | (simp only [Int32.lt_iff_toInt_lt, Int32.le_iff_toInt_le, Int32.reduceToInt, ← Int32.toInt_inj, true_and, and_true, or_true, true_or, false_or, or_false, false_and, and_false, not_true_eq_false, not_false_eq_true] <;> omega)) (by decide) (by decide)
                try simp only [Int32.reduceToInt] at h_235
                refine v_iload hC dX12_row_67 rfl ?_
                obtain ⟨v_236, h_237⟩ : ∃ v9 : Int32, v_233 + i_220 = v9 := ⟨_, rfl⟩
                refine v_iadd hC dX12_row_69 h_237 ?_
                have h_238 := add_v h_237 (by first | omega | (simp only [Int32.lt_iff_toInt_lt, Int32.le_iff_toInt_le, Int32.reduceToInt, ← Int32.toInt_inj, true_and, and_true, or_true, true_or, false_or, or_false, false_and, and_false, not_true_eq_false, not_false_eq_true] <;> omega)) (by first | omega | (simp only [Int32.lt_iff_toInt_lt, Int32.le_iff_toInt_le, Int32.reduceToInt, ← Int32.toInt_inj, true_and, and_true, or_true, true_or, false_or, or_false, false_and, and_false, not_true_eq_false, not_false_eq_true] <;> omega))
                refine v_lconst hC dX12_row_70 (v := 0) (by decide) ?_
                obtain ⟨m_239, t_240⟩ := id k_19
                obtain ⟨g_242, e_241⟩ := hW_222.at m_239 t_240
                refine v_last hC m_239 e_241 (vp_in_iff.mpr (by first | omega | (simp only [Int32.lt_iff_toInt_lt, Int32.le_iff_toInt_le, Int32.reduceToInt, ← Int32.toInt_inj, true_and, and_true, or_true, true_or, false_or, or_false, false_and, and_false, not_true_eq_false, not_false_eq_true] <;> omega))) dX12_row_71 (fun f_243 hf_244 hk_245 => ?_)
                have hW_247 := hW_222.up hf_244 hk_245 t_240 ⟨_, rfl⟩
                obtain ⟨g_246, hf_244⟩ : ∃ g9, f_243 (q 27) = aJ E 240 g9 := ⟨_, hf_244⟩
                have hf_248 := (hk_245 (q 1) (ne_kd hf_224 e_241 rfl)).trans hf_224
                have hf_249 := (hk_245 a_0 (ne_kd hf_225 e_241 rfl)).trans hf_225
                have hf_250 := (hk_245 (q 26) (ne_kd hf_226 e_241 rfl)).trans hf_226
                have fr_251 := FR.w hk_245 e_241 (k := 340) rfl
                obtain ⟨v_252, h_253⟩ : ∃ v9 : Int32, i_220 + Int32.ofInt 1 = v9 := ⟨_, rfl⟩
                have h_254 := add_v (b := 1) h_253 (by first | omega | (simp only [Int32.lt_iff_toInt_lt, Int32.le_iff_toInt_le, Int32.reduceToInt, ← Int32.toInt_inj, true_and, and_true, or_true, true_or, false_or, or_false, false_and, and_false, not_true_eq_false, not_false_eq_true] <;> omega)) (by first | omega | (simp only [Int32.lt_iff_toInt_lt, Int32.le_iff_toInt_le, Int32.reduceToInt, ← Int32.toInt_inj, true_and, and_true, or_true, true_or, false_or, or_false, false_and, and_false, not_true_eq_false, not_false_eq_true] <;> omega))
                simp only [Int32.reduceToInt] at h_254
                refine v_iinc hC dX12_row_72 (k := 0) rfl (v := v_252) h_253 (by decide) (lv' := [(4, .int v_252), (0, .ref a_0), (1, .int a_1)]) rfl ?_
                refine v_goto hC dX12_row_75 (tgt := 52) (by decide) ?_
                refine v_pick [0, 1, 2] rfl ?_
                exact ih_230 f_243 hW_247 ((hF_223.tr fr_251).mono rfl) v_252 (by first | omega | (simp only [Int32.lt_iff_toInt_lt, Int32.le_iff_toInt_le, Int32.reduceToInt, ← Int32.toInt_inj, true_and, and_true, or_true, true_or, false_or, or_false, false_and, and_false, not_true_eq_false, not_false_eq_true] <;> omega)) (by first | omega | (simp only [Int32.lt_iff_toInt_lt, Int32.le_iff_toInt_le, Int32.reduceToInt, ← Int32.toInt_inj, true_and, and_true, or_true, true_or, false_or, or_false, false_and, and_false, not_true_eq_false, not_false_eq_true] <;> omega))
          refine v_pick [0, 1, 2] rfl ?_
          exact lp_228 62 f_86 hW_90 FR.rf 0 (by decide) (by decide)
        · simp only [Int32.lt_iff_toInt_lt, Int32.le_iff_toInt_le, Int32.reduceToInt, ← Int32.toInt_inj] at h_47
          refine v_bipush hC dX12_row_32 (v := (-3)) (by decide) ?_
          exact hR _ _ _ _ _ _ _ dX12_row_34 rfl (Nat.le_of_ble_eq_true rfl) (Nat.le_of_ble_eq_true rfl) ⟨rfl, hW, FR.rf, (by decide), (.inl (by decide)), (.inl (by decide)), (.inl (by decide))⟩
      · simp only [Int32.lt_iff_toInt_lt, Int32.le_iff_toInt_le, Int32.reduceToInt, ← Int32.toInt_inj] at h_46
        refine v_bipush hC dX12_row_25 (v := (-2)) (by decide) ?_
        exact hR _ _ _ _ _ _ _ dX12_row_27 rfl (Nat.le_of_ble_eq_true rfl) (Nat.le_of_ble_eq_true rfl) ⟨rfl, hW, FR.rf, (by decide), (.inl (by decide)), (.inl (by decide)), (.inl (by decide))⟩
set_option maxRecDepth 100000 in
set_option maxHeartbeats 4000000 in
theorem p_X12_cut {l : Launch} {E : Ez} {L : List Nat} {f : Nat → va_E} {T : Nat → va_E → Prop} {a_0 : Int64} {a_1 : Int32} (hW : WT T L f) : CJ l yX12_cut cX12_cut 4 0 0 0 E [.long a_0, .int a_1] L f (fun r L1 f1 => L = L1 ∧ f = f1) := by
  refine cj_of (by decide) (Nat.le_of_ble_eq_true rfl) (fun z hz hnm hC hR => ?_)
  have hC : Cx z E cX12_cut RX12 4 0 0 0 := hC
  subst hz
  show V z E 4 0 0 L f 0 [(0, .long a_0), (2, .int a_1)] []
  refine v_bipush hC dX12_cut_0 (v := 64) (by decide) ?_
  refine v_bipush hC dX12_cut_2 (v := 8) (by decide) ?_
  refine v_iload_n hC dX12_cut_4 rfl ?_
  obtain ⟨v_1, h_2⟩ : ∃ v9 : Int32, (8 : Int32) <<< (a_1 &&& 31) = v9 := ⟨_, rfl⟩
  refine v_ishl hC dX12_cut_5 h_2 ?_
  obtain ⟨v_4, h_5⟩ : ∃ v9 : Int32, (64 : Int32) - v_1 = v9 := ⟨_, rfl⟩
  refine v_isub hC dX12_cut_6 h_5 ?_
  refine v_istore_n hC dX12_cut_7 (by decide) (lv' := [(3, .int v_4), (0, .long a_0), (2, .int a_1)]) rfl ?_
  refine v_lload_n hC dX12_cut_8 rfl ?_
  refine v_iload_n hC dX12_cut_9 rfl ?_
  obtain ⟨v_7, h_8⟩ : ∃ v9 : Int64, (a_0 : Int64) <<< ((v_4 : Int32).toInt64 &&& 63) = v9 := ⟨_, rfl⟩
  refine v_lshl hC dX12_cut_10 h_8 ?_
  refine v_iload_n hC dX12_cut_11 rfl ?_
  obtain ⟨v_9, h_10⟩ : ∃ v9 : Int64, (v_7 : Int64) >>> ((v_4 : Int32).toInt64 &&& 63) = v9 := ⟨_, rfl⟩
  refine v_lshr hC dX12_cut_12 h_10 ?_
  exact hR _ _ _ _ _ _ _ dX12_cut_13 (Nat.le_of_ble_eq_true rfl) (Nat.le_of_ble_eq_true rfl) ⟨rfl, rfl⟩
set_option maxRecDepth 100000 in
set_option maxHeartbeats 4000000 in
theorem p_X12_write {l : Launch} {E : Ez} {L : List Nat} {f : Nat → va_E} {T : Nat → va_E → Prop} {a_0 : Nat} {a_1 : Int32} {a_2 : Int32} {a_3 : Int64} {q : Nat → Nat} {g_w : Nat → Int32} (hW : WT T L f) (k_0 : isM T L E a_0 q) (e_w : f (q 1) = aI E 2076 g_w) (o_w : WOK g_w) : CI l yX12_write cX12_write 5 .int 2 0 0 E [.ref a_0, .int a_1, .int a_2, .long a_3] L f (fun r L1 f1 => L = L1 ∧ WT T L f1 ∧ FR [340] f f1 ∧ ((-7) ≤ r.toInt ∧ r.toInt ≤ 0) ∧ (¬ r.toInt = 0 ∨ (0 ≤ a_1.toInt ∧ a_1.toInt ≤ 3)) ∧ (¬ r.toInt = 0 ∨ (0 ≤ a_2.toInt ∧ a_2.toInt ≤ 59))) := by
  refine ci_of (by decide) (Nat.le_of_ble_eq_true rfl) (fun z hz hnm hC hR => ?_)
  have hC : Cx z E cX12_write RX12 5 2 0 0 := hC
  subst hz
  show V z E 5 0 0 L f 0 [(0, .ref a_0), (1, .int a_1), (2, .int a_2), (3, .long a_3)] []
  obtain ⟨m_1, t_2, k_3, k_4, k_5, k_6, k_7, k_8, k_9, k_10, k_11, k_12, k_13, k_14, k_15, k_16, k_17, k_18, k_19, k_20⟩ := id k_0
  obtain ⟨m_21, t_22⟩ := id k_3
  have b_23 := o_w.r0
  have b_24 := o_w.w0
  refine v_iload_n hC dX12_write_0 rfl ?_
  refine v_si hC (rest := []) mt_X12_isSlot (p_X12_isSlot hW) mx_X12_isSlot ml_X12_425 (by decide) rfl (cells1 := 0) (slots1 := 0) (by decide) (by decide) (Nat.le_of_ble_eq_true rfl) (Nat.le_of_ble_eq_true rfl) rfl (Nat.le_of_ble_eq_true rfl) dX12_write_1 (fun r_25 L_26 f_27 h_28 => ?_)
  obtain ⟨rfl, rfl, b_29, h_30⟩ := h_28
  refine v_if_ne hC dX12_write_4 (tgt := 10) (by decide) (fun h_33 => ?_) (fun h_33 => ?_)
  · simp only [Int32.lt_iff_toInt_lt, Int32.le_iff_toInt_le, Int32.reduceToInt, ← Int32.toInt_inj] at h_33
    refine v_aload_n hC dX12_write_10 rfl ?_
    obtain ⟨v_35, v_36, v_38, v_40, v_42, v_44, v_46, v_47, v_48, v_49, v_51, e_34, b_37, b_39, b_41, b_43, b_45, b_50, b_52⟩ := hW.at m_1 t_2
    refine v_get hC fl_X12_64 m_1 e_34 rfl dX12_write_11 ?_
    refine v_iload_n hC dX12_write_14 rfl ?_
    obtain ⟨m_53, t_54⟩ := id k_17
    obtain ⟨g_56, e_55, ok_57⟩ := hW.at m_53 t_54
    obtain ⟨v_58, h_59⟩ : ∃ v9 : Int32, g_56 (a_1 : Int32).toNatClampNeg = v9 := ⟨_, rfl⟩
    have b_60 := ok_57 (a_1 : Int32).toNatClampNeg (clamp_lt (vp_in_iff.mpr (by first | omega | (simp only [Int32.lt_iff_toInt_lt, Int32.le_iff_toInt_le, Int32.reduceToInt, ← Int32.toInt_inj, true_and, and_true, or_true, true_or, false_or, or_false, false_and, and_false, not_true_eq_false, not_false_eq_true] <;> omega))))
    rw [h_59] at b_60
    refine v_iald hC m_53 e_55 (vp_in_iff.mpr (by first | omega | (simp only [Int32.lt_iff_toInt_lt, Int32.le_iff_toInt_le, Int32.reduceToInt, ← Int32.toInt_inj, true_and, and_true, or_true, true_or, false_or, or_false, false_and, and_false, not_true_eq_false, not_false_eq_true] <;> omega))) h_59 dX12_write_15 ?_
    refine v_iconst hC dX12_write_16 (v := (-1)) (by decide) ?_
    refine v_icmp_ne hC dX12_write_17 (tgt := 23) (by decide) (fun h_61 => ?_) (fun h_61 => ?_)
    · simp only [Int32.lt_iff_toInt_lt, Int32.le_iff_toInt_le, Int32.reduceToInt, ← Int32.toInt_inj] at h_61
      refine v_iload_n hC dX12_write_23 rfl ?_
      obtain ⟨v_62, h_63⟩ : ∃ v9 : Int64, a_2.toInt64 = v9 := ⟨_, rfl⟩
      refine v_i2l hC dX12_write_24 h_63 ?_
      have h_64 : v_62.toInt = a_2.toInt := by rw [← h_63]; exact Int32.toInt_toInt64 _
      refine v_lconst hC dX12_write_25 (v := 0) (by decide) ?_
      refine v_aload_n hC dX12_write_26 rfl ?_
      refine v_get hC fl_X12_64 m_1 e_34 rfl dX12_write_27 ?_
      refine v_iload_n hC dX12_write_30 rfl ?_
      obtain ⟨v_65, h_66⟩ : ∃ v9 : Int32, g_56 (a_1 : Int32).toNatClampNeg = v9 := ⟨_, rfl⟩
      have b_67 := ok_57 (a_1 : Int32).toNatClampNeg (clamp_lt (vp_in_iff.mpr (by first | omega | (simp only [Int32.lt_iff_toInt_lt, Int32.le_iff_toInt_le, Int32.reduceToInt, ← Int32.toInt_inj, true_and, and_true, or_true, true_or, false_or, or_false, false_and, and_false, not_true_eq_false, not_false_eq_true] <;> omega))))
      rw [h_66] at b_67
      refine v_iald hC m_53 e_55 (vp_in_iff.mpr (by first | omega | (simp only [Int32.lt_iff_toInt_lt, Int32.le_iff_toInt_le, Int32.reduceToInt, ← Int32.toInt_inj, true_and, and_true, or_true, true_or, false_or, or_false, false_and, and_false, not_true_eq_false, not_false_eq_true] <;> omega))) h_66 dX12_write_31 ?_
      refine v_iconst hC dX12_write_32 (v := 1) (by decide) ?_
      obtain ⟨v_68, h_69⟩ : ∃ v9 : Int32, v_65 - 1 = v9 := ⟨_, rfl⟩
      refine v_isub hC dX12_write_33 h_69 ?_
      have h_70 := sub_v h_69 (by first | omega | (simp only [Int32.lt_iff_toInt_lt, Int32.le_iff_toInt_le, Int32.reduceToInt, ← Int32.toInt_inj, true_and, and_true, or_true, true_or, false_or, or_false, false_and, and_false, not_true_eq_false, not_false_eq_true] <;> omega)) (by first | omega | (simp only [Int32.lt_iff_toInt_lt, Int32.le_iff_toInt_le, Int32.reduceToInt, ← Int32.toInt_inj, true_and, and_true, or_true, true_or, false_or, or_false, false_and, and_false, not_true_eq_false, not_false_eq_true] <;> omega))
      try simp only [Int32.reduceToInt] at h_70
      obtain ⟨v_71, h_72⟩ : ∃ v9 : Int64, v_68.toInt64 = v9 := ⟨_, rfl⟩
      refine v_i2l hC dX12_write_34 h_72 ?_
      have h_73 : v_71.toInt = v_68.toInt := by rw [← h_72]; exact Int32.toInt_toInt64 _
      refine v_si hC (rest := []) mt_X12_in (p_X12_in hW) mx_X12_in ml_X12_79 (by decide) rfl (cells1 := 0) (slots1 := 0) (by decide) (by decide) (Nat.le_of_ble_eq_true rfl) (Nat.le_of_ble_eq_true rfl) rfl (Nat.le_of_ble_eq_true rfl) dX12_write_35 (fun r_74 L_75 f_76 h_77 => ?_)
      obtain ⟨rfl, rfl, b_78, x_79⟩ := h_77
      try simp only [Int32.reduceToInt, Int64.reduceToInt] at x_79
      refine v_if_ne hC dX12_write_38 (tgt := 44) (by decide) (fun h_82 => ?_) (fun h_82 => ?_)
      · simp only [Int32.lt_iff_toInt_lt, Int32.le_iff_toInt_le, Int32.reduceToInt, ← Int32.toInt_inj] at h_82
        refine v_aload_n hC dX12_write_44 rfl ?_
        refine v_get hC fl_X12_70 m_1 e_34 rfl dX12_write_45 ?_
        refine v_bipush hC dX12_write_48 (v := 60) (by decide) ?_
        refine v_iload_n hC dX12_write_50 rfl ?_
        obtain ⟨v_83, h_84⟩ : ∃ v9 : Int32, (60 : Int32) * a_1 = v9 := ⟨_, rfl⟩
        refine v_imul hC dX12_write_51 h_84 ?_
        have h_85 := mul_v 60 3 180 h_84 (by decide) (by first | omega | (simp only [Int32.lt_iff_toInt_lt, Int32.le_iff_toInt_le, Int32.reduceToInt, ← Int32.toInt_inj, true_and, and_true, or_true, true_or, false_or, or_false, false_and, and_false, not_true_eq_false, not_false_eq_true] <;> omega)) (by decide) (by decide)
        try simp only [Int32.reduceToInt] at h_85
        refine v_iload_n hC dX12_write_52 rfl ?_
        obtain ⟨v_86, h_87⟩ : ∃ v9 : Int32, v_83 + a_2 = v9 := ⟨_, rfl⟩
        refine v_iadd hC dX12_write_53 h_87 ?_
        have h_88 := add_v h_87 (by first | omega | (simp only [Int32.lt_iff_toInt_lt, Int32.le_iff_toInt_le, Int32.reduceToInt, ← Int32.toInt_inj, true_and, and_true, or_true, true_or, false_or, or_false, false_and, and_false, not_true_eq_false, not_false_eq_true] <;> omega)) (by first | omega | (simp only [Int32.lt_iff_toInt_lt, Int32.le_iff_toInt_le, Int32.reduceToInt, ← Int32.toInt_inj, true_and, and_true, or_true, true_or, false_or, or_false, false_and, and_false, not_true_eq_false, not_false_eq_true] <;> omega))
        refine v_lload_n hC dX12_write_54 rfl ?_
        refine v_aload_n hC dX12_write_55 rfl ?_
        refine v_get hC fl_X12_67 m_1 e_34 rfl dX12_write_56 ?_
        refine v_iload_n hC dX12_write_59 rfl ?_
        obtain ⟨m_89, t_90⟩ := id k_18
        obtain ⟨g_92, e_91⟩ := hW.at m_89 t_90
        obtain ⟨v_93, h_94⟩ : ∃ v9 : Int32, g_92 (a_1 : Int32).toNatClampNeg = v9 := ⟨_, rfl⟩
        refine v_iald hC m_89 e_91 (vp_in_iff.mpr (by first | omega | (simp only [Int32.lt_iff_toInt_lt, Int32.le_iff_toInt_le, Int32.reduceToInt, ← Int32.toInt_inj, true_and, and_true, or_true, true_or, false_or, or_false, false_and, and_false, not_true_eq_false, not_false_eq_true] <;> omega))) h_94 dX12_write_60 ?_
        refine v_sj hC (rest := [.int v_86, .ref (q 27)]) mt_X12_cut (p_X12_cut hW) mx_X12_cut ml_X12_428 (by decide) rfl (cells1 := 0) (slots1 := 0) (by decide) (by decide) (Nat.le_of_ble_eq_true rfl) (Nat.le_of_ble_eq_true rfl) rfl (Nat.le_of_ble_eq_true rfl) dX12_write_61 (fun r_95 L_96 f_97 h_98 => ?_)
        obtain ⟨rfl, rfl⟩ := h_98
        obtain ⟨m_101, t_102⟩ := id k_19
        obtain ⟨g_104, e_103⟩ := hW.at m_101 t_102
        refine v_last hC m_101 e_103 (vp_in_iff.mpr (by first | omega | (simp only [Int32.lt_iff_toInt_lt, Int32.le_iff_toInt_le, Int32.reduceToInt, ← Int32.toInt_inj, true_and, and_true, or_true, true_or, false_or, or_false, false_and, and_false, not_true_eq_false, not_false_eq_true] <;> omega))) dX12_write_64 (fun f_105 hf_106 hk_107 => ?_)
        have hW_109 := hW.up hf_106 hk_107 t_102 ⟨_, rfl⟩
        obtain ⟨g_108, hf_106⟩ : ∃ g9, f_105 (q 27) = aJ E 240 g9 := ⟨_, hf_106⟩
        have hf_110 := (hk_107 (q 1) (ne_kd e_w e_103 rfl)).trans e_w
        have hf_111 := (hk_107 a_0 (ne_kd e_34 e_103 rfl)).trans e_34
        have hf_112 := (hk_107 (q 25) (ne_kd e_55 e_103 rfl)).trans e_55
        have hf_113 := (hk_107 (q 26) (ne_kd e_91 e_103 rfl)).trans e_91
        have fr_114 := FR.w hk_107 e_103 (k := 340) rfl
        refine v_iconst hC dX12_write_65 (v := 0) (by decide) ?_
        exact hR _ _ _ _ _ _ _ dX12_write_66 rfl (Nat.le_of_ble_eq_true rfl) (Nat.le_of_ble_eq_true rfl) ⟨rfl, hW_109, (fr_114.mono rfl), (by decide), (.inr (by first | omega | (simp only [Int32.lt_iff_toInt_lt, Int32.le_iff_toInt_le, Int32.reduceToInt, ← Int32.toInt_inj, true_and, and_true, or_true, true_or, false_or, or_false, false_and, and_false, not_true_eq_false, not_false_eq_true] <;> omega))), (.inr (by first | omega | (simp only [Int32.lt_iff_toInt_lt, Int32.le_iff_toInt_le, Int32.reduceToInt, ← Int32.toInt_inj, true_and, and_true, or_true, true_or, false_or, or_false, false_and, and_false, not_true_eq_false, not_false_eq_true] <;> omega)))⟩
      · simp only [Int32.lt_iff_toInt_lt, Int32.le_iff_toInt_le, Int32.reduceToInt, ← Int32.toInt_inj] at h_82
        refine v_bipush hC dX12_write_41 (v := (-7)) (by decide) ?_
        exact hR _ _ _ _ _ _ _ dX12_write_43 rfl (Nat.le_of_ble_eq_true rfl) (Nat.le_of_ble_eq_true rfl) ⟨rfl, hW, FR.rf, (by decide), (.inl (by decide)), (.inl (by decide))⟩
    · simp only [Int32.lt_iff_toInt_lt, Int32.le_iff_toInt_le, Int32.reduceToInt, ← Int32.toInt_inj] at h_61
      refine v_bipush hC dX12_write_20 (v := (-6)) (by decide) ?_
      exact hR _ _ _ _ _ _ _ dX12_write_22 rfl (Nat.le_of_ble_eq_true rfl) (Nat.le_of_ble_eq_true rfl) ⟨rfl, hW, FR.rf, (by decide), (.inl (by decide)), (.inl (by decide))⟩
  · simp only [Int32.lt_iff_toInt_lt, Int32.le_iff_toInt_le, Int32.reduceToInt, ← Int32.toInt_inj] at h_33
    refine v_bipush hC dX12_write_7 (v := (-2)) (by decide) ?_
    exact hR _ _ _ _ _ _ _ dX12_write_9 rfl (Nat.le_of_ble_eq_true rfl) (Nat.le_of_ble_eq_true rfl) ⟨rfl, hW, FR.rf, (by decide), (.inl (by decide)), (.inl (by decide))⟩
set_option maxRecDepth 100000 in
set_option maxHeartbeats 4000000 in
theorem p_X12_paste {l : Launch} {E : Ez} {L : List Nat} {f : Nat → va_E} {T : Nat → va_E → Prop} {a_0 : Nat} {a_1 : Int32} {a_2 : Int32} {a_3 : Int32} {a_4 : Int32} {a_5 : Int32} {q : Nat → Nat} {g_w : Nat → Int32} (hW : WT T L f) (k_0 : isM T L E a_0 q) (e_w : f (q 1) = aI E 2076 g_w) (o_w : WOK g_w) : CI l yX12_paste cX12_paste 7 .int 2 0 0 E [.ref a_0, .int a_1, .int a_2, .int a_3, .int a_4, .int a_5] L f (fun r L1 f1 => L = L1 ∧ WT T L f1 ∧ FR [160, 340] f f1 ∧ ((-8) ≤ r.toInt ∧ r.toInt ≤ 0) ∧ (¬ r.toInt = 0 ∨ (0 ≤ a_1.toInt ∧ a_1.toInt ≤ 3)) ∧ (¬ r.toInt = 0 ∨ (0 ≤ a_2.toInt ∧ a_2.toInt ≤ 60)) ∧ (¬ r.toInt = 0 ∨ (0 ≤ a_3.toInt ∧ a_3.toInt ≤ 3)) ∧ (¬ r.toInt = 0 ∨ (0 ≤ a_4.toInt ∧ a_4.toInt ≤ 60)) ∧ (¬ r.toInt = 0 ∨ (0 ≤ a_5.toInt ∧ a_5.toInt ≤ 60))) := by
  refine ci_of (by decide) (Nat.le_of_ble_eq_true rfl) (fun z hz hnm hC hR => ?_)
  have hC : Cx z E cX12_paste RX12 7 2 0 0 := hC
  subst hz
  show V z E 7 0 0 L f 0 [(0, .ref a_0), (1, .int a_1), (2, .int a_2), (3, .int a_3), (4, .int a_4), (5, .int a_5)] []
  obtain ⟨m_1, t_2, k_3, k_4, k_5, k_6, k_7, k_8, k_9, k_10, k_11, k_12, k_13, k_14, k_15, k_16, k_17, k_18, k_19, k_20⟩ := id k_0
  obtain ⟨m_21, t_22⟩ := id k_3
  have b_23 := o_w.r0
  have b_24 := o_w.w0
  refine v_iload_n hC dX12_paste_0 rfl ?_
  refine v_si hC (rest := []) mt_X12_isSlot (p_X12_isSlot hW) mx_X12_isSlot ml_X12_425 (by decide) rfl (cells1 := 0) (slots1 := 0) (by decide) (by decide) (Nat.le_of_ble_eq_true rfl) (Nat.le_of_ble_eq_true rfl) rfl (Nat.le_of_ble_eq_true rfl) dX12_paste_1 (fun r_25 L_26 f_27 h_28 => ?_)
  obtain ⟨rfl, rfl, b_29, h_30⟩ := h_28
  refine v_if_eq hC dX12_paste_4 (tgt := 14) (by decide) (fun h_33 => ?_) (fun h_33 => ?_)
  · simp only [Int32.lt_iff_toInt_lt, Int32.le_iff_toInt_le, Int32.reduceToInt, ← Int32.toInt_inj] at h_33
    refine v_bipush hC dX12_paste_14 (v := (-2)) (by decide) ?_
    exact hR _ _ _ _ _ _ _ dX12_paste_16 rfl (Nat.le_of_ble_eq_true rfl) (Nat.le_of_ble_eq_true rfl) ⟨rfl, hW, FR.rf, (by decide), (.inl (by decide)), (.inl (by decide)), (.inl (by decide)), (.inl (by decide)), (.inl (by decide))⟩
  · simp only [Int32.lt_iff_toInt_lt, Int32.le_iff_toInt_le, Int32.reduceToInt, ← Int32.toInt_inj] at h_33
    refine v_iload_n hC dX12_paste_7 rfl ?_
    refine v_si hC (rest := []) mt_X12_isSlot (p_X12_isSlot hW) mx_X12_isSlot ml_X12_425 (by decide) rfl (cells1 := 0) (slots1 := 0) (by decide) (by decide) (Nat.le_of_ble_eq_true rfl) (Nat.le_of_ble_eq_true rfl) rfl (Nat.le_of_ble_eq_true rfl) dX12_paste_8 (fun r_34 L_35 f_36 h_37 => ?_)
    obtain ⟨rfl, rfl, b_38, h_39⟩ := h_37
    refine v_if_ne hC dX12_paste_11 (tgt := 17) (by decide) (fun h_42 => ?_) (fun h_42 => ?_)
    · simp only [Int32.lt_iff_toInt_lt, Int32.le_iff_toInt_le, Int32.reduceToInt, ← Int32.toInt_inj] at h_42
      refine v_aload_n hC dX12_paste_17 rfl ?_
      obtain ⟨v_44, v_45, v_47, v_49, v_51, v_53, v_55, v_56, v_57, v_58, v_60, e_43, b_46, b_48, b_50, b_52, b_54, b_59, b_61⟩ := hW.at m_1 t_2
      refine v_get hC fl_X12_64 m_1 e_43 rfl dX12_paste_18 ?_
      refine v_iload_n hC dX12_paste_21 rfl ?_
      obtain ⟨m_62, t_63⟩ := id k_17
      obtain ⟨g_65, e_64, ok_66⟩ := hW.at m_62 t_63
      obtain ⟨v_67, h_68⟩ : ∃ v9 : Int32, g_65 (a_1 : Int32).toNatClampNeg = v9 := ⟨_, rfl⟩
      have b_69 := ok_66 (a_1 : Int32).toNatClampNeg (clamp_lt (vp_in_iff.mpr (by first | omega | (simp only [Int32.lt_iff_toInt_lt, Int32.le_iff_toInt_le, Int32.reduceToInt, ← Int32.toInt_inj, true_and, and_true, or_true, true_or, false_or, or_false, false_and, and_false, not_true_eq_false, not_false_eq_true] <;> omega))))
      rw [h_68] at b_69
      refine v_iald hC m_62 e_64 (vp_in_iff.mpr (by first | omega | (simp only [Int32.lt_iff_toInt_lt, Int32.le_iff_toInt_le, Int32.reduceToInt, ← Int32.toInt_inj, true_and, and_true, or_true, true_or, false_or, or_false, false_and, and_false, not_true_eq_false, not_false_eq_true] <;> omega))) h_68 dX12_paste_22 ?_
      refine v_iconst hC dX12_paste_23 (v := (-1)) (by decide) ?_
      refine v_icmp_eq hC dX12_paste_24 (tgt := 37) (by decide) (fun h_70 => ?_) (fun h_70 => ?_)
      · simp only [Int32.lt_iff_toInt_lt, Int32.le_iff_toInt_le, Int32.reduceToInt, ← Int32.toInt_inj] at h_70
        refine v_bipush hC dX12_paste_37 (v := (-6)) (by decide) ?_
        exact hR _ _ _ _ _ _ _ dX12_paste_39 rfl (Nat.le_of_ble_eq_true rfl) (Nat.le_of_ble_eq_true rfl) ⟨rfl, hW, FR.rf, (by decide), (.inl (by decide)), (.inl (by decide)), (.inl (by decide)), (.inl (by decide)), (.inl (by decide))⟩
      · simp only [Int32.lt_iff_toInt_lt, Int32.le_iff_toInt_le, Int32.reduceToInt, ← Int32.toInt_inj] at h_70
        refine v_aload_n hC dX12_paste_27 rfl ?_
        refine v_get hC fl_X12_64 m_1 e_43 rfl dX12_paste_28 ?_
        refine v_iload_n hC dX12_paste_31 rfl ?_
        obtain ⟨v_71, h_72⟩ : ∃ v9 : Int32, g_65 (a_3 : Int32).toNatClampNeg = v9 := ⟨_, rfl⟩
        have b_73 := ok_66 (a_3 : Int32).toNatClampNeg (clamp_lt (vp_in_iff.mpr (by first | omega | (simp only [Int32.lt_iff_toInt_lt, Int32.le_iff_toInt_le, Int32.reduceToInt, ← Int32.toInt_inj, true_and, and_true, or_true, true_or, false_or, or_false, false_and, and_false, not_true_eq_false, not_false_eq_true] <;> omega))))
        rw [h_72] at b_73
        refine v_iald hC m_62 e_64 (vp_in_iff.mpr (by first | omega | (simp only [Int32.lt_iff_toInt_lt, Int32.le_iff_toInt_le, Int32.reduceToInt, ← Int32.toInt_inj, true_and, and_true, or_true, true_or, false_or, or_false, false_and, and_false, not_true_eq_false, not_false_eq_true] <;> omega))) h_72 dX12_paste_32 ?_
        refine v_iconst hC dX12_paste_33 (v := (-1)) (by decide) ?_
        refine v_icmp_ne hC dX12_paste_34 (tgt := 40) (by decide) (fun h_74 => ?_) (fun h_74 => ?_)
        · simp only [Int32.lt_iff_toInt_lt, Int32.le_iff_toInt_le, Int32.reduceToInt, ← Int32.toInt_inj] at h_74
          refine v_aload_n hC dX12_paste_40 rfl ?_
          refine v_get hC fl_X12_67 m_1 e_43 rfl dX12_paste_41 ?_
          refine v_iload_n hC dX12_paste_44 rfl ?_
          obtain ⟨m_75, t_76⟩ := id k_18
          obtain ⟨g_78, e_77⟩ := hW.at m_75 t_76
          obtain ⟨v_79, h_80⟩ : ∃ v9 : Int32, g_78 (a_1 : Int32).toNatClampNeg = v9 := ⟨_, rfl⟩
          refine v_iald hC m_75 e_77 (vp_in_iff.mpr (by first | omega | (simp only [Int32.lt_iff_toInt_lt, Int32.le_iff_toInt_le, Int32.reduceToInt, ← Int32.toInt_inj, true_and, and_true, or_true, true_or, false_or, or_false, false_and, and_false, not_true_eq_false, not_false_eq_true] <;> omega))) h_80 dX12_paste_45 ?_
          refine v_aload_n hC dX12_paste_46 rfl ?_
          refine v_get hC fl_X12_67 m_1 e_43 rfl dX12_paste_47 ?_
          refine v_iload_n hC dX12_paste_50 rfl ?_
          obtain ⟨v_81, h_82⟩ : ∃ v9 : Int32, g_78 (a_3 : Int32).toNatClampNeg = v9 := ⟨_, rfl⟩
          refine v_iald hC m_75 e_77 (vp_in_iff.mpr (by first | omega | (simp only [Int32.lt_iff_toInt_lt, Int32.le_iff_toInt_le, Int32.reduceToInt, ← Int32.toInt_inj, true_and, and_true, or_true, true_or, false_or, or_false, false_and, and_false, not_true_eq_false, not_false_eq_true] <;> omega))) h_82 dX12_paste_51 ?_
          refine v_icmp_eq hC dX12_paste_52 (tgt := 58) (by decide) (fun h_83 => ?_) (fun h_83 => ?_)
          · simp only [Int32.lt_iff_toInt_lt, Int32.le_iff_toInt_le, Int32.reduceToInt, ← Int32.toInt_inj] at h_83
            refine v_iload_n hC dX12_paste_58 rfl ?_
            refine v_if_lt hC dX12_paste_59 (tgt := 107) (by decide) (fun h_84 => ?_) (fun h_84 => ?_)
            · simp only [Int32.lt_iff_toInt_lt, Int32.le_iff_toInt_le, Int32.reduceToInt, ← Int32.toInt_inj] at h_84
              refine v_bipush hC dX12_paste_107 (v := (-7)) (by decide) ?_
              exact hR _ _ _ _ _ _ _ dX12_paste_109 rfl (Nat.le_of_ble_eq_true rfl) (Nat.le_of_ble_eq_true rfl) ⟨rfl, hW, FR.rf, (by decide), (.inl (by decide)), (.inl (by decide)), (.inl (by decide)), (.inl (by decide)), (.inl (by decide))⟩
            · simp only [Int32.lt_iff_toInt_lt, Int32.le_iff_toInt_le, Int32.reduceToInt, ← Int32.toInt_inj] at h_84
              refine v_iload hC dX12_paste_62 rfl ?_
              refine v_if_lt hC dX12_paste_64 (tgt := 107) (by decide) (fun h_85 => ?_) (fun h_85 => ?_)
              · simp only [Int32.lt_iff_toInt_lt, Int32.le_iff_toInt_le, Int32.reduceToInt, ← Int32.toInt_inj] at h_85
                refine v_bipush hC dX12_paste_107 (v := (-7)) (by decide) ?_
                exact hR _ _ _ _ _ _ _ dX12_paste_109 rfl (Nat.le_of_ble_eq_true rfl) (Nat.le_of_ble_eq_true rfl) ⟨rfl, hW, FR.rf, (by decide), (.inl (by decide)), (.inl (by decide)), (.inl (by decide)), (.inl (by decide)), (.inl (by decide))⟩
              · simp only [Int32.lt_iff_toInt_lt, Int32.le_iff_toInt_le, Int32.reduceToInt, ← Int32.toInt_inj] at h_85
                refine v_iload hC dX12_paste_67 rfl ?_
                refine v_if_lt hC dX12_paste_69 (tgt := 107) (by decide) (fun h_86 => ?_) (fun h_86 => ?_)
                · simp only [Int32.lt_iff_toInt_lt, Int32.le_iff_toInt_le, Int32.reduceToInt, ← Int32.toInt_inj] at h_86
                  refine v_bipush hC dX12_paste_107 (v := (-7)) (by decide) ?_
                  exact hR _ _ _ _ _ _ _ dX12_paste_109 rfl (Nat.le_of_ble_eq_true rfl) (Nat.le_of_ble_eq_true rfl) ⟨rfl, hW, FR.rf, (by decide), (.inl (by decide)), (.inl (by decide)), (.inl (by decide)), (.inl (by decide)), (.inl (by decide))⟩
                · simp only [Int32.lt_iff_toInt_lt, Int32.le_iff_toInt_le, Int32.reduceToInt, ← Int32.toInt_inj] at h_86
                  refine v_iload_n hC dX12_paste_72 rfl ?_
                  obtain ⟨v_87, h_88⟩ : ∃ v9 : Int64, a_2.toInt64 = v9 := ⟨_, rfl⟩
                  refine v_i2l hC dX12_paste_73 h_88 ?_
                  have h_89 : v_87.toInt = a_2.toInt := by rw [← h_88]; exact Int32.toInt_toInt64 _
                  refine v_iload hC dX12_paste_74 rfl ?_
                  obtain ⟨v_90, h_91⟩ : ∃ v9 : Int64, a_5.toInt64 = v9 := ⟨_, rfl⟩
                  refine v_i2l hC dX12_paste_76 h_91 ?_
                  have h_92 : v_90.toInt = a_5.toInt := by rw [← h_91]; exact Int32.toInt_toInt64 _
                  obtain ⟨v_93, h_94⟩ : ∃ v9 : Int64, v_87 + v_90 = v9 := ⟨_, rfl⟩
                  refine v_ladd hC dX12_paste_77 h_94 ?_
                  have h_95 := ladd_v h_94 h_88 h_91
                  refine v_aload_n hC dX12_paste_78 rfl ?_
                  refine v_get hC fl_X12_64 m_1 e_43 rfl dX12_paste_79 ?_
                  refine v_iload_n hC dX12_paste_82 rfl ?_
                  obtain ⟨v_96, h_97⟩ : ∃ v9 : Int32, g_65 (a_1 : Int32).toNatClampNeg = v9 := ⟨_, rfl⟩
                  have b_98 := ok_66 (a_1 : Int32).toNatClampNeg (clamp_lt (vp_in_iff.mpr (by first | omega | (simp only [Int32.lt_iff_toInt_lt, Int32.le_iff_toInt_le, Int32.reduceToInt, ← Int32.toInt_inj, true_and, and_true, or_true, true_or, false_or, or_false, false_and, and_false, not_true_eq_false, not_false_eq_true] <;> omega))))
                  rw [h_97] at b_98
                  refine v_iald hC m_62 e_64 (vp_in_iff.mpr (by first | omega | (simp only [Int32.lt_iff_toInt_lt, Int32.le_iff_toInt_le, Int32.reduceToInt, ← Int32.toInt_inj, true_and, and_true, or_true, true_or, false_or, or_false, false_and, and_false, not_true_eq_false, not_false_eq_true] <;> omega))) h_97 dX12_paste_83 ?_
                  obtain ⟨v_99, h_100⟩ : ∃ v9 : Int64, v_96.toInt64 = v9 := ⟨_, rfl⟩
                  refine v_i2l hC dX12_paste_84 h_100 ?_
                  have h_101 : v_99.toInt = v_96.toInt := by rw [← h_100]; exact Int32.toInt_toInt64 _
                  obtain ⟨v_102, h_103⟩ : ∃ v9 : Int32, lg_cmp (v_93 : Int64) v_99 = v9 := ⟨_, rfl⟩
                  refine v_lcmp hC dX12_paste_85 h_103 ?_
                  refine v_if_gt hC dX12_paste_86 (tgt := 107) (by decide) (fun h_104 => ?_) (fun h_104 => ?_)
                  · rw [← h_103] at h_104
                    have h_105 := (lgc_gt.mp h_104)
                    simp only [Int64.lt_iff_toInt_lt, Int64.le_iff_toInt_le] at h_105
                    refine v_bipush hC dX12_paste_107 (v := (-7)) (by decide) ?_
                    exact hR _ _ _ _ _ _ _ dX12_paste_109 rfl (Nat.le_of_ble_eq_true rfl) (Nat.le_of_ble_eq_true rfl) ⟨rfl, hW, FR.rf, (by decide), (.inl (by decide)), (.inl (by decide)), (.inl (by decide)), (.inl (by decide)), (.inl (by decide))⟩
                  · rw [← h_103] at h_104
                    have h_106 := (mt lgc_gt.mpr h_104)
                    simp only [Int64.lt_iff_toInt_lt, Int64.le_iff_toInt_le] at h_106
                    refine v_iload hC dX12_paste_89 rfl ?_
                    obtain ⟨v_107, h_108⟩ : ∃ v9 : Int64, a_4.toInt64 = v9 := ⟨_, rfl⟩
                    refine v_i2l hC dX12_paste_91 h_108 ?_
                    have h_109 : v_107.toInt = a_4.toInt := by rw [← h_108]; exact Int32.toInt_toInt64 _
                    refine v_iload hC dX12_paste_92 rfl ?_
                    obtain ⟨v_110, h_111⟩ : ∃ v9 : Int64, a_5.toInt64 = v9 := ⟨_, rfl⟩
                    refine v_i2l hC dX12_paste_94 h_111 ?_
                    have h_112 : v_110.toInt = a_5.toInt := by rw [← h_111]; exact Int32.toInt_toInt64 _
                    obtain ⟨v_113, h_114⟩ : ∃ v9 : Int64, v_107 + v_110 = v9 := ⟨_, rfl⟩
                    refine v_ladd hC dX12_paste_95 h_114 ?_
                    have h_115 := ladd_v h_114 h_108 h_111
                    refine v_aload_n hC dX12_paste_96 rfl ?_
                    refine v_get hC fl_X12_64 m_1 e_43 rfl dX12_paste_97 ?_
                    refine v_iload_n hC dX12_paste_100 rfl ?_
                    obtain ⟨v_116, h_117⟩ : ∃ v9 : Int32, g_65 (a_3 : Int32).toNatClampNeg = v9 := ⟨_, rfl⟩
                    have b_118 := ok_66 (a_3 : Int32).toNatClampNeg (clamp_lt (vp_in_iff.mpr (by first | omega | (simp only [Int32.lt_iff_toInt_lt, Int32.le_iff_toInt_le, Int32.reduceToInt, ← Int32.toInt_inj, true_and, and_true, or_true, true_or, false_or, or_false, false_and, and_false, not_true_eq_false, not_false_eq_true] <;> omega))))
                    rw [h_117] at b_118
                    refine v_iald hC m_62 e_64 (vp_in_iff.mpr (by first | omega | (simp only [Int32.lt_iff_toInt_lt, Int32.le_iff_toInt_le, Int32.reduceToInt, ← Int32.toInt_inj, true_and, and_true, or_true, true_or, false_or, or_false, false_and, and_false, not_true_eq_false, not_false_eq_true] <;> omega))) h_117 dX12_paste_101 ?_
                    obtain ⟨v_119, h_120⟩ : ∃ v9 : Int64, v_116.toInt64 = v9 := ⟨_, rfl⟩
                    refine v_i2l hC dX12_paste_102 h_120 ?_
                    have h_121 : v_119.toInt = v_116.toInt := by rw [← h_120]; exact Int32.toInt_toInt64 _
                    obtain ⟨v_122, h_123⟩ : ∃ v9 : Int32, lg_cmp (v_113 : Int64) v_119 = v9 := ⟨_, rfl⟩
                    refine v_lcmp hC dX12_paste_103 h_123 ?_
                    refine v_if_le hC dX12_paste_104 (tgt := 110) (by decide) (fun h_124 => ?_) (fun h_124 => ?_)
                    · rw [← h_123] at h_124
                      have h_125 := (lgc_le.mp h_124)
                      simp only [Int64.lt_iff_toInt_lt, Int64.le_iff_toInt_le] at h_125
                      have b_127 : 0 ≤ a_2.toInt ∧ a_2.toInt ≤ 60 := by omega
                      have b_128 : 0 ≤ a_4.toInt ∧ a_4.toInt ≤ 60 := by omega
                      have b_129 : 0 ≤ a_5.toInt ∧ a_5.toInt ≤ 60 := by omega
                      refine v_iconst hC dX12_paste_110 (v := 0) (by decide) ?_
                      refine v_istore hC dX12_paste_111 (by decide) (lv' := [(6, .int 0), (0, .ref a_0), (1, .int a_1), (2, .int a_2), (3, .int a_3), (4, .int a_4), (5, .int a_5)]) rfl ?_
                      have lp_1333 : ∀ (n_1334 : Nat) (f_1325 : Nat → va_E) (hW_1326 : WT T L f_1325) (hF_1327 : FR [160] f f_1325) (i_1324 : Int32) (b_1332 : (0 ≤ i_1324.toInt ∧ i_1324.toInt ≤ 60)) (hm_1336 : 60 - i_1324.toInt < (n_1334 : Int)), V z E 7 0 0 L f_1325 113 [(6, .int i_1324), (0, .ref a_0), (1, .int a_1), (2, .int a_2), (3, .int a_3), (4, .int a_4), (5, .int a_5)] [] := by
                        intro n_1334
                        induction n_1334 with
                        | zero =>
                          intro f_1325 hW_1326 hF_1327 i_1324 b_1332 hm_1336
                          have hf_1328 := hF_1327.at e_w rfl
                          have hf_1329 := hF_1327.at e_43 rfl
                          have hf_1330 := hF_1327.at e_64 rfl
                          have hf_1331 := hF_1327.at e_77 rfl
                          exfalso; omega
                        | succ n_1334 ih_1335 =>
                          intro f_1325 hW_1326 hF_1327 i_1324 b_1332 hm_1336
                          have hf_1328 := hF_1327.at e_w rfl
                          have hf_1329 := hF_1327.at e_43 rfl
                          have hf_1330 := hF_1327.at e_64 rfl
                          have hf_1331 := hF_1327.at e_77 rfl
                          refine v_iload hC dX12_paste_113 rfl ?_
                          refine v_iload hC dX12_paste_115 rfl ?_
                          refine v_icmp_ge hC dX12_paste_117 (tgt := 147) (by decide) (fun h_1337 => ?_) (fun h_1337 => ?_)
                          · simp only [Int32.lt_iff_toInt_lt, Int32.le_iff_toInt_le, Int32.reduceToInt, ← Int32.toInt_inj] at h_1337
                            refine v_iconst hC dX12_paste_147 (v := 0) (by decide) ?_
                            refine v_istore hC dX12_paste_148 (by decide) (lv' := [(6, .int 0), (0, .ref a_0), (1, .int a_1), (2, .int a_2), (3, .int a_3), (4, .int a_4), (5, .int a_5)]) rfl ?_
                            have lp_1554 : ∀ (n_1555 : Nat) (f_1546 : Nat → va_E) (hW_1547 : WT T L f_1546) (hF_1548 : FR [340] f_1325 f_1546) (i_1545 : Int32) (b_1553 : (0 ≤ i_1545.toInt ∧ i_1545.toInt ≤ 60)) (hm_1557 : 60 - i_1545.toInt < (n_1555 : Int)), V z E 7 0 0 L f_1546 150 [(6, .int i_1545), (0, .ref a_0), (3, .int a_3), (4, .int a_4), (5, .int a_5)] [] := by
                              intro n_1555
                              induction n_1555 with
                              | zero =>
                                intro f_1546 hW_1547 hF_1548 i_1545 b_1553 hm_1557
                                have hf_1549 := hF_1548.at hf_1328 rfl
                                have hf_1550 := hF_1548.at hf_1329 rfl
                                have hf_1551 := hF_1548.at hf_1330 rfl
                                have hf_1552 := hF_1548.at hf_1331 rfl
                                exfalso; omega
                              | succ n_1555 ih_1556 =>
                                intro f_1546 hW_1547 hF_1548 i_1545 b_1553 hm_1557
                                have hf_1549 := hF_1548.at hf_1328 rfl
                                have hf_1550 := hF_1548.at hf_1329 rfl
                                have hf_1551 := hF_1548.at hf_1330 rfl
                                have hf_1552 := hF_1548.at hf_1331 rfl
                                refine v_iload hC dX12_paste_150 rfl ?_
                                refine v_iload hC dX12_paste_152 rfl ?_
                                refine v_icmp_ge hC dX12_paste_154 (tgt := 185) (by decide) (fun h_1558 => ?_) (fun h_1558 => ?_)
                                · simp only [Int32.lt_iff_toInt_lt, Int32.le_iff_toInt_le, Int32.reduceToInt, ← Int32.toInt_inj] at h_1558
                                  refine v_iconst hC dX12_paste_185 (v := 0) (by decide) ?_
                                  exact hR _ _ _ _ _ _ _ dX12_paste_186 rfl (Nat.le_of_ble_eq_true rfl) (Nat.le_of_ble_eq_true rfl) ⟨rfl, hW_1547, ((hF_1327.tr hF_1548).mono rfl), (by decide), (.inr (by first | omega | (simp only [Int32.lt_iff_toInt_lt, Int32.le_iff_toInt_le, Int32.reduceToInt, ← Int32.toInt_inj, true_and, and_true, or_true, true_or, false_or, or_false, false_and, and_false, not_true_eq_false, not_false_eq_true] <;> omega))), (.inr (by first | omega | (simp only [Int32.lt_iff_toInt_lt, Int32.le_iff_toInt_le, Int32.reduceToInt, ← Int32.toInt_inj, true_and, and_true, or_true, true_or, false_or, or_false, false_and, and_false, not_true_eq_false, not_false_eq_true] <;> omega))), (.inr (by first | omega | (simp only [Int32.lt_iff_toInt_lt, Int32.le_iff_toInt_le, Int32.reduceToInt, ← Int32.toInt_inj, true_and, and_true, or_true, true_or, false_or, or_false, false_and, and_false, not_true_eq_false, not_false_eq_true] <;> omega))), (.inr (by first | omega | (simp only [Int32.lt_iff_toInt_lt, Int32.le_iff_toInt_le, Int32.reduceToInt, ← Int32.toInt_inj, true_and, and_true, or_true, true_or, false_or, or_false, false_and, and_false, not_true_eq_false, not_false_eq_true] <;> omega))), (.inr (by first | omega | (simp only [Int32.lt_iff_toInt_lt, Int32.le_iff_toInt_le, Int32.reduceToInt, ← Int32.toInt_inj, true_and, and_true, or_true, true_or, false_or, or_false, false_and, and_false, not_true_eq_false, not_false_eq_true] <;> omega)))⟩
                                · simp only [Int32.lt_iff_toInt_lt, Int32.le_iff_toInt_le, Int32.reduceToInt, ← Int32.toInt_inj] at h_1558
                                  refine v_aload_n hC dX12_paste_157 rfl ?_
                                  refine v_get hC fl_X12_70 m_1 hf_1550 rfl dX12_paste_158 ?_
                                  refine v_bipush hC dX12_paste_161 (v := 60) (by decide) ?_
                                  refine v_iload_n hC dX12_paste_163 rfl ?_
                                  obtain ⟨v_1559, h_1560⟩ : ∃ v9 : Int32, (60 : Int32) * a_3 = v9 := ⟨_, rfl⟩
                                  refine v_imul hC dX12_paste_164 h_1560 ?_
                                  have h_1561 := mul_v 60 3 180 h_1560 (by decide) (by first | omega | (simp only [Int32.lt_iff_toInt_lt, Int32.le_iff_toInt_le, Int32.reduceToInt, ← Int32.toInt_inj, true_and, and_true, or_true, true_or, false_or, or_false, false_and, and_false, not_true_eq_false, not_false_eq_true] <;> omega)) (by decide) (by decide)
                                  try simp only [Int32.reduceToInt] at h_1561
                                  refine v_iload hC dX12_paste_165 rfl ?_
                                  obtain ⟨v_1562, h_1563⟩ : ∃ v9 : Int32, v_1559 + a_4 = v9 := ⟨_, rfl⟩
                                  refine v_iadd hC dX12_paste_167 h_1563 ?_
                                  have h_1564 := add_v h_1563 (by first | omega | (simp only [Int32.lt_iff_toInt_lt, Int32.le_iff_toInt_le, Int32.reduceToInt, ← Int32.toInt_inj, true_and, and_true, or_true, true_or, false_or, or_false, false_and, and_false, not_true_eq_false, not_false_eq_true] <;> omega)) (by first | omega | (simp only [Int32.lt_iff_toInt_lt, Int32.le_iff_toInt_le, Int32.reduceToInt, ← Int32.toInt_inj, true_and, and_true, or_true, true_or, false_or, or_false, false_and, and_false, not_true_eq_false, not_false_eq_true] <;> omega))
                                  refine v_iload hC dX12_paste_168 rfl ?_
                                  obtain ⟨v_1565, h_1566⟩ : ∃ v9 : Int32, v_1562 + i_1545 = v9 := ⟨_, rfl⟩
                                  refine v_iadd hC dX12_paste_170 h_1566 ?_
                                  have h_1567 := add_v h_1566 (by first | omega | (simp only [Int32.lt_iff_toInt_lt, Int32.le_iff_toInt_le, Int32.reduceToInt, ← Int32.toInt_inj, true_and, and_true, or_true, true_or, false_or, or_false, false_and, and_false, not_true_eq_false, not_false_eq_true] <;> omega)) (by first | omega | (simp only [Int32.lt_iff_toInt_lt, Int32.le_iff_toInt_le, Int32.reduceToInt, ← Int32.toInt_inj, true_and, and_true, or_true, true_or, false_or, or_false, false_and, and_false, not_true_eq_false, not_false_eq_true] <;> omega))
                                  refine v_aload_n hC dX12_paste_171 rfl ?_
                                  refine v_get hC fl_X12_74 m_1 hf_1550 rfl dX12_paste_172 ?_
                                  refine v_iload hC dX12_paste_175 rfl ?_
                                  obtain ⟨m_1568, t_1569⟩ := id k_20
                                  obtain ⟨g_1571, e_1570⟩ := hW_1547.at m_1568 t_1569
                                  obtain ⟨v_1572, h_1573⟩ : ∃ v9 : Int64, g_1571 (i_1545 : Int32).toNatClampNeg = v9 := ⟨_, rfl⟩
                                  refine v_lald hC m_1568 e_1570 (vp_in_iff.mpr (by first | omega | (simp only [Int32.lt_iff_toInt_lt, Int32.le_iff_toInt_le, Int32.reduceToInt, ← Int32.toInt_inj, true_and, and_true, or_true, true_or, false_or, or_false, false_and, and_false, not_true_eq_false, not_false_eq_true] <;> omega))) h_1573 dX12_paste_177 ?_
                                  obtain ⟨m_1574, t_1575⟩ := id k_19
                                  obtain ⟨g_1577, e_1576⟩ := hW_1547.at m_1574 t_1575
                                  refine v_last hC m_1574 e_1576 (vp_in_iff.mpr (by first | omega | (simp only [Int32.lt_iff_toInt_lt, Int32.le_iff_toInt_le, Int32.reduceToInt, ← Int32.toInt_inj, true_and, and_true, or_true, true_or, false_or, or_false, false_and, and_false, not_true_eq_false, not_false_eq_true] <;> omega))) dX12_paste_178 (fun f_1578 hf_1579 hk_1580 => ?_)
                                  have hW_1582 := hW_1547.up hf_1579 hk_1580 t_1575 ⟨_, rfl⟩
                                  obtain ⟨g_1581, hf_1579⟩ : ∃ g9, f_1578 (q 27) = aJ E 240 g9 := ⟨_, hf_1579⟩
                                  have hf_1583 := (hk_1580 (q 1) (ne_kd hf_1549 e_1576 rfl)).trans hf_1549
                                  have hf_1584 := (hk_1580 a_0 (ne_kd hf_1550 e_1576 rfl)).trans hf_1550
                                  have hf_1585 := (hk_1580 (q 25) (ne_kd hf_1551 e_1576 rfl)).trans hf_1551
                                  have hf_1586 := (hk_1580 (q 26) (ne_kd hf_1552 e_1576 rfl)).trans hf_1552
                                  have hf_1587 := (hk_1580 (q 28) (ne_kd e_1570 e_1576 rfl)).trans e_1570
                                  have fr_1588 := FR.w hk_1580 e_1576 (k := 340) rfl
                                  obtain ⟨v_1589, h_1590⟩ : ∃ v9 : Int32, i_1545 + Int32.ofInt 1 = v9 := ⟨_, rfl⟩
                                  have h_1591 := add_v (b := 1) h_1590 (by first | omega | (simp only [Int32.lt_iff_toInt_lt, Int32.le_iff_toInt_le, Int32.reduceToInt, ← Int32.toInt_inj, true_and, and_true, or_true, true_or, false_or, or_false, false_and, and_false, not_true_eq_false, not_false_eq_true] <;> omega)) (by first | omega | (simp only [Int32.lt_iff_toInt_lt, Int32.le_iff_toInt_le, Int32.reduceToInt, ← Int32.toInt_inj, true_and, and_true, or_true, true_or, false_or, or_false, false_and, and_false, not_true_eq_false, not_false_eq_true] <;> omega))
                                  simp only [Int32.reduceToInt] at h_1591
                                  refine v_iinc hC dX12_paste_179 (k := 0) rfl (v := v_1589) h_1590 (by decide) (lv' := [(6, .int v_1589), (0, .ref a_0), (3, .int a_3), (4, .int a_4), (5, .int a_5)]) rfl ?_
                                  refine v_goto hC dX12_paste_182 (tgt := 150) (by decide) ?_
                                  refine v_pick [0, 1, 2, 3, 4] rfl ?_
                                  exact ih_1556 f_1578 hW_1582 ((hF_1548.tr fr_1588).mono rfl) v_1589 (by first | omega | (simp only [Int32.lt_iff_toInt_lt, Int32.le_iff_toInt_le, Int32.reduceToInt, ← Int32.toInt_inj, true_and, and_true, or_true, true_or, false_or, or_false, false_and, and_false, not_true_eq_false, not_false_eq_true] <;> omega)) (by first | omega | (simp only [Int32.lt_iff_toInt_lt, Int32.le_iff_toInt_le, Int32.reduceToInt, ← Int32.toInt_inj, true_and, and_true, or_true, true_or, false_or, or_false, false_and, and_false, not_true_eq_false, not_false_eq_true] <;> omega))
                            refine v_pick [0, 1, 4, 5, 6] rfl ?_
                            exact lp_1554 62 f_1325 hW_1326 FR.rf 0 (by decide) (by decide)
                          · simp only [Int32.lt_iff_toInt_lt, Int32.le_iff_toInt_le, Int32.reduceToInt, ← Int32.toInt_inj] at h_1337
                            refine v_aload_n hC dX12_paste_120 rfl ?_
                            refine v_get hC fl_X12_74 m_1 hf_1329 rfl dX12_paste_121 ?_
                            refine v_iload hC dX12_paste_124 rfl ?_
                            refine v_aload_n hC dX12_paste_126 rfl ?_
                            refine v_get hC fl_X12_70 m_1 hf_1329 rfl dX12_paste_127 ?_
                            refine v_bipush hC dX12_paste_130 (v := 60) (by decide) ?_
                            refine v_iload_n hC dX12_paste_132 rfl ?_
                            obtain ⟨v_1592, h_1593⟩ : ∃ v9 : Int32, (60 : Int32) * a_1 = v9 := ⟨_, rfl⟩
                            refine v_imul hC dX12_paste_133 h_1593 ?_
                            have h_1594 := mul_v 60 3 180 h_1593 (by decide) (by first | omega | (simp only [Int32.lt_iff_toInt_lt, Int32.le_iff_toInt_le, Int32.reduceToInt, ← Int32.toInt_inj, true_and, and_true, or_true, true_or, false_or, or_false, false_and, and_false, not_true_eq_false, not_false_eq_true] <;> omega)) (by decide) (by decide)
                            try simp only [Int32.reduceToInt] at h_1594
                            refine v_iload_n hC dX12_paste_134 rfl ?_
                            obtain ⟨v_1595, h_1596⟩ : ∃ v9 : Int32, v_1592 + a_2 = v9 := ⟨_, rfl⟩
                            refine v_iadd hC dX12_paste_135 h_1596 ?_
                            have h_1597 := add_v h_1596 (by first | omega | (simp only [Int32.lt_iff_toInt_lt, Int32.le_iff_toInt_le, Int32.reduceToInt, ← Int32.toInt_inj, true_and, and_true, or_true, true_or, false_or, or_false, false_and, and_false, not_true_eq_false, not_false_eq_true] <;> omega)) (by first | omega | (simp only [Int32.lt_iff_toInt_lt, Int32.le_iff_toInt_le, Int32.reduceToInt, ← Int32.toInt_inj, true_and, and_true, or_true, true_or, false_or, or_false, false_and, and_false, not_true_eq_false, not_false_eq_true] <;> omega))
                            refine v_iload hC dX12_paste_136 rfl ?_
                            obtain ⟨v_1598, h_1599⟩ : ∃ v9 : Int32, v_1595 + i_1324 = v9 := ⟨_, rfl⟩
                            refine v_iadd hC dX12_paste_138 h_1599 ?_
                            have h_1600 := add_v h_1599 (by first | omega | (simp only [Int32.lt_iff_toInt_lt, Int32.le_iff_toInt_le, Int32.reduceToInt, ← Int32.toInt_inj, true_and, and_true, or_true, true_or, false_or, or_false, false_and, and_false, not_true_eq_false, not_false_eq_true] <;> omega)) (by first | omega | (simp only [Int32.lt_iff_toInt_lt, Int32.le_iff_toInt_le, Int32.reduceToInt, ← Int32.toInt_inj, true_and, and_true, or_true, true_or, false_or, or_false, false_and, and_false, not_true_eq_false, not_false_eq_true] <;> omega))
                            obtain ⟨m_1601, t_1602⟩ := id k_19
                            obtain ⟨g_1604, e_1603⟩ := hW_1326.at m_1601 t_1602
                            obtain ⟨v_1605, h_1606⟩ : ∃ v9 : Int64, g_1604 (v_1598 : Int32).toNatClampNeg = v9 := ⟨_, rfl⟩
                            refine v_lald hC m_1601 e_1603 (vp_in_iff.mpr (by first | omega | (simp only [Int32.lt_iff_toInt_lt, Int32.le_iff_toInt_le, Int32.reduceToInt, ← Int32.toInt_inj, true_and, and_true, or_true, true_or, false_or, or_false, false_and, and_false, not_true_eq_false, not_false_eq_true] <;> omega))) h_1606 dX12_paste_139 ?_
                            obtain ⟨m_1607, t_1608⟩ := id k_20
                            obtain ⟨g_1610, e_1609⟩ := hW_1326.at m_1607 t_1608
                            refine v_last hC m_1607 e_1609 (vp_in_iff.mpr (by first | omega | (simp only [Int32.lt_iff_toInt_lt, Int32.le_iff_toInt_le, Int32.reduceToInt, ← Int32.toInt_inj, true_and, and_true, or_true, true_or, false_or, or_false, false_and, and_false, not_true_eq_false, not_false_eq_true] <;> omega))) dX12_paste_140 (fun f_1611 hf_1612 hk_1613 => ?_)
                            have hW_1615 := hW_1326.up hf_1612 hk_1613 t_1608 ⟨_, rfl⟩
                            obtain ⟨g_1614, hf_1612⟩ : ∃ g9, f_1611 (q 28) = aJ E 60 g9 := ⟨_, hf_1612⟩
                            have hf_1616 := (hk_1613 (q 1) (ne_kd hf_1328 e_1609 rfl)).trans hf_1328
                            have hf_1617 := (hk_1613 a_0 (ne_kd hf_1329 e_1609 rfl)).trans hf_1329
                            have hf_1618 := (hk_1613 (q 25) (ne_kd hf_1330 e_1609 rfl)).trans hf_1330
                            have hf_1619 := (hk_1613 (q 26) (ne_kd hf_1331 e_1609 rfl)).trans hf_1331
                            have hf_1620 := (hk_1613 (q 27) (ne_kd e_1603 e_1609 rfl)).trans e_1603
                            have fr_1621 := FR.w hk_1613 e_1609 (k := 160) rfl
                            obtain ⟨v_1622, h_1623⟩ : ∃ v9 : Int32, i_1324 + Int32.ofInt 1 = v9 := ⟨_, rfl⟩
                            have h_1624 := add_v (b := 1) h_1623 (by first | omega | (simp only [Int32.lt_iff_toInt_lt, Int32.le_iff_toInt_le, Int32.reduceToInt, ← Int32.toInt_inj, true_and, and_true, or_true, true_or, false_or, or_false, false_and, and_false, not_true_eq_false, not_false_eq_true] <;> omega)) (by first | omega | (simp only [Int32.lt_iff_toInt_lt, Int32.le_iff_toInt_le, Int32.reduceToInt, ← Int32.toInt_inj, true_and, and_true, or_true, true_or, false_or, or_false, false_and, and_false, not_true_eq_false, not_false_eq_true] <;> omega))
                            simp only [Int32.reduceToInt] at h_1624
                            refine v_iinc hC dX12_paste_141 (k := 0) rfl (v := v_1622) h_1623 (by decide) (lv' := [(6, .int v_1622), (0, .ref a_0), (1, .int a_1), (2, .int a_2), (3, .int a_3), (4, .int a_4), (5, .int a_5)]) rfl ?_
                            refine v_goto hC dX12_paste_144 (tgt := 113) (by decide) ?_
                            refine v_pick [0, 1, 2, 3, 4, 5, 6] rfl ?_
                            exact ih_1335 f_1611 hW_1615 ((hF_1327.tr fr_1621).mono rfl) v_1622 (by first | omega | (simp only [Int32.lt_iff_toInt_lt, Int32.le_iff_toInt_le, Int32.reduceToInt, ← Int32.toInt_inj, true_and, and_true, or_true, true_or, false_or, or_false, false_and, and_false, not_true_eq_false, not_false_eq_true] <;> omega)) (by first | omega | (simp only [Int32.lt_iff_toInt_lt, Int32.le_iff_toInt_le, Int32.reduceToInt, ← Int32.toInt_inj, true_and, and_true, or_true, true_or, false_or, or_false, false_and, and_false, not_true_eq_false, not_false_eq_true] <;> omega))
                      refine v_pick [0, 1, 2, 3, 4, 5, 6] rfl ?_
                      exact lp_1333 62 f hW FR.rf 0 (by decide) (by decide)
                    · rw [← h_123] at h_124
                      have h_126 := (mt lgc_le.mpr h_124)
                      simp only [Int64.lt_iff_toInt_lt, Int64.le_iff_toInt_le] at h_126
                      refine v_bipush hC dX12_paste_107 (v := (-7)) (by decide) ?_
                      exact hR _ _ _ _ _ _ _ dX12_paste_109 rfl (Nat.le_of_ble_eq_true rfl) (Nat.le_of_ble_eq_true rfl) ⟨rfl, hW, FR.rf, (by decide), (.inl (by decide)), (.inl (by decide)), (.inl (by decide)), (.inl (by decide)), (.inl (by decide))⟩
          · simp only [Int32.lt_iff_toInt_lt, Int32.le_iff_toInt_le, Int32.reduceToInt, ← Int32.toInt_inj] at h_83
            refine v_bipush hC dX12_paste_55 (v := (-8)) (by decide) ?_
            exact hR _ _ _ _ _ _ _ dX12_paste_57 rfl (Nat.le_of_ble_eq_true rfl) (Nat.le_of_ble_eq_true rfl) ⟨rfl, hW, FR.rf, (by decide), (.inl (by decide)), (.inl (by decide)), (.inl (by decide)), (.inl (by decide)), (.inl (by decide))⟩
        · simp only [Int32.lt_iff_toInt_lt, Int32.le_iff_toInt_le, Int32.reduceToInt, ← Int32.toInt_inj] at h_74
          refine v_bipush hC dX12_paste_37 (v := (-6)) (by decide) ?_
          exact hR _ _ _ _ _ _ _ dX12_paste_39 rfl (Nat.le_of_ble_eq_true rfl) (Nat.le_of_ble_eq_true rfl) ⟨rfl, hW, FR.rf, (by decide), (.inl (by decide)), (.inl (by decide)), (.inl (by decide)), (.inl (by decide)), (.inl (by decide))⟩
    · simp only [Int32.lt_iff_toInt_lt, Int32.le_iff_toInt_le, Int32.reduceToInt, ← Int32.toInt_inj] at h_42
      refine v_bipush hC dX12_paste_14 (v := (-2)) (by decide) ?_
      exact hR _ _ _ _ _ _ _ dX12_paste_16 rfl (Nat.le_of_ble_eq_true rfl) (Nat.le_of_ble_eq_true rfl) ⟨rfl, hW, FR.rf, (by decide), (.inl (by decide)), (.inl (by decide)), (.inl (by decide)), (.inl (by decide)), (.inl (by decide))⟩
set_option maxRecDepth 100000 in
set_option maxHeartbeats 4000000 in
theorem p_X12_lay {l : Launch} {E : Ez} {L : List Nat} {f : Nat → va_E} {T : Nat → va_E → Prop} {a_0 : Nat} {a_1 : Int32} {a_2 : Int32} {q : Nat → Nat} {g_w : Nat → Int32} (hW : WT T L f) (k_0 : isM T L E a_0 q) (e_w : f (q 1) = aI E 2076 g_w) (o_w : WOK g_w) : CI l yX12_lay cX12_lay 7 .int 3 0 0 E [.ref a_0, .int a_1, .int a_2] L f (fun r L1 f1 => L = L1 ∧ WT T L f1 ∧ FR [356, 2176] f f1 ∧ (¬ r.toInt = 0 ∨ (0 ≤ a_1.toInt ∧ a_1.toInt ≤ 3)) ∧ (¬ r.toInt = 0 ∨ (0 ≤ a_2.toInt ∧ a_2.toInt ≤ 3))) := by
  refine ci_of (by decide) (Nat.le_of_ble_eq_true rfl) (fun z hz hnm hC hR => ?_)
  have hC : Cx z E cX12_lay RX12 7 3 0 0 := hC
  subst hz
  show V z E 7 0 0 L f 0 [(0, .ref a_0), (1, .int a_1), (2, .int a_2)] []
  obtain ⟨m_1, t_2, k_3, k_4, k_5, k_6, k_7, k_8, k_9, k_10, k_11, k_12, k_13, k_14, k_15, k_16, k_17, k_18, k_19, k_20⟩ := id k_0
  obtain ⟨m_21, t_22⟩ := id k_3
  have b_23 := o_w.r0
  have b_24 := o_w.w0
  refine v_iload_n hC dX12_lay_0 rfl ?_
  refine v_si hC (rest := []) mt_X12_isSlot (p_X12_isSlot hW) mx_X12_isSlot ml_X12_425 (by decide) rfl (cells1 := 0) (slots1 := 0) (by decide) (by decide) (Nat.le_of_ble_eq_true rfl) (Nat.le_of_ble_eq_true rfl) rfl (Nat.le_of_ble_eq_true rfl) dX12_lay_1 (fun r_25 L_26 f_27 h_28 => ?_)
  obtain ⟨rfl, rfl, b_29, h_30⟩ := h_28
  refine v_if_eq hC dX12_lay_4 (tgt := 14) (by decide) (fun h_33 => ?_) (fun h_33 => ?_)
  · simp only [Int32.lt_iff_toInt_lt, Int32.le_iff_toInt_le, Int32.reduceToInt, ← Int32.toInt_inj] at h_33
    refine v_bipush hC dX12_lay_14 (v := (-2)) (by decide) ?_
    exact hR _ _ _ _ _ _ _ dX12_lay_16 rfl (Nat.le_of_ble_eq_true rfl) (Nat.le_of_ble_eq_true rfl) ⟨rfl, hW, FR.rf, (.inl (by decide)), (.inl (by decide))⟩
  · simp only [Int32.lt_iff_toInt_lt, Int32.le_iff_toInt_le, Int32.reduceToInt, ← Int32.toInt_inj] at h_33
    refine v_iload_n hC dX12_lay_7 rfl ?_
    refine v_si hC (rest := []) mt_X12_isCloth (p_X12_isCloth hW) mx_X12_isCloth ml_X12_319 (by decide) rfl (cells1 := 0) (slots1 := 0) (by decide) (by decide) (Nat.le_of_ble_eq_true rfl) (Nat.le_of_ble_eq_true rfl) rfl (Nat.le_of_ble_eq_true rfl) dX12_lay_8 (fun r_34 L_35 f_36 h_37 => ?_)
    obtain ⟨rfl, rfl, b_38, h_39⟩ := h_37
    refine v_if_ne hC dX12_lay_11 (tgt := 17) (by decide) (fun h_42 => ?_) (fun h_42 => ?_)
    · simp only [Int32.lt_iff_toInt_lt, Int32.le_iff_toInt_le, Int32.reduceToInt, ← Int32.toInt_inj] at h_42
      refine v_aload_n hC dX12_lay_17 rfl ?_
      obtain ⟨v_44, v_45, v_47, v_49, v_51, v_53, v_55, v_56, v_57, v_58, v_60, e_43, b_46, b_48, b_50, b_52, b_54, b_59, b_61⟩ := hW.at m_1 t_2
      refine v_get hC fl_X12_64 m_1 e_43 rfl dX12_lay_18 ?_
      refine v_iload_n hC dX12_lay_21 rfl ?_
      obtain ⟨m_62, t_63⟩ := id k_17
      obtain ⟨g_65, e_64, ok_66⟩ := hW.at m_62 t_63
      obtain ⟨v_67, h_68⟩ : ∃ v9 : Int32, g_65 (a_1 : Int32).toNatClampNeg = v9 := ⟨_, rfl⟩
      have b_69 := ok_66 (a_1 : Int32).toNatClampNeg (clamp_lt (vp_in_iff.mpr (by first | omega | (simp only [Int32.lt_iff_toInt_lt, Int32.le_iff_toInt_le, Int32.reduceToInt, ← Int32.toInt_inj, true_and, and_true, or_true, true_or, false_or, or_false, false_and, and_false, not_true_eq_false, not_false_eq_true] <;> omega))))
      rw [h_68] at b_69
      refine v_iald hC m_62 e_64 (vp_in_iff.mpr (by first | omega | (simp only [Int32.lt_iff_toInt_lt, Int32.le_iff_toInt_le, Int32.reduceToInt, ← Int32.toInt_inj, true_and, and_true, or_true, true_or, false_or, or_false, false_and, and_false, not_true_eq_false, not_false_eq_true] <;> omega))) h_68 dX12_lay_22 ?_
      refine v_iconst hC dX12_lay_23 (v := (-1)) (by decide) ?_
      refine v_icmp_eq hC dX12_lay_24 (tgt := 35) (by decide) (fun h_70 => ?_) (fun h_70 => ?_)
      · simp only [Int32.lt_iff_toInt_lt, Int32.le_iff_toInt_le, Int32.reduceToInt, ← Int32.toInt_inj] at h_70
        refine v_bipush hC dX12_lay_35 (v := (-6)) (by decide) ?_
        exact hR _ _ _ _ _ _ _ dX12_lay_37 rfl (Nat.le_of_ble_eq_true rfl) (Nat.le_of_ble_eq_true rfl) ⟨rfl, hW, FR.rf, (.inl (by decide)), (.inl (by decide))⟩
      · simp only [Int32.lt_iff_toInt_lt, Int32.le_iff_toInt_le, Int32.reduceToInt, ← Int32.toInt_inj] at h_70
        refine v_aload_n hC dX12_lay_27 rfl ?_
        refine v_iload_n hC dX12_lay_28 rfl ?_
        refine v_vi hC (rest := []) m_1 e_43 rfl mi_X12_isThere ms_X12_isThere (p_X12_isThere hW k_0 (by first | omega | (simp only [Int32.lt_iff_toInt_lt, Int32.le_iff_toInt_le, Int32.reduceToInt, ← Int32.toInt_inj, true_and, and_true, or_true, true_or, false_or, or_false, false_and, and_false, not_true_eq_false, not_false_eq_true] <;> omega)) e_w o_w) mx_X12_isThere ml_X12_351 (by decide) rfl (cells1 := 0) (slots1 := 0) (by decide) (by decide) (Nat.le_of_ble_eq_true rfl) (Nat.le_of_ble_eq_true rfl) rfl (Nat.le_of_ble_eq_true rfl) dX12_lay_29 (fun r_71 L_72 f_73 h_74 => ?_)
        obtain ⟨rfl, rfl, b_75⟩ := h_74
        refine v_if_ne hC dX12_lay_32 (tgt := 38) (by decide) (fun h_78 => ?_) (fun h_78 => ?_)
        · simp only [Int32.lt_iff_toInt_lt, Int32.le_iff_toInt_le, Int32.reduceToInt, ← Int32.toInt_inj] at h_78
          refine v_aload_n hC dX12_lay_38 rfl ?_
          refine v_iload_n hC dX12_lay_39 rfl ?_
          refine v_vv hC (rest := []) m_1 e_43 rfl mi_X12_takes0 ms_X12_takes0 (p_X12_takes0 hW k_0 (by first | omega | (simp only [Int32.lt_iff_toInt_lt, Int32.le_iff_toInt_le, Int32.reduceToInt, ← Int32.toInt_inj, true_and, and_true, or_true, true_or, false_or, or_false, false_and, and_false, not_true_eq_false, not_false_eq_true] <;> omega)) e_w o_w) mx_X12_takes0 ml_X12_363 (by decide) rfl (cells1 := 0) (slots1 := 0) (by decide) (by decide) (Nat.le_of_ble_eq_true rfl) (Nat.le_of_ble_eq_true rfl) rfl (Nat.le_of_ble_eq_true rfl) dX12_lay_40 (fun L_80 f_81 h_82 => ?_)
          obtain ⟨rfl, hW_83, hF_84⟩ := h_82
          have hf_85 := hF_84.at e_w rfl
          have hf_86 := hF_84.at e_43 rfl
          have hf_87 := hF_84.at e_64 rfl
          refine v_iconst hC dX12_lay_43 (v := 0) (by decide) ?_
          refine v_istore_n hC dX12_lay_44 (by decide) (lv' := [(3, .int 0), (0, .ref a_0), (1, .int a_1), (2, .int a_2)]) rfl ?_
          refine v_iconst hC dX12_lay_45 (v := 0) (by decide) ?_
          refine v_istore hC dX12_lay_46 (by decide) (lv' := [(4, .int 0), (3, .int 0), (0, .ref a_0), (1, .int a_1), (2, .int a_2)]) rfl ?_
          refine v_iconst hC dX12_lay_48 (v := 0) (by decide) ?_
          refine v_istore hC dX12_lay_49 (by decide) (lv' := [(5, .int 0), (4, .int 0), (3, .int 0), (0, .ref a_0), (1, .int a_1), (2, .int a_2)]) rfl ?_
          have lp_1379 : ∀ (n_1380 : Nat) (f_1371 : Nat → va_E) (hW_1372 : WT T L f_1371) (hF_1373 : FR [356] f_81 f_1371) (i_1368 : Int32) (b_1377 : (0 ≤ i_1368.toInt ∧ i_1368.toInt ≤ 256)) (i_1369 : Int32) (i_1370 : Int32) (b_1378 : (0 ≤ i_1370.toInt ∧ i_1370.toInt ≤ 60)) (hm_1382 : 256 - i_1368.toInt < (n_1380 : Int)), V z E 7 0 0 L f_1371 51 [(5, .int i_1368), (4, .int i_1369), (3, .int i_1370), (0, .ref a_0), (1, .int a_1), (2, .int a_2)] [] := by
            intro n_1380
            induction n_1380 with
            | zero =>
              intro f_1371 hW_1372 hF_1373 i_1368 b_1377 i_1369 i_1370 b_1378 hm_1382
              have hf_1374 := hF_1373.at hf_85 rfl
              have hf_1375 := hF_1373.at hf_86 rfl
              have hf_1376 := hF_1373.at hf_87 rfl
              exfalso; omega
            | succ n_1380 ih_1381 =>
              intro f_1371 hW_1372 hF_1373 i_1368 b_1377 i_1369 i_1370 b_1378 hm_1382
              have hf_1374 := hF_1373.at hf_85 rfl
              have hf_1375 := hF_1373.at hf_86 rfl
              have hf_1376 := hF_1373.at hf_87 rfl
              refine v_iload hC dX12_lay_51 rfl ?_
              refine v_aload_n hC dX12_lay_53 rfl ?_
              refine v_vi hC (rest := [.int i_1368]) m_1 hf_1375 rfl mi_X12_area ms_X12_area (p_X12_area hW_1372 k_0 hf_1374 o_w) mx_X12_area ml_X12_203 (by decide) rfl (cells1 := 0) (slots1 := 0) (by decide) (by decide) (Nat.le_of_ble_eq_true rfl) (Nat.le_of_ble_eq_true rfl) rfl (Nat.le_of_ble_eq_true rfl) dX12_lay_54 (fun r_1383 L_1384 f_1385 h_1386 => ?_)
              obtain ⟨rfl, rfl, rfl⟩ := h_1386
              have ar_1389 := area_v o_w
              refine v_icmp_ge hC dX12_lay_57 (tgt := 150) (by decide) (fun h_1390 => ?_) (fun h_1390 => ?_)
              · simp only [Int32.lt_iff_toInt_lt, Int32.le_iff_toInt_le, Int32.reduceToInt, ← Int32.toInt_inj] at h_1390
                refine v_aload_n hC dX12_lay_150 rfl ?_
                refine v_iload_n hC dX12_lay_151 rfl ?_
                refine v_vv hC (rest := []) m_1 hf_1375 rfl mi_X12_gives ms_X12_gives (p_X12_gives hW_1372 k_0 (by first | omega | (simp only [Int32.lt_iff_toInt_lt, Int32.le_iff_toInt_le, Int32.reduceToInt, ← Int32.toInt_inj, true_and, and_true, or_true, true_or, false_or, or_false, false_and, and_false, not_true_eq_false, not_false_eq_true] <;> omega)) hf_1374 o_w) mx_X12_gives ml_X12_332 (by decide) rfl (cells1 := 0) (slots1 := 0) (by decide) (by decide) (Nat.le_of_ble_eq_true rfl) (Nat.le_of_ble_eq_true rfl) rfl (Nat.le_of_ble_eq_true rfl) dX12_lay_152 (fun L_1392 f_1393 h_1394 => ?_)
                obtain ⟨rfl, hW_1395, hF_1396⟩ := h_1394
                have hf_1397 := hF_1396.at hf_1375 rfl
                have hf_1398 := hF_1396.at hf_1376 rfl
                refine v_iload hC dX12_lay_155 rfl ?_
                exact hR _ _ _ _ _ _ _ dX12_lay_157 rfl (Nat.le_of_ble_eq_true rfl) (Nat.le_of_ble_eq_true rfl) ⟨rfl, hW_1395, (((hF_84.tr hF_1373).tr hF_1396).mono rfl), (.inr (by first | omega | (simp only [Int32.lt_iff_toInt_lt, Int32.le_iff_toInt_le, Int32.reduceToInt, ← Int32.toInt_inj, true_and, and_true, or_true, true_or, false_or, or_false, false_and, and_false, not_true_eq_false, not_false_eq_true] <;> omega))), (.inr (by first | omega | (simp only [Int32.lt_iff_toInt_lt, Int32.le_iff_toInt_le, Int32.reduceToInt, ← Int32.toInt_inj, true_and, and_true, or_true, true_or, false_or, or_false, false_and, and_false, not_true_eq_false, not_false_eq_true] <;> omega)))⟩
              · simp only [Int32.lt_iff_toInt_lt, Int32.le_iff_toInt_le, Int32.reduceToInt, ← Int32.toInt_inj] at h_1390
                refine v_iload_n hC dX12_lay_60 rfl ?_
                refine v_aload_n hC dX12_lay_61 rfl ?_
                refine v_get hC fl_X12_64 m_1 hf_1375 rfl dX12_lay_62 ?_
                refine v_iload_n hC dX12_lay_65 rfl ?_
                obtain ⟨v_1399, h_1400⟩ : ∃ v9 : Int32, g_65 (a_1 : Int32).toNatClampNeg = v9 := ⟨_, rfl⟩
                have b_1401 := ok_66 (a_1 : Int32).toNatClampNeg (clamp_lt (vp_in_iff.mpr (by first | omega | (simp only [Int32.lt_iff_toInt_lt, Int32.le_iff_toInt_le, Int32.reduceToInt, ← Int32.toInt_inj, true_and, and_true, or_true, true_or, false_or, or_false, false_and, and_false, not_true_eq_false, not_false_eq_true] <;> omega))))
                rw [h_1400] at b_1401
                refine v_iald hC m_62 hf_1376 (vp_in_iff.mpr (by first | omega | (simp only [Int32.lt_iff_toInt_lt, Int32.le_iff_toInt_le, Int32.reduceToInt, ← Int32.toInt_inj, true_and, and_true, or_true, true_or, false_or, or_false, false_and, and_false, not_true_eq_false, not_false_eq_true] <;> omega))) h_1400 dX12_lay_66 ?_
                refine v_icmp_ge hC dX12_lay_67 (tgt := 150) (by decide) (fun h_1402 => ?_) (fun h_1402 => ?_)
                · simp only [Int32.lt_iff_toInt_lt, Int32.le_iff_toInt_le, Int32.reduceToInt, ← Int32.toInt_inj] at h_1402
                  refine v_aload_n hC dX12_lay_150 rfl ?_
                  refine v_iload_n hC dX12_lay_151 rfl ?_
                  refine v_vv hC (rest := []) m_1 hf_1375 rfl mi_X12_gives ms_X12_gives (p_X12_gives hW_1372 k_0 (by first | omega | (simp only [Int32.lt_iff_toInt_lt, Int32.le_iff_toInt_le, Int32.reduceToInt, ← Int32.toInt_inj, true_and, and_true, or_true, true_or, false_or, or_false, false_and, and_false, not_true_eq_false, not_false_eq_true] <;> omega)) hf_1374 o_w) mx_X12_gives ml_X12_332 (by decide) rfl (cells1 := 0) (slots1 := 0) (by decide) (by decide) (Nat.le_of_ble_eq_true rfl) (Nat.le_of_ble_eq_true rfl) rfl (Nat.le_of_ble_eq_true rfl) dX12_lay_152 (fun L_1404 f_1405 h_1406 => ?_)
                  obtain ⟨rfl, hW_1407, hF_1408⟩ := h_1406
                  have hf_1409 := hF_1408.at hf_1375 rfl
                  have hf_1410 := hF_1408.at hf_1376 rfl
                  refine v_iload hC dX12_lay_155 rfl ?_
                  exact hR _ _ _ _ _ _ _ dX12_lay_157 rfl (Nat.le_of_ble_eq_true rfl) (Nat.le_of_ble_eq_true rfl) ⟨rfl, hW_1407, (((hF_84.tr hF_1373).tr hF_1408).mono rfl), (.inr (by first | omega | (simp only [Int32.lt_iff_toInt_lt, Int32.le_iff_toInt_le, Int32.reduceToInt, ← Int32.toInt_inj, true_and, and_true, or_true, true_or, false_or, or_false, false_and, and_false, not_true_eq_false, not_false_eq_true] <;> omega))), (.inr (by first | omega | (simp only [Int32.lt_iff_toInt_lt, Int32.le_iff_toInt_le, Int32.reduceToInt, ← Int32.toInt_inj, true_and, and_true, or_true, true_or, false_or, or_false, false_and, and_false, not_true_eq_false, not_false_eq_true] <;> omega)))⟩
                · simp only [Int32.lt_iff_toInt_lt, Int32.le_iff_toInt_le, Int32.reduceToInt, ← Int32.toInt_inj] at h_1402
                  refine v_aload_n hC dX12_lay_70 rfl ?_
                  refine v_iload hC dX12_lay_71 rfl ?_
                  refine v_vi hC (rest := []) m_1 hf_1375 rfl mi_X12_isFree ms_X12_isFree (p_X12_isFree hW_1372 k_0 (by first | omega | (simp only [Int32.lt_iff_toInt_lt, Int32.le_iff_toInt_le, Int32.reduceToInt, ← Int32.toInt_inj, true_and, and_true, or_true, true_or, false_or, or_false, false_and, and_false, not_true_eq_false, not_false_eq_true] <;> omega)) hf_1374 o_w (by first | omega | (simp only [Int32.lt_iff_toInt_lt, Int32.le_iff_toInt_le, Int32.reduceToInt, ← Int32.toInt_inj, true_and, and_true, or_true, true_or, false_or, or_false, false_and, and_false, not_true_eq_false, not_false_eq_true] <;> omega))) mx_X12_isFree ml_X12_206 (by decide) rfl (cells1 := 0) (slots1 := 0) (by decide) (by decide) (Nat.le_of_ble_eq_true rfl) (Nat.le_of_ble_eq_true rfl) rfl (Nat.le_of_ble_eq_true rfl) dX12_lay_73 (fun r_1411 L_1412 f_1413 h_1414 => ?_)
                  obtain ⟨rfl, rfl, b_1415⟩ := h_1414
                  refine v_if_ne hC dX12_lay_76 (tgt := 82) (by decide) (fun h_1418 => ?_) (fun h_1418 => ?_)
                  · simp only [Int32.lt_iff_toInt_lt, Int32.le_iff_toInt_le, Int32.reduceToInt, ← Int32.toInt_inj] at h_1418
                    refine v_aload_n hC dX12_lay_82 rfl ?_
                    refine v_get hC fl_X12_70 m_1 hf_1375 rfl dX12_lay_83 ?_
                    refine v_bipush hC dX12_lay_86 (v := 60) (by decide) ?_
                    refine v_iload_n hC dX12_lay_88 rfl ?_
                    obtain ⟨v_1419, h_1420⟩ : ∃ v9 : Int32, (60 : Int32) * a_1 = v9 := ⟨_, rfl⟩
                    refine v_imul hC dX12_lay_89 h_1420 ?_
                    have h_1421 := mul_v 60 3 180 h_1420 (by decide) (by first | omega | (simp only [Int32.lt_iff_toInt_lt, Int32.le_iff_toInt_le, Int32.reduceToInt, ← Int32.toInt_inj, true_and, and_true, or_true, true_or, false_or, or_false, false_and, and_false, not_true_eq_false, not_false_eq_true] <;> omega)) (by decide) (by decide)
                    try simp only [Int32.reduceToInt] at h_1421
                    refine v_iload_n hC dX12_lay_90 rfl ?_
                    obtain ⟨v_1422, h_1423⟩ : ∃ v9 : Int32, v_1419 + i_1370 = v9 := ⟨_, rfl⟩
                    refine v_iadd hC dX12_lay_91 h_1423 ?_
                    have h_1424 := add_v h_1423 (by first | omega | (simp only [Int32.lt_iff_toInt_lt, Int32.le_iff_toInt_le, Int32.reduceToInt, ← Int32.toInt_inj, true_and, and_true, or_true, true_or, false_or, or_false, false_and, and_false, not_true_eq_false, not_false_eq_true] <;> omega)) (by first | omega | (simp only [Int32.lt_iff_toInt_lt, Int32.le_iff_toInt_le, Int32.reduceToInt, ← Int32.toInt_inj, true_and, and_true, or_true, true_or, false_or, or_false, false_and, and_false, not_true_eq_false, not_false_eq_true] <;> omega))
                    obtain ⟨m_1425, t_1426⟩ := id k_19
                    obtain ⟨g_1428, e_1427⟩ := hW_1372.at m_1425 t_1426
                    obtain ⟨v_1429, h_1430⟩ : ∃ v9 : Int64, g_1428 (v_1422 : Int32).toNatClampNeg = v9 := ⟨_, rfl⟩
                    refine v_lald hC m_1425 e_1427 (vp_in_iff.mpr (by first | omega | (simp only [Int32.lt_iff_toInt_lt, Int32.le_iff_toInt_le, Int32.reduceToInt, ← Int32.toInt_inj, true_and, and_true, or_true, true_or, false_or, or_false, false_and, and_false, not_true_eq_false, not_false_eq_true] <;> omega))) h_1430 dX12_lay_92 ?_
                    refine v_lconst hC dX12_lay_93 (v := 0) (by decide) ?_
                    obtain ⟨v_1431, h_1432⟩ : ∃ v9 : Int32, lg_cmp (v_1429 : Int64) 0 = v9 := ⟨_, rfl⟩
                    refine v_lcmp hC dX12_lay_94 h_1432 ?_
                    have jn_1443 : ∀ (v_1444 : Int32) (b_1445 : ((-2) ≤ v_1444.toInt ∧ v_1444.toInt ≤ 11)), V z E 7 0 0 L f_1371 108 [(5, .int i_1368), (4, .int i_1369), (3, .int i_1370), (0, .ref a_0), (1, .int a_1), (2, .int a_2)] [.int v_1444] := by
                      intro v_1444 b_1445
                      refine v_istore hC dX12_lay_108 (by decide) (lv' := [(6, .int v_1444), (5, .int i_1368), (4, .int i_1369), (3, .int i_1370), (0, .ref a_0), (1, .int a_1), (2, .int a_2)]) rfl ?_
                      obtain ⟨v_1446, h_1447⟩ : ∃ v9 : Int32, i_1370 + Int32.ofInt 1 = v9 := ⟨_, rfl⟩
                      have h_1448 := add_v (b := 1) h_1447 (by first | omega | (simp only [Int32.lt_iff_toInt_lt, Int32.le_iff_toInt_le, Int32.reduceToInt, ← Int32.toInt_inj, true_and, and_true, or_true, true_or, false_or, or_false, false_and, and_false, not_true_eq_false, not_false_eq_true] <;> omega)) (by first | omega | (simp only [Int32.lt_iff_toInt_lt, Int32.le_iff_toInt_le, Int32.reduceToInt, ← Int32.toInt_inj, true_and, and_true, or_true, true_or, false_or, or_false, false_and, and_false, not_true_eq_false, not_false_eq_true] <;> omega))
                      simp only [Int32.reduceToInt] at h_1448
                      refine v_iinc hC dX12_lay_110 (k := 3) rfl (v := v_1446) h_1447 (by decide) (lv' := [(3, .int v_1446), (6, .int v_1444), (5, .int i_1368), (4, .int i_1369), (0, .ref a_0), (1, .int a_1), (2, .int a_2)]) rfl ?_
                      refine v_iload hC dX12_lay_113 rfl ?_
                      refine v_iload hC dX12_lay_115 rfl ?_
                      refine v_aload_n hC dX12_lay_117 rfl ?_
                      refine v_get hC fl_X12_37 m_1 hf_1375 rfl dX12_lay_118 ?_
                      refine v_iload hC dX12_lay_121 rfl ?_
                      obtain ⟨m_1449, t_1450⟩ := id k_9
                      obtain ⟨g_1452, e_1451⟩ := hW_1372.at m_1449 t_1450
                      obtain ⟨v_1453, h_1454⟩ : ∃ v9 : Int32, g_1452 (i_1368 : Int32).toNatClampNeg = v9 := ⟨_, rfl⟩
                      refine v_iald hC m_1449 e_1451 (vp_in_iff.mpr (by first | omega | (simp only [Int32.lt_iff_toInt_lt, Int32.le_iff_toInt_le, Int32.reduceToInt, ← Int32.toInt_inj, true_and, and_true, or_true, true_or, false_or, or_false, false_and, and_false, not_true_eq_false, not_false_eq_true] <;> omega))) h_1454 dX12_lay_123 ?_
                      refine v_icmp_ne hC dX12_lay_124 (tgt := 131) (by decide) (fun h_1455 => ?_) (fun h_1455 => ?_)
                      · simp only [Int32.lt_iff_toInt_lt, Int32.le_iff_toInt_le, Int32.reduceToInt, ← Int32.toInt_inj] at h_1455
                        refine v_iconst hC dX12_lay_131 (v := 1) (by decide) ?_
                        obtain ⟨v_1456, h_1457⟩ : ∃ v9 : Int32, i_1369 + 1 = v9 := ⟨_, rfl⟩
                        refine v_iadd hC dX12_lay_132 h_1457 ?_
                        refine v_istore hC dX12_lay_133 (by decide) (lv' := [(4, .int v_1456), (3, .int v_1446), (6, .int v_1444), (5, .int i_1368), (0, .ref a_0), (1, .int a_1), (2, .int a_2)]) rfl ?_
                        refine v_aload_n hC dX12_lay_135 rfl ?_
                        refine v_get hC fl_X12_37 m_1 hf_1375 rfl dX12_lay_136 ?_
                        refine v_iload hC dX12_lay_139 rfl ?_
                        refine v_iload hC dX12_lay_141 rfl ?_
                        refine v_iast hC m_1449 e_1451 (vp_in_iff.mpr (by first | omega | (simp only [Int32.lt_iff_toInt_lt, Int32.le_iff_toInt_le, Int32.reduceToInt, ← Int32.toInt_inj, true_and, and_true, or_true, true_or, false_or, or_false, false_and, and_false, not_true_eq_false, not_false_eq_true] <;> omega))) dX12_lay_143 (fun f_1459 hf_1460 hk_1461 => ?_)
                        have hW_1463 := hW_1372.up hf_1460 hk_1461 t_1450 ⟨_, rfl⟩
                        obtain ⟨g_1462, hf_1460⟩ : ∃ g9, f_1459 (q 15) = aI E 256 g9 := ⟨_, hf_1460⟩
                        have hf_1464 := (hk_1461 (q 1) (ne_kd hf_1374 e_1451 rfl)).trans hf_1374
                        have hf_1465 := (hk_1461 a_0 (ne_kd hf_1375 e_1451 rfl)).trans hf_1375
                        have hf_1466 := (hk_1461 (q 25) (ne_kd hf_1376 e_1451 rfl)).trans hf_1376
                        have hf_1467 := (hk_1461 (q 27) (ne_kd e_1427 e_1451 rfl)).trans e_1427
                        have fr_1468 := FR.w hk_1461 e_1451 (k := 356) rfl
                        obtain ⟨v_1469, h_1470⟩ : ∃ v9 : Int32, i_1368 + Int32.ofInt 1 = v9 := ⟨_, rfl⟩
                        have h_1471 := add_v (b := 1) h_1470 (by first | omega | (simp only [Int32.lt_iff_toInt_lt, Int32.le_iff_toInt_le, Int32.reduceToInt, ← Int32.toInt_inj, true_and, and_true, or_true, true_or, false_or, or_false, false_and, and_false, not_true_eq_false, not_false_eq_true] <;> omega)) (by first | omega | (simp only [Int32.lt_iff_toInt_lt, Int32.le_iff_toInt_le, Int32.reduceToInt, ← Int32.toInt_inj, true_and, and_true, or_true, true_or, false_or, or_false, false_and, and_false, not_true_eq_false, not_false_eq_true] <;> omega))
                        simp only [Int32.reduceToInt] at h_1471
                        refine v_iinc hC dX12_lay_144 (k := 3) rfl (v := v_1469) h_1470 (by decide) (lv' := [(5, .int v_1469), (4, .int v_1456), (3, .int v_1446), (6, .int v_1444), (0, .ref a_0), (1, .int a_1), (2, .int a_2)]) rfl ?_
                        refine v_goto hC dX12_lay_147 (tgt := 51) (by decide) ?_
                        refine v_pick [0, 1, 2, 4, 5, 6] rfl ?_
                        exact ih_1381 f_1459 hW_1463 ((hF_1373.tr fr_1468).mono rfl) v_1469 (by first | omega | (simp only [Int32.lt_iff_toInt_lt, Int32.le_iff_toInt_le, Int32.reduceToInt, ← Int32.toInt_inj, true_and, and_true, or_true, true_or, false_or, or_false, false_and, and_false, not_true_eq_false, not_false_eq_true] <;> omega)) v_1456 v_1446 (by first | omega | (simp only [Int32.lt_iff_toInt_lt, Int32.le_iff_toInt_le, Int32.reduceToInt, ← Int32.toInt_inj, true_and, and_true, or_true, true_or, false_or, or_false, false_and, and_false, not_true_eq_false, not_false_eq_true] <;> omega)) (by first | omega | (simp only [Int32.lt_iff_toInt_lt, Int32.le_iff_toInt_le, Int32.reduceToInt, ← Int32.toInt_inj, true_and, and_true, or_true, true_or, false_or, or_false, false_and, and_false, not_true_eq_false, not_false_eq_true] <;> omega))
                      · simp only [Int32.lt_iff_toInt_lt, Int32.le_iff_toInt_le, Int32.reduceToInt, ← Int32.toInt_inj] at h_1455
                        refine v_iconst hC dX12_lay_127 (v := 0) (by decide) ?_
                        refine v_goto hC dX12_lay_128 (tgt := 132) (by decide) ?_
                        obtain ⟨v_1472, h_1473⟩ : ∃ v9 : Int32, i_1369 + 0 = v9 := ⟨_, rfl⟩
                        refine v_iadd hC dX12_lay_132 h_1473 ?_
                        have rg_1475 := Int32.toInt_lt i_1369
                        have rg_1476 := Int32.le_toInt i_1369
                        have h_1474 := add_v h_1473 (by first | omega | (simp only [Int32.lt_iff_toInt_lt, Int32.le_iff_toInt_le, Int32.reduceToInt, ← Int32.toInt_inj, true_and, and_true, or_true, true_or, false_or, or_false, false_and, and_false, not_true_eq_false, not_false_eq_true] <;> omega)) (by first | omega | (simp only [Int32.lt_iff_toInt_lt, Int32.le_iff_toInt_le, Int32.reduceToInt, ← Int32.toInt_inj, true_and, and_true, or_true, true_or, false_or, or_false, false_and, and_false, not_true_eq_false, not_false_eq_true] <;> omega))
                        try simp only [Int32.reduceToInt] at h_1474
                        refine v_istore hC dX12_lay_133 (by decide) (lv' := [(4, .int v_1472), (3, .int v_1446), (6, .int v_1444), (5, .int i_1368), (0, .ref a_0), (1, .int a_1), (2, .int a_2)]) rfl ?_
                        refine v_aload_n hC dX12_lay_135 rfl ?_
                        refine v_get hC fl_X12_37 m_1 hf_1375 rfl dX12_lay_136 ?_
                        refine v_iload hC dX12_lay_139 rfl ?_
                        refine v_iload hC dX12_lay_141 rfl ?_
                        refine v_iast hC m_1449 e_1451 (vp_in_iff.mpr (by first | omega | (simp only [Int32.lt_iff_toInt_lt, Int32.le_iff_toInt_le, Int32.reduceToInt, ← Int32.toInt_inj, true_and, and_true, or_true, true_or, false_or, or_false, false_and, and_false, not_true_eq_false, not_false_eq_true] <;> omega))) dX12_lay_143 (fun f_1477 hf_1478 hk_1479 => ?_)
                        have hW_1481 := hW_1372.up hf_1478 hk_1479 t_1450 ⟨_, rfl⟩
                        obtain ⟨g_1480, hf_1478⟩ : ∃ g9, f_1477 (q 15) = aI E 256 g9 := ⟨_, hf_1478⟩
                        have hf_1482 := (hk_1479 (q 1) (ne_kd hf_1374 e_1451 rfl)).trans hf_1374
                        have hf_1483 := (hk_1479 a_0 (ne_kd hf_1375 e_1451 rfl)).trans hf_1375
                        have hf_1484 := (hk_1479 (q 25) (ne_kd hf_1376 e_1451 rfl)).trans hf_1376
                        have hf_1485 := (hk_1479 (q 27) (ne_kd e_1427 e_1451 rfl)).trans e_1427
                        have fr_1486 := FR.w hk_1479 e_1451 (k := 356) rfl
                        obtain ⟨v_1487, h_1488⟩ : ∃ v9 : Int32, i_1368 + Int32.ofInt 1 = v9 := ⟨_, rfl⟩
                        have h_1489 := add_v (b := 1) h_1488 (by first | omega | (simp only [Int32.lt_iff_toInt_lt, Int32.le_iff_toInt_le, Int32.reduceToInt, ← Int32.toInt_inj, true_and, and_true, or_true, true_or, false_or, or_false, false_and, and_false, not_true_eq_false, not_false_eq_true] <;> omega)) (by first | omega | (simp only [Int32.lt_iff_toInt_lt, Int32.le_iff_toInt_le, Int32.reduceToInt, ← Int32.toInt_inj, true_and, and_true, or_true, true_or, false_or, or_false, false_and, and_false, not_true_eq_false, not_false_eq_true] <;> omega))
                        simp only [Int32.reduceToInt] at h_1489
                        refine v_iinc hC dX12_lay_144 (k := 3) rfl (v := v_1487) h_1488 (by decide) (lv' := [(5, .int v_1487), (4, .int v_1472), (3, .int v_1446), (6, .int v_1444), (0, .ref a_0), (1, .int a_1), (2, .int a_2)]) rfl ?_
                        refine v_goto hC dX12_lay_147 (tgt := 51) (by decide) ?_
                        refine v_pick [0, 1, 2, 4, 5, 6] rfl ?_
                        exact ih_1381 f_1477 hW_1481 ((hF_1373.tr fr_1486).mono rfl) v_1487 (by first | omega | (simp only [Int32.lt_iff_toInt_lt, Int32.le_iff_toInt_le, Int32.reduceToInt, ← Int32.toInt_inj, true_and, and_true, or_true, true_or, false_or, or_false, false_and, and_false, not_true_eq_false, not_false_eq_true] <;> omega)) v_1472 v_1446 (by first | omega | (simp only [Int32.lt_iff_toInt_lt, Int32.le_iff_toInt_le, Int32.reduceToInt, ← Int32.toInt_inj, true_and, and_true, or_true, true_or, false_or, or_false, false_and, and_false, not_true_eq_false, not_false_eq_true] <;> omega)) (by first | omega | (simp only [Int32.lt_iff_toInt_lt, Int32.le_iff_toInt_le, Int32.reduceToInt, ← Int32.toInt_inj, true_and, and_true, or_true, true_or, false_or, or_false, false_and, and_false, not_true_eq_false, not_false_eq_true] <;> omega))
                    refine v_if_ne hC dX12_lay_95 (tgt := 102) (by decide) (fun h_1433 => ?_) (fun h_1433 => ?_)
                    · have h_1434 := h_1433
                      refine v_aload_n hC dX12_lay_102 rfl ?_
                      refine v_iload hC dX12_lay_103 rfl ?_
                      refine v_vi hC (rest := []) m_1 hf_1375 rfl mi_X12_turnedOf ms_X12_turnedOf (p_X12_turnedOf hW_1372 k_0 (by first | omega | (simp only [Int32.lt_iff_toInt_lt, Int32.le_iff_toInt_le, Int32.reduceToInt, ← Int32.toInt_inj, true_and, and_true, or_true, true_or, false_or, or_false, false_and, and_false, not_true_eq_false, not_false_eq_true] <;> omega)) hf_1374 o_w (by first | omega | (simp only [Int32.lt_iff_toInt_lt, Int32.le_iff_toInt_le, Int32.reduceToInt, ← Int32.toInt_inj, true_and, and_true, or_true, true_or, false_or, or_false, false_and, and_false, not_true_eq_false, not_false_eq_true] <;> omega))) mx_X12_turnedOf ml_X12_314 (by decide) rfl (cells1 := 0) (slots1 := 0) (by decide) (by decide) (Nat.le_of_ble_eq_true rfl) (Nat.le_of_ble_eq_true rfl) rfl (Nat.le_of_ble_eq_true rfl) dX12_lay_105 (fun r_1490 L_1491 f_1492 h_1493 => ?_)
                      obtain ⟨rfl, rfl, b_1494⟩ := h_1493
                      refine v_pick [0, 1, 2, 3, 4, 5] rfl ?_
                      exact jn_1443 r_1490 (by first | omega | (simp only [Int32.lt_iff_toInt_lt, Int32.le_iff_toInt_le, Int32.reduceToInt, ← Int32.toInt_inj, true_and, and_true, or_true, true_or, false_or, or_false, false_and, and_false, not_true_eq_false, not_false_eq_true] <;> omega))
                    · have h_1435 := h_1433
                      refine v_iconst hC dX12_lay_98 (v := 0) (by decide) ?_
                      refine v_goto hC dX12_lay_99 (tgt := 108) (by decide) ?_
                      refine v_pick [0, 1, 2, 3, 4, 5] rfl ?_
                      exact jn_1443 0 (by decide)
                  · simp only [Int32.lt_iff_toInt_lt, Int32.le_iff_toInt_le, Int32.reduceToInt, ← Int32.toInt_inj] at h_1418
                    refine v_goto hC dX12_lay_79 (tgt := 144) (by decide) ?_
                    obtain ⟨v_1497, h_1498⟩ : ∃ v9 : Int32, i_1368 + Int32.ofInt 1 = v9 := ⟨_, rfl⟩
                    have h_1499 := add_v (b := 1) h_1498 (by first | omega | (simp only [Int32.lt_iff_toInt_lt, Int32.le_iff_toInt_le, Int32.reduceToInt, ← Int32.toInt_inj, true_and, and_true, or_true, true_or, false_or, or_false, false_and, and_false, not_true_eq_false, not_false_eq_true] <;> omega)) (by first | omega | (simp only [Int32.lt_iff_toInt_lt, Int32.le_iff_toInt_le, Int32.reduceToInt, ← Int32.toInt_inj, true_and, and_true, or_true, true_or, false_or, or_false, false_and, and_false, not_true_eq_false, not_false_eq_true] <;> omega))
                    simp only [Int32.reduceToInt] at h_1499
                    refine v_iinc hC dX12_lay_144 (k := 0) rfl (v := v_1497) h_1498 (by decide) (lv' := [(5, .int v_1497), (4, .int i_1369), (3, .int i_1370), (0, .ref a_0), (1, .int a_1), (2, .int a_2)]) rfl ?_
                    refine v_goto hC dX12_lay_147 (tgt := 51) (by decide) ?_
                    refine v_pick [0, 1, 2, 3, 4, 5] rfl ?_
                    exact ih_1381 f_1371 hW_1372 (hF_1373.mono rfl) v_1497 (by first | omega | (simp only [Int32.lt_iff_toInt_lt, Int32.le_iff_toInt_le, Int32.reduceToInt, ← Int32.toInt_inj, true_and, and_true, or_true, true_or, false_or, or_false, false_and, and_false, not_true_eq_false, not_false_eq_true] <;> omega)) i_1369 i_1370 (by first | omega | (simp only [Int32.lt_iff_toInt_lt, Int32.le_iff_toInt_le, Int32.reduceToInt, ← Int32.toInt_inj, true_and, and_true, or_true, true_or, false_or, or_false, false_and, and_false, not_true_eq_false, not_false_eq_true] <;> omega)) (by first | omega | (simp only [Int32.lt_iff_toInt_lt, Int32.le_iff_toInt_le, Int32.reduceToInt, ← Int32.toInt_inj, true_and, and_true, or_true, true_or, false_or, or_false, false_and, and_false, not_true_eq_false, not_false_eq_true] <;> omega))
          refine v_pick [0, 1, 2, 3, 4, 5] rfl ?_
          exact lp_1379 258 f_81 hW_83 FR.rf 0 (by decide) 0 0 (by decide) (by decide)
        · simp only [Int32.lt_iff_toInt_lt, Int32.le_iff_toInt_le, Int32.reduceToInt, ← Int32.toInt_inj] at h_78
          refine v_bipush hC dX12_lay_35 (v := (-6)) (by decide) ?_
          exact hR _ _ _ _ _ _ _ dX12_lay_37 rfl (Nat.le_of_ble_eq_true rfl) (Nat.le_of_ble_eq_true rfl) ⟨rfl, hW, FR.rf, (.inl (by decide)), (.inl (by decide))⟩
    · simp only [Int32.lt_iff_toInt_lt, Int32.le_iff_toInt_le, Int32.reduceToInt, ← Int32.toInt_inj] at h_42
      refine v_bipush hC dX12_lay_14 (v := (-2)) (by decide) ?_
      exact hR _ _ _ _ _ _ _ dX12_lay_16 rfl (Nat.le_of_ble_eq_true rfl) (Nat.le_of_ble_eq_true rfl) ⟨rfl, hW, FR.rf, (.inl (by decide)), (.inl (by decide))⟩
set_option maxRecDepth 100000 in
set_option maxHeartbeats 4000000 in
theorem p_X12_back {l : Launch} {E : Ez} {L : List Nat} {f : Nat → va_E} {T : Nat → va_E → Prop} {a_0 : Nat} {a_1 : Int32} {q : Nat → Nat} {g_w : Nat → Int32} (hW : WT T L f) (k_0 : isM T L E a_0 q) (e_w : f (q 1) = aI E 2076 g_w) (o_w : WOK g_w) : CI l yX12_back cX12_back 3 .int 1 0 0 E [.ref a_0, .int a_1] L f (fun r L1 f1 => L = L1 ∧ WT T L f1 ∧ FR [2176] f f1 ∧ ((-6) ≤ r.toInt ∧ r.toInt ≤ 0) ∧ (¬ r.toInt = 0 ∨ (0 ≤ a_1.toInt ∧ a_1.toInt ≤ 2))) := by
  refine ci_of (by decide) (Nat.le_of_ble_eq_true rfl) (fun z hz hnm hC hR => ?_)
  have hC : Cx z E cX12_back RX12 3 1 0 0 := hC
  subst hz
  show V z E 3 0 0 L f 0 [(0, .ref a_0), (1, .int a_1)] []
  obtain ⟨m_1, t_2, k_3, k_4, k_5, k_6, k_7, k_8, k_9, k_10, k_11, k_12, k_13, k_14, k_15, k_16, k_17, k_18, k_19, k_20⟩ := id k_0
  obtain ⟨m_21, t_22⟩ := id k_3
  have b_23 := o_w.r0
  have b_24 := o_w.w0
  refine v_iload_n hC dX12_back_0 rfl ?_
  obtain ⟨v_25, h_26⟩ : ∃ v9 : Int64, a_1.toInt64 = v9 := ⟨_, rfl⟩
  refine v_i2l hC dX12_back_1 h_26 ?_
  have h_27 : v_25.toInt = a_1.toInt := by rw [← h_26]; exact Int32.toInt_toInt64 _
  refine v_lconst hC dX12_back_2 (v := 0) (by decide) ?_
  refine v_ldc2 hC kl_X12_77 dX12_back_3 ?_
  refine v_si hC (rest := []) mt_X12_in (p_X12_in hW) mx_X12_in ml_X12_79 (by decide) rfl (cells1 := 0) (slots1 := 0) (by decide) (by decide) (Nat.le_of_ble_eq_true rfl) (Nat.le_of_ble_eq_true rfl) rfl (Nat.le_of_ble_eq_true rfl) dX12_back_6 (fun r_28 L_29 f_30 h_31 => ?_)
  obtain ⟨rfl, rfl, b_32, x_33⟩ := h_31
  try simp only [Int32.reduceToInt, Int64.reduceToInt] at x_33
  refine v_if_ne hC dX12_back_9 (tgt := 15) (by decide) (fun h_36 => ?_) (fun h_36 => ?_)
  · simp only [Int32.lt_iff_toInt_lt, Int32.le_iff_toInt_le, Int32.reduceToInt, ← Int32.toInt_inj] at h_36
    refine v_aload_n hC dX12_back_15 rfl ?_
    obtain ⟨v_38, v_39, v_41, v_43, v_45, v_47, v_49, v_50, v_51, v_52, v_54, e_37, b_40, b_42, b_44, b_46, b_48, b_53, b_55⟩ := hW.at m_1 t_2
    refine v_get hC fl_X12_20 m_1 e_37 rfl dX12_back_16 ?_
    refine v_iload_n hC dX12_back_19 rfl ?_
    obtain ⟨m_56, t_57⟩ := id k_5
    obtain ⟨g_59, e_58⟩ := hW.at m_56 t_57
    obtain ⟨v_60, h_61⟩ : ∃ v9 : Int32, g_59 (a_1 : Int32).toNatClampNeg = v9 := ⟨_, rfl⟩
    refine v_zald hC m_56 e_58 (vp_in_iff.mpr (by first | omega | (simp only [Int32.lt_iff_toInt_lt, Int32.le_iff_toInt_le, Int32.reduceToInt, ← Int32.toInt_inj, true_and, and_true, or_true, true_or, false_or, or_false, false_and, and_false, not_true_eq_false, not_false_eq_true] <;> omega))) h_61 dX12_back_20 ?_
    refine v_if_ne hC dX12_back_21 (tgt := 27) (by decide) (fun h_62 => ?_) (fun h_62 => ?_)
    · simp only [Int32.lt_iff_toInt_lt, Int32.le_iff_toInt_le, Int32.reduceToInt, ← Int32.toInt_inj] at h_62
      refine v_iconst hC dX12_back_27 (v := 0) (by decide) ?_
      refine v_istore_n hC dX12_back_28 (by decide) (lv' := [(2, .int 0), (0, .ref a_0), (1, .int a_1)]) rfl ?_
      have lp_236 : ∀ (n_237 : Nat) (f_230 : Nat → va_E) (hW_231 : WT T L f_230) (hF_232 : FR [2176] f f_230) (i_229 : Int32) (b_235 : (0 ≤ i_229.toInt ∧ i_229.toInt ≤ 2076)) (hm_239 : 2076 - i_229.toInt < (n_237 : Int)), V z E 3 0 0 L f_230 29 [(2, .int i_229), (0, .ref a_0), (1, .int a_1)] [] := by
        intro n_237
        induction n_237 with
        | zero =>
          intro f_230 hW_231 hF_232 i_229 b_235 hm_239
          have hf_233 := hF_232.at e_37 rfl
          have hf_234 := hF_232.at e_58 rfl
          exfalso; omega
        | succ n_237 ih_238 =>
          intro f_230 hW_231 hF_232 i_229 b_235 hm_239
          have hf_233 := hF_232.at e_37 rfl
          have hf_234 := hF_232.at e_58 rfl
          refine v_iload_n hC dX12_back_29 rfl ?_
          refine v_sipush hC dX12_back_30 (v := 2076) (by decide) ?_
          refine v_icmp_ge hC dX12_back_33 (tgt := 60) (by decide) (fun h_240 => ?_) (fun h_240 => ?_)
          · simp only [Int32.lt_iff_toInt_lt, Int32.le_iff_toInt_le, Int32.reduceToInt, ← Int32.toInt_inj] at h_240
            refine v_iconst hC dX12_back_60 (v := 0) (by decide) ?_
            exact hR _ _ _ _ _ _ _ dX12_back_61 rfl (Nat.le_of_ble_eq_true rfl) (Nat.le_of_ble_eq_true rfl) ⟨rfl, hW_231, (hF_232.mono rfl), (by decide), (.inr (by first | omega | (simp only [Int32.lt_iff_toInt_lt, Int32.le_iff_toInt_le, Int32.reduceToInt, ← Int32.toInt_inj, true_and, and_true, or_true, true_or, false_or, or_false, false_and, and_false, not_true_eq_false, not_false_eq_true] <;> omega)))⟩
          · simp only [Int32.lt_iff_toInt_lt, Int32.le_iff_toInt_le, Int32.reduceToInt, ← Int32.toInt_inj] at h_240
            refine v_aload_n hC dX12_back_36 rfl ?_
            refine v_get hC fl_X12_13 m_1 hf_233 rfl dX12_back_37 ?_
            refine v_iload_n hC dX12_back_40 rfl ?_
            refine v_aload_n hC dX12_back_41 rfl ?_
            refine v_get hC fl_X12_17 m_1 hf_233 rfl dX12_back_42 ?_
            refine v_sipush hC dX12_back_45 (v := 2076) (by decide) ?_
            refine v_iload_n hC dX12_back_48 rfl ?_
            obtain ⟨v_241, h_242⟩ : ∃ v9 : Int32, (2076 : Int32) * a_1 = v9 := ⟨_, rfl⟩
            refine v_imul hC dX12_back_49 h_242 ?_
            have h_243 := mul_v 2076 2 4152 h_242 (by decide) (by first | omega | (simp only [Int32.lt_iff_toInt_lt, Int32.le_iff_toInt_le, Int32.reduceToInt, ← Int32.toInt_inj, true_and, and_true, or_true, true_or, false_or, or_false, false_and, and_false, not_true_eq_false, not_false_eq_true] <;> omega)) (by decide) (by decide)
            try simp only [Int32.reduceToInt] at h_243
            refine v_iload_n hC dX12_back_50 rfl ?_
            obtain ⟨v_244, h_245⟩ : ∃ v9 : Int32, v_241 + i_229 = v9 := ⟨_, rfl⟩
            refine v_iadd hC dX12_back_51 h_245 ?_
            have h_246 := add_v h_245 (by first | omega | (simp only [Int32.lt_iff_toInt_lt, Int32.le_iff_toInt_le, Int32.reduceToInt, ← Int32.toInt_inj, true_and, and_true, or_true, true_or, false_or, or_false, false_and, and_false, not_true_eq_false, not_false_eq_true] <;> omega)) (by first | omega | (simp only [Int32.lt_iff_toInt_lt, Int32.le_iff_toInt_le, Int32.reduceToInt, ← Int32.toInt_inj, true_and, and_true, or_true, true_or, false_or, or_false, false_and, and_false, not_true_eq_false, not_false_eq_true] <;> omega))
            obtain ⟨m_247, t_248⟩ := id k_4
            obtain ⟨g_250, e_249, ok_251⟩ := hW_231.at m_247 t_248
            obtain ⟨v_252, h_253⟩ : ∃ v9 : Int32, g_250 (v_244 : Int32).toNatClampNeg = v9 := ⟨_, rfl⟩
            refine v_iald hC m_247 e_249 (vp_in_iff.mpr (by first | omega | (simp only [Int32.lt_iff_toInt_lt, Int32.le_iff_toInt_le, Int32.reduceToInt, ← Int32.toInt_inj, true_and, and_true, or_true, true_or, false_or, or_false, false_and, and_false, not_true_eq_false, not_false_eq_true] <;> omega))) h_253 dX12_back_52 ?_
            obtain ⟨g_255, e_254, ok_256⟩ := hW_231.at m_21 t_22
            have b_257 := ok_256.r0
            have b_258 := ok_256.w0
            refine v_iast hC m_21 e_254 (vp_in_iff.mpr (by first | omega | (simp only [Int32.lt_iff_toInt_lt, Int32.le_iff_toInt_le, Int32.reduceToInt, ← Int32.toInt_inj, true_and, and_true, or_true, true_or, false_or, or_false, false_and, and_false, not_true_eq_false, not_false_eq_true] <;> omega))) dX12_back_53 (fun f_259 hf_260 hk_261 => ?_)
            have hW_263 := hW_231.up hf_260 hk_261 t_22 ⟨_, rfl, (ok_256.hi (by first | omega | (simp only [Int32.lt_iff_toInt_lt, Int32.le_iff_toInt_le, Int32.reduceToInt, ← Int32.toInt_inj, true_and, and_true, or_true, true_or, false_or, or_false, false_and, and_false, not_true_eq_false, not_false_eq_true] <;> omega)))⟩
            obtain ⟨g_262, hf_260, ok_264, eg_265⟩ : ∃ g9, f_259 (q 1) = aI E 2076 g9 ∧ WOK g9 ∧ g9 = upd g_255 (i_229 : Int32).toNatClampNeg v_252 := ⟨_, hf_260, (ok_256.hi (by first | omega | (simp only [Int32.lt_iff_toInt_lt, Int32.le_iff_toInt_le, Int32.reduceToInt, ← Int32.toInt_inj, true_and, and_true, or_true, true_or, false_or, or_false, false_and, and_false, not_true_eq_false, not_false_eq_true] <;> omega))), rfl⟩
            have b_266 := ok_264.r0
            have b_267 := ok_264.w0
            have hf_268 := (hk_261 a_0 (ne_kd hf_233 e_254 rfl)).trans hf_233
            have hf_269 := (hk_261 (q 3) (ne_kd hf_234 e_254 rfl)).trans hf_234
            have hf_270 := (hk_261 (q 2) (ne_kd e_249 e_254 rfl)).trans e_249
            have fr_271 := FR.w hk_261 e_254 (k := 2176) rfl
            obtain ⟨v_272, h_273⟩ : ∃ v9 : Int32, i_229 + Int32.ofInt 1 = v9 := ⟨_, rfl⟩
            have h_274 := add_v (b := 1) h_273 (by first | omega | (simp only [Int32.lt_iff_toInt_lt, Int32.le_iff_toInt_le, Int32.reduceToInt, ← Int32.toInt_inj, true_and, and_true, or_true, true_or, false_or, or_false, false_and, and_false, not_true_eq_false, not_false_eq_true] <;> omega)) (by first | omega | (simp only [Int32.lt_iff_toInt_lt, Int32.le_iff_toInt_le, Int32.reduceToInt, ← Int32.toInt_inj, true_and, and_true, or_true, true_or, false_or, or_false, false_and, and_false, not_true_eq_false, not_false_eq_true] <;> omega))
            simp only [Int32.reduceToInt] at h_274
            refine v_iinc hC dX12_back_54 (k := 0) rfl (v := v_272) h_273 (by decide) (lv' := [(2, .int v_272), (0, .ref a_0), (1, .int a_1)]) rfl ?_
            refine v_goto hC dX12_back_57 (tgt := 29) (by decide) ?_
            refine v_pick [0, 1, 2] rfl ?_
            exact ih_238 f_259 hW_263 ((hF_232.tr fr_271).mono rfl) v_272 (by first | omega | (simp only [Int32.lt_iff_toInt_lt, Int32.le_iff_toInt_le, Int32.reduceToInt, ← Int32.toInt_inj, true_and, and_true, or_true, true_or, false_or, or_false, false_and, and_false, not_true_eq_false, not_false_eq_true] <;> omega)) (by first | omega | (simp only [Int32.lt_iff_toInt_lt, Int32.le_iff_toInt_le, Int32.reduceToInt, ← Int32.toInt_inj, true_and, and_true, or_true, true_or, false_or, or_false, false_and, and_false, not_true_eq_false, not_false_eq_true] <;> omega))
      refine v_pick [0, 1, 2] rfl ?_
      exact lp_236 2078 f hW FR.rf 0 (by decide) (by decide)
    · simp only [Int32.lt_iff_toInt_lt, Int32.le_iff_toInt_le, Int32.reduceToInt, ← Int32.toInt_inj] at h_62
      refine v_bipush hC dX12_back_24 (v := (-6)) (by decide) ?_
      exact hR _ _ _ _ _ _ _ dX12_back_26 rfl (Nat.le_of_ble_eq_true rfl) (Nat.le_of_ble_eq_true rfl) ⟨rfl, hW, FR.rf, (by decide), (.inl (by decide))⟩
  · simp only [Int32.lt_iff_toInt_lt, Int32.le_iff_toInt_le, Int32.reduceToInt, ← Int32.toInt_inj] at h_36
    refine v_bipush hC dX12_back_12 (v := (-2)) (by decide) ?_
    exact hR _ _ _ _ _ _ _ dX12_back_14 rfl (Nat.le_of_ble_eq_true rfl) (Nat.le_of_ble_eq_true rfl) ⟨rfl, hW, FR.rf, (by decide), (.inl (by decide))⟩
